set_option maxHeartbeats 4000000 in
theorem law_ask {pp : Program} {l : Launch} {ee : Env} {ss : State} {mm : MethodId} {below : List Frame} {meth : Method} {cc : Code} {bb Ls : Nat} {xs : Nat → Int32} {D : va_G} {cI cB cW cL : ClassId} (C : LFix pp l ss mm cc bb Ls xs D cI cB cW cL) {o : Nat} {F : Nat → Int64} {ob nw tr : Nat → Nat} {qs : Nat → Nat → Nat} {sc : Nat → Nat} {N : kM} {S : Nat → kM} {n r L : Nat} {T : Nat → Int32} {z : Nat → Nat} {x : Nat → Int32} {hh : Int64} {Sp Ot Sv : Nat → Int32} {M : kM} (hV : LInv M S n r L T Sv x) {i : Nat} (hi : i + 5 ≤ Ls) {H : Heap} {locs : List Loc} {ls : Array Slot} {cells slots : Nat} {Q : State → Prop} (hc : cells + 1 ≤ 601024) (hs : slots + 6 ≤ 7293034) (hP : va_P D vwCl (wLaw cI cB cW cL o F ob nw tr qs sc (g_rot qs r) M N S n L T z x hh M Sp Ot Sv T) H) (hD : va_D (fun q : Nat => ss.heap.size ≤ q) (wLaw cI cB cW cL o F ob nw tr qs sc (g_rot qs r) M N S n L T z x hh M Sp Ot Sv T)) (hS : va_S (fun q : Nat => ss.heap.size ≤ q) ss.heap H locs) (hl : lv_has ls 9 [(0, .ref bb), (1, .ref (ob 0)), (2, .ref (z 0)), (3, .ref o), (4, .int (nI i))]) (kk : LNext pp l ee ss mm below meth cc bb D cI cB cW cL o ob nw tr qs sc z i cells slots Q) : W pp l ee room_1 ss mm #[Value.ref bb] below meth cc H locs cells slots Q (F0 mm 176 ls []) := by
  rcases why_012 (xs (i + 1)) (xs (i + 2)) with h | h | h
  · obtain ⟨a, b, ha, hb, hne, h1, h2⟩ := why_0 h
    exact law_ask__ok C hV hi h1 h2 ha hb hne hc hs hP hD hS hl kk
  · exact law_ask__e1 C hV hi h hc hs hP hD hS hl kk
  · exact law_ask__e2 C hV hi h hc hs hP hD hS hl kk

set_option maxHeartbeats 4000000 in
theorem law_grant {pp : Program} {l : Launch} {ee : Env} {ss : State} {mm : MethodId} {below : List Frame} {meth : Method} {cc : Code} {bb Ls : Nat} {xs : Nat → Int32} {D : va_G} {cI cB cW cL : ClassId} (C : LFix pp l ss mm cc bb Ls xs D cI cB cW cL) {o : Nat} {F : Nat → Int64} {ob nw tr : Nat → Nat} {qs : Nat → Nat → Nat} {sc : Nat → Nat} {N : kM} {S : Nat → kM} {n r L : Nat} {T : Nat → Int32} {z : Nat → Nat} {x : Nat → Int32} {hh : Int64} {Sp Ot Sv : Nat → Int32} {M : kM} (hV : LInv M S n r L T Sv x) {i : Nat} (hi : i + 5 ≤ Ls) {H : Heap} {locs : List Loc} {ls : Array Slot} {cells slots : Nat} {Q : State → Prop} (hc : cells + 1 ≤ 601024) (hs : slots + 6 ≤ 7293034) (hP : va_P D vwCl (wLaw cI cB cW cL o F ob nw tr qs sc (g_rot qs r) M N S n L T z x hh M Sp Ot Sv T) H) (hD : va_D (fun q : Nat => ss.heap.size ≤ q) (wLaw cI cB cW cL o F ob nw tr qs sc (g_rot qs r) M N S n L T z x hh M Sp Ot Sv T)) (hS : va_S (fun q : Nat => ss.heap.size ≤ q) ss.heap H locs) (hl : lv_has ls 9 [(0, .ref bb), (1, .ref (ob 0)), (2, .ref (z 0)), (3, .ref o), (4, .int (nI i))]) (kk : LNext pp l ee ss mm below meth cc bb D cI cB cW cL o ob nw tr qs sc z i cells slots Q) : W pp l ee room_1 ss mm #[Value.ref bb] below meth cc H locs cells slots Q (F0 mm 244 ls []) := by
  rcases why_012 (xs (i + 1)) (xs (i + 2)) with h | h | h
  · obtain ⟨a, b, ha, hb, hne, h1, h2⟩ := why_0 h
    exact law_grant__ok C hV hi h1 h2 ha hb hne hc hs hP hD hS hl kk
  · exact law_grant__e1 C hV hi h hc hs hP hD hS hl kk
  · exact law_grant__e2 C hV hi h hc hs hP hD hS hl kk

set_option maxHeartbeats 4000000 in
theorem law_refuse {pp : Program} {l : Launch} {ee : Env} {ss : State} {mm : MethodId} {below : List Frame} {meth : Method} {cc : Code} {bb Ls : Nat} {xs : Nat → Int32} {D : va_G} {cI cB cW cL : ClassId} (C : LFix pp l ss mm cc bb Ls xs D cI cB cW cL) {o : Nat} {F : Nat → Int64} {ob nw tr : Nat → Nat} {qs : Nat → Nat → Nat} {sc : Nat → Nat} {N : kM} {S : Nat → kM} {n r L : Nat} {T : Nat → Int32} {z : Nat → Nat} {x : Nat → Int32} {hh : Int64} {Sp Ot Sv : Nat → Int32} {M : kM} (hV : LInv M S n r L T Sv x) {i : Nat} (hi : i + 5 ≤ Ls) {H : Heap} {locs : List Loc} {ls : Array Slot} {cells slots : Nat} {Q : State → Prop} (hc : cells + 1 ≤ 601024) (hs : slots + 6 ≤ 7293034) (hP : va_P D vwCl (wLaw cI cB cW cL o F ob nw tr qs sc (g_rot qs r) M N S n L T z x hh M Sp Ot Sv T) H) (hD : va_D (fun q : Nat => ss.heap.size ≤ q) (wLaw cI cB cW cL o F ob nw tr qs sc (g_rot qs r) M N S n L T z x hh M Sp Ot Sv T)) (hS : va_S (fun q : Nat => ss.heap.size ≤ q) ss.heap H locs) (hl : lv_has ls 9 [(0, .ref bb), (1, .ref (ob 0)), (2, .ref (z 0)), (3, .ref o), (4, .int (nI i))]) (kk : LNext pp l ee ss mm below meth cc bb D cI cB cW cL o ob nw tr qs sc z i cells slots Q) : W pp l ee room_1 ss mm #[Value.ref bb] below meth cc H locs cells slots Q (F0 mm 312 ls []) := by
  rcases why_012 (xs (i + 1)) (xs (i + 2)) with h | h | h
  · obtain ⟨a, b, ha, hb, hne, h1, h2⟩ := why_0 h
    exact law_refuse__ok C hV hi h1 h2 ha hb hne hc hs hP hD hS hl kk
  · exact law_refuse__e1 C hV hi h hc hs hP hD hS hl kk
  · exact law_refuse__e2 C hV hi h hc hs hP hD hS hl kk

set_option maxHeartbeats 4000000 in
theorem law_stop {pp : Program} {l : Launch} {ee : Env} {ss : State} {mm : MethodId} {below : List Frame} {meth : Method} {cc : Code} {bb Ls : Nat} {xs : Nat → Int32} {D : va_G} {cI cB cW cL : ClassId} (C : LFix pp l ss mm cc bb Ls xs D cI cB cW cL) {o : Nat} {F : Nat → Int64} {ob nw tr : Nat → Nat} {qs : Nat → Nat → Nat} {sc : Nat → Nat} {N : kM} {S : Nat → kM} {n r L : Nat} {T : Nat → Int32} {z : Nat → Nat} {x : Nat → Int32} {hh : Int64} {Sp Ot Sv : Nat → Int32} {M : kM} (hV : LInv M S n r L T Sv x) {i : Nat} (hi : i + 5 ≤ Ls) {H : Heap} {locs : List Loc} {ls : Array Slot} {cells slots : Nat} {Q : State → Prop} (hc : cells + 1 ≤ 601024) (hs : slots + 6 ≤ 7293034) (hP : va_P D vwCl (wLaw cI cB cW cL o F ob nw tr qs sc (g_rot qs r) M N S n L T z x hh M Sp Ot Sv T) H) (hD : va_D (fun q : Nat => ss.heap.size ≤ q) (wLaw cI cB cW cL o F ob nw tr qs sc (g_rot qs r) M N S n L T z x hh M Sp Ot Sv T)) (hS : va_S (fun q : Nat => ss.heap.size ≤ q) ss.heap H locs) (hl : lv_has ls 9 [(0, .ref bb), (1, .ref (ob 0)), (2, .ref (z 0)), (3, .ref o), (4, .int (nI i))]) (kk : LNext pp l ee ss mm below meth cc bb D cI cB cW cL o ob nw tr qs sc z i cells slots Q) : W pp l ee room_1 ss mm #[Value.ref bb] below meth cc H locs cells slots Q (F0 mm 380 ls []) := by
  rcases why_012 (xs (i + 1)) (xs (i + 2)) with h | h | h
  · obtain ⟨a, b, ha, hb, hne, h1, h2⟩ := why_0 h
    exact law_stop__ok C hV hi h1 h2 ha hb hne hc hs hP hD hS hl kk
  · exact law_stop__e1 C hV hi h hc hs hP hD hS hl kk
  · exact law_stop__e2 C hV hi h hc hs hP hD hS hl kk

set_option maxHeartbeats 4000000 in
theorem law_entry {pp : Program} {l : Launch} {ee : Env} {ss : State} {mm : MethodId} {below : List Frame} {meth : Method} {cc : Code} {bb Ls : Nat} {xs : Nat → Int32} {D : va_G} {cI cB cW cL : ClassId} (C : LFix pp l ss mm cc bb Ls xs D cI cB cW cL) {o : Nat} {F : Nat → Int64} {ob nw tr : Nat → Nat} {qs : Nat → Nat → Nat} {sc : Nat → Nat} {N : kM} {S : Nat → kM} {n r L : Nat} {T : Nat → Int32} {z : Nat → Nat} {x : Nat → Int32} {hh : Int64} {Sp Ot Sv : Nat → Int32} {M : kM} (hV : LInv M S n r L T Sv x) {i : Nat} (hi : i + 5 ≤ Ls) {H : Heap} {locs : List Loc} {ls : Array Slot} {cells slots : Nat} {Q : State → Prop} (hc : cells + 1 ≤ 601024) (hs : slots + 6 ≤ 7293034) (hP : va_P D vwCl (wLaw cI cB cW cL o F ob nw tr qs sc (g_rot qs r) M N S n L T z x hh M Sp Ot Sv T) H) (hD : va_D (fun q : Nat => ss.heap.size ≤ q) (wLaw cI cB cW cL o F ob nw tr qs sc (g_rot qs r) M N S n L T z x hh M Sp Ot Sv T)) (hS : va_S (fun q : Nat => ss.heap.size ≤ q) ss.heap H locs) (hl : lv_has ls 9 [(0, .ref bb), (1, .ref (ob 0)), (2, .ref (z 0)), (3, .ref o), (4, .int (nI i))]) (kk : LNext pp l ee ss mm below meth cc bb D cI cB cW cL o ob nw tr qs sc z i cells slots Q) : W pp l ee room_1 ss mm #[Value.ref bb] below meth cc H locs cells slots Q (F0 mm 1089 ls []) := by
  rcases why_012 (xs (i + 1)) (xs (i + 2)) with h | h | h
  · obtain ⟨a, b, ha, hb, hne, h1, h2⟩ := why_0 h
    exact law_entry__ok C hV hi h1 h2 ha hb hne hc hs hP hD hS hl kk
  · exact law_entry__e1 C hV hi h hc hs hP hD hS hl kk
  · exact law_entry__e2 C hV hi h hc hs hP hD hS hl kk

set_option maxHeartbeats 4000000 in
theorem law_areApart {pp : Program} {l : Launch} {ee : Env} {ss : State} {mm : MethodId} {below : List Frame} {meth : Method} {cc : Code} {bb Ls : Nat} {xs : Nat → Int32} {D : va_G} {cI cB cW cL : ClassId} (C : LFix pp l ss mm cc bb Ls xs D cI cB cW cL) {o : Nat} {F : Nat → Int64} {ob nw tr : Nat → Nat} {qs : Nat → Nat → Nat} {sc : Nat → Nat} {N : kM} {S : Nat → kM} {n r L : Nat} {T : Nat → Int32} {z : Nat → Nat} {x : Nat → Int32} {hh : Int64} {Sp Ot Sv : Nat → Int32} {M : kM} (hV : LInv M S n r L T Sv x) {i : Nat} (hi : i + 5 ≤ Ls) {H : Heap} {locs : List Loc} {ls : Array Slot} {cells slots : Nat} {Q : State → Prop} (hc : cells + 1 ≤ 601024) (hs : slots + 6 ≤ 7293034) (hP : va_P D vwCl (wLaw cI cB cW cL o F ob nw tr qs sc (g_rot qs r) M N S n L T z x hh M Sp Ot Sv T) H) (hD : va_D (fun q : Nat => ss.heap.size ≤ q) (wLaw cI cB cW cL o F ob nw tr qs sc (g_rot qs r) M N S n L T z x hh M Sp Ot Sv T)) (hS : va_S (fun q : Nat => ss.heap.size ≤ q) ss.heap H locs) (hl : lv_has ls 9 [(0, .ref bb), (1, .ref (ob 0)), (2, .ref (z 0)), (3, .ref o), (4, .int (nI i))]) (kk : LNext pp l ee ss mm below meth cc bb D cI cB cW cL o ob nw tr qs sc z i cells slots Q) : W pp l ee room_1 ss mm #[Value.ref bb] below meth cc H locs cells slots Q (F0 mm 1373 ls []) := by
  rcases why_012 (xs (i + 1)) (xs (i + 2)) with h | h | h
  · obtain ⟨a, b, ha, hb, hne, h1, h2⟩ := why_0 h
    exact law_areApart__ok C hV hi h1 h2 ha hb hne hc hs hP hD hS hl kk
  · exact law_areApart__e1 C hV hi h hc hs hP hD hS hl kk
  · exact law_areApart__e2 C hV hi h hc hs hP hD hS hl kk

set_option maxHeartbeats 4000000 in
theorem law_agree {pp : Program} {l : Launch} {ee : Env} {ss : State} {mm : MethodId} {below : List Frame} {meth : Method} {cc : Code} {bb Ls : Nat} {xs : Nat → Int32} {D : va_G} {cI cB cW cL : ClassId} (C : LFix pp l ss mm cc bb Ls xs D cI cB cW cL) {o : Nat} {F : Nat → Int64} {ob nw tr : Nat → Nat} {qs : Nat → Nat → Nat} {sc : Nat → Nat} {N : kM} {S : Nat → kM} {n r L : Nat} {T : Nat → Int32} {z : Nat → Nat} {x : Nat → Int32} {hh : Int64} {Sp Ot Sv : Nat → Int32} {M : kM} (hV : LInv M S n r L T Sv x) {i : Nat} (hi : i + 5 ≤ Ls) {H : Heap} {locs : List Loc} {ls : Array Slot} {cells slots : Nat} {Q : State → Prop} (hc : cells + 1 ≤ 601024) (hs : slots + 6 ≤ 7293034) (hP : va_P D vwCl (wLaw cI cB cW cL o F ob nw tr qs sc (g_rot qs r) M N S n L T z x hh M Sp Ot Sv T) H) (hD : va_D (fun q : Nat => ss.heap.size ≤ q) (wLaw cI cB cW cL o F ob nw tr qs sc (g_rot qs r) M N S n L T z x hh M Sp Ot Sv T)) (hS : va_S (fun q : Nat => ss.heap.size ≤ q) ss.heap H locs) (hl : lv_has ls 9 [(0, .ref bb), (1, .ref (ob 0)), (2, .ref (z 0)), (3, .ref o), (4, .int (nI i))]) (kk : LNext pp l ee ss mm below meth cc bb D cI cB cW cL o ob nw tr qs sc z i cells slots Q) : W pp l ee room_1 ss mm #[Value.ref bb] below meth cc H locs cells slots Q (F0 mm 1448 ls []) := by
  rcases why_012 (xs (i + 1)) (xs (i + 2)) with h | h | h
  · obtain ⟨a, b, ha, hb, hne, h1, h2⟩ := why_0 h
    exact law_agree__ok C hV hi h1 h2 ha hb hne hc hs hP hD hS hl kk
  · exact law_agree__e1 C hV hi h hc hs hP hD hS hl kk
  · exact law_agree__e2 C hV hi h hc hs hP hD hS hl kk

set_option maxHeartbeats 4000000 in
theorem law_block {pp : Program} {l : Launch} {ee : Env} {ss : State} {mm : MethodId} {below : List Frame} {meth : Method} {cc : Code} {bb Ls : Nat} {xs : Nat → Int32} {D : va_G} {cI cB cW cL : ClassId} (C : LFix pp l ss mm cc bb Ls xs D cI cB cW cL) {o : Nat} {F : Nat → Int64} {ob nw tr : Nat → Nat} {qs : Nat → Nat → Nat} {sc : Nat → Nat} {N : kM} {S : Nat → kM} {n r L : Nat} {T : Nat → Int32} {z : Nat → Nat} {x : Nat → Int32} {hh : Int64} {Sp Ot Sv : Nat → Int32} {M : kM} (hV : LInv M S n r L T Sv x) {i : Nat} (hi : i + 5 ≤ Ls) {H : Heap} {locs : List Loc} {ls : Array Slot} {cells slots : Nat} {Q : State → Prop} (hc : cells + 1 ≤ 601024) (hs : slots + 6 ≤ 7293034) (hP : va_P D vwCl (wLaw cI cB cW cL o F ob nw tr qs sc (g_rot qs r) M N S n L T z x hh M Sp Ot Sv T) H) (hD : va_D (fun q : Nat => ss.heap.size ≤ q) (wLaw cI cB cW cL o F ob nw tr qs sc (g_rot qs r) M N S n L T z x hh M Sp Ot Sv T)) (hS : va_S (fun q : Nat => ss.heap.size ≤ q) ss.heap H locs) (hl : lv_has ls 9 [(0, .ref bb), (1, .ref (ob 0)), (2, .ref (z 0)), (3, .ref o), (4, .int (nI i))]) (kk : LNext pp l ee ss mm below meth cc bb D cI cB cW cL o ob nw tr qs sc z i cells slots Q) : W pp l ee room_1 ss mm #[Value.ref bb] below meth cc H locs cells slots Q (F0 mm 448 ls []) := by
  by_cases hv : xs (i + 3) = 0
  · rcases why_012 (xs (i + 1)) (xs (i + 2)) with h | h | h
    · obtain ⟨a, b, ha, hb, hne, h1, h2⟩ := why_0 h
      exact law_block__okf C hV hi h1 h2 ha hb hne hv hc hs hP hD hS hl kk
    · exact law_block__e1f C hV hi h hv hc hs hP hD hS hl kk
    · exact law_block__e2f C hV hi h hv hc hs hP hD hS hl kk
  · rcases why_012 (xs (i + 1)) (xs (i + 2)) with h | h | h
    · obtain ⟨a, b, ha, hb, hne, h1, h2⟩ := why_0 h
      exact law_block__okt C hV hi h1 h2 ha hb hne hv hc hs hP hD hS hl kk
    · exact law_block__e1t C hV hi h hv hc hs hP hD hS hl kk
    · exact law_block__e2t C hV hi h hv hc hs hP hD hS hl kk

set_option maxHeartbeats 4000000 in
theorem law_turnOn {pp : Program} {l : Launch} {ee : Env} {ss : State} {mm : MethodId} {below : List Frame} {meth : Method} {cc : Code} {bb Ls : Nat} {xs : Nat → Int32} {D : va_G} {cI cB cW cL : ClassId} (C : LFix pp l ss mm cc bb Ls xs D cI cB cW cL) {o : Nat} {F : Nat → Int64} {ob nw tr : Nat → Nat} {qs : Nat → Nat → Nat} {sc : Nat → Nat} {N : kM} {S : Nat → kM} {n r L : Nat} {T : Nat → Int32} {z : Nat → Nat} {x : Nat → Int32} {hh : Int64} {Sp Ot Sv : Nat → Int32} {M : kM} (hV : LInv M S n r L T Sv x) {i : Nat} (hi : i + 5 ≤ Ls) {H : Heap} {locs : List Loc} {ls : Array Slot} {cells slots : Nat} {Q : State → Prop} (hc : cells + 1 ≤ 601024) (hs : slots + 6 ≤ 7293034) (hP : va_P D vwCl (wLaw cI cB cW cL o F ob nw tr qs sc (g_rot qs r) M N S n L T z x hh M Sp Ot Sv T) H) (hD : va_D (fun q : Nat => ss.heap.size ≤ q) (wLaw cI cB cW cL o F ob nw tr qs sc (g_rot qs r) M N S n L T z x hh M Sp Ot Sv T)) (hS : va_S (fun q : Nat => ss.heap.size ≤ q) ss.heap H locs) (hl : lv_has ls 9 [(0, .ref bb), (1, .ref (ob 0)), (2, .ref (z 0)), (3, .ref o), (4, .int (nI i))]) (kk : LNext pp l ee ss mm below meth cc bb D cI cB cW cL o ob nw tr qs sc z i cells slots Q) : W pp l ee room_1 ss mm #[Value.ref bb] below meth cc H locs cells slots Q (F0 mm 544 ls []) := by
  cases hg : g_seatok (xs (i + 1)) (xs (i + 2)) with
  | false => exact law_turnOn__e1 C hV hi hg hc hs hP hD hS hl kk
  | true =>
    obtain ⟨a, s, ha, hs3, h1, h2⟩ := seat_nat hg
    cases hrk : g_in (xs (i + 3)) (-9) 9 with
    | false => exact law_turnOn__e2a C hV hi h1 h2 ha hs3 hrk hc hs hP hD hS hl kk
    | true =>
      cases hg4 : g_in (xs (i + 4)) 0 4 with
      | false => exact law_turnOn__e2b C hV hi h1 h2 ha hs3 hrk hg4 hc hs hP hD hS hl kk
      | true =>
        obtain ⟨d, hd, h4⟩ := in_nat (hi := 4) (by omega) hg4
        exact law_turnOn__ok C hV hi h1 h2 ha hs3 h4 (by omega) hrk hc hs hP hD hS hl kk

set_option maxHeartbeats 4000000 in
theorem law_turnOff {pp : Program} {l : Launch} {ee : Env} {ss : State} {mm : MethodId} {below : List Frame} {meth : Method} {cc : Code} {bb Ls : Nat} {xs : Nat → Int32} {D : va_G} {cI cB cW cL : ClassId} (C : LFix pp l ss mm cc bb Ls xs D cI cB cW cL) {o : Nat} {F : Nat → Int64} {ob nw tr : Nat → Nat} {qs : Nat → Nat → Nat} {sc : Nat → Nat} {N : kM} {S : Nat → kM} {n r L : Nat} {T : Nat → Int32} {z : Nat → Nat} {x : Nat → Int32} {hh : Int64} {Sp Ot Sv : Nat → Int32} {M : kM} (hV : LInv M S n r L T Sv x) {i : Nat} (hi : i + 5 ≤ Ls) {H : Heap} {locs : List Loc} {ls : Array Slot} {cells slots : Nat} {Q : State → Prop} (hc : cells + 1 ≤ 601024) (hs : slots + 6 ≤ 7293034) (hP : va_P D vwCl (wLaw cI cB cW cL o F ob nw tr qs sc (g_rot qs r) M N S n L T z x hh M Sp Ot Sv T) H) (hD : va_D (fun q : Nat => ss.heap.size ≤ q) (wLaw cI cB cW cL o F ob nw tr qs sc (g_rot qs r) M N S n L T z x hh M Sp Ot Sv T)) (hS : va_S (fun q : Nat => ss.heap.size ≤ q) ss.heap H locs) (hl : lv_has ls 9 [(0, .ref bb), (1, .ref (ob 0)), (2, .ref (z 0)), (3, .ref o), (4, .int (nI i))]) (kk : LNext pp l ee ss mm below meth cc bb D cI cB cW cL o ob nw tr qs sc z i cells slots Q) : W pp l ee room_1 ss mm #[Value.ref bb] below meth cc H locs cells slots Q (F0 mm 636 ls []) := by
  cases hg : g_seatok (xs (i + 1)) (xs (i + 2)) with
  | false => exact law_turnOff__e1 C hV hi hg hc hs hP hD hS hl kk
  | true =>
    obtain ⟨a, s, ha, hs3, h1, h2⟩ := seat_nat hg
    cases ho : g_on M a s with
    | false => exact law_turnOff__e2 C hV hi h1 h2 ha hs3 ho hc hs hP hD hS hl kk
    | true => exact law_turnOff__ok C hV hi h1 h2 ha hs3 ho hc hs hP hD hS hl kk

set_option maxHeartbeats 4000000 in
theorem law_bestSeat {pp : Program} {l : Launch} {ee : Env} {ss : State} {mm : MethodId} {below : List Frame} {meth : Method} {cc : Code} {bb Ls : Nat} {xs : Nat → Int32} {D : va_G} {cI cB cW cL : ClassId} (C : LFix pp l ss mm cc bb Ls xs D cI cB cW cL) {o : Nat} {F : Nat → Int64} {ob nw tr : Nat → Nat} {qs : Nat → Nat → Nat} {sc : Nat → Nat} {N : kM} {S : Nat → kM} {n r L : Nat} {T : Nat → Int32} {z : Nat → Nat} {x : Nat → Int32} {hh : Int64} {Sp Ot Sv : Nat → Int32} {M : kM} (hV : LInv M S n r L T Sv x) {i : Nat} (hi : i + 5 ≤ Ls) {H : Heap} {locs : List Loc} {ls : Array Slot} {cells slots : Nat} {Q : State → Prop} (hc : cells + 1 ≤ 601024) (hs : slots + 6 ≤ 7293034) (hP : va_P D vwCl (wLaw cI cB cW cL o F ob nw tr qs sc (g_rot qs r) M N S n L T z x hh M Sp Ot Sv T) H) (hD : va_D (fun q : Nat => ss.heap.size ≤ q) (wLaw cI cB cW cL o F ob nw tr qs sc (g_rot qs r) M N S n L T z x hh M Sp Ot Sv T)) (hS : va_S (fun q : Nat => ss.heap.size ≤ q) ss.heap H locs) (hl : lv_has ls 9 [(0, .ref bb), (1, .ref (ob 0)), (2, .ref (z 0)), (3, .ref o), (4, .int (nI i))]) (kk : LNext pp l ee ss mm below meth cc bb D cI cB cW cL o ob nw tr qs sc z i cells slots Q) : W pp l ee room_1 ss mm #[Value.ref bb] below meth cc H locs cells slots Q (F0 mm 704 ls []) := by
  cases hg : g_usr (xs (i + 1)) with
  | false => exact law_bestSeat__e1 C hV hi hg hc hs hP hD hS hl kk
  | true =>
    obtain ⟨a, ha, h1⟩ := usr_nat hg
    exact law_bestSeat__ok C hV hi h1 ha hc hs hP hD hS hl kk

set_option maxHeartbeats 4000000 in
theorem law_wrongViews {pp : Program} {l : Launch} {ee : Env} {ss : State} {mm : MethodId} {below : List Frame} {meth : Method} {cc : Code} {bb Ls : Nat} {xs : Nat → Int32} {D : va_G} {cI cB cW cL : ClassId} (C : LFix pp l ss mm cc bb Ls xs D cI cB cW cL) {o : Nat} {F : Nat → Int64} {ob nw tr : Nat → Nat} {qs : Nat → Nat → Nat} {sc : Nat → Nat} {N : kM} {S : Nat → kM} {n r L : Nat} {T : Nat → Int32} {z : Nat → Nat} {x : Nat → Int32} {hh : Int64} {Sp Ot Sv : Nat → Int32} {M : kM} (hV : LInv M S n r L T Sv x) {i : Nat} (hi : i + 5 ≤ Ls) {H : Heap} {locs : List Loc} {ls : Array Slot} {cells slots : Nat} {Q : State → Prop} (hc : cells + 1 ≤ 601024) (hs : slots + 6 ≤ 7293034) (hP : va_P D vwCl (wLaw cI cB cW cL o F ob nw tr qs sc (g_rot qs r) M N S n L T z x hh M Sp Ot Sv T) H) (hD : va_D (fun q : Nat => ss.heap.size ≤ q) (wLaw cI cB cW cL o F ob nw tr qs sc (g_rot qs r) M N S n L T z x hh M Sp Ot Sv T)) (hS : va_S (fun q : Nat => ss.heap.size ≤ q) ss.heap H locs) (hl : lv_has ls 9 [(0, .ref bb), (1, .ref (ob 0)), (2, .ref (z 0)), (3, .ref o), (4, .int (nI i))]) (kk : LNext pp l ee ss mm below meth cc bb D cI cB cW cL o ob nw tr qs sc z i cells slots Q) : W pp l ee room_1 ss mm #[Value.ref bb] below meth cc H locs cells slots Q (F0 mm 1536 ls []) := by
  cases hg : g_usr (xs (i + 1)) with
  | false => exact law_wrongViews__e1 C hV hi hg hc hs hP hD hS hl kk
  | true =>
    obtain ⟨a, ha, h1⟩ := usr_nat hg
    exact law_wrongViews__ok C hV hi h1 ha hc hs hP hD hS hl kk

set_option maxHeartbeats 4000000 in
theorem law_seat {pp : Program} {l : Launch} {ee : Env} {ss : State} {mm : MethodId} {below : List Frame} {meth : Method} {cc : Code} {bb Ls : Nat} {xs : Nat → Int32} {D : va_G} {cI cB cW cL : ClassId} (C : LFix pp l ss mm cc bb Ls xs D cI cB cW cL) {o : Nat} {F : Nat → Int64} {ob nw tr : Nat → Nat} {qs : Nat → Nat → Nat} {sc : Nat → Nat} {N : kM} {S : Nat → kM} {n r L : Nat} {T : Nat → Int32} {z : Nat → Nat} {x : Nat → Int32} {hh : Int64} {Sp Ot Sv : Nat → Int32} {M : kM} (hV : LInv M S n r L T Sv x) {i : Nat} (hi : i + 5 ≤ Ls) {H : Heap} {locs : List Loc} {ls : Array Slot} {cells slots : Nat} {Q : State → Prop} (hc : cells + 1 ≤ 601024) (hs : slots + 6 ≤ 7293034) (hP : va_P D vwCl (wLaw cI cB cW cL o F ob nw tr qs sc (g_rot qs r) M N S n L T z x hh M Sp Ot Sv T) H) (hD : va_D (fun q : Nat => ss.heap.size ≤ q) (wLaw cI cB cW cL o F ob nw tr qs sc (g_rot qs r) M N S n L T z x hh M Sp Ot Sv T)) (hS : va_S (fun q : Nat => ss.heap.size ≤ q) ss.heap H locs) (hl : lv_has ls 9 [(0, .ref bb), (1, .ref (ob 0)), (2, .ref (z 0)), (3, .ref o), (4, .int (nI i))]) (kk : LNext pp l ee ss mm below meth cc bb D cI cB cW cL o ob nw tr qs sc z i cells slots Q) : W pp l ee room_1 ss mm #[Value.ref bb] below meth cc H locs cells slots Q (F0 mm 760 ls []) := by
  cases hg : g_seatok (xs (i + 1)) (xs (i + 2)) with
  | false => exact law_seat__e1 C hV hi hg hc hs hP hD hS hl kk
  | true =>
    obtain ⟨a, s, ha, hs3, h1, h2⟩ := seat_nat hg
    cases hg3 : g_in (xs (i + 3)) 0 2 with
    | false => exact law_seat__e2 C hV hi h1 h2 ha hs3 hg3 hc hs hP hD hS hl kk
    | true =>
      obtain ⟨wh, hwh, h3⟩ := in_nat (hi := 2) (by omega) hg3
      exact law_seat__ok C hV hi h1 h2 ha hs3 h3 (by omega) hc hs hP hD hS hl kk

set_option maxHeartbeats 4000000 in
theorem law_deliver {pp : Program} {l : Launch} {ee : Env} {ss : State} {mm : MethodId} {below : List Frame} {meth : Method} {cc : Code} {bb Ls : Nat} {xs : Nat → Int32} {D : va_G} {cI cB cW cL : ClassId} (C : LFix pp l ss mm cc bb Ls xs D cI cB cW cL) {o : Nat} {F : Nat → Int64} {ob nw tr : Nat → Nat} {qs : Nat → Nat → Nat} {sc : Nat → Nat} {N : kM} {S : Nat → kM} {n r L : Nat} {T : Nat → Int32} {z : Nat → Nat} {x : Nat → Int32} {hh : Int64} {Sp Ot Sv : Nat → Int32} {M : kM} (hV : LInv M S n r L T Sv x) {i : Nat} (hi : i + 5 ≤ Ls) {H : Heap} {locs : List Loc} {ls : Array Slot} {cells slots : Nat} {Q : State → Prop} (hc : cells + 1 ≤ 601024) (hs : slots + 6 ≤ 7293034) (hP : va_P D vwCl (wLaw cI cB cW cL o F ob nw tr qs sc (g_rot qs r) M N S n L T z x hh M Sp Ot Sv T) H) (hD : va_D (fun q : Nat => ss.heap.size ≤ q) (wLaw cI cB cW cL o F ob nw tr qs sc (g_rot qs r) M N S n L T z x hh M Sp Ot Sv T)) (hS : va_S (fun q : Nat => ss.heap.size ≤ q) ss.heap H locs) (hl : lv_has ls 9 [(0, .ref bb), (1, .ref (ob 0)), (2, .ref (z 0)), (3, .ref o), (4, .int (nI i))]) (kk : LNext pp l ee ss mm below meth cc bb D cI cB cW cL o ob nw tr qs sc z i cells slots Q) : W pp l ee room_1 ss mm #[Value.ref bb] below meth cc H locs cells slots Q (F0 mm 840 ls []) := by
  cases hg : g_in (xs (i + 1)) 0 1000 with
  | false => exact law_deliver__e1 C hV hi hg hc hs hP hD hS hl kk
  | true =>
    obtain ⟨ct, hct, h1⟩ := in_nat (hi := 1000) (by omega) hg
    exact law_deliver__ok C hV hi h1 hct hc hs hP hD hS hl kk

theorem msg_nat {M : kM} (hI : kInv M) {v : Int32} (h : g_in v 0 (M 577 - 1) = true) : ∃ k, k < wyN M ∧ v = nI k := by
  have hw := i_wyle hI
  by_cases h0 : wyN M = 0
  · have e : M 577 - 1 = -1 := by
      rw [i_wy hI, h0]
      decide
    rw [e] at h
    unfold g_in at h
    simp only [Bool.and_eq_true, decide_eq_true_eq] at h
    obtain ⟨a, ha, rfl⟩ := nI_of h.1
    exact absurd (show (-1 : Int32) < nI a by
      rw [Int32.lt_iff_toInt_lt, nI_toInt ha]
      have : (-1 : Int32).toInt = -1 := by decide
      omega) h.2
  · rw [i_dec hI (by omega)] at h
    obtain ⟨k, hk, e⟩ := in_nat (hi := wyN M - 1) (by omega) h
    exact ⟨k, by omega, e⟩
set_option maxHeartbeats 4000000 in
theorem law_lose {pp : Program} {l : Launch} {ee : Env} {ss : State} {mm : MethodId} {below : List Frame} {meth : Method} {cc : Code} {bb Ls : Nat} {xs : Nat → Int32} {D : va_G} {cI cB cW cL : ClassId} (C : LFix pp l ss mm cc bb Ls xs D cI cB cW cL) {o : Nat} {F : Nat → Int64} {ob nw tr : Nat → Nat} {qs : Nat → Nat → Nat} {sc : Nat → Nat} {N : kM} {S : Nat → kM} {n r L : Nat} {T : Nat → Int32} {z : Nat → Nat} {x : Nat → Int32} {hh : Int64} {Sp Ot Sv : Nat → Int32} {M : kM} (hV : LInv M S n r L T Sv x) {i : Nat} (hi : i + 5 ≤ Ls) {H : Heap} {locs : List Loc} {ls : Array Slot} {cells slots : Nat} {Q : State → Prop} (hc : cells + 1 ≤ 601024) (hs : slots + 6 ≤ 7293034) (hP : va_P D vwCl (wLaw cI cB cW cL o F ob nw tr qs sc (g_rot qs r) M N S n L T z x hh M Sp Ot Sv T) H) (hD : va_D (fun q : Nat => ss.heap.size ≤ q) (wLaw cI cB cW cL o F ob nw tr qs sc (g_rot qs r) M N S n L T z x hh M Sp Ot Sv T)) (hS : va_S (fun q : Nat => ss.heap.size ≤ q) ss.heap H locs) (hl : lv_has ls 9 [(0, .ref bb), (1, .ref (ob 0)), (2, .ref (z 0)), (3, .ref o), (4, .int (nI i))]) (kk : LNext pp l ee ss mm below meth cc bb D cI cB cW cL o ob nw tr qs sc z i cells slots Q) : W pp l ee room_1 ss mm #[Value.ref bb] below meth cc H locs cells slots Q (F0 mm 896 ls []) := by
  cases hg : g_in (xs (i + 1)) 0 (M 577 - 1) with
  | false => exact law_lose__e1 C hV hi hg hc hs hP hD hS hl kk
  | true =>
    obtain ⟨k, hk, h1⟩ := msg_nat hV.1 hg
    exact law_lose__ok C hV hi h1 hk hc hs hP hD hS hl kk

set_option maxHeartbeats 4000000 in
theorem law_message {pp : Program} {l : Launch} {ee : Env} {ss : State} {mm : MethodId} {below : List Frame} {meth : Method} {cc : Code} {bb Ls : Nat} {xs : Nat → Int32} {D : va_G} {cI cB cW cL : ClassId} (C : LFix pp l ss mm cc bb Ls xs D cI cB cW cL) {o : Nat} {F : Nat → Int64} {ob nw tr : Nat → Nat} {qs : Nat → Nat → Nat} {sc : Nat → Nat} {N : kM} {S : Nat → kM} {n r L : Nat} {T : Nat → Int32} {z : Nat → Nat} {x : Nat → Int32} {hh : Int64} {Sp Ot Sv : Nat → Int32} {M : kM} (hV : LInv M S n r L T Sv x) {i : Nat} (hi : i + 5 ≤ Ls) {H : Heap} {locs : List Loc} {ls : Array Slot} {cells slots : Nat} {Q : State → Prop} (hc : cells + 1 ≤ 601024) (hs : slots + 6 ≤ 7293034) (hP : va_P D vwCl (wLaw cI cB cW cL o F ob nw tr qs sc (g_rot qs r) M N S n L T z x hh M Sp Ot Sv T) H) (hD : va_D (fun q : Nat => ss.heap.size ≤ q) (wLaw cI cB cW cL o F ob nw tr qs sc (g_rot qs r) M N S n L T z x hh M Sp Ot Sv T)) (hS : va_S (fun q : Nat => ss.heap.size ≤ q) ss.heap H locs) (hl : lv_has ls 9 [(0, .ref bb), (1, .ref (ob 0)), (2, .ref (z 0)), (3, .ref o), (4, .int (nI i))]) (kk : LNext pp l ee ss mm below meth cc bb D cI cB cW cL o ob nw tr qs sc z i cells slots Q) : W pp l ee room_1 ss mm #[Value.ref bb] below meth cc H locs cells slots Q (F0 mm 965 ls []) := by
  cases hg : g_in (xs (i + 1)) 0 (M 577 - 1) with
  | false => exact law_message__e1 C hV hi hg hc hs hP hD hS hl kk
  | true =>
    obtain ⟨k, hk, h1⟩ := msg_nat hV.1 hg
    cases hg2 : g_in (xs (i + 2)) 0 4 with
    | false => exact law_message__e2 C hV hi h1 hk hg2 hc hs hP hD hS hl kk
    | true =>
      obtain ⟨wh, hwh, h2⟩ := in_nat (hi := 4) (by omega) hg2
      exact law_message__ok C hV hi h1 hk h2 (by omega) hc hs hP hD hS hl kk

set_option maxHeartbeats 4000000 in
theorem law_count {pp : Program} {l : Launch} {ee : Env} {ss : State} {mm : MethodId} {below : List Frame} {meth : Method} {cc : Code} {bb Ls : Nat} {xs : Nat → Int32} {D : va_G} {cI cB cW cL : ClassId} (C : LFix pp l ss mm cc bb Ls xs D cI cB cW cL) {o : Nat} {F : Nat → Int64} {ob nw tr : Nat → Nat} {qs : Nat → Nat → Nat} {sc : Nat → Nat} {N : kM} {S : Nat → kM} {n r L : Nat} {T : Nat → Int32} {z : Nat → Nat} {x : Nat → Int32} {hh : Int64} {Sp Ot Sv : Nat → Int32} {M : kM} (hV : LInv M S n r L T Sv x) {i : Nat} (hi : i + 5 ≤ Ls) {H : Heap} {locs : List Loc} {ls : Array Slot} {cells slots : Nat} {Q : State → Prop} (hc : cells + 1 ≤ 601024) (hs : slots + 6 ≤ 7293034) (hP : va_P D vwCl (wLaw cI cB cW cL o F ob nw tr qs sc (g_rot qs r) M N S n L T z x hh M Sp Ot Sv T) H) (hD : va_D (fun q : Nat => ss.heap.size ≤ q) (wLaw cI cB cW cL o F ob nw tr qs sc (g_rot qs r) M N S n L T z x hh M Sp Ot Sv T)) (hS : va_S (fun q : Nat => ss.heap.size ≤ q) ss.heap H locs) (hl : lv_has ls 9 [(0, .ref bb), (1, .ref (ob 0)), (2, .ref (z 0)), (3, .ref o), (4, .int (nI i))]) (kk : LNext pp l ee ss mm below meth cc bb D cI cB cW cL o ob nw tr qs sc z i cells slots Q) : W pp l ee room_1 ss mm #[Value.ref bb] below meth cc H locs cells slots Q (F0 mm 1033 ls []) := by
  cases hg : g_in (xs (i + 1)) 0 2 with
  | false => exact law_count__e1 C hV hi hg hc hs hP hD hS hl kk
  | true =>
    obtain ⟨wh, hwh, h1⟩ := in_nat (hi := 2) (by omega) hg
    exact law_count__ok C hV hi h1 (by omega) hc hs hP hD hS hl kk

set_option maxHeartbeats 4000000 in
theorem law_version {pp : Program} {l : Launch} {ee : Env} {ss : State} {mm : MethodId} {below : List Frame} {meth : Method} {cc : Code} {bb Ls : Nat} {xs : Nat → Int32} {D : va_G} {cI cB cW cL : ClassId} (C : LFix pp l ss mm cc bb Ls xs D cI cB cW cL) {o : Nat} {F : Nat → Int64} {ob nw tr : Nat → Nat} {qs : Nat → Nat → Nat} {sc : Nat → Nat} {N : kM} {S : Nat → kM} {n r L : Nat} {T : Nat → Int32} {z : Nat → Nat} {x : Nat → Int32} {hh : Int64} {Sp Ot Sv : Nat → Int32} {M : kM} (hV : LInv M S n r L T Sv x) {i : Nat} (hi : i + 5 ≤ Ls) {H : Heap} {locs : List Loc} {ls : Array Slot} {cells slots : Nat} {Q : State → Prop} (hc : cells + 1 ≤ 601024) (hs : slots + 6 ≤ 7293034) (hP : va_P D vwCl (wLaw cI cB cW cL o F ob nw tr qs sc (g_rot qs r) M N S n L T z x hh M Sp Ot Sv T) H) (hD : va_D (fun q : Nat => ss.heap.size ≤ q) (wLaw cI cB cW cL o F ob nw tr qs sc (g_rot qs r) M N S n L T z x hh M Sp Ot Sv T)) (hS : va_S (fun q : Nat => ss.heap.size ≤ q) ss.heap H locs) (hl : lv_has ls 9 [(0, .ref bb), (1, .ref (ob 0)), (2, .ref (z 0)), (3, .ref o), (4, .int (nI i))]) (kk : LNext pp l ee ss mm below meth cc bb D cI cB cW cL o ob nw tr qs sc z i cells slots Q) : W pp l ee room_1 ss mm #[Value.ref bb] below meth cc H locs cells slots Q (F0 mm 1157 ls []) := by
  cases hg : g_usr (xs (i + 1)) with
  | false =>
    by_cases h2 : xs (i + 2) = -1
    · exact law_version__e1a C hV hi h2 hg hc hs hP hD hS hl kk
    · exact law_version__e1b C hV hi h2 hg hc hs hP hD hS hl kk
  | true =>
    by_cases h2 : xs (i + 2) = -1
    · obtain ⟨a, ha, h1⟩ := usr_nat hg
      exact law_version__ok0 C hV hi h1 ha h2 hc hs hP hD hS hl kk
    · rcases why_012 (xs (i + 1)) (xs (i + 2)) with h | h | h
      · obtain ⟨a, b, ha, hb, hne, h1, h3⟩ := why_0 h
        exact law_version__ok1 C hV hi h1 h3 ha hb hne hc hs hP hD hS hl kk
      · obtain ⟨a, ha, h1⟩ := usr_nat hg
        exact law_version__f1 C hV hi h1 ha h2 (h1 ▸ h) hc hs hP hD hS hl kk
      · obtain ⟨a, ha, h1⟩ := usr_nat hg
        exact law_version__f2 C hV hi h1 ha h2 (h1 ▸ h) hc hs hP hD hS hl kk

set_option maxHeartbeats 4000000 in
theorem law_changedSince {pp : Program} {l : Launch} {ee : Env} {ss : State} {mm : MethodId} {below : List Frame} {meth : Method} {cc : Code} {bb Ls : Nat} {xs : Nat → Int32} {D : va_G} {cI cB cW cL : ClassId} (C : LFix pp l ss mm cc bb Ls xs D cI cB cW cL) {o : Nat} {F : Nat → Int64} {ob nw tr : Nat → Nat} {qs : Nat → Nat → Nat} {sc : Nat → Nat} {N : kM} {S : Nat → kM} {n r L : Nat} {T : Nat → Int32} {z : Nat → Nat} {x : Nat → Int32} {hh : Int64} {Sp Ot Sv : Nat → Int32} {M : kM} (hV : LInv M S n r L T Sv x) {i : Nat} (hi : i + 5 ≤ Ls) {H : Heap} {locs : List Loc} {ls : Array Slot} {cells slots : Nat} {Q : State → Prop} (hc : cells + 1 ≤ 601024) (hs : slots + 6 ≤ 7293034) (hP : va_P D vwCl (wLaw cI cB cW cL o F ob nw tr qs sc (g_rot qs r) M N S n L T z x hh M Sp Ot Sv T) H) (hD : va_D (fun q : Nat => ss.heap.size ≤ q) (wLaw cI cB cW cL o F ob nw tr qs sc (g_rot qs r) M N S n L T z x hh M Sp Ot Sv T)) (hS : va_S (fun q : Nat => ss.heap.size ≤ q) ss.heap H locs) (hl : lv_has ls 9 [(0, .ref bb), (1, .ref (ob 0)), (2, .ref (z 0)), (3, .ref o), (4, .int (nI i))]) (kk : LNext pp l ee ss mm below meth cc bb D cI cB cW cL o ob nw tr qs sc z i cells slots Q) : W pp l ee room_1 ss mm #[Value.ref bb] below meth cc H locs cells slots Q (F0 mm 1225 ls []) := by
  cases hg : g_usr (xs (i + 1)) with
  | false => exact law_changedSince__e1 C hV hi hg hc hs hP hD hS hl kk
  | true =>
    obtain ⟨a, ha, h1⟩ := usr_nat hg
    by_cases hv : xs (i + 2) < 0
    · exact law_changedSince__e2 C hV hi h1 ha hv hc hs hP hD hS hl kk
    · exact law_changedSince__ok C hV hi h1 ha hv hc hs hP hD hS hl kk

set_option maxHeartbeats 4000000 in
theorem law_view {pp : Program} {l : Launch} {ee : Env} {ss : State} {mm : MethodId} {below : List Frame} {meth : Method} {cc : Code} {bb Ls : Nat} {xs : Nat → Int32} {D : va_G} {cI cB cW cL : ClassId} (C : LFix pp l ss mm cc bb Ls xs D cI cB cW cL) {o : Nat} {F : Nat → Int64} {ob nw tr : Nat → Nat} {qs : Nat → Nat → Nat} {sc : Nat → Nat} {N : kM} {S : Nat → kM} {n r L : Nat} {T : Nat → Int32} {z : Nat → Nat} {x : Nat → Int32} {hh : Int64} {Sp Ot Sv : Nat → Int32} {M : kM} (hV : LInv M S n r L T Sv x) {i : Nat} (hi : i + 5 ≤ Ls) {H : Heap} {locs : List Loc} {ls : Array Slot} {cells slots : Nat} {Q : State → Prop} (hc : cells + 1 ≤ 601024) (hs : slots + 6 ≤ 7293034) (hP : va_P D vwCl (wLaw cI cB cW cL o F ob nw tr qs sc (g_rot qs r) M N S n L T z x hh M Sp Ot Sv T) H) (hD : va_D (fun q : Nat => ss.heap.size ≤ q) (wLaw cI cB cW cL o F ob nw tr qs sc (g_rot qs r) M N S n L T z x hh M Sp Ot Sv T)) (hS : va_S (fun q : Nat => ss.heap.size ≤ q) ss.heap H locs) (hl : lv_has ls 9 [(0, .ref bb), (1, .ref (ob 0)), (2, .ref (z 0)), (3, .ref o), (4, .int (nI i))]) (kk : LNext pp l ee ss mm below meth cc bb D cI cB cW cL o ob nw tr qs sc z i cells slots Q) : W pp l ee room_1 ss mm #[Value.ref bb] below meth cc H locs cells slots Q (F0 mm 1293 ls []) := by
  cases hg : g_usr (xs (i + 1)) with
  | false => exact law_view__e1a C hV hi hg hc hs hP hD hS hl kk
  | true =>
    obtain ⟨a, ha, h1⟩ := usr_nat hg
    cases hg3 : g_in (xs (i + 3)) 0 2 with
    | false => exact law_view__e1b C hV hi h1 ha hg3 hc hs hP hD hS hl kk
    | true =>
      obtain ⟨s, hs3, h3⟩ := in_nat (hi := 2) (by omega) hg3
      cases hg2 : g_usr (xs (i + 2)) with
      | false => exact law_view__e1c C hV hi h1 h3 ha (by omega) hg2 hc hs hP hD hS hl kk
      | true =>
        obtain ⟨b, hb, h2⟩ := usr_nat hg2
        by_cases e : a = b
        · subst e
          exact law_view__e2 C hV hi h1 h3 ha (by omega) h2 hc hs hP hD hS hl kk
        · exact law_view__ok C hV hi h1 h2 h3 ha hb (by omega) e hc hs hP hD hS hl kk

set_option maxHeartbeats 4000000 in
theorem law_append {pp : Program} {l : Launch} {ee : Env} {ss : State} {mm : MethodId} {below : List Frame} {meth : Method} {cc : Code} {bb Ls : Nat} {xs : Nat → Int32} {D : va_G} {cI cB cW cL : ClassId} (C : LFix pp l ss mm cc bb Ls xs D cI cB cW cL) {o : Nat} {F : Nat → Int64} {ob nw tr : Nat → Nat} {qs : Nat → Nat → Nat} {sc : Nat → Nat} {N : kM} {S : Nat → kM} {n r L : Nat} {T : Nat → Int32} {z : Nat → Nat} {x : Nat → Int32} {hh : Int64} {Sp Ot Sv : Nat → Int32} {M : kM} (hV : LInv M S n r L T Sv x) {i : Nat} (hi : i + 5 ≤ Ls) {H : Heap} {locs : List Loc} {ls : Array Slot} {cells slots : Nat} {Q : State → Prop} (hc : cells + 1 ≤ 601024) (hs : slots + 6 ≤ 7293034) (hP : va_P D vwCl (wLaw cI cB cW cL o F ob nw tr qs sc (g_rot qs r) M N S n L T z x hh M Sp Ot Sv T) H) (hD : va_D (fun q : Nat => ss.heap.size ≤ q) (wLaw cI cB cW cL o F ob nw tr qs sc (g_rot qs r) M N S n L T z x hh M Sp Ot Sv T)) (hS : va_S (fun q : Nat => ss.heap.size ≤ q) ss.heap H locs) (hl : lv_has ls 9 [(0, .ref bb), (1, .ref (ob 0)), (2, .ref (z 0)), (3, .ref o), (4, .int (nI i))]) (kk : LNext pp l ee ss mm below meth cc bb D cI cB cW cL o ob nw tr qs sc z i cells slots Q) : W pp l ee room_1 ss mm #[Value.ref bb] below meth cc H locs cells slots Q (F0 mm 1672 ls []) := by
  cases hg : g_in (xs (i + 1)) 0 127 with
  | false => exact law_append__e1 C hV hi hg hc hs hP hD hS hl kk
  | true =>
    obtain ⟨v, hv, h1⟩ := in_nat (hi := 127) (by omega) hg
    by_cases hL : L < 100
    · exact law_append__ok C hV hi h1 hv hL hc hs hP hD hS hl kk
    · have e : L = 100 := by have := hV.2.2.2.1; omega
      subst e
      exact law_append__e2 (L := 0) C hV hi h1 hv hc hs hP hD hS hl kk

set_option maxHeartbeats 4000000 in
theorem law_undo {pp : Program} {l : Launch} {ee : Env} {ss : State} {mm : MethodId} {below : List Frame} {meth : Method} {cc : Code} {bb Ls : Nat} {xs : Nat → Int32} {D : va_G} {cI cB cW cL : ClassId} (C : LFix pp l ss mm cc bb Ls xs D cI cB cW cL) {o : Nat} {F : Nat → Int64} {ob nw tr : Nat → Nat} {qs : Nat → Nat → Nat} {sc : Nat → Nat} {N : kM} {S : Nat → kM} {n r L : Nat} {T : Nat → Int32} {z : Nat → Nat} {x : Nat → Int32} {hh : Int64} {Sp Ot Sv : Nat → Int32} {M : kM} (hV : LInv M S n r L T Sv x) {i : Nat} (hi : i + 5 ≤ Ls) {H : Heap} {locs : List Loc} {ls : Array Slot} {cells slots : Nat} {Q : State → Prop} (hc : cells + 1 ≤ 601024) (hs : slots + 6 ≤ 7293034) (hP : va_P D vwCl (wLaw cI cB cW cL o F ob nw tr qs sc (g_rot qs r) M N S n L T z x hh M Sp Ot Sv T) H) (hD : va_D (fun q : Nat => ss.heap.size ≤ q) (wLaw cI cB cW cL o F ob nw tr qs sc (g_rot qs r) M N S n L T z x hh M Sp Ot Sv T)) (hS : va_S (fun q : Nat => ss.heap.size ≤ q) ss.heap H locs) (hl : lv_has ls 9 [(0, .ref bb), (1, .ref (ob 0)), (2, .ref (z 0)), (3, .ref o), (4, .int (nI i))]) (kk : LNext pp l ee ss mm below meth cc bb D cI cB cW cL o ob nw tr qs sc z i cells slots Q) : W pp l ee room_1 ss mm #[Value.ref bb] below meth cc H locs cells slots Q (F0 mm 1754 ls []) := by
  match n, hV, hP, hD with
  | 0, hV, hP, hD => exact law_undo__e1 (n := 0) C hV hi hc hs hP hD hS hl kk
  | k + 1, hV, hP, hD => exact law_undo__ok (n := 0) C hV hi hc hs hP hD hS hl kk

set_option maxHeartbeats 4000000 in
theorem law_carryOut {pp : Program} {l : Launch} {ee : Env} {ss : State} {mm : MethodId} {below : List Frame} {meth : Method} {cc : Code} {bb Ls : Nat} {xs : Nat → Int32} {D : va_G} {cI cB cW cL : ClassId} (C : LFix pp l ss mm cc bb Ls xs D cI cB cW cL) {o : Nat} {F : Nat → Int64} {ob nw tr : Nat → Nat} {qs : Nat → Nat → Nat} {sc : Nat → Nat} {N : kM} {S : Nat → kM} {n r L : Nat} {T : Nat → Int32} {z : Nat → Nat} {x : Nat → Int32} {hh : Int64} {Sp Ot Sv : Nat → Int32} {M : kM} (hV : LInv M S n r L T Sv x) {i : Nat} (hi : i + 5 ≤ Ls) {H : Heap} {locs : List Loc} {ls : Array Slot} {cells slots : Nat} {Q : State → Prop} (hc : cells + 1 ≤ 601024) (hs : slots + 6 ≤ 7293034) (hP : va_P D vwCl (wLaw cI cB cW cL o F ob nw tr qs sc (g_rot qs r) M N S n L T z x hh M Sp Ot Sv T) H) (hD : va_D (fun q : Nat => ss.heap.size ≤ q) (wLaw cI cB cW cL o F ob nw tr qs sc (g_rot qs r) M N S n L T z x hh M Sp Ot Sv T)) (hS : va_S (fun q : Nat => ss.heap.size ≤ q) ss.heap H locs) (hl : lv_has ls 9 [(0, .ref bb), (1, .ref (ob 0)), (2, .ref (z 0)), (3, .ref o), (4, .int (nI i))]) (kk : LNext pp l ee ss mm below meth cc bb D cI cB cW cL o ob nw tr qs sc z i cells slots Q) : W pp l ee room_1 ss mm #[Value.ref bb] below meth cc H locs cells slots Q (F0 mm 1741 ls []) := by
  cases hok : c_okk T L with
  | false => exact law_carryOut__b C hV hi hok hc hs hP hD hS hl kk
  | true =>
    rcases okr_or T M (L / 4) with h | ⟨k, hk, hall, hno⟩
    · exact law_carryOut__ok C hV hi hok h hc hs hP hD hS hl kk
    · exact law_carryOut__f C hV hi hok hk hall hno hc hs hP hD hS hl kk

set_option maxHeartbeats 4000000 in
theorem law_underWay {pp : Program} {l : Launch} {ee : Env} {ss : State} {mm : MethodId} {below : List Frame} {meth : Method} {cc : Code} {bb Ls : Nat} {xs : Nat → Int32} {D : va_G} {cI cB cW cL : ClassId} (C : LFix pp l ss mm cc bb Ls xs D cI cB cW cL) {o : Nat} {F : Nat → Int64} {ob nw tr : Nat → Nat} {qs : Nat → Nat → Nat} {sc : Nat → Nat} {N : kM} {S : Nat → kM} {n r L : Nat} {T : Nat → Int32} {z : Nat → Nat} {x : Nat → Int32} {hh : Int64} {Sp Ot Sv : Nat → Int32} {M : kM} (hV : LInv M S n r L T Sv x) {i : Nat} (hi : i + 5 ≤ Ls) {H : Heap} {locs : List Loc} {ls : Array Slot} {cells slots : Nat} {Q : State → Prop} (hc : cells + 1 ≤ 601024) (hs : slots + 6 ≤ 7293034) (hP : va_P D vwCl (wLaw cI cB cW cL o F ob nw tr qs sc (g_rot qs r) M N S n L T z x hh M Sp Ot Sv T) H) (hD : va_D (fun q : Nat => ss.heap.size ≤ q) (wLaw cI cB cW cL o F ob nw tr qs sc (g_rot qs r) M N S n L T z x hh M Sp Ot Sv T)) (hS : va_S (fun q : Nat => ss.heap.size ≤ q) ss.heap H locs) (hl : lv_has ls 9 [(0, .ref bb), (1, .ref (ob 0)), (2, .ref (z 0)), (3, .ref o), (4, .int (nI i))]) (kk : LNext pp l ee ss mm below meth cc bb D cI cB cW cL o ob nw tr qs sc z i cells slots Q) : W pp l ee room_1 ss mm #[Value.ref bb] below meth cc H locs cells slots Q (F0 mm 952 ls []) := by
  exact law_underWay__ok C hV hi hc hs hP hD hS hl kk

set_option maxHeartbeats 4000000 in
theorem law_agreeing {pp : Program} {l : Launch} {ee : Env} {ss : State} {mm : MethodId} {below : List Frame} {meth : Method} {cc : Code} {bb Ls : Nat} {xs : Nat → Int32} {D : va_G} {cI cB cW cL : ClassId} (C : LFix pp l ss mm cc bb Ls xs D cI cB cW cL) {o : Nat} {F : Nat → Int64} {ob nw tr : Nat → Nat} {qs : Nat → Nat → Nat} {sc : Nat → Nat} {N : kM} {S : Nat → kM} {n r L : Nat} {T : Nat → Int32} {z : Nat → Nat} {x : Nat → Int32} {hh : Int64} {Sp Ot Sv : Nat → Int32} {M : kM} (hV : LInv M S n r L T Sv x) {i : Nat} (hi : i + 5 ≤ Ls) {H : Heap} {locs : List Loc} {ls : Array Slot} {cells slots : Nat} {Q : State → Prop} (hc : cells + 1 ≤ 601024) (hs : slots + 6 ≤ 7293034) (hP : va_P D vwCl (wLaw cI cB cW cL o F ob nw tr qs sc (g_rot qs r) M N S n L T z x hh M Sp Ot Sv T) H) (hD : va_D (fun q : Nat => ss.heap.size ≤ q) (wLaw cI cB cW cL o F ob nw tr qs sc (g_rot qs r) M N S n L T z x hh M Sp Ot Sv T)) (hS : va_S (fun q : Nat => ss.heap.size ≤ q) ss.heap H locs) (hl : lv_has ls 9 [(0, .ref bb), (1, .ref (ob 0)), (2, .ref (z 0)), (3, .ref o), (4, .int (nI i))]) (kk : LNext pp l ee ss mm below meth cc bb D cI cB cW cL o ob nw tr qs sc z i cells slots Q) : W pp l ee room_1 ss mm #[Value.ref bb] below meth cc H locs cells slots Q (F0 mm 1523 ls []) := by
  exact law_agreeing__ok C hV hi hc hs hP hD hS hl kk

set_option maxHeartbeats 4000000 in
theorem law_untilRest {pp : Program} {l : Launch} {ee : Env} {ss : State} {mm : MethodId} {below : List Frame} {meth : Method} {cc : Code} {bb Ls : Nat} {xs : Nat → Int32} {D : va_G} {cI cB cW cL : ClassId} (C : LFix pp l ss mm cc bb Ls xs D cI cB cW cL) {o : Nat} {F : Nat → Int64} {ob nw tr : Nat → Nat} {qs : Nat → Nat → Nat} {sc : Nat → Nat} {N : kM} {S : Nat → kM} {n r L : Nat} {T : Nat → Int32} {z : Nat → Nat} {x : Nat → Int32} {hh : Int64} {Sp Ot Sv : Nat → Int32} {M : kM} (hV : LInv M S n r L T Sv x) {i : Nat} (hi : i + 5 ≤ Ls) {H : Heap} {locs : List Loc} {ls : Array Slot} {cells slots : Nat} {Q : State → Prop} (hc : cells + 1 ≤ 601024) (hs : slots + 6 ≤ 7293034) (hP : va_P D vwCl (wLaw cI cB cW cL o F ob nw tr qs sc (g_rot qs r) M N S n L T z x hh M Sp Ot Sv T) H) (hD : va_D (fun q : Nat => ss.heap.size ≤ q) (wLaw cI cB cW cL o F ob nw tr qs sc (g_rot qs r) M N S n L T z x hh M Sp Ot Sv T)) (hS : va_S (fun q : Nat => ss.heap.size ≤ q) ss.heap H locs) (hl : lv_has ls 9 [(0, .ref bb), (1, .ref (ob 0)), (2, .ref (z 0)), (3, .ref o), (4, .int (nI i))]) (kk : LNext pp l ee ss mm below meth cc bb D cI cB cW cL o ob nw tr qs sc z i cells slots Q) : W pp l ee room_1 ss mm #[Value.ref bb] below meth cc H locs cells slots Q (F0 mm 1592 ls []) := by
  exact law_untilRest__ok C hV hi hc hs hP hD hS hl kk

set_option maxHeartbeats 4000000 in
theorem law_agreeingAtRest {pp : Program} {l : Launch} {ee : Env} {ss : State} {mm : MethodId} {below : List Frame} {meth : Method} {cc : Code} {bb Ls : Nat} {xs : Nat → Int32} {D : va_G} {cI cB cW cL : ClassId} (C : LFix pp l ss mm cc bb Ls xs D cI cB cW cL) {o : Nat} {F : Nat → Int64} {ob nw tr : Nat → Nat} {qs : Nat → Nat → Nat} {sc : Nat → Nat} {N : kM} {S : Nat → kM} {n r L : Nat} {T : Nat → Int32} {z : Nat → Nat} {x : Nat → Int32} {hh : Int64} {Sp Ot Sv : Nat → Int32} {M : kM} (hV : LInv M S n r L T Sv x) {i : Nat} (hi : i + 5 ≤ Ls) {H : Heap} {locs : List Loc} {ls : Array Slot} {cells slots : Nat} {Q : State → Prop} (hc : cells + 1 ≤ 601024) (hs : slots + 6 ≤ 7293034) (hP : va_P D vwCl (wLaw cI cB cW cL o F ob nw tr qs sc (g_rot qs r) M N S n L T z x hh M Sp Ot Sv T) H) (hD : va_D (fun q : Nat => ss.heap.size ≤ q) (wLaw cI cB cW cL o F ob nw tr qs sc (g_rot qs r) M N S n L T z x hh M Sp Ot Sv T)) (hS : va_S (fun q : Nat => ss.heap.size ≤ q) ss.heap H locs) (hl : lv_has ls 9 [(0, .ref bb), (1, .ref (ob 0)), (2, .ref (z 0)), (3, .ref o), (4, .int (nI i))]) (kk : LNext pp l ee ss mm below meth cc bb D cI cB cW cL o ob nw tr qs sc z i cells slots Q) : W pp l ee room_1 ss mm #[Value.ref bb] below meth cc H locs cells slots Q (F0 mm 1605 ls []) := by
  exact law_agreeingAtRest__ok C hV hi hc hs hP hD hS hl kk

set_option maxHeartbeats 4000000 in
theorem law_mostNeeded {pp : Program} {l : Launch} {ee : Env} {ss : State} {mm : MethodId} {below : List Frame} {meth : Method} {cc : Code} {bb Ls : Nat} {xs : Nat → Int32} {D : va_G} {cI cB cW cL : ClassId} (C : LFix pp l ss mm cc bb Ls xs D cI cB cW cL) {o : Nat} {F : Nat → Int64} {ob nw tr : Nat → Nat} {qs : Nat → Nat → Nat} {sc : Nat → Nat} {N : kM} {S : Nat → kM} {n r L : Nat} {T : Nat → Int32} {z : Nat → Nat} {x : Nat → Int32} {hh : Int64} {Sp Ot Sv : Nat → Int32} {M : kM} (hV : LInv M S n r L T Sv x) {i : Nat} (hi : i + 5 ≤ Ls) {H : Heap} {locs : List Loc} {ls : Array Slot} {cells slots : Nat} {Q : State → Prop} (hc : cells + 1 ≤ 601024) (hs : slots + 6 ≤ 7293034) (hP : va_P D vwCl (wLaw cI cB cW cL o F ob nw tr qs sc (g_rot qs r) M N S n L T z x hh M Sp Ot Sv T) H) (hD : va_D (fun q : Nat => ss.heap.size ≤ q) (wLaw cI cB cW cL o F ob nw tr qs sc (g_rot qs r) M N S n L T z x hh M Sp Ot Sv T)) (hS : va_S (fun q : Nat => ss.heap.size ≤ q) ss.heap H locs) (hl : lv_has ls 9 [(0, .ref bb), (1, .ref (ob 0)), (2, .ref (z 0)), (3, .ref o), (4, .int (nI i))]) (kk : LNext pp l ee ss mm below meth cc bb D cI cB cW cL o ob nw tr qs sc z i cells slots Q) : W pp l ee room_1 ss mm #[Value.ref bb] below meth cc H locs cells slots Q (F0 mm 1618 ls []) := by
  exact law_mostNeeded__ok C hV hi hc hs hP hD hS hl kk

set_option maxHeartbeats 4000000 in
theorem law_visible {pp : Program} {l : Launch} {ee : Env} {ss : State} {mm : MethodId} {below : List Frame} {meth : Method} {cc : Code} {bb Ls : Nat} {xs : Nat → Int32} {D : va_G} {cI cB cW cL : ClassId} (C : LFix pp l ss mm cc bb Ls xs D cI cB cW cL) {o : Nat} {F : Nat → Int64} {ob nw tr : Nat → Nat} {qs : Nat → Nat → Nat} {sc : Nat → Nat} {N : kM} {S : Nat → kM} {n r L : Nat} {T : Nat → Int32} {z : Nat → Nat} {x : Nat → Int32} {hh : Int64} {Sp Ot Sv : Nat → Int32} {M : kM} (hV : LInv M S n r L T Sv x) {i : Nat} (hi : i + 5 ≤ Ls) {H : Heap} {locs : List Loc} {ls : Array Slot} {cells slots : Nat} {Q : State → Prop} (hc : cells + 1 ≤ 601024) (hs : slots + 6 ≤ 7293034) (hP : va_P D vwCl (wLaw cI cB cW cL o F ob nw tr qs sc (g_rot qs r) M N S n L T z x hh M Sp Ot Sv T) H) (hD : va_D (fun q : Nat => ss.heap.size ≤ q) (wLaw cI cB cW cL o F ob nw tr qs sc (g_rot qs r) M N S n L T z x hh M Sp Ot Sv T)) (hS : va_S (fun q : Nat => ss.heap.size ≤ q) ss.heap H locs) (hl : lv_has ls 9 [(0, .ref bb), (1, .ref (ob 0)), (2, .ref (z 0)), (3, .ref o), (4, .int (nI i))]) (kk : LNext pp l ee ss mm below meth cc bb D cI cB cW cL o ob nw tr qs sc z i cells slots Q) : W pp l ee room_1 ss mm #[Value.ref bb] below meth cc H locs cells slots Q (F0 mm 1631 ls []) := by
  exact law_visible__ok C hV hi hc hs hP hD hS hl kk

set_option maxHeartbeats 4000000 in
theorem law_clearText {pp : Program} {l : Launch} {ee : Env} {ss : State} {mm : MethodId} {below : List Frame} {meth : Method} {cc : Code} {bb Ls : Nat} {xs : Nat → Int32} {D : va_G} {cI cB cW cL : ClassId} (C : LFix pp l ss mm cc bb Ls xs D cI cB cW cL) {o : Nat} {F : Nat → Int64} {ob nw tr : Nat → Nat} {qs : Nat → Nat → Nat} {sc : Nat → Nat} {N : kM} {S : Nat → kM} {n r L : Nat} {T : Nat → Int32} {z : Nat → Nat} {x : Nat → Int32} {hh : Int64} {Sp Ot Sv : Nat → Int32} {M : kM} (hV : LInv M S n r L T Sv x) {i : Nat} (hi : i + 5 ≤ Ls) {H : Heap} {locs : List Loc} {ls : Array Slot} {cells slots : Nat} {Q : State → Prop} (hc : cells + 1 ≤ 601024) (hs : slots + 6 ≤ 7293034) (hP : va_P D vwCl (wLaw cI cB cW cL o F ob nw tr qs sc (g_rot qs r) M N S n L T z x hh M Sp Ot Sv T) H) (hD : va_D (fun q : Nat => ss.heap.size ≤ q) (wLaw cI cB cW cL o F ob nw tr qs sc (g_rot qs r) M N S n L T z x hh M Sp Ot Sv T)) (hS : va_S (fun q : Nat => ss.heap.size ≤ q) ss.heap H locs) (hl : lv_has ls 9 [(0, .ref bb), (1, .ref (ob 0)), (2, .ref (z 0)), (3, .ref o), (4, .int (nI i))]) (kk : LNext pp l ee ss mm below meth cc bb D cI cB cW cL o ob nw tr qs sc z i cells slots Q) : W pp l ee room_1 ss mm #[Value.ref bb] below meth cc H locs cells slots Q (F0 mm 1728 ls []) := by
  exact law_clearText__ok C hV hi hc hs hP hD hS hl kk

set_option maxHeartbeats 4000000 in
theorem law_digest {pp : Program} {l : Launch} {ee : Env} {ss : State} {mm : MethodId} {below : List Frame} {meth : Method} {cc : Code} {bb Ls : Nat} {xs : Nat → Int32} {D : va_G} {cI cB cW cL : ClassId} (C : LFix pp l ss mm cc bb Ls xs D cI cB cW cL) {o : Nat} {F : Nat → Int64} {ob nw tr : Nat → Nat} {qs : Nat → Nat → Nat} {sc : Nat → Nat} {N : kM} {S : Nat → kM} {n r L : Nat} {T : Nat → Int32} {z : Nat → Nat} {x : Nat → Int32} {hh : Int64} {Sp Ot Sv : Nat → Int32} {M : kM} (hV : LInv M S n r L T Sv x) {i : Nat} (hi : i + 5 ≤ Ls) {H : Heap} {locs : List Loc} {ls : Array Slot} {cells slots : Nat} {Q : State → Prop} (hc : cells + 1 ≤ 601024) (hs : slots + 6 ≤ 7293034) (hP : va_P D vwCl (wLaw cI cB cW cL o F ob nw tr qs sc (g_rot qs r) M N S n L T z x hh M Sp Ot Sv T) H) (hD : va_D (fun q : Nat => ss.heap.size ≤ q) (wLaw cI cB cW cL o F ob nw tr qs sc (g_rot qs r) M N S n L T z x hh M Sp Ot Sv T)) (hS : va_S (fun q : Nat => ss.heap.size ≤ q) ss.heap H locs) (hl : lv_has ls 9 [(0, .ref bb), (1, .ref (ob 0)), (2, .ref (z 0)), (3, .ref o), (4, .int (nI i))]) (kk : LNext pp l ee ss mm below meth cc bb D cI cB cW cL o ob nw tr qs sc z i cells slots Q) : W pp l ee room_1 ss mm #[Value.ref bb] below meth cc H locs cells slots Q (F0 mm 1798 ls []) := by
  exact law_digest__ok C hV hi hc hs hP hD hS hl kk
