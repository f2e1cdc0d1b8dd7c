/-! the law: its cells, what is fixed, what holds between its calls -/
abbrev wLaw (cI cB cW cL : ClassId) (o : Nat) (F : Nat → Int64) (ob nw tr : Nat → Nat) (qs : Nat → Nat → Nat) (sc : Nat → Nat) (G : Nat → Option Nat) (M N : kM) (S : Nat → kM) (n L : Nat) (T : Nat → Int32) (z : Nat → Nat) (x : Nat → Int32) (hh : Int64) (M2 Sp Ot Sv Tx : Nat → Int32) : va_W := wLX cI cB cW cL o F ob nw tr qs sc G M N S n L T ++ wMA cI z x hh M2 Sp Ot Sv Tx
section WLAW
variable {cI cB cW cL : ClassId} {o : Nat} {F F' : Nat → Int64} {ob nw tr : Nat → Nat} {qs : Nat → Nat → Nat} {sc : Nat → Nat} {G G' : Nat → Option Nat} {M N M' N' : kM} {S S' : Nat → kM} {n L n' L' : Nat} {T T' : Nat → Int32} {z : Nat → Nat} {x x' : Nat → Int32} {hh hh' : Int64} {M2 Sp Ot Sv Tx M2' Sp' Ot' Sv' Tx' : Nat → Int32}
theorem wLaw_LXC : [0, 1, 2, 3, 4, 5, 6, 7, 8, 9, 10, 11, 12, 13, 14, 15, 16, 17, 18, 19, 20, 21, 22, 23, 24, 25, 26, 27, 28, 29, 30, 31, 32, 33, 34, 35, 36, 37, 38, 39, 40, 41, 42, 43, 44, 45, 46, 47, 48, 49, 50, 51, 52, 53, 54, 55, 56, 57, 58, 59, 60, 61, 62, 63, 64, 65, 66, 67, 68, 69, 70, 71, 72, 73, 74, 75, 76, 77, 78, 79, 80, 81, 82, 83, 84, 85, 86, 87, 88, 89, 90, 91, 92, 93, 94].map (fun i => (wLaw cI cB cW cL o F ob nw tr qs sc G M N S n L T z x hh M2 Sp Ot Sv Tx)[i]?) = (wLX cI cB cW cL o F ob nw tr qs sc G M N S n L T).map some := kget_mid (wLX cI cB cW cL o F ob nw tr qs sc G M N S n L T) [] (wMA cI z x hh M2 Sp Ot Sv Tx)
theorem wLaw_LX : kset (wLaw cI cB cW cL o F ob nw tr qs sc G M N S n L T z x hh M2 Sp Ot Sv Tx) [0, 1, 2, 3, 4, 5, 6, 7, 8, 9, 10, 11, 12, 13, 14, 15, 16, 17, 18, 19, 20, 21, 22, 23, 24, 25, 26, 27, 28, 29, 30, 31, 32, 33, 34, 35, 36, 37, 38, 39, 40, 41, 42, 43, 44, 45, 46, 47, 48, 49, 50, 51, 52, 53, 54, 55, 56, 57, 58, 59, 60, 61, 62, 63, 64, 65, 66, 67, 68, 69, 70, 71, 72, 73, 74, 75, 76, 77, 78, 79, 80, 81, 82, 83, 84, 85, 86, 87, 88, 89, 90, 91, 92, 93, 94] (wLX cI cB cW cL o F' ob nw tr qs sc G' M' N' S' n' L' T') = wLaw cI cB cW cL o F' ob nw tr qs sc G' M' N' S' n' L' T' z x hh M2 Sp Ot Sv Tx := kset_mid (wLX cI cB cW cL o F ob nw tr qs sc G M N S n L T) (wLX cI cB cW cL o F' ob nw tr qs sc G' M' N' S' n' L' T') [] (wMA cI z x hh M2 Sp Ot Sv Tx) rfl
theorem wLaw_XC : [1, 2, 3, 4, 5, 6, 7, 8, 9, 10, 11, 12, 13, 14, 15, 16, 17, 18, 19, 20, 21, 22, 23, 24, 25, 26, 27, 28, 29, 30, 31, 32, 33, 34, 35, 36, 37, 38, 39, 40, 41, 42, 43, 44, 45, 46, 47, 48, 49, 50, 51, 52, 53, 54, 55, 56, 57, 58, 59, 60, 61, 62, 63, 64, 65, 66, 67, 68, 69, 70, 71, 72, 73, 74, 75, 76, 77, 78, 79, 80, 81, 82, 83, 84, 85, 86, 87, 88, 89, 90, 91, 92, 93, 94].map (fun i => (wLaw cI cB cW cL o F ob nw tr qs sc G M N S n L T z x hh M2 Sp Ot Sv Tx)[i]?) = (wX cI cB cW ob nw tr qs sc G M N S n L T).map some := kget_mid (wX cI cB cW ob nw tr qs sc G M N S n L T) [(o, .inl (cL, 1, .inr (.inl F)))] (wMA cI z x hh M2 Sp Ot Sv Tx)
theorem wLaw_X : kset (wLaw cI cB cW cL o F ob nw tr qs sc G M N S n L T z x hh M2 Sp Ot Sv Tx) [1, 2, 3, 4, 5, 6, 7, 8, 9, 10, 11, 12, 13, 14, 15, 16, 17, 18, 19, 20, 21, 22, 23, 24, 25, 26, 27, 28, 29, 30, 31, 32, 33, 34, 35, 36, 37, 38, 39, 40, 41, 42, 43, 44, 45, 46, 47, 48, 49, 50, 51, 52, 53, 54, 55, 56, 57, 58, 59, 60, 61, 62, 63, 64, 65, 66, 67, 68, 69, 70, 71, 72, 73, 74, 75, 76, 77, 78, 79, 80, 81, 82, 83, 84, 85, 86, 87, 88, 89, 90, 91, 92, 93, 94] (wX cI cB cW ob nw tr qs sc G' M' N' S' n' L' T') = wLaw cI cB cW cL o F ob nw tr qs sc G' M' N' S' n' L' T' z x hh M2 Sp Ot Sv Tx := kset_mid (wX cI cB cW ob nw tr qs sc G M N S n L T) (wX cI cB cW ob nw tr qs sc G' M' N' S' n' L' T') [(o, .inl (cL, 1, .inr (.inl F)))] (wMA cI z x hh M2 Sp Ot Sv Tx) rfl
theorem wLaw_MAC : [95, 96, 97, 98, 99, 100].map (fun i => (wLaw cI cB cW cL o F ob nw tr qs sc G M N S n L T z x hh M2 Sp Ot Sv Tx)[i]?) = (wMA cI z x hh M2 Sp Ot Sv Tx).map some := by
  have h := kget_mid (wMA cI z x hh M2 Sp Ot Sv Tx) (wLX cI cB cW cL o F ob nw tr qs sc G M N S n L T) []
  rw [List.append_nil] at h
  exact h
theorem wLaw_MA : kset (wLaw cI cB cW cL o F ob nw tr qs sc G M N S n L T z x hh M2 Sp Ot Sv Tx) [95, 96, 97, 98, 99, 100] (wMA cI z x' hh' M2' Sp' Ot' Sv' Tx') = wLaw cI cB cW cL o F ob nw tr qs sc G M N S n L T z x' hh' M2' Sp' Ot' Sv' Tx' := by
  have h := kset_mid (wMA cI z x hh M2 Sp Ot Sv Tx) (wMA cI z x' hh' M2' Sp' Ot' Sv' Tx') (wLX cI cB cW cL o F ob nw tr qs sc G M N S n L T) [] rfl
  rw [List.append_nil, List.append_nil] at h
  exact h
theorem wLaw_MoC : [95, 96].map (fun i => (wLaw cI cB cW cL o F ob nw tr qs sc G M N S n L T z x hh M2 Sp Ot Sv Tx)[i]?) = (wMo cI z x hh M2).map some := kget_mid (wMo cI z x hh M2) (wLX cI cB cW cL o F ob nw tr qs sc G M N S n L T) [(z 2, .inl (cI, 581, .inl Sp)), (z 3, .inl (cI, 581, .inl Ot)), (z 4, .inl (cI, 2324, .inl Sv)), (z 5, .inl (cI, 100, .inl Tx))]
theorem wLaw_Mo : kset (wLaw cI cB cW cL o F ob nw tr qs sc G M N S n L T z x hh M2 Sp Ot Sv Tx) [95, 96] (wMo cI z x' hh' M2') = wLaw cI cB cW cL o F ob nw tr qs sc G M N S n L T z x' hh' M2' Sp Ot Sv Tx := kset_mid (wMo cI z x hh M2) (wMo cI z x' hh' M2') (wLX cI cB cW cL o F ob nw tr qs sc G M N S n L T) [(z 2, .inl (cI, 581, .inl Sp)), (z 3, .inl (cI, 581, .inl Ot)), (z 4, .inl (cI, 2324, .inl Sv)), (z 5, .inl (cI, 100, .inl Tx))] rfl
theorem wLX_adr : (wLX cI cB cW cL o F' ob nw tr qs sc G' M' N' S' n' L' T').map (·.1) = (wLX cI cB cW cL o F ob nw tr qs sc G M N S n L T).map (·.1) := rfl
/-- the class's world under another description -/
theorem wLaw_M (h : ∀ k, k < 581 → M' k = M k) : wLaw cI cB cW cL o F ob nw tr qs sc G M N S n L T z x hh M2 Sp Ot Sv Tx = wLaw cI cB cW cL o F ob nw tr qs sc G M' N S n L T z x hh M2 Sp Ot Sv Tx := by
  have h9 : wW cI nw M' = wW cI nw M := wW_congr h
  unfold wLaw wLX wX
  rw [h9]
end WLAW
theorem nd_LX : va_nd [0, 1, 2, 3, 4, 5, 6, 7, 8, 9, 10, 11, 12, 13, 14, 15, 16, 17, 18, 19, 20, 21, 22, 23, 24, 25, 26, 27, 28, 29, 30, 31, 32, 33, 34, 35, 36, 37, 38, 39, 40, 41, 42, 43, 44, 45, 46, 47, 48, 49, 50, 51, 52, 53, 54, 55, 56, 57, 58, 59, 60, 61, 62, 63, 64, 65, 66, 67, 68, 69, 70, 71, 72, 73, 74, 75, 76, 77, 78, 79, 80, 81, 82, 83, 84, 85, 86, 87, 88, 89, 90, 91, 92, 93, 94] = true := by decide +kernel
/-- what is fixed in the law -/
def LFix (p : Program) (l : Launch) (s : State) (m : MethodId) (c : Code) (b Ls : Nat) (xs : Nat → Int32) (D : va_G) (cI cB cW cL : ClassId) : Prop :=
  p.tables.exec = Jvm.exec ∧ c.code = code ∧ c.maxLocals = 9 ∧ s.vm.findClass RL = some m.cls ∧ (∀ w ∈ wsL_law, w.before #[Value.ref b] s = true) ∧ va_X b Ls xs s s.heap ∧ b < s.heap.size ∧ l.stackTraces = false ∧ kZ (fun q => s.heap.size ≤ q) s s.heap ∧ kN s ∧ va_K D vwCl (kT cI cB cW cL) s ∧ Ls ≤ 2560
/-- what holds of both between two calls -/
def LInv (M : kM) (S : Nat → kM) (n r L : Nat) (T Sv x : Nat → Int32) : Prop :=
  kInv M ∧ n ≤ 4 ∧ r < 4 ∧ L ≤ 100 ∧ kTx T ∧ x 4 = nI n ∧ x 6 = nI L ∧ ∀ j, j < n → kInv (S ((j + r) % 4)) ∧ ∀ k, k < 581 → Sv (581 * j + k) = S ((j + r) % 4) k
theorem linv_x {M : kM} {S : Nat → kM} {n r L : Nat} {T Sv x x' : Nat → Int32} (h : LInv M S n r L T Sv x) (h4 : x' 4 = x 4) (h6 : x' 6 = x 6) : LInv M S n r L T Sv x' := by
  obtain ⟨a1, a2, a3, a4, a5, a6, a7, a8⟩ := h
  exact ⟨a1, a2, a3, a4, a5, h4.trans a6, h6.trans a7, a8⟩
theorem linv_keep {M M' : kM} {S : Nat → kM} {n r L : Nat} {T Sv x x' : Nat → Int32} (h : LInv M S n r L T Sv x) (hM : kInv M') (h4 : x' 4 = nI (g_kn n)) (h6 : x' 6 = x 6) : LInv M' (sset S (pj n r) M) (g_kn n) (rj n r) L T (g_keep Sv M n) x' := by
  obtain ⟨a1, a2, a3, a4, a5, a6, a7, a8⟩ := h
  by_cases hn : n = 4
  · subst hn
    refine ⟨hM, by decide, by unfold rj; rw [if_pos rfl]; omega, a4, a5, h4, h6.trans a7, fun j hj => ?_⟩
    have hj4 : j < 4 := hj
    rw [show rj 4 r = (r + 1) % 4 from if_pos rfl, show pj 4 r = r from if_pos rfl, keep_4]
    by_cases e : j = 3
    · subst e
      have e1 : (3 + (r + 1) % 4) % 4 = r := by omega
      rw [e1]
      refine ⟨by unfold sset; rw [if_pos rfl]; exact a1, fun k hk => ?_⟩
      unfold sset va_cpy
      rw [if_pos rfl, if_pos (by omega)]
      exact congrArg M (by omega)
    · have e1 : (j + (r + 1) % 4) % 4 = (j + 1 + r) % 4 := by omega
      have e2 : ¬ (j + 1 + r) % 4 = r := by omega
      rw [e1]
      obtain ⟨b1, b2⟩ := a8 (j + 1) (by omega)
      refine ⟨by unfold sset; rw [if_neg e2]; exact b1, fun k hk => ?_⟩
      unfold sset va_cpy g_shS
      rw [if_neg e2, if_neg (by omega), if_pos (by omega), ← b2 k hk]
      exact congrArg Sv (by omega)
  · have hk1 : g_kn n = n + 1 := kn_n hn
    refine ⟨hM, by omega, by rw [rj_n hn]; exact a3, a4, a5, h4, h6.trans a7, fun j hj => ?_⟩
    rw [rj_n hn, pj_n hn, keep_n hn]
    by_cases e : j = n
    · subst e
      refine ⟨by unfold sset; rw [if_pos rfl]; exact a1, fun k hk => ?_⟩
      unfold sset va_cpy
      rw [if_pos rfl, if_pos (by omega)]
      exact congrArg M (by omega)
    · have e2 : ¬ (j + r) % 4 = (n + r) % 4 := by omega
      obtain ⟨b1, b2⟩ := a8 j (by omega)
      refine ⟨by unfold sset; rw [if_neg e2]; exact b1, fun k hk => ?_⟩
      unfold sset va_cpy
      rw [if_neg e2, if_neg (by omega)]
      exact b2 k hk
theorem linv_app {M : kM} {S : Nat → kM} {n r L v : Nat} {T Sv x x' : Nat → Int32} (h : LInv M S n r L T Sv x) (hv : v ≤ 127) (hL : L < 100) (h4 : x' 4 = x 4) (h6 : x' 6 = nI (L + 1)) : LInv M S n r (L + 1) (upd T (L) (nI v)) Sv x' := by
  obtain ⟨a1, a2, a3, a4, a5, a6, a7, a8⟩ := h
  exact ⟨a1, a2, a3, hL, t_upd a5 (by omega), h4.trans a6, h6, a8⟩
theorem linv_clr {M : kM} {S : Nat → kM} {n r L : Nat} {T Sv x x' : Nat → Int32} (h : LInv M S n r L T Sv x) (h4 : x' 4 = x 4) (h6 : x' 6 = nI 0) : LInv M S n r 0 T Sv x' := by
  obtain ⟨a1, a2, a3, a4, a5, a6, a7, a8⟩ := h
  exact ⟨a1, a2, a3, by omega, a5, h4.trans a6, h6, a8⟩
theorem linv_congr {M M' : kM} (h : kInv M) (e : ∀ k, k < 581 → M' k = M k) : kInv M' := by
  obtain ⟨a1, a2, a3, a4, a5, a6, a7⟩ := h
  refine ⟨fun i hi => ?_, fun i hi => ?_, fun i hi => ?_, ?_, ?_, fun i hi => ?_, fun i hi => ?_⟩
  · rw [e _ (by omega)]; exact a1 i hi
  · rw [e _ (by omega)]; exact a2 i hi
  · rw [e _ (by omega)]; exact a3 i hi
  · rw [e _ (by omega)]; exact a4
  · rw [e _ (by omega)]; exact a5
  · rw [e _ (by omega)]; exact a6 i hi
  · rw [e _ (by omega)]; exact a7 i hi
theorem undo_M {M : kM} {S : Nat → kM} {k r L : Nat} {T Sv x : Nat → Int32} (h : LInv M S (k + 1) r L T Sv x) : ∀ j, j < 581 → va_cpy Sv M (581 * k) 0 581 j = S ((k + r) % 4) j := by
  obtain ⟨a1, a2, a3, a4, a5, a6, a7, a8⟩ := h
  intro j hj
  obtain ⟨b1, b2⟩ := a8 k (by omega)
  unfold va_cpy
  rw [if_pos (by omega), ← b2 j hj]
  exact congrArg Sv (by omega)
theorem linv_undo {M : kM} {S : Nat → kM} {k r L : Nat} {T Sv x x' : Nat → Int32} (h : LInv M S (k + 1) r L T Sv x) (h4 : x' 4 = nI k) (h6 : x' 6 = x 6) : LInv (va_cpy Sv M (581 * k) 0 581) S k r L T Sv x' := by
  have hm := undo_M h
  obtain ⟨a1, a2, a3, a4, a5, a6, a7, a8⟩ := h
  exact ⟨linv_congr (a8 k (by omega)).1 hm, by omega, a3, a4, a5, h4, h6.trans a7, fun j hj => a8 j (by omega)⟩
theorem and_31 (v : Int32) : ∃ n : Nat, n < 32 ∧ v &&& 31 = nI n := by
  obtain ⟨n, hn⟩ : ∃ n : Nat, n = (v &&& 31).toUInt32.toNat := ⟨_, rfl⟩
  have h : (v &&& 31).toUInt32.toNat < 32 := by
    have e1 : (v &&& 31).toUInt32.toNat = v.toUInt32.toNat &&& 31 := by
      rw [Int32.toUInt32_and, UInt32.toNat_and]
      rfl
    rw [e1]
    exact Nat.lt_of_le_of_lt Nat.and_le_right (by omega)
  refine ⟨n, by omega, ?_⟩
  have e : (v &&& 31).toUInt32 = UInt32.ofNat (v &&& 31).toUInt32.toNat := UInt32.ofNat_toNat.symm
  have e2 : v &&& 31 = nI (v &&& 31).toUInt32.toNat := congrArg Int32.ofUInt32 e
  rw [hn]
  exact e2
section KL
variable {p : Program} {l : Launch} {e : Env} {R : Room} {s : State} {m : MethodId} {args : Array Value} {below : List Frame} {meth : Method} {c : Code} {cc : ByteArray} {H H0 : Heap} {locs : List Loc} {cells slots : Nat} {Q : State → Prop} {pc : Nat} {ls : Array Slot} {rest st0 : List Value} {D : va_G} {cl : List vw_C} {tys : List (ClassId × FieldType)} {ws : va_W} {A : Nat → Prop}
theorem kl_sld (hx : p.tables.exec = Jvm.exec) (hb : c.code = cc) {b L : Nat} {xs : Nat → Int32} (hX : va_X b L xs s H0) (hbl : b < H0.size) (hbA : ¬ A b) (hS : va_S A H0 H locs) {k : Nat} (hk : k < L) (hL : L ≤ 2560) (hdg : decode cc pc = .ok (.iaload, 1))
    (kk : W p l e R s m args below meth c H locs cells slots Q (F0 m (pc + 1) ls (.int (xs k) :: rest))) : W p l e R s m args below meth c H locs cells slots Q (F0 m pc ls (.int (nI k) :: .ref b :: rest)) := by
  refine va_sld hx hb hX hbl hbA hS (vp_in_nI hk (by omega)) hdg ?_
  rw [nI_clamp (by omega)]
  exact kk
theorem kl_lald (hx : p.tables.exec = Jvm.exec) (hb : c.code = cc) (hK : va_K D cl tys s) (hP : va_P D cl ws H) (q0 t0 : Nat) {a : Nat} {cA : ClassId} {n : Nat} {f : Nat → Int64} (ha : ws[q0]? = some (a, .inl (cA, n, .inr (.inl f)))) (ht : tys[t0]? = some (cA, .long)) {k : Nat} {v : Int64} (hk : k < n) (hn : n < 2 ^ 31) (hv : f k = v) (hdg : decode cc pc = .ok (.laload, 1))
    (kk : W p l e R s m args below meth c H locs cells slots Q (F0 m (pc + 1) ls (.long v :: rest))) : W p l e R s m args below meth c H locs cells slots Q (F0 m pc ls (.int (nI k) :: .ref a :: rest)) := by
  subst hv
  refine va_lald hx hb hK hP q0 t0 ha ht (vp_in_nI hk hn) hdg ?_
  rw [nI_clamp (Nat.lt_trans hk hn)]
  exact kk
theorem kl_lcmp (hx : p.tables.exec = Jvm.exec) (hb : c.code = cc) {x y : Int64} (h : x = y) (hdg : decode cc pc = .ok (.lcmp, 1))
    (kk : W p l e R s m args below meth c H locs cells slots Q (F0 m (pc + 1) ls (.int (nI 0) :: rest))) : W p l e R s m args below meth c H locs cells slots Q (F0 m pc ls (.long y :: .long x :: rest)) := by
  refine W.lcmp hx hb hdg ?_
  rw [(lg_cmp_eq x y).mpr h]
  exact kk
theorem kl_dcmp (hx : p.tables.exec = Jvm.exec) (hb : c.code = cc) {n : Nat} (h : n < 37) (hdg : decode cc pc = .ok (.dcmp .l, 1))
    (kk : W p l e R s m args below meth c H locs cells slots Q (F0 m (pc + 1) ls (.int (nI 0) :: rest))) : W p l e R s m args below meth c H locs cells slots Q (F0 m pc ls (.double (g_share n) :: .double (g_share n) :: rest)) := by
  refine lv_dcmp hx hb hdg ?_
  rw [share_cmp n h]
  exact kk
end KL
theorem why_u {u w : Int32} (h : g_usr u = false) : g_why u w = nI 1 := by
  unfold g_why
  rw [if_neg (fun q => by rw [h] at q; cases q.1)]
  rfl
theorem seat_u {u w : Int32} (h : g_usr u = false) : g_seatok u w = false := by
  unfold g_seatok
  rw [h]
  rfl
theorem seat_s {u w : Int32} (h : g_in w 0 2 = false) : g_seatok u w = false := by
  unfold g_seatok
  rw [h, Bool.and_false]
theorem in_split {t : Int32} (h : g_in t (-9) 9 = true) : ¬ t < -9 ∧ ¬ 9 < t := by
  unfold g_in at h
  simpa using h
