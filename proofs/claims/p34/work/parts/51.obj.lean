/-! the object: the world now, the trial, four saved worlds in a turning row, the script -/
def g_rot (qs : Nat → Nat → Nat) (r : Nat) : Nat → Option Nat := fun i => if i < 4 then some (qs ((i + r) % 4) 0) else none
def sset (S : Nat → kM) (j : Nat) (M : kM) : Nat → kM := fun i => if i = j then M else S i
def pj (n r : Nat) : Nat := if n = 4 then r else (n + r) % 4
def rj (n r : Nat) : Nat := if n = 4 then (r + 1) % 4 else r
abbrev wX (cI cB cW : ClassId) (ob nw tr : Nat → Nat) (qs : Nat → Nat → Nat) (sc : Nat → Nat) (G : Nat → Option Nat) (M N : kM) (S : Nat → kM) (n L : Nat) (T : Nat → Int32) : va_W :=
  [(ob 0, .inr (6, [.ref (nw 0), .ref (tr 0), .ref (ob 1), .ref (sc 0), .int (nI n)])), (ob 1, .inl (cW, 4, .inr (.inr (.inr (.inr G)))))] ++ (wW cI nw M ++ (wW cI tr N ++ (wW cI (qs 0) (S 0) ++ (wW cI (qs 1) (S 1) ++ (wW cI (qs 2) (S 2) ++ (wW cI (qs 3) (S 3) ++ wSc cB sc L T))))))
/-! cells in a row put in place: no list is walked -/
theorem kset_mid : ∀ (b x a c : va_W), x.length = b.length → kset (a ++ (b ++ c)) (List.range' a.length b.length) x = a ++ (x ++ c)
  | [], [], a, c, _ => rfl
  | [], _ :: _, _, _, h => by simp at h
  | _ :: _, [], _, _, h => by simp at h
  | y :: b, w :: x, a, c, h => by
    have ih := kset_mid b x (a ++ [w]) c (by simpa using h)
    rw [List.length_append, List.length_singleton] at ih
    show kset ((a ++ (y :: (b ++ c))).set a.length w) (List.range' (a.length + 1) b.length) x = a ++ (w :: (x ++ c))
    rw [show (a ++ (y :: (b ++ c))).set a.length w = (a ++ [w]) ++ (b ++ c) by rw [List.set_append_right _ _ (Nat.le_refl _), Nat.sub_self, List.set_cons_zero, List.append_assoc, List.singleton_append], ih, List.append_assoc, List.singleton_append]
theorem kget_mid : ∀ (b a c : va_W), (List.range' a.length b.length).map (fun i => (a ++ (b ++ c))[i]?) = b.map some
  | [], _, _ => rfl
  | y :: b, a, c => by
    have ih := kget_mid b (a ++ [y]) c
    rw [List.length_append, List.length_singleton] at ih
    show (a ++ (y :: (b ++ c)))[a.length]? :: (List.range' (a.length + 1) b.length).map (fun i => (a ++ (y :: (b ++ c)))[i]?) = some y :: b.map some
    rw [List.getElem?_append_right (Nat.le_refl _), Nat.sub_self, List.getElem?_cons_zero, ← ih, List.append_assoc, List.singleton_append]
theorem kset_app2 : ∀ (l1 : List Nat) (x1 ws : va_W) (l2 : List Nat) (x2 : va_W), x1.length = l1.length → kset ws (l1 ++ l2) (x1 ++ x2) = kset (kset ws l1 x1) l2 x2
  | [], [], ws, l2, x2, _ => by rw [kset_nil]; rfl
  | [], _ :: _, _, _, _, h => by simp at h
  | _ :: _, [], _, _, _, h => by simp at h
  | i :: l1, y :: x1, ws, l2, x2, h => kset_app2 l1 x1 (ws.set i y) l2 x2 (by simpa using h)
theorem kget_app2 {ws b1 b2 : va_W} {l1 l2 : List Nat} (h1 : l1.map (fun i => ws[i]?) = b1.map some) (h2 : l2.map (fun i => ws[i]?) = b2.map some) : (l1 ++ l2).map (fun i => ws[i]?) = (b1 ++ b2).map some := by
  rw [List.map_append, List.map_append, h1, h2]
theorem kset_all {ws x : va_W} (h : x.length = ws.length) : kset ws (List.range' 0 ws.length) x = x := by
  have := kset_mid ws x [] [] h
  simpa using this
theorem kget_all {ws : va_W} : (List.range' 0 ws.length).map (fun i => ws[i]?) = ws.map some := by
  have := kget_mid ws [] []
  simpa using this
abbrev wHd (cW : ClassId) (ob nw tr sc : Nat → Nat) (G : Nat → Option Nat) (n : Nat) : va_W := [(ob 0, .inr (6, [.ref (nw 0), .ref (tr 0), .ref (ob 1), .ref (sc 0), .int (nI n)])), (ob 1, .inl (cW, 4, .inr (.inr (.inr (.inr G)))))]
section WX
variable {cI cB cW : ClassId} {ob nw tr : Nat → Nat} {qs : Nat → Nat → Nat} {sc : Nat → Nat} {G G' : Nat → Option Nat} {M N M' N' : kM} {S S' : Nat → kM} {n L n' L' : Nat} {T T' : Nat → Int32}
theorem wX_nw_e : wX cI cB cW ob nw tr qs sc G M N S n L T = (wHd cW ob nw tr sc G n) ++ (wW cI nw M ++ (wW cI tr N ++ (wW cI (qs 0) (S 0) ++ (wW cI (qs 1) (S 1) ++ (wW cI (qs 2) (S 2) ++ (wW cI (qs 3) (S 3) ++ (wSc cB sc L T))))))) := rfl
theorem wX_nw_WC : [2, 3, 4, 5, 6, 7, 8, 9, 10, 11, 12, 13, 14, 15, 16].map (fun i => (wX cI cB cW ob nw tr qs sc G M N S n L T)[i]?) = (wW cI nw M).map some := by
  rw [wX_nw_e]
  exact kget_mid (wW cI nw M) (wHd cW ob nw tr sc G n) (wW cI tr N ++ (wW cI (qs 0) (S 0) ++ (wW cI (qs 1) (S 1) ++ (wW cI (qs 2) (S 2) ++ (wW cI (qs 3) (S 3) ++ (wSc cB sc L T))))))
theorem wX_nw_SeC : [3, 4, 5, 6].map (fun i => (wX cI cB cW ob nw tr qs sc G M N S n L T)[i]?) = (wSe cI nw M).map some := rfl
theorem wX_nw_RoC : [7, 8, 9, 10].map (fun i => (wX cI cB cW ob nw tr qs sc G M N S n L T)[i]?) = (wRo cI nw M).map some := rfl
theorem wX_nw_ViC : [11, 12].map (fun i => (wX cI cB cW ob nw tr qs sc G M N S n L T)[i]?) = (wVi cI nw M).map some := rfl
theorem wX_nw_PoC : [13, 14, 15].map (fun i => (wX cI cB cW ob nw tr qs sc G M N S n L T)[i]?) = (wPo cI nw M).map some := rfl
theorem wX_nw_W : kset (wX cI cB cW ob nw tr qs sc G M N S n L T) [2, 3, 4, 5, 6, 7, 8, 9, 10, 11, 12, 13, 14, 15, 16] (wW cI nw M') = wX cI cB cW ob nw tr qs sc G M' N S n L T := by
  rw [wX_nw_e]
  exact kset_mid (wW cI nw M) (wW cI nw M') (wHd cW ob nw tr sc G n) (wW cI tr N ++ (wW cI (qs 0) (S 0) ++ (wW cI (qs 1) (S 1) ++ (wW cI (qs 2) (S 2) ++ (wW cI (qs 3) (S 3) ++ (wSc cB sc L T)))))) rfl
theorem wX_tr_e : wX cI cB cW ob nw tr qs sc G M N S n L T = (wHd cW ob nw tr sc G n ++ (wW cI nw M)) ++ (wW cI tr N ++ (wW cI (qs 0) (S 0) ++ (wW cI (qs 1) (S 1) ++ (wW cI (qs 2) (S 2) ++ (wW cI (qs 3) (S 3) ++ (wSc cB sc L T)))))) := rfl
theorem wX_tr_WC : [17, 18, 19, 20, 21, 22, 23, 24, 25, 26, 27, 28, 29, 30, 31].map (fun i => (wX cI cB cW ob nw tr qs sc G M N S n L T)[i]?) = (wW cI tr N).map some := by
  rw [wX_tr_e]
  exact kget_mid (wW cI tr N) (wHd cW ob nw tr sc G n ++ (wW cI nw M)) (wW cI (qs 0) (S 0) ++ (wW cI (qs 1) (S 1) ++ (wW cI (qs 2) (S 2) ++ (wW cI (qs 3) (S 3) ++ (wSc cB sc L T)))))
theorem wX_tr_SeC : [18, 19, 20, 21].map (fun i => (wX cI cB cW ob nw tr qs sc G M N S n L T)[i]?) = (wSe cI tr N).map some := rfl
theorem wX_tr_RoC : [22, 23, 24, 25].map (fun i => (wX cI cB cW ob nw tr qs sc G M N S n L T)[i]?) = (wRo cI tr N).map some := rfl
theorem wX_tr_ViC : [26, 27].map (fun i => (wX cI cB cW ob nw tr qs sc G M N S n L T)[i]?) = (wVi cI tr N).map some := rfl
theorem wX_tr_PoC : [28, 29, 30].map (fun i => (wX cI cB cW ob nw tr qs sc G M N S n L T)[i]?) = (wPo cI tr N).map some := rfl
theorem wX_tr_W : kset (wX cI cB cW ob nw tr qs sc G M N S n L T) [17, 18, 19, 20, 21, 22, 23, 24, 25, 26, 27, 28, 29, 30, 31] (wW cI tr N') = wX cI cB cW ob nw tr qs sc G M N' S n L T := by
  rw [wX_tr_e]
  exact kset_mid (wW cI tr N) (wW cI tr N') (wHd cW ob nw tr sc G n ++ (wW cI nw M)) (wW cI (qs 0) (S 0) ++ (wW cI (qs 1) (S 1) ++ (wW cI (qs 2) (S 2) ++ (wW cI (qs 3) (S 3) ++ (wSc cB sc L T))))) rfl
theorem wX_q0_e : wX cI cB cW ob nw tr qs sc G M N S n L T = (wHd cW ob nw tr sc G n ++ (wW cI nw M ++ (wW cI tr N))) ++ (wW cI (qs 0) (S 0) ++ (wW cI (qs 1) (S 1) ++ (wW cI (qs 2) (S 2) ++ (wW cI (qs 3) (S 3) ++ (wSc cB sc L T))))) := rfl
theorem wX_q0_WC : [32, 33, 34, 35, 36, 37, 38, 39, 40, 41, 42, 43, 44, 45, 46].map (fun i => (wX cI cB cW ob nw tr qs sc G M N S n L T)[i]?) = (wW cI (qs 0) (S 0)).map some := by
  rw [wX_q0_e]
  exact kget_mid (wW cI (qs 0) (S 0)) (wHd cW ob nw tr sc G n ++ (wW cI nw M ++ (wW cI tr N))) (wW cI (qs 1) (S 1) ++ (wW cI (qs 2) (S 2) ++ (wW cI (qs 3) (S 3) ++ (wSc cB sc L T))))
theorem wX_q0_W : kset (wX cI cB cW ob nw tr qs sc G M N S n L T) [32, 33, 34, 35, 36, 37, 38, 39, 40, 41, 42, 43, 44, 45, 46] (wW cI (qs 0) M') = wX cI cB cW ob nw tr qs sc G M N (sset S 0 M') n L T := by
  rw [wX_q0_e]
  exact kset_mid (wW cI (qs 0) (S 0)) (wW cI (qs 0) M') (wHd cW ob nw tr sc G n ++ (wW cI nw M ++ (wW cI tr N))) (wW cI (qs 1) (S 1) ++ (wW cI (qs 2) (S 2) ++ (wW cI (qs 3) (S 3) ++ (wSc cB sc L T)))) rfl
theorem wX_q1_e : wX cI cB cW ob nw tr qs sc G M N S n L T = (wHd cW ob nw tr sc G n ++ (wW cI nw M ++ (wW cI tr N ++ (wW cI (qs 0) (S 0))))) ++ (wW cI (qs 1) (S 1) ++ (wW cI (qs 2) (S 2) ++ (wW cI (qs 3) (S 3) ++ (wSc cB sc L T)))) := rfl
theorem wX_q1_WC : [47, 48, 49, 50, 51, 52, 53, 54, 55, 56, 57, 58, 59, 60, 61].map (fun i => (wX cI cB cW ob nw tr qs sc G M N S n L T)[i]?) = (wW cI (qs 1) (S 1)).map some := by
  rw [wX_q1_e]
  exact kget_mid (wW cI (qs 1) (S 1)) (wHd cW ob nw tr sc G n ++ (wW cI nw M ++ (wW cI tr N ++ (wW cI (qs 0) (S 0))))) (wW cI (qs 2) (S 2) ++ (wW cI (qs 3) (S 3) ++ (wSc cB sc L T)))
theorem wX_q1_W : kset (wX cI cB cW ob nw tr qs sc G M N S n L T) [47, 48, 49, 50, 51, 52, 53, 54, 55, 56, 57, 58, 59, 60, 61] (wW cI (qs 1) M') = wX cI cB cW ob nw tr qs sc G M N (sset S 1 M') n L T := by
  rw [wX_q1_e]
  exact kset_mid (wW cI (qs 1) (S 1)) (wW cI (qs 1) M') (wHd cW ob nw tr sc G n ++ (wW cI nw M ++ (wW cI tr N ++ (wW cI (qs 0) (S 0))))) (wW cI (qs 2) (S 2) ++ (wW cI (qs 3) (S 3) ++ (wSc cB sc L T))) rfl
theorem wX_q2_e : wX cI cB cW ob nw tr qs sc G M N S n L T = (wHd cW ob nw tr sc G n ++ (wW cI nw M ++ (wW cI tr N ++ (wW cI (qs 0) (S 0) ++ (wW cI (qs 1) (S 1)))))) ++ (wW cI (qs 2) (S 2) ++ (wW cI (qs 3) (S 3) ++ (wSc cB sc L T))) := rfl
theorem wX_q2_WC : [62, 63, 64, 65, 66, 67, 68, 69, 70, 71, 72, 73, 74, 75, 76].map (fun i => (wX cI cB cW ob nw tr qs sc G M N S n L T)[i]?) = (wW cI (qs 2) (S 2)).map some := by
  rw [wX_q2_e]
  exact kget_mid (wW cI (qs 2) (S 2)) (wHd cW ob nw tr sc G n ++ (wW cI nw M ++ (wW cI tr N ++ (wW cI (qs 0) (S 0) ++ (wW cI (qs 1) (S 1)))))) (wW cI (qs 3) (S 3) ++ (wSc cB sc L T))
theorem wX_q2_W : kset (wX cI cB cW ob nw tr qs sc G M N S n L T) [62, 63, 64, 65, 66, 67, 68, 69, 70, 71, 72, 73, 74, 75, 76] (wW cI (qs 2) M') = wX cI cB cW ob nw tr qs sc G M N (sset S 2 M') n L T := by
  rw [wX_q2_e]
  exact kset_mid (wW cI (qs 2) (S 2)) (wW cI (qs 2) M') (wHd cW ob nw tr sc G n ++ (wW cI nw M ++ (wW cI tr N ++ (wW cI (qs 0) (S 0) ++ (wW cI (qs 1) (S 1)))))) (wW cI (qs 3) (S 3) ++ (wSc cB sc L T)) rfl
theorem wX_q3_e : wX cI cB cW ob nw tr qs sc G M N S n L T = (wHd cW ob nw tr sc G n ++ (wW cI nw M ++ (wW cI tr N ++ (wW cI (qs 0) (S 0) ++ (wW cI (qs 1) (S 1) ++ (wW cI (qs 2) (S 2))))))) ++ (wW cI (qs 3) (S 3) ++ (wSc cB sc L T)) := rfl
theorem wX_q3_WC : [77, 78, 79, 80, 81, 82, 83, 84, 85, 86, 87, 88, 89, 90, 91].map (fun i => (wX cI cB cW ob nw tr qs sc G M N S n L T)[i]?) = (wW cI (qs 3) (S 3)).map some := by
  rw [wX_q3_e]
  exact kget_mid (wW cI (qs 3) (S 3)) (wHd cW ob nw tr sc G n ++ (wW cI nw M ++ (wW cI tr N ++ (wW cI (qs 0) (S 0) ++ (wW cI (qs 1) (S 1) ++ (wW cI (qs 2) (S 2))))))) (wSc cB sc L T)
theorem wX_q3_W : kset (wX cI cB cW ob nw tr qs sc G M N S n L T) [77, 78, 79, 80, 81, 82, 83, 84, 85, 86, 87, 88, 89, 90, 91] (wW cI (qs 3) M') = wX cI cB cW ob nw tr qs sc G M N (sset S 3 M') n L T := by
  rw [wX_q3_e]
  exact kset_mid (wW cI (qs 3) (S 3)) (wW cI (qs 3) M') (wHd cW ob nw tr sc G n ++ (wW cI nw M ++ (wW cI tr N ++ (wW cI (qs 0) (S 0) ++ (wW cI (qs 1) (S 1) ++ (wW cI (qs 2) (S 2))))))) (wSc cB sc L T) rfl
theorem wX_sc_e : wX cI cB cW ob nw tr qs sc G M N S n L T = (wHd cW ob nw tr sc G n ++ (wW cI nw M ++ (wW cI tr N ++ (wW cI (qs 0) (S 0) ++ (wW cI (qs 1) (S 1) ++ (wW cI (qs 2) (S 2) ++ (wW cI (qs 3) (S 3)))))))) ++ (wSc cB sc L T ++ ([])) := rfl
theorem wX_scC : [92, 93].map (fun i => (wX cI cB cW ob nw tr qs sc G M N S n L T)[i]?) = (wSc cB sc L T).map some := by
  rw [wX_sc_e]
  exact kget_mid (wSc cB sc L T) (wHd cW ob nw tr sc G n ++ (wW cI nw M ++ (wW cI tr N ++ (wW cI (qs 0) (S 0) ++ (wW cI (qs 1) (S 1) ++ (wW cI (qs 2) (S 2) ++ (wW cI (qs 3) (S 3)))))))) ([])
theorem wX_sc : kset (wX cI cB cW ob nw tr qs sc G M N S n L T) [92, 93] (wSc cB sc L' T') = wX cI cB cW ob nw tr qs sc G M N S n L' T' := by
  rw [wX_sc_e]
  exact kset_mid (wSc cB sc L T) (wSc cB sc L' T') (wHd cW ob nw tr sc G n ++ (wW cI nw M ++ (wW cI tr N ++ (wW cI (qs 0) (S 0) ++ (wW cI (qs 1) (S 1) ++ (wW cI (qs 2) (S 2) ++ (wW cI (qs 3) (S 3)))))))) ([]) rfl
theorem wX_allC : [0, 1, 2, 3, 4, 5, 6, 7, 8, 9, 10, 11, 12, 13, 14, 15, 16, 17, 18, 19, 20, 21, 22, 23, 24, 25, 26, 27, 28, 29, 30, 31, 32, 33, 34, 35, 36, 37, 38, 39, 40, 41, 42, 43, 44, 45, 46, 47, 48, 49, 50, 51, 52, 53, 54, 55, 56, 57, 58, 59, 60, 61, 62, 63, 64, 65, 66, 67, 68, 69, 70, 71, 72, 73, 74, 75, 76, 77, 78, 79, 80, 81, 82, 83, 84, 85, 86, 87, 88, 89, 90, 91, 92, 93].map (fun i => (wX cI cB cW ob nw tr qs sc G M N S n L T)[i]?) = (wX cI cB cW ob nw tr qs sc G M N S n L T).map some := kget_all (ws := wX cI cB cW ob nw tr qs sc G M N S n L T)
theorem wX_all : kset (wX cI cB cW ob nw tr qs sc G M N S n L T) [0, 1, 2, 3, 4, 5, 6, 7, 8, 9, 10, 11, 12, 13, 14, 15, 16, 17, 18, 19, 20, 21, 22, 23, 24, 25, 26, 27, 28, 29, 30, 31, 32, 33, 34, 35, 36, 37, 38, 39, 40, 41, 42, 43, 44, 45, 46, 47, 48, 49, 50, 51, 52, 53, 54, 55, 56, 57, 58, 59, 60, 61, 62, 63, 64, 65, 66, 67, 68, 69, 70, 71, 72, 73, 74, 75, 76, 77, 78, 79, 80, 81, 82, 83, 84, 85, 86, 87, 88, 89, 90, 91, 92, 93] (wX cI cB cW ob nw tr qs sc G' M' N' S' n' L' T') = wX cI cB cW ob nw tr qs sc G' M' N' S' n' L' T' := kset_all (ws := wX cI cB cW ob nw tr qs sc G M N S n L T) (x := wX cI cB cW ob nw tr qs sc G' M' N' S' n' L' T') rfl
theorem wX_adr : (wX cI cB cW ob nw tr qs sc G' M' N' S' n' L' T').map (·.1) = (wX cI cB cW ob nw tr qs sc G M N S n L T).map (·.1) := rfl
theorem wX_cp_tr_nwC : [17, 18, 19, 20, 21, 22, 23, 24, 25, 26, 27, 28, 29, 30, 31, 2, 3, 4, 5, 6, 7, 8, 9, 10, 11, 12, 13, 14, 15, 16].map (fun i => (wX cI cB cW ob nw tr qs sc G M N S n L T)[i]?) = (w2W cI tr nw N M).map some := kget_app2 (l1 := [17, 18, 19, 20, 21, 22, 23, 24, 25, 26, 27, 28, 29, 30, 31]) (l2 := [2, 3, 4, 5, 6, 7, 8, 9, 10, 11, 12, 13, 14, 15, 16]) wX_tr_WC wX_nw_WC
theorem wX_cp_tr_nw : kset (wX cI cB cW ob nw tr qs sc G M N S n L T) [17, 18, 19, 20, 21, 22, 23, 24, 25, 26, 27, 28, 29, 30, 31, 2, 3, 4, 5, 6, 7, 8, 9, 10, 11, 12, 13, 14, 15, 16] (w2W cI tr nw M M) = wX cI cB cW ob nw tr qs sc G M M S n L T := by
  refine (kset_app2 [17, 18, 19, 20, 21, 22, 23, 24, 25, 26, 27, 28, 29, 30, 31] (wW cI tr M) _ [2, 3, 4, 5, 6, 7, 8, 9, 10, 11, 12, 13, 14, 15, 16] (wW cI nw M) rfl).trans ?_
  rw [wX_tr_W]
  exact kset_same _ _ _ (wX_nw_WC)
theorem wX_cp_nw_trC : [2, 3, 4, 5, 6, 7, 8, 9, 10, 11, 12, 13, 14, 15, 16, 17, 18, 19, 20, 21, 22, 23, 24, 25, 26, 27, 28, 29, 30, 31].map (fun i => (wX cI cB cW ob nw tr qs sc G M N S n L T)[i]?) = (w2W cI nw tr M N).map some := kget_app2 (l1 := [2, 3, 4, 5, 6, 7, 8, 9, 10, 11, 12, 13, 14, 15, 16]) (l2 := [17, 18, 19, 20, 21, 22, 23, 24, 25, 26, 27, 28, 29, 30, 31]) wX_nw_WC wX_tr_WC
theorem wX_cp_nw_tr : kset (wX cI cB cW ob nw tr qs sc G M N S n L T) [2, 3, 4, 5, 6, 7, 8, 9, 10, 11, 12, 13, 14, 15, 16, 17, 18, 19, 20, 21, 22, 23, 24, 25, 26, 27, 28, 29, 30, 31] (w2W cI nw tr N N) = wX cI cB cW ob nw tr qs sc G N N S n L T := by
  refine (kset_app2 [2, 3, 4, 5, 6, 7, 8, 9, 10, 11, 12, 13, 14, 15, 16] (wW cI nw N) _ [17, 18, 19, 20, 21, 22, 23, 24, 25, 26, 27, 28, 29, 30, 31] (wW cI tr N) rfl).trans ?_
  rw [wX_nw_W]
  exact kset_same _ _ _ (wX_tr_WC)
theorem wX_cp_q0_nwC : [32, 33, 34, 35, 36, 37, 38, 39, 40, 41, 42, 43, 44, 45, 46, 2, 3, 4, 5, 6, 7, 8, 9, 10, 11, 12, 13, 14, 15, 16].map (fun i => (wX cI cB cW ob nw tr qs sc G M N S n L T)[i]?) = (w2W cI (qs 0) nw (S 0) M).map some := kget_app2 (l1 := [32, 33, 34, 35, 36, 37, 38, 39, 40, 41, 42, 43, 44, 45, 46]) (l2 := [2, 3, 4, 5, 6, 7, 8, 9, 10, 11, 12, 13, 14, 15, 16]) wX_q0_WC wX_nw_WC
theorem wX_cp_q0_nw : kset (wX cI cB cW ob nw tr qs sc G M N S n L T) [32, 33, 34, 35, 36, 37, 38, 39, 40, 41, 42, 43, 44, 45, 46, 2, 3, 4, 5, 6, 7, 8, 9, 10, 11, 12, 13, 14, 15, 16] (w2W cI (qs 0) nw M M) = wX cI cB cW ob nw tr qs sc G M N (sset S 0 M) n L T := by
  refine (kset_app2 [32, 33, 34, 35, 36, 37, 38, 39, 40, 41, 42, 43, 44, 45, 46] (wW cI (qs 0) M) _ [2, 3, 4, 5, 6, 7, 8, 9, 10, 11, 12, 13, 14, 15, 16] (wW cI nw M) rfl).trans ?_
  rw [wX_q0_W]
  exact kset_same _ _ _ (wX_nw_WC)
theorem wX_cp_nw_q0C : [2, 3, 4, 5, 6, 7, 8, 9, 10, 11, 12, 13, 14, 15, 16, 32, 33, 34, 35, 36, 37, 38, 39, 40, 41, 42, 43, 44, 45, 46].map (fun i => (wX cI cB cW ob nw tr qs sc G M N S n L T)[i]?) = (w2W cI nw (qs 0) M (S 0)).map some := kget_app2 (l1 := [2, 3, 4, 5, 6, 7, 8, 9, 10, 11, 12, 13, 14, 15, 16]) (l2 := [32, 33, 34, 35, 36, 37, 38, 39, 40, 41, 42, 43, 44, 45, 46]) wX_nw_WC wX_q0_WC
theorem wX_cp_nw_q0 : kset (wX cI cB cW ob nw tr qs sc G M N S n L T) [2, 3, 4, 5, 6, 7, 8, 9, 10, 11, 12, 13, 14, 15, 16, 32, 33, 34, 35, 36, 37, 38, 39, 40, 41, 42, 43, 44, 45, 46] (w2W cI nw (qs 0) (S 0) (S 0)) = wX cI cB cW ob nw tr qs sc G (S 0) N S n L T := by
  refine (kset_app2 [2, 3, 4, 5, 6, 7, 8, 9, 10, 11, 12, 13, 14, 15, 16] (wW cI nw (S 0)) _ [32, 33, 34, 35, 36, 37, 38, 39, 40, 41, 42, 43, 44, 45, 46] (wW cI (qs 0) (S 0)) rfl).trans ?_
  rw [wX_nw_W]
  exact kset_same _ _ _ (wX_q0_WC)
theorem wX_cp_q1_nwC : [47, 48, 49, 50, 51, 52, 53, 54, 55, 56, 57, 58, 59, 60, 61, 2, 3, 4, 5, 6, 7, 8, 9, 10, 11, 12, 13, 14, 15, 16].map (fun i => (wX cI cB cW ob nw tr qs sc G M N S n L T)[i]?) = (w2W cI (qs 1) nw (S 1) M).map some := kget_app2 (l1 := [47, 48, 49, 50, 51, 52, 53, 54, 55, 56, 57, 58, 59, 60, 61]) (l2 := [2, 3, 4, 5, 6, 7, 8, 9, 10, 11, 12, 13, 14, 15, 16]) wX_q1_WC wX_nw_WC
theorem wX_cp_q1_nw : kset (wX cI cB cW ob nw tr qs sc G M N S n L T) [47, 48, 49, 50, 51, 52, 53, 54, 55, 56, 57, 58, 59, 60, 61, 2, 3, 4, 5, 6, 7, 8, 9, 10, 11, 12, 13, 14, 15, 16] (w2W cI (qs 1) nw M M) = wX cI cB cW ob nw tr qs sc G M N (sset S 1 M) n L T := by
  refine (kset_app2 [47, 48, 49, 50, 51, 52, 53, 54, 55, 56, 57, 58, 59, 60, 61] (wW cI (qs 1) M) _ [2, 3, 4, 5, 6, 7, 8, 9, 10, 11, 12, 13, 14, 15, 16] (wW cI nw M) rfl).trans ?_
  rw [wX_q1_W]
  exact kset_same _ _ _ (wX_nw_WC)
theorem wX_cp_nw_q1C : [2, 3, 4, 5, 6, 7, 8, 9, 10, 11, 12, 13, 14, 15, 16, 47, 48, 49, 50, 51, 52, 53, 54, 55, 56, 57, 58, 59, 60, 61].map (fun i => (wX cI cB cW ob nw tr qs sc G M N S n L T)[i]?) = (w2W cI nw (qs 1) M (S 1)).map some := kget_app2 (l1 := [2, 3, 4, 5, 6, 7, 8, 9, 10, 11, 12, 13, 14, 15, 16]) (l2 := [47, 48, 49, 50, 51, 52, 53, 54, 55, 56, 57, 58, 59, 60, 61]) wX_nw_WC wX_q1_WC
theorem wX_cp_nw_q1 : kset (wX cI cB cW ob nw tr qs sc G M N S n L T) [2, 3, 4, 5, 6, 7, 8, 9, 10, 11, 12, 13, 14, 15, 16, 47, 48, 49, 50, 51, 52, 53, 54, 55, 56, 57, 58, 59, 60, 61] (w2W cI nw (qs 1) (S 1) (S 1)) = wX cI cB cW ob nw tr qs sc G (S 1) N S n L T := by
  refine (kset_app2 [2, 3, 4, 5, 6, 7, 8, 9, 10, 11, 12, 13, 14, 15, 16] (wW cI nw (S 1)) _ [47, 48, 49, 50, 51, 52, 53, 54, 55, 56, 57, 58, 59, 60, 61] (wW cI (qs 1) (S 1)) rfl).trans ?_
  rw [wX_nw_W]
  exact kset_same _ _ _ (wX_q1_WC)
theorem wX_cp_q2_nwC : [62, 63, 64, 65, 66, 67, 68, 69, 70, 71, 72, 73, 74, 75, 76, 2, 3, 4, 5, 6, 7, 8, 9, 10, 11, 12, 13, 14, 15, 16].map (fun i => (wX cI cB cW ob nw tr qs sc G M N S n L T)[i]?) = (w2W cI (qs 2) nw (S 2) M).map some := kget_app2 (l1 := [62, 63, 64, 65, 66, 67, 68, 69, 70, 71, 72, 73, 74, 75, 76]) (l2 := [2, 3, 4, 5, 6, 7, 8, 9, 10, 11, 12, 13, 14, 15, 16]) wX_q2_WC wX_nw_WC
theorem wX_cp_q2_nw : kset (wX cI cB cW ob nw tr qs sc G M N S n L T) [62, 63, 64, 65, 66, 67, 68, 69, 70, 71, 72, 73, 74, 75, 76, 2, 3, 4, 5, 6, 7, 8, 9, 10, 11, 12, 13, 14, 15, 16] (w2W cI (qs 2) nw M M) = wX cI cB cW ob nw tr qs sc G M N (sset S 2 M) n L T := by
  refine (kset_app2 [62, 63, 64, 65, 66, 67, 68, 69, 70, 71, 72, 73, 74, 75, 76] (wW cI (qs 2) M) _ [2, 3, 4, 5, 6, 7, 8, 9, 10, 11, 12, 13, 14, 15, 16] (wW cI nw M) rfl).trans ?_
  rw [wX_q2_W]
  exact kset_same _ _ _ (wX_nw_WC)
theorem wX_cp_nw_q2C : [2, 3, 4, 5, 6, 7, 8, 9, 10, 11, 12, 13, 14, 15, 16, 62, 63, 64, 65, 66, 67, 68, 69, 70, 71, 72, 73, 74, 75, 76].map (fun i => (wX cI cB cW ob nw tr qs sc G M N S n L T)[i]?) = (w2W cI nw (qs 2) M (S 2)).map some := kget_app2 (l1 := [2, 3, 4, 5, 6, 7, 8, 9, 10, 11, 12, 13, 14, 15, 16]) (l2 := [62, 63, 64, 65, 66, 67, 68, 69, 70, 71, 72, 73, 74, 75, 76]) wX_nw_WC wX_q2_WC
theorem wX_cp_nw_q2 : kset (wX cI cB cW ob nw tr qs sc G M N S n L T) [2, 3, 4, 5, 6, 7, 8, 9, 10, 11, 12, 13, 14, 15, 16, 62, 63, 64, 65, 66, 67, 68, 69, 70, 71, 72, 73, 74, 75, 76] (w2W cI nw (qs 2) (S 2) (S 2)) = wX cI cB cW ob nw tr qs sc G (S 2) N S n L T := by
  refine (kset_app2 [2, 3, 4, 5, 6, 7, 8, 9, 10, 11, 12, 13, 14, 15, 16] (wW cI nw (S 2)) _ [62, 63, 64, 65, 66, 67, 68, 69, 70, 71, 72, 73, 74, 75, 76] (wW cI (qs 2) (S 2)) rfl).trans ?_
  rw [wX_nw_W]
  exact kset_same _ _ _ (wX_q2_WC)
theorem wX_cp_q3_nwC : [77, 78, 79, 80, 81, 82, 83, 84, 85, 86, 87, 88, 89, 90, 91, 2, 3, 4, 5, 6, 7, 8, 9, 10, 11, 12, 13, 14, 15, 16].map (fun i => (wX cI cB cW ob nw tr qs sc G M N S n L T)[i]?) = (w2W cI (qs 3) nw (S 3) M).map some := kget_app2 (l1 := [77, 78, 79, 80, 81, 82, 83, 84, 85, 86, 87, 88, 89, 90, 91]) (l2 := [2, 3, 4, 5, 6, 7, 8, 9, 10, 11, 12, 13, 14, 15, 16]) wX_q3_WC wX_nw_WC
theorem wX_cp_q3_nw : kset (wX cI cB cW ob nw tr qs sc G M N S n L T) [77, 78, 79, 80, 81, 82, 83, 84, 85, 86, 87, 88, 89, 90, 91, 2, 3, 4, 5, 6, 7, 8, 9, 10, 11, 12, 13, 14, 15, 16] (w2W cI (qs 3) nw M M) = wX cI cB cW ob nw tr qs sc G M N (sset S 3 M) n L T := by
  refine (kset_app2 [77, 78, 79, 80, 81, 82, 83, 84, 85, 86, 87, 88, 89, 90, 91] (wW cI (qs 3) M) _ [2, 3, 4, 5, 6, 7, 8, 9, 10, 11, 12, 13, 14, 15, 16] (wW cI nw M) rfl).trans ?_
  rw [wX_q3_W]
  exact kset_same _ _ _ (wX_nw_WC)
theorem wX_cp_nw_q3C : [2, 3, 4, 5, 6, 7, 8, 9, 10, 11, 12, 13, 14, 15, 16, 77, 78, 79, 80, 81, 82, 83, 84, 85, 86, 87, 88, 89, 90, 91].map (fun i => (wX cI cB cW ob nw tr qs sc G M N S n L T)[i]?) = (w2W cI nw (qs 3) M (S 3)).map some := kget_app2 (l1 := [2, 3, 4, 5, 6, 7, 8, 9, 10, 11, 12, 13, 14, 15, 16]) (l2 := [77, 78, 79, 80, 81, 82, 83, 84, 85, 86, 87, 88, 89, 90, 91]) wX_nw_WC wX_q3_WC
theorem wX_cp_nw_q3 : kset (wX cI cB cW ob nw tr qs sc G M N S n L T) [2, 3, 4, 5, 6, 7, 8, 9, 10, 11, 12, 13, 14, 15, 16, 77, 78, 79, 80, 81, 82, 83, 84, 85, 86, 87, 88, 89, 90, 91] (w2W cI nw (qs 3) (S 3) (S 3)) = wX cI cB cW ob nw tr qs sc G (S 3) N S n L T := by
  refine (kset_app2 [2, 3, 4, 5, 6, 7, 8, 9, 10, 11, 12, 13, 14, 15, 16] (wW cI nw (S 3)) _ [77, 78, 79, 80, 81, 82, 83, 84, 85, 86, 87, 88, 89, 90, 91] (wW cI (qs 3) (S 3)) rfl).trans ?_
  rw [wX_nw_W]
  exact kset_same _ _ _ (wX_q3_WC)
theorem wX_nw_Po (h : ∀ k, k < 276 → M' k = M k) : kset (wX cI cB cW ob nw tr qs sc G M N S n L T) [13, 14, 15] (wPo cI nw M') = wX cI cB cW ob nw tr qs sc G M' N S n L T := by
  have h9 : wW cI nw M' = kset (wW cI nw M) [11, 12, 13] (wPo cI nw M') := (wW_po h).symm
  unfold wX
  rw [h9]
  rfl
theorem wX_tr_Po (h : ∀ k, k < 276 → N' k = N k) : kset (wX cI cB cW ob nw tr qs sc G M N S n L T) [28, 29, 30] (wPo cI tr N') = wX cI cB cW ob nw tr qs sc G M N' S n L T := by
  have h9 : wW cI tr N' = kset (wW cI tr N) [11, 12, 13] (wPo cI tr N') := (wW_po h).symm
  unfold wX
  rw [h9]
  rfl
end WX
section KA
variable {p : Program} {l : Launch} {e : Env} {R : Room} {s : State} {m : MethodId} {args : Array Value} {below : List Frame} {meth : Method} {c : Code} {cc : ByteArray} {H H0 : Heap} {locs : List Loc} {cells slots : Nat} {Q : State → Prop} {pc : Nat} {ls : Array Slot} {rest st0 : List Value} {D : va_G} {cl : List vw_C} {tys : List (ClassId × FieldType)} {ws : va_W} {A : Nat → Prop}
theorem kr_aald (hx : p.tables.exec = Jvm.exec) (hb : c.code = cc) (hK : va_K D cl tys s) (hP : va_P D cl ws H) (q0 t0 : Nat) {a : Nat} {cA : ClassId} {C : String} {n : Nat} {f : Nat → Option Nat} (ha : ws[q0]? = some (a, .inl (cA, n, .inr (.inr (.inr (.inr f)))))) (ht : tys[t0]? = some (cA, .object C)) {k v : Nat} (hk : k < n) (hn : n < 2 ^ 31) (hv : f k = some v) (hdg : decode cc pc = .ok (.aaload, 1))
    (kk : W p l e R s m args below meth c H locs cells slots Q (F0 m (pc + 1) ls (.ref v :: rest))) : W p l e R s m args below meth c H locs cells slots Q (F0 m pc ls (.int (nI k) :: .ref a :: rest)) := va_aldq hx hb hK hP q0 t0 ha ht (vp_in_nI hk hn) hdg (by rw [nI_clamp (Nat.lt_trans hk hn), hv]; exact kk)
theorem kr_aast (hx : p.tables.exec = Jvm.exec) (hb : c.code = cc) (hK : va_K D cl tys s) (hP : va_P D cl ws H) (hD : va_D A ws) (hS : va_S A H0 H locs) (q0 t0 qk ci : Nat) {a : Nat} {cA : ClassId} {r : vw_C} {n v : Nat} {vs : List Value} {f : Nat → Option Nat} (ha : ws[q0]? = some (a, .inl (cA, n, .inr (.inr (.inr (.inr f)))))) (ht : tys[t0]? = some (cA, .object r.1)) (hv : ws[qk]? = some (v, .inr (ci, vs))) (hc : cl[ci]? = some r) {k : Nat} (hk : k < n) (hn : n < 2 ^ 31) {ws2 : va_W} (hw : ws.set q0 (a, .inl (cA, n, .inr (.inr (.inr (.inr (va_up f k (some v))))))) = ws2) (hdg : decode cc pc = .ok (.aastore, 1))
    (kk : ∀ (H1 : Heap) (locs1 : List Loc), va_P D cl ws2 H1 → va_D A ws2 → va_S A H0 H1 locs1 → W p l e R s m args below meth c H1 locs1 cells slots Q (F0 m (pc + 1) ls rest)) : W p l e R s m args below meth c H locs cells slots Q (F0 m pc ls (.ref v :: .int (nI k) :: .ref a :: rest)) := by
  subst hw
  refine va_astq hx hb hK hP hD hS q0 t0 qk ci ha ht hv hc (vp_in_nI hk hn) hdg (fun H1 locs1 h1 h2 h3 => ?_)
  rw [nI_clamp (Nat.lt_trans hk hn)] at h1 h2
  exact kk H1 locs1 h1 h2 h3
end KA
theorem rot_at {qs : Nat → Nat → Nat} {n r j : Nat} (hn : n < 4) (h : (n + r) % 4 = j) : g_rot qs r n = some (qs j 0) := by
  unfold g_rot
  rw [if_pos hn, h]
theorem rot_up {qs : Nat → Nat → Nat} {r a b c d : Nat} (h0 : (0 + r) % 4 = a) (h1 : (1 + r) % 4 = b) (h2 : (2 + r) % 4 = c) (h3 : (3 + r) % 4 = d) : va_up (va_up (va_up (va_up (g_rot qs r) 0 (some (qs b 0))) 1 (some (qs c 0))) 2 (some (qs d 0))) 3 (some (qs a 0)) = g_rot qs ((r + 1) % 4) := by
  funext i
  by_cases hi : i < 4
  · rcases (show i = 0 ∨ i = 1 ∨ i = 2 ∨ i = 3 by omega) with rfl | rfl | rfl | rfl
    · rw [rot_at (j := b) hi (by omega)]; rfl
    · rw [rot_at (j := c) hi (by omega)]; rfl
    · rw [rot_at (j := d) hi (by omega)]; rfl
    · rw [rot_at (j := a) hi (by omega)]; rfl
  · have h0 : i ≠ 0 := by omega
    have h1 : i ≠ 1 := by omega
    have h2 : i ≠ 2 := by omega
    have h3 : i ≠ 3 := by omega
    simp [va_up, g_rot, hi, h0, h1, h2, h3]
theorem pj_n {n r : Nat} (h : ¬ n = 4) : pj n r = (n + r) % 4 := if_neg h
theorem rj_n {n r : Nat} (h : ¬ n = 4) : rj n r = r := if_neg h
theorem dig_no {u : Int32} (h : g_usr u = false) (h1 : ¬ u < 0) (h2 : u < 6) : False := by
  unfold g_usr g_in at h
  have : ¬ (5 : Int32) < u := by
    rw [Int32.lt_iff_toInt_lt] at h2 ⊢
    have e6 : (6 : Int32).toInt = 6 := rfl
    have e5 : (5 : Int32).toInt = 5 := rfl
    omega
  simp [h1, this] at h
