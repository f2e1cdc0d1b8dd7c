/-! what holds of every object that the law makes: marks, versions, views, messages, counts -/
def xMk (x : Int32) : Prop := ¬ x &&& 5 = 5 ∧ ¬ x &&& 10 = 10
def xSt (M : kM) : Prop := ∀ a b, a < 6 → b < 6 → xMk (M (54 + 6 * a + b))
def xVa (B : Nat) (M : kM) (a : Nat) : Prop := ∃ v, v ≤ B ∧ M (126 + a) = nI v ∧ (∀ b, b < 6 → ∃ u, u ≤ v ∧ M (90 + 6 * a + b) = nI u ∧ (u = 0 → M (54 + 6 * a + b) = 0)) ∧ (∃ b, b < 6 ∧ b ≠ a ∧ M (90 + 6 * a + b) = nI v) ∧ M (90 + 6 * a + a) = 0
def xVer (B : Nat) (M : kM) : Prop := ∀ a, a < 6 → xVa B M a
/-- views; e: a user of whom nothing is said when he isn't there (6: none) -/
def xVw (e : Nat) (M : kM) : Prop := ∀ a b s, a < 6 → b < 6 → s < 3 → (M (132 + 18 * a + 3 * b + s) = -1 ∨ ∃ n, n < 5 ∧ M (132 + 18 * a + 3 * b + s) = nI n) ∧ (a ≠ e → g_cnt M a = 0 → M (132 + 18 * a + 3 * b + s) = -1) ∧ (a = b → M (132 + 18 * a + 3 * b + s) = -1)
def xMs (M : kM) : Prop := ∀ c, c ∈ g_q M → c / 8 % 8 ≠ c / 64 % 8
def xCt (M : kM) : Prop := M 578 = M 579 + M 580 + M 577
def oX (e B : Nat) (M : kM) : Prop := kInv M ∧ xSt M ∧ xVer B M ∧ xVw e M ∧ xMs M ∧ xCt M
theorem xSt_congr {M N : kM} (h : ∀ k, 54 ≤ k → k < 90 → N k = M k) (hM : xSt M) : xSt N := fun a b ha hb => by
  rw [h _ (by omega) (by omega)]
  exact hM a b ha hb
theorem xVa_congr {B a : Nat} {M N : kM} (ha : a < 6) (h : ∀ k, 54 ≤ k → k < 132 → N k = M k) (hM : xVa B M a) : xVa B N a := by
  obtain ⟨v, h1, h2, h3, ⟨b, hb, hne, h4⟩, h5⟩ := hM
  refine ⟨v, h1, (h _ (by omega) (by omega)).trans h2, fun b hb => ?_, ⟨b, hb, hne, (h _ (by omega) (by omega)).trans h4⟩, (h _ (by omega) (by omega)).trans h5⟩
  obtain ⟨u, e1, e2, e3⟩ := h3 b hb
  exact ⟨u, e1, (h _ (by omega) (by omega)).trans e2, fun q => (h _ (by omega) (by omega)).trans (e3 q)⟩
theorem xVer_congr {B : Nat} {M N : kM} (h : ∀ k, 54 ≤ k → k < 132 → N k = M k) (hM : xVer B M) : xVer B N := fun a ha => xVa_congr ha h (hM a ha)
theorem xVer_mono {B B' : Nat} {M : kM} (hB : B ≤ B') (hM : xVer B M) : xVer B' M := fun a ha => by
  obtain ⟨v, h1, h2⟩ := hM a ha
  exact ⟨v, by omega, h2⟩
theorem cnt_congr {M N : kM} {a : Nat} (h : ∀ s, s < 3 → N (9 * a + 3 * s) = M (9 * a + 3 * s)) : g_cnt N a = g_cnt M a := by
  show 0 + N (9 * a + 3 * 0) + N (9 * a + 3 * 1) + N (9 * a + 3 * 2) = 0 + M (9 * a + 3 * 0) + M (9 * a + 3 * 1) + M (9 * a + 3 * 2)
  rw [h 0 (by omega), h 1 (by omega), h 2 (by omega)]
theorem xVw_or {e : Nat} {M N : kM} (h : ∀ k, k < 54 → N k = M k) (h2 : ∀ k, 132 ≤ k → k < 240 → N k = M k ∨ N k = -1) (hM : xVw e M) : xVw e N := fun a b s ha hb hs => by
  obtain ⟨h3, h4⟩ := hM a b s ha hb hs
  rcases h2 (132 + 18 * a + 3 * b + s) (by omega) (by omega) with q | q
  · rw [q, cnt_congr (M := M) (N := N) (fun s hs => h _ (by omega))]
    exact ⟨h3, h4⟩
  · rw [q]
    exact ⟨Or.inl rfl, fun _ _ => rfl, fun _ => rfl⟩
theorem xVw_congr {e : Nat} {M N : kM} (h : ∀ k, k < 54 → N k = M k) (h2 : ∀ k, 132 ≤ k → k < 240 → N k = M k) (hM : xVw e M) : xVw e N := xVw_or h (fun k a b => Or.inl (h2 k a b)) hM
theorem xMs_same {M N : kM} (h : ∀ k, 276 ≤ k → k < 578 → N k = M k) (hM : xMs M) : xMs N := by
  unfold xMs
  rw [q_same h]
  exact hM
theorem xCt_same {M N : kM} (h : ∀ k, 577 ≤ k → k < 581 → N k = M k) (hM : xCt M) : xCt N := by
  unfold xCt
  rw [h 578 (by omega) (by omega), h 579 (by omega) (by omega), h 580 (by omega) (by omega), h 577 (by omega) (by omega)]
  exact hM
theorem ox_mono {e B B' : Nat} {M : kM} (hB : B ≤ B') (h : oX e B M) : oX e B' M := ⟨h.1, h.2.1, xVer_mono hB h.2.2.1, h.2.2.2⟩
theorem ct_a (x y z : Int32) : x + y + z + 1 = x + (y + 1) + z := by
  rw [Int32.add_assoc (x + y) z 1, Int32.add_comm z 1, ← Int32.add_assoc (x + y) 1 z, Int32.add_assoc x y 1]
theorem ct_b (x y z : Int32) : x + y + z + 1 = x + y + (z + 1) := Int32.add_assoc (x + y) z 1
theorem ct_c (z : Int32) : z - 1 + 1 = z := Int32.sub_add_cancel z 1
theorem ct_d (x y z : Int32) : x + y + z = x + 1 + y + (z - 1) := by
  have h : x + 1 + y = x + y + 1 := by rw [Int32.add_assoc x 1 y, Int32.add_comm 1 y, ← Int32.add_assoc]
  rw [h, Int32.add_assoc (x + y) 1 (z - 1), Int32.add_comm 1 (z - 1), ct_c]
theorem ct_e (x y z : Int32) : x + y + z = x + (y + 1) + (z - 1) := by
  rw [← Int32.add_assoc x y 1, Int32.add_assoc (x + y) 1 (z - 1), Int32.add_comm 1 (z - 1), ct_c]
theorem ox_put {e B c : Nat} {M : kM} (h : oX e B M) (hc : kMsg (nI c)) (hlt : c < 2 ^ 31) (hft : c / 8 % 8 ≠ c / 64 % 8) : oX e B (g_put M c) := by
  obtain ⟨hI, h1, h2, h3, h4, h5⟩ := h
  refine ⟨i_put hI hc, xSt_congr (fun k _ _ => o_put (by omega)) h1, xVer_congr (fun k _ _ => o_put (by omega)) h2, xVw_congr (fun k _ => o_put (by omega)) (fun k _ _ => o_put (by omega)) h3, ?_, ?_⟩
  · intro d hd
    by_cases hw : wyN M < 300
    · rw [q_put hI hlt hw] at hd
      rcases List.mem_append.mp hd with q | q
      · exact h4 d q
      · rw [List.mem_singleton.mp q]
        exact hft
    · rw [q_full hI hw] at hd
      exact h4 d hd
  · unfold xCt at h5 ⊢
    unfold g_put
    split
    · have e8 : upd (upd M 578 (M 578 + 1)) 580 (M 580 + 1) 578 = M 578 + 1 := (upd_ne (by omega)).trans upd_eq
      have e9 : upd (upd M 578 (M 578 + 1)) 580 (M 580 + 1) 579 = M 579 := (upd_ne (by omega)).trans (upd_ne (by omega))
      have e0 : upd (upd M 578 (M 578 + 1)) 580 (M 580 + 1) 580 = M 580 + 1 := upd_eq
      have e7 : upd (upd M 578 (M 578 + 1)) 580 (M 580 + 1) 577 = M 577 := (upd_ne (by omega)).trans (upd_ne (by omega))
      rw [e8, e9, e0, e7, h5, ct_a]
    · have hh : (hdN M + wyN M) % 300 < 300 := Nat.mod_lt _ (by omega)
      have e8 : upd (upd (upd M 578 (M 578 + 1)) (276 + (hdN M + wyN M) % 300) (nI c)) 577 (M 577 + 1) 578 = M 578 + 1 := (upd_ne (by omega)).trans ((upd_ne (by omega)).trans upd_eq)
      have e9 : upd (upd (upd M 578 (M 578 + 1)) (276 + (hdN M + wyN M) % 300) (nI c)) 577 (M 577 + 1) 579 = M 579 := (upd_ne (by omega)).trans ((upd_ne (by omega)).trans (upd_ne (by omega)))
      have e0 : upd (upd (upd M 578 (M 578 + 1)) (276 + (hdN M + wyN M) % 300) (nI c)) 577 (M 577 + 1) 580 = M 580 := (upd_ne (by omega)).trans ((upd_ne (by omega)).trans (upd_ne (by omega)))
      have e7 : upd (upd (upd M 578 (M 578 + 1)) (276 + (hdN M + wyN M) % 300) (nI c)) 577 (M 577 + 1) 577 = M 577 + 1 := upd_eq
      rw [e8, e9, e0, e7, h5, ct_b]
theorem ox_send {e B k f t s d : Nat} {M : kM} (h : oX e B M) (h1 : k < 7) (h2 : f < 6) (h3 : t < 6) (h4 : s < 3) (h5 : d < 5) (h6 : k = 4 ∨ d = 0) (h7 : k = 4 ∨ k = 5 ∨ s = 0) (hft : f ≠ t) : oX e B (g_send M k f t s d) := by
  unfold g_send
  split
  · exact h
  · obtain ⟨e1, e2, e3, -, -⟩ := code_parts (d := d) h1 h2 h3 h4
    exact ox_put h ⟨k, f, t, s, d, h1, h2, h3, h4, h5, h6, h7, rfl⟩ (by unfold g_code; omega) (by rw [e2, e3]; exact hft)
theorem ox_showN {e B a b : Nat} {M : kM} (h : oX e B M) (ha : a < 6) (hb : b < 6) (hab : a ≠ b) : ∀ n, n ≤ 3 → oX e B (g_showN M a b n)
  | 0, _ => h
  | n + 1, hn => by
    have ih := ox_showN h ha hb hab n (by omega)
    unfold g_showN
    split
    · exact ox_send ih (by omega) ha hb (by omega) (i_mdlt ih.1 ha (by omega)) (by omega) (by omega) hab
    · exact ih
theorem ox_show {e B a b : Nat} {M : kM} (h : oX e B M) (ha : a < 6) (hb : b < 6) (hab : a ≠ b) : oX e B (g_show M a b) := ox_showN h ha hb hab 3 (by omega)
theorem ox_hideN {e B a b : Nat} {M : kM} (h : oX e B M) (ha : a < 6) (hb : b < 6) (hab : a ≠ b) : ∀ n, n ≤ 3 → oX e B (g_hideN M a b n)
  | 0, _ => h
  | n + 1, hn => by
    have ih := ox_hideN h ha hb hab n (by omega)
    unfold g_hideN
    split
    · exact ox_send ih (by omega) ha hb (by omega) (by omega) (by omega) (by omega) hab
    · exact ih
theorem ox_hide {e B a b : Nat} {M : kM} (h : oX e B M) (ha : a < 6) (hb : b < 6) (hab : a ≠ b) : oX e B (g_hide M a b) := ox_hideN h ha hb hab 3 (by omega)
-- a change of marks
theorem bec_st {M : kM} {a b : Nat} {t : Int32} (ha : a < 6) (hb : b < 6) : g_become M a b t (54 + 6 * a + b) = t := by
  unfold g_become
  split
  · assumption
  · exact (upd_ne (by omega)).trans ((upd_ne (by omega)).trans upd_eq)
theorem bec_ne {M : kM} {a b k : Nat} {t : Int32} (h1 : k ≠ 54 + 6 * a + b) (h2 : k ≠ 126 + a) (h3 : k ≠ 90 + 6 * a + b) : g_become M a b t k = M k := by
  unfold g_become
  split
  · rfl
  · exact (upd_ne h3).trans ((upd_ne h2).trans (upd_ne h1))
theorem bec_ver {M : kM} {a b : Nat} {t : Int32} (ha : a < 6) (hb : b < 6) (h : ¬ M (54 + 6 * a + b) = t) : g_become M a b t (126 + a) = M (126 + a) + 1 ∧ g_become M a b t (90 + 6 * a + b) = M (126 + a) + 1 := by
  unfold g_become
  rw [if_neg h]
  exact ⟨(upd_ne (by omega)).trans upd_eq, upd_eq⟩
theorem ox_become {e B a b : Nat} {M : kM} {t : Int32} (h : oX e B M) (ha : a < 6) (hb : b < 6) (hab : a ≠ b) (ht : ∃ n, n < 16 ∧ t = nI n) (hm : xMk t) : oX e (B + 1) (g_become M a b t) := by
  obtain ⟨hI, h1, h2, h3, h4, h5⟩ := h
  refine ⟨i_become hI ha hb ht, fun x y hx hy => ?_, fun x hx => ?_, xVw_congr (fun k _ => o_become ha hb (by omega)) (fun k _ _ => o_become ha hb (by omega)) h3, xMs_same (fun k _ _ => o_become ha hb (by omega)) h4, xCt_same (fun k _ _ => o_become ha hb (by omega)) h5⟩
  · by_cases q : 54 + 6 * x + y = 54 + 6 * a + b
    · rw [q, bec_st ha hb]
      exact hm
    · rw [bec_ne q (by omega) (by omega)]
      exact h1 x y hx hy
  · by_cases q : M (54 + 6 * a + b) = t
    · have q2 : g_become M a b t = M := if_pos q
      rw [q2]
      exact xVer_mono (by omega) h2 x hx
    · obtain ⟨v, g1, g2, g3, ⟨z, hz, hne, g4⟩, g5⟩ := h2 x hx
      by_cases qx : x = a
      · subst qx
        obtain ⟨b1, b2⟩ := bec_ver hx hb q
        refine ⟨v + 1, by omega, by rw [b1, g2, nI_1], fun y hy => ?_, ⟨b, hb, Ne.symm hab, by rw [b2, g2, nI_1]⟩, by rw [bec_ne (by omega) (by omega) (by omega)]; exact g5⟩
        by_cases qy : y = b
        · subst qy
          exact ⟨v + 1, Nat.le_refl _, by rw [b2, g2, nI_1], fun q0 => absurd q0 (by omega)⟩
        · obtain ⟨u, f1, f2, f3⟩ := g3 y hy
          exact ⟨u, by omega, by rw [bec_ne (by omega) (by omega) (by omega)]; exact f2, fun q0 => by rw [bec_ne (by omega) (by omega) (by omega)]; exact f3 q0⟩
      · refine ⟨v, by omega, by rw [bec_ne (by omega) (by omega) (by omega)]; exact g2, fun y hy => ?_, ⟨z, hz, hne, by rw [bec_ne (by omega) (by omega) (by omega)]; exact g4⟩, by rw [bec_ne (by omega) (by omega) (by omega)]; exact g5⟩
        obtain ⟨u, f1, f2, f3⟩ := g3 y hy
        exact ⟨u, f1, by rw [bec_ne (by omega) (by omega) (by omega)]; exact f2, fun q0 => by rw [bec_ne (by omega) (by omega) (by omega)]; exact f3 q0⟩
-- views
theorem forgetN_or {M : kM} {a b k : Nat} : ∀ n, g_forgetN M a b n k = M k ∨ g_forgetN M a b n k = -1
  | 0 => Or.inl rfl
  | n + 1 => by
    show upd _ _ _ k = M k ∨ upd _ _ _ k = -1
    by_cases q : k = 132 + 18 * a + 3 * b + n
    · rw [q, upd_eq]
      exact Or.inr rfl
    · rw [upd_ne q]
      exact forgetN_or n
theorem ox_forget {e B a b : Nat} {M : kM} (h : oX e B M) (ha : a < 6) (hb : b < 6) : oX e B (g_forget M a b) := by
  obtain ⟨hI, h1, h2, h3, h4, h5⟩ := h
  exact ⟨i_forget hI ha hb, xSt_congr (fun k _ _ => o_forget ha hb (by omega)) h1, xVer_congr (fun k _ _ => o_forget ha hb (by omega)) h2, xVw_or (fun k _ => o_forget ha hb (by omega)) (fun k _ _ => forgetN_or 3) h3, xMs_same (fun k _ _ => o_forget ha hb (by omega)) h4, xCt_same (fun k _ _ => o_forget ha hb (by omega)) h5⟩
theorem ox_forgetAllN {e B a : Nat} {M : kM} (h : oX e B M) (ha : a < 6) : ∀ n, n ≤ 6 → oX e B (g_forgetAllN M a n)
  | 0, _ => h
  | n + 1, hn => ox_forget (ox_forgetAllN h ha n (by omega)) ha (by omega)
theorem ox_forgetAll {e B a : Nat} {M : kM} (h : oX e B M) (ha : a < 6) : oX e B (g_forgetAll M a) := ox_forgetAllN h ha 6 (by omega)
theorem forget_at {M : kM} {a b s : Nat} (hs : s < 3) : g_forget M a b (132 + 18 * a + 3 * b + s) = -1 := by
  show upd (upd (upd M (132 + 18 * a + 3 * b + 0) (-1)) (132 + 18 * a + 3 * b + 1) (-1)) (132 + 18 * a + 3 * b + 2) (-1) _ = -1
  rcases (show s = 0 ∨ s = 1 ∨ s = 2 by omega) with rfl | rfl | rfl
  · exact (upd_ne (by omega)).trans ((upd_ne (by omega)).trans upd_eq)
  · exact (upd_ne (by omega)).trans upd_eq
  · exact upd_eq
theorem forgetAllN_at {M : kM} {a b s : Nat} (hs : s < 3) : ∀ n, b < n → n ≤ 6 → g_forgetAllN M a n (132 + 18 * a + 3 * b + s) = -1
  | 0, h, _ => absurd h (by omega)
  | n + 1, h, h6 => by
    show g_forget (g_forgetAllN M a n) a n _ = -1
    by_cases q : b = n
    · subst q
      exact forget_at hs
    · rcases forgetN_or (M := g_forgetAllN M a n) (a := a) (b := n) (k := 132 + 18 * a + 3 * b + s) 3 with g | g
      · exact g.trans (forgetAllN_at hs n (by omega) (by omega))
      · exact g
theorem forgetAll_at {M : kM} {a b s : Nat} (hb : b < 6) (hs : s < 3) : g_forgetAll M a (132 + 18 * a + 3 * b + s) = -1 := forgetAllN_at hs 6 hb (by omega)
theorem ox_view {e B a b s : Nat} {M : kM} {x : Int32} (h : oX e B M) (ha : a < 6) (hb : b < 6) (hs : s < 3) (hab : a ≠ b) (hx : x = -1 ∨ ((∃ n, n < 5 ∧ x = nI n) ∧ ¬ g_cnt M a = 0)) : oX e B (upd M (132 + 18 * a + 3 * b + s) x) := by
  obtain ⟨hI, h1, h2, h3, h4, h5⟩ := h
  refine ⟨i_free hI (by omega), xSt_congr (fun k _ _ => upd_ne (by omega)) h1, xVer_congr (fun k _ _ => upd_ne (by omega)) h2, fun y z w hy hz hw => ?_, xMs_same (fun k _ _ => upd_ne (by omega)) h4, xCt_same (fun k _ _ => upd_ne (by omega)) h5⟩
  have hc : g_cnt (upd M (132 + 18 * a + 3 * b + s) x) y = g_cnt M y := cnt_congr fun s hs => upd_ne (by omega)
  rw [hc]
  by_cases q : 132 + 18 * y + 3 * z + w = 132 + 18 * a + 3 * b + s
  · have ey : y = a := by omega
    have ez : z = b := by omega
    subst ey
    subst ez
    rw [q, upd_eq]
    rcases hx with rfl | ⟨hx, hn⟩
    · exact ⟨Or.inl rfl, fun _ _ => rfl, fun _ => rfl⟩
    · exact ⟨Or.inr hx, fun _ h0 => absurd h0 hn, fun q9 => absurd q9 hab⟩
  · rw [upd_ne q]
    exact h3 y z w hy hz hw
-- the queue
theorem q_head {M : kM} (h : kInv M) (hw : 0 < wyN M) : g_msg M 0 ∈ g_q M := by
  rw [q_take h hw]
  exact List.mem_cons_self
theorem ox_take {e B : Nat} {M : kM} (h : oX e B M) (hw : 0 < wyN M) : oX e B (g_take M) := by
  obtain ⟨hI, h1, h2, h3, h4, h5⟩ := h
  refine ⟨i_take hI hw, xSt_congr (fun k _ _ => o_take (by omega)) h1, xVer_congr (fun k _ _ => o_take (by omega)) h2, xVw_congr (fun k _ => o_take (by omega)) (fun k _ _ => o_take (by omega)) h3, fun c hc => h4 c (by rw [q_take hI hw]; exact List.mem_cons_of_mem _ hc), ?_⟩
  unfold xCt at h5 ⊢
  have e7 : g_take M 577 = M 577 - 1 := (upd_ne (by omega)).trans upd_eq
  have e9 : g_take M 579 = M 579 + 1 := upd_eq
  rw [o_take (by omega), o_take (k := 580) (by omega), e7, e9, h5]
  exact ct_d _ _ _
theorem ox_drop {e B i : Nat} {M : kM} (h : oX e B M) (hi : i < wyN M) : oX e B (g_drop M i) := by
  obtain ⟨hI, h1, h2, h3, h4, h5⟩ := h
  refine ⟨i_drop hI (by omega), xSt_congr (fun k _ _ => o_drop (by omega)) h1, xVer_congr (fun k _ _ => o_drop (by omega)) h2, xVw_congr (fun k _ => o_drop (by omega)) (fun k _ _ => o_drop (by omega)) h3, fun c hc => ?_, ?_⟩
  · rw [q_drop hI hi] at hc
    exact h4 c (List.mem_of_mem_eraseIdx hc)
  · unfold xCt at h5 ⊢
    have e8 : g_drop M i 578 = M 578 := (upd_ne (by omega)).trans ((upd_ne (by omega)).trans (o_shN (Or.inr (by omega)) _))
    have e9 : g_drop M i 579 = M 579 := (upd_ne (by omega)).trans ((upd_ne (by omega)).trans (o_shN (Or.inr (by omega)) _))
    have e7 : g_drop M i 577 = M 577 - 1 := (upd_ne (by omega)).trans upd_eq
    have e0 : g_drop M i 580 = M 580 + 1 := upd_eq
    rw [e8, e9, e7, e0, h5]
    exact ct_e _ _ _
-- marks
theorem has_f {M : kM} {a b : Nat} {k : Int32} (h : ¬ g_has M a b k = true) : M (54 + 6 * a + b) &&& k = 0 := by
  unfold g_has at h
  simpa using h
theorem has_t {M : kM} {a b : Nat} {k : Int32} (h : g_has M a b k = true) : ¬ M (54 + 6 * a + b) &&& k = 0 := by
  unfold g_has at h
  simpa using h
theorem mk_or8 : ∀ n, n < 16 → ¬ (nI n &&& 5 = 5) → nI n &&& 2 = 0 → ¬ ((nI n ||| 8) &&& 5 = 5) ∧ ¬ ((nI n ||| 8) &&& 10 = 10) := by decide
theorem mk_or4 : ∀ n, n < 16 → ¬ (nI n &&& 10 = 10) → nI n &&& 5 = 0 → ¬ ((nI n ||| 4) &&& 5 = 5) ∧ ¬ ((nI n ||| 4) &&& 10 = 10) := by decide
theorem mk_m5 : ∀ n, n < 16 → ¬ (nI n &&& 10 = 10) → ¬ (((nI n &&& (-5)) ||| 1) &&& 5 = 5) ∧ ¬ (((nI n &&& (-5)) ||| 1) &&& 10 = 10) := by decide
theorem mk_m9 : ∀ n, n < 16 → ¬ (nI n &&& 5 = 5) → ¬ (((nI n &&& (-9)) ||| 2) &&& 5 = 5) ∧ ¬ (((nI n &&& (-9)) ||| 2) &&& 10 = 10) := by decide
theorem mk_m11 : ∀ n, n < 16 → ¬ (nI n &&& 5 = 5) → ¬ ((nI n &&& (-11)) &&& 5 = 5) ∧ ¬ ((nI n &&& (-11)) &&& 10 = 10) := by decide
theorem mk_m6 : ∀ n, n < 16 → ¬ (nI n &&& 10 = 10) → ¬ ((nI n &&& (-6)) &&& 5 = 5) ∧ ¬ ((nI n &&& (-6)) &&& 10 = 10) := by decide
section MK
variable {e B a b : Nat} {M : kM}
theorem ox_or8 (h : oX e B M) (ha : a < 6) (hb : b < 6) (hab : a ≠ b) (h2 : ¬ g_has M a b 2 = true) : oX e (B + 1) (g_become M a b (g_st M a b ||| 8)) := by
  obtain ⟨n, h3, h4⟩ := i_st h.1 ha hb
  have h5 := h.2.1 a b ha hb
  have h6 := has_f h2
  unfold xMk at h5
  refine ox_become h ha hb hab (i_s h.1 ha hb (F := fun x => x ||| 8) s_or8) ?_
  unfold g_st
  rw [h4] at h5 h6 ⊢
  exact mk_or8 n h3 h5.1 h6
theorem ox_or4 (h : oX e B M) (ha : a < 6) (hb : b < 6) (hab : a ≠ b) (h2 : ¬ g_has M a b 5 = true) : oX e (B + 1) (g_become M a b (g_st M a b ||| 4)) := by
  obtain ⟨n, h3, h4⟩ := i_st h.1 ha hb
  have h5 := h.2.1 a b ha hb
  have h6 := has_f h2
  unfold xMk at h5
  refine ox_become h ha hb hab (i_s h.1 ha hb (F := fun x => x ||| 4) s_or4) ?_
  unfold g_st
  rw [h4] at h5 h6 ⊢
  exact mk_or4 n h3 h5.2 h6
theorem ox_m5 (h : oX e B M) (ha : a < 6) (hb : b < 6) (hab : a ≠ b) : oX e (B + 1) (g_become M a b ((g_st M a b &&& (-5)) ||| 1)) := by
  obtain ⟨n, h3, h4⟩ := i_st h.1 ha hb
  have h5 := h.2.1 a b ha hb
  unfold xMk at h5
  refine ox_become h ha hb hab (i_s h.1 ha hb (F := fun x => (x &&& (-5)) ||| 1) s_m5) ?_
  unfold g_st
  rw [h4] at h5 ⊢
  exact mk_m5 n h3 h5.2
theorem ox_m9 (h : oX e B M) (ha : a < 6) (hb : b < 6) (hab : a ≠ b) : oX e (B + 1) (g_become M a b ((g_st M a b &&& (-9)) ||| 2)) := by
  obtain ⟨n, h3, h4⟩ := i_st h.1 ha hb
  have h5 := h.2.1 a b ha hb
  unfold xMk at h5
  refine ox_become h ha hb hab (i_s h.1 ha hb (F := fun x => (x &&& (-9)) ||| 2) s_m9) ?_
  unfold g_st
  rw [h4] at h5 ⊢
  exact mk_m9 n h3 h5.1
theorem ox_m11 (h : oX e B M) (ha : a < 6) (hb : b < 6) (hab : a ≠ b) : oX e (B + 1) (g_become M a b (g_st M a b &&& (-11))) := by
  obtain ⟨n, h3, h4⟩ := i_st h.1 ha hb
  have h5 := h.2.1 a b ha hb
  unfold xMk at h5
  refine ox_become h ha hb hab (i_s h.1 ha hb (F := fun x => x &&& (-11)) s_m11) ?_
  unfold g_st
  rw [h4] at h5 ⊢
  exact mk_m11 n h3 h5.1
theorem ox_m6 (h : oX e B M) (ha : a < 6) (hb : b < 6) (hab : a ≠ b) : oX e (B + 1) (g_become M a b (g_st M a b &&& (-6))) := by
  obtain ⟨n, h3, h4⟩ := i_st h.1 ha hb
  have h5 := h.2.1 a b ha hb
  unfold xMk at h5
  refine ox_become h ha hb hab (i_s h.1 ha hb (F := fun x => x &&& (-6)) s_m6) ?_
  unfold g_st
  rw [h4] at h5 ⊢
  exact mk_m6 n h3 h5.2
theorem ox_arrive {c : Nat} (h : oX e B M) (hc : kMsg (nI c)) (hlt : c < 2 ^ 31) (hft : c / 8 % 8 ≠ c / 64 % 8) : oX e (B + 1) (g_arrive M c) := by
  obtain ⟨k, f, t, s, d, h1, h2, h3, h4, h5, h6, h7, h8⟩ := hc
  have ec : c = g_code k f t s d := (nI_eq hlt (by unfold g_code; omega)).mp h8
  obtain ⟨e1, e2, e3, e4, e5⟩ := code_parts (d := d) h1 h2 h3 h4
  have hm := ox_mono (Nat.le_succ B) h
  rw [ec, e2, e3] at hft
  have htf := Ne.symm hft
  unfold g_arrive
  rw [ec, e1, e2, e3, e4, e5]
  split
  · exact hm
  split
  · split
    · exact ox_show (ox_send hm (by omega) h3 h2 (by omega) (by omega) (by omega) (by omega) htf) h3 h2 htf
    · rename_i g
      exact ox_or8 h h3 h2 htf g
  split
  · split
    · exact ox_m5 h h3 h2 htf
    · exact hm
  split
  · split
    · exact ox_hide (ox_m11 h h3 h2 htf) h3 h2 htf
    · exact hm
  split
  · exact ox_forget (ox_m6 h h3 h2 htf) h3 h2
  split
  · split
    · rename_i g
      refine ox_view hm h3 h2 h4 htf (Or.inr ⟨⟨d, h5, rfl⟩, fun q => nthere_of h.1 h3 q g.2⟩)
    · exact hm
  split
  · exact ox_view hm h3 h2 h4 htf (Or.inl rfl)
  · split
    · exact ox_show hm h3 h2 htf
    · exact ox_send hm (by omega) h3 h2 (by omega) (by omega) (by omega) (by omega) htf
theorem ox_step (h : oX e B M) (hw : 0 < wyN M) : oX e (B + 1) (g_arrive (g_take M) (g_msg M 0)) := ox_arrive (ox_take h hw) (i_msg h.1 0).1 (i_msglt h.1 0) (h.2.2.2.2.1 _ (q_head h.1 hw))
end MK
theorem ox_del {e : Nat} : ∀ (n : Nat) {B : Nat} {M : kM}, oX e B M → oX e (B + n) (g_del n M)
  | 0, _, _, h => h
  | n + 1, B, M, h => by
    unfold g_del
    split
    · exact ox_mono (by omega) h
    · have := ox_del n (ox_step h (by omega))
      rw [show B + 1 + n = B + (n + 1) by omega] at this
      exact this
section OPS
variable {B a b : Nat} {M : kM}
theorem ox_diag {e : Nat} (h : oX e B M) (ha : a < 6) (hB : B < 2 ^ 31) : M (54 + 6 * a + a) = 0 := by
  obtain ⟨v, g1, g2, g3, -, g5⟩ := h.2.2.1 a ha
  obtain ⟨u, f1, f2, f3⟩ := g3 a ha
  exact f3 ((nI_eq (by omega) (by omega)).mp (f2.symm.trans (g5.trans nI_0.symm)))
theorem ox_seersN {e k s d : Nat} {mk : Int32} (h : oX e B M) (hB : B < 2 ^ 31) (h1 : k < 7) (ha : a < 6) (h4 : s < 3) (h5 : d < 5) (h6 : k = 4 ∨ d = 0) (h7 : k = 4 ∨ k = 5 ∨ s = 0) : ∀ n, n ≤ 6 → oX e B (g_seersN M mk k a s d n)
  | 0, _ => h
  | n + 1, hn => by
    have ih := ox_seersN (mk := mk) h hB h1 ha h4 h5 h6 h7 n (by omega)
    unfold g_seersN
    split
    · rename_i g
      refine ox_send ih h1 ha (by omega) h4 h5 h6 h7 (fun q => ?_)
      subst q
      exact has_t g (by rw [ox_diag ih ha hB]; exact Int32.zero_and)
    · exact ih
theorem ox_seers {e k s d : Nat} {mk : Int32} (h : oX e B M) (hB : B < 2 ^ 31) (h1 : k < 7) (ha : a < 6) (h4 : s < 3) (h5 : d < 5) (h6 : k = 4 ∨ d = 0) (h7 : k = 4 ∨ k = 5 ∨ s = 0) : oX e B (g_seers M mk k a s d) := ox_seersN h hB h1 ha h4 h5 h6 h7 6 (by omega)
theorem ox_ask (h : oX 6 B M) (ha : a < 6) (hb : b < 6) (hab : a ≠ b) : oX 6 (B + 1) (g_ask M a b) := by
  unfold g_ask
  split
  · exact ox_mono (by omega) h
  · rename_i g
    exact ox_send (ox_or4 h ha hb hab g) (by omega) ha hb (by omega) (by omega) (by omega) (by omega) hab
theorem ox_grant (h : oX 6 B M) (ha : a < 6) (hb : b < 6) (hab : a ≠ b) : oX 6 (B + 1) (g_grant M a b) := by
  unfold g_grant
  split
  · exact ox_show (ox_send (ox_m9 h ha hb hab) (by omega) ha hb (by omega) (by omega) (by omega) (by omega) hab) ha hb hab
  · exact ox_mono (by omega) h
theorem ox_refuse (h : oX 6 B M) (ha : a < 6) (hb : b < 6) (hab : a ≠ b) : oX 6 (B + 1) (g_refuse M a b) := by
  have h1 : oX 6 (B + 1) (g_send (g_become M a b (g_st M a b &&& (-11))) 3 a b 0 0) := ox_send (ox_m11 h ha hb hab) (by omega) ha hb (by omega) (by omega) (by omega) (by omega) hab
  unfold g_refuse
  split
  · split
    · exact ox_hide h1 ha hb hab
    · exact h1
  · exact ox_mono (by omega) h
theorem ox_stop (h : oX 6 B M) (ha : a < 6) (hb : b < 6) (hab : a ≠ b) : oX 6 (B + 1) (g_stop M a b) := by
  unfold g_stop
  split
  · exact ox_forget (ox_send (ox_m6 h ha hb hab) (by omega) ha hb (by omega) (by omega) (by omega) (by omega) hab) ha hb
  · exact ox_mono (by omega) h
theorem ox_greet (h : oX 6 B M) (ha : a < 6) (hb : b < 6) (hab : a ≠ b) : oX 6 B (g_greet M a b) := by
  have h1 : oX 6 B (g_send M 6 a b 0 0) := ox_send h (by omega) ha hb (by omega) (by omega) (by omega) (by omega) hab
  unfold g_greet
  split
  · split
    · exact ox_show h1 ha hb hab
    · exact h1
  · split
    · exact ox_show h ha hb hab
    · exact h
theorem ox_bl {v : Bool} (h : oX 6 B M) (ha : a < 6) (hb : b < 6) : oX 6 B (upd M (240 + 6 * a + b) (kI v)) := by
  obtain ⟨hI, h1, h2, h3, h4, h5⟩ := h
  exact ⟨i_blupd hI (by omega), xSt_congr (fun k _ _ => upd_ne (by omega)) h1, xVer_congr (fun k _ _ => upd_ne (by omega)) h2, xVw_congr (fun k _ => upd_ne (by omega)) (fun k _ _ => upd_ne (by omega)) h3, xMs_same (fun k _ _ => upd_ne (by omega)) h4, xCt_same (fun k _ _ => upd_ne (by omega)) h5⟩
theorem ox_block {v : Bool} (h : oX 6 B M) (ha : a < 6) (hb : b < 6) (hab : a ≠ b) : oX 6 B (g_block M a b v) := by
  unfold g_block
  split
  · exact h
  · split
    · refine ox_forget (ox_bl (v := true) ?_ ha hb) ha hb
      split
      · exact ox_hide h ha hb hab
      · exact h
    · exact ox_greet (ox_bl (v := false) h ha hb) ha hb hab
theorem cnt_k2 : ∀ x y z : Bool, (x = true ∨ y = true ∨ z = true) → ¬ (0 + kI x + kI y + kI z = 0) := by decide
theorem kI_inj1 : ∀ x : Bool, kI x = 1 → x = true := by decide
theorem cnt_pos {s : Nat} (h : kInv M) (ha : a < 6) (hs : s < 3) (e : M (9 * a + 3 * s) = 1) : ¬ g_cnt M a = 0 := by
  obtain ⟨x, hx⟩ := i_on h ha (show 0 < 3 by omega)
  obtain ⟨y, hy⟩ := i_on h ha (show 1 < 3 by omega)
  obtain ⟨z, hz⟩ := i_on h ha (show 2 < 3 by omega)
  show ¬ 0 + M (9 * a + 3 * 0) + M (9 * a + 3 * 1) + M (9 * a + 3 * 2) = 0
  rw [hx, hy, hz]
  refine cnt_k2 x y z ?_
  rcases (show s = 0 ∨ s = 1 ∨ s = 2 by omega) with rfl | rfl | rfl
  · exact Or.inl (kI_inj1 x (hx.symm.trans e))
  · exact Or.inr (Or.inl (kI_inj1 y (hy.symm.trans e)))
  · exact Or.inr (Or.inr (kI_inj1 z (hz.symm.trans e)))
theorem set_on {s : Nat} {rk md : Int32} : g_set M a s rk md (9 * a + 3 * s) = 1 := (upd_ne (by omega)).trans ((upd_ne (by omega)).trans upd_eq)
theorem ox_set {s d : Nat} {rk : Int32} (h : oX 6 B M) (ha : a < 6) (hs : s < 3) (hd : d < 5) : oX 6 B (g_set M a s rk (nI d)) := by
  obtain ⟨hI, h1, h2, h3, h4, h5⟩ := h
  have hN := i_set hI (rk := rk) ha hs hd
  refine ⟨hN, xSt_congr (fun k _ _ => o_set ha hs (by omega)) h1, xVer_congr (fun k _ _ => o_set ha hs (by omega)) h2, fun x y w hx hy hw => ?_, xMs_same (fun k _ _ => o_set ha hs (by omega)) h4, xCt_same (fun k _ _ => o_set ha hs (by omega)) h5⟩
  obtain ⟨g1, g2, g9⟩ := h3 x y w hx hy hw
  rw [o_set ha hs (by omega)]
  refine ⟨g1, fun q6 hc => ?_, g9⟩
  by_cases q : x = a
  · subst q
    exact absurd hc (cnt_pos hN ha hs set_on)
  · refine g2 q6 ?_
    rw [← hc]
    exact (cnt_congr fun z hz => (upd_ne (by omega)).trans ((upd_ne (by omega)).trans (upd_ne (by omega)))).symm
theorem ox_turnOn {s d : Nat} {rk : Int32} (h : oX 6 B M) (hB : B < 2 ^ 31) (ha : a < 6) (hs : s < 3) (hd : d < 5) : oX 6 B (g_turnOn M a s rk d) := by
  unfold g_turnOn
  have h1 := ox_set (rk := rk) h ha hs hd
  split
  · exact ox_seers h1 hB (by omega) ha hs hd (by omega) (by omega)
  · exact ox_seers (ox_seers (ox_forgetAll h1 ha) hB (by omega) ha (by omega) (by omega) (by omega) (by omega)) hB (by omega) ha hs hd (by omega) (by omega)
theorem ox_off {s : Nat} (h : oX 6 B M) (ha : a < 6) (hs : s < 3) : oX a B (upd M (9 * a + 3 * s) 0) := by
  obtain ⟨hI, h1, h2, h3, h4, h5⟩ := h
  refine ⟨i_onupd (b := false) hI (by omega), xSt_congr (fun k _ _ => upd_ne (by omega)) h1, xVer_congr (fun k _ _ => upd_ne (by omega)) h2, fun x y w hx hy hw => ?_, xMs_same (fun k _ _ => upd_ne (by omega)) h4, xCt_same (fun k _ _ => upd_ne (by omega)) h5⟩
  obtain ⟨g1, g2, g9⟩ := h3 x y w hx hy hw
  rw [upd_ne (by omega)]
  refine ⟨g1, fun q hc => g2 (by omega) ?_, g9⟩
  rw [← hc]
  exact (cnt_congr fun z hz => upd_ne (by omega)).symm
theorem ox_turnOff {s : Nat} (h : oX 6 B M) (hB : B < 2 ^ 31) (ha : a < 6) (hs : s < 3) : oX 6 B (g_turnOff M a s) := by
  have h1 : oX a B (g_seers (upd M (9 * a + 3 * s) 0) 2 5 a s 0) := ox_seers (ox_off h ha hs) hB (by omega) ha hs (by omega) (by omega) (by omega)
  unfold g_turnOff
  split
  · rename_i g
    obtain ⟨hI, g1, g2, g3, g4, g5⟩ := h1
    refine ⟨hI, g1, g2, fun x y w hx hy hw => ⟨(g3 x y w hx hy hw).1, fun _ hc => ?_, (g3 x y w hx hy hw).2.2⟩, g4, g5⟩
    by_cases q : x = a
    · subst q
      exact absurd g (nthere_of hI ha hc)
    · exact (g3 x y w hx hy hw).2.1 q hc
  · have h2 := ox_forgetAll h1 ha
    obtain ⟨hI, g1, g2, g3, g4, g5⟩ := h2
    refine ⟨hI, g1, g2, fun x y w hx hy hw => ⟨(g3 x y w hx hy hw).1, fun _ hc => ?_, (g3 x y w hx hy hw).2.2⟩, g4, g5⟩
    by_cases q : x = a
    · subst q
      exact forgetAll_at hy hw
    · exact (g3 x y w hx hy hw).2.1 q hc
end OPS
