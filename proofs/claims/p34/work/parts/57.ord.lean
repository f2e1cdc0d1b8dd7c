/-! orders: what one does, what a text of them does -/
def g_do (l a b : Nat) (M : kM) : kM := if l = 97 then g_ask M a b else if l = 103 then g_grant M a b else if l = 114 then g_refuse M a b else if l = 115 then g_stop M a b else if l = 105 then g_turnOn M a b (nI 0) 0 else if l = 111 then g_turnOff M a b else g_del (10 * a + b) M
def kOrd (l a b : Nat) : Prop := ((l = 97 ∨ l = 103 ∨ l = 114 ∨ l = 115) ∧ a < 6 ∧ b < 6 ∧ a ≠ b) ∨ ((l = 105 ∨ l = 111) ∧ a < 6 ∧ b < 3) ∨ (l = 100 ∧ a < 10 ∧ b < 10)
def g_ok (l a b : Nat) (M : kM) : Bool := if l = 111 then g_on M a b else true
theorem i_do {M : kM} (h : kInv M) {l a b : Nat} (ho : kOrd l a b) : kInv (g_do l a b M) := by
  unfold g_do
  rcases ho with ⟨q, ha, hb, -⟩ | ⟨q, ha, hb⟩ | ⟨q, ha, hb⟩
  · rcases q with rfl | rfl | rfl | rfl
    · exact i_ask h ha hb
    · exact i_grant h ha hb
    · exact i_refuse h ha hb
    · exact i_stop h ha hb
  · rcases q with rfl | rfl
    · exact i_turnOn h ha hb (by omega)
    · exact i_turnOff h ha hb
  · subst q
    exact i_del _ h
theorem h_seersN {M : kM} {mk : Int32} {k a s d j : Nat} (hj : 581 ≤ j) : ∀ n, g_seersN M mk k a s d n j = M j
  | 0 => rfl
  | n + 1 => by
    unfold g_seersN
    split
    · rw [h_send hj]
      exact h_seersN hj n
    · exact h_seersN hj n
theorem h_do {M : kM} (h : kInv M) {l a b : Nat} (ho : kOrd l a b) {j : Nat} (hj : 581 ≤ j) : g_do l a b M j = M j := by
  unfold g_do
  rcases ho with ⟨q, ha, hb, -⟩ | ⟨q, ha, hb⟩ | ⟨q, ha, hb⟩
  · rcases q with rfl | rfl | rfl | rfl
    · show g_ask M a b j = M j
      unfold g_ask
      split
      · rfl
      · rw [h_send hj, o_become ha hb (by omega)]
    · show g_grant M a b j = M j
      unfold g_grant
      split
      · exact (h_showN hj 3).trans ((h_send hj).trans (o_become ha hb (by omega)))
      · rfl
    · show g_refuse M a b j = M j
      unfold g_refuse
      split
      · split
        · exact (h_hideN hj 3).trans ((h_send hj).trans (o_become ha hb (by omega)))
        · exact (h_send hj).trans (o_become ha hb (by omega))
      · rfl
    · show g_stop M a b j = M j
      unfold g_stop
      split
      · rw [o_forget ha hb (by omega)]
        exact (h_send hj).trans (o_become ha hb (by omega))
      · rfl
  · rcases q with rfl | rfl
    · show g_turnOn M a b (nI 0) 0 j = M j
      unfold g_turnOn
      split
      · exact (h_seersN hj 6).trans (o_set ha hb (by omega))
      · exact (h_seersN hj 6).trans ((h_seersN hj 6).trans ((o_forgetAll ha (by omega)).trans (o_set ha hb (by omega))))
    · show g_turnOff M a b j = M j
      unfold g_turnOff
      split
      · exact (h_seersN hj 6).trans (upd_ne (by omega))
      · exact (o_forgetAll ha (by omega)).trans ((h_seersN hj 6).trans (upd_ne (by omega)))
  · subst q
    exact h_del _ h hj
theorem cnt_nn {M : kM} (h : kInv M) {a : Nat} (ha : a < 6) : ¬ g_cnt M a < 0 := by
  obtain ⟨x, hx⟩ := i_on h ha (show 0 < 3 by omega)
  obtain ⟨y, hy⟩ := i_on h ha (show 1 < 3 by omega)
  obtain ⟨w, hw⟩ := i_on h ha (show 2 < 3 by omega)
  show ¬ 0 + M (9 * a + 3 * 0) + M (9 * a + 3 * 1) + M (9 * a + 3 * 2) < 0
  rw [hx, hy, hw]
  cases x <;> cases y <;> cases w <;> decide
theorem cnt_m1 {M : kM} (h : kInv M) {a : Nat} (ha : a < 6) : ¬ g_cnt M a = -1 := fun q => cnt_nn h ha (by rw [q]; decide)
theorem first_noneR {T : Nat → Int32} {L : Nat} : ∀ n i, c_first T L i n = none → ∀ j, i ≤ j → j < i + n → c_can T j = true
  | 0, i, _, j, h1, h2 => by omega
  | n + 1, i, h, j, h1, h2 => by
    unfold c_first at h
    by_cases e : c_can T i = true
    · rw [if_pos e] at h
      by_cases ej : j = i
      · rw [ej]
        exact e
      · exact first_noneR n (i + 1) h j (by omega) (by omega)
    · rw [if_neg e] at h
      cases h
theorem okk_all {T : Nat → Int32} {L : Nat} (h : c_okk T L = true) : (∀ j, j < L → c_can T j = true) ∧ L % 4 = 0 := by
  unfold c_okk at h
  cases e : c_first T L 0 L with
  | some i => rw [e] at h; cases h
  | none =>
    rw [e] at h
    exact ⟨fun j hj => first_noneR L 0 e j (by omega) (by omega), of_decide_eq_true h⟩
def g_a (T : Nat → Int32) (o : Nat) : Nat := ch T (4 * o + 1) - 48
def g_b (T : Nat → Int32) (o : Nat) : Nat := ch T (4 * o + 2) - 48
theorem dig_sub {T : Nat → Int32} {i lim : Nat} (h : c_dig (ch T i) lim = true) : nI (ch T i) - 48 = nI (ch T i - 48) ∧ ch T i - 48 < lim ∧ 48 ≤ ch T i := by
  unfold c_dig at h
  have := of_decide_eq_true h
  exact ⟨pk_sub (a := ch T i) (b := 48) this.1, by omega, this.1⟩
theorem ord_at {T : Nat → Int32} {L o : Nat} (hok : c_okk T L = true) (ho : o < L / 4) : kOrd (ch T (4 * o)) (g_a T o) (g_b T o) ∧ nI (ch T (4 * o + 1)) - 48 = nI (g_a T o) ∧ nI (ch T (4 * o + 2)) - 48 = nI (g_b T o) := by
  obtain ⟨hall, h4⟩ := okk_all hok
  have c0 := hall (4 * o) (by omega)
  have c1 := hall (4 * o + 1) (by omega)
  have c2 := hall (4 * o + 2) (by omega)
  rw [can_0 (by omega)] at c0
  rw [can_1 (by omega)] at c1
  rw [can_2 (by omega)] at c2
  obtain ⟨e1, b1, g1⟩ := dig_sub c1
  unfold c_isl at c0
  have c0 := of_decide_eq_true c0
  unfold c_snd at c2
  unfold g_a g_b
  by_cases q1 : ch T (4 * o) = 100
  · rw [if_pos q1] at c2 b1
    obtain ⟨e2, b2, g2⟩ := dig_sub c2
    exact ⟨Or.inr (Or.inr ⟨q1, b1, b2⟩), e1, e2⟩
  · rw [if_neg q1] at c2 b1
    by_cases q2 : ch T (4 * o) = 105 ∨ ch T (4 * o) = 111
    · rw [if_pos q2] at c2
      obtain ⟨e2, b2, g2⟩ := dig_sub c2
      exact ⟨Or.inr (Or.inl ⟨q2, b1, b2⟩), e1, e2⟩
    · rw [if_neg q2] at c2
      simp only [Bool.and_eq_true, decide_eq_true_eq] at c2
      obtain ⟨e2, b2, g2⟩ := dig_sub c2.1
      have := c2.2
      exact ⟨Or.inl ⟨by omega, b1, b2, by omega⟩, e1, e2⟩
def g_run (T : Nat → Int32) (M : kM) : Nat → kM
  | 0 => M
  | k + 1 => g_do (ch T (4 * k)) (g_a T k) (g_b T k) (g_run T M k)
def g_okr (T : Nat → Int32) (M : kM) (k : Nat) : Bool := g_ok (ch T (4 * k)) (g_a T k) (g_b T k) (g_run T M k)
theorem i_run {T : Nat → Int32} {L : Nat} {M : kM} (hok : c_okk T L = true) (h : kInv M) : ∀ k, k ≤ L / 4 → kInv (g_run T M k)
  | 0, _ => h
  | k + 1, hk => i_do (i_run hok h k (by omega)) (ord_at hok (by omega)).1
theorem h_run {T : Nat → Int32} {L : Nat} {M : kM} (hok : c_okk T L = true) (h : kInv M) {j : Nat} (hj : 581 ≤ j) : ∀ k, k ≤ L / 4 → g_run T M k j = M j
  | 0, _ => rfl
  | k + 1, hk => (h_do (i_run hok h k (by omega)) (ord_at hok (by omega)).1 hj).trans (h_run hok h hj k (by omega))
/-- either all orders can be done, or there is a first that can't -/
theorem okr_or (T : Nat → Int32) (M : kM) : ∀ n, (∀ j, j < n → g_okr T M j = true) ∨ ∃ k, k < n ∧ (∀ j, j < k → g_okr T M j = true) ∧ g_okr T M k = false
  | 0 => Or.inl fun j hj => absurd hj (Nat.not_lt_zero j)
  | n + 1 => by
    rcases okr_or T M n with h | ⟨k, h1, h2, h3⟩
    · cases e : g_okr T M n
      · exact Or.inr ⟨n, by omega, h, e⟩
      · refine Or.inl fun j hj => ?_
        by_cases q : j = n
        · rw [q]
          exact e
        · exact h j (by omega)
    · exact Or.inr ⟨k, by omega, h2, h3⟩
/-- mostNeeded's loops -/
def g_ls (M : kM) (k : Nat) : Nat := if k = 0 then 0 else (g_nd M k).2
def g_ndT (M : kM) : Nat → kM
  | 0 => g_del 1000 M
  | k + 1 => if g_ofSeat (g_msg M k) = true then g_ndT M k else g_del 1000 (g_drop M k)
theorem ndT_seat {M : kM} {k : Nat} (h : g_ofSeat (g_msg M k) = true) : g_ndT M k = g_ndT M (k + 1) := (if_pos h).symm
theorem ndT_mark {M : kM} {k : Nat} (h : g_ofSeat (g_msg M k) = false) : g_del 1000 (g_drop M k) = g_ndT M (k + 1) := (if_neg (by rw [h]; decide)).symm
theorem nd_2 {M : kM} (k : Nat) : (g_nd M k).2 ≤ 36 := by
  rcases nd_pos (M := M) k with ⟨-, -, h⟩ | ⟨-, i, -, -, h⟩ <;> omega
theorem ls_le {M : kM} (k : Nat) : g_ls M k ≤ 36 := by
  have := nd_2 (M := M) k
  unfold g_ls
  split <;> omega
theorem nd_m1 {M : kM} {k : Nat} (hw : k < 1000) : (g_nd M k).1 = -1 ↔ k = 0 := by
  rcases nd_pos (M := M) k with ⟨h1, h2, -⟩ | ⟨h1, i, h2, h3, -⟩
  · exact ⟨fun _ => h1, fun _ => h2⟩
  · exact ⟨fun q => absurd (h3 ▸ q) (nI_m1 (by omega)), fun q => by omega⟩
theorem ndA {M : kM} {k p : Nat} (hw : k < 1000) (hp : p = g_np M k) (h : (g_nd M k).1 = -1) : (g_nd M (k + 1)).1 = nI k ∧ g_ls M (k + 1) = p := by
  have h0 := (nd_m1 hw).mp h
  subst h0
  subst hp
  have h1 : g_np M 0 ≤ 30 := pairs_le
  have h2 : g_nd M 1 = (nI 0, g_np M 0) := nd_step (show g_np M 0 < 36 by omega)
  refine ⟨by rw [h2], ?_⟩
  unfold g_ls
  rw [if_neg (by omega), h2]
theorem ndB {M : kM} {k p : Nat} (hw : k < 1000) (hp : p = g_np M k) (h : ¬ (g_nd M k).1 = -1) (h2 : g_ls M k ≤ p) : (g_nd M (k + 1)).1 = (g_nd M k).1 ∧ g_ls M (k + 1) = g_ls M k := by
  have h0 : ¬ k = 0 := fun q => h ((nd_m1 hw).mpr q)
  subst hp
  unfold g_ls at *
  rw [if_neg h0] at *
  rw [if_neg (by omega), nd_keep (by omega)]
  exact ⟨rfl, rfl⟩
theorem ndC {M : kM} {k p : Nat} (hw : k < 1000) (hp : p = g_np M k) (h : ¬ (g_nd M k).1 = -1) (h2 : p < g_ls M k) : (g_nd M (k + 1)).1 = nI k ∧ g_ls M (k + 1) = p := by
  have h0 : ¬ k = 0 := fun q => h ((nd_m1 hw).mpr q)
  subst hp
  unfold g_ls at *
  rw [if_neg h0] at h2
  rw [if_neg (by omega), nd_step h2]
  exact ⟨rfl, rfl⟩
theorem ndX {M : kM} {k p : Nat} (hp : p = g_np M k) (h : p < (g_nd M k).2) : g_nd M (k + 1) = (nI k, p) := by
  subst hp
  exact nd_step h
theorem ndY {M : kM} {k p : Nat} (hp : p = g_np M k) (h : (g_nd M k).2 ≤ p) : g_nd M (k + 1) = g_nd M k := by
  subst hp
  exact nd_keep (by omega)
theorem cpy_577 {M S : Nat → Int32} : va_cpy M S 0 0 581 577 = M 577 := by
  unfold va_cpy
  rw [if_pos (by omega)]
theorem first_lt {T : Nat → Int32} {L : Nat} : ∀ n i k, c_first T L i n = some k → k < i + n
  | 0, i, k, h => by cases h
  | n + 1, i, k, h => by
    unfold c_first at h
    split at h
    · have := first_lt n (i + 1) k h
      omega
    · cases h
      omega
theorem pos_le {T : Nat → Int32} {L : Nat} : c_pos T L ≤ L := by
  unfold c_pos
  cases e : c_first T L 0 L with
  | some k =>
    have := first_lt L 0 k e
    show k ≤ L
    omega
  | none => exact Nat.le_refl L
