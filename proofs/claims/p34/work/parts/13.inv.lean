/-! what the methods leave alone, and what holds of every memory that a run comes to -/
theorem o_set {M : kM} {a s k : Nat} {rk md : Int32} (ha : a < 6) (hs : s < 3) (hk : 54 ≤ k) : g_set M a s rk md k = M k := by
  unfold g_set
  rw [upd_ne (by omega), upd_ne (by omega), upd_ne (by omega)]
theorem o_become {M : kM} {a b k : Nat} {t : Int32} (ha : a < 6) (hb : b < 6) (hk : k < 54 ∨ 132 ≤ k) : g_become M a b t k = M k := by
  unfold g_become
  split
  · rfl
  · rw [upd_ne (by omega), upd_ne (by omega), upd_ne (by omega)]
theorem o_forgetN {M : kM} {a b k : Nat} (ha : a < 6) (hb : b < 6) (hk : k < 132 ∨ 240 ≤ k) : ∀ n, n ≤ 3 → g_forgetN M a b n k = M k
  | 0, _ => rfl
  | n + 1, hn => by
    show upd _ _ _ k = M k
    rw [upd_ne (by omega)]
    exact o_forgetN ha hb hk n (by omega)
theorem o_forget {M : kM} {a b k : Nat} (ha : a < 6) (hb : b < 6) (hk : k < 132 ∨ 240 ≤ k) : g_forget M a b k = M k := o_forgetN ha hb hk 3 (by omega)
theorem o_forgetAllN {M : kM} {a k : Nat} (ha : a < 6) (hk : k < 132 ∨ 240 ≤ k) : ∀ n, n ≤ 6 → g_forgetAllN M a n k = M k
  | 0, _ => rfl
  | n + 1, hn => by
    show g_forget _ _ _ k = M k
    rw [o_forget ha (by omega) hk]
    exact o_forgetAllN ha hk n (by omega)
theorem o_forgetAll {M : kM} {a k : Nat} (ha : a < 6) (hk : k < 132 ∨ 240 ≤ k) : g_forgetAll M a k = M k := o_forgetAllN ha hk 6 (by omega)
theorem o_put {M : kM} {c k : Nat} (hk : k < 276) : g_put M c k = M k := by
  unfold g_put
  split
  · rw [upd_ne (by omega), upd_ne (by omega)]
  · rw [upd_ne (by omega), upd_ne (by omega), upd_ne (by omega)]
theorem o_send {M : kM} {k f t s d j : Nat} (hj : j < 276) : g_send M k f t s d j = M j := by
  unfold g_send
  split
  · rfl
  · exact o_put hj
theorem o_take {M : kM} {k : Nat} (hk : k < 576 ∨ k = 578 ∨ k = 580) : g_take M k = M k := by
  unfold g_take
  rw [upd_ne (by omega), upd_ne (by omega), upd_ne (by omega)]
theorem o_shN {M : kM} {i k : Nat} (hk : k < 276 ∨ 576 ≤ k) : ∀ n, g_shN M i n k = M k
  | 0 => rfl
  | n + 1 => by
    show upd _ _ _ k = M k
    rw [upd_ne (by omega)]
    exact o_shN hk n
theorem o_drop {M : kM} {i k : Nat} (hk : k < 276) : g_drop M i k = M k := by
  unfold g_drop
  rw [upd_ne (by omega), upd_ne (by omega)]
  exact o_shN (Or.inl hk) _
-- the invariant
def kMsg (x : Int32) : Prop := ∃ k f t s d : Nat, k < 7 ∧ f < 6 ∧ t < 6 ∧ s < 3 ∧ d < 5 ∧ (k = 4 ∨ d = 0) ∧ (k = 4 ∨ k = 5 ∨ s = 0) ∧ x = nI (g_code k f t s d)
def kInv (M : kM) : Prop := (∀ i, i < 18 → ∃ n, n < 5 ∧ M (2 + 3 * i) = nI n) ∧ (∀ i, i < 36 → ∃ n, n < 16 ∧ M (54 + i) = nI n) ∧ (∀ i, i < 36 → ∃ b : Bool, M (240 + i) = kI b) ∧ (∃ n, n < 300 ∧ M 576 = nI n) ∧ (∃ n, n ≤ 300 ∧ M 577 = nI n) ∧ (∀ i, i < 300 → kMsg (M (276 + i))) ∧ (∀ i, i < 18 → ∃ b : Bool, M (3 * i) = kI b)
theorem nI_back {x : Int32} {n : Nat} (h : x = nI n) (hn : n < 2 ^ 31) : x.toNatClampNeg = n := by rw [h]; exact nI_clamp hn
theorem i_hd {M : kM} (h : kInv M) : M 576 = nI (hdN M) := by
  obtain ⟨n, h1, h2⟩ := h.2.2.2.1
  unfold hdN
  rw [nI_back h2 (by omega)]
  exact h2
theorem i_hdlt {M : kM} (h : kInv M) : hdN M < 300 := by
  obtain ⟨n, h1, h2⟩ := h.2.2.2.1
  unfold hdN
  rw [nI_back h2 (by omega)]
  exact h1
theorem i_wy {M : kM} (h : kInv M) : M 577 = nI (wyN M) := by
  obtain ⟨n, h1, h2⟩ := h.2.2.2.2.1
  unfold wyN
  rw [nI_back h2 (by omega)]
  exact h2
theorem i_wyle {M : kM} (h : kInv M) : wyN M ≤ 300 := by
  obtain ⟨n, h1, h2⟩ := h.2.2.2.2.1
  unfold wyN
  rw [nI_back h2 (by omega)]
  exact h1
theorem i_md {M : kM} (h : kInv M) {a s : Nat} (ha : a < 6) (hs : s < 3) : M (2 + 9 * a + 3 * s) = nI (g_md M a s) := by
  obtain ⟨n, h1, h2⟩ := h.1 (3 * a + s) (by omega)
  have e : 2 + 3 * (3 * a + s) = 2 + 9 * a + 3 * s := by omega
  rw [e] at h2
  unfold g_md
  rw [nI_back h2 (by omega)]
  exact h2
theorem i_mdlt {M : kM} (h : kInv M) {a s : Nat} (ha : a < 6) (hs : s < 3) : g_md M a s < 5 := by
  obtain ⟨n, h1, h2⟩ := h.1 (3 * a + s) (by omega)
  have e : 2 + 3 * (3 * a + s) = 2 + 9 * a + 3 * s := by omega
  rw [e] at h2
  unfold g_md
  rw [nI_back h2 (by omega)]
  exact h1
theorem i_st {M : kM} (h : kInv M) {a b : Nat} (ha : a < 6) (hb : b < 6) : ∃ n, n < 16 ∧ M (54 + 6 * a + b) = nI n := by
  obtain ⟨n, h1, h2⟩ := h.2.1 (6 * a + b) (by omega)
  have e : 54 + (6 * a + b) = 54 + 6 * a + b := by omega
  rw [e] at h2
  exact ⟨n, h1, h2⟩
theorem i_bl {M : kM} (h : kInv M) {a b : Nat} (ha : a < 6) (hb : b < 6) : ∃ v : Bool, M (240 + 6 * a + b) = kI v := by
  obtain ⟨v, h2⟩ := h.2.2.1 (6 * a + b) (by omega)
  have e : 240 + (6 * a + b) = 240 + 6 * a + b := by omega
  rw [e] at h2
  exact ⟨v, h2⟩
theorem i_msg {M : kM} (h : kInv M) (i : Nat) : kMsg (nI (g_msg M i)) ∧ M (276 + (hdN M + i) % 300) = nI (g_msg M i) := by
  obtain ⟨k, f, t, s, d, h1, h2, h3, h4, h5, h6, h7, h8⟩ := h.2.2.2.2.2.1 ((hdN M + i) % 300) (by omega)
  have e : g_msg M i = g_code k f t s d := by
    unfold g_msg
    exact nI_back h8 (by unfold g_code; omega)
  rw [e]
  exact ⟨⟨k, f, t, s, d, h1, h2, h3, h4, h5, h6, h7, rfl⟩, h8⟩
theorem i_upd {M : kM} (h : kInv M) {k : Nat} {x : Int32} (c1 : ∀ i, i < 18 → k = 2 + 3 * i → ∃ n, n < 5 ∧ x = nI n) (c2 : ∀ i, i < 36 → k = 54 + i → ∃ n, n < 16 ∧ x = nI n) (c3 : ∀ i, i < 36 → k = 240 + i → ∃ b : Bool, x = kI b) (c4 : k = 576 → ∃ n, n < 300 ∧ x = nI n) (c5 : k = 577 → ∃ n, n ≤ 300 ∧ x = nI n) (c6 : ∀ i, i < 300 → k = 276 + i → kMsg x) (c7 : ∀ i, i < 18 → k = 3 * i → ∃ b : Bool, x = kI b) : kInv (upd M k x) := by
  have key : ∀ {P : Int32 → Prop} (j : Nat), P (M j) → (k = j → P x) → P (upd M k x j) := by
    intro P j h1 h2
    by_cases e : j = k
    · subst e; rw [upd_eq]; exact h2 rfl
    · rw [upd_ne e]; exact h1
  exact ⟨fun i hi => key (P := fun y => ∃ n, n < 5 ∧ y = nI n) _ (h.1 i hi) (c1 i hi), fun i hi => key (P := fun y => ∃ n, n < 16 ∧ y = nI n) _ (h.2.1 i hi) (c2 i hi), fun i hi => key (P := fun y => ∃ b : Bool, y = kI b) _ (h.2.2.1 i hi) (c3 i hi), key (P := fun y => ∃ n, n < 300 ∧ y = nI n) _ h.2.2.2.1 c4, key (P := fun y => ∃ n, n ≤ 300 ∧ y = nI n) _ h.2.2.2.2.1 c5, fun i hi => key (P := kMsg) _ (h.2.2.2.2.2.1 i hi) (c6 i hi), fun i hi => key (P := fun y => ∃ b : Bool, y = kI b) _ (h.2.2.2.2.2.2 i hi) (c7 i hi)⟩
theorem i_free {M : kM} (h : kInv M) {k : Nat} {x : Int32} (hk : (k < 54 ∧ k % 3 = 1) ∨ (90 ≤ k ∧ k < 240) ∨ 578 ≤ k) : kInv (upd M k x) := i_upd h (fun i _ e => by omega) (fun i _ e => by omega) (fun i _ e => by omega) (fun e => by omega) (fun e => by omega) (fun i _ e => by omega) (fun i _ e => by omega)
theorem i_onupd {M : kM} (h : kInv M) {k : Nat} {b : Bool} (hk : k < 54 ∧ k % 3 = 0) : kInv (upd M k (kI b)) := i_upd h (fun i _ e => by omega) (fun i _ e => by omega) (fun i _ e => by omega) (fun e => by omega) (fun e => by omega) (fun i _ e => by omega) (fun i _ e => ⟨b, rfl⟩)
theorem i_stupd {M : kM} (h : kInv M) {k : Nat} {x : Int32} (hk : 54 ≤ k ∧ k < 90) (hx : ∃ n, n < 16 ∧ x = nI n) : kInv (upd M k x) := i_upd h (fun i _ e => by omega) (fun i _ e => hx) (fun i _ e => by omega) (fun e => by omega) (fun e => by omega) (fun i _ e => by omega) (fun i _ e => by omega)
theorem i_blupd {M : kM} (h : kInv M) {k : Nat} {b : Bool} (hk : 240 ≤ k ∧ k < 276) : kInv (upd M k (kI b)) := i_upd h (fun i _ e => by omega) (fun i _ e => by omega) (fun i _ e => ⟨b, rfl⟩) (fun e => by omega) (fun e => by omega) (fun i _ e => by omega) (fun i _ e => by omega)
theorem i_mdupd {M : kM} (h : kInv M) {k n : Nat} (hk : k < 54 ∧ k % 3 = 2) (hn : n < 5) : kInv (upd M k (nI n)) := i_upd h (fun i _ e => ⟨n, hn, rfl⟩) (fun i _ e => by omega) (fun i _ e => by omega) (fun e => by omega) (fun e => by omega) (fun i _ e => by omega) (fun i _ e => by omega)
theorem i_msgupd {M : kM} (h : kInv M) {k : Nat} {x : Int32} (hk : 276 ≤ k ∧ k < 576) (hx : kMsg x) : kInv (upd M k x) := i_upd h (fun i _ e => by omega) (fun i _ e => by omega) (fun i _ e => by omega) (fun e => by omega) (fun e => by omega) (fun i _ e => hx) (fun i _ e => by omega)
theorem i_hdupd {M : kM} (h : kInv M) {n : Nat} (hn : n < 300) : kInv (upd M 576 (nI n)) := i_upd h (fun i _ e => by omega) (fun i _ e => by omega) (fun i _ e => by omega) (fun e => ⟨n, hn, rfl⟩) (fun e => by omega) (fun i _ e => by omega) (fun i _ e => by omega)
theorem i_wyupd {M : kM} (h : kInv M) {n : Nat} (hn : n ≤ 300) : kInv (upd M 577 (nI n)) := i_upd h (fun i _ e => by omega) (fun i _ e => by omega) (fun i _ e => by omega) (fun e => by omega) (fun e => ⟨n, hn, rfl⟩) (fun i _ e => by omega) (fun i _ e => by omega)
theorem s_or4 : ∀ n, n < 16 → ∃ m, m < 16 ∧ nI n ||| 4 = nI m := by decide
theorem s_or8 : ∀ n, n < 16 → ∃ m, m < 16 ∧ nI n ||| 8 = nI m := by decide
theorem s_m9 : ∀ n, n < 16 → ∃ m, m < 16 ∧ (nI n &&& (-9)) ||| 2 = nI m := by decide
theorem s_m5 : ∀ n, n < 16 → ∃ m, m < 16 ∧ (nI n &&& (-5)) ||| 1 = nI m := by decide
theorem s_m11 : ∀ n, n < 16 → ∃ m, m < 16 ∧ nI n &&& (-11) = nI m := by decide
theorem s_m6 : ∀ n, n < 16 → ∃ m, m < 16 ∧ nI n &&& (-6) = nI m := by decide
theorem i_s {M : kM} (h : kInv M) {a b : Nat} (ha : a < 6) (hb : b < 6) {F : Int32 → Int32} (hF : ∀ n, n < 16 → ∃ m, m < 16 ∧ F (nI n) = nI m) : ∃ n, n < 16 ∧ F (g_st M a b) = nI n := by
  obtain ⟨n, h1, h2⟩ := i_st h ha hb
  unfold g_st
  rw [h2]
  exact hF n h1
theorem i_become {M : kM} (h : kInv M) {a b : Nat} {t : Int32} (ha : a < 6) (hb : b < 6) (ht : ∃ n, n < 16 ∧ t = nI n) : kInv (g_become M a b t) := by
  unfold g_become
  split
  · exact h
  · exact i_free (i_free (i_stupd h (by omega) ht) (by omega)) (by omega)
theorem i_forgetN {M : kM} (h : kInv M) {a b : Nat} (ha : a < 6) (hb : b < 6) : ∀ n, n ≤ 3 → kInv (g_forgetN M a b n)
  | 0, _ => h
  | n + 1, hn => i_free (i_forgetN h ha hb n (by omega)) (by omega)
theorem i_forget {M : kM} (h : kInv M) {a b : Nat} (ha : a < 6) (hb : b < 6) : kInv (g_forget M a b) := i_forgetN h ha hb 3 (by omega)
theorem i_forgetAllN {M : kM} (h : kInv M) {a : Nat} (ha : a < 6) : ∀ n, n ≤ 6 → kInv (g_forgetAllN M a n)
  | 0, _ => h
  | n + 1, hn => i_forget (i_forgetAllN h ha n (by omega)) ha (by omega)
theorem i_forgetAll {M : kM} (h : kInv M) {a : Nat} (ha : a < 6) : kInv (g_forgetAll M a) := i_forgetAllN h ha 6 (by omega)
theorem i_put {M : kM} (h : kInv M) {c : Nat} (hc : kMsg (nI c)) : kInv (g_put M c) := by
  unfold g_put
  split
  · exact i_free (i_free h (by omega)) (by omega)
  · rename_i h3
    have h4 := i_wy h
    have h5 := i_wyle h
    have h6 : wyN M ≠ 300 := fun e => h3 (by rw [h4, e])
    rw [h4, nI_1]
    exact i_wyupd (i_msgupd (i_free h (by omega)) (by omega) hc) (by omega)
theorem i_send {M : kM} (h : kInv M) {k f t s d : Nat} (h1 : k < 7) (h2 : f < 6) (h3 : t < 6) (h4 : s < 3) (h5 : d < 5) (h6 : k = 4 ∨ d = 0) (h7 : k = 4 ∨ k = 5 ∨ s = 0) : kInv (g_send M k f t s d) := by
  unfold g_send
  split
  · exact h
  · exact i_put h ⟨k, f, t, s, d, h1, h2, h3, h4, h5, h6, h7, rfl⟩
theorem i_showN {M : kM} (h : kInv M) {a b : Nat} (ha : a < 6) (hb : b < 6) : ∀ n, n ≤ 3 → kInv (g_showN M a b n)
  | 0, _ => h
  | n + 1, hn => by
    have ih := i_showN h ha hb n (by omega)
    unfold g_showN
    split
    · exact i_send ih (by omega) ha hb (by omega) (i_mdlt ih ha (by omega)) (by omega) (by omega)
    · exact ih
theorem i_show {M : kM} (h : kInv M) {a b : Nat} (ha : a < 6) (hb : b < 6) : kInv (g_show M a b) := i_showN h ha hb 3 (by omega)
theorem i_hideN {M : kM} (h : kInv M) {a b : Nat} (ha : a < 6) (hb : b < 6) : ∀ n, n ≤ 3 → kInv (g_hideN M a b n)
  | 0, _ => h
  | n + 1, hn => by
    have ih := i_hideN h ha hb n (by omega)
    unfold g_hideN
    split
    · exact i_send ih (by omega) ha hb (by omega) (by omega) (by omega) (by omega)
    · exact ih
theorem i_hide {M : kM} (h : kInv M) {a b : Nat} (ha : a < 6) (hb : b < 6) : kInv (g_hide M a b) := i_hideN h ha hb 3 (by omega)
theorem i_seersN {M : kM} (h : kInv M) {mk : Int32} {k a s d : Nat} (h1 : k < 7) (h2 : a < 6) (h4 : s < 3) (h5 : d < 5) (h6 : k = 4 ∨ d = 0) (h7 : k = 4 ∨ k = 5 ∨ s = 0) : ∀ n, n ≤ 6 → kInv (g_seersN M mk k a s d n)
  | 0, _ => h
  | n + 1, hn => by
    have ih := i_seersN h (mk := mk) h1 h2 h4 h5 h6 h7 n (by omega)
    unfold g_seersN
    split
    · exact i_send ih h1 h2 (by omega) h4 h5 h6 h7
    · exact ih
theorem i_seers {M : kM} (h : kInv M) {mk : Int32} {k a s d : Nat} (h1 : k < 7) (h2 : a < 6) (h4 : s < 3) (h5 : d < 5) (h6 : k = 4 ∨ d = 0) (h7 : k = 4 ∨ k = 5 ∨ s = 0) : kInv (g_seers M mk k a s d) := i_seersN h h1 h2 h4 h5 h6 h7 6 (by omega)
theorem i_take {M : kM} (h : kInv M) (hw : 0 < wyN M) : kInv (g_take M) := by
  unfold g_take
  have h4 := i_wy h
  have h5 := i_wyle h
  have h6 : M 577 - 1 = nI (wyN M - 1) := by rw [h4]; exact pk_sub hw
  rw [h6]
  exact i_free (i_wyupd (i_hdupd h (by omega)) (by omega)) (by omega)
/-- a message's number, taken apart -/
theorem code_parts {k f t s d : Nat} (h1 : k < 7) (h2 : f < 6) (h3 : t < 6) (h4 : s < 3) : g_code k f t s d % 8 = k ∧ g_code k f t s d / 8 % 8 = f ∧ g_code k f t s d / 64 % 8 = t ∧ g_code k f t s d / 512 % 4 = s ∧ g_code k f t s d / 2048 = d := by
  unfold g_code
  omega
theorem i_arrive {M : kM} (h : kInv M) {c : Nat} (hc : kMsg (nI c)) (hlt : c < 2 ^ 31) : kInv (g_arrive M c) := by
  obtain ⟨k, f, t, s, d, h1, h2, h3, h4, h5, h6, h7, h8⟩ := hc
  have e : c = g_code k f t s d := (nI_eq hlt (by unfold g_code; omega)).mp h8
  obtain ⟨e1, e2, e3, e4, e5⟩ := code_parts (d := d) h1 h2 h3 h4
  unfold g_arrive
  rw [e, e1, e2, e3, e4, e5]
  split
  · exact h
  split
  · split
    · exact i_show (i_send h (by omega) h3 h2 (by omega) (by omega) (by omega) (by omega)) h3 h2
    · exact i_become h h3 h2 (i_s h h3 h2 (F := fun x => x ||| 8) s_or8)
  split
  · split
    · exact i_become h h3 h2 (i_s h h3 h2 (F := fun x => (x &&& (-5)) ||| 1) s_m5)
    · exact h
  split
  · split
    · exact i_hide (i_become h h3 h2 (i_s h h3 h2 (F := fun x => x &&& (-11)) s_m11)) h3 h2
    · exact h
  split
  · exact i_forget (i_become h h3 h2 (i_s h h3 h2 (F := fun x => x &&& (-6)) s_m6)) h3 h2
  split
  · split
    · exact i_free h (by omega)
    · exact h
  split
  · exact i_free h (by omega)
  · split
    · exact i_show h h3 h2
    · exact i_send h (by omega) h3 h2 (by omega) (by omega) (by omega) (by omega)
theorem i_msglt {M : kM} (h : kInv M) (i : Nat) : g_msg M i < 2 ^ 31 := by
  obtain ⟨⟨k, f, t, s, d, h1, h2, h3, h4, h5, h6, h7, h8⟩, -⟩ := i_msg h i
  unfold g_msg
  have : (M (276 + (hdN M + i) % 300)).toNatClampNeg < 2 ^ 31 := by
    have := (M (276 + (hdN M + i) % 300)).toInt_lt
    unfold Int32.toNatClampNeg
    omega
  exact this
theorem i_del : ∀ (n : Nat) {M : kM}, kInv M → kInv (g_del n M)
  | 0, _, h => h
  | n + 1, M, h => by
    unfold g_del
    split
    · exact h
    · rename_i hw
      have hm := i_msg h 0
      refine i_del n (i_arrive (i_take h (by omega)) hm.1 (i_msglt h 0))
theorem i_shN {M : kM} (h : kInv M) (i : Nat) : ∀ n, kInv (g_shN M i n)
  | 0 => h
  | n + 1 => by
    have ih := i_shN h i n
    exact i_msgupd ih (by omega) (ih.2.2.2.2.2.1 _ (by omega))
theorem i_drop {M : kM} (h : kInv M) {i : Nat} (hw : 0 < wyN M) : kInv (g_drop M i) := by
  unfold g_drop
  have h4 := i_wy h
  have h5 := i_wyle h
  have h6 : M 577 - 1 = nI (wyN M - 1) := by rw [h4]; exact pk_sub hw
  rw [h6]
  exact i_free (i_wyupd (i_shN h i _) (by omega)) (by omega)
theorem i_ask {M : kM} (h : kInv M) {a b : Nat} (ha : a < 6) (hb : b < 6) : kInv (g_ask M a b) := by
  unfold g_ask
  split
  · exact h
  · exact i_send (i_become h ha hb (i_s h ha hb (F := fun x => x ||| 4) s_or4)) (by omega) ha hb (by omega) (by omega) (by omega) (by omega)
theorem i_grant {M : kM} (h : kInv M) {a b : Nat} (ha : a < 6) (hb : b < 6) : kInv (g_grant M a b) := by
  unfold g_grant
  split
  · exact i_show (i_send (i_become h ha hb (i_s h ha hb (F := fun x => (x &&& (-9)) ||| 2) s_m9)) (by omega) ha hb (by omega) (by omega) (by omega) (by omega)) ha hb
  · exact h
theorem i_refuse {M : kM} (h : kInv M) {a b : Nat} (ha : a < 6) (hb : b < 6) : kInv (g_refuse M a b) := by
  have h1 : kInv (g_send (g_become M a b (g_st M a b &&& (-11))) 3 a b 0 0) := i_send (i_become h ha hb (i_s h ha hb (F := fun x => x &&& (-11)) s_m11)) (by omega) ha hb (by omega) (by omega) (by omega) (by omega)
  unfold g_refuse
  split
  · split
    · exact i_hide h1 ha hb
    · exact h1
  · exact h
theorem i_stop {M : kM} (h : kInv M) {a b : Nat} (ha : a < 6) (hb : b < 6) : kInv (g_stop M a b) := by
  unfold g_stop
  split
  · exact i_forget (i_send (i_become h ha hb (i_s h ha hb (F := fun x => x &&& (-6)) s_m6)) (by omega) ha hb (by omega) (by omega) (by omega) (by omega)) ha hb
  · exact h
theorem i_greet {M : kM} (h : kInv M) {a b : Nat} (ha : a < 6) (hb : b < 6) : kInv (g_greet M a b) := by
  have h1 : kInv (g_send M 6 a b 0 0) := i_send h (by omega) ha hb (by omega) (by omega) (by omega) (by omega)
  unfold g_greet
  split
  · split
    · exact i_show h1 ha hb
    · exact h1
  · split
    · exact i_show h ha hb
    · exact h
theorem i_block {M : kM} (h : kInv M) {a b : Nat} {v : Bool} (ha : a < 6) (hb : b < 6) : kInv (g_block M a b v) := by
  unfold g_block
  split
  · exact h
  · split
    · refine i_forget (i_blupd (b := true) ?_ (by omega)) ha hb
      split
      · exact i_hide h ha hb
      · exact h
    · exact i_greet (i_blupd (b := false) h (by omega)) ha hb
theorem i_set {M : kM} (h : kInv M) {a s n : Nat} {rk : Int32} (ha : a < 6) (hs : s < 3) (hn : n < 5) : kInv (g_set M a s rk (nI n)) := i_mdupd (i_free (i_onupd (b := true) h (by omega)) (by omega)) (by omega) hn
theorem i_turnOn {M : kM} (h : kInv M) {a s d : Nat} {rk : Int32} (ha : a < 6) (hs : s < 3) (hd : d < 5) : kInv (g_turnOn M a s rk d) := by
  unfold g_turnOn
  have h1 := i_set h (rk := rk) ha hs hd
  split
  · exact i_seers h1 (by omega) ha hs hd (by omega) (by omega)
  · exact i_seers (i_seers (i_forgetAll h1 ha) (by omega) ha (by omega) (by omega) (by omega) (by omega)) (by omega) ha hs hd (by omega) (by omega)
theorem i_turnOff {M : kM} (h : kInv M) {a s : Nat} (ha : a < 6) (hs : s < 3) : kInv (g_turnOff M a s) := by
  have h1 : kInv (g_seers (upd M (9 * a + 3 * s) 0) 2 5 a s 0) := i_seers (i_onupd (b := false) h (by omega)) (by omega) ha hs (by omega) (by omega) (by omega)
  unfold g_turnOff
  split
  · exact h1
  · exact i_forgetAll h1 ha
theorem i_codes {c : Nat} (hc : kMsg (nI c)) (hlt : c < 2 ^ 31) : c % 8 < 7 ∧ c / 8 % 8 < 6 ∧ c / 64 % 8 < 6 ∧ c / 512 % 4 < 3 ∧ c / 2048 < 5 ∧ (c % 8 = 4 ∨ c / 2048 = 0) ∧ (c % 8 = 4 ∨ c % 8 = 5 ∨ c / 512 % 4 = 0) ∧ c = g_code (c % 8) (c / 8 % 8) (c / 64 % 8) (c / 512 % 4) (c / 2048) := by
  obtain ⟨k, f, t, s, d, h1, h2, h3, h4, h5, h6, h7, h8⟩ := hc
  have e : c = g_code k f t s d := (nI_eq hlt (by unfold g_code; omega)).mp h8
  obtain ⟨e1, e2, e3, e4, e5⟩ := code_parts (d := d) h1 h2 h3 h4
  rw [← e] at e1 e2 e3 e4 e5
  rw [e1, e2, e3, e4, e5]
  exact ⟨h1, h2, h3, h4, h5, h6, h7, e⟩
/-- the class's number of a message -/
theorem cv_n {c : Nat} (h : c < 2 ^ 31) : cv (nI c) = nI (cvN c) := by unfold cv; rw [nI_clamp h]
theorem cvN_code {k f t s d : Nat} (h1 : k < 7) (h2 : f < 6) (h3 : t < 6) (h4 : s < 3) : cvN (g_code k f t s d) = k + 7 * (f + 6 * (t + 6 * (if k = 4 then s + 1 + 4 * (d + 1) else if k = 5 then s + 1 else 0))) := by
  obtain ⟨e1, e2, e3, e4, e5⟩ := code_parts (d := d) h1 h2 h3 h4
  unfold cvN
  rw [e1, e2, e3, e4, e5]
theorem cvN_lt {c : Nat} (hc : kMsg (nI c)) (hlt : c < 2 ^ 31) : cvN c < 7000 := by
  obtain ⟨h1, h2, h3, h4, h5, h6, h7, h8⟩ := i_codes hc hlt
  unfold cvN
  split
  · omega
  split
  · omega
  · omega
theorem part_0 {c : Nat} (hc : kMsg (nI c)) (hlt : c < 2 ^ 31) : cvN c % 7 = c % 8 := by
  obtain ⟨h1, h2, h3, h4, h5, h6, h7, h8⟩ := i_codes hc hlt
  unfold cvN
  omega
theorem part_1 {c : Nat} (hc : kMsg (nI c)) (hlt : c < 2 ^ 31) : cvN c / 7 % 6 = c / 8 % 8 := by
  obtain ⟨h1, h2, h3, h4, h5, h6, h7, h8⟩ := i_codes hc hlt
  unfold cvN
  omega
theorem part_2 {c : Nat} (hc : kMsg (nI c)) (hlt : c < 2 ^ 31) : cvN c / 7 / 6 % 6 = c / 64 % 8 := by
  obtain ⟨h1, h2, h3, h4, h5, h6, h7, h8⟩ := i_codes hc hlt
  unfold cvN
  omega
theorem part_3 {c : Nat} (hc : kMsg (nI c)) (hlt : c < 2 ^ 31) : nI (cvN c / 7 / 36 % 4) + (-1) = g_part c 3 := by
  obtain ⟨h1, h2, h3, h4, h5, h6, h7, h8⟩ := i_codes hc hlt
  have e : cvN c / 7 / 36 % 4 = (if c % 8 = 4 ∨ c % 8 = 5 then c / 512 % 4 + 1 else 0) := by
    unfold cvN
    by_cases g4 : c % 8 = 4
    · rw [if_pos g4, if_pos (Or.inl g4)]
      omega
    · by_cases g5 : c % 8 = 5
      · rw [if_neg g4, if_pos g5, if_pos (Or.inr g5)]
        omega
      · rw [if_neg g4, if_neg g5, if_neg (by omega)]
        omega
  rw [e]
  show _ = if c % 8 = 4 ∨ c % 8 = 5 then nI (c / 512 % 4) else -1
  split
  · exact pk_m1 _
  · decide
theorem part_4 {c : Nat} (hc : kMsg (nI c)) (hlt : c < 2 ^ 31) : nI (cvN c / 7 / 36 / 4) + (-1) = g_part c 4 := by
  obtain ⟨h1, h2, h3, h4, h5, h6, h7, h8⟩ := i_codes hc hlt
  have e : cvN c / 7 / 36 / 4 = (if c % 8 = 4 then c / 2048 + 1 else 0) := by
    unfold cvN
    by_cases g4 : c % 8 = 4
    · rw [if_pos g4, if_pos g4]
      omega
    · by_cases g5 : c % 8 = 5
      · rw [if_neg g4, if_pos g5, if_neg g4]
        omega
      · rw [if_neg g4, if_neg g5, if_neg g4]
        omega
  rw [e]
  show _ = if c % 8 = 4 then nI (c / 2048) else -1
  split
  · exact pk_m1 _
  · decide
theorem e_one {s : Nat} : nI s - (-1) = nI (s + 1) := by
  have h : nI s - (-1) = nI s + 1 := by
    rw [Int32.sub_eq_add_neg]
    rfl
  rw [h, nI_1]
theorem e_none : (-1 : Int32) - (-1) = nI 0 := by decide
theorem i_dec {M : kM} (h : kInv M) (hw : 0 < wyN M) : M 577 - 1 = nI (wyN M - 1) := by
  rw [i_wy h]
  have e : wyN M = wyN M := rfl
  exact pk_sub hw
theorem em_code {k f t s d : Nat} (h1 : k < 7) (h2 : f < 6) (h3 : t < 6) (h4 : s < 3) (h5 : d < 5) : nI (k + (7 * (f + (6 * (t + (6 * ((if k = 4 ∨ k = 5 then s + 1 else 0) + (4 * (if k = 4 then d + 1 else 0))))))))) = cv (nI (g_code k f t s d)) := by
  rw [cv_n (by unfold g_code; omega), cvN_code h1 h2 h3 h4]
  by_cases g4 : k = 4
  · rw [if_pos (Or.inl g4), if_pos g4, if_pos g4]
  · by_cases g5 : k = 5
    · rw [if_pos (Or.inr g5), if_neg g4, if_neg g4, if_pos g5]
    · rw [if_neg (by omega), if_neg g4, if_neg g4, if_neg g5]
theorem b_0 (x : Int32) : x &&& (0 ^^^ (-1)) = x := by
  have h : (0 : Int32) ^^^ (-1) = -1 := by decide
  rw [h]
  exact Int32.and_neg_one
theorem b_z (x : Int32) : x ||| 0 = x := Int32.or_zero
theorem b_4 : (4 : Int32) ^^^ (-1) = -5 := by decide
theorem b_5 : (5 : Int32) ^^^ (-1) = -6 := by decide
theorem b_8 : (8 : Int32) ^^^ (-1) = -9 := by decide
theorem b_10 : (10 : Int32) ^^^ (-1) = -11 := by decide
theorem i_bl0 {M : kM} (h : kInv M) {a b : Nat} (ha : a < 6) (hb : b < 6) (h1 : ¬ M (240 + 6 * a + b) = 1) : M (240 + 6 * a + b) = 0 := by
  obtain ⟨v, hv⟩ := i_bl h ha hb
  cases v
  · exact hv
  · exact absurd hv h1
theorem g3 {c : Nat} (h : c % 8 = 4 ∨ c % 8 = 5) : g_part c 3 = nI (c / 512 % 4) := by
  show (if c % 8 = 4 ∨ c % 8 = 5 then nI (c / 512 % 4) else -1) = _
  rw [if_pos h]
theorem g4 {c : Nat} (h : c % 8 = 4) : g_part c 4 = nI (c / 2048) := by
  show (if c % 8 = 4 then nI (c / 2048) else -1) = _
  rw [if_pos h]
theorem g_del_stop {M : kM} (h : wyN M = 0) : ∀ n, g_del n M = M
  | 0 => rfl
  | n + 1 => by unfold g_del; rw [if_pos h]
theorem g_delC_stop {M : kM} (h : wyN M = 0) : ∀ n, g_delC n M = 0
  | 0 => rfl
  | n + 1 => by unfold g_delC; rw [if_pos h]
theorem g_del_go {M : kM} (h : 0 < wyN M) {n : Nat} (hn : 0 < n) : g_del n M = g_del (n - 1) (g_arrive (g_take M) (g_msg M 0)) := by
  obtain ⟨k, rfl⟩ : ∃ k, n = k + 1 := ⟨n - 1, by omega⟩
  show (if wyN M = 0 then M else g_del k (g_arrive (g_take M) (g_msg M 0))) = _
  rw [if_neg (by omega)]
  rfl
theorem g_delC_go {M : kM} (h : 0 < wyN M) {n : Nat} (hn : 0 < n) : g_delC n M = g_delC (n - 1) (g_arrive (g_take M) (g_msg M 0)) + 1 := by
  obtain ⟨k, rfl⟩ : ∃ k, n = k + 1 := ⟨n - 1, by omega⟩
  show (if wyN M = 0 then 0 else g_delC k (g_arrive (g_take M) (g_msg M 0)) + 1) = _
  rw [if_neg (by omega)]
  rfl
theorem o_has_send {M : kM} {k f t s d a b : Nat} {mk : Int32} (ha : a < 6) (hb : b < 6) : g_has (g_send M k f t s d) a b mk = g_has M a b mk := by
  unfold g_has
  rw [o_send (by omega)]
theorem i_on {M : kM} (h : kInv M) {a s : Nat} (ha : a < 6) (hs : s < 3) : ∃ b : Bool, M (9 * a + 3 * s) = kI b := by
  obtain ⟨b, h2⟩ := h.2.2.2.2.2.2 (3 * a + s) (by omega)
  have e : 3 * (3 * a + s) = 9 * a + 3 * s := by omega
  rw [e] at h2
  exact ⟨b, h2⟩
theorem cnt_k : ∀ x y z : Bool, (0 + kI x + kI y + kI z ≤ 0) ↔ (0 + kI x + kI y + kI z = 0) := by decide
theorem cnt_z {M : kM} (h : kInv M) {a : Nat} (ha : a < 6) : g_cnt M a ≤ 0 ↔ g_cnt M a = 0 := by
  obtain ⟨x, hx⟩ := i_on h ha (show 0 < 3 by omega)
  obtain ⟨y, hy⟩ := i_on h ha (show 1 < 3 by omega)
  obtain ⟨z, hz⟩ := i_on h ha (show 2 < 3 by omega)
  show 0 + M (9 * a + 3 * 0) + M (9 * a + 3 * 1) + M (9 * a + 3 * 2) ≤ 0 ↔ 0 + M (9 * a + 3 * 0) + M (9 * a + 3 * 1) + M (9 * a + 3 * 2) = 0
  rw [hx, hy, hz]
  exact cnt_k x y z
theorem there_of {M : kM} (h : kInv M) {a : Nat} (ha : a < 6) (hc : ¬ g_cnt M a = 0) : g_there M a = true := by
  unfold g_there
  exact decide_eq_true (fun q => hc ((cnt_z h ha).mp q))
theorem nthere_of {M : kM} (h : kInv M) {a : Nat} (ha : a < 6) (hc : g_cnt M a = 0) : ¬ g_there M a = true := by
  unfold g_there
  intro q
  exact of_decide_eq_true q ((cnt_z h ha).mpr hc)
theorem hdN_shN {M : kM} {i n : Nat} : hdN (g_shN M i n) = hdN M := by
  unfold hdN
  rw [o_shN (Or.inr (by omega))]
/-- what the reference tells of a message's number -/
def g_mp (c wh : Nat) : Int32 := if wh = 0 then nI (c % 8) else if wh = 1 then nI (c / 8 % 8) else if wh = 2 then nI (c / 64 % 8) else if wh = 3 then nI (c / 512 % 4) else nI (c / 2048)
def g_in (v lo hi : Int32) : Bool := decide (¬ v < lo) && decide (¬ hi < v)
def g_usr (a : Int32) : Bool := g_in a 0 5
def g_seatok (a s : Int32) : Bool := g_usr a && g_in s 0 2
def g_why (a b : Int32) : Int32 := if g_usr a = true ∧ g_usr b = true then (if a = b then 2 else 0) else 1
theorem seers_t {M : kM} {mk : Int32} {k a s d i : Nat} (h : g_has (g_seersN M mk k a s d i) a i mk = true) : g_send (g_seersN M mk k a s d i) k a i s d = g_seersN M mk k a s d (i + 1) := by
  show _ = if g_has (g_seersN M mk k a s d i) a i mk = true then g_send (g_seersN M mk k a s d i) k a i s d else g_seersN M mk k a s d i
  rw [if_pos h]
theorem seers_f {M : kM} {mk : Int32} {k a s d i : Nat} (h : g_has (g_seersN M mk k a s d i) a i mk = false) : g_seersN M mk k a s d i = g_seersN M mk k a s d (i + 1) := by
  show _ = if g_has (g_seersN M mk k a s d i) a i mk = true then g_send (g_seersN M mk k a s d i) k a i s d else g_seersN M mk k a s d i
  rw [if_neg (by simp [h])]
