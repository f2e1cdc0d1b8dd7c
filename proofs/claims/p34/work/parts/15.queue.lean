/-! the messages under way: at most 600 arrive until rest -/
def dull (c : Nat) : Prop := c % 8 = 1 ∨ c % 8 = 3 ∨ c % 8 = 4 ∨ c % 8 = 5
def ext (M N : kM) : Prop := hdN N = hdN M ∧ wyN M ≤ wyN N ∧ wyN N ≤ 300 ∧ (∀ i, i < wyN M → g_msg N i = g_msg M i) ∧ (∀ i, wyN M ≤ i → i < wyN N → dull (g_msg N i))
theorem ext_same {M N : kM} (h : wyN M ≤ 300) (e : ∀ k, 276 ≤ k → k < 578 → N k = M k) : ext M N := by
  have e1 : hdN N = hdN M := by unfold hdN; rw [e 576 (by omega) (by omega)]
  have e2 : wyN N = wyN M := by unfold wyN; rw [e 577 (by omega) (by omega)]
  refine ⟨e1, by omega, by omega, fun i _ => ?_, fun i h1 h2 => by omega⟩
  unfold g_msg
  rw [e1, e _ (by omega) (by omega)]
theorem ext_trans {M N P : kM} (h1 : ext M N) (h2 : ext N P) : ext M P := by
  obtain ⟨a1, a2, a3, a4, a5⟩ := h1
  obtain ⟨b1, b2, b3, b4, b5⟩ := h2
  refine ⟨b1.trans a1, by omega, b3, fun i hi => (b4 i (by omega)).trans (a4 i hi), fun i hi hj => ?_⟩
  by_cases h : i < wyN N
  · rw [b4 i h]
    exact a5 i hi h
  · exact b5 i (by omega) hj
theorem ext_put {M : kM} (h : kInv M) {c : Nat} (hc : c < 2 ^ 31) (hd : dull c) : ext M (g_put M c) := by
  have h1 := i_wy h
  have h2 := i_wyle h
  have h3 := i_hdlt h
  unfold g_put
  split
  · exact ext_same h2 fun k h4 h5 => by rw [upd_ne (by omega), upd_ne (by omega)]
  · rename_i hw
    have h6 : wyN M ≠ 300 := fun e => hw (by rw [h1, e])
    have e1 : hdN (upd (upd (upd M 578 (M 578 + 1)) (276 + (hdN M + wyN M) % 300) (nI c)) 577 (M 577 + 1)) = hdN M := by
      unfold hdN
      rw [upd_ne (by omega), upd_ne (by omega), upd_ne (by omega)]
    have e2 : wyN (upd (upd (upd M 578 (M 578 + 1)) (276 + (hdN M + wyN M) % 300) (nI c)) 577 (M 577 + 1)) = wyN M + 1 := by
      have e3 : (upd (upd (upd M 578 (M 578 + 1)) (276 + (hdN M + wyN M) % 300) (nI c)) 577 (M 577 + 1)) 577 = nI (wyN M + 1) := by rw [upd_eq, h1, nI_1]
      exact nI_back e3 (by omega)
    refine ⟨e1, by omega, by omega, fun i hi => ?_, fun i hi hj => ?_⟩
    · unfold g_msg
      rw [e1, upd_ne (by omega), upd_ne (by omega), upd_ne (by omega)]
    · have e4 : i = wyN M := by omega
      subst e4
      have e5 : g_msg (upd (upd (upd M 578 (M 578 + 1)) (276 + (hdN M + wyN M) % 300) (nI c)) 577 (M 577 + 1)) (wyN M) = c := by
        have e6 : (upd (upd (upd M 578 (M 578 + 1)) (276 + (hdN M + wyN M) % 300) (nI c)) 577 (M 577 + 1)) (276 + (hdN M + wyN M) % 300) = nI c := by rw [upd_ne (by omega), upd_eq]
        unfold g_msg
        rw [e1]
        exact nI_back e6 hc
      rw [e5]
      exact hd
theorem ext_send {M : kM} (h : kInv M) {k f t s d : Nat} (h1 : k < 7) (h2 : f < 6) (h3 : t < 6) (h4 : s < 3) (h5 : d < 5) (hd : k = 1 ∨ k = 3 ∨ k = 4 ∨ k = 5) : ext M (g_send M k f t s d) := by
  unfold g_send
  split
  · exact ext_same (i_wyle h) fun _ _ _ => rfl
  · refine ext_put h (by unfold g_code; omega) ?_
    obtain ⟨e1, -⟩ := code_parts (d := d) h1 h2 h3 h4
    unfold dull
    rw [e1]
    exact hd
theorem ext_showN {M : kM} (h : kInv M) {a b : Nat} (ha : a < 6) (hb : b < 6) : ∀ n, n ≤ 3 → ext M (g_showN M a b n)
  | 0, _ => ext_same (i_wyle h) fun _ _ _ => rfl
  | n + 1, hn => by
    have ih := ext_showN h ha hb n (by omega)
    have hJ := i_showN h ha hb n (by omega)
    unfold g_showN
    split
    · exact ext_trans ih (ext_send hJ (by omega) ha hb (by omega) (i_mdlt hJ ha (by omega)) (by omega))
    · exact ih
theorem ext_hideN {M : kM} (h : kInv M) {a b : Nat} (ha : a < 6) (hb : b < 6) : ∀ n, n ≤ 3 → ext M (g_hideN M a b n)
  | 0, _ => ext_same (i_wyle h) fun _ _ _ => rfl
  | n + 1, hn => by
    have ih := ext_hideN h ha hb n (by omega)
    have hJ := i_hideN h ha hb n (by omega)
    unfold g_hideN
    split
    · exact ext_trans ih (ext_send hJ (by omega) ha hb (by omega) (by omega) (by omega))
    · exact ih
theorem ext_become {M : kM} (h : wyN M ≤ 300) {a b : Nat} {t : Int32} (ha : a < 6) (hb : b < 6) : ext M (g_become M a b t) := ext_same h fun k h1 _ => o_become ha hb (by omega)
theorem ext_arrive {M : kM} (h : kInv M) {c : Nat} (hc : kMsg (nI c)) (hlt : c < 2 ^ 31) : ext M (g_arrive M c) := by
  obtain ⟨g1, hf, ht, hs, hd, g6, g7, -⟩ := i_codes hc hlt
  have hw := i_wyle h
  unfold g_arrive
  split
  · exact ext_same hw fun _ _ _ => rfl
  split
  · split
    · exact ext_trans (ext_send h (by omega) ht hf (by omega) (by omega) (by omega)) (ext_showN (i_send h (by omega) ht hf (by omega) (by omega) (by omega) (by omega)) ht hf 3 (by omega))
    · exact ext_become hw ht hf
  split
  · split
    · exact ext_become hw ht hf
    · exact ext_same hw fun _ _ _ => rfl
  split
  · split
    · exact ext_trans (ext_become hw ht hf) (ext_hideN (i_become h ht hf (i_s h ht hf (F := fun x => x &&& (-11)) s_m11)) ht hf 3 (by omega))
    · exact ext_same hw fun _ _ _ => rfl
  split
  · exact ext_same hw fun k h1 h2 => by rw [o_forget ht hf (by omega), o_become ht hf (by omega)]
  split
  · split
    · exact ext_same hw fun k h1 h2 => upd_ne (by omega)
    · exact ext_same hw fun _ _ _ => rfl
  split
  · exact ext_same hw fun k h1 h2 => upd_ne (by omega)
  · split
    · exact ext_showN h ht hf 3 (by omega)
    · exact ext_send h (by omega) ht hf (by omega) (by omega) (by omega)
/-- a dull message brings no other one -/
theorem dull_arrive {M : kM} {c : Nat} (hc : kMsg (nI c)) (hlt : c < 2 ^ 31) (hd : dull c) : ∀ k, 276 ≤ k → g_arrive M c k = M k := by
  obtain ⟨g1, hf, ht, hs, hd', g6, g7, -⟩ := i_codes hc hlt
  intro k hk
  unfold dull at hd
  unfold g_arrive
  split
  · rfl
  split
  · omega
  split
  · split
    · exact o_become ht hf (by omega)
    · rfl
  split
  · omega
  split
  · rw [o_forget ht hf (by omega), o_become ht hf (by omega)]
  split
  · split
    · exact upd_ne (by omega)
    · rfl
  split
  · exact upd_ne (by omega)
  · omega
theorem take_hd {M : kM} : hdN (g_take M) = (hdN M + 1) % 300 := by
  have e : g_take M 576 = nI ((hdN M + 1) % 300) := by
    unfold g_take
    rw [upd_ne (by omega), upd_ne (by omega), upd_eq]
  exact nI_back e (by omega)
theorem take_wy {M : kM} (h : kInv M) (hw : 0 < wyN M) : wyN (g_take M) = wyN M - 1 := by
  have e : g_take M 577 = nI (wyN M - 1) := by
    unfold g_take
    rw [upd_ne (by omega), upd_eq, i_dec h hw]
  exact nI_back e (by have := i_wyle h; omega)
theorem take_msg {M : kM} (h : kInv M) (i : Nat) : g_msg (g_take M) i = g_msg M (i + 1) := by
  have := i_hdlt h
  unfold g_msg
  rw [take_hd, o_take (by omega), show ((hdN M + 1) % 300 + i) % 300 = (hdN M + (i + 1)) % 300 by omega]

theorem i_step {M : kM} (h : kInv M) (hw : 0 < wyN M) : kInv (g_arrive (g_take M) (g_msg M 0)) := i_arrive (i_take h hw) (i_msg h 0).1 (i_msglt h 0)
def kTail (d : Nat) (M : kM) : Prop := kInv M ∧ d ≤ wyN M ∧ ∀ i, d ≤ i → i < wyN M → dull (g_msg M i)
theorem kTail_step {d : Nat} {M : kM} (h : kTail (d + 1) M) : kTail d (g_arrive (g_take M) (g_msg M 0)) := by
  obtain ⟨h1, h2, h3⟩ := h
  have hw : 0 < wyN M := by omega
  have hT := i_take h1 hw
  obtain ⟨e1, e2, e3, e4, e5⟩ := ext_arrive hT (i_msg h1 0).1 (i_msglt h1 0)
  have e6 := take_wy h1 hw
  refine ⟨i_step h1 hw, by omega, fun i hi hj => ?_⟩
  by_cases h9 : i < wyN (g_take M)
  · rw [e4 i h9, take_msg h1]
    exact h3 (i + 1) (by omega) (by omega)
  · exact e5 i (by omega) hj
theorem kTail_0 {M : kM} (h : kTail 0 M) (hw : 0 < wyN M) : kTail 0 (g_arrive (g_take M) (g_msg M 0)) ∧ wyN (g_arrive (g_take M) (g_msg M 0)) = wyN M - 1 := by
  obtain ⟨h1, h2, h3⟩ := h
  have hT := i_take h1 hw
  have hd := h3 0 (by omega) hw
  obtain ⟨e1, e2, e3, e4, e5⟩ := ext_arrive hT (i_msg h1 0).1 (i_msglt h1 0)
  have e6 := take_wy h1 hw
  have e7 : wyN (g_arrive (g_take M) (g_msg M 0)) = wyN (g_take M) := by
    unfold wyN
    rw [dull_arrive (i_msg h1 0).1 (i_msglt h1 0) hd 577 (by omega)]
  refine ⟨⟨i_step h1 hw, by omega, fun i hi hj => ?_⟩, by omega⟩
  rw [e4 i (by omega), take_msg h1]
  exact h3 (i + 1) (by omega) (by omega)
theorem rest_0 : ∀ (k : Nat) {M : kM}, kTail 0 M → wyN M ≤ k → wyN (g_del k M) = 0
  | 0, M, _, hk => by show wyN M = 0; omega
  | k + 1, M, h, hk => by
    by_cases hw : wyN M = 0
    · rw [g_del_stop hw]
      exact hw
    · obtain ⟨h1, h2⟩ := kTail_0 h (by omega)
      rw [g_del_go (by omega) (by omega)]
      exact rest_0 k h1 (by omega)
theorem rest_d : ∀ (d k : Nat) {M : kM}, kTail d M → 300 ≤ k → wyN (g_del (d + k) M) = 0
  | 0, k, M, h, hk => by
    rw [Nat.zero_add]
    exact rest_0 k h (by have := i_wyle h.1; omega)
  | d + 1, k, M, h, hk => by
    have hw : 0 < wyN M := by have := h.2.1; omega
    rw [g_del_go hw (by omega), show d + 1 + k - 1 = d + k by omega]
    exact rest_d d k (kTail_step h) hk
/-- AT REST after at most 600 arrivals -/
theorem rest_ok {M : kM} (h : kInv M) : wyN (g_del 1000 M) = 0 := by
  have hw := i_wyle h
  have := rest_d (wyN M) (1000 - wyN M) (M := M) ⟨h, Nat.le_refl _, fun i h1 h2 => by omega⟩ (by omega)
  rw [show wyN M + (1000 - wyN M) = 1000 by omega] at this
  exact this
theorem delC_le : ∀ (n : Nat) (M : kM), g_delC n M ≤ n
  | 0, _ => Nat.le_refl 0
  | n + 1, M => by
    unfold g_delC
    split
    · omega
    · have := delC_le n (g_arrive (g_take M) (g_msg M 0))
      omega
-- nothing is written beyond the row
theorem h_send {M : kM} {k f t s d j : Nat} (hj : 581 ≤ j) : g_send M k f t s d j = M j := by
  unfold g_send
  split
  · rfl
  · unfold g_put
    split
    · rw [upd_ne (by omega), upd_ne (by omega)]
    · rw [upd_ne (by omega), upd_ne (by omega), upd_ne (by omega)]
theorem h_showN {M : kM} {a b j : Nat} (hj : 581 ≤ j) : ∀ n, g_showN M a b n j = M j
  | 0 => rfl
  | n + 1 => by
    unfold g_showN
    split
    · rw [h_send hj]
      exact h_showN hj n
    · exact h_showN hj n
theorem h_hideN {M : kM} {a b j : Nat} (hj : 581 ≤ j) : ∀ n, g_hideN M a b n j = M j
  | 0 => rfl
  | n + 1 => by
    unfold g_hideN
    split
    · rw [h_send hj]
      exact h_hideN hj n
    · exact h_hideN hj n
theorem h_arrive {M : kM} {c : Nat} (hc : kMsg (nI c)) (hlt : c < 2 ^ 31) {j : Nat} (hj : 581 ≤ j) : g_arrive M c j = M j := by
  obtain ⟨g1, hf, ht, hs, hd, g6, g7, -⟩ := i_codes hc hlt
  unfold g_arrive
  split
  · rfl
  split
  · split
    · exact (h_showN hj 3).trans (h_send hj)
    · exact o_become ht hf (by omega)
  split
  · split
    · exact o_become ht hf (by omega)
    · rfl
  split
  · split
    · exact (h_hideN hj 3).trans (o_become ht hf (by omega))
    · rfl
  split
  · rw [o_forget ht hf (by omega), o_become ht hf (by omega)]
  split
  · split
    · exact upd_ne (by omega)
    · rfl
  split
  · exact upd_ne (by omega)
  · split
    · exact h_showN hj 3
    · exact h_send hj
theorem h_del : ∀ (n : Nat) {M : kM}, kInv M → ∀ {j : Nat}, 581 ≤ j → g_del n M j = M j
  | 0, _, _, _, _ => rfl
  | n + 1, M, h, j, hj => by
    unfold g_del
    split
    · rfl
    · rename_i hw
      rw [h_del n (i_step h (by omega)) hj, h_arrive (i_msg h 0).1 (i_msglt h 0) hj]
      unfold g_take
      rw [upd_ne (by omega), upd_ne (by omega), upd_ne (by omega)]
theorem h_drop {M : kM} {i j : Nat} (hj : 581 ≤ j) : g_drop M i j = M j := by
  unfold g_drop
  rw [upd_ne (by omega), upd_ne (by omega)]
  exact o_shN (Or.inr (by omega)) _
/-- the row brought back -/
theorem back_m {M N S : kM} (h : ∀ j, 581 ≤ j → N j = M j) : va_cpy (va_cpy M S 0 0 581) N 0 0 581 = M := by
  funext j
  unfold va_cpy
  by_cases hj : j < 581
  · rw [if_pos (by omega)]
    show (if 0 ≤ 0 + (j - 0) ∧ 0 + (j - 0) < 0 + 581 then M (0 + (0 + (j - 0) - 0)) else S (0 + (j - 0))) = M j
    rw [if_pos (by omega)]
    congr 1
    omega
  · rw [if_neg (by omega)]
    exact h j (by omega)
theorem back_del {M S : kM} (h : kInv M) : va_cpy (va_cpy M S 0 0 581) (g_del 1000 M) 0 0 581 = M := back_m fun _ hj => h_del 1000 h hj
