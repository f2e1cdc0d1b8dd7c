/-! act: what its answers and its own tests rest on -/
theorem md_f {cm : Bool} {mo : Nat} (em : (if cm = true then 11 else 14) = mo) (h : cm = false) : 14 = mo := by
  rw [if_neg (by rw [h]; decide)] at em
  exact em
theorem md_t {cm : Bool} {mo : Nat} (em : (if cm = true then 11 else 14) = mo) (h : cm = true) : 11 = mo := by
  rw [if_pos h] at em
  exact em
theorem sl_t {x jj : Nat} (ej : (if x = 0 then 2 else 5) = jj) (h : x = 0) : 2 = jj := by
  rw [if_pos h] at ej
  exact ej
theorem sl_f {x jj : Nat} (ej : (if x = 0 then 2 else 5) = jj) (h : x ≠ 0) : 5 = jj := by
  rw [if_neg h] at ej
  exact ej
section ACTP
variable {M : kM} {a b z : Nat}
theorem tl5_t (h : ¬ g_st M a b &&& 5 = 0) : nI 0 = if g_has M a b 5 = true then 0 else 1 := by
  rw [if_pos (show g_has M a b 5 = true from decide_eq_true h)]
  rfl
theorem tl5_f (h : g_st M a b &&& 5 = 0) : nI 1 = if g_has M a b 5 = true then 0 else 1 := by
  rw [if_neg (fun q => has_t q h)]
  rfl
theorem and8_k : ∀ n, n < 16 → ((nI n &&& 8 = 8) ↔ ¬ nI n &&& 8 = 0) := by decide
theorem and10_k : ∀ n, n < 16 → ((nI n &&& 10 ≤ 0) ↔ nI n &&& 10 = 0) := by decide
theorem and5_k : ∀ n, n < 16 → ((nI n &&& 5 ≤ 0) ↔ nI n &&& 5 = 0) := by decide
theorem tl8_f (h : kInv M) (ha : a < 6) (hb : b < 6) (g : ¬ g_st M a b &&& 8 = 8) : nI 0 = if g_has M a b 8 = true then 1 else 0 := by
  obtain ⟨n, hn, e⟩ := i_st h ha hb
  unfold g_st at g
  rw [if_neg (fun q => g (by have q2 := has_t q; rw [e] at q2 ⊢; exact (and8_k n hn).mpr q2))]
  rfl
theorem tl8_t (h : kInv M) (ha : a < 6) (hb : b < 6) (g : g_st M a b &&& 8 = 8) : nI 1 = if g_has M a b 8 = true then 1 else 0 := by
  obtain ⟨n, hn, e⟩ := i_st h ha hb
  unfold g_st at g
  rw [if_pos]
  · rfl
  · unfold g_has
    rw [e] at g ⊢
    exact decide_eq_true ((and8_k n hn).mp g)
theorem tl10_f (h : kInv M) (ha : a < 6) (hb : b < 6) (g : g_st M a b &&& 10 ≤ 0) : nI 0 = if g_has M a b 10 = true then 1 else 0 := by
  obtain ⟨n, hn, e⟩ := i_st h ha hb
  unfold g_st at g
  rw [if_neg (fun q => has_t q (by rw [e] at g ⊢; exact (and10_k n hn).mp g))]
  rfl
theorem tl10_t (h : kInv M) (ha : a < 6) (hb : b < 6) (g : ¬ g_st M a b &&& 10 ≤ 0) : nI 1 = if g_has M a b 10 = true then 1 else 0 := by
  obtain ⟨n, hn, e⟩ := i_st h ha hb
  unfold g_st at g
  rw [if_pos]
  · rfl
  · unfold g_has
    rw [e] at g ⊢
    exact decide_eq_true (fun q => g ((and10_k n hn).mpr q))
theorem tl5b_f (h : kInv M) (ha : a < 6) (hb : b < 6) (g : g_st M a b &&& 5 ≤ 0) : nI 0 = if g_has M a b 5 = true then 1 else 0 := by
  obtain ⟨n, hn, e⟩ := i_st h ha hb
  unfold g_st at g
  rw [if_neg (fun q => has_t q (by rw [e] at g ⊢; exact (and5_k n hn).mp g))]
  rfl
theorem tl5b_t (h : kInv M) (ha : a < 6) (hb : b < 6) (g : ¬ g_st M a b &&& 5 ≤ 0) : nI 1 = if g_has M a b 5 = true then 1 else 0 := by
  obtain ⟨n, hn, e⟩ := i_st h ha hb
  unfold g_st at g
  rw [if_pos]
  · rfl
  · unfold g_has
    rw [e] at g ⊢
    exact decide_eq_true (fun q => g ((and5_k n hn).mpr q))
-- the entry behind a call
theorem st_ask (ha : a < 6) (hb : b < 6) : g_st (g_ask M a b) a b = if g_has M a b 5 = true then g_st M a b else g_st M a b ||| 4 := by
  unfold g_ask
  split
  · rfl
  · show g_send _ 0 a b 0 0 (54 + 6 * a + b) = _
    rw [o_send (by omega), bec_st ha hb]
theorem ask_k1 : ∀ n, n < 16 → ¬ nI n &&& 5 = 0 → ¬ nI n &&& 5 ≤ 0 := by decide
theorem ask_k2 : ∀ n, n < 16 → ¬ (nI n ||| 4) &&& 5 ≤ 0 := by decide
theorem ask_pos (h : kInv M) (ha : a < 6) (hb : b < 6) : ¬ g_st (g_ask M a b) a b &&& 5 ≤ 0 := by
  obtain ⟨n, hn, e⟩ := i_st h ha hb
  rw [st_ask ha hb]
  split
  · rename_i g
    have q := has_t g
    unfold g_st
    rw [e] at q ⊢
    exact ask_k1 n hn q
  · unfold g_st
    rw [e]
    exact ask_k2 n hn
theorem grant_k : ∀ n, n < 16 → ((nI n &&& (-9)) ||| 2) &&& 10 = 2 := by decide
theorem grant_10 (h : kInv M) (ha : a < 6) (hb : b < 6) (g : ¬ (if g_has M a b 8 = true then (1 : Int32) else 0) = 0) : g_st (g_grant M a b) a b &&& 10 = 2 := by
  obtain ⟨n, hn, e⟩ := i_st h ha hb
  by_cases q : g_has M a b 8 = true
  · have e2 : g_st (g_grant M a b) a b = (g_st M a b &&& (-9)) ||| 2 := by
      unfold g_grant
      rw [if_pos q]
      show g_show _ a b (54 + 6 * a + b) = _
      rw [show g_show (g_send (g_become M a b ((g_st M a b &&& (-9)) ||| 2)) 1 a b 0 0) a b (54 + 6 * a + b) = g_send (g_become M a b ((g_st M a b &&& (-9)) ||| 2)) 1 a b 0 0 (54 + 6 * a + b) from mk_showN (by omega) 3, o_send (by omega), bec_st ha hb]
    rw [e2]
    unfold g_st
    rw [e]
    exact grant_k n hn
  · rw [if_neg q] at g
    exact absurd rfl g
theorem ref_k1 : ∀ n, n < 16 → (nI n &&& (-11)) &&& 10 = 0 := by decide
theorem refuse_10 (h : kInv M) (ha : a < 6) (hb : b < 6) : g_st (g_refuse M a b) a b &&& 10 = 0 := by
  obtain ⟨n, hn, e⟩ := i_st h ha hb
  unfold g_refuse
  split
  · have e2 : g_st (g_send (g_become M a b (g_st M a b &&& (-11))) 3 a b 0 0) a b = g_st M a b &&& (-11) := by
      show g_send _ 3 a b 0 0 (54 + 6 * a + b) = _
      rw [o_send (by omega), bec_st ha hb]
    have e3 : g_st M a b &&& (-11) &&& 10 = 0 := by
      unfold g_st
      rw [e]
      exact ref_k1 n hn
    split
    · have e4 : g_st (g_hide (g_send (g_become M a b (g_st M a b &&& (-11))) 3 a b 0 0) a b) a b = g_st (g_send (g_become M a b (g_st M a b &&& (-11))) 3 a b 0 0) a b := mk_hideN (by omega) 3
      rw [e4, e2]
      exact e3
    · rw [e2]
      exact e3
  · rename_i g
    exact has_f g
theorem stop_k1 : ∀ n, n < 16 → (nI n &&& (-6)) &&& 5 = 0 := by decide
theorem stop_5 (h : kInv M) (ha : a < 6) (hb : b < 6) : g_st (g_stop M a b) a b &&& 5 = 0 := by
  obtain ⟨n, hn, e⟩ := i_st h ha hb
  unfold g_stop
  split
  · have e2 : g_st (g_forget (g_send (g_become M a b (g_st M a b &&& (-6))) 2 a b 0 0) a b) a b = g_st M a b &&& (-6) := by
      show g_forget _ a b (54 + 6 * a + b) = _
      rw [o_forget ha hb (by omega), o_send (by omega), bec_st ha hb]
    rw [e2]
    unfold g_st
    rw [e]
    exact stop_k1 n hn
  · rename_i g
    exact has_f g
theorem rk_lo : ∀ n, n < 19 → ¬ nI n - 9 < -9 := by decide
theorem rk_hi : ∀ n, n < 19 → ¬ 9 < nI n - 9 := by decide
theorem turnOn_seat {d k : Nat} {rk : Int32} (ha : a < 6) (hz : z < 3) (hk : k < 54) : g_turnOn M a z rk d k = g_set M a z rk (nI d) k := by
  unfold g_turnOn
  split
  · exact mk_seersN (by omega) 6
  · exact (mk_seersN (by omega) 6).trans ((mk_seersN (by omega) 6).trans (o_forgetAll ha (by omega)))
theorem tn_on {d : Nat} {rk : Int32} (ha : a < 6) (hz : z < 3) : g_turnOn M a z rk d (9 * a + 3 * z + 0) = 1 := (turnOn_seat ha hz (by omega)).trans set_on
theorem tn_md {d : Nat} {rk : Int32} (ha : a < 6) (hz : z < 3) : g_turnOn M a z rk d (9 * a + 3 * z + 2) = nI d := by
  rw [turnOn_seat ha hz (by omega), show 9 * a + 3 * z + 2 = 2 + 9 * a + 3 * z by omega]
  exact set_md
theorem tf_off (ha : a < 6) (hz : z < 3) : g_turnOff M a z (9 * a + 3 * z + 0) = 0 := by
  unfold g_turnOff
  split
  · exact (mk_seersN (by omega) 6).trans upd_eq
  · exact (o_forgetAll ha (by omega)).trans ((mk_seersN (by omega) 6).trans upd_eq)
theorem cnt_k9 : ∀ x y w : Bool, ¬ 0 + kI x + kI y + kI w = -902 ∧ ¬ 0 + kI x + kI y + kI w < 0 := by decide
theorem cnt_bad (h : kInv M) (ha : a < 6) : ¬ g_cnt M a = -902 ∧ ¬ g_cnt M a < 0 := by
  obtain ⟨x, hx⟩ := i_on h ha (show 0 < 3 by omega)
  obtain ⟨y, hy⟩ := i_on h ha (show 1 < 3 by omega)
  obtain ⟨w, hw⟩ := i_on h ha (show 2 < 3 by omega)
  show ¬ 0 + M (9 * a + 3 * 0) + M (9 * a + 3 * 1) + M (9 * a + 3 * 2) = -902 ∧ ¬ 0 + M (9 * a + 3 * 0) + M (9 * a + 3 * 1) + M (9 * a + 3 * 2) < 0
  rw [hx, hy, hw]
  exact cnt_k9 x y w
theorem cnt_902 (h : kInv M) (ha : a < 6) : ¬ g_cnt M a = -902 := (cnt_bad h ha).1
theorem on_0 (h : kInv M) (ha : a < 6) (hz : z < 3) (ho : g_on M a z = false) : M (9 * a + 3 * z) = nI 0 := by
  obtain ⟨x, hx⟩ := i_on h ha hz
  have q := of_decide_eq_false ho
  cases x
  · exact hx
  · exact absurd hx q
theorem and3_z {v : Int32} (h : ¬ 0 < v &&& 3) : v &&& 3 = 0 := by
  obtain ⟨n, hn, e⟩ : ∃ n : Nat, n < 4 ∧ v &&& 3 = nI n := by
    obtain ⟨n, hn⟩ : ∃ n : Nat, n = (v &&& 3).toUInt32.toNat := ⟨_, rfl⟩
    have h : (v &&& 3).toUInt32.toNat < 4 := by
      have e1 : (v &&& 3).toUInt32.toNat = v.toUInt32.toNat &&& 3 := by
        rw [Int32.toUInt32_and, UInt32.toNat_and]
        rfl
      rw [e1]
      exact Nat.lt_of_le_of_lt Nat.and_le_right (by omega)
    refine ⟨n, by omega, ?_⟩
    have e : (v &&& 3).toUInt32 = UInt32.ofNat (v &&& 3).toUInt32.toNat := UInt32.ofNat_toNat.symm
    have e2 : v &&& 3 = nI (v &&& 3).toUInt32.toNat := congrArg Int32.ofUInt32 e
    rw [hn]
    exact e2
  rw [e] at h ⊢
  rcases (show n = 0 ∨ n = 1 ∨ n = 2 ∨ n = 3 by omega) with rfl | rfl | rfl | rfl
  · rfl
  · exact absurd (by decide) h
  · exact absurd (by decide) h
  · exact absurd (by decide) h
theorem blk_apart {v : Int32} (ha : a < 6) (hb : b < 6) (hne : a ≠ b) (h : ¬ 0 < v &&& 3) : g_apart (g_block M a b (decide (v &&& 3 = 0))) a b = true := by
  have hv := and3_z h
  rw [decide_eq_true hv]
  have key : g_block M a b true (240 + 6 * a + b) = 1 := by
    unfold g_block
    split
    · assumption
    · rw [if_pos rfl, o_forget ha hb (by omega)]
      exact upd_eq
  unfold g_apart
  rw [decide_eq_true key]
  rfl
end ACTP
theorem del_end : ∀ {n : Nat} {M : kM}, ¬ g_delC n M = n → wyN (g_del n M) = 0
  | 0, _, h => absurd rfl h
  | n + 1, M, h => by
    unfold g_delC at h
    unfold g_del
    split
    · assumption
    · rename_i q
      rw [if_neg q] at h
      exact del_end (fun e => h (by rw [e]))
