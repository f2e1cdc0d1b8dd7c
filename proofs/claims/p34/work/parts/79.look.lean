/-! what the law reads off an object -/
def vN (M : kM) (a : Nat) : Nat := (M (126 + a)).toNatClampNeg
def eN (M : kM) (a b : Nat) : Nat := (M (90 + 6 * a + b)).toNatClampNeg
section LOOK
variable {B a b : Nat} {M : kM}
theorem ver_v (h : oX 6 B M) (hB : B < 2 ^ 30) (ha : a < 6) : M (126 + a) = nI (vN M a) ∧ vN M a ≤ B := by
  obtain ⟨v, g1, g2, -⟩ := h.2.2.1 a ha
  have e : vN M a = v := nI_back g2 (by omega)
  rw [e]
  exact ⟨g2, g1⟩
theorem ver_e (h : oX 6 B M) (hB : B < 2 ^ 30) (ha : a < 6) (hb : b < 6) : M (90 + 6 * a + b) = nI (eN M a b) ∧ eN M a b ≤ vN M a ∧ (eN M a b = 0 → g_st M a b = 0) := by
  obtain ⟨v, g1, g2, g3, -⟩ := h.2.2.1 a ha
  obtain ⟨u, f1, f2, f3⟩ := g3 b hb
  have e : vN M a = v := nI_back g2 (by omega)
  have e2 : eN M a b = u := nI_back f2 (by omega)
  rw [e, e2]
  exact ⟨f2, f1, f3⟩
theorem ver_s (h : oX 6 B M) (hB : B < 2 ^ 30) (ha : a < 6) : (∃ b, b < 6 ∧ b ≠ a ∧ eN M a b = vN M a) ∧ eN M a a = 0 := by
  obtain ⟨v, g1, g2, g3, ⟨b, hb, hne, g4⟩, g5⟩ := h.2.2.1 a ha
  have e : vN M a = v := nI_back g2 (by omega)
  refine ⟨⟨b, hb, hne, ?_⟩, ?_⟩
  · rw [e]
    exact nI_back g4 (by omega)
  · unfold eN
    rw [g5]
    decide
def g_nw (M : kM) (a v : Nat) : Nat → Nat
  | 0 => 0
  | b + 1 => g_nw M a v b + (if b = a then 0 else if v < eN M a b then 1 else 0)
def g_sn (M : kM) (a : Nat) : Nat → Bool
  | 0 => false
  | b + 1 => g_sn M a b || (decide (¬ b = a) && decide (eN M a b = vN M a))
def g_agR (M : kM) (a : Nat) : Nat → Nat
  | 0 => 0
  | b + 1 => g_agR M a b + (if (decide (a < b) && g_agr M a b) = true then 1 else 0)
def g_agS (M : kM) : Nat → Nat
  | 0 => 0
  | a + 1 => g_agS M a + g_agR M a 6
theorem nw_le {v : Nat} : ∀ b, g_nw M a v b ≤ b
  | 0 => Nat.le_refl 0
  | b + 1 => by
    have := nw_le (v := v) b
    unfold g_nw
    split
    · omega
    · split <;> omega
theorem agR_le : ∀ b, g_agR M a b ≤ b
  | 0 => Nat.le_refl 0
  | b + 1 => by
    have := agR_le b
    unfold g_agR
    split <;> omega
theorem agS_le : ∀ a, g_agS M a ≤ 6 * a
  | 0 => Nat.le_refl 0
  | a + 1 => by
    have h1 := agS_le a
    have h2 := agR_le (M := M) (a := a) 6
    unfold g_agS
    omega
theorem nw_eq {v : Nat} (e : b = a) : g_nw M a v (b + 1) = g_nw M a v b := by
  show g_nw M a v b + (if b = a then 0 else if v < eN M a b then 1 else 0) = _
  rw [if_pos e]
  rfl
theorem nw_up {v : Nat} (e : ¬ b = a) : nI (g_nw M a v b) + kI (decide (v < eN M a b)) = nI (g_nw M a v (b + 1)) := by
  show _ = nI (g_nw M a v b + (if b = a then 0 else if v < eN M a b then 1 else 0))
  rw [if_neg e]
  by_cases q : v < eN M a b
  · rw [if_pos q, decide_eq_true q]
    exact nI_1 _
  · rw [if_neg q, decide_eq_false q]
    exact Int32.add_zero _
theorem sn_eq (e : b = a) : g_sn M a (b + 1) = g_sn M a b := by
  show (g_sn M a b || (decide (¬ b = a) && decide (eN M a b = vN M a))) = _
  rw [decide_eq_false (not_not_intro e), Bool.false_and, Bool.or_false]
theorem sn_a (h : g_sn M a b = true) : nI 1 = kI (g_sn M a (b + 1)) := by
  show nI 1 = kI (g_sn M a b || (decide (¬ b = a) && decide (eN M a b = vN M a)))
  rw [h]
  rfl
theorem sn_b (e : ¬ b = a) (h : eN M a b = vN M a) : nI 1 = kI (g_sn M a (b + 1)) := by
  show nI 1 = kI (g_sn M a b || (decide (¬ b = a) && decide (eN M a b = vN M a)))
  rw [decide_eq_true e, decide_eq_true h, Bool.and_true, Bool.or_true]
  rfl
theorem sn_c (h0 : g_sn M a b = false) (h : ¬ eN M a b = vN M a) : nI 0 = kI (g_sn M a (b + 1)) := by
  show nI 0 = kI (g_sn M a b || (decide (¬ b = a) && decide (eN M a b = vN M a)))
  rw [h0, decide_eq_false h, Bool.and_false, Bool.or_false]
  rfl
theorem ag_eq (e : b = a) : g_agR M a (b + 1) = g_agR M a b := by
  show g_agR M a b + (if (decide (a < b) && g_agr M a b) = true then 1 else 0) = _
  rw [decide_eq_false (by omega), Bool.false_and, if_neg (by decide)]
  rfl
theorem ag_up : nI (g_agS M a + g_agR M a b) + kI (decide (a < b) && g_agr M a b) = nI (g_agS M a + g_agR M a (b + 1)) := by
  show _ = nI (g_agS M a + (g_agR M a b + (if (decide (a < b) && g_agr M a b) = true then 1 else 0)))
  by_cases q : (decide (a < b) && g_agr M a b) = true
  · rw [if_pos q, q]
    exact nI_1 _
  · rw [if_neg q, bfalse q]
    exact Int32.add_zero _
theorem ag_t (h : a < b) : kI (g_agr M a b) = kI (decide (a < b) && g_agr M a b) := by rw [decide_eq_true h, Bool.true_and]
theorem ag_f (h : ¬ a < b) : nI 0 = kI (decide (a < b) && g_agr M a b) := by
  rw [decide_eq_false h, Bool.false_and]
  rfl
theorem sn_mono : ∀ (n b : Nat), g_sn M a b = true → g_sn M a (b + n) = true
  | 0, _, h => h
  | n + 1, b, h => by
    show (g_sn M a (b + n) || _) = true
    rw [sn_mono n b h]
    rfl
theorem sn_true (h : oX 6 B M) (hB : B < 2 ^ 30) (ha : a < 6) : g_sn M a 6 = true := by
  obtain ⟨⟨b, hb, hne, e⟩, -⟩ := ver_s h hB ha
  have h1 : g_sn M a (b + 1) = true := by
    show (g_sn M a b || (decide (¬ b = a) && decide (eN M a b = vN M a))) = true
    rw [decide_eq_true hne, decide_eq_true e, Bool.and_true, Bool.or_true]
  have h2 := sn_mono (5 - b) (b + 1) h1
  rw [show b + 1 + (5 - b) = 6 by omega] at h2
  exact h2
theorem chg_nw {v : Nat} (h : oX 6 B M) (hB : B < 2 ^ 30) (ha : a < 6) (hv : v < 2 ^ 31) : ∀ n, n ≤ 6 → g_chgN M a (nI v) n = g_nw M a v n
  | 0, _ => rfl
  | n + 1, hn => by
    obtain ⟨e1, e2, -⟩ := ver_e h hB ha (show n < 6 by omega)
    obtain ⟨-, e3⟩ := ver_v h hB ha
    show g_chgN M a (nI v) n + (if M (90 + 6 * a + n) ≤ nI v then 0 else 1) = g_nw M a v n + (if n = a then 0 else if v < eN M a n then 1 else 0)
    rw [chg_nw h hB ha hv n (by omega)]
    by_cases q : n = a
    · subst q
      rw [if_pos rfl]
      have z := (ver_s h hB ha).2
      rw [e1, z, if_pos (nI_le (by omega) hv)]
    · rw [if_neg q, e1]
      by_cases g : v < eN M a n
      · rw [if_pos g, if_neg (nI_ge g (by omega))]
      · rw [if_neg g, if_pos (nI_le (by omega) hv)]
theorem chg_top (h : oX 6 B M) (hB : B < 2 ^ 30) (ha : a < 6) : g_chgN M a (nI (vN M a)) 6 = 0 := by
  have hv := (ver_v h hB ha).2
  rw [chg_nw h hB ha (by omega) 6 (by omega)]
  have key : ∀ n, n ≤ 6 → g_nw M a (vN M a) n = 0 := by
    intro n
    induction n with
    | zero => intro _; rfl
    | succ n ih =>
      intro hn
      have e := (ver_e h hB ha (show n < 6 by omega)).2.1
      show g_nw M a (vN M a) n + (if n = a then 0 else if vN M a < eN M a n then 1 else 0) = 0
      rw [ih (by omega)]
      split
      · rfl
      · rw [if_neg (by omega)]
  exact key 6 (by omega)
theorem agS_pairs : g_agS M 6 = g_pairs M := by
  simp only [g_pairs, g_agS, g_allM, g_agR, g_rowM, Nat.reduceLT, decide_true, decide_false, Bool.true_and, Bool.false_and, Bool.false_eq_true, if_false, Nat.zero_add, Nat.add_zero, Nat.reduceAdd]
  simp only [agr_sym (M := M) 1 0, agr_sym (M := M) 2 0, agr_sym (M := M) 2 1, agr_sym (M := M) 3 0, agr_sym (M := M) 3 1, agr_sym (M := M) 3 2, agr_sym (M := M) 4 0, agr_sym (M := M) 4 1, agr_sym (M := M) 4 2, agr_sym (M := M) 4 3, agr_sym (M := M) 5 0, agr_sym (M := M) 5 1, agr_sym (M := M) 5 2, agr_sym (M := M) 5 3, agr_sym (M := M) 5 4]
  omega
theorem st_r (h : oX 6 B M) (ha : a < 6) (hb : b < 6) : (¬ g_st M a b < 0) ∧ (¬ 15 < g_st M a b) ∧ (¬ g_st M a b &&& 5 = 5) ∧ (¬ g_st M a b &&& 10 = 10) := by
  obtain ⟨n, hn, e⟩ := i_st h.1 ha hb
  have h2 := h.2.1 a b ha hb
  refine ⟨?_, ?_, h2.1, h2.2⟩
  · unfold g_st
    rw [e]
    exact nI_pos (by omega)
  · unfold g_st
    rw [e]
    exact nI_nlt (a := 15) (b := n) (by omega) (by omega)
-- messages
theorem msg_f {k : Nat} (h : oX 6 B M) (hk : k < wyN M) : g_msg M k % 8 < 7 ∧ g_msg M k / 8 % 8 < 6 ∧ g_msg M k / 64 % 8 < 6 ∧ ¬ g_msg M k / 8 % 8 = g_msg M k / 64 % 8 := by
  obtain ⟨h1, h2, h3, -⟩ := i_codes (i_msg h.1 k).1 (i_msglt h.1 k)
  exact ⟨h1, h2, h3, h.2.2.2.2.1 _ (List.mem_map.mpr ⟨k, List.mem_range.mpr hk, rfl⟩)⟩
theorem p3_t {c : Nat} (h : ¬ g_part c 3 < 0) : c % 8 = 4 ∨ c % 8 = 5 := by
  by_cases q : c % 8 = 4 ∨ c % 8 = 5
  · exact q
  · have e : g_part c 3 = -1 := if_neg q
    rw [e] at h
    exact absurd (show (-1 : Int32) < 0 by decide) h
theorem p3_f {c : Nat} (h : g_part c 3 < 0) : ¬ (c % 8 = 4 ∨ c % 8 = 5) := fun q => by
  rw [g3 q] at h
  exact absurd h (nI_pos (by omega))
theorem p4_t {c : Nat} (h : ¬ g_part c 4 < 0) : c % 8 = 4 := by
  by_cases q : c % 8 = 4
  · exact q
  · have e : g_part c 4 = -1 := if_neg q
    rw [e] at h
    exact absurd (show (-1 : Int32) < 0 by decide) h
theorem p4_f {c : Nat} (hc : c / 2048 < 5) (h : g_part c 4 < 0) : ¬ c % 8 = 4 := fun q => by
  rw [g4 q] at h
  exact absurd h (nI_pos (by omega))
theorem msg_d {k : Nat} (h : oX 6 B M) : g_msg M k / 2048 < 5 := (i_codes (i_msg h.1 k).1 (i_msglt h.1 k)).2.2.2.2.1
theorem until_z : decide (g_delC 1000 M = 0) = decide (wyN M = 0) := by
  have e : g_delC 1000 M = if wyN M = 0 then 0 else g_delC 999 (g_arrive (g_take M) (g_msg M 0)) + 1 := rfl
  rw [e]
  by_cases q : wyN M = 0
  · rw [if_pos q, decide_eq_true q]
    rfl
  · rw [if_neg q, decide_eq_false q]
    exact decide_eq_false (by omega)
theorem need_0 (h : wyN M = 0) : g_need M = -1 := by
  unfold g_need
  rw [h]
  rfl
theorem need_lt (h : wyN M ≤ 300) : ¬ nI (wyN M) + kI (decide (wyN M = 0)) ≤ g_need M := by
  rcases nd_pos (M := M) (wyN M) with ⟨e0, e1, -⟩ | ⟨e0, i, hi, e1, -⟩
  · show ¬ nI (wyN M) + kI (decide (wyN M = 0)) ≤ (g_nd M (wyN M)).1
    rw [e1, e0]
    decide
  · show ¬ nI (wyN M) + kI (decide (wyN M = 0)) ≤ (g_nd M (wyN M)).1
    rw [e1, decide_eq_false (by omega)]
    show ¬ nI (wyN M) + 0 ≤ nI i
    rw [Int32.add_zero]
    exact nI_ge hi (by omega)
theorem need_lt0 (h : wyN M ≤ 300) (h0 : 40 < wyN M) : ¬ nI (wyN M) + kI (decide (wyN M = 0)) ≤ 0 := by
  rw [decide_eq_false (by omega)]
  show ¬ nI (wyN M) + 0 ≤ nI 0
  rw [Int32.add_zero]
  exact nI_ge (by omega) (by omega)
theorem x_ct (h : oX 6 B M) : M 578 = M 579 + M 580 + nI (wyN M) := by
  rw [← i_wy h.1]
  exact h.2.2.2.2.2
theorem msg_w (h : kInv M) : g_in (nI (wyN M)) 0 (M 577 - 1) = false := by
  have hw := i_wyle h
  rw [i_wy h]
  unfold g_in
  by_cases q : wyN M = 0
  · rw [q]
    decide
  · rw [show nI (wyN M) - 1 = nI (wyN M - 1) from pk_sub (a := wyN M) (b := 1) (by omega)]
    have : nI (wyN M - 1) < nI (wyN M) := nI_lt (by omega) (by omega)
    rw [decide_eq_false (not_not_intro this), Bool.and_false]
-- views
theorem seat3 : M (9 * a + 3 * 0 + 0) + M (9 * a + 3 * 1 + 0) + M (9 * a + 3 * 2 + 0) = g_cnt M a := by
  show M (9 * a + 3 * 0) + M (9 * a + 3 * 1) + M (9 * a + 3 * 2) = 0 + M (9 * a + 3 * 0) + M (9 * a + 3 * 1) + M (9 * a + 3 * 2)
  rw [Int32.zero_add]
theorem bst_c : ∀ s, s ≤ 3 → ((g_bst M a s).1 = -1 ∧ (g_bst M a s).2 = -1) ∨ ∃ z, z < s ∧ (g_bst M a s).1 = nI z ∧ g_on M a z = true ∧ (g_bst M a s).2 = M (1 + 9 * a + 3 * z) ∧ ¬ M (1 + 9 * a + 3 * z) < 0
  | 0, _ => Or.inl ⟨rfl, rfl⟩
  | s + 1, hs => by
    have ih := bst_c s (by omega)
    have hge := bst_ge (M := M) (a := a) s
    unfold g_bst
    split
    · rename_i h
      refine Or.inr ⟨s, by omega, rfl, h.1, rfl, fun q => ?_⟩
      exact h.2 (bst_neg q)
    · rcases ih with q | ⟨z, q1, q2⟩
      · exact Or.inl q
      · exact Or.inr ⟨z, by omega, q2⟩
theorem bst_get (h : ¬ (g_bst M a 3).1 < 0) : ∃ z, z < 3 ∧ (g_bst M a 3).1 = nI z ∧ M (9 * a + 3 * z) = 1 ∧ ¬ M (9 * a + 3 * z + 1) < 0 := by
  rcases bst_c (M := M) (a := a) 3 (by omega) with q | ⟨z, q1, q2, q3, -, q5⟩
  · rw [q.1] at h
    exact absurd (show (-1 : Int32) < 0 by decide) h
  · refine ⟨z, q1, q2, of_decide_eq_true q3, ?_⟩
    rw [show 9 * a + 3 * z + 1 = 1 + 9 * a + 3 * z by omega]
    exact q5
theorem bst_lo : ¬ (g_bst M a 3).1 < -1 := by
  rcases bst_c (M := M) (a := a) 3 (by omega) with q | ⟨z, q1, q2, -⟩
  · rw [q.1]
    decide
  · rw [q2]
    rcases (show z = 0 ∨ z = 1 ∨ z = 2 by omega) with rfl | rfl | rfl <;> decide
theorem bst_hi : ¬ 2 < (g_bst M a 3).1 := by
  rcases bst_c (M := M) (a := a) 3 (by omega) with q | ⟨z, q1, q2, -⟩
  · rw [q.1]
    decide
  · rw [q2]
    rcases (show z = 0 ∨ z = 1 ∨ z = 2 by omega) with rfl | rfl | rfl <;> decide
theorem wrR_z (h : oX 6 B M) (ha : a < 6) (hb : b < 6) (hc : g_cnt M a = 0) : ∀ s, s ≤ 3 → g_wrR M a b s = 0
  | 0, _ => rfl
  | s + 1, hs => by
    have hv := (h.2.2.2.1 a b s ha hb (by omega)).2.1 (by omega) hc
    have ht : g_there M a = false := bfalse (nthere_of h.1 ha hc)
    show g_wrR M a b s + (if g_iw (M (132 + 18 * a + 3 * b + s)) (g_on M b s) (g_has M a b 1) (g_there M a) (M (2 + 9 * b + 3 * s)) = true then 1 else 0) = 0
    rw [wrR_z h ha hb hc s (by omega), hv, ht]
    have e : g_iw (-1) (g_on M b s) (g_has M a b 1) false (M (2 + 9 * b + 3 * s)) = false := by
      unfold g_iw
      rw [if_pos rfl, Bool.and_false, Bool.false_and]
    rw [e]
    rfl
theorem wr_z (h : oX 6 B M) (ha : a < 6) (hc : g_cnt M a = 0) : g_wrA M a 6 = 0 := by
  have key : ∀ n, n ≤ 6 → g_wrA M a n = 0 := by
    intro n
    induction n with
    | zero => intro _; rfl
    | succ n ih =>
      intro hn
      show g_wrA M a n + (if n = a then 0 else g_wrR M a n 3) = 0
      rw [ih (by omega)]
      split
      · rfl
      · rw [wrR_z h ha (by omega) hc 3 (by omega)]
  exact key 6 (by omega)
theorem vw_r {s : Nat} (h : oX 6 B M) (ha : a < 6) (hb : b < 6) (hs : s < 3) : (¬ M (132 + 18 * a + 3 * b + s) < -1) ∧ (¬ 4 < M (132 + 18 * a + 3 * b + s)) ∧ (M (132 + 18 * a + 3 * b + s) < 0 → M (132 + 18 * a + 3 * b + s) = -1) ∧ (g_cnt M a = 0 → M (132 + 18 * a + 3 * b + s) < 0) := by
  obtain ⟨h1, h2, -⟩ := h.2.2.2.1 a b s ha hb hs
  refine ⟨?_, ?_, fun q => ?_, fun q => ?_⟩
  · rcases h1 with e | ⟨n, hn, e⟩
    · rw [e]
      decide
    · rw [e]
      rcases (show n = 0 ∨ n = 1 ∨ n = 2 ∨ n = 3 ∨ n = 4 by omega) with rfl | rfl | rfl | rfl | rfl <;> decide
  · rcases h1 with e | ⟨n, hn, e⟩
    · rw [e]
      decide
    · rw [e]
      rcases (show n = 0 ∨ n = 1 ∨ n = 2 ∨ n = 3 ∨ n = 4 by omega) with rfl | rfl | rfl | rfl | rfl <;> decide
  · rcases h1 with e | ⟨n, hn, e⟩
    · exact e
    · rw [e] at q
      exact absurd q (nI_pos (by omega))
  · rw [h2 (by omega) q]
    decide
theorem hv_a {s : Nat} (h : g_hv M a b s = true) : nI 1 = kI (g_hv M a b (s + 1)) := by
  show nI 1 = kI (g_hv M a b s || decide (¬ M (132 + 18 * a + 3 * b + s) = -1))
  rw [h]
  rfl
theorem hv_b {s : Nat} (h : ¬ M (132 + 18 * a + 3 * b + s) < 0) : nI 1 = kI (g_hv M a b (s + 1)) := by
  show nI 1 = kI (g_hv M a b s || decide (¬ M (132 + 18 * a + 3 * b + s) = -1))
  have hn : ¬ M (132 + 18 * a + 3 * b + s) = -1 := fun q => h (by rw [q]; decide)
  rw [decide_eq_true hn, Bool.or_true]
  rfl
theorem hv_c {s : Nat} (h0 : g_hv M a b s = false) (h : M (132 + 18 * a + 3 * b + s) = -1) : nI 0 = kI (g_hv M a b (s + 1)) := by
  show nI 0 = kI (g_hv M a b s || decide (¬ M (132 + 18 * a + 3 * b + s) = -1))
  rw [h0, decide_eq_false (not_not_intro h)]
  rfl
theorem hv_self (h : oX 6 B M) (ha : a < 6) : g_hv M a a 3 = false := by
  have e : ∀ s, s < 3 → M (132 + 18 * a + 3 * a + s) = -1 := fun s hs => (h.2.2.2.1 a a s ha ha hs).2.2 rfl
  show (((false || decide (¬ M (132 + 18 * a + 3 * a + 0) = -1)) || decide (¬ M (132 + 18 * a + 3 * a + 1) = -1)) || decide (¬ M (132 + 18 * a + 3 * a + 2) = -1)) = false
  rw [e 0 (by omega), e 1 (by omega), e 2 (by omega)]
  decide
theorem vis_t (h : g_hv M a b 3 = true) : g_visA M a + g_visR M a b + 1 = g_visA M a + g_visR M a (b + 1) := by
  show _ = g_visA M a + (g_visR M a b + (if g_hv M a b 3 = true then 1 else 0))
  rw [if_pos h]
  rfl
theorem vis_f (h : g_hv M a b 3 = false) : g_visA M a + g_visR M a b = g_visA M a + g_visR M a (b + 1) := by
  show _ = g_visA M a + (g_visR M a b + (if g_hv M a b 3 = true then 1 else 0))
  rw [if_neg (by rw [h]; decide)]
  rfl
theorem share_ge : ∀ n, n < 37 → ¬ Op.cmpValue (FP.dcmp (g_share n) FP.dconst0) .l < 0 := by decide +kernel
theorem share_le : ∀ n, n < 31 → ¬ 0 < Op.cmpValue (FP.dcmp (g_share n) FP.dconst1) .g := by decide +kernel
theorem visA_30 : g_visA M 6 ≤ 36 := visA_le 6
theorem vis5 (h : oX 6 B M) (ha : a < 6) : ∀ n, n ≤ 6 → g_visR M a n ≤ n ∧ (a < n → g_visR M a n + 1 ≤ n)
  | 0, _ => ⟨Nat.le_refl 0, fun q => absurd q (by omega)⟩
  | n + 1, hn => by
    obtain ⟨g1, g2⟩ := vis5 h ha n (by omega)
    have e : g_visR M a (n + 1) = g_visR M a n + (if g_hv M a n 3 = true then 1 else 0) := rfl
    rw [e]
    by_cases q : n = a
    · subst q
      rw [if_neg (by rw [hv_self h ha]; decide)]
      exact ⟨by omega, fun _ => by omega⟩
    · split
      · exact ⟨by omega, fun _ => by have := g2 (by omega); omega⟩
      · exact ⟨by omega, fun _ => by omega⟩
theorem vis_30 (h : oX 6 B M) : g_visA M 6 ≤ 30 := by
  have key : ∀ n, n ≤ 6 → g_visA M n ≤ 5 * n := by
    intro n
    induction n with
    | zero => intro _; exact Nat.le_refl 0
    | succ n ih =>
      intro hn
      have h1 := ih (by omega)
      have h2 := (vis5 h (show n < 6 by omega) 6 (by omega)).2 (by omega)
      show g_visA M n + g_visR M n 6 ≤ 5 * (n + 1)
      omega
  exact key 6 (by omega)
theorem wrR_le : ∀ n, g_wrR M a b n ≤ n
  | 0 => Nat.le_refl 0
  | n + 1 => by
    have := wrR_le n
    unfold g_wrR
    split <;> omega
theorem wrA_le : ∀ n, g_wrA M a n ≤ 3 * n
  | 0 => Nat.le_refl 0
  | n + 1 => by
    have h1 := wrA_le n
    have h2 := wrR_le (M := M) (a := a) (b := n) 3
    unfold g_wrA
    split <;> omega
end LOOK
