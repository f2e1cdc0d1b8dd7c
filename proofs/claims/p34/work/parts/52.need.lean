/-! here and gone change no marks: losing one of them changes no pair at rest -/
def kMk (c : Nat) : Bool := decide (¬ (c % 8 = 4 ∨ c % 8 = 5))
def g_q (M : kM) : List Nat := (List.range (wyN M)).map (g_msg M)
def g_mq (M : kM) : List Nat := (g_q M).filter kMk
def kRel (j : Nat) : Prop := (54 ≤ j ∧ j < 90) ∨ (240 ≤ j ∧ j < 276)
theorem q_same {M N : kM} (e : ∀ k, 276 ≤ k → k < 578 → N k = M k) : g_q N = g_q M := by
  have e1 : hdN N = hdN M := by unfold hdN; rw [e 576 (by omega) (by omega)]
  have e2 : wyN N = wyN M := by unfold wyN; rw [e 577 (by omega) (by omega)]
  unfold g_q
  rw [e2]
  refine List.map_congr_left fun i _ => ?_
  unfold g_msg
  rw [e1, e _ (by omega) (by omega)]
theorem q_take {M : kM} (h : kInv M) (hw : 0 < wyN M) : g_q M = g_msg M 0 :: g_q (g_take M) := by
  unfold g_q
  rw [take_wy h hw]
  obtain ⟨n, hn⟩ : ∃ n, wyN M = n + 1 := ⟨wyN M - 1, by omega⟩
  rw [hn, List.range_succ_eq_map, List.map_cons, List.map_map]
  congr 1
  refine List.map_congr_left fun i _ => ?_
  exact (take_msg h i).symm
theorem q_put {M : kM} (h : kInv M) {c : Nat} (hc : c < 2 ^ 31) (hw : wyN M < 300) : g_q (g_put M c) = g_q M ++ [c] := by
  have h1 := i_wy h
  have h3 := i_hdlt h
  have h4 : ¬ M 577 = nI 300 := fun e => by
    rw [h1] at e
    have := (nI_eq (a := wyN M) (b := 300) (by omega) (by omega)).mp e
    omega
  unfold g_put
  rw [if_neg h4]
  have e1 : hdN (upd (upd (upd M 578 (M 578 + 1)) (276 + (hdN M + wyN M) % 300) (nI c)) 577 (M 577 + 1)) = hdN M := by
    unfold hdN
    rw [upd_ne (by omega), upd_ne (by omega), upd_ne (by omega)]
  have e2 : wyN (upd (upd (upd M 578 (M 578 + 1)) (276 + (hdN M + wyN M) % 300) (nI c)) 577 (M 577 + 1)) = wyN M + 1 := by
    have e3 : (upd (upd (upd M 578 (M 578 + 1)) (276 + (hdN M + wyN M) % 300) (nI c)) 577 (M 577 + 1)) 577 = nI (wyN M + 1) := by rw [upd_eq, h1, nI_1]
    exact nI_back e3 (by omega)
  have e5 : g_msg (upd (upd (upd M 578 (M 578 + 1)) (276 + (hdN M + wyN M) % 300) (nI c)) 577 (M 577 + 1)) (wyN M) = c := by
    have e6 : (upd (upd (upd M 578 (M 578 + 1)) (276 + (hdN M + wyN M) % 300) (nI c)) 577 (M 577 + 1)) (276 + (hdN M + wyN M) % 300) = nI c := by rw [upd_ne (by omega), upd_eq]
    unfold g_msg
    rw [e1]
    exact nI_back e6 hc
  unfold g_q
  rw [e2, List.range_succ, List.map_append, List.map_cons, List.map_nil, e5]
  congr 1
  refine List.map_congr_left fun i hi => ?_
  have hi2 : i < wyN M := List.mem_range.mp hi
  unfold g_msg
  rw [e1, upd_ne (by omega), upd_ne (by omega), upd_ne (by omega)]
theorem q_full {M : kM} (h : kInv M) {c : Nat} (hw : ¬ wyN M < 300) : g_q (g_put M c) = g_q M := by
  have h1 := i_wy h
  have h2 := i_wyle h
  have h4 : M 577 = nI 300 := by rw [h1]; exact congrArg nI (by omega)
  unfold g_put
  rw [if_pos h4]
  exact q_same fun k h5 h6 => by rw [upd_ne (by omega), upd_ne (by omega)]
theorem mq_seat {M : kM} (h : kInv M) {k f t s d : Nat} (hk : k = 4 ∨ k = 5) (h2 : f < 6) (h3 : t < 6) (h4 : s < 3) (h5 : d < 5) : g_mq (g_send M k f t s d) = g_mq M := by
  unfold g_send
  split
  · rfl
  · obtain ⟨e1, -⟩ := code_parts (d := d) (show k < 7 by omega) h2 h3 h4
    have e2 : kMk (g_code k f t s d) = false := by
      unfold kMk
      rw [e1]
      exact decide_eq_false (not_not_intro hk)
    have hc : g_code k f t s d < 2 ^ 31 := by unfold g_code; omega
    unfold g_mq
    by_cases hw : wyN M < 300
    · rw [q_put h hc hw, List.filter_append, List.filter_cons, e2]
      simp
    · rw [q_full h hw]
theorem mq_mark {M : kM} (h : kInv M) {k f t : Nat} (hk : k < 7 ∧ k ≠ 4 ∧ k ≠ 5) (h2 : f < 6) (h3 : t < 6) (ha : g_apart M f t = false) (hw : wyN M < 300) : g_mq (g_send M k f t 0 0) = g_mq M ++ [g_code k f t 0 0] := by
  unfold g_send
  rw [if_neg (by simp [ha])]
  obtain ⟨e1, -⟩ := code_parts (d := 0) (show k < 7 by omega) h2 h3 (show 0 < 3 by omega)
  have e2 : kMk (g_code k f t 0 0) = true := by
    unfold kMk
    rw [e1]
    exact decide_eq_true (by omega)
  have hc : g_code k f t 0 0 < 2 ^ 31 := by unfold g_code; omega
  unfold g_mq
  rw [q_put h hc hw, List.filter_append, List.filter_cons, e2]
  simp
theorem mq_showN {M : kM} (h : kInv M) {a b : Nat} (ha : a < 6) (hb : b < 6) : ∀ n, n ≤ 3 → g_mq (g_showN M a b n) = g_mq M
  | 0, _ => rfl
  | n + 1, hn => by
    have ih := mq_showN h ha hb n (by omega)
    have hJ := i_showN h ha hb n (by omega)
    unfold g_showN
    split
    · rw [mq_seat hJ (Or.inl rfl) ha hb (by omega) (i_mdlt hJ ha (by omega)), ih]
    · exact ih
theorem mq_hideN {M : kM} (h : kInv M) {a b : Nat} (ha : a < 6) (hb : b < 6) : ∀ n, n ≤ 3 → g_mq (g_hideN M a b n) = g_mq M
  | 0, _ => rfl
  | n + 1, hn => by
    have ih := mq_hideN h ha hb n (by omega)
    have hJ := i_hideN h ha hb n (by omega)
    unfold g_hideN
    split
    · rw [mq_seat hJ (Or.inr rfl) ha hb (by omega) (by omega), ih]
    · exact ih
theorem mk_showN {M : kM} {a b j : Nat} (hj : j < 276) : ∀ n, g_showN M a b n j = M j
  | 0 => rfl
  | n + 1 => by
    have ih := mk_showN (M := M) (a := a) (b := b) hj n
    unfold g_showN
    split
    · rw [o_send hj, ih]
    · exact ih
theorem mk_hideN {M : kM} {a b j : Nat} (hj : j < 276) : ∀ n, g_hideN M a b n j = M j
  | 0 => rfl
  | n + 1 => by
    have ih := mk_hideN (M := M) (a := a) (b := b) hj n
    unfold g_hideN
    split
    · rw [o_send hj, ih]
    · exact ih
theorem mq_same {M N : kM} (e : ∀ k, 276 ≤ k → k < 578 → N k = M k) : g_mq N = g_mq M := by
  unfold g_mq
  rw [q_same e]
/-- what an arriving message does to the marks, and which mark message it brings -/
def m_set (M : kM) (a b : Nat) (t : Int32) : kM := upd M (54 + 6 * a + b) t
def m_arr (M : kM) (c : Nat) : kM :=
  if g_apart M (c / 8 % 8) (c / 64 % 8) = true then M
  else if c % 8 = 0 then (if g_has M (c / 64 % 8) (c / 8 % 8) 2 = true then M else m_set M (c / 64 % 8) (c / 8 % 8) (g_st M (c / 64 % 8) (c / 8 % 8) ||| 8))
  else if c % 8 = 1 then (if g_has M (c / 64 % 8) (c / 8 % 8) 4 = true then m_set M (c / 64 % 8) (c / 8 % 8) ((g_st M (c / 64 % 8) (c / 8 % 8) &&& (-5)) ||| 1) else M)
  else if c % 8 = 2 then (if g_has M (c / 64 % 8) (c / 8 % 8) 10 = true then m_set M (c / 64 % 8) (c / 8 % 8) (g_st M (c / 64 % 8) (c / 8 % 8) &&& (-11)) else M)
  else if c % 8 = 3 then m_set M (c / 64 % 8) (c / 8 % 8) (g_st M (c / 64 % 8) (c / 8 % 8) &&& (-6))
  else M
def m_out (M : kM) (c : Nat) : List Nat :=
  if g_apart M (c / 8 % 8) (c / 64 % 8) = true then []
  else if c % 8 = 0 then (if g_has M (c / 64 % 8) (c / 8 % 8) 2 = true then [g_code 1 (c / 64 % 8) (c / 8 % 8) 0 0] else [])
  else if c % 8 = 6 then (if g_has M (c / 64 % 8) (c / 8 % 8) 2 = true then [] else [g_code 3 (c / 64 % 8) (c / 8 % 8) 0 0])
  else []
theorem mk_become {M : kM} {a b j : Nat} {t : Int32} (ha : a < 6) (hb : b < 6) (hj : kRel j) : g_become M a b t j = m_set M a b t j := by
  unfold g_become m_set
  unfold kRel at hj
  split
  · rename_i h
    by_cases e : j = 54 + 6 * a + b
    · subst e
      rw [upd_eq, h]
    · rw [upd_ne e]
  · rw [upd_ne (by omega), upd_ne (by omega)]
theorem mk_arr {M : kM} {c j : Nat} (hc : kMsg (nI c)) (hlt : c < 2 ^ 31) (hj : kRel j) : g_arrive M c j = m_arr M c j := by
  obtain ⟨g1, hf, ht, hs, hd', g6, g7, -⟩ := i_codes hc hlt
  have hj2 : j < 276 := by unfold kRel at hj; omega
  have hj3 : j < 132 ∨ 240 ≤ j := by unfold kRel at hj; omega
  unfold g_arrive m_arr
  by_cases q0 : g_apart M (c / 8 % 8) (c / 64 % 8) = true
  · rw [if_pos q0, if_pos q0]
  rw [if_neg q0, if_neg q0]
  by_cases q1 : c % 8 = 0
  · rw [if_pos q1, if_pos q1]
    split
    · rw [show g_show (g_send M 1 (c / 64 % 8) (c / 8 % 8) 0 0) (c / 64 % 8) (c / 8 % 8) j = g_send M 1 (c / 64 % 8) (c / 8 % 8) 0 0 j from mk_showN hj2 3, o_send hj2]
    · exact mk_become ht hf hj
  rw [if_neg q1, if_neg q1]
  by_cases q2 : c % 8 = 1
  · rw [if_pos q2, if_pos q2]
    split
    · exact mk_become ht hf hj
    · rfl
  rw [if_neg q2, if_neg q2]
  by_cases q3 : c % 8 = 2
  · rw [if_pos q3, if_pos q3]
    split
    · exact (mk_hideN hj2 3).trans (mk_become ht hf hj)
    · rfl
  rw [if_neg q3, if_neg q3]
  by_cases q4 : c % 8 = 3
  · rw [if_pos q4, if_pos q4, o_forget ht hf hj3]
    exact mk_become ht hf hj
  rw [if_neg q4, if_neg q4]
  by_cases q5 : c % 8 = 4
  · rw [if_pos q5]
    split
    · exact upd_ne (by omega)
    · rfl
  rw [if_neg q5]
  by_cases q6 : c % 8 = 5
  · rw [if_pos q6]
    exact upd_ne (by omega)
  rw [if_neg q6]
  split
  · exact mk_showN hj2 3
  · exact o_send hj2
theorem apart_sym {M : kM} (a b : Nat) : g_apart M a b = g_apart M b a := by
  unfold g_apart
  exact Bool.or_comm _ _
theorem mq_arr {M : kM} (h : kInv M) {c : Nat} (hc : kMsg (nI c)) (hlt : c < 2 ^ 31) (hw : wyN M < 300) : g_mq (g_arrive M c) = g_mq M ++ m_out M c := by
  obtain ⟨g1, hf, ht, hs, hd', g6, g7, -⟩ := i_codes hc hlt
  unfold g_arrive m_out
  by_cases q0 : g_apart M (c / 8 % 8) (c / 64 % 8) = true
  · rw [if_pos q0, if_pos q0, List.append_nil]
  rw [if_neg q0, if_neg q0]
  have hna : g_apart M (c / 64 % 8) (c / 8 % 8) = false := by rw [apart_sym]; simpa using q0
  have bec : ∀ t, g_mq (g_become M (c / 64 % 8) (c / 8 % 8) t) = g_mq M := fun t => mq_same fun k h1 _ => o_become ht hf (by omega)
  by_cases q1 : c % 8 = 0
  · rw [if_pos q1, if_pos q1]
    split
    · rw [show g_mq (g_show (g_send M 1 (c / 64 % 8) (c / 8 % 8) 0 0) (c / 64 % 8) (c / 8 % 8)) = g_mq (g_send M 1 (c / 64 % 8) (c / 8 % 8) 0 0) from mq_showN (i_send h (by omega) ht hf (by omega) (by omega) (by omega) (by omega)) ht hf 3 (by omega)]
      exact mq_mark h (by omega) ht hf hna hw
    · rw [bec, List.append_nil]
  rw [if_neg q1, if_neg q1]
  by_cases q6 : c % 8 = 6
  · rw [if_neg (by omega), if_neg (by omega), if_neg (by omega), if_neg (by omega), if_neg (by omega), if_pos q6]
    split
    · rw [List.append_nil]
      exact mq_showN h ht hf 3 (by omega)
    · exact mq_mark h (by omega) ht hf hna hw
  rw [if_neg q6, List.append_nil]
  split
  · split
    · exact bec _
    · rfl
  split
  · split
    · exact (mq_hideN (i_become h ht hf (i_s h ht hf (F := fun x => x &&& (-11)) s_m11)) ht hf 3 (by omega)).trans (bec _)
    · rfl
  split
  · exact mq_same fun k h1 _ => by rw [o_forget ht hf (by omega), o_become ht hf (by omega)]
  split
  · split
    · exact mq_same fun k h1 _ => upd_ne (by omega)
    · rfl
  split
  · exact mq_same fun k h1 _ => upd_ne (by omega)
  · omega
/-- the marks and the blocks alike -/
def kAl (M N : kM) : Prop := ∀ j, kRel j → M j = N j
theorem al_st {M N : kM} (h : kAl M N) {a b : Nat} (ha : a < 6) (hb : b < 6) : g_st M a b = g_st N a b := h _ (Or.inl (by omega))
theorem al_has {M N : kM} (h : kAl M N) {a b : Nat} {mk : Int32} (ha : a < 6) (hb : b < 6) : g_has M a b mk = g_has N a b mk := by
  unfold g_has
  rw [h (54 + 6 * a + b) (Or.inl (by omega))]
theorem al_apart {M N : kM} (h : kAl M N) {a b : Nat} (ha : a < 6) (hb : b < 6) : g_apart M a b = g_apart N a b := by
  unfold g_apart
  rw [h (240 + 6 * a + b) (Or.inr (by omega)), h (240 + 6 * b + a) (Or.inr (by omega))]
theorem al_arr {M N : kM} (h : kAl M N) {c : Nat} (hc : kMsg (nI c)) (hlt : c < 2 ^ 31) : kAl (m_arr M c) (m_arr N c) := by
  obtain ⟨g1, hf, ht, -⟩ := i_codes hc hlt
  have up : ∀ t, kAl (m_set M (c / 64 % 8) (c / 8 % 8) t) (m_set N (c / 64 % 8) (c / 8 % 8) t) := fun t j hj => by
    unfold m_set
    by_cases e : j = 54 + 6 * (c / 64 % 8) + c / 8 % 8
    · subst e
      rw [upd_eq, upd_eq]
    · rw [upd_ne e, upd_ne e]
      exact h j hj
  unfold m_arr
  rw [al_apart h hf ht, al_st h ht hf, al_has (mk := 2) h ht hf, al_has (mk := 4) h ht hf, al_has (mk := 10) h ht hf]
  split
  · exact h
  split
  · split
    · exact h
    · exact up _
  split
  · split
    · exact up _
    · exact h
  split
  · split
    · exact up _
    · exact h
  split
  · exact up _
  · exact h
theorem al_out {M N : kM} (h : kAl M N) {c : Nat} (hc : kMsg (nI c)) (hlt : c < 2 ^ 31) : m_out M c = m_out N c := by
  obtain ⟨g1, hf, ht, -⟩ := i_codes hc hlt
  unfold m_out
  rw [al_apart h hf ht, al_has (mk := 2) h ht hf]
/-- the same marks, blocks and mark messages -/
def kSim (M N : kM) : Prop := kInv M ∧ kInv N ∧ kAl M N ∧ g_mq M = g_mq N
theorem take_al {M : kM} : kAl (g_take M) M := fun j hj => o_take (by unfold kRel at hj; omega)
theorem al_trans {M N P : kM} (h : kAl M N) (h2 : kAl N P) : kAl M P := fun j hj => (h j hj).trans (h2 j hj)
theorem al_symm {M N : kM} (h : kAl M N) : kAl N M := fun j hj => (h j hj).symm
theorem arr_al {M : kM} {c : Nat} (hc : kMsg (nI c)) (hlt : c < 2 ^ 31) : kAl (g_arrive M c) (m_arr M c) := fun _ hj => mk_arr hc hlt hj
theorem mq_head {M : kM} (h : kInv M) (hw : 0 < wyN M) : g_mq M = (if kMk (g_msg M 0) = true then [g_msg M 0] else []) ++ g_mq (g_take M) := by
  unfold g_mq
  rw [q_take h hw, List.filter_cons]
  split <;> rfl
theorem seat_step {M : kM} (h : kInv M) (hw : 0 < wyN M) (hm : kMk (g_msg M 0) = false) : kAl (g_arrive (g_take M) (g_msg M 0)) M ∧ g_mq (g_arrive (g_take M) (g_msg M 0)) = g_mq M := by
  have hT := i_take h hw
  have hc := (i_msg h 0).1
  have hlt := i_msglt h 0
  have hw2 := take_wy h hw
  have hw3 := i_wyle h
  have hk : g_msg M 0 % 8 = 4 ∨ g_msg M 0 % 8 = 5 := by
    unfold kMk at hm
    have := of_decide_eq_false hm
    omega
  have e1 : ∀ N : kM, m_arr N (g_msg M 0) = N := fun N => by
    unfold m_arr
    rw [if_neg (show ¬ g_msg M 0 % 8 = 0 by omega), if_neg (show ¬ g_msg M 0 % 8 = 1 by omega), if_neg (show ¬ g_msg M 0 % 8 = 2 by omega), if_neg (show ¬ g_msg M 0 % 8 = 3 by omega)]
    split <;> rfl
  have e2 : ∀ N : kM, m_out N (g_msg M 0) = [] := fun N => by
    unfold m_out
    rw [if_neg (show ¬ g_msg M 0 % 8 = 0 by omega), if_neg (show ¬ g_msg M 0 % 8 = 6 by omega)]
    split <;> rfl
  refine ⟨?_, ?_⟩
  · have h1 := arr_al (M := g_take M) hc hlt
    rw [e1] at h1
    exact al_trans h1 take_al
  · rw [mq_arr hT hc hlt (by omega), e2, List.append_nil, mq_head h hw, hm]
    rfl
theorem sim_rest : ∀ (n a b : Nat) (M N : kM), a + b ≤ n → kSim M N → wyN (g_del a M) = 0 → wyN (g_del b N) = 0 → kAl (g_del a M) (g_del b N)
  | n, a, b, M, N, hn, ⟨hM, hN, hal, hq⟩, ha, hb => by
    by_cases wM : wyN M = 0
    · by_cases wN : wyN N = 0
      · rw [g_del_stop wM, g_del_stop wN]
        exact hal
      · have hbp : 0 < b := Nat.pos_of_ne_zero fun e => by subst e; exact wN hb
        have q0 : g_mq M = [] := by unfold g_mq g_q; rw [wM]; rfl
        have hm : kMk (g_msg N 0) = false := by
          rw [q0, mq_head hN (by omega)] at hq
          cases hk : kMk (g_msg N 0)
          · rfl
          · rw [hk] at hq
            simp at hq
        obtain ⟨s1, s2⟩ := seat_step hN (by omega) hm
        rw [g_del_go (M := N) (by omega) hbp] at hb ⊢
        match n, hn with
        | n + 1, hn => exact sim_rest n a (b - 1) M _ (by omega) ⟨hM, i_step hN (by omega), al_trans hal (al_symm s1), by rw [s2]; exact hq⟩ ha hb
        | 0, hn => exact absurd hbp (by omega)
    · have hap : 0 < a := Nat.pos_of_ne_zero fun e => by subst e; exact wM ha
      by_cases hm : kMk (g_msg M 0) = false
      · obtain ⟨s1, s2⟩ := seat_step hM (by omega) hm
        rw [g_del_go (M := M) (by omega) hap] at ha ⊢
        match n, hn with
        | n + 1, hn => exact sim_rest n (a - 1) b _ N (by omega) ⟨i_step hM (by omega), hN, al_trans s1 hal, by rw [s2]; exact hq⟩ ha hb
        | 0, hn => exact absurd hap (by omega)
      · have hm : kMk (g_msg M 0) = true := by simpa using hm
        by_cases wN : wyN N = 0
        · have q0 : g_mq N = [] := by unfold g_mq g_q; rw [wN]; rfl
          rw [q0, mq_head hM (by omega), hm] at hq
          simp at hq
        · have hbp : 0 < b := Nat.pos_of_ne_zero fun e => by subst e; exact wN hb
          by_cases hm2 : kMk (g_msg N 0) = false
          · obtain ⟨s1, s2⟩ := seat_step hN (by omega) hm2
            rw [g_del_go (M := N) (by omega) hbp] at hb ⊢
            match n, hn with
            | n + 1, hn => exact sim_rest n a (b - 1) M _ (by omega) ⟨hM, i_step hN (by omega), al_trans hal (al_symm s1), by rw [s2]; exact hq⟩ ha hb
            | 0, hn => exact absurd hbp (by omega)
          · have hm2 : kMk (g_msg N 0) = true := by simpa using hm2
            have hq2 := hq
            rw [mq_head hM (by omega), mq_head hN (by omega), hm, hm2] at hq2
            simp only [if_true, List.cons_append, List.nil_append, List.cons.injEq] at hq2
            obtain ⟨e1, e2⟩ := hq2
            have hcM := (i_msg hM 0).1
            have hltM := i_msglt hM 0
            have tM := take_wy hM (by omega)
            have tN := take_wy hN (by omega)
            have lM := i_wyle hM
            have lN := i_wyle hN
            have hal2 : kAl (g_take M) (g_take N) := al_trans take_al (al_trans hal (al_symm take_al))
            rw [g_del_go (M := M) (by omega) hap] at ha ⊢
            rw [g_del_go (M := N) (by omega) hbp] at hb ⊢
            match n, hn with
            | n + 1, hn =>
              refine sim_rest n (a - 1) (b - 1) _ _ (by omega) ⟨i_step hM (by omega), i_step hN (by omega), ?_, ?_⟩ ha hb
              · rw [← e1]
                exact al_trans (arr_al hcM hltM) (al_trans (al_arr hal2 hcM hltM) (al_symm (arr_al hcM hltM)))
              · rw [← e1, mq_arr (i_take hM (by omega)) hcM hltM (by omega), mq_arr (i_take hN (by omega)) hcM hltM (by omega), e2, al_out hal2 hcM hltM]
            | 0, hn => exact absurd hap (by omega)
theorem al_agr {M N : kM} (h : kAl M N) {a b : Nat} (ha : a < 6) (hb : b < 6) : g_agr M a b = g_agr N a b := by
  unfold g_agr
  rw [al_has (mk := 1) h ha hb, al_has (mk := 2) h hb ha, al_has (mk := 1) h hb ha, al_has (mk := 2) h ha hb, al_has (mk := 4) h ha hb, al_has (mk := 8) h hb ha, al_has (mk := 4) h hb ha, al_has (mk := 8) h ha hb]
theorem al_rowM {M N : kM} (h : kAl M N) {a : Nat} (ha : a < 6) : ∀ b, b ≤ 6 → g_rowM M a b = g_rowM N a b
  | 0, _ => rfl
  | b + 1, hb => by
    unfold g_rowM
    rw [al_rowM h ha b (by omega), al_agr h ha (show b < 6 by omega)]
theorem al_allM {M N : kM} (h : kAl M N) : ∀ a, a ≤ 6 → g_allM M a = g_allM N a
  | 0, _ => rfl
  | a + 1, ha => by
    unfold g_allM
    rw [al_allM h a (by omega), al_rowM h (show a < 6 by omega) a (by omega)]
theorem al_pairs {M N : kM} (h : kAl M N) : g_pairs M = g_pairs N := al_allM h 6 (by omega)
theorem shN_at {M : kM} (i : Nat) : ∀ n, i + n < 300 → ∀ j, j < 300 → g_shN M i n (276 + (hdN M + j) % 300) = if i ≤ j ∧ j < i + n then M (276 + (hdN M + (j + 1)) % 300) else M (276 + (hdN M + j) % 300)
  | 0, _, j, _ => by
    rw [if_neg (by omega)]
    rfl
  | n + 1, hn, j, hj => by
    have ih := shN_at (M := M) i n (by omega)
    unfold g_shN
    by_cases e : j = i + n
    · subst e
      rw [upd_eq, if_pos (by omega), ih (i + n + 1) (by omega), if_neg (by omega)]
    · rw [upd_ne (by omega), ih j hj]
      by_cases q : i ≤ j ∧ j < i + n
      · rw [if_pos q, if_pos (by omega)]
      · rw [if_neg q, if_neg (by omega)]
theorem drop_wy {M : kM} (h : kInv M) {i : Nat} (hi : i < wyN M) : wyN (g_drop M i) = wyN M - 1 := by
  have e : g_drop M i 577 = nI (wyN M - 1) := by
    unfold g_drop
    rw [upd_ne (by omega), upd_eq, i_dec h (by omega)]
  exact nI_back e (by have := i_wyle h; omega)
theorem drop_hd {M : kM} {i : Nat} : hdN (g_drop M i) = hdN M := by
  unfold g_drop
  have : hdN (upd (upd (g_shN M i (wyN M - 1 - i)) 577 (M 577 - 1)) 580 (M 580 + 1)) = hdN (g_shN M i (wyN M - 1 - i)) := by
    unfold hdN
    rw [upd_ne (by omega), upd_ne (by omega)]
  rw [this, hdN_shN]
theorem drop_msg {M : kM} (h : kInv M) {i j : Nat} (hi : i < wyN M) (hj : j < wyN M - 1) : g_msg (g_drop M i) j = g_msg M (if i ≤ j then j + 1 else j) := by
  have hw := i_wyle h
  unfold g_msg
  rw [drop_hd]
  unfold g_drop
  rw [upd_ne (by omega), upd_ne (by omega), shN_at i _ (by omega) j (by omega)]
  by_cases q : i ≤ j
  · rw [if_pos ⟨q, by omega⟩, if_pos q]
  · rw [if_neg (fun h9 => q h9.1), if_neg q]
theorem filt_erase {p : Nat → Bool} : ∀ (l : List Nat) (i : Nat) (x : Nat), l[i]? = some x → p x = false → (l.eraseIdx i).filter p = l.filter p
  | [], _, _, h, _ => by simp at h
  | y :: l, 0, x, h, hp => by
    have : y = x := by simpa using h
    subst this
    rw [List.eraseIdx_zero, List.tail_cons, List.filter_cons, hp]
    rfl
  | y :: l, i + 1, x, h, hp => by
    rw [List.eraseIdx_cons_succ, List.filter_cons, List.filter_cons, filt_erase l i x (by simpa using h) hp]
theorem q_drop {M : kM} (h : kInv M) {i : Nat} (hi : i < wyN M) : g_q (g_drop M i) = (g_q M).eraseIdx i := by
  refine List.ext_getElem? fun j => ?_
  unfold g_q
  rw [drop_wy h hi, List.getElem?_eraseIdx, List.getElem?_map, List.getElem?_map, List.getElem?_map]
  by_cases hj : j < wyN M - 1
  · rw [List.getElem?_range hj]
    by_cases q : i ≤ j
    · rw [if_neg (by omega), List.getElem?_range (show j + 1 < wyN M by omega)]
      rw [Option.map_some, Option.map_some, drop_msg h hi hj, if_pos q]
    · rw [if_pos (by omega), List.getElem?_range (show j < wyN M by omega)]
      rw [Option.map_some, Option.map_some, drop_msg h hi hj, if_neg q]
  · rw [List.getElem?_eq_none (l := List.range (wyN M - 1)) (by rw [List.length_range]; omega)]
    rw [if_neg (by omega), List.getElem?_eq_none (l := List.range (wyN M)) (by rw [List.length_range]; omega), Option.map_none, Option.map_none]
theorem drop_seat {M : kM} (h : kInv M) {i : Nat} (hi : i < wyN M) (hs : g_ofSeat (g_msg M i) = true) : g_pairs (g_del 1000 (g_drop M i)) = g_pairs (g_del 1000 M) := by
  have hm : kMk (g_msg M i) = false := by
    unfold kMk
    refine decide_eq_false (not_not_intro ?_)
    by_cases q : g_msg M i % 8 = 4 ∨ g_msg M i % 8 = 5
    · exact q
    · unfold g_ofSeat g_part at hs
      rw [if_neg (by omega), if_neg (by omega), if_neg (by omega), if_pos rfl, if_neg q] at hs
      simp at hs
  have hD := i_drop h (i := i) (by omega)
  refine al_pairs (sim_rest 2000 1000 1000 _ _ (by omega) ⟨hD, h, ?_, ?_⟩ (rest_ok hD) (rest_ok h))
  · intro j hj
    exact o_drop (by unfold kRel at hj; omega)
  · unfold g_mq
    rw [q_drop h hi]
    refine filt_erase _ _ (g_msg M i) ?_ hm
    unfold g_q
    rw [List.getElem?_map, List.getElem?_range hi]
    rfl
/-- what mostNeeded goes through: the message so far, and its pairs -/
def g_np (M : kM) (k : Nat) : Nat := g_pairs (g_del 1000 (g_drop M k))
def g_nd (M : kM) : Nat → Int32 × Nat
  | 0 => (-1, 36)
  | k + 1 => if g_np M k < (g_nd M k).2 then (nI k, g_np M k) else g_nd M k
def g_need (M : kM) : Int32 := (g_nd M (wyN M)).1
theorem nd_pos {M : kM} : ∀ k, (k = 0 ∧ (g_nd M k).1 = -1 ∧ (g_nd M k).2 = 36) ∨ (0 < k ∧ ∃ i, i < k ∧ (g_nd M k).1 = nI i ∧ (g_nd M k).2 ≤ 30)
  | 0 => Or.inl ⟨rfl, rfl, rfl⟩
  | k + 1 => by
    refine Or.inr ⟨by omega, ?_⟩
    have hp : g_np M k ≤ 30 := pairs_le
    unfold g_nd
    rcases nd_pos (M := M) k with ⟨h1, h2, h3⟩ | ⟨h1, i, h2, h3, h4⟩
    · rw [if_pos (by omega)]
      exact ⟨k, by omega, rfl, hp⟩
    · split
      · exact ⟨k, by omega, rfl, hp⟩
      · exact ⟨i, by omega, h3, h4⟩
theorem nd_step {M : kM} {k : Nat} (hk : g_np M k < (g_nd M k).2) : g_nd M (k + 1) = (nI k, g_np M k) := if_pos hk
theorem nd_keep {M : kM} {k : Nat} (hk : ¬ g_np M k < (g_nd M k).2) : g_nd M (k + 1) = g_nd M k := if_neg hk
