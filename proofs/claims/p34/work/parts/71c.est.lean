/-! what is done in a calm time leads to one -/
def cm (M : kM) : Prop := pend M [] ∧ wyN M = 0
def stp (M : kM) : kM := g_arrive (g_take M) (g_msg M 0)
section CM
variable {M F N : kM} {a b : Nat}
theorem cm_q (h : wyN M = 0) : g_q M = [] := List.eq_nil_of_length_eq_zero (len_q.trans h)
theorem cm_view (h : cm M) {s : Nat} (ha : a < 6) (hb : b < 6) (hab : a ≠ b) (hs : s < 3) : M (132 + 18 * a + 3 * b + s) = tg M a b s := by
  rcases h.1.2.2.2.1 a b s ha hb hab hs with v | ⟨-, v⟩ | ⟨-, v | v⟩
  · exact v
  · exact absurd v List.not_mem_nil
  · exact absurd v List.not_mem_nil
  · exact absurd v List.not_mem_nil
theorem cm_mk (h : cm M) (ha : a < 6) (hb : b < 6) (hab : a ≠ b) : g_has M a b 1 = g_has M b a 2 ∧ g_has M b a 8 = g_has M a b 4 := by
  obtain ⟨m1, m2, m3⟩ := h.1.2.2.1 a b ha hb hab
  refine ⟨m1, ?_⟩
  cases h8 : g_has M b a 8
  · cases h4 : g_has M a b 4
    · rfl
    · rcases m3 h4 with q | q
      · rw [h8] at q
        exact q
      · exact absurd q List.not_mem_nil
  · rw [m2 h8]
theorem pend_mk {q : List Nat} (hB : pB F) (h0 : F 580 = 0) (hphi : phi q ≤ 250) (hQ : ∀ c, c ∈ q → pMsg F c) (hm : ∀ a b, a < 6 → b < 6 → a ≠ b → g_has F a b 1 = g_has F b a 2 ∧ g_has F b a 8 = g_has F a b 4) (hv : pVw F q) : pend F q :=
  ⟨hB, hQ, fun a b ha hb hab => ⟨(hm a b ha hb hab).1, fun g => by rw [← (hm a b ha hb hab).2]; exact g, fun g => Or.inl (by rw [(hm a b ha hb hab).2]; exact g)⟩, hv, hphi, h0⟩
theorem agree2 (hc : cm M) (ha : a < 6) (hb : b < 6) (hab : a ≠ b) (ho : ∀ x y mk, x < 6 → y < 6 → ¬ (x = a ∧ y = b) → ¬ (x = b ∧ y = a) → g_has F x y mk = g_has M x y mk) (p1 : g_has F a b 1 = g_has F b a 2) (p2 : g_has F b a 8 = g_has F a b 4) (p3 : g_has F b a 1 = g_has F a b 2) (p4 : g_has F a b 8 = g_has F b a 4) : ∀ x y, x < 6 → y < 6 → x ≠ y → g_has F x y 1 = g_has F y x 2 ∧ g_has F y x 8 = g_has F x y 4 := by
  intro x y hx hy hxy
  by_cases e1 : x = a ∧ y = b
  · rw [e1.1, e1.2]
    exact ⟨p1, p2⟩
  · by_cases e2 : x = b ∧ y = a
    · rw [e2.1, e2.2]
      exact ⟨p3, p4⟩
    · rw [ho x y 1 hx hy e1 e2, ho y x 2 hy hx (fun q => e2 ⟨q.2, q.1⟩) (fun q => e1 ⟨q.2, q.1⟩), ho y x 8 hy hx (fun q => e2 ⟨q.2, q.1⟩) (fun q => e1 ⟨q.2, q.1⟩), ho x y 4 hx hy e1 e2]
      exact cm_mk hc hx hy hxy
theorem there_low (h : ∀ k, k < 54 → N k = M k) (ha : a < 6) : g_there N a = g_there M a := by
  unfold g_there
  rw [cnt_congr fun s hs => h _ (by omega)]
theorem tg_low {s : Nat} (h : ∀ k, k < 54 → N k = M k) (ha : a < 6) (hb : b < 6) (hs : s < 3) (h1 : g_has N a b 1 = g_has M a b 1) : tg N a b s = tg M a b s := by
  unfold tg
  rw [h1, there_low h ha, on_low h hb hs, h _ (by omega)]
theorem head_of {c : Nat} {q : List Nat} (hI : kInv N) (e : g_q N = c :: q) : 0 < wyN N ∧ g_msg N 0 = c ∧ g_q (g_take N) = q := by
  have hw : 0 < wyN N := by
    rw [← len_q, e]
    exact Nat.succ_pos _
  rw [q_take hI hw] at e
  obtain ⟨e1, e2⟩ := List.cons.inj e
  exact ⟨hw, e1, e2⟩
theorem forget_ne {k : Nat} (h : ¬ (132 + 18 * a + 3 * b ≤ k ∧ k < 132 + 18 * a + 3 * b + 3)) : g_forget M a b k = M k := by
  show upd (upd (upd M (132 + 18 * a + 3 * b + 0) (-1)) (132 + 18 * a + 3 * b + 1) (-1)) (132 + 18 * a + 3 * b + 2) (-1) k = M k
  exact (upd_ne (by omega)).trans ((upd_ne (by omega)).trans (upd_ne (by omega)))
theorem has10_k : ∀ n, n < 16 → decide (¬ nI n &&& 10 = 0) = (decide (¬ nI n &&& 2 = 0) || decide (¬ nI n &&& 8 = 0)) := by decide
theorem has5_k : ∀ n, n < 16 → decide (¬ nI n &&& 5 = 0) = (decide (¬ nI n &&& 1 = 0) || decide (¬ nI n &&& 4 = 0)) := by decide
theorem mk14_k : ∀ n, n < 16 → ¬ (nI n &&& 5 = 5) → decide (¬ nI n &&& 4 = 0) = true → decide (¬ nI n &&& 1 = 0) = false := by decide
theorem has10 (h : kInv M) (ha : a < 6) (hb : b < 6) : g_has M a b 10 = (g_has M a b 2 || g_has M a b 8) := by
  obtain ⟨n, hn, e⟩ := i_st h ha hb
  unfold g_has
  rw [e]
  exact has10_k n hn
theorem has5 (h : kInv M) (ha : a < 6) (hb : b < 6) : g_has M a b 5 = (g_has M a b 1 || g_has M a b 4) := by
  obtain ⟨n, hn, e⟩ := i_st h ha hb
  unfold g_has
  rw [e]
  exact has5_k n hn
theorem mk14 (h : kInv M) (hx : xSt M) (ha : a < 6) (hb : b < 6) (h4 : g_has M a b 4 = true) : g_has M a b 1 = false := by
  obtain ⟨n, hn, e⟩ := i_st h ha hb
  have h5 := (hx a b ha hb).1
  unfold g_has at h4 ⊢
  rw [e] at h4 h5 ⊢
  exact mk14_k n hn h5 h4
theorem wy_same (h : N 577 = M 577) : wyN N = wyN M := by
  unfold wyN
  rw [h]
end CM
/-- one more ask on the way -/
theorem ask_pend {F N : kM} {q : List Nat} {x y : Nat} (hp : pend F q) (hx : x < 6) (hy : y < 6) (hxy : x ≠ y) (hlo : ∀ k, k < 54 → N k = F k) (hvw : ∀ k, 132 ≤ k → k < 276 → N k = F k) (h0 : N 580 = F 580) (hh : ∀ a b mk, a < 6 → b < 6 → (mk = 1 ∨ mk = 2 ∨ mk = 8) → g_has N a b mk = g_has F a b mk)
    (hh4 : ∀ a b, a < 6 → b < 6 → g_has N a b 4 = if a = x ∧ b = y then true else g_has F a b 4) (hs : g_has F x y 1 = false) (hph : phi q ≤ 240) : pend N (q ++ [g_code 0 x y 0 0]) := by
  obtain ⟨hB, hQ, hMk, hV, -, h580⟩ := hp
  have ht : ∀ a b s, a < 6 → b < 6 → s < 3 → tg N a b s = tg F a b s := fun a b s ha hb hs => tg_low hlo ha hb hs (hh a b 1 ha hb (Or.inl rfl))
  have mono : ∀ a b, a < 6 → b < 6 → g_has F a b 4 = true → g_has N a b 4 = true := fun a b ha hb g => by
    rw [hh4 a b ha hb]
    split
    · rfl
    · exact g
  have e4 : g_has N x y 4 = true := by rw [hh4 x y hx hy, if_pos ⟨rfl, rfl⟩]
  refine ⟨pB_congr (fun k h1 h2 => hvw k (by omega) h2) hB, fun c hc => ?_, fun a b ha hb hab => ?_, fun a b s ha hb hab hz => ?_, ?_, h0.trans h580⟩
  · rcases List.mem_append.mp hc with g | g
    · obtain ⟨k, f, t, s, d, hf, ht9, hft, hs9, hd, ec, hk⟩ := hQ c g
      refine ⟨k, f, t, s, d, hf, ht9, hft, hs9, hd, ec, ?_⟩
      rw [on_low hlo hf hs9, md_low hlo hf hs9, ht t f s ht9 hf hs9, hh t f 2 ht9 hf (Or.inr (Or.inl rfl))]
      rcases hk with hk | hk | hk | ⟨k1, k2, k3, k4, k5⟩
      · exact Or.inl hk
      · exact Or.inr (Or.inl hk)
      · exact Or.inr (Or.inr (Or.inl hk))
      · exact Or.inr (Or.inr (Or.inr ⟨k1, k2, k3, k4, mono f t hf ht9 k5⟩))
    · refine ⟨0, x, y, 0, 0, hx, hy, hxy, by omega, by omega, List.mem_singleton.mp g, Or.inr (Or.inr (Or.inr ⟨rfl, rfl, rfl, ?_, e4⟩))⟩
      rw [hh y x 2 hy hx (Or.inr (Or.inl rfl)), ← (hMk x y hx hy hxy).1]
      exact hs
  · obtain ⟨m1, m2, m3⟩ := hMk a b ha hb hab
    rw [hh a b 1 ha hb (Or.inl rfl), hh b a 2 hb ha (Or.inr (Or.inl rfl)), hh b a 8 hb ha (Or.inr (Or.inr rfl))]
    refine ⟨m1, fun g => mono a b ha hb (m2 g), fun g => ?_⟩
    by_cases e : a = x ∧ b = y
    · rw [e.1, e.2]
      exact Or.inr (List.mem_append.mpr (Or.inr List.mem_cons_self))
    · rw [hh4 a b ha hb, if_neg e] at g
      exact (m3 g).imp id (fun r => List.mem_append.mpr (Or.inl r))
  · rw [hvw _ (by omega) (by omega), ht a b s ha hb hz, md_low hlo hb hz]
    rcases hV a b s ha hb hab hz with v | ⟨v1, v2⟩ | ⟨v1, v2⟩
    · exact Or.inl v
    · exact Or.inr (Or.inl ⟨v1, List.mem_append.mpr (Or.inl v2)⟩)
    · exact Or.inr (Or.inr ⟨v1, v2.imp (fun r => List.mem_append.mpr (Or.inl r)) (fun r => List.mem_append.mpr (Or.inl r))⟩)
  · rw [phi_app]
    have e : phi [g_code 0 x y 0 0] = (if g_code 0 x y 0 0 % 8 = 6 then 4 else 1) + 0 := rfl
    rw [e]
    split <;> omega
section EST
variable {M : kM} {a b : Nat}
theorem est_ask (hI : kInv M) (hc : cm M) (ha : a < 6) (hb : b < 6) (hab : a ≠ b) : pend (g_ask M a b) (g_q (g_ask M a b)) := by
  unfold g_ask
  by_cases g : g_has M a b 5 = true
  · rw [if_pos g, cm_q hc.2]
    exact hc.1
  · rw [if_neg g]
    have hJ : kInv (g_become M a b (g_st M a b ||| 4)) := i_become hI ha hb (i_s hI ha hb (F := fun x => x ||| 4) s_or4)
    have hw : wyN (g_become M a b (g_st M a b ||| 4)) = 0 := (wy_same (o_become ha hb (by omega))).trans hc.2
    have hap : g_apart (g_become M a b (g_st M a b ||| 4)) a b = false := (apart_congr (fun k _ _ => o_become ha hb (by omega)) ha hb).trans (hc.1.1 a b ha hb)
    rw [send_put hap, q_put hJ (by unfold g_code; omega) (by omega), cm_q hw]
    have g5 : g_has M a b 5 = false := by cases h : g_has M a b 5 with | true => exact absurd h g | false => rfl
    rw [has5 hI ha hb, Bool.or_eq_false_iff] at g5
    obtain ⟨s1, s2, s4, s8⟩ := hs_or4 hI ha hb
    have lo : ∀ k, k < 276 → g_put (g_become M a b (g_st M a b ||| 4)) (g_code 0 a b 0 0) k = g_become M a b (g_st M a b ||| 4) k := fun k hk => o_put hk
    refine ask_pend (F := M) hc.1 ha hb hab (fun k hk => (lo k (by omega)).trans (o_become ha hb (by omega))) (fun k h1 h2 => (lo k h2).trans (o_become ha hb (by omega))) ((put_580 hJ (by omega)).trans (o_become ha hb (by omega))) (fun x y mk hx hy hmk => ?_) (fun x y hx hy => ?_) g5.1 (by show 0 ≤ 240; omega)
    · rw [has_congr (lo _ (by omega))]
      by_cases e : x = a ∧ y = b
      · rw [e.1, e.2]
        rcases hmk with rfl | rfl | rfl
        · exact s1
        · exact s2
        · exact s8
      · exact hs_ne ha hb hx hy e
    · rw [has_congr (lo _ (by omega))]
      by_cases e : x = a ∧ y = b
      · rw [if_pos e, e.1, e.2]
        exact s4
      · rw [if_neg e]
        exact hs_ne ha hb hx hy e
theorem seeN_q {mk : Int32} {k s d : Nat} {S : kM} (hI : kInv S) (hB : pB S) (h1 : k < 7) (ha : a < 6) (h4 : s < 3) (h5 : d < 5) (h6 : k = 4 ∨ d = 0) (h7 : k = 4 ∨ k = 5 ∨ s = 0) (hw : wyN S ≤ 100) : g_q (g_seers S mk k a s d) = g_q S ++ see S mk k a s d 6 ∧ wyN (g_seers S mk k a s d) ≤ wyN S + 6 ∧ g_seers S mk k a s d 580 = S 580 := q_seersN hI hB h1 ha h4 h5 h6 h7 6 (by omega) (by omega)
theorem forgetAll_ne {k : Nat} (h : ¬ (132 + 18 * a ≤ k ∧ k < 132 + 18 * a + 18)) : g_forgetAll M a k = M k := by
  have key : ∀ n, n ≤ 6 → g_forgetAllN M a n k = M k := by
    intro n
    induction n with
    | zero => intro _; rfl
    | succ n ih =>
      intro hn
      show g_forget (g_forgetAllN M a n) a n k = M k
      rw [forget_ne (by omega)]
      exact ih (by omega)
  exact key 6 (by omega)
theorem set_ne {s k : Nat} {rk md : Int32} (h1 : k ≠ 9 * a + 3 * s) (h2 : k ≠ 1 + 9 * a + 3 * s) (h3 : k ≠ 2 + 9 * a + 3 * s) : g_set M a s rk md k = M k := (upd_ne h3).trans ((upd_ne h2).trans (upd_ne h1))
theorem set_md {s : Nat} {rk md : Int32} : g_set M a s rk md (2 + 9 * a + 3 * s) = md := upd_eq
/-- the end of turnOn: the messages of the seat's news behind those that are there -/
theorem est_on {N : kM} {q : List Nat} {s d : Nat} (hI : kInv M) (hx : ∀ x, x < 6 → M (54 + 6 * x + x) = 0) (hc : cm M) (ha : a < 6) (hs : s < 3) (hd : d < 5)
    (hlo : ∀ k, k < 54 → k ≠ 9 * a + 3 * s → k ≠ 1 + 9 * a + 3 * s → k ≠ 2 + 9 * a + 3 * s → N k = M k) (e1 : N (9 * a + 3 * s) = 1) (e2 : N (2 + 9 * a + 3 * s) = nI d) (hmk : ∀ k, 54 ≤ k → k < 90 → N k = M k) (hbl : ∀ k, 240 ≤ k → k < 276 → N k = M k) (h0 : N 580 = M 580)
    (hvx : ∀ k, 132 ≤ k → k < 240 → ¬ (132 + 18 * a ≤ k ∧ k < 132 + 18 * a + 18) → N k = M k)
    (hva : (g_there M a = true ∧ ∀ k, 132 ≤ k → k < 240 → N k = M k) ∨ ((∀ y z, y < 6 → z < 3 → N (132 + 18 * a + 3 * y + z) = -1) ∧ ∀ y, y < 6 → g_has M a y 1 = true → g_code 6 a y 0 0 ∈ q))
    (hthere : g_there N a = true) (hq4 : ∀ x, x < 6 → g_has M a x 2 = true → g_code 4 a x s d ∈ q)
    (hq : ∀ c, c ∈ q → (∃ x, x < 6 ∧ g_has M a x 2 = true ∧ c = g_code 4 a x s d) ∨ (∃ x, x < 6 ∧ g_has M a x 1 = true ∧ c = g_code 6 a x 0 0)) (hphi : phi q ≤ 250) : pend N q := by
  have hh : ∀ x y mk, x < 6 → y < 6 → g_has N x y mk = g_has M x y mk := fun x y mk hx hy => has_congr (hmk _ (by omega) (by omega))
  have hon : g_on N a s = true := decide_eq_true e1
  have hmd : g_md N a s = d := by
    unfold g_md
    rw [e2]
    exact nI_clamp (by omega)
  have hne : ∀ x mk, x < 6 → g_has M a x mk = true → a ≠ x := fun x mk hx6 g e => by
    subst e
    exact has_t g (by rw [hx a ha]; exact Int32.zero_and)
  have hlow : ∀ x, x < 6 → x ≠ a → g_there N x = g_there M x := fun x hx6 e => by
    unfold g_there
    rw [cnt_congr fun z hz => hlo _ (by omega) (by omega) (by omega) (by omega)]
  have honx : ∀ y z, y < 6 → z < 3 → ¬ (y = a ∧ z = s) → g_on N y z = g_on M y z ∧ N (2 + 9 * y + 3 * z) = M (2 + 9 * y + 3 * z) := fun y z hy hz e => by
    refine ⟨?_, hlo _ (by omega) (by omega) (by omega) (by omega)⟩
    unfold g_on
    rw [hlo _ (by omega) (by omega) (by omega) (by omega)]
  refine pend_mk (pB_congr hbl hc.1.1) (h0.trans hc.1.2.2.2.2.2) hphi (fun c hcq => ?_) (fun x y hx6 hy hxy => ?_) (fun x y z hx6 hy hxy hz => ?_)
  · rcases hq c hcq with ⟨x, h1, h2, h3⟩ | ⟨x, h1, h2, h3⟩
    · exact ⟨4, a, x, s, d, ha, h1, hne x 2 h1 h2, hs, hd, h3, Or.inl ⟨rfl, hon, hmd.symm⟩⟩
    · refine ⟨6, a, x, 0, 0, ha, h1, hne x 1 h1 h2, by omega, by omega, h3, Or.inr (Or.inr (Or.inl ⟨rfl, rfl, rfl, ?_⟩))⟩
      rw [hh x a 2 h1 ha, ← (cm_mk hc ha h1 (hne x 1 h1 h2)).1]
      exact h2
  · rw [hh x y 1 hx6 hy, hh y x 2 hy hx6, hh y x 8 hy hx6, hh x y 4 hx6 hy]
    exact cm_mk hc hx6 hy hxy
  · have hv := cm_view hc hx6 hy hxy hz
    by_cases e : x = a
    · subst e
      have hyz : ¬ (y = x ∧ z = s) := fun q => hxy q.1.symm
      obtain ⟨o1, o2⟩ := honx y z hy hz hyz
      rcases hva with ⟨t1, t2⟩ | ⟨t2, t3⟩
      · refine Or.inl ?_
        rw [t2 _ (by omega) (by omega), hv]
        unfold tg
        rw [hh x y 1 hx6 hy, hthere, t1, o1, o2]
      · rw [t2 y z hy hz]
        by_cases g : tg N x y z = -1
        · exact Or.inl g.symm
        · exact Or.inr (Or.inr ⟨g, Or.inr (t3 y hy (by rw [← hh x y 1 hx6 hy]; exact (tg_yes g).1))⟩)
    · rw [hvx _ (by omega) (by omega) (by omega), hv]
      by_cases e2' : y = a ∧ z = s
      · obtain ⟨rfl, rfl⟩ := e2'
        by_cases g : tg N x y z = -1
        · refine Or.inl ?_
          rw [g]
          refine tg_no (fun k => ?_)
          have hN : tg N x y z = nI d := by
            unfold tg
            rw [if_pos ⟨by rw [hh x y 1 hx6 hy]; exact k.1, by rw [hlow x hx6 e]; exact k.2.1, hon⟩, e2]
          rw [hN] at g
          exact nI_m1 (by omega) g
        · refine Or.inr (Or.inr ⟨g, Or.inl ?_⟩)
          rw [hmd]
          refine hq4 x hx6 ?_
          rw [← (cm_mk hc hx6 hy e).1, ← hh x y 1 hx6 hy]
          exact (tg_yes g).1
      · refine Or.inl ?_
        obtain ⟨o1, o2⟩ := honx y z hy hz e2'
        unfold tg
        rw [hh x y 1 hx6 hy, hlow x hx6 e, o1, o2]
end EST
