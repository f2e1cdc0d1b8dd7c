/-! one message arrives in a calm time -/
theorem pend_low {M N : kM} {q : List Nat} (h : ∀ k, k < 276 → N k = M k) (h0 : N 580 = M 580) (hp : pend M q) : pend N q := by
  obtain ⟨hB, hQ, hMk, hV, hphi, h580⟩ := hp
  have hs : sm M N := sm_low fun k hk => h k (by omega)
  have hh : ∀ a b mk, a < 6 → b < 6 → g_has N a b mk = g_has M a b mk := fun a b mk ha hb => has_congr (h _ (by omega))
  refine ⟨pB_congr (fun k _ hk => h k hk) hB, fun c hc => sm_msg hs (hQ c hc), fun a b ha hb hab => ?_, fun a b s ha hb hab hz => ?_, hphi, h0.trans h580⟩
  · rw [hh a b 1 ha hb, hh b a 2 hb ha, hh b a 8 hb ha, hh a b 4 ha hb]
    exact hMk a b ha hb hab
  · rw [h _ (by omega), sm_tg hs ha hb hz, sm_md hs hb hz]
    exact hV a b s ha hb hab hz
theorem bec_has {M : kM} {a b x y : Nat} {t mk : Int32} (ha : a < 6) (hb : b < 6) (hx : x < 6) (hy : y < 6) : g_has (g_become M a b t) x y mk = if x = a ∧ y = b then decide (¬ t &&& mk = 0) else g_has M x y mk := by
  by_cases e : x = a ∧ y = b
  · rw [if_pos e, e.1, e.2]
    unfold g_has
    rw [bec_st ha hb]
  · rw [if_neg e]
    exact has_congr (bec_ne (by omega) (by omega) (by omega))
theorem or8_k : ∀ n, n < 16 → decide (¬ (nI n ||| 8) &&& 1 = 0) = decide (¬ nI n &&& 1 = 0) ∧ decide (¬ (nI n ||| 8) &&& 2 = 0) = decide (¬ nI n &&& 2 = 0) ∧ decide (¬ (nI n ||| 8) &&& 4 = 0) = decide (¬ nI n &&& 4 = 0) ∧ decide (¬ (nI n ||| 8) &&& 8 = 0) = true := by decide
theorem or4_k : ∀ n, n < 16 → decide (¬ (nI n ||| 4) &&& 1 = 0) = decide (¬ nI n &&& 1 = 0) ∧ decide (¬ (nI n ||| 4) &&& 2 = 0) = decide (¬ nI n &&& 2 = 0) ∧ decide (¬ (nI n ||| 4) &&& 4 = 0) = true ∧ decide (¬ (nI n ||| 4) &&& 8 = 0) = decide (¬ nI n &&& 8 = 0) := by decide
theorem m5_k : ∀ n, n < 16 → decide (¬ ((nI n &&& (-5)) ||| 1) &&& 1 = 0) = true ∧ decide (¬ ((nI n &&& (-5)) ||| 1) &&& 2 = 0) = decide (¬ nI n &&& 2 = 0) ∧ decide (¬ ((nI n &&& (-5)) ||| 1) &&& 4 = 0) = false ∧ decide (¬ ((nI n &&& (-5)) ||| 1) &&& 8 = 0) = decide (¬ nI n &&& 8 = 0) := by decide
theorem m9_k : ∀ n, n < 16 → decide (¬ ((nI n &&& (-9)) ||| 2) &&& 1 = 0) = decide (¬ nI n &&& 1 = 0) ∧ decide (¬ ((nI n &&& (-9)) ||| 2) &&& 2 = 0) = true ∧ decide (¬ ((nI n &&& (-9)) ||| 2) &&& 4 = 0) = decide (¬ nI n &&& 4 = 0) ∧ decide (¬ ((nI n &&& (-9)) ||| 2) &&& 8 = 0) = false := by decide
theorem m11_k : ∀ n, n < 16 → decide (¬ (nI n &&& (-11)) &&& 1 = 0) = decide (¬ nI n &&& 1 = 0) ∧ decide (¬ (nI n &&& (-11)) &&& 2 = 0) = false ∧ decide (¬ (nI n &&& (-11)) &&& 4 = 0) = decide (¬ nI n &&& 4 = 0) ∧ decide (¬ (nI n &&& (-11)) &&& 8 = 0) = false := by decide
theorem m6_k : ∀ n, n < 16 → decide (¬ (nI n &&& (-6)) &&& 1 = 0) = false ∧ decide (¬ (nI n &&& (-6)) &&& 2 = 0) = decide (¬ nI n &&& 2 = 0) ∧ decide (¬ (nI n &&& (-6)) &&& 4 = 0) = false ∧ decide (¬ (nI n &&& (-6)) &&& 8 = 0) = decide (¬ nI n &&& 8 = 0) := by decide
section HS
variable {M : kM} {a b : Nat}
/-- the four marks of an entry that changes -/
theorem hs_or8 (h : kInv M) (ha : a < 6) (hb : b < 6) : g_has (g_become M a b (g_st M a b ||| 8)) a b 1 = g_has M a b 1 ∧ g_has (g_become M a b (g_st M a b ||| 8)) a b 2 = g_has M a b 2 ∧ g_has (g_become M a b (g_st M a b ||| 8)) a b 4 = g_has M a b 4 ∧ g_has (g_become M a b (g_st M a b ||| 8)) a b 8 = true := by
  obtain ⟨n, hn, e⟩ := i_st h ha hb
  simp only [bec_has ha hb ha hb, and_self, if_true]
  unfold g_has g_st
  rw [e]
  exact or8_k n hn
theorem hs_or4 (h : kInv M) (ha : a < 6) (hb : b < 6) : g_has (g_become M a b (g_st M a b ||| 4)) a b 1 = g_has M a b 1 ∧ g_has (g_become M a b (g_st M a b ||| 4)) a b 2 = g_has M a b 2 ∧ g_has (g_become M a b (g_st M a b ||| 4)) a b 4 = true ∧ g_has (g_become M a b (g_st M a b ||| 4)) a b 8 = g_has M a b 8 := by
  obtain ⟨n, hn, e⟩ := i_st h ha hb
  simp only [bec_has ha hb ha hb, and_self, if_true]
  unfold g_has g_st
  rw [e]
  exact or4_k n hn
theorem hs_m5 (h : kInv M) (ha : a < 6) (hb : b < 6) : g_has (g_become M a b ((g_st M a b &&& (-5)) ||| 1)) a b 1 = true ∧ g_has (g_become M a b ((g_st M a b &&& (-5)) ||| 1)) a b 2 = g_has M a b 2 ∧ g_has (g_become M a b ((g_st M a b &&& (-5)) ||| 1)) a b 4 = false ∧ g_has (g_become M a b ((g_st M a b &&& (-5)) ||| 1)) a b 8 = g_has M a b 8 := by
  obtain ⟨n, hn, e⟩ := i_st h ha hb
  simp only [bec_has ha hb ha hb, and_self, if_true]
  unfold g_has g_st
  rw [e]
  exact m5_k n hn
theorem hs_m9 (h : kInv M) (ha : a < 6) (hb : b < 6) : g_has (g_become M a b ((g_st M a b &&& (-9)) ||| 2)) a b 1 = g_has M a b 1 ∧ g_has (g_become M a b ((g_st M a b &&& (-9)) ||| 2)) a b 2 = true ∧ g_has (g_become M a b ((g_st M a b &&& (-9)) ||| 2)) a b 4 = g_has M a b 4 ∧ g_has (g_become M a b ((g_st M a b &&& (-9)) ||| 2)) a b 8 = false := by
  obtain ⟨n, hn, e⟩ := i_st h ha hb
  simp only [bec_has ha hb ha hb, and_self, if_true]
  unfold g_has g_st
  rw [e]
  exact m9_k n hn
theorem hs_m11 (h : kInv M) (ha : a < 6) (hb : b < 6) : g_has (g_become M a b (g_st M a b &&& (-11))) a b 1 = g_has M a b 1 ∧ g_has (g_become M a b (g_st M a b &&& (-11))) a b 2 = false ∧ g_has (g_become M a b (g_st M a b &&& (-11))) a b 4 = g_has M a b 4 ∧ g_has (g_become M a b (g_st M a b &&& (-11))) a b 8 = false := by
  obtain ⟨n, hn, e⟩ := i_st h ha hb
  simp only [bec_has ha hb ha hb, and_self, if_true]
  unfold g_has g_st
  rw [e]
  exact m11_k n hn
theorem hs_m6 (h : kInv M) (ha : a < 6) (hb : b < 6) : g_has (g_become M a b (g_st M a b &&& (-6))) a b 1 = false ∧ g_has (g_become M a b (g_st M a b &&& (-6))) a b 2 = g_has M a b 2 ∧ g_has (g_become M a b (g_st M a b &&& (-6))) a b 4 = false ∧ g_has (g_become M a b (g_st M a b &&& (-6))) a b 8 = g_has M a b 8 := by
  obtain ⟨n, hn, e⟩ := i_st h ha hb
  simp only [bec_has ha hb ha hb, and_self, if_true]
  unfold g_has g_st
  rw [e]
  exact m6_k n hn
theorem hs_ne {x y : Nat} {t mk : Int32} (ha : a < 6) (hb : b < 6) (hx : x < 6) (hy : y < 6) (e : ¬ (x = a ∧ y = b)) : g_has (g_become M a b t) x y mk = g_has M x y mk := (bec_has ha hb hx hy).trans (if_neg e)
end HS
/-- a memory that differs in one view alone -/
theorem arr_view {M : kM} {c : Nat} {q : List Nat} {f t s : Nat} {x : Int32} (hp : pend M (c :: q)) (hf : f < 6) (ht : t < 6) (hft : f ≠ t) (hs : s < 3) (hx : x = tg M t f s)
    (hc6 : c % 8 ≠ 6 ∧ c % 8 ≠ 0) (hc4 : ∀ a b z d : Nat, a < 6 → b < 6 → z < 3 → (c = g_code 4 b a z d ∨ c = g_code 5 b a z d) → a = t ∧ b = f ∧ z = s) : pend (upd M (132 + 18 * t + 3 * f + s) x) q ∧ sm M (upd M (132 + 18 * t + 3 * f + s) x) := by
  obtain ⟨hB, hQ, hMk, hV, hphi, h580⟩ := hp
  have hsm : sm M (upd M (132 + 18 * t + 3 * f + s) x) := sm_low fun k hk => upd_ne (by omega)
  have hh : ∀ a b mk, a < 6 → b < 6 → g_has (upd M (132 + 18 * t + 3 * f + s) x) a b mk = g_has M a b mk := fun a b mk ha hb => has_congr (upd_ne (by omega))
  have hph : phi q ≤ 250 := by
    have : phi (c :: q) = (if c % 8 = 6 then 4 else 1) + phi q := rfl
    omega
  refine ⟨⟨pB_congr (fun k _ _ => upd_ne (by omega)) hB, fun y hy => sm_msg hsm (hQ y (List.mem_cons_of_mem _ hy)), fun a b ha hb hab => ?_, fun a b z ha hb hab hz => ?_, hph, (upd_ne (by omega)).trans h580⟩, hsm⟩
  · rw [hh a b 1 ha hb, hh b a 2 hb ha, hh b a 8 hb ha, hh a b 4 ha hb]
    obtain ⟨m1, m2, m3⟩ := hMk a b ha hb hab
    refine ⟨m1, m2, fun g => (m3 g).imp id (fun r => mem_tl r (fun e => ?_))⟩
    rw [← e] at hc6
    unfold g_code at hc6
    omega
  · rw [sm_tg hsm ha hb hz, sm_md hsm hb hz]
    by_cases e : a = t ∧ b = f ∧ z = s
    · obtain ⟨rfl, rfl, rfl⟩ := e
      rw [upd_eq]
      exact Or.inl hx
    · rw [upd_ne (by omega)]
      rcases hV a b z ha hb hab hz with v | ⟨v1, v2⟩ | ⟨v1, v2⟩
      · exact Or.inl v
      · exact Or.inr (Or.inl ⟨v1, mem_tl v2 (fun g => e (hc4 a b z 0 ha hb hz (Or.inr g.symm)))⟩)
      · refine Or.inr (Or.inr ⟨v1, v2.imp (fun r => mem_tl r (fun g => e (hc4 a b z _ ha hb hz (Or.inl g.symm)))) (fun r => mem_tl r (fun g => ?_))⟩)
        rw [← g] at hc6
        unfold g_code at hc6
        omega
/-- a message that does nothing, for the view is right without it -/
theorem arr_none {M : kM} {c : Nat} {q : List Nat} {f t s d : Nat} (hp : pend M (c :: q)) (hf : f < 6) (ht : t < 6) (hs : s < 3) (ec : c = g_code 4 f t s d) (ht1 : tg M t f s = -1) : pend M q ∧ sm M M := by
  obtain ⟨hB, hQ, hMk, hV, hphi, h580⟩ := hp
  have hph : phi q ≤ 250 := by
    have : phi (c :: q) = (if c % 8 = 6 then 4 else 1) + phi q := rfl
    omega
  refine ⟨⟨hB, fun y hy => hQ y (List.mem_cons_of_mem _ hy), fun a b ha hb hab => ?_, fun a b z ha hb hab hz => ?_, hph, h580⟩, sm_refl⟩
  · obtain ⟨m1, m2, m3⟩ := hMk a b ha hb hab
    refine ⟨m1, m2, fun g => (m3 g).imp id (fun r => mem_tl r (fun e => ?_))⟩
    rw [ec] at e
    unfold g_code at e
    omega
  · rcases hV a b z ha hb hab hz with v | ⟨v1, v2⟩ | ⟨v1, v2⟩
    · exact Or.inl v
    · refine Or.inr (Or.inl ⟨v1, mem_tl v2 (fun g => ?_)⟩)
      rw [ec] at g
      unfold g_code at g
      omega
    · refine Or.inr (Or.inr ⟨v1, v2.imp (fun r => mem_tl r (fun g => ?_)) (fun r => mem_tl r (fun g => ?_))⟩)
      · rw [ec] at g
        obtain ⟨-, g1, g2, g3, -⟩ := code_inj (by omega) hb ha hz (by omega) hf ht hs g
        subst g1
        subst g2
        subst g3
        exact v1 ht1
      · rw [ec] at g
        unfold g_code at g
        omega
theorem arr_ask {M : kM} {c : Nat} {q : List Nat} {f t : Nat} (hI : kInv M) (hp : pend M (c :: q)) (hf : f < 6) (ht : t < 6) (hft : f ≠ t) (ec : c = g_code 0 f t 0 0) (hak : g_has M f t 4 = true) : pend (g_become M t f (g_st M t f ||| 8)) q ∧ sm M (g_become M t f (g_st M t f ||| 8)) := by
  obtain ⟨hB, hQ, hMk, hV, hphi, h580⟩ := hp
  obtain ⟨s1, s2, s4, s8⟩ := hs_or8 hI ht hf
  have hne : ∀ x y mk, x < 6 → y < 6 → ¬ (x = t ∧ y = f) → g_has (g_become M t f (g_st M t f ||| 8)) x y mk = g_has M x y mk := fun x y mk hx hy e => hs_ne ht hf hx hy e
  have hh : ∀ x y, x < 6 → y < 6 → g_has (g_become M t f (g_st M t f ||| 8)) x y 1 = g_has M x y 1 ∧ g_has (g_become M t f (g_st M t f ||| 8)) x y 2 = g_has M x y 2 ∧ g_has (g_become M t f (g_st M t f ||| 8)) x y 4 = g_has M x y 4 := fun x y hx hy => by
    by_cases e : x = t ∧ y = f
    · obtain ⟨rfl, rfl⟩ := e
      exact ⟨s1, s2, s4⟩
    · exact ⟨hne x y 1 hx hy e, hne x y 2 hx hy e, hne x y 4 hx hy e⟩
  have hsm : sm M (g_become M t f (g_st M t f ||| 8)) := ⟨fun k hk => o_become ht hf (by omega), hh⟩
  have hph : phi q ≤ 250 := by
    have : phi (c :: q) = (if c % 8 = 6 then 4 else 1) + phi q := rfl
    omega
  refine ⟨⟨pB_congr (fun k _ _ => o_become ht hf (by omega)) hB, fun y hy => sm_msg hsm (hQ y (List.mem_cons_of_mem _ hy)), fun a b ha hb hab => ?_, fun a b z ha hb hab hz => ?_, hph, (o_become ht hf (by omega)).trans h580⟩, hsm⟩
  · obtain ⟨m1, m2, m3⟩ := hMk a b ha hb hab
    rw [(hh a b ha hb).1, (hh b a hb ha).2.1, (hh a b ha hb).2.2]
    by_cases e : b = t ∧ a = f
    · obtain ⟨rfl, rfl⟩ := e
      exact ⟨m1, fun _ => hak, fun _ => Or.inl s8⟩
    · rw [hne b a 8 hb ha e]
      refine ⟨m1, m2, fun g => (m3 g).imp id (fun r => mem_tl r (fun g2 => ?_))⟩
      rw [ec] at g2
      obtain ⟨-, g3, g4, -, -⟩ := code_inj (by omega) ha hb (by omega) (by omega) hf ht (by omega) g2
      exact e ⟨g4, g3⟩
  · rw [sm_tg hsm ha hb hz, sm_md hsm hb hz, o_become ht hf (by omega)]
    rcases hV a b z ha hb hab hz with v | ⟨v1, v2⟩ | ⟨v1, v2⟩
    · exact Or.inl v
    · refine Or.inr (Or.inl ⟨v1, mem_tl v2 (fun g => ?_)⟩)
      rw [ec] at g
      unfold g_code at g
      omega
    · refine Or.inr (Or.inr ⟨v1, v2.imp (fun r => mem_tl r (fun g => ?_)) (fun r => mem_tl r (fun g => ?_))⟩)
      · rw [ec] at g
        unfold g_code at g
        omega
      · rw [ec] at g
        unfold g_code at g
        omega
theorem arr_probe {M : kM} {c : Nat} {f t : Nat} (hI : kInv M) (hp : pend M (c :: g_q M)) (hf : f < 6) (ht : t < 6) (hft : f ≠ t) (ec : c = g_code 6 f t 0 0) : pend (g_show M t f) (g_q (g_show M t f)) ∧ sm M (g_show M t f) := by
  obtain ⟨hB, hQ, hMk, hV, hphi, h580⟩ := hp
  have hph : 4 + phi (g_q M) ≤ 250 := by
    have e : phi (c :: g_q M) = (if c % 8 = 6 then 4 else 1) + phi (g_q M) := rfl
    have e2 : c % 8 = 6 := by rw [ec]; unfold g_code; omega
    rw [if_pos e2] at e
    omega
  have hl := phi_len (g_q M)
  rw [len_q] at hl
  obtain ⟨eq2, -, e580⟩ := q_showN hI hB ht hf 3 (by omega) (by omega)
  have lo : ∀ k, k < 276 → g_show M t f k = M k := fun k hk => mk_showN hk 3
  have hsm : sm M (g_show M t f) := sm_low fun k hk => lo k (by omega)
  have hh : ∀ a b mk, a < 6 → b < 6 → g_has (g_show M t f) a b mk = g_has M a b mk := fun a b mk ha hb => has_congr (lo _ (by omega))
  have hsp := shw_phi (M := M) (a := t) (b := f) (d := g_md M t) (Or.inl rfl) 3
  show pend (g_show M t f) (g_q (g_showN M t f 3)) ∧ sm M (g_show M t f)
  rw [eq2]
  have left : ∀ x, x ∈ c :: g_q M → x ≠ c → x ∈ g_q M ++ shw M 4 t f (g_md M t) 3 := fun x hx hne => List.mem_append.mpr (Or.inl (mem_tl hx hne))
  refine ⟨⟨pB_congr (fun k _ hk => lo k hk) hB, fun y hy => ?_, fun a b ha hb hab => ?_, fun a b z ha hb hab hz => ?_, by rw [phi_app]; omega, e580.trans h580⟩, hsm⟩
  · rcases List.mem_append.mp hy with g | g
    · exact sm_msg hsm (hQ y (List.mem_cons_of_mem _ g))
    · obtain ⟨s, h1, h2, h3⟩ := shw_mem 3 g
      exact ⟨4, t, f, s, g_md M t s, ht, hf, Ne.symm hft, h1, i_mdlt hI ht h1, h3, Or.inl ⟨rfl, (sm_on hsm ht h1).trans h2, (sm_md hsm ht h1).symm⟩⟩
  · rw [hh a b 1 ha hb, hh b a 2 hb ha, hh b a 8 hb ha, hh a b 4 ha hb]
    obtain ⟨m1, m2, m3⟩ := hMk a b ha hb hab
    refine ⟨m1, m2, fun g => (m3 g).imp id (fun r => left _ r (fun e => ?_))⟩
    rw [ec] at e
    unfold g_code at e
    omega
  · rw [lo _ (by omega), sm_tg hsm ha hb hz, sm_md hsm hb hz]
    rcases hV a b z ha hb hab hz with v | ⟨v1, v2⟩ | ⟨v1, v2⟩
    · exact Or.inl v
    · refine Or.inr (Or.inl ⟨v1, left _ v2 (fun g => ?_)⟩)
      rw [ec] at g
      unfold g_code at g
      omega
    · refine Or.inr (Or.inr ⟨v1, ?_⟩)
      rcases v2 with r | r
      · refine Or.inl (left _ r (fun g => ?_))
        rw [ec] at g
        unfold g_code at g
        omega
      · by_cases g : g_code 6 a b 0 0 = c
        · rw [ec] at g
          obtain ⟨-, g1, g2, -, -⟩ := code_inj (by omega) ha hb (by omega) (by omega) hf ht (by omega) g
          subst g1
          subst g2
          exact Or.inl (List.mem_append.mpr (Or.inr (shw_in (tg_yes v1).2.2 3 hz)))
        · exact Or.inr (left _ r g)
theorem arr_pend {M : kM} {c : Nat} (hI : kInv M) (hp : pend M (c :: g_q M)) : pend (g_arrive M c) (g_q (g_arrive M c)) ∧ sm M (g_arrive M c) := by
  obtain ⟨k, f, t, s, d, hf, ht, hft, hs, hd, ec, hk⟩ := hp.2.1 c List.mem_cons_self
  have hap : g_apart M f t = false := hp.1 f t hf ht
  rcases hk with ⟨rfl, hon, hdm⟩ | ⟨rfl, rfl, ht5⟩ | ⟨rfl, rfl, rfl, hsn⟩ | ⟨rfl, rfl, rfl, hns, hak⟩
  · have key : ∀ a b z d' : Nat, a < 6 → b < 6 → z < 3 → (c = g_code 4 b a z d' ∨ c = g_code 5 b a z d') → a = t ∧ b = f ∧ z = s := fun a b z d' ha hb hz q => by
      rw [ec] at q
      rcases q with q | q
      · obtain ⟨-, g1, g2, g3, -⟩ := code_inj (by omega) hf ht hs (by omega) hb ha hz q
        exact ⟨g2.symm, g1.symm, g3.symm⟩
      · unfold g_code at q
        omega
    have e2 : g_arrive M c = if g_has M t f 1 = true ∧ g_there M t = true then upd M (132 + 18 * t + 3 * f + s) (nI d) else M := by rw [ec]; exact arr_4 hf ht hs hap
    rw [e2]
    by_cases g : g_has M t f 1 = true ∧ g_there M t = true
    · rw [if_pos g, q_same (fun k _ _ => upd_ne (by omega))]
      refine arr_view hp hf ht hft hs ?_ ⟨?_, ?_⟩ key
      · unfold tg
        rw [if_pos ⟨g.1, g.2, hon⟩, i_md hI hf hs, hdm]
      · rw [ec]; unfold g_code; omega
      · rw [ec]; unfold g_code; omega
    · rw [if_neg g]
      exact arr_none hp hf ht hs ec (tg_no fun q => g ⟨q.1, q.2.1⟩)
  · have key : ∀ a b z d' : Nat, a < 6 → b < 6 → z < 3 → (c = g_code 4 b a z d' ∨ c = g_code 5 b a z d') → a = t ∧ b = f ∧ z = s := fun a b z d' ha hb hz q => by
      rw [ec] at q
      rcases q with q | q
      · unfold g_code at q
        omega
      · obtain ⟨-, g1, g2, g3, -⟩ := code_inj (by omega) hf ht hs (by omega) hb ha hz q
        exact ⟨g2.symm, g1.symm, g3.symm⟩
    have e2 : g_arrive M c = upd M (132 + 18 * t + 3 * f + s) (-1) := by rw [ec]; exact arr_5 hf ht hs hap
    rw [e2, q_same (fun k _ _ => upd_ne (by omega))]
    refine arr_view hp hf ht hft hs ht5.symm ⟨?_, ?_⟩ key
    · rw [ec]; unfold g_code; omega
    · rw [ec]; unfold g_code; omega
  · have e2 : g_arrive M c = g_show M t f := by rw [ec]; exact arr_6 hf ht hap hsn
    rw [e2]
    exact arr_probe hI hp hf ht hft ec
  · have e2 : g_arrive M c = g_become M t f (g_st M t f ||| 8) := by rw [ec]; exact arr_0 hf ht hap hns
    rw [e2, q_same (fun k _ _ => o_become ht hf (by omega))]
    exact arr_ask hI hp hf ht hft ec hak
theorem pend_step {M : kM} (hI : kInv M) (hp : pend M (g_q M)) (hw : 0 < wyN M) : pend (g_arrive (g_take M) (g_msg M 0)) (g_q (g_arrive (g_take M) (g_msg M 0))) ∧ sm M (g_arrive (g_take M) (g_msg M 0)) := by
  have lo : ∀ k, k < 276 → g_take M k = M k := fun k hk => o_take (by omega)
  have h1 : pend (g_take M) (g_msg M 0 :: g_q (g_take M)) := by
    rw [← q_take hI hw]
    exact pend_low lo (o_take (by omega)) hp
  obtain ⟨h2, h3⟩ := arr_pend (i_take hI hw) h1
  exact ⟨h2, sm_trans (sm_low fun k hk => lo k (by omega)) h3⟩
theorem pend_del : ∀ (n : Nat) {M : kM}, kInv M → pend M (g_q M) → pend (g_del n M) (g_q (g_del n M)) ∧ sm M (g_del n M)
  | 0, _, _, hp => ⟨hp, sm_refl⟩
  | n + 1, M, hI, hp => by
    unfold g_del
    split
    · exact ⟨hp, sm_refl⟩
    · obtain ⟨h1, h2⟩ := pend_step hI hp (by omega)
      obtain ⟨h3, h4⟩ := pend_del n (i_step hI (by omega)) h1
      exact ⟨h3, sm_trans h2 h4⟩
