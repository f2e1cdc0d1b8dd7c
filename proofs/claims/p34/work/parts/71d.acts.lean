/-! each act in a calm time -/
section ACTS
variable {B a b : Nat} {M : kM}
theorem diag_of (h : oX 6 B M) (hB : B < 2 ^ 31) : ∀ x, x < 6 → M (54 + 6 * x + x) = 0 := fun _ hx => ox_diag h hx hB
theorem there_on {N : kM} {s : Nat} (hI : kInv N) (ha : a < 6) (hs : s < 3) (e : N (9 * a + 3 * s) = 1) : g_there N a = true := there_of hI ha (cnt_pos hI ha hs e)
theorem est_turnOn {s d : Nat} {rk : Int32} (h : oX 6 B M) (hB : B < 2 ^ 31) (hc : cm M) (ha : a < 6) (hs : s < 3) (hd : d < 5) : pend (g_turnOn M a s rk d) (g_q (g_turnOn M a s rk d)) := by
  have hI := h.1
  have hS := i_set hI (rk := rk) ha hs hd
  have qS : g_q (g_set M a s rk (nI d)) = [] := (q_same fun k _ _ => o_set ha hs (by omega)).trans (cm_q hc.2)
  have wS : wyN (g_set M a s rk (nI d)) = 0 := (wy_same (o_set ha hs (by omega))).trans hc.2
  have bS : pB (g_set M a s rk (nI d)) := pB_congr (fun k _ _ => o_set ha hs (by omega)) hc.1.1
  have hsS : ∀ x mk, x < 6 → g_has (g_set M a s rk (nI d)) a x mk = g_has M a x mk := fun x mk hx => has_congr (o_set ha hs (by omega))
  unfold g_turnOn
  by_cases g : g_there M a = true
  · rw [if_pos g]
    obtain ⟨e1, e2, e3⟩ := seeN_q (mk := 2) (k := 4) (s := s) (d := d) hS bS (by omega) ha hs hd (by omega) (by omega) (by omega)
    have lo : ∀ k, k < 276 → g_seers (g_set M a s rk (nI d)) 2 4 a s d k = g_set M a s rk (nI d) k := fun k hk => mk_seersN hk 6
    rw [e1, qS]
    refine est_on hI (diag_of h hB) hc ha hs hd (fun k hk n1 n2 n3 => (lo k (by omega)).trans (set_ne n1 n2 n3)) ((lo _ (by omega)).trans set_on) ((lo _ (by omega)).trans set_md) (fun k h1 h2 => (lo k (by omega)).trans (o_set ha hs h1)) (fun k h1 h2 => (lo k h2).trans (o_set ha hs (by omega))) (e3.trans (o_set ha hs (by omega))) (fun k h1 h2 _ => (lo k (by omega)).trans (o_set ha hs (by omega))) (Or.inl ⟨g, fun k h1 h2 => (lo k (by omega)).trans (o_set ha hs (by omega))⟩)
      (there_on (i_seers hS (mk := 2) (by omega) ha hs hd (by omega) (by omega)) ha hs ((lo _ (by omega)).trans set_on)) (fun x hx q => see_in (by rw [hsS x 2 hx]; exact q) 6 hx) (fun c q => ?_) ?_
    · obtain ⟨x, h1, h2, h3⟩ := see_mem 6 q
      exact Or.inl ⟨x, h1, by rw [← hsS x 2 h1]; exact h2, h3⟩
    · have := see_phi (M := g_set M a s rk (nI d)) (mk := 2) (k := 4) (a := a) (s := s) (d := d) 6
      show phi (see (g_set M a s rk (nI d)) 2 4 a s d 6) ≤ 250
      omega
  · rw [if_neg g]
    have hF := i_forgetAll hS ha
    have bF : pB (g_forgetAll (g_set M a s rk (nI d)) a) := pB_congr (fun k _ _ => o_forgetAll ha (by omega)) bS
    have wF : wyN (g_forgetAll (g_set M a s rk (nI d)) a) = 0 := (wy_same (o_forgetAll ha (by omega))).trans wS
    have qF : g_q (g_forgetAll (g_set M a s rk (nI d)) a) = [] := (q_same fun k _ _ => o_forgetAll ha (by omega)).trans qS
    obtain ⟨e1, e2, e3⟩ := seeN_q (mk := 1) (k := 6) (s := 0) (d := 0) hF bF (by omega) ha (by omega) (by omega) (by omega) (by omega) (by omega)
    have lo1 : ∀ k, k < 276 → g_seers (g_forgetAll (g_set M a s rk (nI d)) a) 1 6 a 0 0 k = g_forgetAll (g_set M a s rk (nI d)) a k := fun k hk => mk_seersN hk 6
    have hG := i_seers hF (mk := 1) (k := 6) (s := 0) (d := 0) (by omega) ha (by omega) (by omega) (by omega) (by omega)
    have bG : pB (g_seers (g_forgetAll (g_set M a s rk (nI d)) a) 1 6 a 0 0) := pB_congr (fun k _ hk => lo1 k hk) bF
    obtain ⟨f1, f2, f3⟩ := seeN_q (mk := 2) (k := 4) (s := s) (d := d) hG bG (by omega) ha hs hd (by omega) (by omega) (by omega)
    have lo2 : ∀ k, k < 276 → g_seers (g_seers (g_forgetAll (g_set M a s rk (nI d)) a) 1 6 a 0 0) 2 4 a s d k = g_forgetAll (g_set M a s rk (nI d)) a k := fun k hk => (mk_seersN hk 6).trans (lo1 k hk)
    have loF : ∀ k, k < 132 ∨ (240 ≤ k ∧ k < 276) → g_seers (g_seers (g_forgetAll (g_set M a s rk (nI d)) a) 1 6 a 0 0) 2 4 a s d k = g_set M a s rk (nI d) k := fun k hk => (lo2 k (by omega)).trans (o_forgetAll ha (by omega))
    have hs1 : ∀ x mk, x < 6 → g_has (g_forgetAll (g_set M a s rk (nI d)) a) a x mk = g_has M a x mk := fun x mk hx => (has_congr (o_forgetAll ha (by omega))).trans (hsS x mk hx)
    have hs2 : ∀ x mk, x < 6 → g_has (g_seers (g_forgetAll (g_set M a s rk (nI d)) a) 1 6 a 0 0) a x mk = g_has M a x mk := fun x mk hx => (has_congr (lo1 _ (by omega))).trans (hs1 x mk hx)
    rw [f1, e1, qF]
    refine est_on hI (diag_of h hB) hc ha hs hd (fun k hk n1 n2 n3 => (loF k (by omega)).trans (set_ne n1 n2 n3)) ((loF _ (by omega)).trans set_on) ((loF _ (by omega)).trans set_md) (fun k h1 h2 => (loF k (by omega)).trans (o_set ha hs h1)) (fun k h1 h2 => (loF k (by omega)).trans (o_set ha hs (by omega))) (f3.trans (e3.trans ((o_forgetAll ha (by omega)).trans (o_set ha hs (by omega))))) (fun k h1 h2 h3 => (lo2 k (by omega)).trans ((forgetAll_ne h3).trans (o_set ha hs (by omega))))
      (Or.inr ⟨fun y z hy hz => (lo2 _ (by omega)).trans (forgetAll_at hy hz), fun y hy q => List.mem_append.mpr (Or.inl (List.mem_append.mpr (Or.inr (see_in (by rw [hs1 y 1 hy]; exact q) 6 hy))))⟩)
      (there_on (i_seers hG (mk := 2) (by omega) ha hs hd (by omega) (by omega)) ha hs ((loF _ (by omega)).trans set_on)) (fun x hx q => List.mem_append.mpr (Or.inr (see_in (by rw [hs2 x 2 hx]; exact q) 6 hx))) (fun c q => ?_) ?_
    · rcases List.mem_append.mp q with q | q
      · rcases List.mem_append.mp q with q | q
        · exact absurd q List.not_mem_nil
        · obtain ⟨x, h1, h2, h3⟩ := see_mem 6 q
          exact Or.inr ⟨x, h1, by rw [← hs1 x 1 h1]; exact h2, h3⟩
      · obtain ⟨x, h1, h2, h3⟩ := see_mem 6 q
        exact Or.inl ⟨x, h1, by rw [← hs2 x 2 h1]; exact h2, h3⟩
    · have p1 := see_phi (M := g_forgetAll (g_set M a s rk (nI d)) a) (mk := 1) (k := 6) (a := a) (s := 0) (d := 0) 6
      have p2 := see_phi (M := g_seers (g_forgetAll (g_set M a s rk (nI d)) a) 1 6 a 0 0) (mk := 2) (k := 4) (a := a) (s := s) (d := d) 6
      rw [phi_app, phi_app]
      have p3 : phi [] = 0 := rfl
      omega
theorem est_turnOff {s : Nat} (h : oX 6 B M) (hB : B < 2 ^ 31) (hc : cm M) (ha : a < 6) (hs : s < 3) (hon : g_on M a s = true) : pend (g_turnOff M a s) (g_q (g_turnOff M a s)) := by
  have hI := h.1
  have hS : kInv (upd M (9 * a + 3 * s) 0) := i_onupd (b := false) hI (by omega)
  have qS : g_q (upd M (9 * a + 3 * s) 0) = [] := (q_same fun k _ _ => upd_ne (by omega)).trans (cm_q hc.2)
  have wS : wyN (upd M (9 * a + 3 * s) 0) = 0 := (wy_same (upd_ne (by omega))).trans hc.2
  have bS : pB (upd M (9 * a + 3 * s) 0) := pB_congr (fun k _ _ => upd_ne (by omega)) hc.1.1
  have hsS : ∀ x y mk, x < 6 → y < 6 → g_has (upd M (9 * a + 3 * s) 0) x y mk = g_has M x y mk := fun x y mk hx hy => has_congr (upd_ne (by omega))
  obtain ⟨e1, e2, e3⟩ := seeN_q (mk := 2) (k := 5) (s := s) (d := 0) hS bS (by omega) ha hs (by omega) (by omega) (by omega) (by omega)
  have lo : ∀ k, k < 276 → g_seers (upd M (9 * a + 3 * s) 0) 2 5 a s 0 k = upd M (9 * a + 3 * s) 0 k := fun k hk => mk_seersN hk 6
  have hdg := diag_of h hB
  -- what both ends have in common
  have key : ∀ N : kM, (∀ k, k < 132 ∨ (240 ≤ k ∧ k < 276) → N k = upd M (9 * a + 3 * s) 0 k) → N 580 = M 580 → g_q N = see (upd M (9 * a + 3 * s) 0) 2 5 a s 0 6 → (∀ k, 132 ≤ k → k < 240 → ¬ (132 + 18 * a ≤ k ∧ k < 132 + 18 * a + 18) → N k = M k) → ((g_there N a = true ∧ ∀ k, 132 ≤ k → k < 240 → N k = M k) ∨ (g_there N a = false ∧ ∀ y z, y < 6 → z < 3 → N (132 + 18 * a + 3 * y + z) = -1)) → pend N (g_q N) := by
    intro N l1 l2 l3 l4 l5
    rw [l3]
    have hh : ∀ x y mk, x < 6 → y < 6 → g_has N x y mk = g_has M x y mk := fun x y mk hx hy => (has_congr (l1 _ (by omega))).trans (hsS x y mk hx hy)
    have h1 : ∀ k, k < 54 → k ≠ 9 * a + 3 * s → N k = M k := fun k hk hne => (l1 k (by omega)).trans (upd_ne hne)
    have hoff : g_on N a s = false := by
      unfold g_on
      rw [l1 _ (by omega), upd_eq]
      decide
    have hlow : ∀ x, x < 6 → x ≠ a → g_there N x = g_there M x := fun x hx6 e => by
      unfold g_there
      rw [cnt_congr fun z hz => h1 _ (by omega) (by omega)]
    have honx : ∀ y z, y < 6 → z < 3 → ¬ (y = a ∧ z = s) → g_on N y z = g_on M y z ∧ N (2 + 9 * y + 3 * z) = M (2 + 9 * y + 3 * z) := fun y z hy hz e => by
      refine ⟨?_, h1 _ (by omega) (by omega)⟩
      unfold g_on
      rw [h1 _ (by omega) (by omega)]
    have htg : ∀ x, tg N x a s = -1 := fun x => tg_no fun q => by
      rw [hoff] at q
      exact absurd q.2.2 (by decide)
    have tM : g_there M a = true := there_on hI ha hs (of_decide_eq_true hon)
    refine pend_mk (pB_congr (fun k q1 q2 => l1 k (Or.inr ⟨q1, q2⟩)) bS) (l2.trans hc.1.2.2.2.2.2) (by have := see_phi (M := upd M (9 * a + 3 * s) 0) (mk := 2) (k := 5) (a := a) (s := s) (d := 0) 6; omega) (fun c hcq => ?_) (fun x y hx6 hy hxy => ?_) (fun x y z hx6 hy hxy hz => ?_)
    · obtain ⟨x, q1, q2, q3⟩ := see_mem 6 hcq
      have hne : a ≠ x := fun e => by
        subst e
        rw [hsS a a 2 ha ha] at q2
        exact has_t q2 (by rw [hdg a ha]; exact Int32.zero_and)
      exact ⟨5, a, x, s, 0, ha, q1, hne, hs, by omega, q3, Or.inr (Or.inl ⟨rfl, rfl, htg x⟩)⟩
    · rw [hh x y 1 hx6 hy, hh y x 2 hy hx6, hh y x 8 hy hx6, hh x y 4 hx6 hy]
      exact cm_mk hc hx6 hy hxy
    · have hv := cm_view hc hx6 hy hxy hz
      by_cases e : x = a
      · subst e
        obtain ⟨o1, o2⟩ := honx y z hy hz (fun q => hxy q.1.symm)
        rcases l5 with ⟨t1, t2⟩ | ⟨t1, t2⟩
        · refine Or.inl ?_
          rw [t2 _ (by omega) (by omega), hv]
          unfold tg
          rw [hh x y 1 hx6 hy, t1, tM, o1, o2]
        · refine Or.inl ?_
          rw [t2 y z hy hz]
          exact (tg_no fun q => by rw [t1] at q; exact absurd q.2.1 (by decide)).symm
      · rw [l4 _ (by omega) (by omega) (by omega), hv]
        by_cases e2 : y = a ∧ z = s
        · obtain ⟨rfl, rfl⟩ := e2
          rw [htg x]
          by_cases g : tg M x y z = -1
          · exact Or.inl g
          · refine Or.inr (Or.inl ⟨rfl, see_in ?_ 6 hx6⟩)
            rw [hsS y x 2 hy hx6, ← (cm_mk hc hx6 hy hxy).1]
            exact (tg_yes g).1
        · refine Or.inl ?_
          obtain ⟨o1, o2⟩ := honx y z hy hz e2
          unfold tg
          rw [hh x y 1 hx6 hy, hlow x hx6 e, o1, o2]
  unfold g_turnOff
  by_cases g : g_there (g_seers (upd M (9 * a + 3 * s) 0) 2 5 a s 0) a = true
  · rw [if_pos g]
    exact key _ (fun k hk => lo k (by omega)) (e3.trans (upd_ne (by omega))) (by rw [e1, qS]; rfl) (fun k h1 h2 _ => (lo k (by omega)).trans (upd_ne (by omega))) (Or.inl ⟨g, fun k h1 h2 => (lo k (by omega)).trans (upd_ne (by omega))⟩)
  · rw [if_neg g]
    have gf : g_there (g_seers (upd M (9 * a + 3 * s) 0) 2 5 a s 0) a = false := by cases q : g_there (g_seers (upd M (9 * a + 3 * s) 0) 2 5 a s 0) a with | true => exact absurd q g | false => rfl
    refine key _ (fun k hk => (o_forgetAll ha (by omega)).trans (lo k (by omega))) ((o_forgetAll ha (by omega)).trans (e3.trans (upd_ne (by omega)))) (by rw [q_same (fun k _ _ => o_forgetAll ha (by omega)), e1, qS]; rfl) (fun k h1 h2 h3 => (forgetAll_ne h3).trans ((lo k (by omega)).trans (upd_ne (by omega)))) (Or.inr ⟨?_, fun y z hy hz => forgetAll_at hy hz⟩)
    rw [there_low (fun k hk => o_forgetAll ha (by omega)) ha]
    exact gf
end ACTS
