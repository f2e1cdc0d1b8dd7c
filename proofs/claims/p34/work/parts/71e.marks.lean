/-! stop, refuse and grant in a calm time: calm again after the first message has arrived -/
section MARKS
variable {B a b : Nat} {M : kM}
theorem bfalse {x : Bool} (h : ¬ x = true) : x = false := by cases x with | true => exact absurd rfl h | false => rfl
/-- what is left of the marks of two memories that differ in a pair alone -/
theorem est_stop (hI : kInv M) (hc : cm M) (ha : a < 6) (hb : b < 6) (hab : a ≠ b) (h5 : g_has M a b 5 = true) : 0 < wyN (g_stop M a b) ∧ pend (stp (g_stop M a b)) (g_q (stp (g_stop M a b))) := by
  have hba := Ne.symm hab
  have hP : kInv (g_become M a b (g_st M a b &&& (-6))) := i_become hI ha hb (i_s hI ha hb (F := fun x => x &&& (-6)) s_m6)
  have wP : wyN (g_become M a b (g_st M a b &&& (-6))) = 0 := (wy_same (o_become ha hb (by omega))).trans hc.2
  have aP : g_apart (g_become M a b (g_st M a b &&& (-6))) a b = false := (apart_congr (fun k _ _ => o_become ha hb (by omega)) ha hb).trans (hc.1.1 a b ha hb)
  have eN : g_stop M a b = g_forget (g_put (g_become M a b (g_st M a b &&& (-6))) (g_code 2 a b 0 0)) a b := by
    unfold g_stop
    rw [if_pos h5, send_put aP]
  have qN : g_q (g_stop M a b) = [g_code 2 a b 0 0] := by
    rw [eN, q_same (fun k _ _ => o_forget ha hb (by omega)), q_put hP (by unfold g_code; omega) (by omega), cm_q wP]
    rfl
  have hN : kInv (g_stop M a b) := i_stop hI ha hb
  obtain ⟨hw, hm, hq⟩ := head_of hN qN
  refine ⟨hw, ?_⟩
  -- the memory as the message has been taken
  have lo : ∀ k, k < 276 → g_take (g_stop M a b) k = g_forget (g_become M a b (g_st M a b &&& (-6))) a b k := fun k hk => by
    rw [o_take (by omega), eN]
    by_cases e : 132 + 18 * a + 3 * b ≤ k ∧ k < 132 + 18 * a + 3 * b + 3
    · obtain ⟨z, hz, rfl⟩ : ∃ z, z < 3 ∧ k = 132 + 18 * a + 3 * b + z := ⟨k - (132 + 18 * a + 3 * b), by omega, by omega⟩
      rw [forget_at hz, forget_at hz]
    · rw [forget_ne e, forget_ne e, o_put hk]
  have hT : kInv (g_take (g_stop M a b)) := i_take hN hw
  have hsT : ∀ x y mk, x < 6 → y < 6 → g_has (g_take (g_stop M a b)) x y mk = g_has (g_become M a b (g_st M a b &&& (-6))) x y mk := fun x y mk hx hy => has_congr ((lo _ (by omega)).trans (o_forget ha hb (by omega)))
  have hneT : ∀ x y mk, x < 6 → y < 6 → ¬ (x = a ∧ y = b) → g_has (g_take (g_stop M a b)) x y mk = g_has M x y mk := fun x y mk hx hy e => (hsT x y mk hx hy).trans (hs_ne ha hb hx hy e)
  obtain ⟨t1, t2, t4, t8⟩ := hs_m6 hI ha hb
  have bT : pB (g_take (g_stop M a b)) := pB_congr (fun k h1 h2 => (lo k h2).trans ((o_forget ha hb (by omega)).trans (o_become ha hb (by omega)))) hc.1.1
  obtain ⟨c1, c2⟩ := cm_mk hc ha hb hab
  obtain ⟨c3, c4⟩ := cm_mk hc hb ha hba
  have h10 : g_has (g_take (g_stop M a b)) b a 10 = true := by
    rw [has10 hT hb ha, hneT b a 2 hb ha (fun q => hab q.2), hneT b a 8 hb ha (fun q => hab q.2), ← c1, c2, ← has5 hI ha hb]
    exact h5
  have eF : stp (g_stop M a b) = g_hide (g_become (g_take (g_stop M a b)) b a (g_st (g_take (g_stop M a b)) b a &&& (-11))) b a := by
    unfold stp
    rw [hm]
    exact arr_2 ha hb (bT a b ha hb) h10
  have hT580 : g_take (g_stop M a b) 580 = M 580 := by rw [o_take (by omega), eN, o_forget ha hb (by omega), put_580 hP (by omega), o_become ha hb (by omega)]
  generalize g_take (g_stop M a b) = T at *
  have hJ : kInv (g_become T b a (g_st T b a &&& (-11))) := i_become hT hb ha (i_s hT hb ha (F := fun x => x &&& (-11)) s_m11)
  have bJ : pB (g_become T b a (g_st T b a &&& (-11))) := pB_congr (fun k _ _ => o_become hb ha (by omega)) bT
  have qJ : g_q (g_become T b a (g_st T b a &&& (-11))) = [] := (q_same fun k _ _ => o_become hb ha (by omega)).trans hq
  have wJ : wyN (g_become T b a (g_st T b a &&& (-11))) = 0 := by rw [← len_q, qJ]; rfl
  obtain ⟨f1, -, f3⟩ := q_hideN hJ bJ hb ha 3 (by omega) (by omega)
  have loF : ∀ k, k < 276 → g_hide (g_become T b a (g_st T b a &&& (-11))) b a k = g_become T b a (g_st T b a &&& (-11)) k := fun k hk => mk_hideN hk 3
  rw [eF]
  show pend (g_hide (g_become T b a (g_st T b a &&& (-11))) b a) (g_q (g_hideN (g_become T b a (g_st T b a &&& (-11))) b a 3))
  rw [f1, qJ]
  obtain ⟨s1, s2, s4, s8⟩ := hs_m11 hT hb ha
  have hF : ∀ x y mk, x < 6 → y < 6 → g_has (g_hide (g_become T b a (g_st T b a &&& (-11))) b a) x y mk = g_has (g_become T b a (g_st T b a &&& (-11))) x y mk := fun x y mk hx hy => has_congr (loF _ (by omega))
  have hFne : ∀ x y mk, x < 6 → y < 6 → ¬ (x = a ∧ y = b) → ¬ (x = b ∧ y = a) → g_has (g_hide (g_become T b a (g_st T b a &&& (-11))) b a) x y mk = g_has M x y mk := fun x y mk hx hy e1 e2 => (hF x y mk hx hy).trans ((hs_ne hb ha hx hy e2).trans (hneT x y mk hx hy e1))
  have hFab : ∀ mk, g_has (g_hide (g_become T b a (g_st T b a &&& (-11))) b a) a b mk = g_has (g_become M a b (g_st M a b &&& (-6))) a b mk := fun mk => (hF a b mk ha hb).trans ((hs_ne hb ha ha hb (fun q => hab q.1)).trans (hsT a b mk ha hb))
  have low : ∀ k, k < 54 → g_hide (g_become T b a (g_st T b a &&& (-11))) b a k = M k := fun k hk => (loF k (by omega)).trans ((o_become hb ha (by omega)).trans ((lo k (by omega)).trans ((o_forget ha hb (by omega)).trans (o_become ha hb (by omega)))))
  refine pend_mk (pB_congr (fun k _ hk => loF k hk) bJ) (f3.trans ((o_become hb ha (by omega)).trans (hT580.trans hc.1.2.2.2.2.2))) (by have := shw_phi (M := g_become T b a (g_st T b a &&& (-11))) (a := b) (b := a) (d := fun _ => 0) (Or.inr rfl) 3; show phi ([] ++ _) ≤ 250; rw [List.nil_append]; omega) (fun c hcq => ?_) (agree2 hc ha hb hab hFne ?_ ?_ ?_ ?_) (fun x y z hx hy hxy hz => Or.inl ?_)
  · obtain ⟨z, q1, q2, q3⟩ := shw_mem 3 hcq
    exact ⟨5, b, a, z, 0, hb, ha, hba, q1, by omega, q3, Or.inr (Or.inl ⟨rfl, rfl, tg_no fun q => by rw [hFab, t1] at q; exact absurd q.1 (by decide)⟩)⟩
  · rw [hFab, t1, hF b a 2 hb ha, s2]
  · rw [hFab, t4, hF b a 8 hb ha, s8]
  · rw [hFab, t2, hF b a 1 hb ha, s1, hneT b a 1 hb ha (fun q => hab q.2)]
    exact c3
  · rw [hFab, t8, hF b a 4 hb ha, s4, hneT b a 4 hb ha (fun q => hab q.2)]
    exact c4
  · by_cases e : x = a ∧ y = b
    · rw [e.1, e.2, loF _ (by omega), o_become hb ha (by omega), lo _ (by omega), forget_at hz]
      exact (tg_no fun q => by rw [hFab, t1] at q; exact absurd q.1 (by decide)).symm
    · rw [loF _ (by omega), o_become hb ha (by omega), lo _ (by omega), forget_ne (by omega), o_become ha hb (by omega), cm_view hc hx hy hxy hz]
      refine (tg_low low hx hy hz ?_).symm
      by_cases e2 : x = b ∧ y = a
      · rw [e2.1, e2.2, hF b a 1 hb ha, s1, hneT b a 1 hb ha (fun q => hab q.2)]
      · exact hFne x y 1 hx hy e e2
theorem est_refuse (hI : kInv M) (hc : cm M) (ha : a < 6) (hb : b < 6) (hab : a ≠ b) (h10 : g_has M a b 10 = true) : 0 < wyN (g_refuse M a b) ∧ pend (stp (g_refuse M a b)) (g_q (stp (g_refuse M a b))) := by
  have hba := Ne.symm hab
  have hP : kInv (g_become M a b (g_st M a b &&& (-11))) := i_become hI ha hb (i_s hI ha hb (F := fun x => x &&& (-11)) s_m11)
  have wP : wyN (g_become M a b (g_st M a b &&& (-11))) = 0 := (wy_same (o_become ha hb (by omega))).trans hc.2
  have bP : pB (g_become M a b (g_st M a b &&& (-11))) := pB_congr (fun k _ _ => o_become ha hb (by omega)) hc.1.1
  have aP := bP a b ha hb
  have hR : kInv (g_put (g_become M a b (g_st M a b &&& (-11))) (g_code 3 a b 0 0)) := by
    rw [← send_put aP]
    exact i_send hP (by omega) ha hb (by omega) (by omega) (by omega) (by omega)
  have qR : g_q (g_put (g_become M a b (g_st M a b &&& (-11))) (g_code 3 a b 0 0)) = [g_code 3 a b 0 0] := by
    rw [q_put hP (by unfold g_code; omega) (by omega), cm_q wP]
    rfl
  have wR : wyN (g_put (g_become M a b (g_st M a b &&& (-11))) (g_code 3 a b 0 0)) = 1 := by rw [← len_q, qR]; rfl
  have bR : pB (g_put (g_become M a b (g_st M a b &&& (-11))) (g_code 3 a b 0 0)) := pB_congr (fun k _ hk => o_put hk) bP
  have zR : g_put (g_become M a b (g_st M a b &&& (-11))) (g_code 3 a b 0 0) 580 = M 580 := (put_580 hP (by omega)).trans (o_become ha hb (by omega))
  have eN : g_refuse M a b = if g_has M a b 2 = true then g_hide (g_put (g_become M a b (g_st M a b &&& (-11))) (g_code 3 a b 0 0)) a b else g_put (g_become M a b (g_st M a b &&& (-11))) (g_code 3 a b 0 0) := by
    unfold g_refuse
    rw [if_pos h10, send_put aP]
  have hN : kInv (g_refuse M a b) := i_refuse hI ha hb
  have key : ∃ l, g_q (g_refuse M a b) = g_code 3 a b 0 0 :: l ∧ phi l ≤ 3 ∧ (∀ c, c ∈ l → ∃ z, z < 3 ∧ c = g_code 5 a b z 0) ∧ g_refuse M a b 580 = M 580 ∧ ∀ k, k < 276 → g_refuse M a b k = g_become M a b (g_st M a b &&& (-11)) k := by
    rw [eN]
    by_cases g : g_has M a b 2 = true
    · rw [if_pos g]
      obtain ⟨e1, -, e3⟩ := q_hideN hR bR ha hb 3 (by omega) (by omega)
      refine ⟨shw (g_put (g_become M a b (g_st M a b &&& (-11))) (g_code 3 a b 0 0)) 5 a b (fun _ => 0) 3, ?_, shw_phi (Or.inr rfl) 3, fun c hcq => ?_, e3.trans zR, fun k hk => (mk_hideN hk 3).trans (o_put hk)⟩
      · show g_q (g_hideN _ a b 3) = _
        rw [e1, qR]
        rfl
      · obtain ⟨z, q1, -, q3⟩ := shw_mem 3 hcq
        exact ⟨z, q1, q3⟩
    · rw [if_neg g]
      exact ⟨[], qR, by show 0 ≤ 3; omega, fun c hcq => absurd hcq List.not_mem_nil, zR, fun k hk => o_put hk⟩
  obtain ⟨l, qN, hl, hmem, hN580, lo0⟩ := key
  obtain ⟨hw, hm, hq⟩ := head_of hN qN
  refine ⟨hw, ?_⟩
  have lo : ∀ k, k < 276 → g_take (g_refuse M a b) k = g_become M a b (g_st M a b &&& (-11)) k := fun k hk => (o_take (by omega)).trans (lo0 k hk)
  have hT580 : g_take (g_refuse M a b) 580 = M 580 := (o_take (by omega)).trans hN580
  have hT : kInv (g_take (g_refuse M a b)) := i_take hN hw
  have hsT : ∀ x y mk, x < 6 → y < 6 → g_has (g_take (g_refuse M a b)) x y mk = g_has (g_become M a b (g_st M a b &&& (-11))) x y mk := fun x y mk hx hy => has_congr (lo _ (by omega))
  have hneT : ∀ x y mk, x < 6 → y < 6 → ¬ (x = a ∧ y = b) → g_has (g_take (g_refuse M a b)) x y mk = g_has M x y mk := fun x y mk hx hy e => (hsT x y mk hx hy).trans (hs_ne ha hb hx hy e)
  obtain ⟨t1, t2, t4, t8⟩ := hs_m11 hI ha hb
  have bT : pB (g_take (g_refuse M a b)) := pB_congr (fun k _ h2 => lo k h2) bP
  obtain ⟨c1, c2⟩ := cm_mk hc ha hb hab
  have eF : stp (g_refuse M a b) = g_forget (g_become (g_take (g_refuse M a b)) b a (g_st (g_take (g_refuse M a b)) b a &&& (-6))) b a := by
    unfold stp
    rw [hm]
    exact arr_3 ha hb (bT a b ha hb)
  generalize g_take (g_refuse M a b) = T at *
  obtain ⟨s1, s2, s4, s8⟩ := hs_m6 hT hb ha
  have qF : g_q (g_forget (g_become T b a (g_st T b a &&& (-6))) b a) = l := by
    rw [q_same (fun k _ _ => o_forget hb ha (by omega)), q_same (fun k _ _ => o_become hb ha (by omega))]
    exact hq
  have hF : ∀ x y mk, x < 6 → y < 6 → g_has (g_forget (g_become T b a (g_st T b a &&& (-6))) b a) x y mk = g_has (g_become T b a (g_st T b a &&& (-6))) x y mk := fun x y mk hx hy => has_congr (o_forget hb ha (by omega))
  have hFne : ∀ x y mk, x < 6 → y < 6 → ¬ (x = a ∧ y = b) → ¬ (x = b ∧ y = a) → g_has (g_forget (g_become T b a (g_st T b a &&& (-6))) b a) x y mk = g_has M x y mk := fun x y mk hx hy e1 e2 => (hF x y mk hx hy).trans ((hs_ne hb ha hx hy e2).trans (hneT x y mk hx hy e1))
  have hFab : ∀ mk, g_has (g_forget (g_become T b a (g_st T b a &&& (-6))) b a) a b mk = g_has (g_become M a b (g_st M a b &&& (-11))) a b mk := fun mk => (hF a b mk ha hb).trans ((hs_ne hb ha ha hb (fun q => hab q.1)).trans (hsT a b mk ha hb))
  have low : ∀ k, k < 54 → g_forget (g_become T b a (g_st T b a &&& (-6))) b a k = M k := fun k hk => (o_forget hb ha (by omega)).trans ((o_become hb ha (by omega)).trans ((lo k (by omega)).trans (o_become ha hb (by omega))))
  have hno : ∀ z, tg (g_forget (g_become T b a (g_st T b a &&& (-6))) b a) b a z = -1 := fun z => tg_no fun q => by rw [hF b a 1 hb ha, s1] at q; exact absurd q.1 (by decide)
  rw [eF, qF]
  refine pend_mk (pB_congr (fun k _ hk => (o_forget hb ha (by omega)).trans (o_become hb ha (by omega))) bT) ((o_forget hb ha (by omega)).trans ((o_become hb ha (by omega)).trans (hT580.trans hc.1.2.2.2.2.2))) (by omega) (fun c hcq => ?_) (agree2 hc ha hb hab hFne ?_ ?_ ?_ ?_) (fun x y z hx hy hxy hz => Or.inl ?_)
  · obtain ⟨z, q1, q3⟩ := hmem c hcq
    exact ⟨5, a, b, z, 0, ha, hb, hab, q1, by omega, q3, Or.inr (Or.inl ⟨rfl, rfl, hno z⟩)⟩
  · rw [hFab, t1, hF b a 2 hb ha, s2, hneT b a 2 hb ha (fun q => hab q.2)]
    exact c1
  · rw [hFab, t4, hF b a 8 hb ha, s8, hneT b a 8 hb ha (fun q => hab q.2)]
    exact c2
  · rw [hFab, t2, hF b a 1 hb ha, s1]
  · rw [hFab, t8, hF b a 4 hb ha, s4]
  · by_cases e : x = b ∧ y = a
    · rw [e.1, e.2, forget_at hz, hno z]
    · rw [forget_ne (by omega), o_become hb ha (by omega), lo _ (by omega), o_become ha hb (by omega), cm_view hc hx hy hxy hz]
      refine (tg_low low hx hy hz ?_).symm
      by_cases e2 : x = a ∧ y = b
      · rw [e2.1, e2.2, hFab, t1]
      · exact hFne x y 1 hx hy e2 e
/-- what a grant does, up to the arrival of its first message -/
theorem est_grant (h : oX 6 B M) (hc : cm M) (ha : a < 6) (hb : b < 6) (hab : a ≠ b) (h8 : g_has M a b 8 = true) : ∃ l, g_q (g_grant M a b) = g_code 1 a b 0 0 :: l ∧ phi l ≤ 3 ∧ stp (g_grant M a b) = g_become (g_take (g_grant M a b)) b a ((g_st (g_take (g_grant M a b)) b a &&& (-5)) ||| 1) ∧ g_q (stp (g_grant M a b)) = l ∧ pend (stp (g_grant M a b)) l ∧ (∀ k, k < 276 → g_grant M a b k = g_become M a b ((g_st M a b &&& (-9)) ||| 2) k) ∧ g_grant M a b 580 = M 580 ∧ g_has (g_grant M a b) b a 4 = true := by
  have hI := h.1
  have hba := Ne.symm hab
  have hP : kInv (g_become M a b ((g_st M a b &&& (-9)) ||| 2)) := i_become hI ha hb (i_s hI ha hb (F := fun x => (x &&& (-9)) ||| 2) s_m9)
  have wP : wyN (g_become M a b ((g_st M a b &&& (-9)) ||| 2)) = 0 := (wy_same (o_become ha hb (by omega))).trans hc.2
  have bP : pB (g_become M a b ((g_st M a b &&& (-9)) ||| 2)) := pB_congr (fun k _ _ => o_become ha hb (by omega)) hc.1.1
  have aP := bP a b ha hb
  have hR : kInv (g_put (g_become M a b ((g_st M a b &&& (-9)) ||| 2)) (g_code 1 a b 0 0)) := by
    rw [← send_put aP]
    exact i_send hP (by omega) ha hb (by omega) (by omega) (by omega) (by omega)
  have qR : g_q (g_put (g_become M a b ((g_st M a b &&& (-9)) ||| 2)) (g_code 1 a b 0 0)) = [g_code 1 a b 0 0] := by
    rw [q_put hP (by unfold g_code; omega) (by omega), cm_q wP]
    rfl
  have wR : wyN (g_put (g_become M a b ((g_st M a b &&& (-9)) ||| 2)) (g_code 1 a b 0 0)) = 1 := by rw [← len_q, qR]; rfl
  have bR : pB (g_put (g_become M a b ((g_st M a b &&& (-9)) ||| 2)) (g_code 1 a b 0 0)) := pB_congr (fun k _ hk => o_put hk) bP
  have zR : g_put (g_become M a b ((g_st M a b &&& (-9)) ||| 2)) (g_code 1 a b 0 0) 580 = M 580 := (put_580 hP (by omega)).trans (o_become ha hb (by omega))
  have eN : g_grant M a b = g_show (g_put (g_become M a b ((g_st M a b &&& (-9)) ||| 2)) (g_code 1 a b 0 0)) a b := by
    unfold g_grant
    rw [if_pos h8, send_put aP]
  have hN : kInv (g_grant M a b) := i_grant hI ha hb
  obtain ⟨e1, -, e3⟩ := q_showN hR bR ha hb 3 (by omega) (by omega)
  have lR : ∀ k, k < 54 → g_put (g_become M a b ((g_st M a b &&& (-9)) ||| 2)) (g_code 1 a b 0 0) k = M k := fun k hk => (o_put (by omega)).trans (o_become ha hb (by omega))
  have qN : g_q (g_grant M a b) = g_code 1 a b 0 0 :: shw (g_put (g_become M a b ((g_st M a b &&& (-9)) ||| 2)) (g_code 1 a b 0 0)) 4 a b (g_md (g_put (g_become M a b ((g_st M a b &&& (-9)) ||| 2)) (g_code 1 a b 0 0)) a) 3 := by
    rw [eN]
    show g_q (g_showN _ a b 3) = _
    rw [e1, qR]
    rfl
  have hN580 : g_grant M a b 580 = M 580 := by rw [eN]; exact e3.trans zR
  have lo0 : ∀ k, k < 276 → g_grant M a b k = g_become M a b ((g_st M a b &&& (-9)) ||| 2) k := fun k hk => by rw [eN]; exact (mk_showN hk 3).trans (o_put hk)
  have hl := shw_phi (M := g_put (g_become M a b ((g_st M a b &&& (-9)) ||| 2)) (g_code 1 a b 0 0)) (a := a) (b := b) (d := g_md (g_put (g_become M a b ((g_st M a b &&& (-9)) ||| 2)) (g_code 1 a b 0 0)) a) (Or.inl rfl) 3
  obtain ⟨hw, hm, hq⟩ := head_of hN qN
  have lo : ∀ k, k < 276 → g_take (g_grant M a b) k = g_become M a b ((g_st M a b &&& (-9)) ||| 2) k := fun k hk => (o_take (by omega)).trans (lo0 k hk)
  have hT580 : g_take (g_grant M a b) 580 = M 580 := (o_take (by omega)).trans hN580
  have hT : kInv (g_take (g_grant M a b)) := i_take hN hw
  have hsT : ∀ x y mk, x < 6 → y < 6 → g_has (g_take (g_grant M a b)) x y mk = g_has (g_become M a b ((g_st M a b &&& (-9)) ||| 2)) x y mk := fun x y mk hx hy => has_congr (lo _ (by omega))
  have hneT : ∀ x y mk, x < 6 → y < 6 → ¬ (x = a ∧ y = b) → g_has (g_take (g_grant M a b)) x y mk = g_has M x y mk := fun x y mk hx hy e => (hsT x y mk hx hy).trans (hs_ne ha hb hx hy e)
  obtain ⟨t1, t2, t4, t8⟩ := hs_m9 hI ha hb
  have bT : pB (g_take (g_grant M a b)) := pB_congr (fun k _ h2 => lo k h2) bP
  obtain ⟨c1, c2⟩ := cm_mk hc ha hb hab
  obtain ⟨c3, c4⟩ := cm_mk hc hb ha hba
  have m4 : g_has M b a 4 = true := by rw [← c4]; exact h8
  have m1 : g_has M b a 1 = false := mk14 hI h.2.1 hb ha m4
  have eF : stp (g_grant M a b) = g_become (g_take (g_grant M a b)) b a ((g_st (g_take (g_grant M a b)) b a &&& (-5)) ||| 1) := by
    unfold stp
    rw [hm]
    exact arr_1 ha hb (bT a b ha hb) ((hneT b a 4 hb ha (fun q => hab q.2)).trans m4)
  have n4 : g_has (g_grant M a b) b a 4 = true := by
    rw [has_congr (lo0 _ (by omega)), hs_ne ha hb hb ha (fun q => hab q.2)]
    exact m4
  refine ⟨_, qN, hl, eF, ?_, ?_, lo0, hN580, n4⟩
  · rw [eF, q_same (fun k _ _ => o_become hb ha (by omega))]
    exact hq
  rw [eF]
  generalize g_take (g_grant M a b) = T at *
  obtain ⟨s1, s2, s4, s8⟩ := hs_m5 hT hb ha
  have hFne : ∀ x y mk, x < 6 → y < 6 → ¬ (x = a ∧ y = b) → ¬ (x = b ∧ y = a) → g_has (g_become T b a ((g_st T b a &&& (-5)) ||| 1)) x y mk = g_has M x y mk := fun x y mk hx hy e1 e2 => (hs_ne hb ha hx hy e2).trans (hneT x y mk hx hy e1)
  have hFab : ∀ mk, g_has (g_become T b a ((g_st T b a &&& (-5)) ||| 1)) a b mk = g_has (g_become M a b ((g_st M a b &&& (-9)) ||| 2)) a b mk := fun mk => (hs_ne hb ha ha hb (fun q => hab q.1)).trans (hsT a b mk ha hb)
  have low : ∀ k, k < 54 → g_become T b a ((g_st T b a &&& (-5)) ||| 1) k = M k := fun k hk => (o_become hb ha (by omega)).trans ((lo k (by omega)).trans (o_become ha hb (by omega)))
  have vw : ∀ k, 132 ≤ k → k < 276 → g_become T b a ((g_st T b a &&& (-5)) ||| 1) k = M k := fun k h1 h2 => (o_become hb ha (by omega)).trans ((lo k h2).trans (o_become ha hb (by omega)))
  refine pend_mk (pB_congr (fun k h1 h2 => vw k (by omega) h2) hc.1.1) ((o_become hb ha (by omega)).trans (hT580.trans hc.1.2.2.2.2.2)) (by omega) (fun c hcq => ?_) (agree2 hc ha hb hab hFne ?_ ?_ ?_ ?_) (fun x y z hx hy hxy hz => ?_)
  · obtain ⟨z, q1, q2, q3⟩ := shw_mem 3 hcq
    rw [on_low lR ha q1] at q2
    rw [md_low lR ha q1] at q3
    exact ⟨4, a, b, z, g_md M a z, ha, hb, hab, q1, i_mdlt hI ha q1, q3, Or.inl ⟨rfl, (on_low low ha q1).trans q2, (md_low low ha q1).symm⟩⟩
  · rw [hFab, t1, s2, hneT b a 2 hb ha (fun q => hab q.2)]
    exact c1
  · rw [hFab, t4, s8, hneT b a 8 hb ha (fun q => hab q.2)]
    exact c2
  · rw [hFab, t2, s1]
  · rw [hFab, t8, s4]
  · rw [vw _ (by omega) (by omega), cm_view hc hx hy hxy hz]
    by_cases e : x = b ∧ y = a
    · obtain ⟨rfl, rfl⟩ := e
      have g1 : tg M x y z = -1 := tg_no fun q => by rw [m1] at q; exact absurd q.1 (by decide)
      by_cases g : tg (g_become T x y ((g_st T x y &&& (-5)) ||| 1)) x y z = -1
      · rw [g, g1]
        exact Or.inl rfl
      · refine Or.inr (Or.inr ⟨g, Or.inl ?_⟩)
        have o1 := (tg_yes g).2.2
        rw [on_low low ha hz] at o1
        rw [md_low low ha hz, ← md_low lR ha hz]
        exact shw_in ((on_low lR ha hz).trans o1) 3 hz
    · refine Or.inl (tg_low low hx hy hz ?_).symm
      by_cases e2 : x = a ∧ y = b
      · rw [e2.1, e2.2, hFab, t1]
      · exact hFne x y 1 hx hy e2 e
end MARKS
