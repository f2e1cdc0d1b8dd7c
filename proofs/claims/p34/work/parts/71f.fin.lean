/-! the end of the law: counts, and many messages -/
theorem put_579 {M : kM} {c : Nat} : g_put M c 579 = M 579 := by
  unfold g_put
  split
  · exact (upd_ne (by omega)).trans (upd_ne (by omega))
  · have hh : (hdN M + wyN M) % 300 < 300 := Nat.mod_lt _ (by omega)
    exact (upd_ne (by omega)).trans ((upd_ne (by omega)).trans (upd_ne (by omega)))
theorem send_579 {M : kM} {k f t s d : Nat} : g_send M k f t s d 579 = M 579 := by
  unfold g_send
  split
  · rfl
  · exact put_579
theorem showN_579 {M : kM} {a b : Nat} : ∀ n, g_showN M a b n 579 = M 579
  | 0 => rfl
  | n + 1 => by
    unfold g_showN
    split
    · exact send_579.trans (showN_579 n)
    · exact showN_579 n
theorem hideN_579 {M : kM} {a b : Nat} : ∀ n, g_hideN M a b n 579 = M 579
  | 0 => rfl
  | n + 1 => by
    unfold g_hideN
    split
    · exact send_579.trans (hideN_579 n)
    · exact hideN_579 n
theorem seersN_579 {M : kM} {mk : Int32} {k a s d : Nat} : ∀ n, g_seersN M mk k a s d n 579 = M 579
  | 0 => rfl
  | n + 1 => by
    unfold g_seersN
    split
    · exact send_579.trans (seersN_579 n)
    · exact seersN_579 n
theorem show_579 {M : kM} {a b : Nat} : g_show M a b 579 = M 579 := showN_579 3
theorem hide_579 {M : kM} {a b : Nat} : g_hide M a b 579 = M 579 := hideN_579 3
theorem seers_579 {M : kM} {mk : Int32} {k a s d : Nat} : g_seers M mk k a s d 579 = M 579 := seersN_579 6
theorem arrive_579 {M : kM} {c : Nat} (hc : kMsg (nI c)) (hlt : c < 2 ^ 31) : g_arrive M c 579 = M 579 := by
  obtain ⟨k, f, t, s, d, h1, h2, h3, h4, h5, h6, h7, h8⟩ := hc
  have ec : c = g_code k f t s d := (nI_eq hlt (by unfold g_code; omega)).mp h8
  obtain ⟨e1, e2, e3, e4, e5⟩ := code_parts (d := d) h1 h2 h3 h4
  unfold g_arrive
  rw [ec, e1, e2, e3, e4, e5]
  split
  · rfl
  split
  · split
    · exact show_579.trans send_579
    · exact o_become h3 h2 (by omega)
  split
  · split
    · exact o_become h3 h2 (by omega)
    · rfl
  split
  · split
    · exact hide_579.trans (o_become h3 h2 (by omega))
    · rfl
  split
  · exact (o_forget h3 h2 (by omega)).trans (o_become h3 h2 (by omega))
  split
  · split
    · exact upd_ne (by omega)
    · rfl
  split
  · exact upd_ne (by omega)
  · split
    · exact show_579
    · exact send_579
theorem step_579 {M : kM} (h : kInv M) : g_arrive (g_take M) (g_msg M 0) 579 = M 579 + 1 := (arrive_579 (i_msg h 0).1 (i_msglt h 0)).trans upd_eq
theorem del_579 : ∀ (n : Nat) {M : kM}, kInv M → g_del n M 579 = M 579 + nI (g_delC n M)
  | 0, M, _ => (Int32.add_zero _).symm
  | n + 1, M, h => by
    unfold g_del g_delC
    split
    · exact (Int32.add_zero _).symm
    · rename_i hw
      rw [del_579 n (i_step h (by omega)), step_579 h, nI_succ, Int32.add_assoc, Int32.add_comm 1]
section OPS9
variable {M : kM} {a b s : Nat}
theorem ask_579 (ha : a < 6) (hb : b < 6) : g_ask M a b 579 = M 579 := by
  unfold g_ask
  split
  · rfl
  · exact send_579.trans (o_become ha hb (by omega))
theorem grant_579 (ha : a < 6) (hb : b < 6) : g_grant M a b 579 = M 579 := by
  unfold g_grant
  split
  · exact show_579.trans (send_579.trans (o_become ha hb (by omega)))
  · rfl
theorem refuse_579 (ha : a < 6) (hb : b < 6) : g_refuse M a b 579 = M 579 := by
  unfold g_refuse
  split
  · split
    · exact hide_579.trans (send_579.trans (o_become ha hb (by omega)))
    · exact send_579.trans (o_become ha hb (by omega))
  · rfl
theorem stop_579 (ha : a < 6) (hb : b < 6) : g_stop M a b 579 = M 579 := by
  unfold g_stop
  split
  · exact (o_forget ha hb (by omega)).trans (send_579.trans (o_become ha hb (by omega)))
  · rfl
theorem turnOn_579 {rk : Int32} {d : Nat} (ha : a < 6) (hs : s < 3) : g_turnOn M a s rk d 579 = M 579 := by
  unfold g_turnOn
  split
  · exact seers_579.trans (o_set ha hs (by omega))
  · exact seers_579.trans (seers_579.trans ((o_forgetAll ha (by omega)).trans (o_set ha hs (by omega))))
theorem turnOff_579 (ha : a < 6) (hs : s < 3) : g_turnOff M a s 579 = M 579 := by
  unfold g_turnOff
  split
  · exact seers_579.trans (upd_ne (by omega))
  · exact (o_forgetAll ha (by omega)).trans (seers_579.trans (upd_ne (by omega)))
end OPS9
-- a grant on the way, and an ask behind it
section GST
variable {B a b : Nat} {M : kM}
theorem ask_has {x y : Nat} {mk : Int32} (ha : a < 6) (hb : b < 6) (hx : x < 6) (hy : y < 6) (e : ¬ (x = a ∧ y = b)) : g_has (g_ask M a b) x y mk = g_has M x y mk := by
  unfold g_ask
  split
  · rfl
  · exact (has_congr (o_send (by omega))).trans (hs_ne ha hb hx hy e)
theorem ask_set (hI : kInv M) (ha : a < 6) (hb : b < 6) : g_has (g_ask M a b) a b 1 = true ∨ g_has (g_ask M a b) a b 4 = true := by
  unfold g_ask
  split
  · rename_i g
    rw [has5 hI ha hb, Bool.or_eq_true] at g
    exact g
  · refine Or.inr ((has_congr (o_send (by omega))).trans (hs_or4 hI ha hb).2.2.1)
theorem ask_stp {x : Nat} (h : oX 6 B M) (hc : cm M) (ha : a < 6) (hb : b < 6) (hab : a ≠ b) (hx : x < 6) (hxa : x ≠ a) (hxb : x ≠ b) (h8 : g_has M a b 8 = true) : 0 < wyN (g_ask (g_grant M a b) x a) ∧ pend (stp (g_ask (g_grant M a b) x a)) (g_q (stp (g_ask (g_grant M a b) x a))) ∧ ∀ u v mk, u < 6 → v < 6 → ¬ (u = b ∧ v = a) → g_has (stp (g_ask (g_grant M a b) x a)) u v mk = g_has (g_ask (g_grant M a b) x a) u v mk := by
  obtain ⟨l, qG, hl, eF, qF, pF, lo0, z0, n4⟩ := est_grant h hc ha hb hab h8
  have hG : kInv (g_grant M a b) := i_grant h.1 ha hb
  have bG : pB (g_grant M a b) := pB_congr (fun k h1 h2 => (lo0 k h2).trans (o_become ha hb (by omega))) hc.1.1
  obtain ⟨wG, mG, tG⟩ := head_of hG qG
  have wl : wyN (g_grant M a b) ≤ 4 := by
    have e := len_q (M := g_grant M a b)
    rw [qG] at e
    have e2 := phi_len l
    have e3 : (g_code 1 a b 0 0 :: l).length = l.length + 1 := rfl
    omega
  have tk : ∀ N : kM, ∀ u v mk, u < 6 → v < 6 → g_has (g_take N) u v mk = g_has N u v mk := fun N u v mk hu hv => has_congr (o_take (by omega))
  generalize g_grant M a b = G at *
  by_cases g5 : g_has G x a 5 = true
  · have eA : g_ask G x a = G := if_pos g5
    rw [eA]
    refine ⟨wG, by rw [qF]; exact pF, fun u v mk hu hv e => ?_⟩
    rw [eF, hs_ne hb ha hu hv e]
    exact tk G u v mk hu hv
  · have hJ : kInv (g_become G x a (g_st G x a ||| 4)) := i_become hG hx ha (i_s hG hx ha (F := fun x => x ||| 4) s_or4)
    have bJ : pB (g_become G x a (g_st G x a ||| 4)) := pB_congr (fun k _ _ => o_become hx ha (by omega)) bG
    have wJ : wyN (g_become G x a (g_st G x a ||| 4)) ≤ 4 := by rw [wy_same (o_become hx ha (by omega))]; exact wl
    have eA : g_ask G x a = g_put (g_become G x a (g_st G x a ||| 4)) (g_code 0 x a 0 0) := by
      unfold g_ask
      rw [if_neg g5, send_put (bJ x a hx ha)]
    have hA : kInv (g_ask G x a) := i_ask hG hx ha
    have qA : g_q (g_ask G x a) = g_code 1 a b 0 0 :: (l ++ [g_code 0 x a 0 0]) := by
      rw [eA, q_put hJ (by unfold g_code; omega) (by omega), q_same (fun k _ _ => o_become hx ha (by omega)), qG]
      rfl
    obtain ⟨wA, mA, tA⟩ := head_of hA qA
    have loA : ∀ k, k < 276 → g_ask G x a k = g_become G x a (g_st G x a ||| 4) k := fun k hk => by rw [eA]; exact o_put hk
    have zA : g_ask G x a 580 = G 580 := by rw [eA, put_580 hJ (by omega)]; exact o_become hx ha (by omega)
    have hsA : ∀ u v mk, u < 6 → v < 6 → g_has (g_ask G x a) u v mk = g_has (g_become G x a (g_st G x a ||| 4)) u v mk := fun u v mk hu hv => has_congr (loA _ (by omega))
    have hba : ¬ (b = x ∧ a = a) := fun q => hxb q.1.symm
    have bT : g_apart (g_take (g_ask G x a)) a b = false := (apart_congr (fun k h1 h2 => (o_take (by omega)).trans ((loA k h2).trans (o_become hx ha (by omega)))) ha hb).trans (bG a b ha hb)
    have eS : stp (g_ask G x a) = g_become (g_take (g_ask G x a)) b a ((g_st (g_take (g_ask G x a)) b a &&& (-5)) ||| 1) := by
      unfold stp
      rw [mA]
      exact arr_1 ha hb bT ((tk _ b a 4 hb ha).trans ((hsA b a 4 hb ha).trans ((hs_ne hx ha hb ha hba).trans n4)))
    have est : g_st (g_take (g_ask G x a)) b a = g_st (g_take G) b a := by
      unfold g_st
      rw [o_take (by omega), o_take (by omega), loA _ (by omega)]
      exact bec_ne (by omega) (by omega) (by omega)
    obtain ⟨s1, s2, s4, s8⟩ := hs_or4 hG hx ha
    refine ⟨wA, ?_, fun u v mk hu hv e => ?_⟩
    · have qS : g_q (stp (g_ask G x a)) = l ++ [g_code 0 x a 0 0] := by
        rw [eS, q_same (fun k _ _ => o_become hb ha (by omega))]
        exact tA
      rw [qS, eS, est]
      have loT : ∀ k, (k < 54 ∨ (132 ≤ k ∧ k < 276)) → g_become (g_take (g_ask G x a)) b a ((g_st (g_take G) b a &&& (-5)) ||| 1) k = stp G k := fun k hk => by
        rw [eF, o_become hb ha (by omega), o_become hb ha (by omega), o_take (by omega), o_take (by omega), loA k (by omega)]
        exact o_become hx ha (by omega)
      refine ask_pend pF hx ha hxa (fun k hk => loT k (Or.inl hk)) (fun k h1 h2 => loT k (Or.inr ⟨h1, h2⟩)) ?_ (fun u v mk hu hv hmk => ?_) (fun u v hu hv => ?_) ?_ (by omega)
      · rw [eF, o_become hb ha (by omega), o_become hb ha (by omega), o_take (by omega), o_take (by omega)]
        exact zA
      · rw [eF, bec_has hb ha hu hv, bec_has hb ha hu hv]
        by_cases e : u = b ∧ v = a
        · rw [if_pos e, if_pos e]
        · rw [if_neg e, if_neg e, tk _ u v mk hu hv, tk _ u v mk hu hv, hsA u v mk hu hv]
          by_cases e2 : u = x ∧ v = a
          · rw [e2.1, e2.2]
            rcases hmk with rfl | rfl | rfl
            · exact s1
            · exact s2
            · exact s8
          · exact hs_ne hx ha hu hv e2
      · rw [eF, bec_has hb ha hu hv, bec_has hb ha hu hv]
        by_cases e : u = b ∧ v = a
        · rw [if_pos e, if_pos e, if_neg (fun q => hxb (q.1.symm.trans e.1))]
        · rw [if_neg e, if_neg e, tk _ u v 4 hu hv, tk _ u v 4 hu hv, hsA u v 4 hu hv]
          by_cases e2 : u = x ∧ v = a
          · rw [if_pos e2, e2.1, e2.2]
            exact s4
          · rw [if_neg e2]
            exact hs_ne hx ha hu hv e2
      · have g9 := bfalse g5
        rw [has5 hG hx ha, Bool.or_eq_false_iff] at g9
        rw [eF, hs_ne hb ha hx ha (fun q => hxb q.1), tk G x a 1 hx ha]
        exact g9.1
    · rw [eS, hs_ne hb ha hu hv e]
      exact tk _ u v mk hu hv
/-- calm, or a grant of user 0 on the way to b -/
def gst (b : Nat) (M : kM) : Prop := cm M ∨ ∃ (M0 : kM) (B0 : Nat), oX 6 B0 M0 ∧ cm M0 ∧ 1 ≤ b ∧ g_has M0 0 b 8 = true ∧ M = g_grant M0 0 b
theorem cm_del {n : Nat} (hI : kInv M) (hp : pend M (g_q M)) (h : wyN (g_del n M) = 0) : cm (g_del n M) := by
  have h1 := (pend_del n hI hp).1
  rw [cm_q h] at h1
  exact ⟨h1, h⟩
theorem gst_next (h : oX 6 B M) (hg : gst b M) (hb : b < 5) : cm (g_del 1000 (g_ask M (b + 1) 0)) ∧ (∀ j, 1 ≤ j → j ≤ b → g_has M 0 j 2 = true → g_has (g_del 1000 (g_ask M (b + 1) 0)) 0 j 2 = true) ∧ (g_has (g_del 1000 (g_ask M (b + 1) 0)) 0 (b + 1) 2 = true ∨ g_has (g_del 1000 (g_ask M (b + 1) 0)) 0 (b + 1) 8 = true) := by
  have hA : kInv (g_ask M (b + 1) 0) := i_ask h.1 (by omega) (by omega)
  have hr := rest_ok hA
  have hset := ask_set (a := b + 1) (b := 0) h.1 (by omega) (by omega)
  have key : cm (g_del 1000 (g_ask M (b + 1) 0)) ∧ (∀ j, 1 ≤ j → j < 6 → g_has (g_del 1000 (g_ask M (b + 1) 0)) 0 j 2 = g_has (g_ask M (b + 1) 0) 0 j 2) ∧ g_has (g_del 1000 (g_ask M (b + 1) 0)) (b + 1) 0 1 = g_has (g_ask M (b + 1) 0) (b + 1) 0 1 ∧ g_has (g_del 1000 (g_ask M (b + 1) 0)) (b + 1) 0 4 = g_has (g_ask M (b + 1) 0) (b + 1) 0 4 := by
    rcases hg with hc | ⟨M0, B0, g1, g2, g3, g4, g5⟩
    · have hp := est_ask h.1 hc (a := b + 1) (b := 0) (by omega) (by omega) (by omega)
      have hs := (pend_del 1000 hA hp).2
      exact ⟨cm_del hA hp hr, fun j h1 h2 => (hs.2 0 j (by omega) h2).2.1, (hs.2 (b + 1) 0 (by omega) (by omega)).1, (hs.2 (b + 1) 0 (by omega) (by omega)).2.2⟩
    · obtain ⟨k1, k2, k3⟩ := ask_stp (x := b + 1) g1 g2 (a := 0) (b := b) (by omega) (by omega) (by omega) (by omega) (by omega) (by omega) g4
      rw [← g5] at k1 k2 k3
      have hS : kInv (stp (g_ask M (b + 1) 0)) := i_step hA k1
      have e : g_del 1000 (g_ask M (b + 1) 0) = g_del 999 (stp (g_ask M (b + 1) 0)) := g_del_go k1 (by omega)
      rw [e] at hr ⊢
      have hs := (pend_del 999 hS k2).2
      refine ⟨cm_del hS k2 hr, fun j h1 h2 => (hs.2 0 j (by omega) h2).2.1.trans (k3 0 j 2 (by omega) h2 (fun q => ?_)), (hs.2 (b + 1) 0 (by omega) (by omega)).1.trans (k3 (b + 1) 0 1 (by omega) (by omega) (fun q => ?_)), (hs.2 (b + 1) 0 (by omega) (by omega)).2.2.trans (k3 (b + 1) 0 4 (by omega) (by omega) (fun q => ?_))⟩
      · omega
      · omega
      · omega
  obtain ⟨k1, k2, k3, k4⟩ := key
  refine ⟨k1, fun j h1 h2 g => ?_, ?_⟩
  · rw [k2 j h1 (by omega), ask_has (by omega) (by omega) (by omega) (by omega) (fun q => by omega)]
    exact g
  · obtain ⟨c1, c2⟩ := cm_mk k1 (a := b + 1) (b := 0) (by omega) (by omega) (by omega)
    rcases hset with g | g
    · exact Or.inl (by rw [← c1, k3]; exact g)
    · exact Or.inr (by rw [c2, k4]; exact g)
/-- and then the grant -/
theorem gst_grant (h : oX 6 B M) (hc : cm M) (hb0 : 1 ≤ b) (hb : b < 6) (hs : g_has M 0 b 2 = true ∨ g_has M 0 b 8 = true) : gst b (g_grant M 0 b) ∧ g_has (g_grant M 0 b) 0 b 2 = true ∧ ∀ j, j < 6 → j ≠ b → g_has (g_grant M 0 b) 0 j 2 = g_has M 0 j 2 := by
  by_cases g : g_has M 0 b 8 = true
  · have e : ∀ j, j < 6 → g_has (g_grant M 0 b) 0 j 2 = g_has (g_become M 0 b ((g_st M 0 b &&& (-9)) ||| 2)) 0 j 2 := fun j hj => by
      unfold g_grant
      rw [if_pos g]
      exact has_congr ((mk_showN (by omega) 3).trans (o_send (by omega)))
    refine ⟨Or.inr ⟨M, B, h, hc, hb0, g, rfl⟩, (e b hb).trans (hs_m9 h.1 (by omega) hb).2.1, fun j hj hne => (e j hj).trans (hs_ne (by omega) hb (by omega) hj (fun q => hne q.2))⟩
  · have e : g_grant M 0 b = M := if_neg g
    rw [e]
    exact ⟨Or.inl hc, hs.resolve_right g, fun _ _ _ => rfl⟩
end GST
-- many messages
def lst (l : Nat) (M : kM) : Prop := M 580 = nI l ∧ (l = 0 ∨ wyN M = 300)
section LST
variable {M : kM}
theorem put_lst {c l : Nat} (hI : kInv M) (h : lst l M) : ∃ l', lst l' (g_put M c) ∧ wyN (g_put M c) + l' = wyN M + l + 1 ∧ g_put M c 578 = M 578 + 1 := by
  have hw := i_wyle hI
  have e7 := i_wy hI
  have hh : (hdN M + wyN M) % 300 < 300 := Nat.mod_lt _ (by omega)
  by_cases q : M 577 = nI 300
  · have w3 : wyN M = 300 := (nI_eq (by omega) (by omega)).mp (e7.symm.trans q)
    have e : g_put M c = upd (upd M 578 (M 578 + 1)) 580 (M 580 + 1) := if_pos q
    have w4 : wyN (g_put M c) = wyN M := wy_same (by rw [e]; exact (upd_ne (by omega)).trans (upd_ne (by omega)))
    refine ⟨l + 1, ⟨?_, Or.inr (by omega)⟩, by omega, ?_⟩
    · rw [e, upd_eq, h.1, nI_1]
    · rw [e]
      exact (upd_ne (by omega)).trans upd_eq
  · have w3 : wyN M ≠ 300 := fun w => q (by rw [e7, w])
    have hl : l = 0 := h.2.resolve_right w3
    have e : g_put M c = upd (upd (upd M 578 (M 578 + 1)) (276 + (hdN M + wyN M) % 300) (nI c)) 577 (M 577 + 1) := if_neg q
    have w4 : wyN (g_put M c) = wyN M + 1 := by
      have e8 : g_put M c 577 = nI (wyN M + 1) := by rw [e, upd_eq, e7, nI_1]
      show (g_put M c 577).toNatClampNeg = _
      rw [e8, nI_clamp (by omega)]
    refine ⟨0, ⟨?_, Or.inl rfl⟩, by omega, ?_⟩
    · rw [put_580 hI (by omega), h.1, hl]
    · rw [e]
      exact (upd_ne (by omega)).trans ((upd_ne (by omega)).trans upd_eq)
def cntm (M : kM) (mk : Int32) (a : Nat) : Nat → Nat
  | 0 => 0
  | b + 1 => cntm M mk a b + (if g_has M a b mk = true then 1 else 0)
theorem cntm_le {mk : Int32} {a : Nat} : ∀ n, cntm M mk a n ≤ n
  | 0 => Nat.le_refl 0
  | n + 1 => by
    have := cntm_le (mk := mk) (a := a) n
    unfold cntm
    split <;> omega
theorem seers_lst {mk : Int32} {k a s d l : Nat} (hI : kInv M) (hB : pB M) (h1 : k < 7) (ha : a < 6) (h4 : s < 3) (h5 : d < 5) (h6 : k = 4 ∨ d = 0) (h7 : k = 4 ∨ k = 5 ∨ s = 0) (h : lst l M) : ∀ n, n ≤ 6 → ∃ l', lst l' (g_seersN M mk k a s d n) ∧ wyN (g_seersN M mk k a s d n) + l' = wyN M + l + cntm M mk a n ∧ g_seersN M mk k a s d n 578 = M 578 + nI (cntm M mk a n)
  | 0, _ => ⟨l, h, rfl, (Int32.add_zero _).symm⟩
  | n + 1, hn => by
    obtain ⟨l1, g1, g2, g3⟩ := seers_lst (mk := mk) hI hB h1 ha h4 h5 h6 h7 h n (by omega)
    have hJ := i_seersN hI (mk := mk) h1 ha h4 h5 h6 h7 n (by omega)
    have lo : ∀ j, j < 276 → g_seersN M mk k a s d n j = M j := fun j hj => mk_seersN hj n
    have hha : g_has (g_seersN M mk k a s d n) a n mk = g_has M a n mk := has_congr (lo _ (by omega))
    have hap : g_apart (g_seersN M mk k a s d n) a n = false := (apart_congr (fun j _ h => lo j h) ha (by omega)).trans (hB a n ha (by omega))
    have es : g_seersN M mk k a s d (n + 1) = if g_has M a n mk = true then g_put (g_seersN M mk k a s d n) (g_code k a n s d) else g_seersN M mk k a s d n := by
      show (if g_has (g_seersN M mk k a s d n) a n mk = true then g_send (g_seersN M mk k a s d n) k a n s d else g_seersN M mk k a s d n) = _
      rw [hha, send_put hap]
    have ec : cntm M mk a (n + 1) = cntm M mk a n + (if g_has M a n mk = true then 1 else 0) := rfl
    rw [es, ec]
    by_cases g : g_has M a n mk = true
    · rw [if_pos g, if_pos g]
      obtain ⟨l2, f1, f2, f3⟩ := put_lst (c := g_code k a n s d) hJ g1
      exact ⟨l2, f1, by omega, by rw [f3, g3, Int32.add_assoc, nI_1]⟩
    · rw [if_neg g, if_neg g]
      exact ⟨l1, g1, g2, g3⟩
/-- what stays when a seat is turned on -/
theorem turnOn_low {a s d k : Nat} {rk : Int32} (ha : a < 6) (hs : s < 3) (hk : (54 ≤ k ∧ k < 132) ∨ (240 ≤ k ∧ k < 276)) : g_turnOn M a s rk d k = M k := by
  unfold g_turnOn
  split
  · exact (mk_seersN (by omega) 6).trans (o_set ha hs (by omega))
  · exact (mk_seersN (by omega) 6).trans ((mk_seersN (by omega) 6).trans ((o_forgetAll ha (by omega)).trans (o_set ha hs (by omega))))
theorem cntm_congr {N : kM} {mk : Int32} {a : Nat} (ha : a < 6) (h : ∀ k, 54 ≤ k → k < 90 → N k = M k) : ∀ n, n ≤ 6 → cntm N mk a n = cntm M mk a n
  | 0, _ => rfl
  | n + 1, hn => by
    unfold cntm
    rw [cntm_congr ha h n (by omega), has_congr (h _ (by omega) (by omega))]
theorem cntm_5 (h : ∀ j, 1 ≤ j → j < 6 → g_has M 0 j 2 = true) : 5 ≤ cntm M 2 0 6 := by
  have e : cntm M 2 0 6 = 0 + (if g_has M 0 0 2 = true then 1 else 0) + (if g_has M 0 1 2 = true then 1 else 0) + (if g_has M 0 2 2 = true then 1 else 0) + (if g_has M 0 3 2 = true then 1 else 0) + (if g_has M 0 4 2 = true then 1 else 0) + (if g_has M 0 5 2 = true then 1 else 0) := rfl
  rw [e, if_pos (h 1 (by omega) (by omega)), if_pos (h 2 (by omega) (by omega)), if_pos (h 3 (by omega) (by omega)), if_pos (h 4 (by omega) (by omega)), if_pos (h 5 (by omega) (by omega))]
  omega
theorem turnOn_lst {s d l : Nat} {rk : Int32} (hI : kInv M) (hB : pB M) (hs : s < 3) (hd : d < 5) (h : lst l M) (hm : ∀ j, 1 ≤ j → j < 6 → g_has M 0 j 2 = true) : ∃ l' X, 5 ≤ X ∧ X ≤ 12 ∧ lst l' (g_turnOn M 0 s rk d) ∧ wyN (g_turnOn M 0 s rk d) + l' = wyN M + l + X ∧ g_turnOn M 0 s rk d 578 = M 578 + nI X := by
  have h0 : (0 : Nat) < 6 := by omega
  have hS := i_set hI (rk := rk) h0 hs hd
  have wS : wyN (g_set M 0 s rk (nI d)) = wyN M := wy_same (o_set h0 hs (by omega))
  have bS : pB (g_set M 0 s rk (nI d)) := pB_congr (fun k _ _ => o_set h0 hs (by omega)) hB
  have lS : lst l (g_set M 0 s rk (nI d)) := ⟨(o_set h0 hs (by omega)).trans h.1, by rw [wS]; exact h.2⟩
  have sS : g_set M 0 s rk (nI d) 578 = M 578 := o_set h0 hs (by omega)
  have cS := cntm_congr (M := M) (N := g_set M 0 s rk (nI d)) (mk := 2) h0 (fun k h1 _ => o_set h0 hs h1) 6 (by omega)
  have c5 := cntm_5 hm
  have c6 := cntm_le (M := M) (mk := 2) (a := 0) 6
  unfold g_turnOn
  by_cases g : g_there M 0 = true
  · rw [if_pos g]
    obtain ⟨l1, g1, g2, g3⟩ := seers_lst (mk := 2) (k := 4) (s := s) (d := d) hS bS (by omega) h0 hs hd (by omega) (by omega) lS 6 (by omega)
    exact ⟨l1, cntm M 2 0 6, c5, by omega, g1, by show wyN (g_seersN _ 2 4 0 s d 6) + l1 = _; omega, by rw [← cS, ← sS]; exact g3⟩
  · rw [if_neg g]
    have hF := i_forgetAll hS h0
    have wF : wyN (g_forgetAll (g_set M 0 s rk (nI d)) 0) = wyN M := (wy_same (o_forgetAll h0 (by omega))).trans wS
    have bF : pB (g_forgetAll (g_set M 0 s rk (nI d)) 0) := pB_congr (fun k _ _ => o_forgetAll h0 (by omega)) bS
    have lF : lst l (g_forgetAll (g_set M 0 s rk (nI d)) 0) := ⟨(o_forgetAll h0 (by omega)).trans lS.1, by rw [wF]; exact h.2⟩
    have sF : g_forgetAll (g_set M 0 s rk (nI d)) 0 578 = M 578 := (o_forgetAll h0 (by omega)).trans sS
    obtain ⟨l1, g1, g2, g3⟩ := seers_lst (mk := 1) (k := 6) (s := 0) (d := 0) hF bF (by omega) h0 (by omega) (by omega) (by omega) (by omega) lF 6 (by omega)
    have lo1 : ∀ k, k < 276 → g_seers (g_forgetAll (g_set M 0 s rk (nI d)) 0) 1 6 0 0 0 k = g_forgetAll (g_set M 0 s rk (nI d)) 0 k := fun k hk => mk_seersN hk 6
    have hG := i_seers hF (mk := 1) (k := 6) (s := 0) (d := 0) (by omega) h0 (by omega) (by omega) (by omega) (by omega)
    have bG : pB (g_seers (g_forgetAll (g_set M 0 s rk (nI d)) 0) 1 6 0 0 0) := pB_congr (fun k _ hk => lo1 k hk) bF
    obtain ⟨l2, f1, f2, f3⟩ := seers_lst (mk := 2) (k := 4) (s := s) (d := d) hG bG (by omega) h0 hs hd (by omega) (by omega) g1 6 (by omega)
    have cG := cntm_congr (M := M) (N := g_seers (g_forgetAll (g_set M 0 s rk (nI d)) 0) 1 6 0 0 0) (mk := 2) h0 (fun k h1 h2 => (lo1 k (by omega)).trans ((o_forgetAll h0 (by omega)).trans (o_set h0 hs h1))) 6 (by omega)
    have p6 := cntm_le (M := g_forgetAll (g_set M 0 s rk (nI d)) 0) (mk := 1) (a := 0) 6
    generalize hp : cntm (g_forgetAll (g_set M 0 s rk (nI d)) 0) 1 0 6 = p at *
    refine ⟨l2, p + cntm M 2 0 6, by omega, by omega, f1, ?_, ?_⟩
    · show wyN (g_seersN (g_seers (g_forgetAll (g_set M 0 s rk (nI d)) 0) 1 6 0 0 0) 2 4 0 s d 6) + l2 = _
      rw [f2, cG]
      show wyN (g_seersN (g_forgetAll (g_set M 0 s rk (nI d)) 0) 1 6 0 0 0 6) + l1 + _ = _
      omega
    · show g_seersN (g_seers (g_forgetAll (g_set M 0 s rk (nI d)) 0) 1 6 0 0 0) 2 4 0 s d 6 578 = _
      rw [f3, cG]
      show g_seersN (g_forgetAll (g_set M 0 s rk (nI d)) 0) 1 6 0 0 0 6 578 + _ = _
      rw [g3, sF, Int32.add_assoc, nI_add]
end LST
