/-! a calm time: what is under way brings all views and marks together -/
def tg (M : kM) (a b s : Nat) : Int32 := if g_has M a b 1 = true ∧ g_there M a = true ∧ g_on M b s = true then M (2 + 9 * b + 3 * s) else -1
/-- the seats, and the marks sees, seen and asked are the same -/
def sm (M N : kM) : Prop := (∀ k, k < 54 → N k = M k) ∧ ∀ a b, a < 6 → b < 6 → g_has N a b 1 = g_has M a b 1 ∧ g_has N a b 2 = g_has M a b 2 ∧ g_has N a b 4 = g_has M a b 4
def pMsg (M : kM) (c : Nat) : Prop := ∃ k f t s d, f < 6 ∧ t < 6 ∧ f ≠ t ∧ s < 3 ∧ d < 5 ∧ c = g_code k f t s d ∧ ((k = 4 ∧ g_on M f s = true ∧ d = g_md M f s) ∨ (k = 5 ∧ d = 0 ∧ tg M t f s = -1) ∨ (k = 6 ∧ s = 0 ∧ d = 0 ∧ g_has M t f 2 = true) ∨ (k = 0 ∧ s = 0 ∧ d = 0 ∧ g_has M t f 2 = false ∧ g_has M f t 4 = true))
def phi : List Nat → Nat
  | [] => 0
  | c :: q => (if c % 8 = 6 then 4 else 1) + phi q
def pB (M : kM) : Prop := ∀ a b, a < 6 → b < 6 → g_apart M a b = false
def pMk (M : kM) (q : List Nat) : Prop := ∀ a b, a < 6 → b < 6 → a ≠ b → g_has M a b 1 = g_has M b a 2 ∧ (g_has M b a 8 = true → g_has M a b 4 = true) ∧ (g_has M a b 4 = true → g_has M b a 8 = true ∨ g_code 0 a b 0 0 ∈ q)
def pVw (M : kM) (q : List Nat) : Prop := ∀ a b s, a < 6 → b < 6 → a ≠ b → s < 3 → M (132 + 18 * a + 3 * b + s) = tg M a b s ∨ (tg M a b s = -1 ∧ g_code 5 b a s 0 ∈ q) ∨ (¬ tg M a b s = -1 ∧ (g_code 4 b a s (g_md M b s) ∈ q ∨ g_code 6 a b 0 0 ∈ q))
def pend (M : kM) (q : List Nat) : Prop := pB M ∧ (∀ c, c ∈ q → pMsg M c) ∧ pMk M q ∧ pVw M q ∧ phi q ≤ 250 ∧ M 580 = 0
theorem phi_len : ∀ q : List Nat, q.length ≤ phi q
  | [] => Nat.le_refl 0
  | c :: q => by
    have := phi_len q
    show q.length + 1 ≤ (if c % 8 = 6 then 4 else 1) + phi q
    split <;> omega
theorem phi_app : ∀ q r : List Nat, phi (q ++ r) = phi q + phi r
  | [], r => by show phi r = 0 + phi r; omega
  | c :: q, r => by
    have := phi_app q r
    show (if c % 8 = 6 then 4 else 1) + phi (q ++ r) = (if c % 8 = 6 then 4 else 1) + phi q + phi r
    omega
theorem len_q {M : kM} : (g_q M).length = wyN M := by
  unfold g_q
  rw [List.length_map, List.length_range]
theorem code_inj {k f t s d k' f' t' s' d' : Nat} (h1 : k < 7) (h2 : f < 6) (h3 : t < 6) (h4 : s < 3) (g1 : k' < 7) (g2 : f' < 6) (g3 : t' < 6) (g4 : s' < 3) (h : g_code k f t s d = g_code k' f' t' s' d') : k = k' ∧ f = f' ∧ t = t' ∧ s = s' ∧ d = d' := by
  unfold g_code at h
  omega
theorem mem_tl {x c : Nat} {q : List Nat} (h : x ∈ c :: q) (hne : x ≠ c) : x ∈ q := (List.mem_cons.mp h).resolve_left hne
-- the same seats and marks
section SM
variable {M N : kM}
theorem sm_refl : sm M M := ⟨fun _ _ => rfl, fun _ _ _ _ => ⟨rfl, rfl, rfl⟩⟩
theorem sm_trans {P : kM} (h : sm M N) (g : sm N P) : sm M P := ⟨fun k hk => (g.1 k hk).trans (h.1 k hk), fun a b ha hb => ⟨(g.2 a b ha hb).1.trans (h.2 a b ha hb).1, (g.2 a b ha hb).2.1.trans (h.2 a b ha hb).2.1, (g.2 a b ha hb).2.2.trans (h.2 a b ha hb).2.2⟩⟩
theorem has_congr {a b : Nat} {k : Int32} (h : N (54 + 6 * a + b) = M (54 + 6 * a + b)) : g_has N a b k = g_has M a b k := by
  unfold g_has
  rw [h]
theorem sm_low (h : ∀ k, k < 90 → N k = M k) : sm M N := ⟨fun k hk => h k (by omega), fun a b ha hb => ⟨has_congr (h _ (by omega)), has_congr (h _ (by omega)), has_congr (h _ (by omega))⟩⟩
theorem sm_on (h : sm M N) {a s : Nat} (ha : a < 6) (hs : s < 3) : g_on N a s = g_on M a s := by
  unfold g_on
  rw [h.1 _ (by omega)]
theorem sm_md (h : sm M N) {a s : Nat} (ha : a < 6) (hs : s < 3) : g_md N a s = g_md M a s := by
  unfold g_md
  rw [h.1 _ (by omega)]
theorem sm_there (h : sm M N) {a : Nat} (ha : a < 6) : g_there N a = g_there M a := by
  unfold g_there
  rw [cnt_congr fun s hs => h.1 _ (by omega)]
theorem sm_tg (h : sm M N) {a b s : Nat} (ha : a < 6) (hb : b < 6) (hs : s < 3) : tg N a b s = tg M a b s := by
  unfold tg
  rw [(h.2 a b ha hb).1, sm_there h ha, sm_on h hb hs, h.1 _ (by omega)]
theorem sm_msg (h : sm M N) {c : Nat} (hc : pMsg M c) : pMsg N c := by
  obtain ⟨k, f, t, s, d, hf, ht, hft, hs, hd, ec, hk⟩ := hc
  refine ⟨k, f, t, s, d, hf, ht, hft, hs, hd, ec, ?_⟩
  rw [sm_on h hf hs, sm_md h hf hs, sm_tg h ht hf hs, (h.2 t f ht hf).2.1, (h.2 f t hf ht).2.2]
  exact hk
theorem tg_no {a b s : Nat} (h : ¬ (g_has M a b 1 = true ∧ g_there M a = true ∧ g_on M b s = true)) : tg M a b s = -1 := if_neg h
theorem tg_yes {a b s : Nat} (h : ¬ tg M a b s = -1) : g_has M a b 1 = true ∧ g_there M a = true ∧ g_on M b s = true := by
  by_cases q : g_has M a b 1 = true ∧ g_there M a = true ∧ g_on M b s = true
  · exact q
  · exact absurd (tg_no q) h
theorem apart_congr {a b : Nat} (h : ∀ k, 240 ≤ k → k < 276 → N k = M k) (ha : a < 6) (hb : b < 6) : g_apart N a b = g_apart M a b := by
  unfold g_apart
  rw [h _ (by omega) (by omega), h _ (by omega) (by omega)]
theorem pB_congr (h : ∀ k, 240 ≤ k → k < 276 → N k = M k) (hB : pB M) : pB N := fun a b ha hb => (apart_congr h ha hb).trans (hB a b ha hb)
end SM
-- sending, when there is room and nobody is apart
section SEND
variable {M : kM} {a b : Nat}
theorem put_580 {c : Nat} (h : kInv M) (hw : wyN M < 300) : g_put M c 580 = M 580 := by
  have h1 : ¬ M 577 = nI 300 := fun q => by
    rw [i_wy h] at q
    have := (nI_eq (by omega) (by omega)).mp q
    omega
  have hh : (hdN M + wyN M) % 300 < 300 := Nat.mod_lt _ (by omega)
  unfold g_put
  rw [if_neg h1]
  exact (upd_ne (by omega)).trans ((upd_ne (by omega)).trans (upd_ne (by omega)))
theorem send_put {k f t s d : Nat} (h : g_apart M f t = false) : g_send M k f t s d = g_put M (g_code k f t s d) := by
  unfold g_send
  rw [if_neg (by rw [h]; decide)]
def shw (M : kM) (k a b : Nat) (d : Nat → Nat) : Nat → List Nat
  | 0 => []
  | s + 1 => shw M k a b d s ++ (if g_on M a s = true then [g_code k a b s (d s)] else [])
theorem shw_mem {k : Nat} {d : Nat → Nat} {c : Nat} : ∀ n, c ∈ shw M k a b d n → ∃ s, s < n ∧ g_on M a s = true ∧ c = g_code k a b s (d s)
  | 0, h => absurd h List.not_mem_nil
  | n + 1, h => by
    rcases List.mem_append.mp h with q | q
    · obtain ⟨s, h1, h2⟩ := shw_mem n q
      exact ⟨s, by omega, h2⟩
    · by_cases g : g_on M a n = true
      · rw [if_pos g] at q
        exact ⟨n, by omega, g, List.mem_singleton.mp q⟩
      · rw [if_neg g] at q
        exact absurd q List.not_mem_nil
theorem shw_in {k s : Nat} {d : Nat → Nat} (hs : g_on M a s = true) : ∀ n, s < n → g_code k a b s (d s) ∈ shw M k a b d n
  | 0, h => absurd h (by omega)
  | n + 1, h => by
    refine List.mem_append.mpr ?_
    by_cases q : s = n
    · subst q
      rw [if_pos hs]
      exact Or.inr List.mem_cons_self
    · exact Or.inl (shw_in hs n (by omega))
theorem shw_phi {k : Nat} {d : Nat → Nat} (hk : k = 4 ∨ k = 5) : ∀ n, phi (shw M k a b d n) ≤ n
  | 0 => Nat.le_refl 0
  | n + 1 => by
    have h := shw_phi (d := d) hk n
    show phi (shw M k a b d n ++ (if g_on M a n = true then [g_code k a b n (d n)] else [])) ≤ n + 1
    rw [phi_app]
    split
    · have h2 : ¬ g_code k a b n (d n) % 8 = 6 := by unfold g_code; omega
      show phi (shw M k a b d n) + ((if g_code k a b n (d n) % 8 = 6 then 4 else 1) + 0) ≤ n + 1
      rw [if_neg h2]
      omega
    · show phi (shw M k a b d n) + 0 ≤ n + 1
      omega
theorem on_low {N : kM} {s : Nat} (h : ∀ k, k < 54 → N k = M k) (ha : a < 6) (hs : s < 3) : g_on N a s = g_on M a s := by
  unfold g_on
  rw [h _ (by omega)]
theorem md_low {N : kM} {s : Nat} (h : ∀ k, k < 54 → N k = M k) (ha : a < 6) (hs : s < 3) : g_md N a s = g_md M a s := by
  unfold g_md
  rw [h _ (by omega)]
theorem q_showN (hI : kInv M) (hB : pB M) (ha : a < 6) (hb : b < 6) : ∀ n, n ≤ 3 → wyN M + n ≤ 300 → g_q (g_showN M a b n) = g_q M ++ shw M 4 a b (g_md M a) n ∧ wyN (g_showN M a b n) ≤ wyN M + n ∧ g_showN M a b n 580 = M 580
  | 0, _, _ => ⟨(List.append_nil _).symm, Nat.le_refl _, rfl⟩
  | n + 1, hn, hw => by
    obtain ⟨e1, e2, e3⟩ := q_showN hI hB ha hb n (by omega) (by omega)
    have hJ := i_showN hI ha hb n (by omega)
    have lo : ∀ k, k < 276 → g_showN M a b n k = M k := fun k hk => mk_showN hk n
    have hon : g_on (g_showN M a b n) a n = g_on M a n := on_low (fun k hk => lo k (by omega)) ha (by omega)
    have hmd : g_md (g_showN M a b n) a n = g_md M a n := md_low (fun k hk => lo k (by omega)) ha (by omega)
    have hap : g_apart (g_showN M a b n) a b = false := (apart_congr (fun k _ h => lo k h) ha hb).trans (hB a b ha hb)
    have hm5 := i_mdlt hI ha (show n < 3 by omega)
    have es : g_showN M a b (n + 1) = if g_on M a n = true then g_put (g_showN M a b n) (g_code 4 a b n (g_md M a n)) else g_showN M a b n := by
      show (if g_on (g_showN M a b n) a n = true then g_send (g_showN M a b n) 4 a b n (g_md (g_showN M a b n) a n) else g_showN M a b n) = _
      rw [hon, hmd, send_put hap]
    have el : shw M 4 a b (g_md M a) (n + 1) = shw M 4 a b (g_md M a) n ++ (if g_on M a n = true then [g_code 4 a b n (g_md M a n)] else []) := rfl
    rw [es, el]
    by_cases g : g_on M a n = true
    · have q := q_put hJ (c := g_code 4 a b n (g_md M a n)) (by unfold g_code; omega) (by omega)
      rw [if_pos g, if_pos g]
      refine ⟨by rw [q, e1, List.append_assoc], ?_, by rw [put_580 hJ (by omega), e3]⟩
      rw [← len_q, q, List.length_append, len_q]
      show wyN (g_showN M a b n) + 1 ≤ _
      omega
    · rw [if_neg g, if_neg g]
      exact ⟨by rw [e1, List.append_nil], by omega, e3⟩
theorem q_hideN (hI : kInv M) (hB : pB M) (ha : a < 6) (hb : b < 6) : ∀ n, n ≤ 3 → wyN M + n ≤ 300 → g_q (g_hideN M a b n) = g_q M ++ shw M 5 a b (fun _ => 0) n ∧ wyN (g_hideN M a b n) ≤ wyN M + n ∧ g_hideN M a b n 580 = M 580
  | 0, _, _ => ⟨(List.append_nil _).symm, Nat.le_refl _, rfl⟩
  | n + 1, hn, hw => by
    obtain ⟨e1, e2, e3⟩ := q_hideN hI hB ha hb n (by omega) (by omega)
    have hJ := i_hideN hI ha hb n (by omega)
    have lo : ∀ k, k < 276 → g_hideN M a b n k = M k := fun k hk => mk_hideN hk n
    have hon : g_on (g_hideN M a b n) a n = g_on M a n := on_low (fun k hk => lo k (by omega)) ha (by omega)
    have hap : g_apart (g_hideN M a b n) a b = false := (apart_congr (fun k _ h => lo k h) ha hb).trans (hB a b ha hb)
    have es : g_hideN M a b (n + 1) = if g_on M a n = true then g_put (g_hideN M a b n) (g_code 5 a b n 0) else g_hideN M a b n := by
      show (if g_on (g_hideN M a b n) a n = true then g_send (g_hideN M a b n) 5 a b n 0 else g_hideN M a b n) = _
      rw [hon, send_put hap]
    have el : shw M 5 a b (fun _ => 0) (n + 1) = shw M 5 a b (fun _ => 0) n ++ (if g_on M a n = true then [g_code 5 a b n 0] else []) := rfl
    rw [es, el]
    by_cases g : g_on M a n = true
    · have q := q_put hJ (c := g_code 5 a b n 0) (by unfold g_code; omega) (by omega)
      rw [if_pos g, if_pos g]
      refine ⟨by rw [q, e1, List.append_assoc], ?_, by rw [put_580 hJ (by omega), e3]⟩
      rw [← len_q, q, List.length_append, len_q]
      show wyN (g_hideN M a b n) + 1 ≤ _
      omega
    · rw [if_neg g, if_neg g]
      exact ⟨by rw [e1, List.append_nil], by omega, e3⟩
/-- a message for each user with the mark -/
def see (M : kM) (mk : Int32) (k a s d : Nat) : Nat → List Nat
  | 0 => []
  | b + 1 => see M mk k a s d b ++ (if g_has M a b mk = true then [g_code k a b s d] else [])
theorem see_mem {mk : Int32} {k s d c : Nat} : ∀ n, c ∈ see M mk k a s d n → ∃ x, x < n ∧ g_has M a x mk = true ∧ c = g_code k a x s d
  | 0, h => absurd h List.not_mem_nil
  | n + 1, h => by
    rcases List.mem_append.mp h with q | q
    · obtain ⟨x, h1, h2⟩ := see_mem n q
      exact ⟨x, by omega, h2⟩
    · by_cases g : g_has M a n mk = true
      · rw [if_pos g] at q
        exact ⟨n, by omega, g, List.mem_singleton.mp q⟩
      · rw [if_neg g] at q
        exact absurd q List.not_mem_nil
theorem see_in {mk : Int32} {k s d x : Nat} (hx : g_has M a x mk = true) : ∀ n, x < n → g_code k a x s d ∈ see M mk k a s d n
  | 0, h => absurd h (by omega)
  | n + 1, h => by
    refine List.mem_append.mpr ?_
    by_cases q : x = n
    · subst q
      rw [if_pos hx]
      exact Or.inr List.mem_cons_self
    · exact Or.inl (see_in hx n (by omega))
theorem see_phi {mk : Int32} {k s d : Nat} : ∀ n, phi (see M mk k a s d n) ≤ 4 * n
  | 0 => Nat.le_refl 0
  | n + 1 => by
    have h := see_phi (mk := mk) (k := k) (s := s) (d := d) n
    show phi (see M mk k a s d n ++ (if g_has M a n mk = true then [g_code k a n s d] else [])) ≤ 4 * (n + 1)
    rw [phi_app]
    split
    · show phi (see M mk k a s d n) + ((if g_code k a n s d % 8 = 6 then 4 else 1) + 0) ≤ 4 * (n + 1)
      split <;> omega
    · show phi (see M mk k a s d n) + 0 ≤ 4 * (n + 1)
      omega
theorem mk_seersN {mk : Int32} {k s d j : Nat} (hj : j < 276) : ∀ n, g_seersN M mk k a s d n j = M j
  | 0 => rfl
  | n + 1 => by
    unfold g_seersN
    split
    · exact (o_send hj).trans (mk_seersN hj n)
    · exact mk_seersN hj n
theorem q_seersN {mk : Int32} {k s d : Nat} (hI : kInv M) (hB : pB M) (h1 : k < 7) (ha : a < 6) (h4 : s < 3) (h5 : d < 5) (h6 : k = 4 ∨ d = 0) (h7 : k = 4 ∨ k = 5 ∨ s = 0) : ∀ n, n ≤ 6 → wyN M + n ≤ 300 → g_q (g_seersN M mk k a s d n) = g_q M ++ see M mk k a s d n ∧ wyN (g_seersN M mk k a s d n) ≤ wyN M + n ∧ g_seersN M mk k a s d n 580 = M 580
  | 0, _, _ => ⟨(List.append_nil _).symm, Nat.le_refl _, rfl⟩
  | n + 1, hn, hw => by
    obtain ⟨e1, e2, e3⟩ := q_seersN (mk := mk) hI hB h1 ha h4 h5 h6 h7 n (by omega) (by omega)
    have hJ := i_seersN hI (mk := mk) h1 ha h4 h5 h6 h7 n (by omega)
    have lo : ∀ j, j < 276 → g_seersN M mk k a s d n j = M j := fun j hj => mk_seersN hj n
    have hha : g_has (g_seersN M mk k a s d n) a n mk = g_has M a n mk := has_congr (lo _ (by omega))
    have hap : g_apart (g_seersN M mk k a s d n) a n = false := (apart_congr (fun j _ h => lo j h) ha (by omega)).trans (hB a n ha (by omega))
    have es : g_seersN M mk k a s d (n + 1) = if g_has M a n mk = true then g_put (g_seersN M mk k a s d n) (g_code k a n s d) else g_seersN M mk k a s d n := by
      show (if g_has (g_seersN M mk k a s d n) a n mk = true then g_send (g_seersN M mk k a s d n) k a n s d else g_seersN M mk k a s d n) = _
      rw [hha, send_put hap]
    have el : see M mk k a s d (n + 1) = see M mk k a s d n ++ (if g_has M a n mk = true then [g_code k a n s d] else []) := rfl
    rw [es, el]
    by_cases g : g_has M a n mk = true
    · have q := q_put hJ (c := g_code k a n s d) (by unfold g_code; omega) (by omega)
      rw [if_pos g, if_pos g]
      refine ⟨by rw [q, e1, List.append_assoc], ?_, by rw [put_580 hJ (by omega), e3]⟩
      rw [← len_q, q, List.length_append, len_q]
      show wyN (g_seersN M mk k a s d n) + 1 ≤ _
      omega
    · rw [if_neg g, if_neg g]
      exact ⟨by rw [e1, List.append_nil], by omega, e3⟩
end SEND
-- what arrives, kind by kind
section ARR
variable {M : kM} {f t s d : Nat}
theorem arr_0 (h2 : f < 6) (h3 : t < 6) (ha : g_apart M f t = false) (h : g_has M t f 2 = false) : g_arrive M (g_code 0 f t 0 0) = g_become M t f (g_st M t f ||| 8) := by
  obtain ⟨e1, e2, e3, e4, e5⟩ := code_parts (k := 0) (f := f) (t := t) (s := 0) (d := 0) (by omega) h2 h3 (by omega)
  unfold g_arrive
  rw [e1, e2, e3, if_neg (by rw [ha]; decide), if_pos rfl, if_neg (by rw [h]; decide)]
theorem arr_1 (h2 : f < 6) (h3 : t < 6) (ha : g_apart M f t = false) (h : g_has M t f 4 = true) : g_arrive M (g_code 1 f t 0 0) = g_become M t f ((g_st M t f &&& (-5)) ||| 1) := by
  obtain ⟨e1, e2, e3, e4, e5⟩ := code_parts (k := 1) (f := f) (t := t) (s := 0) (d := 0) (by omega) h2 h3 (by omega)
  unfold g_arrive
  rw [e1, e2, e3, if_neg (by rw [ha]; decide), if_neg (by decide), if_pos rfl, if_pos h]
theorem arr_2 (h2 : f < 6) (h3 : t < 6) (ha : g_apart M f t = false) (h : g_has M t f 10 = true) : g_arrive M (g_code 2 f t 0 0) = g_hide (g_become M t f (g_st M t f &&& (-11))) t f := by
  obtain ⟨e1, e2, e3, e4, e5⟩ := code_parts (k := 2) (f := f) (t := t) (s := 0) (d := 0) (by omega) h2 h3 (by omega)
  unfold g_arrive
  rw [e1, e2, e3, if_neg (by rw [ha]; decide), if_neg (by decide), if_neg (by decide), if_pos rfl, if_pos h]
theorem arr_3 (h2 : f < 6) (h3 : t < 6) (ha : g_apart M f t = false) : g_arrive M (g_code 3 f t 0 0) = g_forget (g_become M t f (g_st M t f &&& (-6))) t f := by
  obtain ⟨e1, e2, e3, e4, e5⟩ := code_parts (k := 3) (f := f) (t := t) (s := 0) (d := 0) (by omega) h2 h3 (by omega)
  unfold g_arrive
  rw [e1, e2, e3, if_neg (by rw [ha]; decide), if_neg (by decide), if_neg (by decide), if_neg (by decide), if_pos rfl]
theorem arr_4 (h2 : f < 6) (h3 : t < 6) (h4 : s < 3) (ha : g_apart M f t = false) : g_arrive M (g_code 4 f t s d) = if g_has M t f 1 = true ∧ g_there M t = true then upd M (132 + 18 * t + 3 * f + s) (nI d) else M := by
  obtain ⟨e1, e2, e3, e4, e5⟩ := code_parts (k := 4) (d := d) (by omega) h2 h3 h4
  unfold g_arrive
  rw [e1, e2, e3, e4, e5, if_neg (by rw [ha]; decide), if_neg (by decide), if_neg (by decide), if_neg (by decide), if_neg (by decide), if_pos rfl]
theorem arr_5 (h2 : f < 6) (h3 : t < 6) (h4 : s < 3) (ha : g_apart M f t = false) : g_arrive M (g_code 5 f t s d) = upd M (132 + 18 * t + 3 * f + s) (-1) := by
  obtain ⟨e1, e2, e3, e4, e5⟩ := code_parts (k := 5) (d := d) (by omega) h2 h3 h4
  unfold g_arrive
  rw [e1, e2, e3, e4, if_neg (by rw [ha]; decide), if_neg (by decide), if_neg (by decide), if_neg (by decide), if_neg (by decide), if_neg (by decide), if_pos rfl]
theorem arr_6 (h2 : f < 6) (h3 : t < 6) (ha : g_apart M f t = false) (h : g_has M t f 2 = true) : g_arrive M (g_code 6 f t 0 0) = g_show M t f := by
  obtain ⟨e1, e2, e3, e4, e5⟩ := code_parts (k := 6) (f := f) (t := t) (s := 0) (d := 0) (by omega) h2 h3 (by omega)
  unfold g_arrive
  rw [e1, e2, e3, if_neg (by rw [ha]; decide), if_neg (by decide), if_neg (by decide), if_neg (by decide), if_neg (by decide), if_neg (by decide), if_neg (by decide), if_pos h]
end ARR
