/-! WHAT A STATE IS: one memory of 581 ints (the reference's own row m); the class's rows are views of it. -/
abbrev kM : Type := Nat → Int32
def hdN (M : kM) : Nat := (M 576).toNatClampNeg
def wyN (M : kM) : Nat := (M 577).toNatClampNeg
/-- the class's rows: a stretch of the memory; each third cell of the seats; the ring, a message's number told the class's way -/
def vw (o n : Nat) (M : kM) : Nat → Int32 := fun i => if i < n then M (o + i) else 0
def vs (r : Nat) (M : kM) : Nat → Int32 := fun i => if i < 18 then M (r + 3 * i) else 0
def cvN (c : Nat) : Nat := c % 8 + 7 * (c / 8 % 8 + 6 * (c / 64 % 8 + 6 * (if c % 8 = 4 then c / 512 % 4 + 1 + 4 * (c / 2048 + 1) else if c % 8 = 5 then c / 512 % 4 + 1 else 0)))
def cv (x : Int32) : Int32 := nI (cvN x.toNatClampNeg)
def vr (M : kM) : Nat → Int32 := fun i => if i < 300 then cv (M (276 + i)) else 0
theorem vw_at {o n k j : Nat} {M : kM} (h : k < n) (e : o + k = j) : vw o n M k = M j := by subst e; simp [vw, h]
theorem vs_at {r k j : Nat} {M : kM} (h : k < 18) (e : r + 3 * k = j) : vs r M k = M j := by subst e; simp [vs, h]
theorem vr_at {k j : Nat} {M : kM} (h : k < 300) (e : 276 + k = j) : vr M k = cv (M j) := by subst e; simp [vr, h]
theorem vw_congr {o n : Nat} {M N : kM} (h : ∀ k, k < n → N (o + k) = M (o + k)) : vw o n N = vw o n M := by
  funext i
  by_cases hi : i < n
  · simp [vw, hi, h i hi]
  · simp [vw, hi]
theorem vs_congr {r : Nat} {M N : kM} (h : ∀ k, k < 18 → N (r + 3 * k) = M (r + 3 * k)) : vs r N = vs r M := by
  funext i
  by_cases hi : i < 18
  · simp [vs, hi, h i hi]
  · simp [vs, hi]
theorem vr_congr {M N : kM} (h : ∀ k, k < 300 → N (276 + k) = M (276 + k)) : vr N = vr M := by
  funext i
  by_cases hi : i < 300
  · simp [vr, hi, h i hi]
  · simp [vr, hi]
theorem vw_upd {o n k j : Nat} {M : kM} {x : Int32} (h : k < n) (e : o + k = j) : upd (vw o n M) k x = vw o n (upd M j x) := by
  subst e
  funext i
  by_cases hi : i < n
  · by_cases hk : i = k
    · subst hk; simp [vw, upd, hi]
    · have : o + i ≠ o + k := by omega
      simp [vw, upd, hi, hk]
  · have : i ≠ k := by omega
    simp [vw, upd, hi, this]
theorem vs_upd {r k j : Nat} {M : kM} {x : Int32} (h : k < 18) (e : r + 3 * k = j) : upd (vs r M) k x = vs r (upd M j x) := by
  subst e
  funext i
  by_cases hi : i < 18
  · by_cases hk : i = k
    · subst hk; simp [vs, upd, hi]
    · have : ¬ 3 * i = 3 * k := by omega
      simp [vs, upd, hi, hk, this]
  · have : i ≠ k := by omega
    simp [vs, upd, hi, this]
theorem vr_upd {k j : Nat} {M : kM} {x y : Int32} (h : k < 300) (e : 276 + k = j) (hy : y = cv x) : upd (vr M) k y = vr (upd M j x) := by
  subst e
  subst hy
  funext i
  by_cases hi : i < 300
  · by_cases hk : i = k
    · subst hk; simp [vr, upd, hi]
    · have : 276 + i ≠ 276 + k := by omega
      simp [vr, upd, hi, hk]
  · have : i ≠ k := by omega
    simp [vr, upd, hi, this]
theorem upd_ne {M : kM} {k j : Nat} {x : Int32} (h : j ≠ k) : upd M k x j = M j := by simp [upd, h]
theorem upd_eq {M : kM} {k : Nat} {x : Int32} : upd M k x k = x := by simp [upd]
-- the cells of a world, of its parts, and of the reference
abbrev wSe (cI : ClassId) (q : Nat → Nat) (M : kM) : va_W := [(q 1, .inr (3, [.ref (q 2), .ref (q 3), .ref (q 4)])), (q 2, .inl (cI, 18, .inl (vs 0 M))), (q 3, .inl (cI, 18, .inl (vs 1 M))), (q 4, .inl (cI, 18, .inl (vs 2 M)))]
abbrev wRo (cI : ClassId) (q : Nat → Nat) (M : kM) : va_W := [(q 5, .inr (1, [.ref (q 6), .ref (q 7), .ref (q 8)])), (q 6, .inl (cI, 36, .inl (vw 54 36 M))), (q 7, .inl (cI, 36, .inl (vw 90 36 M))), (q 8, .inl (cI, 6, .inl (vw 126 6 M)))]
abbrev wVi (cI : ClassId) (q : Nat → Nat) (M : kM) : va_W := [(q 9, .inr (4, [.ref (q 10)])), (q 10, .inl (cI, 108, .inl (vw 132 108 M)))]
abbrev wPo (cI : ClassId) (q : Nat → Nat) (M : kM) : va_W := [(q 11, .inr (0, [.ref (q 12), .int (M 576), .int (M 577), .ref (q 13)])), (q 12, .inl (cI, 300, .inl (vr M))), (q 13, .inl (cI, 3, .inl (vw 578 3 M)))]
abbrev wW (cI : ClassId) (q : Nat → Nat) (M : kM) : va_W := [(q 0, .inr (5, [.ref (q 1), .ref (q 5), .ref (q 9), .ref (q 11), .ref (q 14)])),
  (q 1, .inr (3, [.ref (q 2), .ref (q 3), .ref (q 4)])), (q 2, .inl (cI, 18, .inl (vs 0 M))), (q 3, .inl (cI, 18, .inl (vs 1 M))), (q 4, .inl (cI, 18, .inl (vs 2 M))),
  (q 5, .inr (1, [.ref (q 6), .ref (q 7), .ref (q 8)])), (q 6, .inl (cI, 36, .inl (vw 54 36 M))), (q 7, .inl (cI, 36, .inl (vw 90 36 M))), (q 8, .inl (cI, 6, .inl (vw 126 6 M))),
  (q 9, .inr (4, [.ref (q 10)])), (q 10, .inl (cI, 108, .inl (vw 132 108 M))),
  (q 11, .inr (0, [.ref (q 12), .int (M 576), .int (M 577), .ref (q 13)])), (q 12, .inl (cI, 300, .inl (vr M))), (q 13, .inl (cI, 3, .inl (vw 578 3 M))),
  (q 14, .inl (cI, 36, .inl (vw 240 36 M)))]
/-- the reference: its object, and its row m -/
abbrev wMo (cI : ClassId) (z : Nat → Nat) (x : Nat → Int32) (hh : Int64) (M : kM) : va_W := [(z 0, .inr (7, [.ref (z 1), .ref (z 2), .ref (z 3), .ref (z 4), .int (x 4), .ref (z 5), .int (x 6), .int (x 7), .int (x 8), .long hh])), (z 1, .inl (cI, 581, .inl M))]
theorem wW_se {cI : ClassId} {q : Nat → Nat} {M N : kM} (h : ∀ k, 54 ≤ k → N k = M k) : kset (wW cI q M) [1, 2, 3, 4] (wSe cI q N) = wW cI q N := by
  have e1 : vw 54 36 N = vw 54 36 M := vw_congr fun k _ => h _ (by omega)
  have e2 : vw 90 36 N = vw 90 36 M := vw_congr fun k _ => h _ (by omega)
  have e3 : vw 126 6 N = vw 126 6 M := vw_congr fun k _ => h _ (by omega)
  have e4 : vw 132 108 N = vw 132 108 M := vw_congr fun k _ => h _ (by omega)
  have e5 : vr N = vr M := vr_congr fun k _ => h _ (by omega)
  have e6 : vw 578 3 N = vw 578 3 M := vw_congr fun k _ => h _ (by omega)
  have e7 : vw 240 36 N = vw 240 36 M := vw_congr fun k _ => h _ (by omega)
  have e8 := h 576 (by omega)
  have e9 := h 577 (by omega)
  show _ = wW cI q N
  unfold wW
  rw [e1, e2, e3, e4, e5, e6, e7, e8, e9]
  rfl
theorem wW_ro {cI : ClassId} {q : Nat → Nat} {M N : kM} (h : ∀ k, (k < 54 ∨ 132 ≤ k) → N k = M k) : kset (wW cI q M) [5, 6, 7, 8] (wRo cI q N) = wW cI q N := by
  have e1 : vs 0 N = vs 0 M := vs_congr fun k _ => h _ (by omega)
  have e2 : vs 1 N = vs 1 M := vs_congr fun k _ => h _ (by omega)
  have e3 : vs 2 N = vs 2 M := vs_congr fun k _ => h _ (by omega)
  have e4 : vw 132 108 N = vw 132 108 M := vw_congr fun k _ => h _ (by omega)
  have e5 : vr N = vr M := vr_congr fun k _ => h _ (by omega)
  have e6 : vw 578 3 N = vw 578 3 M := vw_congr fun k _ => h _ (by omega)
  have e7 : vw 240 36 N = vw 240 36 M := vw_congr fun k _ => h _ (by omega)
  have e8 := h 576 (by omega)
  have e9 := h 577 (by omega)
  unfold wW
  rw [e1, e2, e3, e4, e5, e6, e7, e8, e9]
  rfl
theorem wW_vi {cI : ClassId} {q : Nat → Nat} {M N : kM} (h : ∀ k, (k < 132 ∨ 240 ≤ k) → N k = M k) : kset (wW cI q M) [9, 10] (wVi cI q N) = wW cI q N := by
  have e1 : vs 0 N = vs 0 M := vs_congr fun k _ => h _ (by omega)
  have e2 : vs 1 N = vs 1 M := vs_congr fun k _ => h _ (by omega)
  have e3 : vs 2 N = vs 2 M := vs_congr fun k _ => h _ (by omega)
  have e4 : vw 54 36 N = vw 54 36 M := vw_congr fun k _ => h _ (by omega)
  have e4' : vw 90 36 N = vw 90 36 M := vw_congr fun k _ => h _ (by omega)
  have e4'' : vw 126 6 N = vw 126 6 M := vw_congr fun k _ => h _ (by omega)
  have e5 : vr N = vr M := vr_congr fun k _ => h _ (by omega)
  have e6 : vw 578 3 N = vw 578 3 M := vw_congr fun k _ => h _ (by omega)
  have e7 : vw 240 36 N = vw 240 36 M := vw_congr fun k _ => h _ (by omega)
  have e8 := h 576 (by omega)
  have e9 := h 577 (by omega)
  unfold wW
  rw [e1, e2, e3, e4, e4', e4'', e5, e6, e7, e8, e9]
  rfl
theorem wW_bl {cI : ClassId} {q : Nat → Nat} {M N : kM} (h : ∀ k, (k < 240 ∨ 276 ≤ k) → N k = M k) : (wW cI q M).set 14 (q 14, .inl (cI, 36, .inl (vw 240 36 N))) = wW cI q N := by
  have e1 : vs 0 N = vs 0 M := vs_congr fun k _ => h _ (by omega)
  have e2 : vs 1 N = vs 1 M := vs_congr fun k _ => h _ (by omega)
  have e3 : vs 2 N = vs 2 M := vs_congr fun k _ => h _ (by omega)
  have e4 : vw 54 36 N = vw 54 36 M := vw_congr fun k _ => h _ (by omega)
  have e4' : vw 90 36 N = vw 90 36 M := vw_congr fun k _ => h _ (by omega)
  have e4'' : vw 126 6 N = vw 126 6 M := vw_congr fun k _ => h _ (by omega)
  have e5 : vr N = vr M := vr_congr fun k _ => h _ (by omega)
  have e6 : vw 578 3 N = vw 578 3 M := vw_congr fun k _ => h _ (by omega)
  have e7 : vw 132 108 N = vw 132 108 M := vw_congr fun k _ => h _ (by omega)
  have e8 := h 576 (by omega)
  have e9 := h 577 (by omega)
  unfold wW
  rw [e1, e2, e3, e4, e4', e4'', e5, e6, e7, e8, e9]
  rfl
theorem wW_po {cI : ClassId} {q : Nat → Nat} {M N : kM} (h : ∀ k, k < 276 → N k = M k) : kset (wW cI q M) [11, 12, 13] (wPo cI q N) = wW cI q N := by
  have e1 : vs 0 N = vs 0 M := vs_congr fun k _ => h _ (by omega)
  have e2 : vs 1 N = vs 1 M := vs_congr fun k _ => h _ (by omega)
  have e3 : vs 2 N = vs 2 M := vs_congr fun k _ => h _ (by omega)
  have e4 : vw 54 36 N = vw 54 36 M := vw_congr fun k _ => h _ (by omega)
  have e4' : vw 90 36 N = vw 90 36 M := vw_congr fun k _ => h _ (by omega)
  have e4'' : vw 126 6 N = vw 126 6 M := vw_congr fun k _ => h _ (by omega)
  have e6 : vw 132 108 N = vw 132 108 M := vw_congr fun k _ => h _ (by omega)
  have e7 : vw 240 36 N = vw 240 36 M := vw_congr fun k _ => h _ (by omega)
  unfold wW
  rw [e1, e2, e3, e4, e4', e4'', e6, e7]
  rfl
/-- memories that agree below 581 are one world -/
theorem wW_congr {cI : ClassId} {q : Nat → Nat} {M N : kM} (h : ∀ k, k < 581 → N k = M k) : wW cI q N = wW cI q M := by
  have e1 : vs 0 N = vs 0 M := vs_congr fun k _ => h _ (by omega)
  have e2 : vs 1 N = vs 1 M := vs_congr fun k _ => h _ (by omega)
  have e3 : vs 2 N = vs 2 M := vs_congr fun k _ => h _ (by omega)
  have e4 : vw 54 36 N = vw 54 36 M := vw_congr fun k _ => h _ (by omega)
  have e4' : vw 90 36 N = vw 90 36 M := vw_congr fun k _ => h _ (by omega)
  have e4'' : vw 126 6 N = vw 126 6 M := vw_congr fun k _ => h _ (by omega)
  have e5 : vr N = vr M := vr_congr fun k _ => h _ (by omega)
  have e6 : vw 578 3 N = vw 578 3 M := vw_congr fun k _ => h _ (by omega)
  have e7 : vw 132 108 N = vw 132 108 M := vw_congr fun k _ => h _ (by omega)
  have e7' : vw 240 36 N = vw 240 36 M := vw_congr fun k _ => h _ (by omega)
  have e8 := h 576 (by omega)
  have e9 := h 577 (by omega)
  unfold wW
  rw [e1, e2, e3, e4, e4', e4'', e5, e6, e7, e7', e8, e9]
-- WHAT THE METHODS DO TO THE MEMORY, AND ANSWER
def g_on (M : kM) (a s : Nat) : Bool := decide (M (9 * a + 3 * s) = 1)
def g_cntN (M : kM) (a : Nat) : Nat → Int32
  | 0 => 0
  | s + 1 => g_cntN M a s + M (9 * a + 3 * s)
def g_cnt (M : kM) (a : Nat) : Int32 := g_cntN M a 3
def g_there (M : kM) (a : Nat) : Bool := decide (¬ g_cnt M a ≤ 0)
def g_md (M : kM) (a s : Nat) : Nat := (M (2 + 9 * a + 3 * s)).toNatClampNeg
def g_st (M : kM) (a b : Nat) : Int32 := M (54 + 6 * a + b)
def g_has (M : kM) (a b : Nat) (k : Int32) : Bool := decide (¬ (M (54 + 6 * a + b) &&& k) = 0)
def g_become (M : kM) (a b : Nat) (t : Int32) : kM := if M (54 + 6 * a + b) = t then M else upd (upd (upd M (54 + 6 * a + b) t) (126 + a) (M (126 + a) + 1)) (90 + 6 * a + b) (M (126 + a) + 1)
def g_apart (M : kM) (a b : Nat) : Bool := decide (M (240 + 6 * a + b) = 1) || decide (M (240 + 6 * b + a) = 1)
def g_forgetN (M : kM) (a b : Nat) : Nat → kM
  | 0 => M
  | s + 1 => upd (g_forgetN M a b s) (132 + 18 * a + 3 * b + s) (-1)
def g_forget (M : kM) (a b : Nat) : kM := g_forgetN M a b 3
def g_forgetAllN (M : kM) (a : Nat) : Nat → kM
  | 0 => M
  | b + 1 => g_forget (g_forgetAllN M a b) a b
def g_forgetAll (M : kM) (a : Nat) : kM := g_forgetAllN M a 6
def g_code (k f t s d : Nat) : Nat := k + 8 * f + 64 * t + 512 * s + 2048 * d
def g_put (M : kM) (code : Nat) : kM := if M 577 = nI 300 then upd (upd M 578 (M 578 + 1)) 580 (M 580 + 1) else upd (upd (upd M 578 (M 578 + 1)) (276 + (hdN M + wyN M) % 300) (nI code)) 577 (M 577 + 1)
def g_send (M : kM) (k f t s d : Nat) : kM := if g_apart M f t = true then M else g_put M (g_code k f t s d)
def g_showN (M : kM) (a b : Nat) : Nat → kM
  | 0 => M
  | s + 1 => if g_on (g_showN M a b s) a s = true then g_send (g_showN M a b s) 4 a b s (g_md (g_showN M a b s) a s) else g_showN M a b s
def g_show (M : kM) (a b : Nat) : kM := g_showN M a b 3
def g_hideN (M : kM) (a b : Nat) : Nat → kM
  | 0 => M
  | s + 1 => if g_on (g_hideN M a b s) a s = true then g_send (g_hideN M a b s) 5 a b s 0 else g_hideN M a b s
def g_hide (M : kM) (a b : Nat) : kM := g_hideN M a b 3
/-- to all users b from 0 on for whom the mark is set -/
def g_seersN (M : kM) (mk : Int32) (k a s d : Nat) : Nat → kM
  | 0 => M
  | b + 1 => if g_has (g_seersN M mk k a s d b) a b mk = true then g_send (g_seersN M mk k a s d b) k a b s d else g_seersN M mk k a s d b
def g_seers (M : kM) (mk : Int32) (k a s d : Nat) : kM := g_seersN M mk k a s d 6
def g_msg (M : kM) (i : Nat) : Nat := (M (276 + (hdN M + i) % 300)).toNatClampNeg
def g_arrive (M : kM) (c : Nat) : kM :=
  if g_apart M (c / 8 % 8) (c / 64 % 8) = true then M
  else if c % 8 = 0 then (if g_has M (c / 64 % 8) (c / 8 % 8) 2 = true then g_show (g_send M 1 (c / 64 % 8) (c / 8 % 8) 0 0) (c / 64 % 8) (c / 8 % 8) else g_become M (c / 64 % 8) (c / 8 % 8) (g_st M (c / 64 % 8) (c / 8 % 8) ||| 8))
  else if c % 8 = 1 then (if g_has M (c / 64 % 8) (c / 8 % 8) 4 = true then g_become M (c / 64 % 8) (c / 8 % 8) ((g_st M (c / 64 % 8) (c / 8 % 8) &&& (-5)) ||| 1) else M)
  else if c % 8 = 2 then (if g_has M (c / 64 % 8) (c / 8 % 8) 10 = true then g_hide (g_become M (c / 64 % 8) (c / 8 % 8) (g_st M (c / 64 % 8) (c / 8 % 8) &&& (-11))) (c / 64 % 8) (c / 8 % 8) else M)
  else if c % 8 = 3 then g_forget (g_become M (c / 64 % 8) (c / 8 % 8) (g_st M (c / 64 % 8) (c / 8 % 8) &&& (-6))) (c / 64 % 8) (c / 8 % 8)
  else if c % 8 = 4 then (if g_has M (c / 64 % 8) (c / 8 % 8) 1 = true ∧ g_there M (c / 64 % 8) = true then upd M (132 + 18 * (c / 64 % 8) + 3 * (c / 8 % 8) + c / 512 % 4) (nI (c / 2048)) else M)
  else if c % 8 = 5 then upd M (132 + 18 * (c / 64 % 8) + 3 * (c / 8 % 8) + c / 512 % 4) (-1)
  else if g_has M (c / 64 % 8) (c / 8 % 8) 2 = true then g_show M (c / 64 % 8) (c / 8 % 8) else g_send M 3 (c / 64 % 8) (c / 8 % 8) 0 0
def g_take (M : kM) : kM := upd (upd (upd M 576 (nI ((hdN M + 1) % 300))) 577 (M 577 - 1)) 579 (M 579 + 1)
def g_del : Nat → kM → kM
  | 0, M => M
  | k + 1, M => if wyN M = 0 then M else g_del k (g_arrive (g_take M) (g_msg M 0))
def g_delC : Nat → kM → Nat
  | 0, _ => 0
  | k + 1, M => if wyN M = 0 then 0 else g_delC k (g_arrive (g_take M) (g_msg M 0)) + 1
def g_shN (M : kM) (i : Nat) : Nat → kM
  | 0 => M
  | n + 1 => upd (g_shN M i n) (276 + (hdN M + (i + n)) % 300) (g_shN M i n (276 + (hdN M + (i + n + 1)) % 300))
def g_drop (M : kM) (i : Nat) : kM := upd (upd (g_shN M i (wyN M - 1 - i)) 577 (M 577 - 1)) 580 (M 580 + 1)
def g_ask (M : kM) (a b : Nat) : kM := if g_has M a b 5 = true then M else g_send (g_become M a b (g_st M a b ||| 4)) 0 a b 0 0
def g_grant (M : kM) (a b : Nat) : kM := if g_has M a b 8 = true then g_show (g_send (g_become M a b ((g_st M a b &&& (-9)) ||| 2)) 1 a b 0 0) a b else M
def g_refuse (M : kM) (a b : Nat) : kM := if g_has M a b 10 = true then (if g_has M a b 2 = true then g_hide (g_send (g_become M a b (g_st M a b &&& (-11))) 3 a b 0 0) a b else g_send (g_become M a b (g_st M a b &&& (-11))) 3 a b 0 0) else M
def g_stop (M : kM) (a b : Nat) : kM := if g_has M a b 5 = true then g_forget (g_send (g_become M a b (g_st M a b &&& (-6))) 2 a b 0 0) a b else M
def g_greet (M : kM) (a b : Nat) : kM := if g_has M a b 1 = true ∧ g_there M a = true then (if g_has M a b 2 = true then g_show (g_send M 6 a b 0 0) a b else g_send M 6 a b 0 0) else if g_has M a b 2 = true then g_show M a b else M
def g_block (M : kM) (a b : Nat) (v : Bool) : kM :=
  if M (240 + 6 * a + b) = kI v then M
  else if v = true then g_forget (upd (if g_has M a b 2 = true then g_hide M a b else M) (240 + 6 * a + b) 1) a b
  else g_greet (upd M (240 + 6 * a + b) 0) a b
def g_set (M : kM) (a s : Nat) (rk md : Int32) : kM := upd (upd (upd M (9 * a + 3 * s) 1) (1 + 9 * a + 3 * s) rk) (2 + 9 * a + 3 * s) md
def g_turnOn (M : kM) (a s : Nat) (rk : Int32) (d : Nat) : kM :=
  if g_there M a = true then g_seers (g_set M a s rk (nI d)) 2 4 a s d
  else g_seers (g_seers (g_forgetAll (g_set M a s rk (nI d)) a) 1 6 a 0 0) 2 4 a s d
def g_turnOff (M : kM) (a s : Nat) : kM :=
  if g_there (g_seers (upd M (9 * a + 3 * s) 0) 2 5 a s 0) a = true then g_seers (upd M (9 * a + 3 * s) 0) 2 5 a s 0
  else g_forgetAll (g_seers (upd M (9 * a + 3 * s) 0) 2 5 a s 0) a
def g_agr (M : kM) (a b : Nat) : Bool := (g_has M a b 1 == g_has M b a 2) && (g_has M b a 1 == g_has M a b 2) && (g_has M a b 4 == g_has M b a 8) && (g_has M b a 4 == g_has M a b 8)
/-- what is told of a message, by its number -/
def g_part (c wh : Nat) : Int32 := if wh = 0 then nI (c % 8) else if wh = 1 then nI (c / 8 % 8) else if wh = 2 then nI (c / 64 % 8) else if wh = 3 then (if c % 8 = 4 ∨ c % 8 = 5 then nI (c / 512 % 4) else -1) else (if c % 8 = 4 then nI (c / 2048) else -1)
def g_ofSeat (c : Nat) : Bool := decide (¬ g_part c 3 = -1)
