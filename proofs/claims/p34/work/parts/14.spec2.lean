/-! more of what the methods answer -/
def g_bst (M : kM) (a : Nat) : Nat → Int32 × Int32
  | 0 => (-1, -1)
  | s + 1 => if g_on M a s = true ∧ ¬ M (1 + 9 * a + 3 * s) ≤ (g_bst M a s).2 then (nI s, M (1 + 9 * a + 3 * s)) else g_bst M a s
theorem bst_ge {M : kM} {a : Nat} : ∀ s, -1 ≤ (g_bst M a s).2
  | 0 => show (-1 : Int32) ≤ -1 by decide
  | s + 1 => by
    have ih := bst_ge (M := M) (a := a) s
    unfold g_bst
    split
    · rename_i h
      have h2 := h.2
      rw [Int32.le_iff_toInt_le] at *
      show (-1 : Int32).toInt ≤ (M (1 + 9 * a + 3 * s)).toInt
      omega
    · exact ih
theorem bst_neg {M : kM} {a s k : Nat} (h : M k < 0) : M k ≤ (g_bst M a s).2 := by
  have h1 := bst_ge (M := M) (a := a) s
  rw [Int32.le_iff_toInt_le] at *
  rw [Int32.lt_iff_toInt_lt] at h
  have e1 : (-1 : Int32).toInt = -1 := by decide
  have e2 : (0 : Int32).toInt = 0 := by decide
  omega
def g_chgN (M : kM) (a : Nat) (v : Int32) : Nat → Nat
  | 0 => 0
  | b + 1 => g_chgN M a v b + (if M (90 + 6 * a + b) ≤ v then 0 else 1)
def g_rowC (M : kM) (a : Nat) : Nat → Nat
  | 0 => 0
  | j + 1 => g_rowC M a j + (if g_agr M a (a + 1 + j) = true then 1 else 0)
def g_allC (M : kM) : Nat → Nat
  | 0 => 0
  | a + 1 => g_allC M a + g_rowC M a (5 - a)
def g_rowM (M : kM) (a : Nat) : Nat → Nat
  | 0 => 0
  | b + 1 => g_rowM M a b + (if g_agr M a b = true then 1 else 0)
def g_allM (M : kM) : Nat → Nat
  | 0 => 0
  | a + 1 => g_allM M a + g_rowM M a a
def g_pairs (M : kM) : Nat := g_allM M 6
theorem agr_sym {M : kM} (a b : Nat) : g_agr M a b = g_agr M b a := by
  unfold g_agr
  cases g_has M a b 1 <;> cases g_has M b a 2 <;> cases g_has M b a 1 <;> cases g_has M a b 2 <;> cases g_has M a b 4 <;> cases g_has M b a 8 <;> cases g_has M b a 4 <;> cases g_has M a b 8 <;> rfl
theorem pairs_eq {M : kM} : g_allC M 6 = g_pairs M := by
  simp only [g_pairs, g_allC, g_allM, g_rowC, g_rowM]
  simp only [show (5 : Nat) - 0 = 5 from rfl, show (5 : Nat) - 1 = 4 from rfl, show (5 : Nat) - 2 = 3 from rfl, show (5 : Nat) - 3 = 2 from rfl, show (5 : Nat) - 4 = 1 from rfl, show (5 : Nat) - 5 = 0 from rfl, g_rowC, Nat.reduceAdd]
  simp only [agr_sym (M := M) 1 0, agr_sym (M := M) 2 0, agr_sym (M := M) 2 1, agr_sym (M := M) 3 0, agr_sym (M := M) 3 1, agr_sym (M := M) 3 2, agr_sym (M := M) 4 0, agr_sym (M := M) 4 1, agr_sym (M := M) 4 2, agr_sym (M := M) 4 3, agr_sym (M := M) 5 0, agr_sym (M := M) 5 1, agr_sym (M := M) 5 2, agr_sym (M := M) 5 3, agr_sym (M := M) 5 4, Nat.zero_add, Nat.add_zero]
  omega
theorem rowC_le {M : kM} {a : Nat} : ∀ j, g_rowC M a j ≤ j
  | 0 => Nat.le_refl 0
  | j + 1 => by
    have := rowC_le (M := M) (a := a) j
    unfold g_rowC
    split <;> omega
theorem allC_le {M : kM} : ∀ a, g_allC M a ≤ 5 * a
  | 0 => Nat.le_refl 0
  | a + 1 => by
    have h1 := allC_le (M := M) a
    have h2 := rowC_le (M := M) (a := a) (5 - a)
    unfold g_allC
    omega
theorem pairs_le {M : kM} : g_pairs M ≤ 30 := by
  rw [← pairs_eq]
  exact allC_le 6
def g_hv (M : kM) (a b : Nat) : Nat → Bool
  | 0 => false
  | s + 1 => g_hv M a b s || decide (¬ M (132 + 18 * a + 3 * b + s) = -1)
theorem hv_up {M : kM} {a b : Nat} : ∀ (n i : Nat), g_hv M a b i = true → g_hv M a b (i + n) = true
  | 0, _, h => h
  | n + 1, i, h => by
    have := hv_up (M := M) (a := a) (b := b) n i h
    show (g_hv M a b (i + n) || _) = true
    rw [this]
    rfl
theorem hv_true {M : kM} {a b i : Nat} (hi : i < 3) (h : g_hv M a b (i + 1) = true) : kI (g_hv M a b 3) = 1 := by
  have := hv_up (M := M) (a := a) (b := b) (2 - i) (i + 1) h
  rw [show i + 1 + (2 - i) = 3 by omega] at this
  rw [this]
  rfl
def g_visR (M : kM) (a : Nat) : Nat → Nat
  | 0 => 0
  | b + 1 => g_visR M a b + (if g_hv M a b 3 = true then 1 else 0)
def g_visA (M : kM) : Nat → Nat
  | 0 => 0
  | a + 1 => g_visA M a + g_visR M a 6
theorem visR_le {M : kM} {a : Nat} : ∀ b, g_visR M a b ≤ b
  | 0 => Nat.le_refl 0
  | b + 1 => by
    have := visR_le (M := M) (a := a) b
    unfold g_visR
    split <;> omega
theorem visA_le {M : kM} : ∀ a, g_visA M a ≤ 6 * a
  | 0 => Nat.le_refl 0
  | a + 1 => by
    have h1 := visA_le (M := M) a
    have h2 := visR_le (M := M) (a := a) 6
    unfold g_visA
    omega
def g_iw (v : Int32) (on sees there : Bool) (md : Int32) : Bool := if v = -1 then sees && there && on else !on || !sees || decide (¬ v = md)
def g_wrR (M : kM) (a b : Nat) : Nat → Nat
  | 0 => 0
  | s + 1 => g_wrR M a b s + (if g_iw (M (132 + 18 * a + 3 * b + s)) (g_on M b s) (g_has M a b 1) (g_there M a) (M (2 + 9 * b + 3 * s)) = true then 1 else 0)
def g_wrA (M : kM) (a : Nat) : Nat → Nat
  | 0 => 0
  | b + 1 => g_wrA M a b + (if b = a then 0 else g_wrR M a b 3)
theorem match_k : ∀ n, n < 16 → ∀ m, m < 16 → (decide (nI n = ((nI m &&& 5) <<< ((1 : Int32) &&& 31)) ||| ((nI m &&& 10) >>> ((1 : Int32) &&& 31))) = ((decide (¬ (nI n &&& 1) = 0) == decide (¬ (nI m &&& 2) = 0)) && (decide (¬ (nI m &&& 1) = 0) == decide (¬ (nI n &&& 2) = 0)) && (decide (¬ (nI n &&& 4) = 0) == decide (¬ (nI m &&& 8) = 0)) && (decide (¬ (nI m &&& 4) = 0) == decide (¬ (nI n &&& 8) = 0)))) := by decide
theorem match_e {M : kM} (h : kInv M) {a b : Nat} (ha : a < 6) (hb : b < 6) : g_agr M a b = decide (M (54 + 6 * a + b) = ((M (54 + 6 * b + a) &&& 5) <<< ((1 : Int32) &&& 31)) ||| ((M (54 + 6 * b + a) &&& 10) >>> ((1 : Int32) &&& 31))) := by
  obtain ⟨n, hn, en⟩ := i_st h ha hb
  obtain ⟨m, hm, em⟩ := i_st h hb ha
  unfold g_agr g_has
  rw [en, em]
  exact (match_k n hn m hm).symm
theorem part_none {c wh : Nat} (h : (wh = 3 ∧ ¬ c % 8 = 4 ∧ ¬ c % 8 = 5) ∨ (wh = 4 ∧ ¬ c % 8 = 4)) : g_part c wh = -1 := by
  unfold g_part
  rcases h with ⟨rfl, h1, h2⟩ | ⟨rfl, h1⟩
  · simp [h1, h2]
  · simp [h1]
theorem part_some {c wh : Nat} (hw : wh < 5) (h : ¬ ((wh = 3 ∧ ¬ c % 8 = 4 ∧ ¬ c % 8 = 5) ∨ (wh = 4 ∧ ¬ c % 8 = 4))) : g_mp c wh = g_part c wh := by
  unfold g_part g_mp
  split
  · rfl
  split
  · rfl
  split
  · rfl
  split
  · rw [if_pos (by omega)]
  · rw [if_pos (by omega)]
def g_mix (h : Int64) (v : Int32) : Int64 := 31 * h + v.toInt64
def xu (x : Nat → Int32) (k : Nat) (v : Int32) : Nat → Int32 := fun j => if j = k then v else x j
abbrev wMA (cI : ClassId) (z : Nat → Nat) (x : Nat → Int32) (hh : Int64) (M Sp Ot Sv Tx : Nat → Int32) : va_W := [(z 0, .inr (7, [.ref (z 1), .ref (z 2), .ref (z 3), .ref (z 4), .int (x 4), .ref (z 5), .int (x 6), .int (x 7), .int (x 8), .long hh])), (z 1, .inl (cI, 581, .inl M)), (z 2, .inl (cI, 581, .inl Sp)), (z 3, .inl (cI, 581, .inl Ot)), (z 4, .inl (cI, 2324, .inl Sv)), (z 5, .inl (cI, 100, .inl Tx))]
theorem wMA_adr {cI : ClassId} {z : Nat → Nat} {x x' : Nat → Int32} {hh hh' : Int64} {M Sp Ot Sv Tx M' Sp' Ot' Sv' Tx' : Nat → Int32} : (wMA cI z x' hh' M' Sp' Ot' Sv' Tx').map (·.1) = (wMA cI z x hh M Sp Ot Sv Tx).map (·.1) := rfl
theorem wMA_all {cI : ClassId} {z : Nat → Nat} {x x' : Nat → Int32} {hh hh' : Int64} {M Sp Ot Sv Tx M' Sp' Ot' Sv' Tx' : Nat → Int32} : kset (wMA cI z x hh M Sp Ot Sv Tx) [0, 1, 2, 3, 4, 5] (wMA cI z x' hh' M' Sp' Ot' Sv' Tx') = wMA cI z x' hh' M' Sp' Ot' Sv' Tx' := rfl
theorem wMA_allC {cI : ClassId} {z : Nat → Nat} {x : Nat → Int32} {hh : Int64} {M Sp Ot Sv Tx : Nat → Int32} : [0, 1, 2, 3, 4, 5].map (fun i => (wMA cI z x hh M Sp Ot Sv Tx)[i]?) = (wMA cI z x hh M Sp Ot Sv Tx).map some := rfl
theorem wMA_MoC {cI : ClassId} {z : Nat → Nat} {x : Nat → Int32} {hh : Int64} {M Sp Ot Sv Tx : Nat → Int32} : [0, 1].map (fun i => (wMA cI z x hh M Sp Ot Sv Tx)[i]?) = (wMo cI z x hh M).map some := rfl
theorem wMA_Mo {cI : ClassId} {z : Nat → Nat} {x x' : Nat → Int32} {hh hh' : Int64} {M M' Sp Ot Sv Tx : Nat → Int32} : kset (wMA cI z x hh M Sp Ot Sv Tx) [0, 1] (wMo cI z x' hh' M') = wMA cI z x' hh' M' Sp Ot Sv Tx := rfl
theorem wMo_adr2 {cI : ClassId} {z : Nat → Nat} {x x' : Nat → Int32} {hh hh' : Int64} {M N : kM} : (wMo cI z x' hh' N).map (·.1) = (wMo cI z x hh M).map (·.1) := rfl
theorem wMo_all2 {cI : ClassId} {z : Nat → Nat} {x x' : Nat → Int32} {hh hh' : Int64} {M N : kM} : kset (wMo cI z x hh M) [0, 1] (wMo cI z x' hh' N) = wMo cI z x' hh' N := rfl
theorem usr_ok {a : Nat} (h : a < 6) : g_usr (nI a) = true := by
  unfold g_usr g_in
  have h1 : ¬ nI a < 0 := nI_pos (by omega)
  have h2 : ¬ (5 : Int32) < nI a := nI_nlt (a := 5) (b := a) (by omega) (by omega)
  simp [h1, h2]
theorem why_ok {a b : Nat} (ha : a < 6) (hb : b < 6) (hne : a ≠ b) : g_why (nI a) (nI b) = nI 0 := by
  unfold g_why
  rw [if_pos ⟨usr_ok ha, usr_ok hb⟩, if_neg (fun h => hne ((nI_eq (by omega) (by omega)).mp h))]
  rfl
theorem in_ok {v lo hi : Nat} (h1 : lo ≤ v) (h2 : v ≤ hi) (h3 : hi < 2 ^ 31) : g_in (nI v) (nI lo) (nI hi) = true := by
  unfold g_in
  have h4 : ¬ nI v < nI lo := nI_nlt h1 (by omega)
  have h5 : ¬ nI hi < nI v := nI_nlt h2 (by omega)
  simp [h4, h5]
theorem in_no {v lo hi : Nat} (h2 : hi < v) (h3 : v < 2 ^ 31) : g_in (nI v) (nI lo) (nI hi) = false := by
  unfold g_in
  have h5 : nI hi < nI v := nI_lt h2 h3
  simp [h5]
theorem seat_ok {a s : Nat} (ha : a < 6) (hs : s < 3) : g_seatok (nI a) (nI s) = true := by
  unfold g_seatok
  rw [usr_ok ha]
  have := in_ok (v := s) (lo := 0) (hi := 2) (by omega) (by omega) (by omega)
  exact this
/-- the reference's row, brought over; what is saved -/
theorem cpy_up {f g : Nat → Int32} {at_ pl k : Nat} : upd (va_cpy f g at_ pl k) (pl + k) (f (at_ + k)) = va_cpy f g at_ pl (k + 1) := by
  funext j
  unfold upd va_cpy
  by_cases h : j = pl + k
  · subst h
    rw [if_pos rfl, if_pos (by omega)]
    congr 1
    omega
  · rw [if_neg h]
    by_cases h2 : pl ≤ j ∧ j < pl + k
    · rw [if_pos h2, if_pos (by omega)]
    · rw [if_neg h2, if_neg (by omega)]
theorem cpy_0 {f g : Nat → Int32} {at_ pl : Nat} : va_cpy f g at_ pl 0 = g := by
  funext j
  unfold va_cpy
  rw [if_neg (by omega)]
def g_shS (S : Nat → Int32) (n : Nat) : Nat → Int32 := fun j => if j < n then S (j + 581) else S j
theorem shS_0 {S : Nat → Int32} : g_shS S 0 = S := by funext j; simp [g_shS]
theorem shS_at {S : Nat → Int32} {n : Nat} : g_shS S n (n + 581) = S (n + 581) := by
  unfold g_shS
  rw [if_neg (by omega)]
theorem shS_up {S : Nat → Int32} {n : Nat} : upd (g_shS S n) n (S (n + 581)) = g_shS S (n + 1) := by
  funext j
  unfold upd g_shS
  by_cases h : j = n
  · subst h
    rw [if_pos rfl, if_pos (by omega)]
  · rw [if_neg h]
    by_cases h2 : j < n
    · rw [if_pos h2, if_pos (by omega)]
    · rw [if_neg h2, if_neg (by omega)]
/-- two rows of ints: from one to the other -/
abbrev wBr (cI : ClassId) (a b na nb : Nat) (f g : Nat → Int32) : va_W := [(a, .inl (cI, na, .inl f)), (b, .inl (cI, nb, .inl g))]
theorem wBr_adr {cI : ClassId} {a b na nb : Nat} {f g g' : Nat → Int32} : (wBr cI a b na nb f g').map (·.1) = (wBr cI a b na nb f g).map (·.1) := rfl
def g_kn (n : Nat) : Nat := if n = 4 then 4 else n + 1
def g_keep (S : Nat → Int32) (M : kM) (n : Nat) : Nat → Int32 := va_cpy M (if n = 4 then g_shS S 1743 else S) 0 (581 * (g_kn n - 1)) 581
theorem keep_4 {S : Nat → Int32} {M : kM} : g_keep S M 4 = va_cpy M (g_shS S 1743) 0 1743 581 := rfl
theorem keep_n {S : Nat → Int32} {M : kM} {n : Nat} (h : ¬ n = 4) : g_keep S M n = va_cpy M S 0 (581 * n) 581 := by
  unfold g_keep g_kn
  rw [if_neg h, if_neg h]
  rfl
theorem kn_n {n : Nat} (h : ¬ n = 4) : g_kn n = n + 1 := if_neg h
theorem nI_m1 {n : Nat} (h : n < 2 ^ 31) : ¬ nI n = -1 := by
  intro q
  have h1 := nI_pos (n := n) h
  rw [q] at h1
  exact h1 (by decide)
theorem kI_is {b : Bool} {n : Nat} (h : b = true) (hn : n = 1) : kI b = nI n := by rw [h, hn]; rfl
theorem kI_no {b : Bool} {n : Nat} (h : b = false) (hn : n = 0) : kI b = nI n := by rw [h, hn]; rfl
theorem msg_ok {M : kM} (h : kInv M) {i : Nat} (hi : i < wyN M) : g_in (nI i) 0 (M 577 - 1) = true := by
  rw [i_dec h (by omega)]
  exact in_ok (lo := 0) (by omega) (by omega) (by have := i_wyle h; omega)
theorem ge_of_nlt {v : Int32} (h : ¬ v < 0) : 0 ≤ v := by
  rw [Int32.lt_iff_toInt_lt] at h
  rw [Int32.le_iff_toInt_le]
  omega
theorem nlt_of_ge {v : Int32} (h : 0 ≤ v) : ¬ v < 0 := by
  rw [Int32.le_iff_toInt_le] at h
  rw [Int32.lt_iff_toInt_lt]
  omega
theorem wr_0 {M : kM} {a i : Nat} : g_wrA M a i = g_wrA M a i + (if i = a then 0 else g_wrR M a i 0) := by
  split <;> rfl
theorem upd_has {M : kM} {a b j : Nat} {mk v : Int32} (ha : a < 6) (hb : b < 6) (hj : 240 ≤ j) : g_has (upd M j v) a b mk = g_has M a b mk := by
  unfold g_has
  rw [upd_ne (by omega)]
def g_mixl (h v : Int64) : Int64 := 31 * h + v
def g_hK (M : kM) (a : Nat) (h : Int64) : Nat → Int64
  | 0 => h
  | k + 1 => g_mix (g_hK M a h k) (M (9 * a + k))
theorem hK_up {M : kM} {a k j : Nat} {h : Int64} (e : 9 * a + k = j) : g_mix (g_hK M a h k) (M j) = g_hK M a h (k + 1) := by subst e; rfl
def g_hV (M : kM) (a b : Nat) (h : Int64) : Nat → Int64
  | 0 => h
  | s + 1 => g_mix (g_hV M a b h s) (M (132 + 18 * a + 3 * b + s))
def g_hP (M : kM) (a b : Nat) (h : Int64) : Int64 := g_hV M a b (g_mix (g_mix (g_mix h (g_st M a b)) (M (90 + 6 * a + b))) (M (240 + 6 * a + b))) 3
def g_hO (M : kM) (a : Nat) (h : Int64) : Nat → Int64
  | 0 => h
  | b + 1 => if b = a then g_hO M a h b else g_hP M a b (g_hO M a h b)
def g_hU (M : kM) (a : Nat) (h : Int64) : Int64 := g_hO M a (g_hK M a (g_mix h (M (126 + a))) 9) 6
def g_hA (M : kM) (h : Int64) : Nat → Int64
  | 0 => h
  | a + 1 => g_hU M a (g_hA M h a)
def g_hC (M : kM) (h : Int64) : Nat → Int64
  | 0 => h
  | w + 1 => g_mix (g_hC M h w) (M (578 + w))
def g_hM1 (M : kM) (i : Nat) (h : Int64) : Nat → Int64
  | 0 => h
  | w + 1 => g_mix (g_hM1 M i h w) (g_part (g_msg M i) w)
def g_hM (M : kM) (h : Int64) : Nat → Int64
  | 0 => h
  | i + 1 => g_hM1 M i (g_hM M h i) 5
def g_hPost (M : kM) (h : Int64) : Int64 := g_hM M (g_mix (g_hC M h 3) (M 577)) (wyN M)
def g_digest (M : kM) (len n : Int32) : Int64 := g_mix (g_hPost M (g_hA M (g_mix 3191 len) 6)) n
theorem hO_eq {M : kM} {a b : Nat} {h : Int64} (e : b = a) : g_hO M a h b = g_hO M a h (b + 1) := by
  show _ = if b = a then g_hO M a h b else g_hP M a b (g_hO M a h b)
  rw [if_pos e]
theorem hO_ne {M : kM} {a b : Nat} {h : Int64} (e : ¬ b = a) : g_hP M a b (g_hO M a h b) = g_hO M a h (b + 1) := by
  show _ = if b = a then g_hO M a h b else g_hP M a b (g_hO M a h b)
  rw [if_neg e]
theorem hM_577 {M : kM} (h : kInv M) {x : Int64} : g_mix x (nI (wyN M)) = g_mix x (M 577) := by rw [i_wy h]
theorem kr_putl {p : Program} {l : Launch} {e : Env} {R : Room} {s : State} {m : MethodId} {args : Array Value} {below : List Frame} {meth : Method} {c : Code} {cc : ByteArray} {H H0 : Heap} {locs : List Loc} {cells slots : Nat} {Q : State → Prop} {pc : Nat} {ls : Array Slot} {rest : List Value} {D : va_G} {cl : List vw_C} {tys : List (ClassId × FieldType)} {ws : va_W} {A : Nat → Prop} (hx : p.tables.exec = Jvm.exec) (hb : c.code = cc) {own C : String} {T : u_T} {N ci index a : Nat} {Ts : List Cond} (hts : ∀ w ∈ Ts, w.before args s = true) (hin : ∀ w ∈ u_ws C T N, w ∈ Ts) (ty0 : Nat → FieldType) (hty : ∀ k, k < N → parseFieldDescriptor (T k).2.2.1 = some (ty0 k)) (hnm : ∀ a, a < N → ∀ b, b < N → a ≠ b → (T a).2.1 ≠ (T b).2.1) (hown : s.vm.findClass own = some m.cls) (hK : va_K D cl tys s) (hP : va_P D cl ws H) (hD : va_D A ws) (hS : va_S A H0 H locs) (q0 : Nat) {fs : List Value} (he : ws[q0]? = some (a, .inr (ci, fs))) (hc : cl[ci]? = some (C, T, N)) (k : Nat) (hk : k < N) (hlink : Cond.fieldLink own index (T k).1 (T k).2.1 (T k).2.2.1 ∈ Ts) (hfin : (T k).2.2.2 = false) {v : Int64} (hi : ty0 k = .long) (hfs : fs.length = N) {ws2 : va_W} (hw : ws.set q0 (a, .inr (ci, fs.set k (.long v))) = ws2) (hdg : decode cc pc = .ok (.putfield index, 3))
    (kk : ∀ (H1 : Heap) (locs1 : List Loc), va_P D cl ws2 H1 → va_D A ws2 → va_S A H0 H1 locs1 → W p l e R s m args below meth c H1 locs1 cells slots Q (F0 m (pc + 3) ls rest)) : W p l e R s m args below meth c H locs cells slots Q (F0 m pc ls (.long v :: .ref a :: rest)) := by
  subst hw
  exact va_put (ty := .long) hx hb hts hin ty0 hty hnm hown hK hP hD hS q0 he hc k hk (hts _ hlink) (fun _ h9 => h9) hfin ((hty k hk).trans (by rw [hi])) rfl rfl (by omega) hdg kk
