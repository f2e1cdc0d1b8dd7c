/-! the script's text: a row of bytes on one side, of ints on the other; the same numbers -/
def ch (T : Nat → Int32) (i : Nat) : Nat := (T i).toNatClampNeg
def kTx (T : Nat → Int32) : Prop := ∀ i, i < 100 → ∃ n, n < 128 ∧ T i = nI n
theorem t_ch {T : Nat → Int32} (h : kTx T) {i : Nat} (hi : i < 100) : T i = nI (ch T i) := by
  obtain ⟨n, h1, h2⟩ := h i hi
  unfold ch
  rw [nI_back h2 (by omega)]
  exact h2
theorem t_lt {T : Nat → Int32} (h : kTx T) {i : Nat} (hi : i < 100) : ch T i < 128 := by
  obtain ⟨n, h1, h2⟩ := h i hi
  unfold ch
  rw [nI_back h2 (by omega)]
  exact h1
theorem t_upd {T : Nat → Int32} (h : kTx T) {k v : Nat} (hv : v < 128) : kTx (upd T k (nI v)) := by
  intro i hi
  by_cases e : i = k
  · subst e
    exact ⟨v, hv, upd_eq⟩
  · rw [upd_ne e]
    exact h i hi
theorem by_nar : ∀ v, v < 128 → vp_nar .byte (nI v) = nI v := by decide
theorem by_i2b : ∀ v, v < 128 → (nI v).toInt8.toInt32 = nI v := by decide
def c_isl (c : Nat) : Bool := decide (c = 97 ∨ c = 100 ∨ c = 103 ∨ c = 105 ∨ c = 111 ∨ c = 114 ∨ c = 115)
def c_dig (c lim : Nat) : Bool := decide (48 ≤ c ∧ c < 48 + lim)
def c_snd (l f s : Nat) : Bool := if l = 100 then c_dig s 10 else if l = 105 ∨ l = 111 then c_dig s 3 else c_dig s 6 && decide (¬ s = f)
def c_can (T : Nat → Int32) (i : Nat) : Bool := if i % 4 = 0 then c_isl (ch T i) else if i % 4 = 1 then c_dig (ch T i) (if ch T (4 * (i / 4)) = 100 then 10 else 6) else if i % 4 = 2 then c_snd (ch T (4 * (i / 4))) (ch T (4 * (i / 4) + 1)) (ch T (4 * (i / 4) + 2)) else decide (ch T i = 59)
theorem below_1 : ∀ c, c < 128 → (nI c - 48 < 0 ↔ c < 48) := by decide
theorem sub48 {c d : Nat} (hc : c < 128) (hd : d < 128) : nI c - 48 = nI d - 48 ↔ c = d := by
  constructor
  · intro h
    have h2 : nI c = nI d := by
      have h3 := congrArg (fun z : Int32 => z + 48) h
      simpa using h3
    exact (nI_eq (by omega) (by omega)).mp h2
  · intro h
    rw [h]
theorem below_2 {c lim : Nat} (hc : c < 128) (h : 48 ≤ c) (hl : lim < 128) : nI lim ≤ nI c - 48 ↔ lim ≤ c - 48 := by
  have e : nI c - 48 = nI (c - 48) := pk_sub (a := c) (b := 48) h
  rw [e]
  exact nI_leI (by omega) (by omega)
theorem dig_e {c lim : Nat} (hc : c < 128) (hl : lim < 128) : c_dig c lim = (decide (¬ nI c - 48 < 0) && decide (¬ nI lim ≤ nI c - 48)) := by
  unfold c_dig
  by_cases h : c < 48
  · have h1 := (below_1 c hc).mpr h
    simp [h1]
    omega
  · have h1 : ¬ nI c - 48 < 0 := fun q => h ((below_1 c hc).mp q)
    have h2 := below_2 (lim := lim) hc (by omega) hl
    by_cases h3 : lim ≤ c - 48
    · have h4 := h2.mpr h3
      simp [h1, h4]
      omega
    · have h4 : ¬ nI lim ≤ nI c - 48 := fun q => h3 (h2.mp q)
      simp [h1, h4]
      omega
/-- where the text goes wrong: the first place below L that can't stand, else the end *-/
def c_first (T : Nat → Int32) (L : Nat) : Nat → Nat → Option Nat
  | _, 0 => none
  | i, n + 1 => if c_can T i = true then c_first T L (i + 1) n else some i
def c_err (T : Nat → Int32) (L : Nat) : Int32 := match c_first T L 0 L with
  | some i => nI i
  | none => if L % 4 = 0 then -1 else nI L
abbrev wSc (cB : ClassId) (t : Nat → Nat) (L : Nat) (T : Nat → Int32) : va_W := [(t 0, .inr (2, [.ref (t 1), .int (nI L)])), (t 1, .inl (cB, 100, .inl T))]
theorem wSc_adr {cB : ClassId} {t : Nat → Nat} {L L' : Nat} {T T' : Nat → Int32} : (wSc cB t L' T').map (·.1) = (wSc cB t L T).map (·.1) := rfl
theorem wSc_all {cB : ClassId} {t : Nat → Nat} {L L' : Nat} {T T' : Nat → Int32} : kset (wSc cB t L T) [0, 1] (wSc cB t L' T') = wSc cB t L' T' := rfl
theorem wSc_allC {cB : ClassId} {t : Nat → Nat} {L : Nat} {T : Nat → Int32} : [0, 1].map (fun i => (wSc cB t L T)[i]?) = (wSc cB t L T).map some := rfl
section KT
variable {p : Program} {l : Launch} {e : Env} {R : Room} {s : State} {m : MethodId} {args : Array Value} {below : List Frame} {meth : Method} {c : Code} {cc : ByteArray} {H H0 : Heap} {locs : List Loc} {cells slots : Nat} {Q : State → Prop} {pc : Nat} {ls : Array Slot} {rest st0 : List Value} {D : va_G} {cl : List vw_C} {tys : List (ClassId × FieldType)} {ws : va_W} {A : Nat → Prop}
theorem kr_bald (hx : p.tables.exec = Jvm.exec) (hb : c.code = cc) (hK : va_K D cl tys s) (hP : va_P D cl ws H) (q0 t0 : Nat) {a : Nat} {cA : ClassId} {n : Nat} {f : Nat → Int32} (ha : ws[q0]? = some (a, .inl (cA, n, .inl f))) (ht : tys[t0]? = some (cA, .byte)) {k : Nat} {v : Int32} (hk : k < n) (hn : n < 2 ^ 31) (hv : f k = v) (hdg : decode cc pc = .ok (.baload, 1))
    (kk : W p l e R s m args below meth c H locs cells slots Q (F0 m (pc + 1) ls (.int v :: rest))) : W p l e R s m args below meth c H locs cells slots Q (F0 m pc ls (.int (nI k) :: .ref a :: rest)) := va_bald hx hb hK hP q0 t0 ha ht (vp_in_nI hk hn) hdg (by rw [nI_clamp (Nat.lt_trans hk hn), hv]; exact kk)
theorem kr_bast (hx : p.tables.exec = Jvm.exec) (hb : c.code = cc) (hK : va_K D cl tys s) (hP : va_P D cl ws H) (hD : va_D A ws) (hS : va_S A H0 H locs) (q0 t0 : Nat) {a : Nat} {cA : ClassId} {n : Nat} {f f2 : Nat → Int32} (ha : ws[q0]? = some (a, .inl (cA, n, .inl f))) (ht : tys[t0]? = some (cA, .byte)) {k : Nat} {x : Int32} (hk : k < n) (hn : n < 2 ^ 31) (hf : upd f k (vp_nar .byte x) = f2) {ws2 : va_W} (hw : ws.set q0 (a, .inl (cA, n, .inl f2)) = ws2) (hdg : decode cc pc = .ok (.bastore, 1))
    (kk : ∀ (H1 : Heap) (locs1 : List Loc), va_P D cl ws2 H1 → va_D A ws2 → va_S A H0 H1 locs1 → W p l e R s m args below meth c H1 locs1 cells slots Q (F0 m (pc + 1) ls rest)) : W p l e R s m args below meth c H locs cells slots Q (F0 m pc ls (.int x :: .int (nI k) :: .ref a :: rest)) := by
  subst hw
  subst hf
  refine va_bast hx hb hK hP hD hS q0 t0 ha ht (vp_in_nI hk hn) hdg (fun H1 locs1 h1 h2 h3 => ?_)
  rw [nI_clamp (Nat.lt_trans hk hn)] at h1 h2
  exact kk H1 locs1 h1 h2 h3
end KT
theorem first_none {T : Nat → Int32} {L : Nat} : ∀ (n i : Nat), (∀ j, i ≤ j → j < i + n → c_can T j = true) → c_first T L i n = none
  | 0, _, _ => rfl
  | n + 1, i, h => by
    show (if c_can T i = true then c_first T L (i + 1) n else some i) = none
    rw [if_pos (h i (by omega) (by omega))]
    exact first_none n (i + 1) (fun j h1 h2 => h j (by omega) (by omega))
theorem first_some {T : Nat → Int32} {L k : Nat} (hk : ¬ c_can T k = true) : ∀ (n i : Nat), i ≤ k → k < i + n → (∀ j, i ≤ j → j < k → c_can T j = true) → c_first T L i n = some k
  | 0, i, h1, h2, _ => by omega
  | n + 1, i, h1, h2, h => by
    show (if c_can T i = true then c_first T L (i + 1) n else some i) = some k
    by_cases e : i = k
    · subst e
      rw [if_neg hk]
    · rw [if_pos (h i (by omega) (by omega))]
      exact first_some hk n (i + 1) (by omega) (by omega) (fun j h3 h4 => h j (by omega) h4)
theorem err_at {T : Nat → Int32} {L k : Nat} (hL : k < L) (h : ∀ j, j < k → c_can T j = true) (hk : c_can T k = false) : c_err T L = nI k := by
  unfold c_err
  rw [first_some (by simp [hk]) L 0 (by omega) (by omega) (fun j _ h2 => h j h2)]
theorem err_end {T : Nat → Int32} {L : Nat} (h : ∀ j, j < L → c_can T j = true) : c_err T L = if L % 4 = 0 then -1 else nI L := by
  unfold c_err
  rw [first_none L 0 (fun j _ h2 => h j (by omega))]
theorem isl_no {c : Nat} (h : ¬ (c = 97 ∨ c = 100 ∨ c = 103 ∨ c = 105 ∨ c = 111 ∨ c = 114 ∨ c = 115)) : nI 0 = kI (c_isl c) := by
  rw [show c_isl c = false from decide_eq_false h]
  rfl
theorem snd_o {l f s : Nat} (h1 : l ≠ 100) (h2 : l ≠ 105) (h3 : l ≠ 111) : c_snd l f s = (c_dig s 6 && decide (¬ s = f)) := by
  unfold c_snd
  rw [if_neg h1, if_neg (by omega)]
theorem lk3 {l : Nat} (hl : l < 128) (h1 : l ≠ 100) (h2 : l ≠ 105) (h3 : l ≠ 111) : Op.lookupswitch.offset (#[((100 : Int), (35 : Int)), (105, 42), (111, 42)]).toList 48 (nI l).toInt = 48 := by
  have e1 : ¬ nI l = nI 100 := fun q => h1 ((nI_eq (by omega) (by omega)).mp q)
  have e2 : ¬ nI l = nI 105 := fun q => h2 ((nI_eq (by omega) (by omega)).mp q)
  have e3 : ¬ nI l = nI 111 := fun q => h3 ((nI_eq (by omega) (by omega)).mp q)
  show Op.lookupswitch.offset [(100, 35), (105, 42), (111, 42)] 48 (nI l).toInt = 48
  rw [lv_osw e1 (by decide), lv_osw e2 (by decide), lv_osw e3 (by decide)]
  rfl
def c_usr (c : Nat) : Bool := decide (c = 97 ∨ c = 103 ∨ c = 114 ∨ c = 115)
theorem gin_dig {c mo : Nat} (hc : c < 128) (hm : mo < 10) : g_in (nI c) 48 (nI (48 + mo)) = c_dig c (mo + 1) := by
  unfold g_in c_dig
  have h1 : nI c < nI 48 ↔ c < 48 := nI_ltI (by omega) (by omega)
  have h2 : nI (48 + mo) < nI c ↔ 48 + mo < c := nI_ltI (by omega) (by omega)
  have e48 : (48 : Int32) = nI 48 := rfl
  rw [e48]
  by_cases g1 : c < 48
  · have := h1.mpr g1
    simp [this]
    omega
  · have g2 : ¬ nI c < nI 48 := fun q => g1 (h1.mp q)
    by_cases g3 : 48 + mo < c
    · have := h2.mpr g3
      simp [g2, this]
      omega
    · have g4 : ¬ nI (48 + mo) < nI c := fun q => g3 (h2.mp q)
      simp [g2, g4]
      omega
/-- how far the reference reads an order that begins at i: i + 4, or where the fault stands -/
def r_pos (T : Nat → Int32) (L i : Nat) : Nat :=
  if c_isl (ch T i) = false then i
  else if ¬ i + 1 < L ∨ c_dig (ch T (i + 1)) (if ch T i = 100 then 10 else 6) = false then i + 1
  else if ¬ i + 2 < L ∨ c_snd (ch T i) (ch T (i + 1)) (ch T (i + 2)) = false then i + 2
  else if ¬ i + 3 < L ∨ ¬ ch T (i + 3) = 59 then i + 3
  else i + 4
theorem an_f {b d : Bool} (h : (b && d) = false) (hb : b = true) : d = false := by subst hb; exact h
theorem an_t {b d : Bool} (h : (b && d) = true) : b = true ∧ d = true := by simpa using h
theorem su_f {b d e : Bool} (h : (b && d) = false) : (b && (d && e)) = false := by revert h; cases b <;> cases d <;> simp
theorem su_e {b d e : Bool} (h : e = false) : (b && (d && e)) = false := by subst h; cases b <;> cases d <;> rfl
theorem su_t {b d e : Bool} (h : (b && d) = true) (h2 : e = true) : (b && (d && e)) = true := by subst h2; revert h; cases b <;> cases d <;> simp
theorem rp_0 {T : Nat → Int32} {L i : Nat} (h : c_isl (ch T i) = false) : r_pos T L i = i := by
  unfold r_pos
  rw [if_pos h]
theorem rpx1 {T : Nat → Int32} {L i lt m : Nat} (hlc : ch T i = lt) (hs : c_isl lt = true) (hm : m = if lt = 100 then 10 else 6) (h : (decide (i + 1 < L) && c_dig (ch T (i + 1)) m) = false) : r_pos T L i = i + 1 := by
  unfold r_pos
  rw [hlc, if_neg (by simp [hs]), ← hm, if_pos]
  by_cases h1 : i + 1 < L
  · exact Or.inr (an_f h (decide_eq_true h1))
  · exact Or.inl h1
theorem rpx1y {T : Nat → Int32} {L i lt m : Nat} (h1 : (decide (i + 1 < L) && c_dig (ch T (i + 1)) m) = true) : ¬ (¬ i + 1 < L ∨ c_dig (ch T (i + 1)) m = false) := by
  obtain ⟨a, b⟩ := an_t h1
  have a := of_decide_eq_true a
  intro q
  rcases q with q | q
  · exact q a
  · rw [b] at q
    cases q
theorem rpx2y {T : Nat → Int32} {L i lt : Nat} (h1 : (decide (i + 2 < L) && c_snd lt (ch T (i + 1)) (ch T (i + 2))) = true) : ¬ (¬ i + 2 < L ∨ c_snd lt (ch T (i + 1)) (ch T (i + 2)) = false) := by
  obtain ⟨a, b⟩ := an_t h1
  have a := of_decide_eq_true a
  intro q
  rcases q with q | q
  · exact q a
  · rw [b] at q
    cases q
theorem rpx2 {T : Nat → Int32} {L i lt m : Nat} (hlc : ch T i = lt) (hs : c_isl lt = true) (hm : m = if lt = 100 then 10 else 6) (h1 : (decide (i + 1 < L) && c_dig (ch T (i + 1)) m) = true) (h : (decide (i + 2 < L) && c_snd lt (ch T (i + 1)) (ch T (i + 2))) = false) : r_pos T L i = i + 2 := by
  unfold r_pos
  rw [hlc, if_neg (by simp [hs]), ← hm, if_neg (rpx1y (lt := lt) h1), if_pos]
  by_cases h2 : i + 2 < L
  · exact Or.inr (an_f h (decide_eq_true h2))
  · exact Or.inl h2
theorem rpx3 {T : Nat → Int32} {L i lt m : Nat} (hlc : ch T i = lt) (hs : c_isl lt = true) (hm : m = if lt = 100 then 10 else 6) (h1 : (decide (i + 1 < L) && c_dig (ch T (i + 1)) m) = true) (h2 : (decide (i + 2 < L) && c_snd lt (ch T (i + 1)) (ch T (i + 2))) = true) (h : ¬ i + 3 < L ∨ ¬ ch T (i + 3) = 59) : r_pos T L i = i + 3 := by
  unfold r_pos
  rw [hlc, if_neg (by simp [hs]), ← hm, if_neg (rpx1y (lt := lt) h1), if_neg (rpx2y h2), if_pos h]
theorem rpx4 {T : Nat → Int32} {L i lt m : Nat} (hlc : ch T i = lt) (hs : c_isl lt = true) (hm : m = if lt = 100 then 10 else 6) (h1 : (decide (i + 1 < L) && c_dig (ch T (i + 1)) m) = true) (h2 : (decide (i + 2 < L) && c_snd lt (ch T (i + 1)) (ch T (i + 2))) = true) (h3 : i + 3 < L) (h4 : ch T (i + 3) = 59) : r_pos T L i = i + 4 := by
  unfold r_pos
  rw [hlc, if_neg (by simp [hs]), ← hm, if_neg (rpx1y (lt := lt) h1), if_neg (rpx2y h2), if_neg]
  intro q
  rcases q with q | q
  · exact q h3
  · exact q h4
theorem xu_id {x : Nat → Int32} {k : Nat} {v : Int32} (h : x k = v) : xu x k v = x := by
  funext j
  unfold xu
  by_cases e : j = k
  · rw [if_pos e, e, h]
  · rw [if_neg e]
theorem isl_p {c : Nat} (h : c_isl c = false) : ¬ (c = 97 ∨ c = 100 ∨ c = 103 ∨ c = 105 ∨ c = 111 ∨ c = 114 ∨ c = 115) := of_decide_eq_false h
theorem usr_no {c : Nat} (h : c_isl c = false) : c_usr c = false := by
  have := isl_p h
  exact decide_eq_false (by omega)
/-- where an order is read to the end, its four places stand; else the first that doesn't is where reading stops *-/
theorem can_0 {T : Nat → Int32} {i : Nat} (h : i % 4 = 0) : c_can T i = c_isl (ch T i) := by
  unfold c_can
  rw [if_pos h]
theorem can_1 {T : Nat → Int32} {i : Nat} (h : i % 4 = 0) : c_can T (i + 1) = c_dig (ch T (i + 1)) (if ch T i = 100 then 10 else 6) := by
  unfold c_can
  rw [if_neg (by omega), if_pos (by omega), show 4 * ((i + 1) / 4) = i by omega]
theorem can_2 {T : Nat → Int32} {i : Nat} (h : i % 4 = 0) : c_can T (i + 2) = c_snd (ch T i) (ch T (i + 1)) (ch T (i + 2)) := by
  unfold c_can
  rw [if_neg (by omega), if_neg (by omega), if_pos (by omega), show 4 * ((i + 2) / 4) = i by omega]
theorem can_3 {T : Nat → Int32} {i : Nat} (h : i % 4 = 0) : c_can T (i + 3) = decide (ch T (i + 3) = 59) := by
  unfold c_can
  rw [if_neg (by omega), if_neg (by omega), if_neg (by omega)]
/-- what r_pos says: either all four stand, or reading stops at the end of the text or at the first place that can't stand -/
theorem rpos_spec {T : Nat → Int32} {L i : Nat} (h4 : i % 4 = 0) (hi : i < L) : (r_pos T L i = i + 4 ∧ i + 4 ≤ L ∧ ∀ j, i ≤ j → j < i + 4 → c_can T j = true) ∨ (i ≤ r_pos T L i ∧ r_pos T L i < i + 4 ∧ r_pos T L i ≤ L ∧ (∀ j, i ≤ j → j < r_pos T L i → c_can T j = true) ∧ (r_pos T L i = L ∨ c_can T (r_pos T L i) = false)) := by
  have e0 := can_0 (T := T) h4
  have e1 := can_1 (T := T) h4
  have e2 := can_2 (T := T) h4
  have e3 := can_3 (T := T) h4
  unfold r_pos
  by_cases g0 : c_isl (ch T i) = false
  · rw [if_pos g0]
    exact Or.inr ⟨Nat.le_refl _, by omega, by omega, fun j h1 h2 => by omega, Or.inr (by rw [e0, g0])⟩
  rw [if_neg g0]
  have f0 : c_can T i = true := by rw [e0]; simpa using g0
  by_cases g1 : ¬ i + 1 < L ∨ c_dig (ch T (i + 1)) (if ch T i = 100 then 10 else 6) = false
  · rw [if_pos g1]
    refine Or.inr ⟨by omega, by omega, by omega, fun j h1 h2 => by rw [show j = i by omega]; exact f0, ?_⟩
    rcases g1 with g | g
    · exact Or.inl (by omega)
    · exact Or.inr (by rw [e1, g])
  rw [if_neg g1]
  have l1 : i + 1 < L := by
    rcases Nat.lt_or_ge (i + 1) L with q | q
    · exact q
    · exact absurd (Or.inl (by omega)) g1
  have f1 : c_can T (i + 1) = true := by
    rw [e1]
    cases q : c_dig (ch T (i + 1)) (if ch T i = 100 then 10 else 6)
    · exact absurd (Or.inr q) g1
    · rfl
  by_cases g2 : ¬ i + 2 < L ∨ c_snd (ch T i) (ch T (i + 1)) (ch T (i + 2)) = false
  · rw [if_pos g2]
    refine Or.inr ⟨by omega, by omega, by omega, fun j h1 h2 => ?_, ?_⟩
    · rcases Nat.lt_or_ge j (i + 1) with q | q
      · rw [show j = i by omega]; exact f0
      · rw [show j = i + 1 by omega]; exact f1
    · rcases g2 with g | g
      · exact Or.inl (by omega)
      · exact Or.inr (by rw [e2, g])
  rw [if_neg g2]
  have l2 : i + 2 < L := by
    rcases Nat.lt_or_ge (i + 2) L with q | q
    · exact q
    · exact absurd (Or.inl (by omega)) g2
  have f2 : c_can T (i + 2) = true := by
    rw [e2]
    cases q : c_snd (ch T i) (ch T (i + 1)) (ch T (i + 2))
    · exact absurd (Or.inr q) g2
    · rfl
  have f012 : ∀ j, i ≤ j → j < i + 3 → c_can T j = true := fun j h1 h2 => by
    rcases Nat.lt_or_ge j (i + 1) with q | q
    · rw [show j = i by omega]; exact f0
    rcases Nat.lt_or_ge j (i + 2) with q | q
    · rw [show j = i + 1 by omega]; exact f1
    · rw [show j = i + 2 by omega]; exact f2
  by_cases g3 : ¬ i + 3 < L ∨ ¬ ch T (i + 3) = 59
  · rw [if_pos g3]
    refine Or.inr ⟨by omega, by omega, by omega, f012, ?_⟩
    rcases g3 with g | g
    · exact Or.inl (by omega)
    · exact Or.inr (by rw [e3, decide_eq_false g])
  · rw [if_neg g3]
    have l3 : i + 3 < L := by
      rcases Nat.lt_or_ge (i + 3) L with q | q
      · exact q
      · exact absurd (Or.inl (by omega)) g3
    refine Or.inl ⟨rfl, by omega, fun j h1 h2 => ?_⟩
    rcases Nat.lt_or_ge j (i + 3) with q | q
    · exact f012 j h1 q
    · rw [show j = i + 3 by omega, e3]
      by_cases w : ch T (i + 3) = 59
      · exact decide_eq_true w
      · exact absurd (Or.inr w) g3
theorem xu_xu {x : Nat → Int32} {k : Nat} {u v : Int32} : xu (xu x k u) k v = xu x k v := by
  funext j
  unfold xu
  by_cases e : j = k
  · rw [if_pos e, if_pos e]
  · rw [if_neg e, if_neg e, if_neg e]
def c_okk (T : Nat → Int32) (L : Nat) : Bool := match c_first T L 0 L with
  | some _ => false
  | none => decide (L % 4 = 0)
def c_pos (T : Nat → Int32) (L : Nat) : Nat := match c_first T L 0 L with
  | some i => i
  | none => L
theorem okk_end {T : Nat → Int32} {L : Nat} (h : ∀ j, j < L → c_can T j = true) : c_okk T L = decide (L % 4 = 0) ∧ c_pos T L = L := by
  unfold c_okk c_pos
  rw [first_none L 0 (fun j _ h2 => h j (by omega))]
  exact ⟨rfl, rfl⟩
theorem okk_at {T : Nat → Int32} {L k : Nat} (hL : k < L) (h : ∀ j, j < k → c_can T j = true) (hk : c_can T k = false) : c_okk T L = false ∧ c_pos T L = k := by
  unfold c_okk c_pos
  rw [first_some (by simp [hk]) L 0 (by omega) (by omega) (fun j _ h2 => h j h2)]
  exact ⟨rfl, rfl⟩
theorem err_okk {T : Nat → Int32} {L : Nat} : c_err T L = if c_okk T L = true then -1 else nI (c_pos T L) := by
  unfold c_err c_okk c_pos
  cases h : c_first T L 0 L with
  | some i => simp
  | none =>
    by_cases g : L % 4 = 0
    · simp [g]
    · simp [g]
def raI (T : Nat → Int32) (L i : Nat) (b : Bool) : Prop := i ≤ L ∧ (b = true → i % 4 = 0 ∧ ∀ j, j < i → c_can T j = true) ∧ (b = false → c_okk T L = false ∧ c_pos T L = i)
theorem ra_step {T : Nat → Int32} {L i : Nat} {b : Bool} (h : raI T L i b) (hb : b = true) (hi : i < L) : raI T L (r_pos T L i) (decide (r_pos T L i = i + 4)) := by
  obtain ⟨h1, h2, -⟩ := h
  obtain ⟨h4, hall⟩ := h2 hb
  rcases rpos_spec (T := T) h4 hi with ⟨e, hl, hc⟩ | ⟨g1, g2, g3, g4, g5⟩
  · refine ⟨by omega, fun _ => ⟨by omega, fun j hj => ?_⟩, fun q => absurd e (of_decide_eq_false q)⟩
    rcases Nat.lt_or_ge j i with q | q
    · exact hall j q
    · exact hc j q (by omega)
  · have hall2 : ∀ j, j < r_pos T L i → c_can T j = true := fun j hj => by
      rcases Nat.lt_or_ge j i with q | q
      · exact hall j q
      · exact g4 j q hj
    refine ⟨g3, fun q => absurd (of_decide_eq_true q) (by omega), fun _ => ?_⟩
    by_cases e : r_pos T L i = L
    · obtain ⟨a, c⟩ := okk_end (T := T) (L := L) (fun j hj => hall2 j (by omega))
      rw [a, c, e]
      exact ⟨decide_eq_false (by omega), rfl⟩
    · rcases g5 with g5 | g5
      · exact absurd g5 e
      · exact okk_at (by omega) hall2 g5
theorem ra_mu {T : Nat → Int32} {L i : Nat} {b : Bool} (h : raI T L i b) (hb : b = true) (hi : i < L) : (if decide (r_pos T L i = i + 4) = true then L + 1 - r_pos T L i else 0) < (if b = true then L + 1 - i else 0) := by
  rw [if_pos hb]
  split
  · rename_i q
    have := of_decide_eq_true q
    omega
  · omega
theorem ra_end {T : Nat → Int32} {L i : Nat} {b : Bool} (h : raI T L i b) (hb : b = true) (hi : L ≤ i) : c_okk T L = true ∧ c_pos T L = i := by
  obtain ⟨h1, h2, -⟩ := h
  obtain ⟨h4, hall⟩ := h2 hb
  have e : i = L := by omega
  subst e
  obtain ⟨a, c⟩ := okk_end (T := T) hall
  rw [a, c]
  exact ⟨decide_eq_true h4, rfl⟩
