/-! act: its ways joined -/
theorem kMg.to {l : Launch} {y : MethodName} {ws : List Cond} {rm : Room} {D : va_G} {cl : List vw_C} {tys : List (ClassId × FieldType)} {sz : Nat} {av : List Value} {w w1 : va_W} {r0 : Int32} {mc ms : Nat} {F : va_W → Int32 → Prop} (h : kMg l y ws rm D cl tys sz av w w1 r0 mc ms) (hF : F w1 r0) : kMe l y ws rm D cl tys sz av w F mc ms :=
  MetFree.mono h (fun _ _ q => q) (fun _ _ _ _ _ q => q) (fun a st o t _ q => by
    obtain ⟨⟨⟨r, u, e1, e2, e3⟩, e4⟩, e5⟩ := q
    exact ⟨⟨⟨r, w1, e1, by rw [e2]; exact hF, e3⟩, e4⟩, e5⟩)
def actF (cI cB cW : ClassId) (ob nw tr : Nat → Nat) (qs : Nat → Nat → Nat) (sc : Nat → Nat) (N : kM) (L : Nat) (T : Nat → Int32) (B : Nat) (bc : Bool) (M : kM) (w1 : va_W) (v1 : Int32) : Prop :=
  ∃ (M' : kM) (S' : Nat → kM) (n' r' : Nat), w1 = wX cI cB cW ob nw tr qs sc (g_rot qs r') M' N S' n' L T ∧ n' ≤ 4 ∧ r' < 4 ∧ ¬ v1 < 0 ∧ oX 6 (B + 9) M' ∧ (bc = true → cm M → cm (g_del 1000 M') ∧ M' 579 = M 579)
theorem rj_lt {n r : Nat} (h : r < 4) : rj n r < 4 := by
  unfold rj
  split <;> omega
theorem cm_stp {N : kM} (hN : kInv N) (hw : 0 < wyN N) (hp : pend (stp N) (g_q (stp N))) : cm (g_del 1000 N) := by
  have hr := rest_ok hN
  have e : g_del 1000 N = g_del 999 (stp N) := g_del_go hw (by omega)
  rw [e] at hr ⊢
  exact cm_del (i_step hN hw) hp hr
theorem cm_same {M : kM} (h : cm M) : cm (g_del 1000 M) := by
  rw [g_del_stop h.2]
  exact h
theorem cm_grant {M : kM} {B a b : Nat} (h : oX 6 B M) (hc : cm M) (ha : a < 6) (hb : b < 6) (hab : a ≠ b) : cm (g_del 1000 (g_grant M a b)) := by
  by_cases g : g_has M a b 8 = true
  · obtain ⟨l, qN, -, -, q2, pd, -⟩ := est_grant h hc ha hb hab g
    have hN := i_grant h.1 ha hb
    exact cm_stp hN (head_of hN qN).1 (by rw [q2]; exact pd)
  · rw [show g_grant M a b = M from if_neg g]
    exact cm_same hc
theorem cm_refuse {M : kM} {B a b : Nat} (h : oX 6 B M) (hc : cm M) (ha : a < 6) (hb : b < 6) (hab : a ≠ b) : cm (g_del 1000 (g_refuse M a b)) := by
  by_cases g : g_has M a b 10 = true
  · obtain ⟨q1, q2⟩ := est_refuse h.1 hc ha hb hab g
    exact cm_stp (i_refuse h.1 ha hb) q1 q2
  · rw [show g_refuse M a b = M from if_neg g]
    exact cm_same hc
theorem cm_stop {M : kM} {B a b : Nat} (h : oX 6 B M) (hc : cm M) (ha : a < 6) (hb : b < 6) (hab : a ≠ b) : cm (g_del 1000 (g_stop M a b)) := by
  by_cases g : g_has M a b 5 = true
  · obtain ⟨q1, q2⟩ := est_stop h.1 hc ha hb hab g
    exact cm_stp (i_stop h.1 ha hb) q1 q2
  · rw [show g_stop M a b = M from if_neg g]
    exact cm_same hc
theorem cm_ask {M : kM} {B a b : Nat} (h : oX 6 B M) (hc : cm M) (ha : a < 6) (hb : b < 6) (hab : a ≠ b) : cm (g_del 1000 (g_ask M a b)) := cm_del (i_ask h.1 ha hb) (est_ask h.1 hc ha hb hab) (rest_ok (i_ask h.1 ha hb))
theorem cm_turnOn {M : kM} {B a s d : Nat} {rk : Int32} (h : oX 6 B M) (hB : B < 2 ^ 31) (hc : cm M) (ha : a < 6) (hs : s < 3) (hd : d < 5) : cm (g_del 1000 (g_turnOn M a s rk d)) := cm_del (i_turnOn h.1 ha hs hd) (est_turnOn h hB hc ha hs hd) (rest_ok (i_turnOn h.1 ha hs hd))
theorem cm_turnOff {M : kM} {B a s : Nat} (h : oX 6 B M) (hB : B < 2 ^ 31) (hc : cm M) (ha : a < 6) (hs : s < 3) (ho : g_on M a s = true) : cm (g_del 1000 (g_turnOff M a s)) := cm_del (i_turnOff h.1 ha hs) (est_turnOff h hB hc ha hs ho) (rest_ok (i_turnOff h.1 ha hs))
set_option maxHeartbeats 4000000 in
theorem c_L_act (l : Launch) (hst : l.stackTraces = false) (D : va_G) (cI cB cW cL : ClassId) (ob nw tr : Nat → Nat) (qs : Nat → Nat → Nat) (sc : Nat → Nat) (G : Nat → Option Nat) (N : kM) (S : Nat → kM) (n L : Nat) (T : Nat → Int32) (sz : Nat) (M : kM) (w v : Int32) (bc : Bool) (B r : Nat) (hX : oX 6 B M) (hB : B < 2 ^ 30) (hn : n ≤ 4) (hr : r < 4) : kMe l yL_act wsL_act ({ frames := 8, cells := 1, slots := 6, locals := 191 }) D vwCl (kT cI cB cW cL) sz [.ref (ob 0), .int w, .int v, .int (kI bc)] (wX cI cB cW ob nw tr qs sc (g_rot qs r) M N S n L T) (actF cI cB cW ob nw tr qs sc N L T B bc M) 1 6 := by
  have hI := hX.1
  have hB1 : B < 2 ^ 31 := by omega
  obtain ⟨mo, em⟩ : ∃ mo : Nat, (if bc = true then 11 else 14) = mo := ⟨_, rfl⟩
  have hmo : mo = 11 ∨ mo = 14 := by
    rw [← em]
    split
    · exact Or.inl rfl
    · exact Or.inr rfl
  have hcb : bc = true → mo = 11 := fun q => by rw [if_pos q] at em; exact em.symm
  obtain ⟨how, eh⟩ : ∃ how : Nat, g_low w mo = how := ⟨_, rfl⟩
  have hh0 : how < mo := by rw [← eh]; exact low_lt (by omega)
  have hhow : how < 14 := by omega
  obtain ⟨a, ea⟩ : ∃ a : Nat, g_low (w >>> ((4 : Int32) &&& 31)) 6 = a := ⟨_, rfl⟩
  have ha : a < 6 := by rw [← ea]; exact low_lt (by omega)
  obtain ⟨jj, ej⟩ : ∃ jj : Nat, (if g_low (w >>> ((20 : Int32) &&& 31)) 2 = 0 then 2 else 5) = jj := ⟨_, rfl⟩
  have hjj : jj = 2 ∨ jj = 5 := by
    rw [← ej]
    split
    · exact Or.inl rfl
    · exact Or.inr rfl
  obtain ⟨k, ek⟩ : ∃ k : Nat, g_low (w >>> ((7 : Int32) &&& 31)) jj = k := ⟨_, rfl⟩
  have hk0 : k < jj := by rw [← ek]; exact low_lt (by omega)
  have hk5 : k < 5 := by omega
  obtain ⟨b, eb⟩ : ∃ b : Nat, (a + 1 + k) % 6 = b := ⟨_, rfl⟩
  have hb : b < 6 := by omega
  have hne : a ≠ b := by omega
  obtain ⟨z, ez⟩ : ∃ z : Nat, g_low v 3 = z := ⟨_, rfl⟩
  have hz : z < 3 := by rw [← ez]; exact low_lt (by omega)
  by_cases h3 : how < 3
  · exact kMg.to (c_L_act__ask l hst D cI cB cW cL ob nw tr qs sc G N S n L T sz M w v bc mo how a jj k b z r  hI em hmo eh ea ej hjj ek eb ez ha hb hne hz hk5 hhow h3  hn hr) ⟨_, sset S (pj n r) M, g_kn n, rj n r, rfl, (kn_le hn).2, rj_lt hr, (by split <;> decide), ox_mono (by omega) (ox_ask hX ha hb hne), fun hc hm => ⟨cm_ask hX hm ha hb hne, ask_579 ha hb⟩⟩
  by_cases h5 : how < 5
  · exact kMg.to (c_L_act__grant l hst D cI cB cW cL ob nw tr qs sc G N S n L T sz M w v bc mo how a jj k b z r  hI em hmo eh ea ej hjj ek eb ez ha hb hne hz hk5 hhow ⟨by omega, h5⟩  hn hr) ⟨_, sset S (pj n r) M, g_kn n, rj n r, rfl, (kn_le hn).2, rj_lt hr, (by split <;> decide), ox_mono (by omega) (ox_grant hX ha hb hne), fun hc hm => ⟨cm_grant hX hm ha hb hne, grant_579 ha hb⟩⟩
  by_cases h6 : how = 5
  · exact kMg.to (c_L_act__refuse l hst D cI cB cW cL ob nw tr qs sc G N S n L T sz M w v bc mo how a jj k b z r  hI em hmo eh ea ej hjj ek eb ez ha hb hne hz hk5 hhow h6  hn hr) ⟨_, sset S (pj n r) M, g_kn n, rj n r, rfl, (kn_le hn).2, rj_lt hr, (by split <;> decide), ox_mono (by omega) (ox_refuse hX ha hb hne), fun hc hm => ⟨cm_refuse hX hm ha hb hne, refuse_579 ha hb⟩⟩
  by_cases h7 : how = 6
  · exact kMg.to (c_L_act__stop l hst D cI cB cW cL ob nw tr qs sc G N S n L T sz M w v bc mo how a jj k b z r  hI em hmo eh ea ej hjj ek eb ez ha hb hne hz hk5 hhow h7  hn hr) ⟨_, sset S (pj n r) M, g_kn n, rj n r, rfl, (kn_le hn).2, rj_lt hr, (by split <;> decide), ox_mono (by omega) (ox_stop hX ha hb hne), fun hc hm => ⟨cm_stop hX hm ha hb hne, stop_579 ha hb⟩⟩
  by_cases h10 : how < 10
  · obtain ⟨rr, er⟩ : ∃ rr : Nat, g_low (v >>> ((2 : Int32) &&& 31)) 19 = rr := ⟨_, rfl⟩
    have hrr : rr < 19 := by rw [← er]; exact low_lt (by omega)
    obtain ⟨dd, ed⟩ : ∃ dd : Nat, g_low (v >>> ((7 : Int32) &&& 31)) 5 = dd := ⟨_, rfl⟩
    have hdd : dd < 5 := by rw [← ed]; exact low_lt (by omega)
    exact kMg.to (c_L_act__turnOn l hst D cI cB cW cL ob nw tr qs sc G N S n L T sz M w v bc mo how a jj k b z r rr dd hI em hmo eh ea ej hjj ek eb ez ha hb hne hz hk5 hhow ⟨by omega, h10⟩ er hrr ed hdd hn hr) ⟨_, sset S (pj n r) M, g_kn n, rj n r, rfl, (kn_le hn).2, rj_lt hr, (cnt_bad (i_turnOn hI ha hz hdd) ha).2, ox_mono (by omega) (ox_turnOn hX hB1 ha hz hdd), fun hc hm => ⟨cm_turnOn hX hB1 hm ha hz hdd, turnOn_579 ha hz⟩⟩
  by_cases h11 : how = 10
  · by_cases ho : g_on M a z = true
    · exact kMg.to (c_L_act__offOn l hst D cI cB cW cL ob nw tr qs sc G N S n L T sz M w v bc mo how a jj k b z r  hI em hmo eh ea ej hjj ek eb ez ha hb hne hz hk5 hhow h11 ho hn hr) ⟨_, sset S (pj n r) M, g_kn n, rj n r, rfl, (kn_le hn).2, rj_lt hr, (nI_pos (n := 0) (by omega)), ox_mono (by omega) (ox_turnOff hX hB1 ha hz), fun hc hm => ⟨cm_turnOff hX hB1 hm ha hz ho, turnOff_579 ha hz⟩⟩
    · exact kMg.to (c_L_act__offOff l hst D cI cB cW cL ob nw tr qs sc G N S n L T sz M w v bc mo how a jj k b z r  hI em hmo eh ea ej hjj ek eb ez ha hb hne hz hk5 hhow h11 (bfalse ho) hn hr) ⟨_, S, n, r, rfl, hn, hr, (nI_pos (n := 0) (by omega)), ox_mono (by omega) hX, fun hc hm => ⟨cm_same hm, rfl⟩⟩
  by_cases h12 : how = 11
  · exact kMg.to (c_L_act__block l hst D cI cB cW cL ob nw tr qs sc G N S n L T sz M w v bc mo how a jj k b z r  hI em hmo eh ea ej hjj ek eb ez ha hb hne hz hk5 hhow h12  hn hr) ⟨_, sset S (pj n r) M, g_kn n, rj n r, rfl, (kn_le hn).2, rj_lt hr, (by split <;> decide), ox_mono (by omega) (ox_block hX ha hb hne), fun hc hm => absurd (hcb hc) (by omega)⟩
  by_cases h13 : how = 12 ∧ 0 < wyN M
  · obtain ⟨i, ei⟩ : ∃ i : Nat, g_low v (wyN M) = i := ⟨_, rfl⟩
    have hi : i < wyN M := by rw [← ei]; exact low_lt h13.2
    have hv : ¬ g_part (g_msg M i) 0 < 0 := nI_pos (n := g_msg M i % 8) (by omega)
    exact kMg.to (c_L_act__lose l hst D cI cB cW cL ob nw tr qs sc G N S n L T sz M w v bc mo how a jj k b z r i hI em hmo eh ea ej hjj ek eb ez ha hb hne hz hk5 hhow h13 ei hi hn hr) ⟨_, sset S (pj n r) M, g_kn n, rj n r, rfl, (kn_le hn).2, rj_lt hr, hv, ox_mono (by omega) (ox_drop hX hi), fun hc hm => absurd (hcb hc) (by omega)⟩
  · obtain ⟨c, ec⟩ : ∃ c : Nat, g_low v 9 = c := ⟨_, rfl⟩
    have hc : c < 9 := by rw [← ec]; exact low_lt (by omega)
    have hd := delC_le c M
    exact kMg.to (c_L_act__deliver l hst D cI cB cW cL ob nw tr qs sc G N S n L T sz M w v bc mo how a jj k b z r c hI em hmo eh ea ej hjj ek eb ez ha hb hne hz hk5 hhow (by omega) ec hc hn hr) ⟨_, sset S (pj n r) M, g_kn n, rj n r, rfl, (kn_le hn).2, rj_lt hr, (nI_pos (by omega)), ox_mono (by omega) (ox_del c hX), fun hc hm => absurd (hcb hc) (by omega)⟩
