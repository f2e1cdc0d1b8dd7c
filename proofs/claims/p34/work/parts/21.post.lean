/-! Math.floorMod, whose class has native neighbours -/
theorem met_ofWF {l : Launch} {y : MethodName} {ws ws' : List Cond} {rm : Room} {Pc : Array Value → State → Prop} {Qc : Array Value → State → Outcome → State → Prop} {mc ms : Nat} {free : Addr → Prop} {cc : ByteArray} {maxL : Nat} {ret : Option FieldType}
    (hy : plainFor y = true) (hw : ws = Cond.code y cc maxL ret :: ws')
    (body : ∀ p e s m args below meth c s₁, BodyLoose p l y (headSpec ws rm) cc maxL ret e s m args below meth c s₁ → c.maxLocals = maxL → Pc args s →
      W p l e (headSpec ws rm).room s m args below meth c s.heap [] 0 0 (MQ below Qc args s mc ms free) (entryFrame m args maxL)) : Met l y ws rm Pc Qc mc ms free := by
  refine MetFree.of_bodySF (code := cc) (maxLocals := maxL) (ret := ret) hy ?_ ?_
  · intro args s m h hn
    obtain ⟨meth, c, h1, h2, h3, h4, h5, h6, -, -⟩ := Cond.code_spec hn (atoms_spec (ws := ws) h _ (by rw [hw]; exact List.mem_cons_self))
    exact ⟨meth, c, h1, h2, h3, h4, h5, h6⟩
  · intro p e s m args below meth c s₁ B hml hP _
    have hh0 : s₁.heap = s.heap := by rw [B.state]; rfl
    obtain ⟨t, a1, o, b1, b2, b3⟩ := body p e s m args below meth c s₁ B hml hP s₁ hh0 (Stand.of_body B)
    exact ⟨t, o, a1, b1, b2, ⟨b3.1, b3.2⟩⟩
theorem kr_ofiF {l : Launch} {D : va_G} {cl : List vw_C} {tys : List (ClassId × FieldType)} {cc : ByteArray} {y : MethodName} {ws0 ws' : List Cond} {rm : Room} {sz : Nat} {av : List Value} {w w1 : va_W} {r0 : Int32} {maxL : Nat} {ret : Option FieldType} (hy : plainFor y = true) (hw : ws0 = Cond.code y cc maxL ret :: ws') (hle : (lg_sl av).length ≤ maxL)
    (body : ∀ (p : Program) (e : Env) (s : State) (m : MethodId) (args : Array Value) (below : List Frame) (meth : Method) (c : Code) (A : Nat → Prop) (ls : Array Slot), p.tables.exec = Jvm.exec → c.code = cc → meth.sig.returnType = ret → (∀ w ∈ ws0, w.before args s = true) → s.vm.findClass y.cls = some m.cls → meth.locks = false → c.maxLocals = maxL → va_K D cl tys s → va_P D cl w s.heap → va_D A w → (∀ q : Nat, s.heap.size ≤ q → A q) → lv_has ls maxL (lv_args 0 av) → W p l e (headSpec ws0 rm).room s m args below meth c s.heap [] 0 0 (MQ below (kQi D cl tys A w1 r0) args s 0 0 A) (F0 m 0 ls [])) : kMi l y ws0 rm D cl tys sz av w w1 r0 := by
  refine met_ofWF (cc := cc) (maxL := maxL) (ret := ret) hy hw ?_
  intro p e s m args below meth c s₁ B hml hv
  obtain ⟨rfl, hsz, hP, hK, hD0⟩ := hv
  subst hsz
  rw [lg_entry_eq]
  exact body p e s m _ below meth c (va_A w s.heap.size) _ B.exec B.bytes B.returns (atoms_spec (ws := ws0) B.pre) (findClass_of_methodNamed B.named) B.notSynchronized hml hK hP hD0.self (fun q h => Or.inr h) (lv_entry av hle)
theorem nI_xor (a b : Nat) : nI a ^^^ nI b = nI (a ^^^ b) := by
  show Int32.ofBitVec (BitVec.ofNat 32 a ^^^ BitVec.ofNat 32 b) = Int32.ofBitVec (BitVec.ofNat 32 (a ^^^ b))
  rw [BitVec.ofNat_xor]
theorem nI_xnn {a b : Nat} (ha : a < 2 ^ 31) (hb : b < 2 ^ 31) : (0 : Int32) ≤ nI a ^^^ nI b := by
  rw [nI_xor]; exact nI_pos' (Nat.xor_lt_two_pow ha hb)


set_option maxHeartbeats 4000000 in
set_option maxRecDepth 100000 in
theorem c_J9_floorMod_7cf53 (l : Launch) (D : va_G) (cI cB cW cL : ClassId)  (sz : Nat) (M : kM) (a : Nat) (b : Nat) (ha : a < 2 ^ 31) (h0 : 0 < b) (h1 : b < 2 ^ 31) : kMi l yJ9_floorMod_7cf53 wsJ9_floorMod_7cf53 ({ frames := 0, cells := 0, slots := 0, locals := 0 }) D vwCl (kT cI cB cW cL) sz [.int (nI a), .int (nI b)] ([]) ([]) (nI (a % b)) := by
  refine kr_ofiF (cc := cJ9_floorMod_7cf53) (maxL := 3) (ret := (some .int)) (by decide +kernel) rfl (Nat.le_of_ble_eq_true rfl) ?_
  intro pp ee ss mm args below meth cc AA ls hx hcd hr hts hown hlocks hml hK hP hD hA hl
  have hS : va_S AA ss.heap ss.heap [] := va_S.rf
  have hown : ss.vm.findClass RJ9 = some mm.cls := hown
  have hl : lv_has ls 3 [(0, .int (nI a)), (1, .int (nI b))] := hl
  refine lv_iload_n hx hcd dJ9_floorMod_7cf53_0 rfl (lv_at hl 0 rfl) ?_
  refine lv_iload_n hx hcd dJ9_floorMod_7cf53_1 rfl (lv_at hl 1 rfl) ?_
  refine kr_rem hx hcd (by omega) (by omega) (by omega) dJ9_floorMod_7cf53_2 ?_
  refine lv_istore_n (lv' := [(2, .int (nI (a % b))), (0, .int (nI a)), (1, .int (nI b))]) hx hcd dJ9_floorMod_7cf53_3 rfl hl (by decide) rfl (fun ls hl => ?_)
  refine lv_iload_n hx hcd dJ9_floorMod_7cf53_4 rfl (lv_at hl 1 rfl) ?_
  refine lv_iload_n hx hcd dJ9_floorMod_7cf53_5 rfl (lv_at hl 2 rfl) ?_
  refine lv_ixor hx hcd dJ9_floorMod_7cf53_6 ?_
  refine lv_if_ge (tgt := 18) hx hcd dJ9_floorMod_7cf53_7 (by decide) (fun (c_7 : 0 ≤ ((nI a) ^^^ (nI b))) => ?_) (fun (c_7 : ¬ 0 ≤ ((nI a) ^^^ (nI b))) => absurd c_7 (fun h => h (nI_xnn ha h1)))
  refine lv_iload_n hx hcd dJ9_floorMod_7cf53_18 rfl (lv_at hl 0 rfl) ?_
  exact kr_iret hx hcd hr hlocks hK hP hD hS rfl rfl dJ9_floorMod_7cf53_19

set_option maxHeartbeats 4000000 in
set_option maxRecDepth 100000 in
theorem c_X0_pack (l : Launch) (D : va_G) (cI cB cW cL : ClassId)  (sz : Nat) (M : kM) (k : Nat) (f : Nat) (t : Nat) (se : Int32) (mo : Int32) (sp mp : Nat) (e1 : se - (-1) = nI sp) (e2 : mo - (-1) = nI mp) : kMi l yX0_pack wsX0_pack ({ frames := 0, cells := 0, slots := 0, locals := 0 }) D vwCl (kT cI cB cW cL) sz [.int (nI k), .int (nI f), .int (nI t), .int se, .int mo] ([]) ([]) (nI (k + (7 * (f + (6 * (t + (6 * (sp + (4 * mp))))))))) := by
  refine kr_ofi (cc := cX0_pack) (maxL := 6) (ret := (some .int)) (by decide) rfl (Nat.le_of_ble_eq_true rfl) ?_
  intro pp ee ss mm args below meth cc AA ls hx hcd hr hts hown hlocks hml hK hP hD hA hl
  have hS : va_S AA ss.heap ss.heap [] := va_S.rf
  have hown : ss.vm.findClass RX0 = some mm.cls := hown
  have hl : lv_has ls 6 [(0, .int (nI k)), (1, .int (nI f)), (2, .int (nI t)), (3, .int se), (4, .int mo)] := hl
  refine lv_iload_n hx hcd dX0_pack_0 rfl (lv_at hl 3 rfl) ?_
  refine lv_iconst (v := (-1)) hx hcd dX0_pack_1 (by decide) ?_
  refine lv_isub hx hcd dX0_pack_2 ?_
  refine kr_top (w := nI sp) e1 ?_
  refine lv_iconst (v := nI 4) hx hcd dX0_pack_3 (by decide) ?_
  refine lv_iload hx hcd dX0_pack_4 (lv_at hl 4 rfl) ?_
  refine lv_iconst (v := (-1)) hx hcd dX0_pack_6 (by decide) ?_
  refine lv_isub hx hcd dX0_pack_7 ?_
  refine kr_top (w := nI mp) e2 ?_
  refine kr_mul hx hcd dX0_pack_8 ?_
  refine kr_add hx hcd dX0_pack_9 ?_
  refine lv_istore (lv' := [(5, .int (nI (sp + (4 * mp)))), (0, .int (nI k)), (1, .int (nI f)), (2, .int (nI t)), (3, .int se), (4, .int mo)]) hx hcd dX0_pack_10 hl (by decide) rfl (fun ls hl => ?_)
  refine lv_iload_n hx hcd dX0_pack_12 rfl (lv_at hl 1 rfl) ?_
  refine lv_bipush (v := nI 7) hx hcd dX0_pack_13 (by decide) ?_
  refine lv_iload_n hx hcd dX0_pack_15 rfl (lv_at hl 2 rfl) ?_
  refine lv_bipush (v := nI 6) hx hcd dX0_pack_16 (by decide) ?_
  refine lv_iload_n hx hcd dX0_pack_18 rfl (lv_at hl 3 rfl) ?_
  refine lv_bipush (v := nI 6) hx hcd dX0_pack_19 (by decide) ?_
  refine lv_iload hx hcd dX0_pack_21 (lv_at hl 0 rfl) ?_
  refine kr_mul hx hcd dX0_pack_23 ?_
  refine kr_add hx hcd dX0_pack_24 ?_
  refine kr_mul hx hcd dX0_pack_25 ?_
  refine kr_add hx hcd dX0_pack_26 ?_
  refine kr_mul hx hcd dX0_pack_27 ?_
  refine kr_add hx hcd dX0_pack_28 ?_
  exact kr_iret hx hcd hr hlocks hK hP hD hS rfl rfl dX0_pack_29

set_option maxHeartbeats 4000000 in
set_option maxRecDepth 100000 in
theorem c_X0_part (l : Launch) (D : va_G) (cI cB cW cL : ClassId)  (sz : Nat) (M : kM) (mc : Nat) (wh : Nat) (c : Nat) (hw : wh < 5) (hmc : mc = cvN c) (hm : kMsg (nI c)) (hlt : c < 2 ^ 31) : kMi l yX0_part wsX0_part ({ frames := 1, cells := 0, slots := 0, locals := 22 }) D vwCl (kT cI cB cW cL) sz [.int (nI mc), .int (nI wh)] ([]) ([]) (g_part c wh) := by
  refine kr_ofi (cc := cX0_part) (maxL := 4) (ret := (some .int)) (by decide) rfl (Nat.le_of_ble_eq_true rfl) ?_
  intro pp ee ss mm args below meth cc AA ls hx hcd hr hts hown hlocks hml hK hP hD hA hl
  have hS : va_S AA ss.heap ss.heap [] := va_S.rf
  have hown : ss.vm.findClass RX0 = some mm.cls := hown
  have hl : lv_has ls 4 [(0, .int (nI mc)), (1, .int (nI wh))] := hl
  have hcl := cvN_lt hm hlt
  refine lv_iload_n hx hcd dX0_part_0 rfl (lv_at hl 0 rfl) ?_
  refine lv_bipush (v := nI 7) hx hcd dX0_part_1 (by decide) ?_
  refine kr_div hx hcd (by omega) (by decide) (by decide) dX0_part_3 ?_
  refine lv_istore_n (lv' := [(2, .int (nI (mc / 7))), (0, .int (nI mc)), (1, .int (nI wh))]) hx hcd dX0_part_4 rfl hl (by decide) rfl (fun ls hl => ?_)
  refine lv_iload_n hx hcd dX0_part_5 rfl (lv_at hl 0 rfl) ?_
  refine lv_bipush (v := nI 36) hx hcd dX0_part_6 (by decide) ?_
  refine kr_div hx hcd (by omega) (by decide) (by decide) dX0_part_8 ?_
  refine lv_istore_n (lv' := [(3, .int (nI ((mc / 7) / 36))), (2, .int (nI (mc / 7))), (0, .int (nI mc)), (1, .int (nI wh))]) hx hcd dX0_part_9 rfl hl (by decide) rfl (fun ls hl => ?_)
  refine lv_iload_n hx hcd dX0_part_10 rfl (lv_at hl 3 rfl) ?_
  rcases (show wh = 0 ∨ wh = 1 ∨ wh = 2 ∨ wh = 3 ∨ wh = 4 by omega) with rfl | rfl | rfl | rfl | rfl
  · refine lv_tableIn (x := nI 0) (off := 29) (tgt := 40) hx hcd dX0_part_11 (by decide) (by decide) (by decide) (by decide) ?_
    refine lv_iload_n hx hcd dX0_part_40 rfl (lv_at hl 2 rfl) ?_
    refine lv_bipush (v := nI 7) hx hcd dX0_part_41 (by decide) ?_
    refine kr_Si (As := [.int (nI mc), .int (nI 7)]) (rest := []) (ws2 := []) ⟨hx, hcd, hml, hown, hts⟩ (c_J9_floorMod_7cf53 l D cI cB cW cL  _ M mc 7 (by omega) (by decide) (by decide)) (va_cwS 2 hts gX0_part_J9_floorMod_7cf53 rfl rfl rfl (by decide +kernel) ⟨Nat.le_of_ble_eq_true rfl, Nat.le_of_ble_eq_true rfl⟩) hK hP hD hS hA [] rfl (by decide) rfl rfl rfl hl.1 rfl (Nat.le_of_ble_eq_true rfl) dX0_part_43 ⟨Nat.zero_le _, Nat.zero_le _⟩ (fun H locs hP hD hS => ?_)
    exact kr_iret hx hcd hr hlocks hK hP hD hS (by subst hmc; exact congrArg nI (part_0 hm hlt)) rfl dX0_part_46
  · refine lv_tableIn (x := nI 1) (off := 36) (tgt := 47) hx hcd dX0_part_11 (by decide) (by decide) (by decide) (by decide) ?_
    refine lv_iload_n hx hcd dX0_part_47 rfl (lv_at hl 1 rfl) ?_
    refine lv_bipush (v := nI 6) hx hcd dX0_part_48 (by decide) ?_
    refine kr_Si (As := [.int (nI (mc / 7)), .int (nI 6)]) (rest := []) (ws2 := []) ⟨hx, hcd, hml, hown, hts⟩ (c_J9_floorMod_7cf53 l D cI cB cW cL  _ M (mc / 7) 6 (by omega) (by decide) (by decide)) (va_cwS 2 hts gX0_part_J9_floorMod_7cf53 rfl rfl rfl (by decide +kernel) ⟨Nat.le_of_ble_eq_true rfl, Nat.le_of_ble_eq_true rfl⟩) hK hP hD hS hA [] rfl (by decide) rfl rfl rfl hl.1 rfl (Nat.le_of_ble_eq_true rfl) dX0_part_50 ⟨Nat.zero_le _, Nat.zero_le _⟩ (fun H locs hP hD hS => ?_)
    exact kr_iret hx hcd hr hlocks hK hP hD hS (by subst hmc; exact congrArg nI (part_1 hm hlt)) rfl dX0_part_53
  · refine lv_tableIn (x := nI 2) (off := 43) (tgt := 54) hx hcd dX0_part_11 (by decide) (by decide) (by decide) (by decide) ?_
    refine lv_iload_n hx hcd dX0_part_54 rfl (lv_at hl 1 rfl) ?_
    refine lv_bipush (v := nI 6) hx hcd dX0_part_55 (by decide) ?_
    refine kr_div hx hcd (by omega) (by decide) (by decide) dX0_part_57 ?_
    refine lv_bipush (v := nI 6) hx hcd dX0_part_58 (by decide) ?_
    refine kr_Si (As := [.int (nI ((mc / 7) / 6)), .int (nI 6)]) (rest := []) (ws2 := []) ⟨hx, hcd, hml, hown, hts⟩ (c_J9_floorMod_7cf53 l D cI cB cW cL  _ M ((mc / 7) / 6) 6 (by omega) (by decide) (by decide)) (va_cwS 2 hts gX0_part_J9_floorMod_7cf53 rfl rfl rfl (by decide +kernel) ⟨Nat.le_of_ble_eq_true rfl, Nat.le_of_ble_eq_true rfl⟩) hK hP hD hS hA [] rfl (by decide) rfl rfl rfl hl.1 rfl (Nat.le_of_ble_eq_true rfl) dX0_part_60 ⟨Nat.zero_le _, Nat.zero_le _⟩ (fun H locs hP hD hS => ?_)
    exact kr_iret hx hcd hr hlocks hK hP hD hS (by subst hmc; exact congrArg nI (part_2 hm hlt)) rfl dX0_part_63
  · refine lv_tableIn (x := nI 3) (off := 53) (tgt := 64) hx hcd dX0_part_11 (by decide) (by decide) (by decide) (by decide) ?_
    refine lv_iload_n hx hcd dX0_part_64 rfl (lv_at hl 0 rfl) ?_
    refine lv_iconst (v := nI 4) hx hcd dX0_part_65 (by decide) ?_
    refine kr_Si (As := [.int (nI ((mc / 7) / 36)), .int (nI 4)]) (rest := []) (ws2 := []) ⟨hx, hcd, hml, hown, hts⟩ (c_J9_floorMod_7cf53 l D cI cB cW cL  _ M ((mc / 7) / 36) 4 (by omega) (by decide) (by decide)) (va_cwS 2 hts gX0_part_J9_floorMod_7cf53 rfl rfl rfl (by decide +kernel) ⟨Nat.le_of_ble_eq_true rfl, Nat.le_of_ble_eq_true rfl⟩) hK hP hD hS hA [] rfl (by decide) rfl rfl rfl hl.1 rfl (Nat.le_of_ble_eq_true rfl) dX0_part_66 ⟨Nat.zero_le _, Nat.zero_le _⟩ (fun H locs hP hD hS => ?_)
    refine lv_iconst (v := (-1)) hx hcd dX0_part_69 (by decide) ?_
    refine lv_iadd hx hcd dX0_part_70 ?_
    exact kr_iret hx hcd hr hlocks hK hP hD hS (by subst hmc; exact part_3 hm hlt) rfl dX0_part_71
  · refine lv_tableOut (x := nI 4) (tgt := 72) hx hcd dX0_part_11 (by decide) (by decide) ?_
    refine lv_iload_n hx hcd dX0_part_72 rfl (lv_at hl 0 rfl) ?_
    refine lv_iconst (v := nI 4) hx hcd dX0_part_73 (by decide) ?_
    refine kr_div hx hcd (by omega) (by decide) (by decide) dX0_part_74 ?_
    refine lv_iconst (v := (-1)) hx hcd dX0_part_75 (by decide) ?_
    refine lv_iadd hx hcd dX0_part_76 ?_
    exact kr_iret hx hcd hr hlocks hK hP hD hS (by subst hmc; exact part_4 hm hlt) rfl dX0_part_77

set_option maxHeartbeats 4000000 in
set_option maxRecDepth 100000 in
theorem c_X0_slot (l : Launch) (D : va_G) (cI cB cW cL : ClassId) (q : Nat → Nat) (sz : Nat) (M : kM) (i : Nat) (h : Nat) (e5 : M 576 = nI h) (hh : h < 300) (hi : i < 100000) : kMi l yX0_slot wsX0_slot ({ frames := 1, cells := 0, slots := 0, locals := 22 }) D vwCl (kT cI cB cW cL) sz [.ref (q 11), .int (nI i)] (wPo cI q M) (wPo cI q M) (nI ((h + i) % 300)) := by
  refine kr_ofi (cc := cX0_slot) (maxL := 2) (ret := (some .int)) (by decide) rfl (Nat.le_of_ble_eq_true rfl) ?_
  intro pp ee ss mm args below meth cc AA ls hx hcd hr hts hown hlocks hml hK hP hD hA hl
  have hS : va_S AA ss.heap ss.heap [] := va_S.rf
  have hown : ss.vm.findClass RX0 = some mm.cls := hown
  have hl : lv_has ls 2 [(0, .ref (q 11)), (1, .int (nI i))] := hl
  have uX0 : ∀ w ∈ u_ws RX0 TX0 4, w ∈ wsX0_slot := by decide +kernel
  refine lv_aload_n hx hcd dX0_slot_0 rfl (lv_at hl 0 rfl) ?_
  refine kr_get hx hcd hts uX0 hown hK hP 0 rfl rfl 1 (by decide) (by decide +kernel) (v := .int (M 576)) rfl dX0_slot_1 ?_
  refine kr_top (w := nI h) e5 ?_
  refine lv_iload_n hx hcd dX0_slot_4 rfl (lv_at hl 1 rfl) ?_
  refine kr_add hx hcd dX0_slot_5 ?_
  refine lv_sipush (v := nI 300) hx hcd dX0_slot_6 (by decide) ?_
  refine kr_Si (As := [.int (nI (h + i)), .int (nI 300)]) (rest := []) (ws2 := wPo cI q M) ⟨hx, hcd, hml, hown, hts⟩ (c_J9_floorMod_7cf53 l D cI cB cW cL  _ M (h + i) 300 (by omega) (by decide) (by decide)) (va_cwS 2 hts gX0_slot_J9_floorMod_7cf53 rfl rfl rfl (by decide +kernel) ⟨Nat.le_of_ble_eq_true rfl, Nat.le_of_ble_eq_true rfl⟩) hK hP hD hS hA [] rfl (by decide) rfl rfl rfl hl.1 rfl (Nat.le_of_ble_eq_true rfl) dX0_slot_9 ⟨Nat.zero_le _, Nat.zero_le _⟩ (fun H locs hP hD hS => ?_)
  exact kr_iret hx hcd hr hlocks hK hP hD hS rfl rfl dX0_slot_12

set_option maxHeartbeats 4000000 in
set_option maxRecDepth 100000 in
theorem c_X0_messageAt (l : Launch) (D : va_G) (cI cB cW cL : ClassId) (q : Nat → Nat) (sz : Nat) (M : kM) (i : Nat) (hI : kInv M) (hi : i < 100000) : kMi l yX0_messageAt wsX0_messageAt ({ frames := 2, cells := 0, slots := 0, locals := 43 }) D vwCl (kT cI cB cW cL) sz [.ref (q 11), .int (nI i)] (wPo cI q M) (wPo cI q M) (nI (cvN (g_msg M i))) := by
  refine kr_ofi (cc := cX0_messageAt) (maxL := 2) (ret := (some .int)) (by decide) rfl (Nat.le_of_ble_eq_true rfl) ?_
  intro pp ee ss mm args below meth cc AA ls hx hcd hr hts hown hlocks hml hK hP hD hA hl
  have hS : va_S AA ss.heap ss.heap [] := va_S.rf
  have hown : ss.vm.findClass RX0 = some mm.cls := hown
  have hl : lv_has ls 2 [(0, .ref (q 11)), (1, .int (nI i))] := hl
  have uX0 : ∀ w ∈ u_ws RX0 TX0 4, w ∈ wsX0_messageAt := by decide +kernel
  have e576 := i_hd hI
  have b576 := i_hdlt hI
  have e577 := i_wy hI
  have b577 := i_wyle hI
  refine lv_aload_n hx hcd dX0_messageAt_0 rfl (lv_at hl 0 rfl) ?_
  refine kr_get hx hcd hts uX0 hown hK hP 0 rfl rfl 0 (by decide) (by decide +kernel) (v := .ref (q 12)) rfl dX0_messageAt_1 ?_
  refine lv_aload_n hx hcd dX0_messageAt_4 rfl (lv_at hl 0 rfl) ?_
  refine lv_iload_n hx hcd dX0_messageAt_5 rfl (lv_at hl 1 rfl) ?_
  refine kr_Vi (As := [.int (nI i)]) (rest := [.ref (q 12)]) (ws2 := wPo cI q M) (q := (RX0, TX0, 4)) ⟨hx, hcd, hml, hown, hts⟩ (c_X0_slot l D cI cB cW cL q _ M i (hdN M) e576 (by omega) (by omega)) (cwV 1 hts gX0_messageAt_X0_slot rfl rfl rfl (by decide +kernel) ⟨Nat.le_of_ble_eq_true rfl, Nat.le_of_ble_eq_true rfl⟩) hK hP hD hS hA [0, 1, 2] wPo_allC (by decide) wPo_adr wPo_all 0 rfl rfl rfl hl.1 rfl (Nat.le_of_ble_eq_true rfl) dX0_messageAt_6 ⟨Nat.zero_le _, Nat.zero_le _⟩ (fun H locs hP hD hS => ?_)
  refine kr_iald hx hcd hK hP 1 0 rfl rfl (v := cv (M (276 + (((hdN M) + i) % 300)))) (by omega) (by decide) (vr_at (by omega) (by omega)) dX0_messageAt_9 ?_
  refine kr_top (w := nI (cvN (g_msg M i))) rfl ?_
  exact kr_iret hx hcd hr hlocks hK hP hD hS rfl rfl dX0_messageAt_10

set_option maxHeartbeats 4000000 in
set_option maxRecDepth 100000 in
theorem c_X0_isOfSeat (l : Launch) (D : va_G) (cI cB cW cL : ClassId) (q : Nat → Nat) (sz : Nat) (M : kM) (i : Nat) (hI : kInv M) (hi : i < 100000) : kMi l yX0_isOfSeat wsX0_isOfSeat ({ frames := 3, cells := 0, slots := 0, locals := 64 }) D vwCl (kT cI cB cW cL) sz [.ref (q 11), .int (nI i)] (wPo cI q M) (wPo cI q M) (kI (g_ofSeat (g_msg M i))) := by
  refine kr_ofi (cc := cX0_isOfSeat) (maxL := 2) (ret := (some .boolean)) (by decide) rfl (Nat.le_of_ble_eq_true rfl) ?_
  intro pp ee ss mm args below meth cc AA ls hx hcd hr hts hown hlocks hml hK hP hD hA hl
  have hS : va_S AA ss.heap ss.heap [] := va_S.rf
  have hown : ss.vm.findClass RX0 = some mm.cls := hown
  have hl : lv_has ls 2 [(0, .ref (q 11)), (1, .int (nI i))] := hl
  refine lv_aload_n hx hcd dX0_isOfSeat_0 rfl (lv_at hl 0 rfl) ?_
  refine lv_iload_n hx hcd dX0_isOfSeat_1 rfl (lv_at hl 1 rfl) ?_
  refine kr_Vi (As := [.int (nI i)]) (rest := []) (ws2 := wPo cI q M) (q := (RX0, TX0, 4)) ⟨hx, hcd, hml, hown, hts⟩ (c_X0_messageAt l D cI cB cW cL q _ M i hI (by omega)) (cwV 1 hts gX0_isOfSeat_X0_messageAt rfl rfl rfl (by decide +kernel) ⟨Nat.le_of_ble_eq_true rfl, Nat.le_of_ble_eq_true rfl⟩) hK hP hD hS hA [0, 1, 2] wPo_allC (by decide) wPo_adr wPo_all 0 rfl rfl rfl hl.1 rfl (Nat.le_of_ble_eq_true rfl) dX0_isOfSeat_2 ⟨Nat.zero_le _, Nat.zero_le _⟩ (fun H locs hP hD hS => ?_)
  refine lv_iconst (v := nI 3) hx hcd dX0_isOfSeat_5 (by decide) ?_
  refine kr_Si (As := [.int (nI (cvN (g_msg M i))), .int (nI 3)]) (rest := []) (ws2 := wPo cI q M) ⟨hx, hcd, hml, hown, hts⟩ (c_X0_part l D cI cB cW cL  _ M (cvN (g_msg M i)) 3 (g_msg M i) (by omega) rfl (i_msg hI i).1 (i_msglt hI i)) (va_cwS 2 hts gX0_isOfSeat_X0_part rfl rfl rfl (by decide +kernel) ⟨Nat.le_of_ble_eq_true rfl, Nat.le_of_ble_eq_true rfl⟩) hK hP hD hS hA [] rfl (by decide) rfl rfl rfl hl.1 rfl (Nat.le_of_ble_eq_true rfl) dX0_isOfSeat_6 ⟨Nat.zero_le _, Nat.zero_le _⟩ (fun H locs hP hD hS => ?_)
  refine lv_iconst (v := (-1)) hx hcd dX0_isOfSeat_9 (by decide) ?_
  refine lv_icmp_eq (tgt := 17) hx hcd dX0_isOfSeat_10 (by decide) (fun (c_10 : (g_part (g_msg M i) 3) = (-1)) => ?_) (fun (c_10 : ¬ (g_part (g_msg M i) 3) = (-1)) => ?_)
  · refine lv_iconst (v := nI 0) hx hcd dX0_isOfSeat_17 (by decide) ?_
    exact kr_zret hx hcd hr hlocks hK hP hD hS rfl (by simp [g_ofSeat, kI, c_10]; rfl) rfl dX0_isOfSeat_18
  · refine lv_iconst (v := nI 1) hx hcd dX0_isOfSeat_13 (by decide) ?_
    refine lv_goto (tgt := 18) hx hcd dX0_isOfSeat_14 (by decide) ?_
    exact kr_zret hx hcd hr hlocks hK hP hD hS rfl (by simp [g_ofSeat, kI, c_10]; rfl) rfl dX0_isOfSeat_18

set_option maxHeartbeats 4000000 in
set_option maxRecDepth 100000 in
theorem c_X0_put (l : Launch) (D : va_G) (cI cB cW cL : ClassId) (q : Nat → Nat) (sz : Nat) (M : kM) (msg : Int32) (c : Nat) (hI : kInv M) (em : msg = cv (nI c)) : kMv l yX0_put wsX0_put ({ frames := 0, cells := 0, slots := 0, locals := 0 }) D vwCl (kT cI cB cW cL) sz [.ref (q 11), .int msg] (wPo cI q M) (wPo cI q (g_put M c)) := by
  refine kr_ofv (cc := cX0_put) (maxL := 2) (ret := none) (by decide) rfl (Nat.le_of_ble_eq_true rfl) ?_
  intro pp ee ss mm args below meth cc AA ls hx hcd hr hts hown hlocks hml hK hP hD hA hl
  have hS : va_S AA ss.heap ss.heap [] := va_S.rf
  have hown : ss.vm.findClass RX0 = some mm.cls := hown
  have hl : lv_has ls 2 [(0, .ref (q 11)), (1, .int msg)] := hl
  have uX0 : ∀ w ∈ u_ws RX0 TX0 4, w ∈ wsX0_put := by decide +kernel
  have e576 := i_hd hI
  have b576 := i_hdlt hI
  have e577 := i_wy hI
  have b577 := i_wyle hI
  refine lv_aload_n hx hcd dX0_put_0 rfl (lv_at hl 0 rfl) ?_
  refine kr_get hx hcd hts uX0 hown hK hP 0 rfl rfl 3 (by decide) (by decide +kernel) (v := .ref (q 13)) rfl dX0_put_1 ?_
  refine lv_iconst (v := nI 0) hx hcd dX0_put_4 (by decide) ?_
  refine lv_dup2_11 hx hcd dX0_put_5 rfl rfl ?_
  refine kr_iald hx hcd hK hP 2 0 rfl rfl (v := M 578) (by omega) (by decide) (vw_at (by omega) (by omega)) dX0_put_6 ?_
  refine lv_iconst (v := nI 1) hx hcd dX0_put_7 (by decide) ?_
  refine lv_iadd hx hcd dX0_put_8 ?_
  refine kr_iast hx hcd hK hP hD hS 2 0 rfl rfl (by omega) (by decide) (vw_upd (by omega) (by omega)) (ws2 := wPo cI q (upd M (578) ((M 578) + 1))) (po_s2 (fun k hk => upd_ne (by omega))) dX0_put_9 (fun H locs hP hD hS => ?_)
  refine lv_aload_n hx hcd dX0_put_10 rfl (lv_at hl 0 rfl) ?_
  refine kr_get hx hcd hts uX0 hown hK hP 0 rfl rfl 2 (by decide) (by decide +kernel) (v := .int ((upd M (578) ((M 578) + 1)) 577)) rfl dX0_put_11 ?_
  refine kr_top (w := M 577) (upd_ne (by omega)) ?_
  refine kr_top (w := nI (wyN M)) e577 ?_
  refine lv_sipush (v := nI 300) hx hcd dX0_put_14 (by decide) ?_
  refine kr_clt (tgt := 31) hx hcd (by omega) (by omega) dX0_put_17 (by decide) (fun (c_17 : wyN M < 300) => ?_) (fun (c_17 : 300 ≤ wyN M) => ?_)
  · refine lv_aload_n hx hcd dX0_put_31 rfl (lv_at hl 0 rfl) ?_
    refine kr_get hx hcd hts uX0 hown hK hP 0 rfl rfl 0 (by decide) (by decide +kernel) (v := .ref (q 12)) rfl dX0_put_32 ?_
    refine lv_aload_n hx hcd dX0_put_35 rfl (lv_at hl 0 rfl) ?_
    refine kr_get hx hcd hts uX0 hown hK hP 0 rfl rfl 1 (by decide) (by decide +kernel) (v := .int ((upd M (578) ((M 578) + 1)) 576)) rfl dX0_put_36 ?_
    refine kr_top (w := M 576) (upd_ne (by omega)) ?_
    refine kr_top (w := nI (hdN M)) e576 ?_
    refine lv_aload_n hx hcd dX0_put_39 rfl (lv_at hl 0 rfl) ?_
    refine kr_get hx hcd hts uX0 hown hK hP 0 rfl rfl 2 (by decide) (by decide +kernel) (v := .int ((upd M (578) ((M 578) + 1)) 577)) rfl dX0_put_40 ?_
    refine kr_top (w := M 577) (upd_ne (by omega)) ?_
    refine kr_top (w := nI (wyN M)) e577 ?_
    refine kr_add hx hcd dX0_put_43 ?_
    refine lv_sipush (v := nI 300) hx hcd dX0_put_44 (by decide) ?_
    refine kr_rem hx hcd (by omega) (by decide) (by decide) dX0_put_47 ?_
    refine lv_iload_n hx hcd dX0_put_48 rfl (lv_at hl 1 rfl) ?_
    refine kr_iast hx hcd hK hP hD hS 1 0 rfl rfl (by omega) (by decide) (vr_upd (by omega) (by omega) em) (ws2 := wPo cI q (upd (upd M (578) ((M 578) + 1)) (276 + (((hdN M) + (wyN M)) % 300)) (nI c))) (po_s1 (fun k hk => upd_ne (by omega))) dX0_put_49 (fun H locs hP hD hS => ?_)
    refine lv_aload_n hx hcd dX0_put_50 rfl (lv_at hl 0 rfl) ?_
    refine lv_dup hx hcd dX0_put_51 rfl ?_
    refine kr_get hx hcd hts uX0 hown hK hP 0 rfl rfl 2 (by decide) (by decide +kernel) (v := .int ((upd (upd M (578) ((M 578) + 1)) (276 + (((hdN M) + (wyN M)) % 300)) (nI c)) 577)) rfl dX0_put_52 ?_
    refine kr_top (w := M 577) ((upd_ne (by omega)).trans (upd_ne (by omega))) ?_
    refine kr_top (w := nI (wyN M)) e577 ?_
    refine lv_iconst (v := nI 1) hx hcd dX0_put_55 (by decide) ?_
    refine kr_add hx hcd dX0_put_56 ?_
    refine kr_put hx hcd hts uX0 tyX0 tyX0_ok nmX0 hown hK hP hD hS 0 rfl rfl 2 (by decide) (by decide +kernel) rfl rfl rfl (ws2 := wPo cI q (upd (upd (upd M (578) ((M 578) + 1)) (276 + (((hdN M) + (wyN M)) % 300)) (nI c)) 577 (nI ((wyN M) + 1)))) (po_f2) dX0_put_57 (fun H locs hP hD hS => ?_)
    exact kr_vret hx hcd hr hlocks hK hP hD hS (congrArg (fun M9 => wPo cI q M9) (by rw [g_put, if_neg (fun h => by rw [e577] at h; have := (nI_eq (by omega) (by omega)).mp h; omega), e577, nI_1])) dX0_put_60
  · refine lv_aload_n hx hcd dX0_put_20 rfl (lv_at hl 0 rfl) ?_
    refine kr_get hx hcd hts uX0 hown hK hP 0 rfl rfl 3 (by decide) (by decide +kernel) (v := .ref (q 13)) rfl dX0_put_21 ?_
    refine lv_iconst (v := nI 2) hx hcd dX0_put_24 (by decide) ?_
    refine lv_dup2_11 hx hcd dX0_put_25 rfl rfl ?_
    refine kr_iald hx hcd hK hP 2 0 rfl rfl (v := (upd M (578) ((M 578) + 1)) 580) (by omega) (by decide) (vw_at (by omega) (by omega)) dX0_put_26 ?_
    refine kr_top (w := M 580) (upd_ne (by omega)) ?_
    refine lv_iconst (v := nI 1) hx hcd dX0_put_27 (by decide) ?_
    refine lv_iadd hx hcd dX0_put_28 ?_
    refine kr_iast hx hcd hK hP hD hS 2 0 rfl rfl (by omega) (by decide) (vw_upd (by omega) (by omega)) (ws2 := wPo cI q (upd (upd M (578) ((M 578) + 1)) (580) ((M 580) + 1))) (po_s2 (fun k hk => upd_ne (by omega))) dX0_put_29 (fun H locs hP hD hS => ?_)
    exact kr_vret hx hcd hr hlocks hK hP hD hS (congrArg (fun M9 => wPo cI q M9) (by rw [g_put, if_pos (by rw [e577]; exact congrArg nI (by omega))])) dX0_put_30

set_option maxHeartbeats 4000000 in
set_option maxRecDepth 100000 in
theorem c_X0_takeOldest (l : Launch) (D : va_G) (cI cB cW cL : ClassId) (q : Nat → Nat) (sz : Nat) (M : kM) (hI : kInv M) (hw : 0 < wyN M) : kMi l yX0_takeOldest wsX0_takeOldest ({ frames := 3, cells := 0, slots := 0, locals := 64 }) D vwCl (kT cI cB cW cL) sz [.ref (q 11)] (wPo cI q M) (wPo cI q (g_take M)) (nI (cvN (g_msg M 0))) := by
  refine kr_ofi (cc := cX0_takeOldest) (maxL := 2) (ret := (some .int)) (by decide) rfl (Nat.le_of_ble_eq_true rfl) ?_
  intro pp ee ss mm args below meth cc AA ls hx hcd hr hts hown hlocks hml hK hP hD hA hl
  have hS : va_S AA ss.heap ss.heap [] := va_S.rf
  have hown : ss.vm.findClass RX0 = some mm.cls := hown
  have hl : lv_has ls 2 [(0, .ref (q 11))] := hl
  have uX0 : ∀ w ∈ u_ws RX0 TX0 4, w ∈ wsX0_takeOldest := by decide +kernel
  have e576 := i_hd hI
  have b576 := i_hdlt hI
  have e577 := i_wy hI
  have b577 := i_wyle hI
  refine lv_aload_n hx hcd dX0_takeOldest_0 rfl (lv_at hl 0 rfl) ?_
  refine lv_iconst (v := nI 0) hx hcd dX0_takeOldest_1 (by decide) ?_
  refine kr_Vi (As := [.int (nI 0)]) (rest := []) (ws2 := wPo cI q M) (q := (RX0, TX0, 4)) ⟨hx, hcd, hml, hown, hts⟩ (c_X0_messageAt l D cI cB cW cL q _ M 0 hI (by omega)) (cwV 1 hts gX0_takeOldest_X0_messageAt rfl rfl rfl (by decide +kernel) ⟨Nat.le_of_ble_eq_true rfl, Nat.le_of_ble_eq_true rfl⟩) hK hP hD hS hA [0, 1, 2] wPo_allC (by decide) wPo_adr wPo_all 0 rfl rfl rfl hl.1 rfl (Nat.le_of_ble_eq_true rfl) dX0_takeOldest_2 ⟨Nat.zero_le _, Nat.zero_le _⟩ (fun H locs hP hD hS => ?_)
  refine lv_istore_n (lv' := [(1, .int (nI (cvN (g_msg M 0)))), (0, .ref (q 11))]) hx hcd dX0_takeOldest_5 rfl hl (by decide) rfl (fun ls hl => ?_)
  refine lv_aload_n hx hcd dX0_takeOldest_6 rfl (lv_at hl 1 rfl) ?_
  refine lv_aload_n hx hcd dX0_takeOldest_7 rfl (lv_at hl 1 rfl) ?_
  refine lv_iconst (v := nI 1) hx hcd dX0_takeOldest_8 (by decide) ?_
  refine kr_Vi (As := [.int (nI 1)]) (rest := [.ref (q 11)]) (ws2 := wPo cI q M) (q := (RX0, TX0, 4)) ⟨hx, hcd, hml, hown, hts⟩ (c_X0_slot l D cI cB cW cL q _ M 1 (hdN M) e576 (by omega) (by omega)) (cwV 1 hts gX0_takeOldest_X0_slot rfl rfl rfl (by decide +kernel) ⟨Nat.le_of_ble_eq_true rfl, Nat.le_of_ble_eq_true rfl⟩) hK hP hD hS hA [0, 1, 2] wPo_allC (by decide) wPo_adr wPo_all 0 rfl rfl rfl hl.1 rfl (Nat.le_of_ble_eq_true rfl) dX0_takeOldest_9 ⟨Nat.zero_le _, Nat.zero_le _⟩ (fun H locs hP hD hS => ?_)
  refine kr_put hx hcd hts uX0 tyX0 tyX0_ok nmX0 hown hK hP hD hS 0 rfl rfl 1 (by decide) (by decide +kernel) rfl rfl rfl (ws2 := wPo cI q (upd M 576 (nI (((hdN M) + 1) % 300)))) (po_f1) dX0_takeOldest_12 (fun H locs hP hD hS => ?_)
  refine lv_aload_n hx hcd dX0_takeOldest_15 rfl (lv_at hl 1 rfl) ?_
  refine lv_dup hx hcd dX0_takeOldest_16 rfl ?_
  refine kr_get hx hcd hts uX0 hown hK hP 0 rfl rfl 2 (by decide) (by decide +kernel) (v := .int ((upd M 576 (nI (((hdN M) + 1) % 300))) 577)) rfl dX0_takeOldest_17 ?_
  refine kr_top (w := M 577) (upd_ne (by omega)) ?_
  refine kr_top (w := nI (wyN M)) e577 ?_
  refine lv_iconst (v := nI 1) hx hcd dX0_takeOldest_20 (by decide) ?_
  refine kr_sub hx hcd (by omega) dX0_takeOldest_21 ?_
  refine kr_put hx hcd hts uX0 tyX0 tyX0_ok nmX0 hown hK hP hD hS 0 rfl rfl 2 (by decide) (by decide +kernel) rfl rfl rfl (ws2 := wPo cI q (upd (upd M 576 (nI (((hdN M) + 1) % 300))) 577 (nI ((wyN M) - 1)))) (po_f2) dX0_takeOldest_22 (fun H locs hP hD hS => ?_)
  refine lv_aload_n hx hcd dX0_takeOldest_25 rfl (lv_at hl 1 rfl) ?_
  refine kr_get hx hcd hts uX0 hown hK hP 0 rfl rfl 3 (by decide) (by decide +kernel) (v := .ref (q 13)) rfl dX0_takeOldest_26 ?_
  refine lv_iconst (v := nI 1) hx hcd dX0_takeOldest_29 (by decide) ?_
  refine lv_dup2_11 hx hcd dX0_takeOldest_30 rfl rfl ?_
  refine kr_iald hx hcd hK hP 2 0 rfl rfl (v := (upd (upd M 576 (nI (((hdN M) + 1) % 300))) 577 (nI ((wyN M) - 1))) 579) (by omega) (by decide) (vw_at (by omega) (by omega)) dX0_takeOldest_31 ?_
  refine kr_top (w := M 579) ((upd_ne (by omega)).trans (upd_ne (by omega))) ?_
  refine lv_iconst (v := nI 1) hx hcd dX0_takeOldest_32 (by decide) ?_
  refine lv_iadd hx hcd dX0_takeOldest_33 ?_
  refine kr_iast hx hcd hK hP hD hS 2 0 rfl rfl (by omega) (by decide) (vw_upd (by omega) (by omega)) (ws2 := wPo cI q (upd (upd (upd M 576 (nI (((hdN M) + 1) % 300))) 577 (nI ((wyN M) - 1))) (579) ((M 579) + 1))) (po_s2 (fun k hk => upd_ne (by omega))) dX0_takeOldest_34 (fun H locs hP hD hS => ?_)
  refine lv_iload_n hx hcd dX0_takeOldest_35 rfl (lv_at hl 0 rfl) ?_
  exact kr_iret hx hcd hr hlocks hK hP hD hS rfl (congrArg (fun M9 => wPo cI q M9) (by rw [g_take, i_dec hI (by omega)])) dX0_takeOldest_36

set_option maxHeartbeats 4000000 in
set_option maxRecDepth 100000 in
theorem c_X0_loseAt (l : Launch) (D : va_G) (cI cB cW cL : ClassId) (q : Nat → Nat) (sz : Nat) (M : kM) (i : Nat) (hI : kInv M) (hw : i < wyN M) : kMi l yX0_loseAt wsX0_loseAt ({ frames := 3, cells := 0, slots := 0, locals := 64 }) D vwCl (kT cI cB cW cL) sz [.ref (q 11), .int (nI i)] (wPo cI q M) (wPo cI q (g_drop M i)) (nI (cvN (g_msg M i))) := by
  refine kr_ofi (cc := cX0_loseAt) (maxL := 4) (ret := (some .int)) (by decide) rfl (Nat.le_of_ble_eq_true rfl) ?_
  intro pp ee ss mm args below meth cc AA ls hx hcd hr hts hown hlocks hml hK hP hD hA hl
  have hS : va_S AA ss.heap ss.heap [] := va_S.rf
  have hown : ss.vm.findClass RX0 = some mm.cls := hown
  have hl : lv_has ls 4 [(0, .ref (q 11)), (1, .int (nI i))] := hl
  have uX0 : ∀ w ∈ u_ws RX0 TX0 4, w ∈ wsX0_loseAt := by decide +kernel
  have e576 := i_hd hI
  have b576 := i_hdlt hI
  have e577 := i_wy hI
  have b577 := i_wyle hI
  refine lv_aload_n hx hcd dX0_loseAt_0 rfl (lv_at hl 0 rfl) ?_
  refine lv_iload_n hx hcd dX0_loseAt_1 rfl (lv_at hl 1 rfl) ?_
  refine kr_Vi (As := [.int (nI i)]) (rest := []) (ws2 := wPo cI q M) (q := (RX0, TX0, 4)) ⟨hx, hcd, hml, hown, hts⟩ (c_X0_messageAt l D cI cB cW cL q _ M i hI (by omega)) (cwV 1 hts gX0_loseAt_X0_messageAt rfl rfl rfl (by decide +kernel) ⟨Nat.le_of_ble_eq_true rfl, Nat.le_of_ble_eq_true rfl⟩) hK hP hD hS hA [0, 1, 2] wPo_allC (by decide) wPo_adr wPo_all 0 rfl rfl rfl hl.1 rfl (Nat.le_of_ble_eq_true rfl) dX0_loseAt_2 ⟨Nat.zero_le _, Nat.zero_le _⟩ (fun H locs hP hD hS => ?_)
  refine lv_istore_n (lv' := [(2, .int (nI (cvN (g_msg M i)))), (0, .ref (q 11)), (1, .int (nI i))]) hx hcd dX0_loseAt_5 rfl hl (by decide) rfl (fun ls hl => ?_)
  refine lv_iload_n hx hcd dX0_loseAt_6 rfl (lv_at hl 2 rfl) ?_
  refine lv_iconst (v := nI 1) hx hcd dX0_loseAt_7 (by decide) ?_
  refine kr_add hx hcd dX0_loseAt_8 ?_
  refine lv_istore_n (lv' := [(3, .int (nI (i + 1))), (2, .int (nI (cvN (g_msg M i)))), (0, .ref (q 11)), (1, .int (nI i))]) hx hcd dX0_loseAt_9 rfl hl (by decide) rfl (fun ls hl => ?_)
  refine kr_up (fun n => wPo cI q (g_shN M i n)) (fun n => [(0, .ref (q 11)), (1, .int (nI i)), (2, .int (nI (cvN (g_msg M i)))), (3, .int (nI (i + n + 1)))]) (wyN M - 1 - i) (nL := 4) (fun n hn ih_10 H locs ls hP hD hS hl => ?_) (fun H locs ls hP hD hS hl => ?_) 0 (by omega) hP hD hS (lv_sub hl [2, 3, 1, 0] rfl)
  · have hl : lv_has ls 4 [(0, .ref (q 11)), (1, .int (nI i)), (2, .int (nI (cvN (g_msg M i)))), (3, .int (nI (i + n + 1)))] := hl
    refine lv_iload_n hx hcd dX0_loseAt_10 rfl (lv_at hl 3 rfl) ?_
    refine lv_aload_n hx hcd dX0_loseAt_11 rfl (lv_at hl 0 rfl) ?_
    refine kr_get hx hcd hts uX0 hown hK hP 0 rfl rfl 2 (by decide) (by decide +kernel) (v := .int ((g_shN M i n) 577)) rfl dX0_loseAt_12 ?_
    refine kr_top (w := nI (wyN M)) ((o_shN (Or.inr (by omega)) _).trans e577) ?_
    refine kr_cge (tgt := 46) hx hcd (by omega) (by omega) dX0_loseAt_15 (by decide) (fun (c_15 : wyN M ≤ i + n + 1) => absurd c_15 (by omega)) (fun (c_15 : i + n + 1 < wyN M) => ?_)
    refine lv_aload_n hx hcd dX0_loseAt_18 rfl (lv_at hl 0 rfl) ?_
    refine kr_get hx hcd hts uX0 hown hK hP 0 rfl rfl 0 (by decide) (by decide +kernel) (v := .ref (q 12)) rfl dX0_loseAt_19 ?_
    refine lv_aload_n hx hcd dX0_loseAt_22 rfl (lv_at hl 0 rfl) ?_
    refine lv_iload_n hx hcd dX0_loseAt_23 rfl (lv_at hl 3 rfl) ?_
    refine lv_iconst (v := nI 1) hx hcd dX0_loseAt_24 (by decide) ?_
    refine kr_sub hx hcd (by omega) dX0_loseAt_25 ?_
    refine kr_top (w := nI (i + n)) (congrArg nI (by omega)) ?_
    refine kr_Vi (As := [.int (nI (i + n))]) (rest := [.ref (q 12)]) (ws2 := wPo cI q (g_shN M i n)) (q := (RX0, TX0, 4)) ⟨hx, hcd, hml, hown, hts⟩ (c_X0_slot l D cI cB cW cL q _ (g_shN M i n) (i + n) (hdN M) ((o_shN (Or.inr (by omega)) n).trans e576) (by omega) (by omega)) (cwV 1 hts gX0_loseAt_X0_slot rfl rfl rfl (by decide +kernel) ⟨Nat.le_of_ble_eq_true rfl, Nat.le_of_ble_eq_true rfl⟩) hK hP hD hS hA [0, 1, 2] wPo_allC (by decide) wPo_adr wPo_all 0 rfl rfl rfl hl.1 rfl (Nat.le_of_ble_eq_true rfl) dX0_loseAt_26 ⟨Nat.zero_le _, Nat.zero_le _⟩ (fun H locs hP hD hS => ?_)
    refine lv_aload_n hx hcd dX0_loseAt_29 rfl (lv_at hl 0 rfl) ?_
    refine kr_get hx hcd hts uX0 hown hK hP 0 rfl rfl 0 (by decide) (by decide +kernel) (v := .ref (q 12)) rfl dX0_loseAt_30 ?_
    refine lv_aload_n hx hcd dX0_loseAt_33 rfl (lv_at hl 0 rfl) ?_
    refine lv_iload_n hx hcd dX0_loseAt_34 rfl (lv_at hl 3 rfl) ?_
    refine kr_Vi (As := [.int (nI (i + n + 1))]) (rest := [.ref (q 12), .int (nI (((hdN M) + (i + n)) % 300)), .ref (q 12)]) (ws2 := wPo cI q (g_shN M i n)) (q := (RX0, TX0, 4)) ⟨hx, hcd, hml, hown, hts⟩ (c_X0_slot l D cI cB cW cL q _ (g_shN M i n) (i + n + 1) (hdN M) ((o_shN (Or.inr (by omega)) n).trans e576) (by omega) (by omega)) (cwV 1 hts gX0_loseAt_X0_slot rfl rfl rfl (by decide +kernel) ⟨Nat.le_of_ble_eq_true rfl, Nat.le_of_ble_eq_true rfl⟩) hK hP hD hS hA [0, 1, 2] wPo_allC (by decide) wPo_adr wPo_all 0 rfl rfl rfl hl.1 rfl (Nat.le_of_ble_eq_true rfl) dX0_loseAt_35 ⟨Nat.zero_le _, Nat.zero_le _⟩ (fun H locs hP hD hS => ?_)
    refine kr_iald hx hcd hK hP 1 0 rfl rfl (v := cv ((g_shN M i n) (276 + (((hdN M) + (i + n + 1)) % 300)))) (by omega) (by decide) (vr_at (by omega) (by omega)) dX0_loseAt_38 ?_
    refine kr_iast hx hcd hK hP hD hS 1 0 rfl rfl (by omega) (by decide) (vr_upd (by omega) (by omega) rfl) (ws2 := wPo cI q (upd (g_shN M i n) (276 + (((hdN M) + (i + n)) % 300)) ((g_shN M i n) (276 + ((hdN M + (i + n + 1)) % 300))))) (po_s1 (fun k hk => upd_ne (by omega))) dX0_loseAt_39 (fun H locs hP hD hS => ?_)
    refine kr_iinc (lv' := [(3, .int (nI (i + n + 1 + 1))), (0, .ref (q 11)), (1, .int (nI i)), (2, .int (nI (cvN (g_msg M i))))]) hx hcd dX0_loseAt_40 hl (k := 3) rfl (by decide) rfl (fun ls hl => ?_)
    refine lv_goto (tgt := 10) hx hcd dX0_loseAt_43 (by decide) ?_
    exact ih_10 H locs ls hP hD hS (lv_sub hl [1, 2, 3, 0] rfl)
  · have hl : lv_has ls 4 [(0, .ref (q 11)), (1, .int (nI i)), (2, .int (nI (cvN (g_msg M i)))), (3, .int (nI (i + (wyN M - 1 - i) + 1)))] := hl
    refine lv_iload_n hx hcd dX0_loseAt_10 rfl (lv_at hl 3 rfl) ?_
    refine lv_aload_n hx hcd dX0_loseAt_11 rfl (lv_at hl 0 rfl) ?_
    refine kr_get hx hcd hts uX0 hown hK hP 0 rfl rfl 2 (by decide) (by decide +kernel) (v := .int ((g_shN M i (wyN M - 1 - i)) 577)) rfl dX0_loseAt_12 ?_
    refine kr_top (w := nI (wyN M)) ((o_shN (Or.inr (by omega)) _).trans e577) ?_
    refine kr_cge (tgt := 46) hx hcd (by omega) (by omega) dX0_loseAt_15 (by decide) (fun (c_15 : wyN M ≤ i + (wyN M - 1 - i) + 1) => ?_) (fun (c_15 : i + (wyN M - 1 - i) + 1 < wyN M) => absurd c_15 (by omega))
    refine lv_aload_n hx hcd dX0_loseAt_46 rfl (lv_at hl 0 rfl) ?_
    refine lv_dup hx hcd dX0_loseAt_47 rfl ?_
    refine kr_get hx hcd hts uX0 hown hK hP 0 rfl rfl 2 (by decide) (by decide +kernel) (v := .int ((g_shN M i (wyN M - 1 - i)) 577)) rfl dX0_loseAt_48 ?_
    refine kr_top (w := nI (wyN M)) ((o_shN (Or.inr (by omega)) _).trans e577) ?_
    refine lv_iconst (v := nI 1) hx hcd dX0_loseAt_51 (by decide) ?_
    refine kr_sub hx hcd (by omega) dX0_loseAt_52 ?_
    refine kr_put hx hcd hts uX0 tyX0 tyX0_ok nmX0 hown hK hP hD hS 0 rfl rfl 2 (by decide) (by decide +kernel) rfl rfl rfl (ws2 := wPo cI q (upd (g_shN M i (wyN M - 1 - i)) 577 (nI ((wyN M) - 1)))) (po_f2) dX0_loseAt_53 (fun H locs hP hD hS => ?_)
    refine lv_aload_n hx hcd dX0_loseAt_56 rfl (lv_at hl 0 rfl) ?_
    refine kr_get hx hcd hts uX0 hown hK hP 0 rfl rfl 3 (by decide) (by decide +kernel) (v := .ref (q 13)) rfl dX0_loseAt_57 ?_
    refine lv_iconst (v := nI 2) hx hcd dX0_loseAt_60 (by decide) ?_
    refine lv_dup2_11 hx hcd dX0_loseAt_61 rfl rfl ?_
    refine kr_iald hx hcd hK hP 2 0 rfl rfl (v := (upd (g_shN M i (wyN M - 1 - i)) 577 (nI ((wyN M) - 1))) 580) (by omega) (by decide) (vw_at (by omega) (by omega)) dX0_loseAt_62 ?_
    refine kr_top (w := (g_shN M i (wyN M - 1 - i)) 580) (upd_ne (by omega)) ?_
    refine kr_top (w := M 580) ((o_shN (Or.inr (by omega)) _).trans rfl) ?_
    refine lv_iconst (v := nI 1) hx hcd dX0_loseAt_63 (by decide) ?_
    refine lv_iadd hx hcd dX0_loseAt_64 ?_
    refine kr_iast hx hcd hK hP hD hS 2 0 rfl rfl (by omega) (by decide) (vw_upd (by omega) (by omega)) (ws2 := wPo cI q (upd (upd (g_shN M i (wyN M - 1 - i)) 577 (nI ((wyN M) - 1))) (580) ((M 580) + 1))) (po_s2 (fun k hk => upd_ne (by omega))) dX0_loseAt_65 (fun H locs hP hD hS => ?_)
    refine lv_iload_n hx hcd dX0_loseAt_66 rfl (lv_at hl 2 rfl) ?_
    exact kr_iret hx hcd hr hlocks hK hP hD hS rfl (congrArg (fun M9 => wPo cI q M9) (by rw [g_drop, i_dec hI (by omega)])) dX0_loseAt_67
