set_option maxHeartbeats 4000000 in
set_option maxRecDepth 100000 in
theorem c_X6_ask__e1 (l : Launch) (D : va_G) (cI cB cW cL : ClassId)  (sz : Nat) (M : kM) (hst : l.stackTraces = false) (u : Int32) (w : Int32) (ob : Nat) (hg : g_why u w = nI 1) : kMx l yX6_ask wsX6_ask ({ frames := 8, cells := 1, slots := 6, locals := 123 }) D vwCl (kT cI cB cW cL) sz [.ref ob, .int u, .int w] ([]) eIO := by
  refine kr_ofx (cc := cX6_ask) (maxL := 3) (ret := (some .int)) (by decide) rfl (Nat.le_of_ble_eq_true rfl) ?_
  intro pp ee ss mm args below meth cc AA ls hx hcd hno hts hown hlocks hml hZ hK hP hD hA hl
  have hS : va_S AA ss.heap ss.heap [] := va_S.rf
  have hown : ss.vm.findClass RX6 = some mm.cls := hown
  have hl : lv_has ls 3 [(0, .ref ob), (1, .int u), (2, .int w)] := hl
  refine lv_iload_n hx hcd dX6_ask_0 rfl (lv_at hl 1 rfl) ?_
  refine lv_iload_n hx hcd dX6_ask_1 rfl (lv_at hl 2 rfl) ?_
  exact kx_S (Qz := kQ0) (As := [.int u, .int w]) (rest := []) ⟨hx, hcd, hml, hown, hts⟩ (c_X6_checkPair__e1 l D cI cB cW cL  _ M hst u w hg) (va_cwS 2 hts gX6_ask_X6_checkPair rfl rfl rfl (by decide +kernel) ⟨Nat.le_of_ble_eq_true rfl, Nat.le_of_ble_eq_true rfl⟩) hZ hno hlocks hK hP hD hS hA [] rfl (by decide) rfl hl.1 rfl (Nat.le_of_ble_eq_true rfl) dX6_ask_2 ⟨Nat.le_of_ble_eq_true rfl, Nat.le_of_ble_eq_true rfl⟩

set_option maxHeartbeats 4000000 in
set_option maxRecDepth 100000 in
theorem c_X6_ask__e2 (l : Launch) (D : va_G) (cI cB cW cL : ClassId)  (sz : Nat) (M : kM) (hst : l.stackTraces = false) (u : Int32) (w : Int32) (ob : Nat) (hg : g_why u w = nI 2) : kMx l yX6_ask wsX6_ask ({ frames := 8, cells := 1, slots := 6, locals := 123 }) D vwCl (kT cI cB cW cL) sz [.ref ob, .int u, .int w] ([]) eIA := by
  refine kr_ofx (cc := cX6_ask) (maxL := 3) (ret := (some .int)) (by decide) rfl (Nat.le_of_ble_eq_true rfl) ?_
  intro pp ee ss mm args below meth cc AA ls hx hcd hno hts hown hlocks hml hZ hK hP hD hA hl
  have hS : va_S AA ss.heap ss.heap [] := va_S.rf
  have hown : ss.vm.findClass RX6 = some mm.cls := hown
  have hl : lv_has ls 3 [(0, .ref ob), (1, .int u), (2, .int w)] := hl
  refine lv_iload_n hx hcd dX6_ask_0 rfl (lv_at hl 1 rfl) ?_
  refine lv_iload_n hx hcd dX6_ask_1 rfl (lv_at hl 2 rfl) ?_
  exact kx_S (Qz := kQ0) (As := [.int u, .int w]) (rest := []) ⟨hx, hcd, hml, hown, hts⟩ (c_X6_checkPair__e2 l D cI cB cW cL  _ M hst u w hg) (va_cwS 2 hts gX6_ask_X6_checkPair rfl rfl rfl (by decide +kernel) ⟨Nat.le_of_ble_eq_true rfl, Nat.le_of_ble_eq_true rfl⟩) hZ hno hlocks hK hP hD hS hA [] rfl (by decide) rfl hl.1 rfl (Nat.le_of_ble_eq_true rfl) dX6_ask_2 ⟨Nat.le_of_ble_eq_true rfl, Nat.le_of_ble_eq_true rfl⟩

set_option maxHeartbeats 4000000 in
set_option maxRecDepth 100000 in
theorem c_X6_grant__e1 (l : Launch) (D : va_G) (cI cB cW cL : ClassId)  (sz : Nat) (M : kM) (hst : l.stackTraces = false) (u : Int32) (w : Int32) (ob : Nat) (hg : g_why u w = nI 1) : kMx l yX6_grant wsX6_grant ({ frames := 8, cells := 1, slots := 6, locals := 123 }) D vwCl (kT cI cB cW cL) sz [.ref ob, .int u, .int w] ([]) eIO := by
  refine kr_ofx (cc := cX6_grant) (maxL := 3) (ret := (some .int)) (by decide) rfl (Nat.le_of_ble_eq_true rfl) ?_
  intro pp ee ss mm args below meth cc AA ls hx hcd hno hts hown hlocks hml hZ hK hP hD hA hl
  have hS : va_S AA ss.heap ss.heap [] := va_S.rf
  have hown : ss.vm.findClass RX6 = some mm.cls := hown
  have hl : lv_has ls 3 [(0, .ref ob), (1, .int u), (2, .int w)] := hl
  refine lv_iload_n hx hcd dX6_grant_0 rfl (lv_at hl 1 rfl) ?_
  refine lv_iload_n hx hcd dX6_grant_1 rfl (lv_at hl 2 rfl) ?_
  exact kx_S (Qz := kQ0) (As := [.int u, .int w]) (rest := []) ⟨hx, hcd, hml, hown, hts⟩ (c_X6_checkPair__e1 l D cI cB cW cL  _ M hst u w hg) (va_cwS 2 hts gX6_grant_X6_checkPair rfl rfl rfl (by decide +kernel) ⟨Nat.le_of_ble_eq_true rfl, Nat.le_of_ble_eq_true rfl⟩) hZ hno hlocks hK hP hD hS hA [] rfl (by decide) rfl hl.1 rfl (Nat.le_of_ble_eq_true rfl) dX6_grant_2 ⟨Nat.le_of_ble_eq_true rfl, Nat.le_of_ble_eq_true rfl⟩

set_option maxHeartbeats 4000000 in
set_option maxRecDepth 100000 in
theorem c_X6_grant__e2 (l : Launch) (D : va_G) (cI cB cW cL : ClassId)  (sz : Nat) (M : kM) (hst : l.stackTraces = false) (u : Int32) (w : Int32) (ob : Nat) (hg : g_why u w = nI 2) : kMx l yX6_grant wsX6_grant ({ frames := 8, cells := 1, slots := 6, locals := 123 }) D vwCl (kT cI cB cW cL) sz [.ref ob, .int u, .int w] ([]) eIA := by
  refine kr_ofx (cc := cX6_grant) (maxL := 3) (ret := (some .int)) (by decide) rfl (Nat.le_of_ble_eq_true rfl) ?_
  intro pp ee ss mm args below meth cc AA ls hx hcd hno hts hown hlocks hml hZ hK hP hD hA hl
  have hS : va_S AA ss.heap ss.heap [] := va_S.rf
  have hown : ss.vm.findClass RX6 = some mm.cls := hown
  have hl : lv_has ls 3 [(0, .ref ob), (1, .int u), (2, .int w)] := hl
  refine lv_iload_n hx hcd dX6_grant_0 rfl (lv_at hl 1 rfl) ?_
  refine lv_iload_n hx hcd dX6_grant_1 rfl (lv_at hl 2 rfl) ?_
  exact kx_S (Qz := kQ0) (As := [.int u, .int w]) (rest := []) ⟨hx, hcd, hml, hown, hts⟩ (c_X6_checkPair__e2 l D cI cB cW cL  _ M hst u w hg) (va_cwS 2 hts gX6_grant_X6_checkPair rfl rfl rfl (by decide +kernel) ⟨Nat.le_of_ble_eq_true rfl, Nat.le_of_ble_eq_true rfl⟩) hZ hno hlocks hK hP hD hS hA [] rfl (by decide) rfl hl.1 rfl (Nat.le_of_ble_eq_true rfl) dX6_grant_2 ⟨Nat.le_of_ble_eq_true rfl, Nat.le_of_ble_eq_true rfl⟩

set_option maxHeartbeats 4000000 in
set_option maxRecDepth 100000 in
theorem c_X6_refuse__e1 (l : Launch) (D : va_G) (cI cB cW cL : ClassId)  (sz : Nat) (M : kM) (hst : l.stackTraces = false) (u : Int32) (w : Int32) (ob : Nat) (hg : g_why u w = nI 1) : kMx l yX6_refuse wsX6_refuse ({ frames := 8, cells := 1, slots := 6, locals := 123 }) D vwCl (kT cI cB cW cL) sz [.ref ob, .int u, .int w] ([]) eIO := by
  refine kr_ofx (cc := cX6_refuse) (maxL := 3) (ret := (some .int)) (by decide) rfl (Nat.le_of_ble_eq_true rfl) ?_
  intro pp ee ss mm args below meth cc AA ls hx hcd hno hts hown hlocks hml hZ hK hP hD hA hl
  have hS : va_S AA ss.heap ss.heap [] := va_S.rf
  have hown : ss.vm.findClass RX6 = some mm.cls := hown
  have hl : lv_has ls 3 [(0, .ref ob), (1, .int u), (2, .int w)] := hl
  refine lv_iload_n hx hcd dX6_refuse_0 rfl (lv_at hl 1 rfl) ?_
  refine lv_iload_n hx hcd dX6_refuse_1 rfl (lv_at hl 2 rfl) ?_
  exact kx_S (Qz := kQ0) (As := [.int u, .int w]) (rest := []) ⟨hx, hcd, hml, hown, hts⟩ (c_X6_checkPair__e1 l D cI cB cW cL  _ M hst u w hg) (va_cwS 2 hts gX6_refuse_X6_checkPair rfl rfl rfl (by decide +kernel) ⟨Nat.le_of_ble_eq_true rfl, Nat.le_of_ble_eq_true rfl⟩) hZ hno hlocks hK hP hD hS hA [] rfl (by decide) rfl hl.1 rfl (Nat.le_of_ble_eq_true rfl) dX6_refuse_2 ⟨Nat.le_of_ble_eq_true rfl, Nat.le_of_ble_eq_true rfl⟩

set_option maxHeartbeats 4000000 in
set_option maxRecDepth 100000 in
theorem c_X6_refuse__e2 (l : Launch) (D : va_G) (cI cB cW cL : ClassId)  (sz : Nat) (M : kM) (hst : l.stackTraces = false) (u : Int32) (w : Int32) (ob : Nat) (hg : g_why u w = nI 2) : kMx l yX6_refuse wsX6_refuse ({ frames := 8, cells := 1, slots := 6, locals := 123 }) D vwCl (kT cI cB cW cL) sz [.ref ob, .int u, .int w] ([]) eIA := by
  refine kr_ofx (cc := cX6_refuse) (maxL := 3) (ret := (some .int)) (by decide) rfl (Nat.le_of_ble_eq_true rfl) ?_
  intro pp ee ss mm args below meth cc AA ls hx hcd hno hts hown hlocks hml hZ hK hP hD hA hl
  have hS : va_S AA ss.heap ss.heap [] := va_S.rf
  have hown : ss.vm.findClass RX6 = some mm.cls := hown
  have hl : lv_has ls 3 [(0, .ref ob), (1, .int u), (2, .int w)] := hl
  refine lv_iload_n hx hcd dX6_refuse_0 rfl (lv_at hl 1 rfl) ?_
  refine lv_iload_n hx hcd dX6_refuse_1 rfl (lv_at hl 2 rfl) ?_
  exact kx_S (Qz := kQ0) (As := [.int u, .int w]) (rest := []) ⟨hx, hcd, hml, hown, hts⟩ (c_X6_checkPair__e2 l D cI cB cW cL  _ M hst u w hg) (va_cwS 2 hts gX6_refuse_X6_checkPair rfl rfl rfl (by decide +kernel) ⟨Nat.le_of_ble_eq_true rfl, Nat.le_of_ble_eq_true rfl⟩) hZ hno hlocks hK hP hD hS hA [] rfl (by decide) rfl hl.1 rfl (Nat.le_of_ble_eq_true rfl) dX6_refuse_2 ⟨Nat.le_of_ble_eq_true rfl, Nat.le_of_ble_eq_true rfl⟩

set_option maxHeartbeats 4000000 in
set_option maxRecDepth 100000 in
theorem c_X6_stop__e1 (l : Launch) (D : va_G) (cI cB cW cL : ClassId)  (sz : Nat) (M : kM) (hst : l.stackTraces = false) (u : Int32) (w : Int32) (ob : Nat) (hg : g_why u w = nI 1) : kMx l yX6_stop wsX6_stop ({ frames := 8, cells := 1, slots := 6, locals := 123 }) D vwCl (kT cI cB cW cL) sz [.ref ob, .int u, .int w] ([]) eIO := by
  refine kr_ofx (cc := cX6_stop) (maxL := 3) (ret := (some .int)) (by decide) rfl (Nat.le_of_ble_eq_true rfl) ?_
  intro pp ee ss mm args below meth cc AA ls hx hcd hno hts hown hlocks hml hZ hK hP hD hA hl
  have hS : va_S AA ss.heap ss.heap [] := va_S.rf
  have hown : ss.vm.findClass RX6 = some mm.cls := hown
  have hl : lv_has ls 3 [(0, .ref ob), (1, .int u), (2, .int w)] := hl
  refine lv_iload_n hx hcd dX6_stop_0 rfl (lv_at hl 1 rfl) ?_
  refine lv_iload_n hx hcd dX6_stop_1 rfl (lv_at hl 2 rfl) ?_
  exact kx_S (Qz := kQ0) (As := [.int u, .int w]) (rest := []) ⟨hx, hcd, hml, hown, hts⟩ (c_X6_checkPair__e1 l D cI cB cW cL  _ M hst u w hg) (va_cwS 2 hts gX6_stop_X6_checkPair rfl rfl rfl (by decide +kernel) ⟨Nat.le_of_ble_eq_true rfl, Nat.le_of_ble_eq_true rfl⟩) hZ hno hlocks hK hP hD hS hA [] rfl (by decide) rfl hl.1 rfl (Nat.le_of_ble_eq_true rfl) dX6_stop_2 ⟨Nat.le_of_ble_eq_true rfl, Nat.le_of_ble_eq_true rfl⟩

set_option maxHeartbeats 4000000 in
set_option maxRecDepth 100000 in
theorem c_X6_stop__e2 (l : Launch) (D : va_G) (cI cB cW cL : ClassId)  (sz : Nat) (M : kM) (hst : l.stackTraces = false) (u : Int32) (w : Int32) (ob : Nat) (hg : g_why u w = nI 2) : kMx l yX6_stop wsX6_stop ({ frames := 8, cells := 1, slots := 6, locals := 123 }) D vwCl (kT cI cB cW cL) sz [.ref ob, .int u, .int w] ([]) eIA := by
  refine kr_ofx (cc := cX6_stop) (maxL := 3) (ret := (some .int)) (by decide) rfl (Nat.le_of_ble_eq_true rfl) ?_
  intro pp ee ss mm args below meth cc AA ls hx hcd hno hts hown hlocks hml hZ hK hP hD hA hl
  have hS : va_S AA ss.heap ss.heap [] := va_S.rf
  have hown : ss.vm.findClass RX6 = some mm.cls := hown
  have hl : lv_has ls 3 [(0, .ref ob), (1, .int u), (2, .int w)] := hl
  refine lv_iload_n hx hcd dX6_stop_0 rfl (lv_at hl 1 rfl) ?_
  refine lv_iload_n hx hcd dX6_stop_1 rfl (lv_at hl 2 rfl) ?_
  exact kx_S (Qz := kQ0) (As := [.int u, .int w]) (rest := []) ⟨hx, hcd, hml, hown, hts⟩ (c_X6_checkPair__e2 l D cI cB cW cL  _ M hst u w hg) (va_cwS 2 hts gX6_stop_X6_checkPair rfl rfl rfl (by decide +kernel) ⟨Nat.le_of_ble_eq_true rfl, Nat.le_of_ble_eq_true rfl⟩) hZ hno hlocks hK hP hD hS hA [] rfl (by decide) rfl hl.1 rfl (Nat.le_of_ble_eq_true rfl) dX6_stop_2 ⟨Nat.le_of_ble_eq_true rfl, Nat.le_of_ble_eq_true rfl⟩

set_option maxHeartbeats 4000000 in
set_option maxRecDepth 100000 in
theorem c_X6_entry__e1 (l : Launch) (D : va_G) (cI cB cW cL : ClassId)  (sz : Nat) (M : kM) (hst : l.stackTraces = false) (u : Int32) (w : Int32) (ob : Nat) (hg : g_why u w = nI 1) : kMx l yX6_entry wsX6_entry ({ frames := 8, cells := 1, slots := 6, locals := 123 }) D vwCl (kT cI cB cW cL) sz [.ref ob, .int u, .int w] ([]) eIO := by
  refine kr_ofx (cc := cX6_entry) (maxL := 3) (ret := (some .int)) (by decide) rfl (Nat.le_of_ble_eq_true rfl) ?_
  intro pp ee ss mm args below meth cc AA ls hx hcd hno hts hown hlocks hml hZ hK hP hD hA hl
  have hS : va_S AA ss.heap ss.heap [] := va_S.rf
  have hown : ss.vm.findClass RX6 = some mm.cls := hown
  have hl : lv_has ls 3 [(0, .ref ob), (1, .int u), (2, .int w)] := hl
  refine lv_iload_n hx hcd dX6_entry_0 rfl (lv_at hl 1 rfl) ?_
  refine lv_iload_n hx hcd dX6_entry_1 rfl (lv_at hl 2 rfl) ?_
  exact kx_S (Qz := kQ0) (As := [.int u, .int w]) (rest := []) ⟨hx, hcd, hml, hown, hts⟩ (c_X6_checkPair__e1 l D cI cB cW cL  _ M hst u w hg) (va_cwS 2 hts gX6_entry_X6_checkPair rfl rfl rfl (by decide +kernel) ⟨Nat.le_of_ble_eq_true rfl, Nat.le_of_ble_eq_true rfl⟩) hZ hno hlocks hK hP hD hS hA [] rfl (by decide) rfl hl.1 rfl (Nat.le_of_ble_eq_true rfl) dX6_entry_2 ⟨Nat.le_of_ble_eq_true rfl, Nat.le_of_ble_eq_true rfl⟩

set_option maxHeartbeats 4000000 in
set_option maxRecDepth 100000 in
theorem c_X6_entry__e2 (l : Launch) (D : va_G) (cI cB cW cL : ClassId)  (sz : Nat) (M : kM) (hst : l.stackTraces = false) (u : Int32) (w : Int32) (ob : Nat) (hg : g_why u w = nI 2) : kMx l yX6_entry wsX6_entry ({ frames := 8, cells := 1, slots := 6, locals := 123 }) D vwCl (kT cI cB cW cL) sz [.ref ob, .int u, .int w] ([]) eIA := by
  refine kr_ofx (cc := cX6_entry) (maxL := 3) (ret := (some .int)) (by decide) rfl (Nat.le_of_ble_eq_true rfl) ?_
  intro pp ee ss mm args below meth cc AA ls hx hcd hno hts hown hlocks hml hZ hK hP hD hA hl
  have hS : va_S AA ss.heap ss.heap [] := va_S.rf
  have hown : ss.vm.findClass RX6 = some mm.cls := hown
  have hl : lv_has ls 3 [(0, .ref ob), (1, .int u), (2, .int w)] := hl
  refine lv_iload_n hx hcd dX6_entry_0 rfl (lv_at hl 1 rfl) ?_
  refine lv_iload_n hx hcd dX6_entry_1 rfl (lv_at hl 2 rfl) ?_
  exact kx_S (Qz := kQ0) (As := [.int u, .int w]) (rest := []) ⟨hx, hcd, hml, hown, hts⟩ (c_X6_checkPair__e2 l D cI cB cW cL  _ M hst u w hg) (va_cwS 2 hts gX6_entry_X6_checkPair rfl rfl rfl (by decide +kernel) ⟨Nat.le_of_ble_eq_true rfl, Nat.le_of_ble_eq_true rfl⟩) hZ hno hlocks hK hP hD hS hA [] rfl (by decide) rfl hl.1 rfl (Nat.le_of_ble_eq_true rfl) dX6_entry_2 ⟨Nat.le_of_ble_eq_true rfl, Nat.le_of_ble_eq_true rfl⟩

set_option maxHeartbeats 4000000 in
set_option maxRecDepth 100000 in
theorem c_X6_areApart__e1 (l : Launch) (D : va_G) (cI cB cW cL : ClassId)  (sz : Nat) (M : kM) (hst : l.stackTraces = false) (u : Int32) (w : Int32) (ob : Nat) (hg : g_why u w = nI 1) : kMx l yX6_areApart wsX6_areApart ({ frames := 8, cells := 1, slots := 6, locals := 123 }) D vwCl (kT cI cB cW cL) sz [.ref ob, .int u, .int w] ([]) eIO := by
  refine kr_ofx (cc := cX6_areApart) (maxL := 3) (ret := (some .boolean)) (by decide) rfl (Nat.le_of_ble_eq_true rfl) ?_
  intro pp ee ss mm args below meth cc AA ls hx hcd hno hts hown hlocks hml hZ hK hP hD hA hl
  have hS : va_S AA ss.heap ss.heap [] := va_S.rf
  have hown : ss.vm.findClass RX6 = some mm.cls := hown
  have hl : lv_has ls 3 [(0, .ref ob), (1, .int u), (2, .int w)] := hl
  refine lv_iload_n hx hcd dX6_areApart_0 rfl (lv_at hl 1 rfl) ?_
  refine lv_iload_n hx hcd dX6_areApart_1 rfl (lv_at hl 2 rfl) ?_
  exact kx_S (Qz := kQ0) (As := [.int u, .int w]) (rest := []) ⟨hx, hcd, hml, hown, hts⟩ (c_X6_checkPair__e1 l D cI cB cW cL  _ M hst u w hg) (va_cwS 2 hts gX6_areApart_X6_checkPair rfl rfl rfl (by decide +kernel) ⟨Nat.le_of_ble_eq_true rfl, Nat.le_of_ble_eq_true rfl⟩) hZ hno hlocks hK hP hD hS hA [] rfl (by decide) rfl hl.1 rfl (Nat.le_of_ble_eq_true rfl) dX6_areApart_2 ⟨Nat.le_of_ble_eq_true rfl, Nat.le_of_ble_eq_true rfl⟩

set_option maxHeartbeats 4000000 in
set_option maxRecDepth 100000 in
theorem c_X6_areApart__e2 (l : Launch) (D : va_G) (cI cB cW cL : ClassId)  (sz : Nat) (M : kM) (hst : l.stackTraces = false) (u : Int32) (w : Int32) (ob : Nat) (hg : g_why u w = nI 2) : kMx l yX6_areApart wsX6_areApart ({ frames := 8, cells := 1, slots := 6, locals := 123 }) D vwCl (kT cI cB cW cL) sz [.ref ob, .int u, .int w] ([]) eIA := by
  refine kr_ofx (cc := cX6_areApart) (maxL := 3) (ret := (some .boolean)) (by decide) rfl (Nat.le_of_ble_eq_true rfl) ?_
  intro pp ee ss mm args below meth cc AA ls hx hcd hno hts hown hlocks hml hZ hK hP hD hA hl
  have hS : va_S AA ss.heap ss.heap [] := va_S.rf
  have hown : ss.vm.findClass RX6 = some mm.cls := hown
  have hl : lv_has ls 3 [(0, .ref ob), (1, .int u), (2, .int w)] := hl
  refine lv_iload_n hx hcd dX6_areApart_0 rfl (lv_at hl 1 rfl) ?_
  refine lv_iload_n hx hcd dX6_areApart_1 rfl (lv_at hl 2 rfl) ?_
  exact kx_S (Qz := kQ0) (As := [.int u, .int w]) (rest := []) ⟨hx, hcd, hml, hown, hts⟩ (c_X6_checkPair__e2 l D cI cB cW cL  _ M hst u w hg) (va_cwS 2 hts gX6_areApart_X6_checkPair rfl rfl rfl (by decide +kernel) ⟨Nat.le_of_ble_eq_true rfl, Nat.le_of_ble_eq_true rfl⟩) hZ hno hlocks hK hP hD hS hA [] rfl (by decide) rfl hl.1 rfl (Nat.le_of_ble_eq_true rfl) dX6_areApart_2 ⟨Nat.le_of_ble_eq_true rfl, Nat.le_of_ble_eq_true rfl⟩

set_option maxHeartbeats 4000000 in
set_option maxRecDepth 100000 in
theorem c_X6_agree__e1 (l : Launch) (D : va_G) (cI cB cW cL : ClassId)  (sz : Nat) (M : kM) (hst : l.stackTraces = false) (u : Int32) (w : Int32) (ob : Nat) (hg : g_why u w = nI 1) : kMx l yX6_agree wsX6_agree ({ frames := 8, cells := 1, slots := 6, locals := 123 }) D vwCl (kT cI cB cW cL) sz [.ref ob, .int u, .int w] ([]) eIO := by
  refine kr_ofx (cc := cX6_agree) (maxL := 3) (ret := (some .boolean)) (by decide) rfl (Nat.le_of_ble_eq_true rfl) ?_
  intro pp ee ss mm args below meth cc AA ls hx hcd hno hts hown hlocks hml hZ hK hP hD hA hl
  have hS : va_S AA ss.heap ss.heap [] := va_S.rf
  have hown : ss.vm.findClass RX6 = some mm.cls := hown
  have hl : lv_has ls 3 [(0, .ref ob), (1, .int u), (2, .int w)] := hl
  refine lv_iload_n hx hcd dX6_agree_0 rfl (lv_at hl 1 rfl) ?_
  refine lv_iload_n hx hcd dX6_agree_1 rfl (lv_at hl 2 rfl) ?_
  exact kx_S (Qz := kQ0) (As := [.int u, .int w]) (rest := []) ⟨hx, hcd, hml, hown, hts⟩ (c_X6_checkPair__e1 l D cI cB cW cL  _ M hst u w hg) (va_cwS 2 hts gX6_agree_X6_checkPair rfl rfl rfl (by decide +kernel) ⟨Nat.le_of_ble_eq_true rfl, Nat.le_of_ble_eq_true rfl⟩) hZ hno hlocks hK hP hD hS hA [] rfl (by decide) rfl hl.1 rfl (Nat.le_of_ble_eq_true rfl) dX6_agree_2 ⟨Nat.le_of_ble_eq_true rfl, Nat.le_of_ble_eq_true rfl⟩

set_option maxHeartbeats 4000000 in
set_option maxRecDepth 100000 in
theorem c_X6_agree__e2 (l : Launch) (D : va_G) (cI cB cW cL : ClassId)  (sz : Nat) (M : kM) (hst : l.stackTraces = false) (u : Int32) (w : Int32) (ob : Nat) (hg : g_why u w = nI 2) : kMx l yX6_agree wsX6_agree ({ frames := 8, cells := 1, slots := 6, locals := 123 }) D vwCl (kT cI cB cW cL) sz [.ref ob, .int u, .int w] ([]) eIA := by
  refine kr_ofx (cc := cX6_agree) (maxL := 3) (ret := (some .boolean)) (by decide) rfl (Nat.le_of_ble_eq_true rfl) ?_
  intro pp ee ss mm args below meth cc AA ls hx hcd hno hts hown hlocks hml hZ hK hP hD hA hl
  have hS : va_S AA ss.heap ss.heap [] := va_S.rf
  have hown : ss.vm.findClass RX6 = some mm.cls := hown
  have hl : lv_has ls 3 [(0, .ref ob), (1, .int u), (2, .int w)] := hl
  refine lv_iload_n hx hcd dX6_agree_0 rfl (lv_at hl 1 rfl) ?_
  refine lv_iload_n hx hcd dX6_agree_1 rfl (lv_at hl 2 rfl) ?_
  exact kx_S (Qz := kQ0) (As := [.int u, .int w]) (rest := []) ⟨hx, hcd, hml, hown, hts⟩ (c_X6_checkPair__e2 l D cI cB cW cL  _ M hst u w hg) (va_cwS 2 hts gX6_agree_X6_checkPair rfl rfl rfl (by decide +kernel) ⟨Nat.le_of_ble_eq_true rfl, Nat.le_of_ble_eq_true rfl⟩) hZ hno hlocks hK hP hD hS hA [] rfl (by decide) rfl hl.1 rfl (Nat.le_of_ble_eq_true rfl) dX6_agree_2 ⟨Nat.le_of_ble_eq_true rfl, Nat.le_of_ble_eq_true rfl⟩

set_option maxHeartbeats 4000000 in
set_option maxRecDepth 100000 in
theorem c_X6_block__e1 (l : Launch) (D : va_G) (cI cB cW cL : ClassId)  (sz : Nat) (M : kM) (hst : l.stackTraces = false) (u : Int32) (w : Int32) (v : Bool) (ob : Nat) (hg : g_why u w = nI 1) : kMx l yX6_block wsX6_block ({ frames := 8, cells := 1, slots := 6, locals := 123 }) D vwCl (kT cI cB cW cL) sz [.ref ob, .int u, .int w, .int (kI v)] ([]) eIO := by
  refine kr_ofx (cc := cX6_block) (maxL := 4) (ret := (some .int)) (by decide) rfl (Nat.le_of_ble_eq_true rfl) ?_
  intro pp ee ss mm args below meth cc AA ls hx hcd hno hts hown hlocks hml hZ hK hP hD hA hl
  have hS : va_S AA ss.heap ss.heap [] := va_S.rf
  have hown : ss.vm.findClass RX6 = some mm.cls := hown
  have hl : lv_has ls 4 [(0, .ref ob), (1, .int u), (2, .int w), (3, .int (kI v))] := hl
  refine lv_iload_n hx hcd dX6_block_0 rfl (lv_at hl 1 rfl) ?_
  refine lv_iload_n hx hcd dX6_block_1 rfl (lv_at hl 2 rfl) ?_
  exact kx_S (Qz := kQ0) (As := [.int u, .int w]) (rest := []) ⟨hx, hcd, hml, hown, hts⟩ (c_X6_checkPair__e1 l D cI cB cW cL  _ M hst u w hg) (va_cwS 2 hts gX6_block_X6_checkPair rfl rfl rfl (by decide +kernel) ⟨Nat.le_of_ble_eq_true rfl, Nat.le_of_ble_eq_true rfl⟩) hZ hno hlocks hK hP hD hS hA [] rfl (by decide) rfl hl.1 rfl (Nat.le_of_ble_eq_true rfl) dX6_block_2 ⟨Nat.le_of_ble_eq_true rfl, Nat.le_of_ble_eq_true rfl⟩

set_option maxHeartbeats 4000000 in
set_option maxRecDepth 100000 in
theorem c_X6_block__e2 (l : Launch) (D : va_G) (cI cB cW cL : ClassId)  (sz : Nat) (M : kM) (hst : l.stackTraces = false) (u : Int32) (w : Int32) (v : Bool) (ob : Nat) (hg : g_why u w = nI 2) : kMx l yX6_block wsX6_block ({ frames := 8, cells := 1, slots := 6, locals := 123 }) D vwCl (kT cI cB cW cL) sz [.ref ob, .int u, .int w, .int (kI v)] ([]) eIA := by
  refine kr_ofx (cc := cX6_block) (maxL := 4) (ret := (some .int)) (by decide) rfl (Nat.le_of_ble_eq_true rfl) ?_
  intro pp ee ss mm args below meth cc AA ls hx hcd hno hts hown hlocks hml hZ hK hP hD hA hl
  have hS : va_S AA ss.heap ss.heap [] := va_S.rf
  have hown : ss.vm.findClass RX6 = some mm.cls := hown
  have hl : lv_has ls 4 [(0, .ref ob), (1, .int u), (2, .int w), (3, .int (kI v))] := hl
  refine lv_iload_n hx hcd dX6_block_0 rfl (lv_at hl 1 rfl) ?_
  refine lv_iload_n hx hcd dX6_block_1 rfl (lv_at hl 2 rfl) ?_
  exact kx_S (Qz := kQ0) (As := [.int u, .int w]) (rest := []) ⟨hx, hcd, hml, hown, hts⟩ (c_X6_checkPair__e2 l D cI cB cW cL  _ M hst u w hg) (va_cwS 2 hts gX6_block_X6_checkPair rfl rfl rfl (by decide +kernel) ⟨Nat.le_of_ble_eq_true rfl, Nat.le_of_ble_eq_true rfl⟩) hZ hno hlocks hK hP hD hS hA [] rfl (by decide) rfl hl.1 rfl (Nat.le_of_ble_eq_true rfl) dX6_block_2 ⟨Nat.le_of_ble_eq_true rfl, Nat.le_of_ble_eq_true rfl⟩

set_option maxHeartbeats 4000000 in
set_option maxRecDepth 100000 in
theorem c_X6_turnOn__e1 (l : Launch) (D : va_G) (cI cB cW cL : ClassId)  (sz : Nat) (M : kM) (hst : l.stackTraces = false) (u : Int32) (w : Int32) (t : Int32) (y : Int32) (ob : Nat) (hg : g_seatok u w = false) : kMx l yX6_turnOn wsX6_turnOn ({ frames := 8, cells := 1, slots := 6, locals := 123 }) D vwCl (kT cI cB cW cL) sz [.ref ob, .int u, .int w, .int t, .int y] ([]) eIO := by
  refine kr_ofx (cc := cX6_turnOn) (maxL := 5) (ret := (some .int)) (by decide) rfl (Nat.le_of_ble_eq_true rfl) ?_
  intro pp ee ss mm args below meth cc AA ls hx hcd hno hts hown hlocks hml hZ hK hP hD hA hl
  have hS : va_S AA ss.heap ss.heap [] := va_S.rf
  have hown : ss.vm.findClass RX6 = some mm.cls := hown
  have hl : lv_has ls 5 [(0, .ref ob), (1, .int u), (2, .int w), (3, .int t), (4, .int y)] := hl
  refine lv_iload_n hx hcd dX6_turnOn_0 rfl (lv_at hl 1 rfl) ?_
  refine lv_iload_n hx hcd dX6_turnOn_1 rfl (lv_at hl 2 rfl) ?_
  exact kx_S (Qz := kQ0) (As := [.int u, .int w]) (rest := []) ⟨hx, hcd, hml, hown, hts⟩ (c_X6_checkSeat__e1 l D cI cB cW cL  _ M hst u w hg) (va_cwS 2 hts gX6_turnOn_X6_checkSeat rfl rfl rfl (by decide +kernel) ⟨Nat.le_of_ble_eq_true rfl, Nat.le_of_ble_eq_true rfl⟩) hZ hno hlocks hK hP hD hS hA [] rfl (by decide) rfl hl.1 rfl (Nat.le_of_ble_eq_true rfl) dX6_turnOn_2 ⟨Nat.le_of_ble_eq_true rfl, Nat.le_of_ble_eq_true rfl⟩

set_option maxHeartbeats 4000000 in
set_option maxRecDepth 100000 in
theorem c_X6_turnOn__e2 (l : Launch) (D : va_G) (cI cB cW cL : ClassId)  (sz : Nat) (M : kM) (hst : l.stackTraces = false) (a : Nat) (s : Nat) (t : Int32) (y : Int32) (ob : Nat) (ha : a < 6) (hs : s < 3) (hg : g_in t (-9) 9 = false ∨ g_in y 0 4 = false) : kMx l yX6_turnOn wsX6_turnOn ({ frames := 6, cells := 1, slots := 6, locals := 82 }) D vwCl (kT cI cB cW cL) sz [.ref ob, .int (nI a), .int (nI s), .int t, .int y] ([]) eIA := by
  refine kr_ofx (cc := cX6_turnOn) (maxL := 5) (ret := (some .int)) (by decide) rfl (Nat.le_of_ble_eq_true rfl) ?_
  intro pp ee ss mm args below meth cc AA ls hx hcd hno hts hown hlocks hml hZ hK hP hD hA hl
  have hS : va_S AA ss.heap ss.heap [] := va_S.rf
  have hown : ss.vm.findClass RX6 = some mm.cls := hown
  have hl : lv_has ls 5 [(0, .ref ob), (1, .int (nI a)), (2, .int (nI s)), (3, .int t), (4, .int y)] := hl
  refine lv_iload_n hx hcd dX6_turnOn_0 rfl (lv_at hl 1 rfl) ?_
  refine lv_iload_n hx hcd dX6_turnOn_1 rfl (lv_at hl 2 rfl) ?_
  refine kr_Sv (As := [.int (nI a), .int (nI s)]) (rest := []) (ws2 := []) ⟨hx, hcd, hml, hown, hts⟩ (c_X6_checkSeat__ok l D cI cB cW cL  _ M a s (by omega) (by omega)) (va_cwS 2 hts gX6_turnOn_X6_checkSeat rfl rfl rfl (by decide +kernel) ⟨Nat.le_of_ble_eq_true rfl, Nat.le_of_ble_eq_true rfl⟩) hK hP hD hS hA [] rfl (by decide) rfl rfl rfl hl.1 rfl (Nat.le_of_ble_eq_true rfl) dX6_turnOn_2 ⟨Nat.zero_le _, Nat.zero_le _⟩ (fun H locs hP hD hS => ?_)
  refine lv_iload_n hx hcd dX6_turnOn_5 rfl (lv_at hl 3 rfl) ?_
  refine lv_bipush (v := (-9)) hx hcd dX6_turnOn_6 (by decide) ?_
  refine lv_icmp_lt (tgt := 28) hx hcd dX6_turnOn_8 (by decide) (fun (c_8 : t < (-9)) => ?_) (fun (c_8 : ¬ t < (-9)) => ?_)
  · exact kx_throw (ik := 57) (is := 59) (ic := 61) (text := "rank or mood is out of range") rfl hst hx hcd hown hts (by decide +kernel) (by decide +kernel) (by decide +kernel) (by decide +kernel) (by decide +kernel) (by decide +kernel) (by decide +kernel) hZ hno hlocks hK hP hD hS (by rw [hml]; exact hl.1) dX6_turnOn_28 dX6_turnOn_31 dX6_turnOn_32 dX6_turnOn_34 dX6_turnOn_37 ⟨Nat.le_of_ble_eq_true rfl, Nat.le_of_ble_eq_true rfl, Nat.le_of_ble_eq_true rfl, Nat.le_of_ble_eq_true rfl⟩
  · refine lv_iload_n hx hcd dX6_turnOn_11 rfl (lv_at hl 3 rfl) ?_
    refine lv_bipush (v := nI 9) hx hcd dX6_turnOn_12 (by decide) ?_
    refine lv_icmp_gt (tgt := 28) hx hcd dX6_turnOn_14 (by decide) (fun (c_14 : 9 < t) => ?_) (fun (c_14 : ¬ 9 < t) => ?_)
    · exact kx_throw (ik := 57) (is := 59) (ic := 61) (text := "rank or mood is out of range") rfl hst hx hcd hown hts (by decide +kernel) (by decide +kernel) (by decide +kernel) (by decide +kernel) (by decide +kernel) (by decide +kernel) (by decide +kernel) hZ hno hlocks hK hP hD hS (by rw [hml]; exact hl.1) dX6_turnOn_28 dX6_turnOn_31 dX6_turnOn_32 dX6_turnOn_34 dX6_turnOn_37 ⟨Nat.le_of_ble_eq_true rfl, Nat.le_of_ble_eq_true rfl, Nat.le_of_ble_eq_true rfl, Nat.le_of_ble_eq_true rfl⟩
    · refine lv_iload hx hcd dX6_turnOn_17 (lv_at hl 4 rfl) ?_
      refine lv_if_lt (tgt := 28) hx hcd dX6_turnOn_19 (by decide) (fun (c_19 : y < 0) => ?_) (fun (c_19 : ¬ y < 0) => ?_)
      · exact kx_throw (ik := 57) (is := 59) (ic := 61) (text := "rank or mood is out of range") rfl hst hx hcd hown hts (by decide +kernel) (by decide +kernel) (by decide +kernel) (by decide +kernel) (by decide +kernel) (by decide +kernel) (by decide +kernel) hZ hno hlocks hK hP hD hS (by rw [hml]; exact hl.1) dX6_turnOn_28 dX6_turnOn_31 dX6_turnOn_32 dX6_turnOn_34 dX6_turnOn_37 ⟨Nat.le_of_ble_eq_true rfl, Nat.le_of_ble_eq_true rfl, Nat.le_of_ble_eq_true rfl, Nat.le_of_ble_eq_true rfl⟩
      · refine lv_iload hx hcd dX6_turnOn_22 (lv_at hl 4 rfl) ?_
        refine lv_iconst (v := nI 5) hx hcd dX6_turnOn_24 (by decide) ?_
        refine lv_icmp_lt (tgt := 38) hx hcd dX6_turnOn_25 (by decide) (fun (c_25 : y < 5) => absurd c_25 (tn_no hg c_8 c_14 c_19)) (fun (c_25 : ¬ y < 5) => ?_)
        exact kx_throw (ik := 57) (is := 59) (ic := 61) (text := "rank or mood is out of range") rfl hst hx hcd hown hts (by decide +kernel) (by decide +kernel) (by decide +kernel) (by decide +kernel) (by decide +kernel) (by decide +kernel) (by decide +kernel) hZ hno hlocks hK hP hD hS (by rw [hml]; exact hl.1) dX6_turnOn_28 dX6_turnOn_31 dX6_turnOn_32 dX6_turnOn_34 dX6_turnOn_37 ⟨Nat.le_of_ble_eq_true rfl, Nat.le_of_ble_eq_true rfl, Nat.le_of_ble_eq_true rfl, Nat.le_of_ble_eq_true rfl⟩

set_option maxHeartbeats 4000000 in
set_option maxRecDepth 100000 in
theorem c_X6_turnOff__e1 (l : Launch) (D : va_G) (cI cB cW cL : ClassId)  (sz : Nat) (M : kM) (hst : l.stackTraces = false) (u : Int32) (w : Int32) (ob : Nat) (hg : g_seatok u w = false) : kMx l yX6_turnOff wsX6_turnOff ({ frames := 8, cells := 1, slots := 6, locals := 123 }) D vwCl (kT cI cB cW cL) sz [.ref ob, .int u, .int w] ([]) eIO := by
  refine kr_ofx (cc := cX6_turnOff) (maxL := 3) (ret := (some .int)) (by decide) rfl (Nat.le_of_ble_eq_true rfl) ?_
  intro pp ee ss mm args below meth cc AA ls hx hcd hno hts hown hlocks hml hZ hK hP hD hA hl
  have hS : va_S AA ss.heap ss.heap [] := va_S.rf
  have hown : ss.vm.findClass RX6 = some mm.cls := hown
  have hl : lv_has ls 3 [(0, .ref ob), (1, .int u), (2, .int w)] := hl
  refine lv_iload_n hx hcd dX6_turnOff_0 rfl (lv_at hl 1 rfl) ?_
  refine lv_iload_n hx hcd dX6_turnOff_1 rfl (lv_at hl 2 rfl) ?_
  exact kx_S (Qz := kQ0) (As := [.int u, .int w]) (rest := []) ⟨hx, hcd, hml, hown, hts⟩ (c_X6_checkSeat__e1 l D cI cB cW cL  _ M hst u w hg) (va_cwS 2 hts gX6_turnOff_X6_checkSeat rfl rfl rfl (by decide +kernel) ⟨Nat.le_of_ble_eq_true rfl, Nat.le_of_ble_eq_true rfl⟩) hZ hno hlocks hK hP hD hS hA [] rfl (by decide) rfl hl.1 rfl (Nat.le_of_ble_eq_true rfl) dX6_turnOff_2 ⟨Nat.le_of_ble_eq_true rfl, Nat.le_of_ble_eq_true rfl⟩

set_option maxHeartbeats 4000000 in
set_option maxRecDepth 100000 in
theorem c_X6_turnOff__e2 (l : Launch) (D : va_G) (cI cB cW cL : ClassId) (ob nw tr : Nat → Nat) (qs : Nat → Nat → Nat) (sc : Nat → Nat) (G : Nat → Option Nat) (N : kM) (S : Nat → kM) (n L : Nat) (T : Nat → Int32) (sz : Nat) (M : kM) (hst : l.stackTraces = false) (a : Nat) (s : Nat) (ha : a < 6) (hs : s < 3) (ho : g_on M a s = false) : kMx l yX6_turnOff wsX6_turnOff ({ frames := 6, cells := 1, slots := 6, locals := 82 }) D vwCl (kT cI cB cW cL) sz [.ref (ob 0), .int (nI a), .int (nI s)] (wX cI cB cW ob nw tr qs sc G M N S n L T) eIS := by
  refine kr_ofx (cc := cX6_turnOff) (maxL := 3) (ret := (some .int)) (by decide) rfl (Nat.le_of_ble_eq_true rfl) ?_
  intro pp ee ss mm args below meth cc AA ls hx hcd hno hts hown hlocks hml hZ hK hP hD hA hl
  have hS : va_S AA ss.heap ss.heap [] := va_S.rf
  have hown : ss.vm.findClass RX6 = some mm.cls := hown
  have hl : lv_has ls 3 [(0, .ref (ob 0)), (1, .int (nI a)), (2, .int (nI s))] := hl
  have uX5 : ∀ w ∈ u_ws RX5 TX5 5, w ∈ wsX6_turnOff := by decide +kernel
  have uX6 : ∀ w ∈ u_ws RX6 TX6 5, w ∈ wsX6_turnOff := by decide +kernel
  refine lv_iload_n hx hcd dX6_turnOff_0 rfl (lv_at hl 1 rfl) ?_
  refine lv_iload_n hx hcd dX6_turnOff_1 rfl (lv_at hl 2 rfl) ?_
  refine kr_Sv (As := [.int (nI a), .int (nI s)]) (rest := []) (ws2 := wX cI cB cW ob nw tr qs sc G M N S n L T) ⟨hx, hcd, hml, hown, hts⟩ (c_X6_checkSeat__ok l D cI cB cW cL  _ M a s (by omega) (by omega)) (va_cwS 2 hts gX6_turnOff_X6_checkSeat rfl rfl rfl (by decide +kernel) ⟨Nat.le_of_ble_eq_true rfl, Nat.le_of_ble_eq_true rfl⟩) hK hP hD hS hA [] rfl (by decide) rfl rfl rfl hl.1 rfl (Nat.le_of_ble_eq_true rfl) dX6_turnOff_2 ⟨Nat.zero_le _, Nat.zero_le _⟩ (fun H locs hP hD hS => ?_)
  refine lv_aload_n hx hcd dX6_turnOff_5 rfl (lv_at hl 0 rfl) ?_
  refine kr_get hx hcd hts uX6 hown hK hP 0 rfl rfl 0 (by decide) (by decide +kernel) (v := .ref (nw 0)) rfl dX6_turnOff_6 ?_
  refine kr_get hx hcd hts uX5 hown hK hP 2 rfl rfl 0 (by decide) (by decide +kernel) (v := .ref (nw 1)) rfl dX6_turnOff_9 ?_
  refine lv_iload_n hx hcd dX6_turnOff_12 rfl (lv_at hl 1 rfl) ?_
  refine lv_iload_n hx hcd dX6_turnOff_13 rfl (lv_at hl 2 rfl) ?_
  refine kr_Vi (As := [.int (nI a), .int (nI s)]) (rest := []) (ws2 := wX cI cB cW ob nw tr qs sc G M N S n L T) (q := (RX3, TX3, 3)) ⟨hx, hcd, hml, hown, hts⟩ (c_X3_isOn l D cI cB cW cL nw _ M a s (by omega) (by omega)) (cwV 2 hts gX6_turnOff_X3_isOn rfl rfl rfl (by decide +kernel) ⟨Nat.le_of_ble_eq_true rfl, Nat.le_of_ble_eq_true rfl⟩) hK hP hD hS hA [3, 4, 5, 6] wX_nw_SeC (by decide) wSe_adr (kset_same _ _ _ wX_nw_SeC) 3 rfl rfl rfl hl.1 rfl (Nat.le_of_ble_eq_true rfl) dX6_turnOff_14 ⟨Nat.zero_le _, Nat.zero_le _⟩ (fun H locs hP hD hS => ?_)
  refine kr_bne (tgt := 30) hx hcd dX6_turnOff_17 (by decide) (fun (c_17 : g_on M a s = true) => absurd c_17 (by rw [ho]; decide)) (fun (c_17 : g_on M a s = false) => ?_)
  exact kx_throw (ik := 78) (is := 80) (ic := 82) (text := "the seat is off") rfl hst hx hcd hown hts (by decide +kernel) (by decide +kernel) (by decide +kernel) (by decide +kernel) (by decide +kernel) (by decide +kernel) (by decide +kernel) hZ hno hlocks hK hP hD hS (by rw [hml]; exact hl.1) dX6_turnOff_20 dX6_turnOff_23 dX6_turnOff_24 dX6_turnOff_26 dX6_turnOff_29 ⟨Nat.le_of_ble_eq_true rfl, Nat.le_of_ble_eq_true rfl, Nat.le_of_ble_eq_true rfl, Nat.le_of_ble_eq_true rfl⟩

set_option maxHeartbeats 4000000 in
set_option maxRecDepth 100000 in
theorem c_X6_bestSeat__e1 (l : Launch) (D : va_G) (cI cB cW cL : ClassId)  (sz : Nat) (M : kM) (hst : l.stackTraces = false) (u : Int32) (ob : Nat) (hg : g_usr u = false) : kMx l yX6_bestSeat wsX6_bestSeat ({ frames := 7, cells := 1, slots := 6, locals := 102 }) D vwCl (kT cI cB cW cL) sz [.ref ob, .int u] ([]) eIO := by
  refine kr_ofx (cc := cX6_bestSeat) (maxL := 2) (ret := (some .int)) (by decide) rfl (Nat.le_of_ble_eq_true rfl) ?_
  intro pp ee ss mm args below meth cc AA ls hx hcd hno hts hown hlocks hml hZ hK hP hD hA hl
  have hS : va_S AA ss.heap ss.heap [] := va_S.rf
  have hown : ss.vm.findClass RX6 = some mm.cls := hown
  have hl : lv_has ls 2 [(0, .ref ob), (1, .int u)] := hl
  refine lv_iload_n hx hcd dX6_bestSeat_0 rfl (lv_at hl 1 rfl) ?_
  exact kx_S (Qz := kQ0) (As := [.int u]) (rest := []) ⟨hx, hcd, hml, hown, hts⟩ (c_X6_checkUser__e1 l D cI cB cW cL  _ M hst u hg) (va_cwS 1 hts gX6_bestSeat_X6_checkUser rfl rfl rfl (by decide +kernel) ⟨Nat.le_of_ble_eq_true rfl, Nat.le_of_ble_eq_true rfl⟩) hZ hno hlocks hK hP hD hS hA [] rfl (by decide) rfl hl.1 rfl (Nat.le_of_ble_eq_true rfl) dX6_bestSeat_1 ⟨Nat.le_of_ble_eq_true rfl, Nat.le_of_ble_eq_true rfl⟩

set_option maxHeartbeats 4000000 in
set_option maxRecDepth 100000 in
theorem c_X6_seat__e1 (l : Launch) (D : va_G) (cI cB cW cL : ClassId)  (sz : Nat) (M : kM) (hst : l.stackTraces = false) (u : Int32) (w : Int32) (t : Int32) (ob : Nat) (hg : g_seatok u w = false) : kMx l yX6_seat wsX6_seat ({ frames := 8, cells := 1, slots := 6, locals := 123 }) D vwCl (kT cI cB cW cL) sz [.ref ob, .int u, .int w, .int t] ([]) eIO := by
  refine kr_ofx (cc := cX6_seat) (maxL := 4) (ret := (some .int)) (by decide) rfl (Nat.le_of_ble_eq_true rfl) ?_
  intro pp ee ss mm args below meth cc AA ls hx hcd hno hts hown hlocks hml hZ hK hP hD hA hl
  have hS : va_S AA ss.heap ss.heap [] := va_S.rf
  have hown : ss.vm.findClass RX6 = some mm.cls := hown
  have hl : lv_has ls 4 [(0, .ref ob), (1, .int u), (2, .int w), (3, .int t)] := hl
  refine lv_iload_n hx hcd dX6_seat_0 rfl (lv_at hl 1 rfl) ?_
  refine lv_iload_n hx hcd dX6_seat_1 rfl (lv_at hl 2 rfl) ?_
  exact kx_S (Qz := kQ0) (As := [.int u, .int w]) (rest := []) ⟨hx, hcd, hml, hown, hts⟩ (c_X6_checkSeat__e1 l D cI cB cW cL  _ M hst u w hg) (va_cwS 2 hts gX6_seat_X6_checkSeat rfl rfl rfl (by decide +kernel) ⟨Nat.le_of_ble_eq_true rfl, Nat.le_of_ble_eq_true rfl⟩) hZ hno hlocks hK hP hD hS hA [] rfl (by decide) rfl hl.1 rfl (Nat.le_of_ble_eq_true rfl) dX6_seat_2 ⟨Nat.le_of_ble_eq_true rfl, Nat.le_of_ble_eq_true rfl⟩

set_option maxHeartbeats 4000000 in
set_option maxRecDepth 100000 in
theorem c_X6_seat__e2 (l : Launch) (D : va_G) (cI cB cW cL : ClassId)  (sz : Nat) (M : kM) (hst : l.stackTraces = false) (a : Nat) (s : Nat) (t : Int32) (ob : Nat) (ha : a < 6) (hs : s < 3) (hg : g_in t 0 2 = false) : kMx l yX6_seat wsX6_seat ({ frames := 7, cells := 1, slots := 6, locals := 103 }) D vwCl (kT cI cB cW cL) sz [.ref ob, .int (nI a), .int (nI s), .int t] ([]) eIA := by
  refine kr_ofx (cc := cX6_seat) (maxL := 4) (ret := (some .int)) (by decide) rfl (Nat.le_of_ble_eq_true rfl) ?_
  intro pp ee ss mm args below meth cc AA ls hx hcd hno hts hown hlocks hml hZ hK hP hD hA hl
  have hS : va_S AA ss.heap ss.heap [] := va_S.rf
  have hown : ss.vm.findClass RX6 = some mm.cls := hown
  have hl : lv_has ls 4 [(0, .ref ob), (1, .int (nI a)), (2, .int (nI s)), (3, .int t)] := hl
  refine lv_iload_n hx hcd dX6_seat_0 rfl (lv_at hl 1 rfl) ?_
  refine lv_iload_n hx hcd dX6_seat_1 rfl (lv_at hl 2 rfl) ?_
  refine kr_Sv (As := [.int (nI a), .int (nI s)]) (rest := []) (ws2 := []) ⟨hx, hcd, hml, hown, hts⟩ (c_X6_checkSeat__ok l D cI cB cW cL  _ M a s (by omega) (by omega)) (va_cwS 2 hts gX6_seat_X6_checkSeat rfl rfl rfl (by decide +kernel) ⟨Nat.le_of_ble_eq_true rfl, Nat.le_of_ble_eq_true rfl⟩) hK hP hD hS hA [] rfl (by decide) rfl rfl rfl hl.1 rfl (Nat.le_of_ble_eq_true rfl) dX6_seat_2 ⟨Nat.zero_le _, Nat.zero_le _⟩ (fun H locs hP hD hS => ?_)
  refine lv_iload_n hx hcd dX6_seat_5 rfl (lv_at hl 3 rfl) ?_
  refine lv_iconst (v := nI 3) hx hcd dX6_seat_6 (by decide) ?_
  exact kx_S (Qz := kQ0) (As := [.int t, .int (nI 3)]) (rest := []) ⟨hx, hcd, hml, hown, hts⟩ (c_X6_checkWhat__e1 l D cI cB cW cL  _ M hst t 3 hg (by omega)) (va_cwS 2 hts gX6_seat_X6_checkWhat rfl rfl rfl (by decide +kernel) ⟨Nat.le_of_ble_eq_true rfl, Nat.le_of_ble_eq_true rfl⟩) hZ hno hlocks hK hP hD hS hA [] rfl (by decide) rfl hl.1 rfl (Nat.le_of_ble_eq_true rfl) dX6_seat_7 ⟨Nat.le_of_ble_eq_true rfl, Nat.le_of_ble_eq_true rfl⟩

set_option maxHeartbeats 4000000 in
set_option maxRecDepth 100000 in
theorem c_X6_deliver__e1 (l : Launch) (D : va_G) (cI cB cW cL : ClassId)  (sz : Nat) (M : kM) (hst : l.stackTraces = false) (u : Int32) (ob : Nat) (hg : g_in u 0 1000 = false) : kMx l yX6_deliver wsX6_deliver ({ frames := 6, cells := 1, slots := 6, locals := 82 }) D vwCl (kT cI cB cW cL) sz [.ref ob, .int u] ([]) eIA := by
  refine kr_ofx (cc := cX6_deliver) (maxL := 2) (ret := (some .int)) (by decide) rfl (Nat.le_of_ble_eq_true rfl) ?_
  intro pp ee ss mm args below meth cc AA ls hx hcd hno hts hown hlocks hml hZ hK hP hD hA hl
  have hS : va_S AA ss.heap ss.heap [] := va_S.rf
  have hown : ss.vm.findClass RX6 = some mm.cls := hown
  have hl : lv_has ls 2 [(0, .ref ob), (1, .int u)] := hl
  refine lv_iload_n hx hcd dX6_deliver_0 rfl (lv_at hl 1 rfl) ?_
  refine lv_if_lt (tgt := 11) hx hcd dX6_deliver_1 (by decide) (fun (c_1 : u < 0) => ?_) (fun (c_1 : ¬ u < 0) => ?_)
  · exact kx_throw (ik := 57) (is := 101) (ic := 61) (text := "count is out of range") rfl hst hx hcd hown hts (by decide +kernel) (by decide +kernel) (by decide +kernel) (by decide +kernel) (by decide +kernel) (by decide +kernel) (by decide +kernel) hZ hno hlocks hK hP hD hS (by rw [hml]; exact hl.1) dX6_deliver_11 dX6_deliver_14 dX6_deliver_15 dX6_deliver_17 dX6_deliver_20 ⟨Nat.le_of_ble_eq_true rfl, Nat.le_of_ble_eq_true rfl, Nat.le_of_ble_eq_true rfl, Nat.le_of_ble_eq_true rfl⟩
  · refine lv_iload_n hx hcd dX6_deliver_4 rfl (lv_at hl 1 rfl) ?_
    refine lv_sipush (v := nI 1000) hx hcd dX6_deliver_5 (by decide) ?_
    refine lv_icmp_le (tgt := 21) hx hcd dX6_deliver_8 (by decide) (fun (c_8 : u ≤ 1000) => absurd c_8 (le_no (hi := 1000) hg c_1)) (fun (c_8 : ¬ u ≤ 1000) => ?_)
    exact kx_throw (ik := 57) (is := 101) (ic := 61) (text := "count is out of range") rfl hst hx hcd hown hts (by decide +kernel) (by decide +kernel) (by decide +kernel) (by decide +kernel) (by decide +kernel) (by decide +kernel) (by decide +kernel) hZ hno hlocks hK hP hD hS (by rw [hml]; exact hl.1) dX6_deliver_11 dX6_deliver_14 dX6_deliver_15 dX6_deliver_17 dX6_deliver_20 ⟨Nat.le_of_ble_eq_true rfl, Nat.le_of_ble_eq_true rfl, Nat.le_of_ble_eq_true rfl, Nat.le_of_ble_eq_true rfl⟩

set_option maxHeartbeats 4000000 in
set_option maxRecDepth 100000 in
theorem c_X6_lose__e1 (l : Launch) (D : va_G) (cI cB cW cL : ClassId) (ob nw tr : Nat → Nat) (qs : Nat → Nat → Nat) (sc : Nat → Nat) (G : Nat → Option Nat) (N : kM) (S : Nat → kM) (n L : Nat) (T : Nat → Int32) (sz : Nat) (M : kM) (hst : l.stackTraces = false) (u : Int32) (hI : kInv M) (hg : g_in u 0 (M 577 - 1) = false) : kMx l yX6_lose wsX6_lose ({ frames := 7, cells := 1, slots := 6, locals := 103 }) D vwCl (kT cI cB cW cL) sz [.ref (ob 0), .int u] (wX cI cB cW ob nw tr qs sc G M N S n L T) eIO := by
  refine kr_ofx (cc := cX6_lose) (maxL := 2) (ret := (some .int)) (by decide) rfl (Nat.le_of_ble_eq_true rfl) ?_
  intro pp ee ss mm args below meth cc AA ls hx hcd hno hts hown hlocks hml hZ hK hP hD hA hl
  have hS : va_S AA ss.heap ss.heap [] := va_S.rf
  have hown : ss.vm.findClass RX6 = some mm.cls := hown
  have hl : lv_has ls 2 [(0, .ref (ob 0)), (1, .int u)] := hl
  refine lv_aload_n hx hcd dX6_lose_0 rfl (lv_at hl 0 rfl) ?_
  refine lv_iload_n hx hcd dX6_lose_1 rfl (lv_at hl 1 rfl) ?_
  exact kx_V (As := [.int u]) (rest := []) (q := (RX6, TX6, 5)) ⟨hx, hcd, hml, hown, hts⟩ (c_X6_checkMessage__e1 l D cI cB cW cL ob nw tr qs sc G N S n L T _ M hst u hI hg) (cwV 1 hts gX6_lose_X6_checkMessage rfl rfl rfl (by decide +kernel) ⟨Nat.le_of_ble_eq_true rfl, Nat.le_of_ble_eq_true rfl⟩) hZ hno hlocks hK hP hD hS hA [0, 1, 2, 3, 4, 5, 6, 7, 8, 9, 10, 11, 12, 13, 14, 15, 16, 17, 18, 19, 20, 21, 22, 23, 24, 25, 26, 27, 28, 29, 30, 31, 32, 33, 34, 35, 36, 37, 38, 39, 40, 41, 42, 43, 44, 45, 46, 47, 48, 49, 50, 51, 52, 53, 54, 55, 56, 57, 58, 59, 60, 61, 62, 63, 64, 65, 66, 67, 68, 69, 70, 71, 72, 73, 74, 75, 76, 77, 78, 79, 80, 81, 82, 83, 84, 85, 86, 87, 88, 89, 90, 91, 92, 93] wX_allC wX_nd 0 rfl rfl rfl hl.1 rfl (Nat.le_of_ble_eq_true rfl) dX6_lose_2 ⟨Nat.le_of_ble_eq_true rfl, Nat.le_of_ble_eq_true rfl⟩

set_option maxHeartbeats 4000000 in
set_option maxRecDepth 100000 in
theorem c_X6_message__e1 (l : Launch) (D : va_G) (cI cB cW cL : ClassId) (ob nw tr : Nat → Nat) (qs : Nat → Nat → Nat) (sc : Nat → Nat) (G : Nat → Option Nat) (N : kM) (S : Nat → kM) (n L : Nat) (T : Nat → Int32) (sz : Nat) (M : kM) (hst : l.stackTraces = false) (u : Int32) (w : Int32) (hI : kInv M) (hg : g_in u 0 (M 577 - 1) = false) : kMx l yX6_message wsX6_message ({ frames := 7, cells := 1, slots := 6, locals := 103 }) D vwCl (kT cI cB cW cL) sz [.ref (ob 0), .int u, .int w] (wX cI cB cW ob nw tr qs sc G M N S n L T) eIO := by
  refine kr_ofx (cc := cX6_message) (maxL := 3) (ret := (some .int)) (by decide) rfl (Nat.le_of_ble_eq_true rfl) ?_
  intro pp ee ss mm args below meth cc AA ls hx hcd hno hts hown hlocks hml hZ hK hP hD hA hl
  have hS : va_S AA ss.heap ss.heap [] := va_S.rf
  have hown : ss.vm.findClass RX6 = some mm.cls := hown
  have hl : lv_has ls 3 [(0, .ref (ob 0)), (1, .int u), (2, .int w)] := hl
  refine lv_aload_n hx hcd dX6_message_0 rfl (lv_at hl 0 rfl) ?_
  refine lv_iload_n hx hcd dX6_message_1 rfl (lv_at hl 1 rfl) ?_
  exact kx_V (As := [.int u]) (rest := []) (q := (RX6, TX6, 5)) ⟨hx, hcd, hml, hown, hts⟩ (c_X6_checkMessage__e1 l D cI cB cW cL ob nw tr qs sc G N S n L T _ M hst u hI hg) (cwV 1 hts gX6_message_X6_checkMessage rfl rfl rfl (by decide +kernel) ⟨Nat.le_of_ble_eq_true rfl, Nat.le_of_ble_eq_true rfl⟩) hZ hno hlocks hK hP hD hS hA [0, 1, 2, 3, 4, 5, 6, 7, 8, 9, 10, 11, 12, 13, 14, 15, 16, 17, 18, 19, 20, 21, 22, 23, 24, 25, 26, 27, 28, 29, 30, 31, 32, 33, 34, 35, 36, 37, 38, 39, 40, 41, 42, 43, 44, 45, 46, 47, 48, 49, 50, 51, 52, 53, 54, 55, 56, 57, 58, 59, 60, 61, 62, 63, 64, 65, 66, 67, 68, 69, 70, 71, 72, 73, 74, 75, 76, 77, 78, 79, 80, 81, 82, 83, 84, 85, 86, 87, 88, 89, 90, 91, 92, 93] wX_allC wX_nd 0 rfl rfl rfl hl.1 rfl (Nat.le_of_ble_eq_true rfl) dX6_message_2 ⟨Nat.le_of_ble_eq_true rfl, Nat.le_of_ble_eq_true rfl⟩

set_option maxHeartbeats 4000000 in
set_option maxRecDepth 100000 in
theorem c_X6_message__e2 (l : Launch) (D : va_G) (cI cB cW cL : ClassId) (ob nw tr : Nat → Nat) (qs : Nat → Nat → Nat) (sc : Nat → Nat) (G : Nat → Option Nat) (N : kM) (S : Nat → kM) (n L : Nat) (T : Nat → Int32) (sz : Nat) (M : kM) (hst : l.stackTraces = false) (i : Nat) (w : Int32) (hI : kInv M) (hi : i < wyN M) (hg : g_in w 0 4 = false) : kMx l yX6_message wsX6_message ({ frames := 7, cells := 1, slots := 6, locals := 103 }) D vwCl (kT cI cB cW cL) sz [.ref (ob 0), .int (nI i), .int w] (wX cI cB cW ob nw tr qs sc G M N S n L T) eIA := by
  refine kr_ofx (cc := cX6_message) (maxL := 3) (ret := (some .int)) (by decide) rfl (Nat.le_of_ble_eq_true rfl) ?_
  intro pp ee ss mm args below meth cc AA ls hx hcd hno hts hown hlocks hml hZ hK hP hD hA hl
  have hS : va_S AA ss.heap ss.heap [] := va_S.rf
  have hown : ss.vm.findClass RX6 = some mm.cls := hown
  have hl : lv_has ls 3 [(0, .ref (ob 0)), (1, .int (nI i)), (2, .int w)] := hl
  refine lv_aload_n hx hcd dX6_message_0 rfl (lv_at hl 0 rfl) ?_
  refine lv_iload_n hx hcd dX6_message_1 rfl (lv_at hl 1 rfl) ?_
  refine kr_Vv (As := [.int (nI i)]) (rest := []) (ws2 := wX cI cB cW ob nw tr qs sc G M N S n L T) (q := (RX6, TX6, 5)) ⟨hx, hcd, hml, hown, hts⟩ (c_X6_checkMessage__ok l D cI cB cW cL ob nw tr qs sc G N S n L T _ M i hI (by omega)) (cwV 1 hts gX6_message_X6_checkMessage rfl rfl rfl (by decide +kernel) ⟨Nat.le_of_ble_eq_true rfl, Nat.le_of_ble_eq_true rfl⟩) hK hP hD hS hA [0, 1, 2, 3, 4, 5, 6, 7, 8, 9, 10, 11, 12, 13, 14, 15, 16, 17, 18, 19, 20, 21, 22, 23, 24, 25, 26, 27, 28, 29, 30, 31, 32, 33, 34, 35, 36, 37, 38, 39, 40, 41, 42, 43, 44, 45, 46, 47, 48, 49, 50, 51, 52, 53, 54, 55, 56, 57, 58, 59, 60, 61, 62, 63, 64, 65, 66, 67, 68, 69, 70, 71, 72, 73, 74, 75, 76, 77, 78, 79, 80, 81, 82, 83, 84, 85, 86, 87, 88, 89, 90, 91, 92, 93] wX_allC wX_nd wX_adr wX_all 0 rfl rfl rfl hl.1 rfl (Nat.le_of_ble_eq_true rfl) dX6_message_2 ⟨Nat.zero_le _, Nat.zero_le _⟩ (fun H locs hP hD hS => ?_)
  refine lv_iload_n hx hcd dX6_message_5 rfl (lv_at hl 2 rfl) ?_
  refine lv_iconst (v := nI 5) hx hcd dX6_message_6 (by decide) ?_
  exact kx_S (Qz := kQ0) (As := [.int w, .int (nI 5)]) (rest := []) ⟨hx, hcd, hml, hown, hts⟩ (c_X6_checkWhat__e1 l D cI cB cW cL  _ M hst w 5 hg (by omega)) (va_cwS 2 hts gX6_message_X6_checkWhat rfl rfl rfl (by decide +kernel) ⟨Nat.le_of_ble_eq_true rfl, Nat.le_of_ble_eq_true rfl⟩) hZ hno hlocks hK hP hD hS hA [] rfl (by decide) rfl hl.1 rfl (Nat.le_of_ble_eq_true rfl) dX6_message_7 ⟨Nat.le_of_ble_eq_true rfl, Nat.le_of_ble_eq_true rfl⟩

set_option maxHeartbeats 4000000 in
set_option maxRecDepth 100000 in
theorem c_X6_count__e1 (l : Launch) (D : va_G) (cI cB cW cL : ClassId)  (sz : Nat) (M : kM) (hst : l.stackTraces = false) (u : Int32) (ob : Nat) (hg : g_in u 0 2 = false) : kMx l yX6_count wsX6_count ({ frames := 7, cells := 1, slots := 6, locals := 103 }) D vwCl (kT cI cB cW cL) sz [.ref ob, .int u] ([]) eIA := by
  refine kr_ofx (cc := cX6_count) (maxL := 2) (ret := (some .int)) (by decide) rfl (Nat.le_of_ble_eq_true rfl) ?_
  intro pp ee ss mm args below meth cc AA ls hx hcd hno hts hown hlocks hml hZ hK hP hD hA hl
  have hS : va_S AA ss.heap ss.heap [] := va_S.rf
  have hown : ss.vm.findClass RX6 = some mm.cls := hown
  have hl : lv_has ls 2 [(0, .ref ob), (1, .int u)] := hl
  refine lv_iload_n hx hcd dX6_count_0 rfl (lv_at hl 1 rfl) ?_
  refine lv_iconst (v := nI 3) hx hcd dX6_count_1 (by decide) ?_
  exact kx_S (Qz := kQ0) (As := [.int u, .int (nI 3)]) (rest := []) ⟨hx, hcd, hml, hown, hts⟩ (c_X6_checkWhat__e1 l D cI cB cW cL  _ M hst u 3 hg (by omega)) (va_cwS 2 hts gX6_count_X6_checkWhat rfl rfl rfl (by decide +kernel) ⟨Nat.le_of_ble_eq_true rfl, Nat.le_of_ble_eq_true rfl⟩) hZ hno hlocks hK hP hD hS hA [] rfl (by decide) rfl hl.1 rfl (Nat.le_of_ble_eq_true rfl) dX6_count_2 ⟨Nat.le_of_ble_eq_true rfl, Nat.le_of_ble_eq_true rfl⟩

set_option maxHeartbeats 4000000 in
set_option maxRecDepth 100000 in
theorem c_X6_version__e1a (l : Launch) (D : va_G) (cI cB cW cL : ClassId)  (sz : Nat) (M : kM) (hst : l.stackTraces = false) (u : Int32) (w : Int32) (ob : Nat) (hg : g_usr u = false) : kMx l yX6_version wsX6_version ({ frames := 7, cells := 1, slots := 6, locals := 102 }) D vwCl (kT cI cB cW cL) sz [.ref ob, .int u, .int w] ([]) eIO := by
  refine kr_ofx (cc := cX6_version) (maxL := 3) (ret := (some .int)) (by decide) rfl (Nat.le_of_ble_eq_true rfl) ?_
  intro pp ee ss mm args below meth cc AA ls hx hcd hno hts hown hlocks hml hZ hK hP hD hA hl
  have hS : va_S AA ss.heap ss.heap [] := va_S.rf
  have hown : ss.vm.findClass RX6 = some mm.cls := hown
  have hl : lv_has ls 3 [(0, .ref ob), (1, .int u), (2, .int w)] := hl
  refine lv_iload_n hx hcd dX6_version_0 rfl (lv_at hl 1 rfl) ?_
  exact kx_S (Qz := kQ0) (As := [.int u]) (rest := []) ⟨hx, hcd, hml, hown, hts⟩ (c_X6_checkUser__e1 l D cI cB cW cL  _ M hst u hg) (va_cwS 1 hts gX6_version_X6_checkUser rfl rfl rfl (by decide +kernel) ⟨Nat.le_of_ble_eq_true rfl, Nat.le_of_ble_eq_true rfl⟩) hZ hno hlocks hK hP hD hS hA [] rfl (by decide) rfl hl.1 rfl (Nat.le_of_ble_eq_true rfl) dX6_version_1 ⟨Nat.le_of_ble_eq_true rfl, Nat.le_of_ble_eq_true rfl⟩

set_option maxHeartbeats 4000000 in
set_option maxRecDepth 100000 in
theorem c_X6_version__e1b (l : Launch) (D : va_G) (cI cB cW cL : ClassId)  (sz : Nat) (M : kM) (hst : l.stackTraces = false) (a : Nat) (w : Int32) (ob : Nat) (ha : a < 6) (hm : ¬ w = -1) (hg : g_why (nI a) w = nI 1) : kMx l yX6_version wsX6_version ({ frames := 8, cells := 1, slots := 6, locals := 123 }) D vwCl (kT cI cB cW cL) sz [.ref ob, .int (nI a), .int w] ([]) eIO := by
  refine kr_ofx (cc := cX6_version) (maxL := 3) (ret := (some .int)) (by decide) rfl (Nat.le_of_ble_eq_true rfl) ?_
  intro pp ee ss mm args below meth cc AA ls hx hcd hno hts hown hlocks hml hZ hK hP hD hA hl
  have hS : va_S AA ss.heap ss.heap [] := va_S.rf
  have hown : ss.vm.findClass RX6 = some mm.cls := hown
  have hl : lv_has ls 3 [(0, .ref ob), (1, .int (nI a)), (2, .int w)] := hl
  refine lv_iload_n hx hcd dX6_version_0 rfl (lv_at hl 1 rfl) ?_
  refine kr_Sv (As := [.int (nI a)]) (rest := []) (ws2 := []) ⟨hx, hcd, hml, hown, hts⟩ (c_X6_checkUser__ok l D cI cB cW cL  _ M a (by omega)) (va_cwS 1 hts gX6_version_X6_checkUser rfl rfl rfl (by decide +kernel) ⟨Nat.le_of_ble_eq_true rfl, Nat.le_of_ble_eq_true rfl⟩) hK hP hD hS hA [] rfl (by decide) rfl rfl rfl hl.1 rfl (Nat.le_of_ble_eq_true rfl) dX6_version_1 ⟨Nat.zero_le _, Nat.zero_le _⟩ (fun H locs hP hD hS => ?_)
  refine lv_iload_n hx hcd dX6_version_4 rfl (lv_at hl 2 rfl) ?_
  refine lv_iconst (v := (-1)) hx hcd dX6_version_5 (by decide) ?_
  refine lv_icmp_ne (tgt := 21) hx hcd dX6_version_6 (by decide) (fun (c_6 : ¬ w = (-1)) => ?_) (fun (c_6 : w = (-1)) => absurd c_6 (fun h => hm h))
  refine lv_iload_n hx hcd dX6_version_21 rfl (lv_at hl 1 rfl) ?_
  refine lv_iload_n hx hcd dX6_version_22 rfl (lv_at hl 2 rfl) ?_
  exact kx_S (Qz := kQ0) (As := [.int (nI a), .int w]) (rest := []) ⟨hx, hcd, hml, hown, hts⟩ (c_X6_checkPair__e1 l D cI cB cW cL  _ M hst (nI a) w hg) (va_cwS 2 hts gX6_version_X6_checkPair rfl rfl rfl (by decide +kernel) ⟨Nat.le_of_ble_eq_true rfl, Nat.le_of_ble_eq_true rfl⟩) hZ hno hlocks hK hP hD hS hA [] rfl (by decide) rfl hl.1 rfl (Nat.le_of_ble_eq_true rfl) dX6_version_23 ⟨Nat.le_of_ble_eq_true rfl, Nat.le_of_ble_eq_true rfl⟩

set_option maxHeartbeats 4000000 in
set_option maxRecDepth 100000 in
theorem c_X6_version__e2 (l : Launch) (D : va_G) (cI cB cW cL : ClassId)  (sz : Nat) (M : kM) (hst : l.stackTraces = false) (a : Nat) (w : Int32) (ob : Nat) (ha : a < 6) (hm : ¬ w = -1) (hg : g_why (nI a) w = nI 2) : kMx l yX6_version wsX6_version ({ frames := 8, cells := 1, slots := 6, locals := 123 }) D vwCl (kT cI cB cW cL) sz [.ref ob, .int (nI a), .int w] ([]) eIA := by
  refine kr_ofx (cc := cX6_version) (maxL := 3) (ret := (some .int)) (by decide) rfl (Nat.le_of_ble_eq_true rfl) ?_
  intro pp ee ss mm args below meth cc AA ls hx hcd hno hts hown hlocks hml hZ hK hP hD hA hl
  have hS : va_S AA ss.heap ss.heap [] := va_S.rf
  have hown : ss.vm.findClass RX6 = some mm.cls := hown
  have hl : lv_has ls 3 [(0, .ref ob), (1, .int (nI a)), (2, .int w)] := hl
  refine lv_iload_n hx hcd dX6_version_0 rfl (lv_at hl 1 rfl) ?_
  refine kr_Sv (As := [.int (nI a)]) (rest := []) (ws2 := []) ⟨hx, hcd, hml, hown, hts⟩ (c_X6_checkUser__ok l D cI cB cW cL  _ M a (by omega)) (va_cwS 1 hts gX6_version_X6_checkUser rfl rfl rfl (by decide +kernel) ⟨Nat.le_of_ble_eq_true rfl, Nat.le_of_ble_eq_true rfl⟩) hK hP hD hS hA [] rfl (by decide) rfl rfl rfl hl.1 rfl (Nat.le_of_ble_eq_true rfl) dX6_version_1 ⟨Nat.zero_le _, Nat.zero_le _⟩ (fun H locs hP hD hS => ?_)
  refine lv_iload_n hx hcd dX6_version_4 rfl (lv_at hl 2 rfl) ?_
  refine lv_iconst (v := (-1)) hx hcd dX6_version_5 (by decide) ?_
  refine lv_icmp_ne (tgt := 21) hx hcd dX6_version_6 (by decide) (fun (c_6 : ¬ w = (-1)) => ?_) (fun (c_6 : w = (-1)) => absurd c_6 (fun h => hm h))
  refine lv_iload_n hx hcd dX6_version_21 rfl (lv_at hl 1 rfl) ?_
  refine lv_iload_n hx hcd dX6_version_22 rfl (lv_at hl 2 rfl) ?_
  exact kx_S (Qz := kQ0) (As := [.int (nI a), .int w]) (rest := []) ⟨hx, hcd, hml, hown, hts⟩ (c_X6_checkPair__e2 l D cI cB cW cL  _ M hst (nI a) w hg) (va_cwS 2 hts gX6_version_X6_checkPair rfl rfl rfl (by decide +kernel) ⟨Nat.le_of_ble_eq_true rfl, Nat.le_of_ble_eq_true rfl⟩) hZ hno hlocks hK hP hD hS hA [] rfl (by decide) rfl hl.1 rfl (Nat.le_of_ble_eq_true rfl) dX6_version_23 ⟨Nat.le_of_ble_eq_true rfl, Nat.le_of_ble_eq_true rfl⟩

set_option maxHeartbeats 4000000 in
set_option maxRecDepth 100000 in
theorem c_X6_changedSince__e1 (l : Launch) (D : va_G) (cI cB cW cL : ClassId)  (sz : Nat) (M : kM) (hst : l.stackTraces = false) (u : Int32) (w : Int32) (ob : Nat) (hg : g_usr u = false) : kMx l yX6_changedSince wsX6_changedSince ({ frames := 7, cells := 1, slots := 6, locals := 102 }) D vwCl (kT cI cB cW cL) sz [.ref ob, .int u, .int w] ([]) eIO := by
  refine kr_ofx (cc := cX6_changedSince) (maxL := 3) (ret := (some .int)) (by decide) rfl (Nat.le_of_ble_eq_true rfl) ?_
  intro pp ee ss mm args below meth cc AA ls hx hcd hno hts hown hlocks hml hZ hK hP hD hA hl
  have hS : va_S AA ss.heap ss.heap [] := va_S.rf
  have hown : ss.vm.findClass RX6 = some mm.cls := hown
  have hl : lv_has ls 3 [(0, .ref ob), (1, .int u), (2, .int w)] := hl
  refine lv_iload_n hx hcd dX6_changedSince_0 rfl (lv_at hl 1 rfl) ?_
  exact kx_S (Qz := kQ0) (As := [.int u]) (rest := []) ⟨hx, hcd, hml, hown, hts⟩ (c_X6_checkUser__e1 l D cI cB cW cL  _ M hst u hg) (va_cwS 1 hts gX6_changedSince_X6_checkUser rfl rfl rfl (by decide +kernel) ⟨Nat.le_of_ble_eq_true rfl, Nat.le_of_ble_eq_true rfl⟩) hZ hno hlocks hK hP hD hS hA [] rfl (by decide) rfl hl.1 rfl (Nat.le_of_ble_eq_true rfl) dX6_changedSince_1 ⟨Nat.le_of_ble_eq_true rfl, Nat.le_of_ble_eq_true rfl⟩

set_option maxHeartbeats 4000000 in
set_option maxRecDepth 100000 in
theorem c_X6_changedSince__e2 (l : Launch) (D : va_G) (cI cB cW cL : ClassId)  (sz : Nat) (M : kM) (hst : l.stackTraces = false) (a : Nat) (w : Int32) (ob : Nat) (ha : a < 6) (hv : w < 0) : kMx l yX6_changedSince wsX6_changedSince ({ frames := 6, cells := 1, slots := 6, locals := 82 }) D vwCl (kT cI cB cW cL) sz [.ref ob, .int (nI a), .int w] ([]) eIA := by
  refine kr_ofx (cc := cX6_changedSince) (maxL := 3) (ret := (some .int)) (by decide) rfl (Nat.le_of_ble_eq_true rfl) ?_
  intro pp ee ss mm args below meth cc AA ls hx hcd hno hts hown hlocks hml hZ hK hP hD hA hl
  have hS : va_S AA ss.heap ss.heap [] := va_S.rf
  have hown : ss.vm.findClass RX6 = some mm.cls := hown
  have hl : lv_has ls 3 [(0, .ref ob), (1, .int (nI a)), (2, .int w)] := hl
  refine lv_iload_n hx hcd dX6_changedSince_0 rfl (lv_at hl 1 rfl) ?_
  refine kr_Sv (As := [.int (nI a)]) (rest := []) (ws2 := []) ⟨hx, hcd, hml, hown, hts⟩ (c_X6_checkUser__ok l D cI cB cW cL  _ M a (by omega)) (va_cwS 1 hts gX6_changedSince_X6_checkUser rfl rfl rfl (by decide +kernel) ⟨Nat.le_of_ble_eq_true rfl, Nat.le_of_ble_eq_true rfl⟩) hK hP hD hS hA [] rfl (by decide) rfl rfl rfl hl.1 rfl (Nat.le_of_ble_eq_true rfl) dX6_changedSince_1 ⟨Nat.zero_le _, Nat.zero_le _⟩ (fun H locs hP hD hS => ?_)
  refine lv_iload_n hx hcd dX6_changedSince_4 rfl (lv_at hl 2 rfl) ?_
  refine lv_if_ge (tgt := 18) hx hcd dX6_changedSince_5 (by decide) (fun (c_5 : 0 ≤ w) => absurd c_5 (fun h => nlt_of_ge h hv)) (fun (c_5 : ¬ 0 ≤ w) => ?_)
  exact kx_throw (ik := 57) (is := 147) (ic := 61) (text := "version is negative") rfl hst hx hcd hown hts (by decide +kernel) (by decide +kernel) (by decide +kernel) (by decide +kernel) (by decide +kernel) (by decide +kernel) (by decide +kernel) hZ hno hlocks hK hP hD hS (by rw [hml]; exact hl.1) dX6_changedSince_8 dX6_changedSince_11 dX6_changedSince_12 dX6_changedSince_14 dX6_changedSince_17 ⟨Nat.le_of_ble_eq_true rfl, Nat.le_of_ble_eq_true rfl, Nat.le_of_ble_eq_true rfl, Nat.le_of_ble_eq_true rfl⟩

set_option maxHeartbeats 4000000 in
set_option maxRecDepth 100000 in
theorem c_X6_view__e1a (l : Launch) (D : va_G) (cI cB cW cL : ClassId)  (sz : Nat) (M : kM) (hst : l.stackTraces = false) (u : Int32) (w : Int32) (t : Int32) (ob : Nat) (hg : g_seatok u t = false) : kMx l yX6_view wsX6_view ({ frames := 8, cells := 1, slots := 6, locals := 123 }) D vwCl (kT cI cB cW cL) sz [.ref ob, .int u, .int w, .int t] ([]) eIO := by
  refine kr_ofx (cc := cX6_view) (maxL := 4) (ret := (some .int)) (by decide) rfl (Nat.le_of_ble_eq_true rfl) ?_
  intro pp ee ss mm args below meth cc AA ls hx hcd hno hts hown hlocks hml hZ hK hP hD hA hl
  have hS : va_S AA ss.heap ss.heap [] := va_S.rf
  have hown : ss.vm.findClass RX6 = some mm.cls := hown
  have hl : lv_has ls 4 [(0, .ref ob), (1, .int u), (2, .int w), (3, .int t)] := hl
  refine lv_iload_n hx hcd dX6_view_0 rfl (lv_at hl 1 rfl) ?_
  refine lv_iload_n hx hcd dX6_view_1 rfl (lv_at hl 3 rfl) ?_
  exact kx_S (Qz := kQ0) (As := [.int u, .int t]) (rest := []) ⟨hx, hcd, hml, hown, hts⟩ (c_X6_checkSeat__e1 l D cI cB cW cL  _ M hst u t hg) (va_cwS 2 hts gX6_view_X6_checkSeat rfl rfl rfl (by decide +kernel) ⟨Nat.le_of_ble_eq_true rfl, Nat.le_of_ble_eq_true rfl⟩) hZ hno hlocks hK hP hD hS hA [] rfl (by decide) rfl hl.1 rfl (Nat.le_of_ble_eq_true rfl) dX6_view_2 ⟨Nat.le_of_ble_eq_true rfl, Nat.le_of_ble_eq_true rfl⟩

set_option maxHeartbeats 4000000 in
set_option maxRecDepth 100000 in
theorem c_X6_view__e1b (l : Launch) (D : va_G) (cI cB cW cL : ClassId)  (sz : Nat) (M : kM) (hst : l.stackTraces = false) (a : Nat) (w : Int32) (s : Nat) (ob : Nat) (ha : a < 6) (hs : s < 3) (hg : g_why (nI a) w = nI 1) : kMx l yX6_view wsX6_view ({ frames := 8, cells := 1, slots := 6, locals := 123 }) D vwCl (kT cI cB cW cL) sz [.ref ob, .int (nI a), .int w, .int (nI s)] ([]) eIO := by
  refine kr_ofx (cc := cX6_view) (maxL := 4) (ret := (some .int)) (by decide) rfl (Nat.le_of_ble_eq_true rfl) ?_
  intro pp ee ss mm args below meth cc AA ls hx hcd hno hts hown hlocks hml hZ hK hP hD hA hl
  have hS : va_S AA ss.heap ss.heap [] := va_S.rf
  have hown : ss.vm.findClass RX6 = some mm.cls := hown
  have hl : lv_has ls 4 [(0, .ref ob), (1, .int (nI a)), (2, .int w), (3, .int (nI s))] := hl
  refine lv_iload_n hx hcd dX6_view_0 rfl (lv_at hl 1 rfl) ?_
  refine lv_iload_n hx hcd dX6_view_1 rfl (lv_at hl 3 rfl) ?_
  refine kr_Sv (As := [.int (nI a), .int (nI s)]) (rest := []) (ws2 := []) ⟨hx, hcd, hml, hown, hts⟩ (c_X6_checkSeat__ok l D cI cB cW cL  _ M a s (by omega) (by omega)) (va_cwS 2 hts gX6_view_X6_checkSeat rfl rfl rfl (by decide +kernel) ⟨Nat.le_of_ble_eq_true rfl, Nat.le_of_ble_eq_true rfl⟩) hK hP hD hS hA [] rfl (by decide) rfl rfl rfl hl.1 rfl (Nat.le_of_ble_eq_true rfl) dX6_view_2 ⟨Nat.zero_le _, Nat.zero_le _⟩ (fun H locs hP hD hS => ?_)
  refine lv_iload_n hx hcd dX6_view_5 rfl (lv_at hl 1 rfl) ?_
  refine lv_iload_n hx hcd dX6_view_6 rfl (lv_at hl 2 rfl) ?_
  exact kx_S (Qz := kQ0) (As := [.int (nI a), .int w]) (rest := []) ⟨hx, hcd, hml, hown, hts⟩ (c_X6_checkPair__e1 l D cI cB cW cL  _ M hst (nI a) w hg) (va_cwS 2 hts gX6_view_X6_checkPair rfl rfl rfl (by decide +kernel) ⟨Nat.le_of_ble_eq_true rfl, Nat.le_of_ble_eq_true rfl⟩) hZ hno hlocks hK hP hD hS hA [] rfl (by decide) rfl hl.1 rfl (Nat.le_of_ble_eq_true rfl) dX6_view_7 ⟨Nat.le_of_ble_eq_true rfl, Nat.le_of_ble_eq_true rfl⟩

set_option maxHeartbeats 4000000 in
set_option maxRecDepth 100000 in
theorem c_X6_view__e2 (l : Launch) (D : va_G) (cI cB cW cL : ClassId)  (sz : Nat) (M : kM) (hst : l.stackTraces = false) (a : Nat) (w : Int32) (s : Nat) (ob : Nat) (ha : a < 6) (hs : s < 3) (hg : g_why (nI a) w = nI 2) : kMx l yX6_view wsX6_view ({ frames := 8, cells := 1, slots := 6, locals := 123 }) D vwCl (kT cI cB cW cL) sz [.ref ob, .int (nI a), .int w, .int (nI s)] ([]) eIA := by
  refine kr_ofx (cc := cX6_view) (maxL := 4) (ret := (some .int)) (by decide) rfl (Nat.le_of_ble_eq_true rfl) ?_
  intro pp ee ss mm args below meth cc AA ls hx hcd hno hts hown hlocks hml hZ hK hP hD hA hl
  have hS : va_S AA ss.heap ss.heap [] := va_S.rf
  have hown : ss.vm.findClass RX6 = some mm.cls := hown
  have hl : lv_has ls 4 [(0, .ref ob), (1, .int (nI a)), (2, .int w), (3, .int (nI s))] := hl
  refine lv_iload_n hx hcd dX6_view_0 rfl (lv_at hl 1 rfl) ?_
  refine lv_iload_n hx hcd dX6_view_1 rfl (lv_at hl 3 rfl) ?_
  refine kr_Sv (As := [.int (nI a), .int (nI s)]) (rest := []) (ws2 := []) ⟨hx, hcd, hml, hown, hts⟩ (c_X6_checkSeat__ok l D cI cB cW cL  _ M a s (by omega) (by omega)) (va_cwS 2 hts gX6_view_X6_checkSeat rfl rfl rfl (by decide +kernel) ⟨Nat.le_of_ble_eq_true rfl, Nat.le_of_ble_eq_true rfl⟩) hK hP hD hS hA [] rfl (by decide) rfl rfl rfl hl.1 rfl (Nat.le_of_ble_eq_true rfl) dX6_view_2 ⟨Nat.zero_le _, Nat.zero_le _⟩ (fun H locs hP hD hS => ?_)
  refine lv_iload_n hx hcd dX6_view_5 rfl (lv_at hl 1 rfl) ?_
  refine lv_iload_n hx hcd dX6_view_6 rfl (lv_at hl 2 rfl) ?_
  exact kx_S (Qz := kQ0) (As := [.int (nI a), .int w]) (rest := []) ⟨hx, hcd, hml, hown, hts⟩ (c_X6_checkPair__e2 l D cI cB cW cL  _ M hst (nI a) w hg) (va_cwS 2 hts gX6_view_X6_checkPair rfl rfl rfl (by decide +kernel) ⟨Nat.le_of_ble_eq_true rfl, Nat.le_of_ble_eq_true rfl⟩) hZ hno hlocks hK hP hD hS hA [] rfl (by decide) rfl hl.1 rfl (Nat.le_of_ble_eq_true rfl) dX6_view_7 ⟨Nat.le_of_ble_eq_true rfl, Nat.le_of_ble_eq_true rfl⟩

set_option maxHeartbeats 4000000 in
set_option maxRecDepth 100000 in
theorem c_X6_wrongViews__e1 (l : Launch) (D : va_G) (cI cB cW cL : ClassId)  (sz : Nat) (M : kM) (hst : l.stackTraces = false) (u : Int32) (ob : Nat) (hg : g_usr u = false) : kMx l yX6_wrongViews wsX6_wrongViews ({ frames := 7, cells := 1, slots := 6, locals := 102 }) D vwCl (kT cI cB cW cL) sz [.ref ob, .int u] ([]) eIO := by
  refine kr_ofx (cc := cX6_wrongViews) (maxL := 2) (ret := (some .int)) (by decide) rfl (Nat.le_of_ble_eq_true rfl) ?_
  intro pp ee ss mm args below meth cc AA ls hx hcd hno hts hown hlocks hml hZ hK hP hD hA hl
  have hS : va_S AA ss.heap ss.heap [] := va_S.rf
  have hown : ss.vm.findClass RX6 = some mm.cls := hown
  have hl : lv_has ls 2 [(0, .ref ob), (1, .int u)] := hl
  refine lv_iload_n hx hcd dX6_wrongViews_0 rfl (lv_at hl 1 rfl) ?_
  exact kx_S (Qz := kQ0) (As := [.int u]) (rest := []) ⟨hx, hcd, hml, hown, hts⟩ (c_X6_checkUser__e1 l D cI cB cW cL  _ M hst u hg) (va_cwS 1 hts gX6_wrongViews_X6_checkUser rfl rfl rfl (by decide +kernel) ⟨Nat.le_of_ble_eq_true rfl, Nat.le_of_ble_eq_true rfl⟩) hZ hno hlocks hK hP hD hS hA [] rfl (by decide) rfl hl.1 rfl (Nat.le_of_ble_eq_true rfl) dX6_wrongViews_1 ⟨Nat.le_of_ble_eq_true rfl, Nat.le_of_ble_eq_true rfl⟩

set_option maxHeartbeats 4000000 in
set_option maxRecDepth 100000 in
theorem c_X6_append__e1 (l : Launch) (D : va_G) (cI cB cW cL : ClassId)  (sz : Nat) (M : kM) (hst : l.stackTraces = false) (u : Int32) (ob : Nat) (hg : g_in u 0 127 = false) : kMx l yX6_append wsX6_append ({ frames := 6, cells := 1, slots := 6, locals := 82 }) D vwCl (kT cI cB cW cL) sz [.ref ob, .int u] ([]) eIA := by
  refine kr_ofx (cc := cX6_append) (maxL := 2) (ret := (some .int)) (by decide) rfl (Nat.le_of_ble_eq_true rfl) ?_
  intro pp ee ss mm args below meth cc AA ls hx hcd hno hts hown hlocks hml hZ hK hP hD hA hl
  have hS : va_S AA ss.heap ss.heap [] := va_S.rf
  have hown : ss.vm.findClass RX6 = some mm.cls := hown
  have hl : lv_has ls 2 [(0, .ref ob), (1, .int u)] := hl
  refine lv_iload_n hx hcd dX6_append_0 rfl (lv_at hl 1 rfl) ?_
  refine lv_if_lt (tgt := 10) hx hcd dX6_append_1 (by decide) (fun (c_1 : u < 0) => ?_) (fun (c_1 : ¬ u < 0) => ?_)
  · exact kx_throw (ik := 57) (is := 190) (ic := 61) (text := "value is out of range") rfl hst hx hcd hown hts (by decide +kernel) (by decide +kernel) (by decide +kernel) (by decide +kernel) (by decide +kernel) (by decide +kernel) (by decide +kernel) hZ hno hlocks hK hP hD hS (by rw [hml]; exact hl.1) dX6_append_10 dX6_append_13 dX6_append_14 dX6_append_16 dX6_append_19 ⟨Nat.le_of_ble_eq_true rfl, Nat.le_of_ble_eq_true rfl, Nat.le_of_ble_eq_true rfl, Nat.le_of_ble_eq_true rfl⟩
  · refine lv_iload_n hx hcd dX6_append_4 rfl (lv_at hl 1 rfl) ?_
    refine lv_bipush (v := nI 127) hx hcd dX6_append_5 (by decide) ?_
    refine lv_icmp_le (tgt := 20) hx hcd dX6_append_7 (by decide) (fun (c_7 : u ≤ 127) => absurd c_7 (le_no (hi := 127) hg c_1)) (fun (c_7 : ¬ u ≤ 127) => ?_)
    exact kx_throw (ik := 57) (is := 190) (ic := 61) (text := "value is out of range") rfl hst hx hcd hown hts (by decide +kernel) (by decide +kernel) (by decide +kernel) (by decide +kernel) (by decide +kernel) (by decide +kernel) (by decide +kernel) hZ hno hlocks hK hP hD hS (by rw [hml]; exact hl.1) dX6_append_10 dX6_append_13 dX6_append_14 dX6_append_16 dX6_append_19 ⟨Nat.le_of_ble_eq_true rfl, Nat.le_of_ble_eq_true rfl, Nat.le_of_ble_eq_true rfl, Nat.le_of_ble_eq_true rfl⟩

set_option maxHeartbeats 4000000 in
set_option maxRecDepth 100000 in
theorem c_X6_append__e2 (l : Launch) (D : va_G) (cI cB cW cL : ClassId) (ob nw tr : Nat → Nat) (qs : Nat → Nat → Nat) (sc : Nat → Nat) (G : Nat → Option Nat) (N : kM) (S : Nat → kM) (n L : Nat) (T : Nat → Int32) (sz : Nat) (M : kM) (hst : l.stackTraces = false) (v : Nat) (hv : v ≤ 127) : kMx l yX6_append wsX6_append ({ frames := 6, cells := 1, slots := 6, locals := 82 }) D vwCl (kT cI cB cW cL) sz [.ref (ob 0), .int (nI v)] (wX cI cB cW ob nw tr qs sc G M N S n 100 T) eIS := by
  refine kr_ofx (cc := cX6_append) (maxL := 2) (ret := (some .int)) (by decide) rfl (Nat.le_of_ble_eq_true rfl) ?_
  intro pp ee ss mm args below meth cc AA ls hx hcd hno hts hown hlocks hml hZ hK hP hD hA hl
  have hS : va_S AA ss.heap ss.heap [] := va_S.rf
  have hown : ss.vm.findClass RX6 = some mm.cls := hown
  have hl : lv_has ls 2 [(0, .ref (ob 0)), (1, .int (nI v))] := hl
  have uX2 : ∀ w ∈ u_ws RX2 TX2 2, w ∈ wsX6_append := by decide +kernel
  have uX6 : ∀ w ∈ u_ws RX6 TX6 5, w ∈ wsX6_append := by decide +kernel
  refine lv_iload_n hx hcd dX6_append_0 rfl (lv_at hl 1 rfl) ?_
  refine kr_zlt (tgt := 10) hx hcd (by omega) dX6_append_1 (by decide) ?_
  refine lv_iload_n hx hcd dX6_append_4 rfl (lv_at hl 1 rfl) ?_
  refine lv_bipush (v := nI 127) hx hcd dX6_append_5 (by decide) ?_
  refine kr_cle (tgt := 20) hx hcd (by omega) (by omega) dX6_append_7 (by decide) (fun (c_7 : v ≤ 127) => ?_) (fun (c_7 : 127 < v) => absurd c_7 (by omega))
  refine lv_aload_n hx hcd dX6_append_20 rfl (lv_at hl 0 rfl) ?_
  refine kr_get hx hcd hts uX6 hown hK hP 0 rfl rfl 3 (by decide) (by decide +kernel) (v := .ref (sc 0)) rfl dX6_append_21 ?_
  refine kr_get hx hcd hts uX2 hown hK hP 92 rfl rfl 1 (by decide) (by decide +kernel) (v := .int (nI 100)) rfl dX6_append_24 ?_
  refine lv_bipush (v := nI 100) hx hcd dX6_append_27 (by decide) ?_
  refine kr_clt (tgt := 42) hx hcd (by omega) (by omega) dX6_append_29 (by decide) (fun (c_29 : 100 < 100) => absurd c_29 (by omega)) (fun (c_29 : 100 ≤ 100) => ?_)
  exact kx_throw (ik := 78) (is := 195) (ic := 82) (text := "the text is full") rfl hst hx hcd hown hts (by decide +kernel) (by decide +kernel) (by decide +kernel) (by decide +kernel) (by decide +kernel) (by decide +kernel) (by decide +kernel) hZ hno hlocks hK hP hD hS (by rw [hml]; exact hl.1) dX6_append_32 dX6_append_35 dX6_append_36 dX6_append_38 dX6_append_41 ⟨Nat.le_of_ble_eq_true rfl, Nat.le_of_ble_eq_true rfl, Nat.le_of_ble_eq_true rfl, Nat.le_of_ble_eq_true rfl⟩

set_option maxHeartbeats 4000000 in
set_option maxRecDepth 100000 in
theorem c_X6_undo__e1 (l : Launch) (D : va_G) (cI cB cW cL : ClassId) (ob nw tr : Nat → Nat) (qs : Nat → Nat → Nat) (sc : Nat → Nat) (G : Nat → Option Nat) (N : kM) (S : Nat → kM) (n L : Nat) (T : Nat → Int32) (sz : Nat) (M : kM) (hst : l.stackTraces = false)  : kMx l yX6_undo wsX6_undo ({ frames := 6, cells := 1, slots := 6, locals := 82 }) D vwCl (kT cI cB cW cL) sz [.ref (ob 0)] (wX cI cB cW ob nw tr qs sc G M N S 0 L T) eIS := by
  refine kr_ofx (cc := cX6_undo) (maxL := 1) (ret := (some .int)) (by decide) rfl (Nat.le_of_ble_eq_true rfl) ?_
  intro pp ee ss mm args below meth cc AA ls hx hcd hno hts hown hlocks hml hZ hK hP hD hA hl
  have hS : va_S AA ss.heap ss.heap [] := va_S.rf
  have hown : ss.vm.findClass RX6 = some mm.cls := hown
  have hl : lv_has ls 1 [(0, .ref (ob 0))] := hl
  have uX6 : ∀ w ∈ u_ws RX6 TX6 5, w ∈ wsX6_undo := by decide +kernel
  refine lv_aload_n hx hcd dX6_undo_0 rfl (lv_at hl 0 rfl) ?_
  refine kr_get hx hcd hts uX6 hown hK hP 0 rfl rfl 4 (by decide) (by decide +kernel) (v := .int (nI 0)) rfl dX6_undo_1 ?_
  refine lv_iconst (v := nI 1) hx hcd dX6_undo_4 (by decide) ?_
  refine kr_cge (tgt := 18) hx hcd (by omega) (by omega) dX6_undo_5 (by decide) (fun (c_5 : 1 ≤ 0) => absurd c_5 (by omega)) (fun (c_5 : 0 < 1) => ?_)
  exact kx_throw (ik := 78) (is := 213) (ic := 82) (text := "there is no saved state") rfl hst hx hcd hown hts (by decide +kernel) (by decide +kernel) (by decide +kernel) (by decide +kernel) (by decide +kernel) (by decide +kernel) (by decide +kernel) hZ hno hlocks hK hP hD hS (by rw [hml]; exact hl.1) dX6_undo_8 dX6_undo_11 dX6_undo_12 dX6_undo_14 dX6_undo_17 ⟨Nat.le_of_ble_eq_true rfl, Nat.le_of_ble_eq_true rfl, Nat.le_of_ble_eq_true rfl, Nat.le_of_ble_eq_true rfl⟩
