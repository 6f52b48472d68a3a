set_option maxHeartbeats 4000000 in
set_option maxRecDepth 100000 in
/-- setLimit: no such account -/
theorem c_setLimit (l : Launch) (hst : l.stackTraces = false) (dC : Nat → ClassId) (dI : Nat → Nat → Nat) (sz t : Nat) (h0 ac : Nat) (w0 b0 : Value) (dd : Int32) (ed : Value) (a1 a2 : Int32) : vx_Met l yX4_setLimit ws_X4_setLimit ({ frames := 7, cells := 1, slots := 6, locals := 120 }) (zA dC dI [(h0, .inr (5, [.ref ac, w0, b0, .int dd])), (ac, .inr (0, [.int 0, ed, .int 0]))] [] sz t [.ref h0, .int a1, .int a2]) (va_Qi (fun _ (_ : Unit) => False) (fun _ _ => True) (fun _ => False)) (vx_X (fun _ : Unit => True) (fun E _ _ => E = "java/lang/IndexOutOfBoundsException") (fun q => sz ≤ q)) 1 6 (fun q => sz ≤ q) := by
  refine vx_ofW (cc := cX4_setLimit) (maxL := 5) (ret := (some .int)) (by decide) rfl ?_
  intro p e s m args below meth c s₁ B hml htab hv
  obtain ⟨rfl, hsz, hP, hK, hD0, hQ⟩ := hv
  have hx := B.exec
  have hb := B.bytes
  have hr := B.returns
  have hts : ∀ w ∈ zG, w.before _ s = true := fun w h => atoms_spec (ws := ws_X4_setLimit) B.pre w (List.mem_cons_of_mem _ h)
  have hown : s.vm.findClass RX4 = some m.cls := findClass_of_methodNamed B.named
  have hlocks := B.notSynchronized
  subst hsz
  have hD := hD0.self (sz := s.heap.size)
  generalize hAe : va_A [(h0, .inr (5, [.ref ac, w0, b0, .int dd])), (ac, .inr (0, [.int 0, ed, .int 0]))] s.heap.size = A at hD hQ
  have hA : ∀ q : Nat, s.heap.size ≤ q → A q := fun q h => by rw [← hAe]; exact Or.inr h
  have hS : va_S A s.heap s.heap [] := va_S.rf
  have hSn : va_S (fun q => s.heap.size ≤ q) s.heap s.heap [] := va_S.rf
  have hP : va_P (dC, dI) zc [(h0, .inr (5, [.ref ac, w0, b0, .int dd])), (ac, .inr (0, [.int 0, ed, .int 0]))] s.heap := hP
  have hl := lv_entry ([.ref h0, .int a1, .int a2]) (n := 5) (Nat.le_of_ble_eq_true rfl)
  rw [lg_entry_eq]
  generalize (lg_sl ([.ref h0, .int a1, .int a2]) ++ List.replicate (5 - (lg_sl ([.ref h0, .int a1, .int a2])).length) Slot.unset).toArray = ls at hl ⊢
  have hl : lv_has ls 5 [(0, .ref h0), (1, .int a1), (2, .int a2)] := hl
  refine lv_aload_n hx hb dX4_setLimit_0 rfl (lv_at hl 0 rfl) ?_
  refine lv_iload_n hx hb dX4_setLimit_1 rfl (lv_at hl 1 rfl) ?_
  refine vx_callq (vx_runV (As := [.int a1]) (rest := []) ⟨hx, hb, hml, hown, hts⟩ (c_accountAt l hst dC dI s.heap.size t h0 ac w0 b0 dd a1 ed) (cwV 1 hts (zg_V kw_668 kw_670 kw_30 kw_64 kw_671) rfl rfl rfl (by decide +kernel) ⟨Nat.le_of_ble_eq_true rfl, Nat.le_of_ble_eq_true rfl⟩) ⟨zA_blind, va_recv hK hP (ci := 5) (q0 := 0) rfl rfl, zA_pre hP hD hS hK hQ hA [0, 1] rfl rfl (by decide) [] rfl⟩ rfl rfl hl.1 rfl (lv_room (Nat.le_of_ble_eq_true rfl)) dX4_setLimit_2 ⟨zl_b rfl, zl_b rfl⟩) hSn (fun q _ h => h.elim) (fun q h => Nat.le_trans (Nat.le_refl _) h) (fun q _ h => Nat.le_trans (Nat.le_refl _) h) (fun E ce q9 u t9 H1 locs1 ht hvm hp9 hE hz1 hk1 hS1 hc1 hv1 hcl1 => ?_) (fun r u t9 H1 locs1 ht hvm hw hB hz1 hk1 hS1 => hw.elim)
  have hE : E = "java/lang/IndexOutOfBoundsException" := hE
  subst hE
  refine vx_widen (k := 1) (n := 6) (zl_b rfl) (zl_b rfl) ?_
  exact vx_out (fun x hx => (htab x hx).elim) hlocks hc1 hv1 hcl1 (fun t ht hW => ⟨(), trivial, rfl, zS_F hS1 ht⟩) hS1.2.2 (zl_b rfl) (zl_b rfl)
set_option maxHeartbeats 4000000 in
set_option maxRecDepth 100000 in
/-- block: no such account -/
theorem c_block (l : Launch) (hst : l.stackTraces = false) (dC : Nat → ClassId) (dI : Nat → Nat → Nat) (sz t : Nat) (h0 ac : Nat) (w0 b0 : Value) (dd : Int32) (ed : Value) (a1 a2 : Int32) : vx_Met l yX4_block ws_X4_block ({ frames := 7, cells := 1, slots := 6, locals := 120 }) (zA dC dI [(h0, .inr (5, [.ref ac, w0, b0, .int dd])), (ac, .inr (0, [.int 0, ed, .int 0]))] [] sz t [.ref h0, .int a1, .int a2]) (va_Qi (fun _ (_ : Unit) => False) (fun _ _ => True) (fun _ => False)) (vx_X (fun _ : Unit => True) (fun E _ _ => E = "java/lang/IndexOutOfBoundsException") (fun q => sz ≤ q)) 1 6 (fun q => sz ≤ q) := by
  refine vx_ofW (cc := cX4_block) (maxL := 5) (ret := (some .boolean)) (by decide) rfl ?_
  intro p e s m args below meth c s₁ B hml htab hv
  obtain ⟨rfl, hsz, hP, hK, hD0, hQ⟩ := hv
  have hx := B.exec
  have hb := B.bytes
  have hr := B.returns
  have hts : ∀ w ∈ zG, w.before _ s = true := fun w h => atoms_spec (ws := ws_X4_block) B.pre w (List.mem_cons_of_mem _ h)
  have hown : s.vm.findClass RX4 = some m.cls := findClass_of_methodNamed B.named
  have hlocks := B.notSynchronized
  subst hsz
  have hD := hD0.self (sz := s.heap.size)
  generalize hAe : va_A [(h0, .inr (5, [.ref ac, w0, b0, .int dd])), (ac, .inr (0, [.int 0, ed, .int 0]))] s.heap.size = A at hD hQ
  have hA : ∀ q : Nat, s.heap.size ≤ q → A q := fun q h => by rw [← hAe]; exact Or.inr h
  have hS : va_S A s.heap s.heap [] := va_S.rf
  have hSn : va_S (fun q => s.heap.size ≤ q) s.heap s.heap [] := va_S.rf
  have hP : va_P (dC, dI) zc [(h0, .inr (5, [.ref ac, w0, b0, .int dd])), (ac, .inr (0, [.int 0, ed, .int 0]))] s.heap := hP
  have hl := lv_entry ([.ref h0, .int a1, .int a2]) (n := 5) (Nat.le_of_ble_eq_true rfl)
  rw [lg_entry_eq]
  generalize (lg_sl ([.ref h0, .int a1, .int a2]) ++ List.replicate (5 - (lg_sl ([.ref h0, .int a1, .int a2])).length) Slot.unset).toArray = ls at hl ⊢
  have hl : lv_has ls 5 [(0, .ref h0), (1, .int a1), (2, .int a2)] := hl
  refine lv_aload_n hx hb dX4_block_0 rfl (lv_at hl 0 rfl) ?_
  refine lv_iload_n hx hb dX4_block_1 rfl (lv_at hl 1 rfl) ?_
  refine vx_callq (vx_runV (As := [.int a1]) (rest := []) ⟨hx, hb, hml, hown, hts⟩ (c_accountAt l hst dC dI s.heap.size t h0 ac w0 b0 dd a1 ed) (cwV 1 hts (zg_V kw_668 kw_670 kw_30 kw_64 kw_671) rfl rfl rfl (by decide +kernel) ⟨Nat.le_of_ble_eq_true rfl, Nat.le_of_ble_eq_true rfl⟩) ⟨zA_blind, va_recv hK hP (ci := 5) (q0 := 0) rfl rfl, zA_pre hP hD hS hK hQ hA [0, 1] rfl rfl (by decide) [] rfl⟩ rfl rfl hl.1 rfl (lv_room (Nat.le_of_ble_eq_true rfl)) dX4_block_2 ⟨zl_b rfl, zl_b rfl⟩) hSn (fun q _ h => h.elim) (fun q h => Nat.le_trans (Nat.le_refl _) h) (fun q _ h => Nat.le_trans (Nat.le_refl _) h) (fun E ce q9 u t9 H1 locs1 ht hvm hp9 hE hz1 hk1 hS1 hc1 hv1 hcl1 => ?_) (fun r u t9 H1 locs1 ht hvm hw hB hz1 hk1 hS1 => hw.elim)
  have hE : E = "java/lang/IndexOutOfBoundsException" := hE
  subst hE
  refine vx_widen (k := 1) (n := 6) (zl_b rfl) (zl_b rfl) ?_
  exact vx_out (fun x hx => (htab x hx).elim) hlocks hc1 hv1 hcl1 (fun t ht hW => ⟨(), trivial, rfl, zS_F hS1 ht⟩) hS1.2.2 (zl_b rfl) (zl_b rfl)
set_option maxHeartbeats 4000000 in
set_option maxRecDepth 100000 in
/-- setRate: no such account -/
theorem c_setRate (l : Launch) (hst : l.stackTraces = false) (dC : Nat → ClassId) (dI : Nat → Nat → Nat) (sz t : Nat) (h0 ac : Nat) (w0 b0 : Value) (dd : Int32) (ed : Value) (a1 a2 a3 : Int32) : vx_Met l yX4_setRate ws_X4_setRate ({ frames := 7, cells := 1, slots := 6, locals := 120 }) (zA dC dI [(h0, .inr (5, [.ref ac, w0, b0, .int dd])), (ac, .inr (0, [.int 0, ed, .int 0]))] [] sz t [.ref h0, .int a1, .int a2, .int a3]) (va_Qi (fun _ (_ : Unit) => False) (fun _ _ => True) (fun _ => False)) (vx_X (fun _ : Unit => True) (fun E _ _ => E = "java/lang/IndexOutOfBoundsException") (fun q => sz ≤ q)) 1 6 (fun q => sz ≤ q) := by
  refine vx_ofW (cc := cX4_setRate) (maxL := 7) (ret := (some .int)) (by decide) rfl ?_
  intro p e s m args below meth c s₁ B hml htab hv
  obtain ⟨rfl, hsz, hP, hK, hD0, hQ⟩ := hv
  have hx := B.exec
  have hb := B.bytes
  have hr := B.returns
  have hts : ∀ w ∈ zG, w.before _ s = true := fun w h => atoms_spec (ws := ws_X4_setRate) B.pre w (List.mem_cons_of_mem _ h)
  have hown : s.vm.findClass RX4 = some m.cls := findClass_of_methodNamed B.named
  have hlocks := B.notSynchronized
  subst hsz
  have hD := hD0.self (sz := s.heap.size)
  generalize hAe : va_A [(h0, .inr (5, [.ref ac, w0, b0, .int dd])), (ac, .inr (0, [.int 0, ed, .int 0]))] s.heap.size = A at hD hQ
  have hA : ∀ q : Nat, s.heap.size ≤ q → A q := fun q h => by rw [← hAe]; exact Or.inr h
  have hS : va_S A s.heap s.heap [] := va_S.rf
  have hSn : va_S (fun q => s.heap.size ≤ q) s.heap s.heap [] := va_S.rf
  have hP : va_P (dC, dI) zc [(h0, .inr (5, [.ref ac, w0, b0, .int dd])), (ac, .inr (0, [.int 0, ed, .int 0]))] s.heap := hP
  have hl := lv_entry ([.ref h0, .int a1, .int a2, .int a3]) (n := 7) (Nat.le_of_ble_eq_true rfl)
  rw [lg_entry_eq]
  generalize (lg_sl ([.ref h0, .int a1, .int a2, .int a3]) ++ List.replicate (7 - (lg_sl ([.ref h0, .int a1, .int a2, .int a3])).length) Slot.unset).toArray = ls at hl ⊢
  have hl : lv_has ls 7 [(0, .ref h0), (1, .int a1), (2, .int a2), (3, .int a3)] := hl
  refine lv_aload_n hx hb dX4_setRate_0 rfl (lv_at hl 0 rfl) ?_
  refine lv_iload_n hx hb dX4_setRate_1 rfl (lv_at hl 1 rfl) ?_
  refine vx_callq (vx_runV (As := [.int a1]) (rest := []) ⟨hx, hb, hml, hown, hts⟩ (c_accountAt l hst dC dI s.heap.size t h0 ac w0 b0 dd a1 ed) (cwV 1 hts (zg_V kw_668 kw_670 kw_30 kw_64 kw_671) rfl rfl rfl (by decide +kernel) ⟨Nat.le_of_ble_eq_true rfl, Nat.le_of_ble_eq_true rfl⟩) ⟨zA_blind, va_recv hK hP (ci := 5) (q0 := 0) rfl rfl, zA_pre hP hD hS hK hQ hA [0, 1] rfl rfl (by decide) [] rfl⟩ rfl rfl hl.1 rfl (lv_room (Nat.le_of_ble_eq_true rfl)) dX4_setRate_2 ⟨zl_b rfl, zl_b rfl⟩) hSn (fun q _ h => h.elim) (fun q h => Nat.le_trans (Nat.le_refl _) h) (fun q _ h => Nat.le_trans (Nat.le_refl _) h) (fun E ce q9 u t9 H1 locs1 ht hvm hp9 hE hz1 hk1 hS1 hc1 hv1 hcl1 => ?_) (fun r u t9 H1 locs1 ht hvm hw hB hz1 hk1 hS1 => hw.elim)
  have hE : E = "java/lang/IndexOutOfBoundsException" := hE
  subst hE
  refine vx_widen (k := 1) (n := 6) (zl_b rfl) (zl_b rfl) ?_
  exact vx_out (fun x hx => (htab x hx).elim) hlocks hc1 hv1 hcl1 (fun t ht hW => ⟨(), trivial, rfl, zS_F hS1 ht⟩) hS1.2.2 (zl_b rfl) (zl_b rfl)
set_option maxHeartbeats 4000000 in
set_option maxRecDepth 100000 in
/-- promote: no such account -/
theorem c_promote (l : Launch) (hst : l.stackTraces = false) (dC : Nat → ClassId) (dI : Nat → Nat → Nat) (sz t : Nat) (h0 ac : Nat) (w0 b0 : Value) (dd : Int32) (ed : Value) (a1 a2 a3 : Int32) : vx_Met l yX4_promote ws_X4_promote ({ frames := 7, cells := 1, slots := 6, locals := 120 }) (zA dC dI [(h0, .inr (5, [.ref ac, w0, b0, .int dd])), (ac, .inr (0, [.int 0, ed, .int 0]))] [] sz t [.ref h0, .int a1, .int a2, .int a3]) (va_Qi (fun _ (_ : Unit) => False) (fun _ _ => True) (fun _ => False)) (vx_X (fun _ : Unit => True) (fun E _ _ => E = "java/lang/IndexOutOfBoundsException") (fun q => sz ≤ q)) 1 6 (fun q => sz ≤ q) := by
  refine vx_ofW (cc := cX4_promote) (maxL := 6) (ret := (some .int)) (by decide) rfl ?_
  intro p e s m args below meth c s₁ B hml htab hv
  obtain ⟨rfl, hsz, hP, hK, hD0, hQ⟩ := hv
  have hx := B.exec
  have hb := B.bytes
  have hr := B.returns
  have hts : ∀ w ∈ zG, w.before _ s = true := fun w h => atoms_spec (ws := ws_X4_promote) B.pre w (List.mem_cons_of_mem _ h)
  have hown : s.vm.findClass RX4 = some m.cls := findClass_of_methodNamed B.named
  have hlocks := B.notSynchronized
  subst hsz
  have hD := hD0.self (sz := s.heap.size)
  generalize hAe : va_A [(h0, .inr (5, [.ref ac, w0, b0, .int dd])), (ac, .inr (0, [.int 0, ed, .int 0]))] s.heap.size = A at hD hQ
  have hA : ∀ q : Nat, s.heap.size ≤ q → A q := fun q h => by rw [← hAe]; exact Or.inr h
  have hS : va_S A s.heap s.heap [] := va_S.rf
  have hSn : va_S (fun q => s.heap.size ≤ q) s.heap s.heap [] := va_S.rf
  have hP : va_P (dC, dI) zc [(h0, .inr (5, [.ref ac, w0, b0, .int dd])), (ac, .inr (0, [.int 0, ed, .int 0]))] s.heap := hP
  have hl := lv_entry ([.ref h0, .int a1, .int a2, .int a3]) (n := 6) (Nat.le_of_ble_eq_true rfl)
  rw [lg_entry_eq]
  generalize (lg_sl ([.ref h0, .int a1, .int a2, .int a3]) ++ List.replicate (6 - (lg_sl ([.ref h0, .int a1, .int a2, .int a3])).length) Slot.unset).toArray = ls at hl ⊢
  have hl : lv_has ls 6 [(0, .ref h0), (1, .int a1), (2, .int a2), (3, .int a3)] := hl
  refine lv_aload_n hx hb dX4_promote_0 rfl (lv_at hl 0 rfl) ?_
  refine lv_iload_n hx hb dX4_promote_1 rfl (lv_at hl 1 rfl) ?_
  refine vx_callq (vx_runV (As := [.int a1]) (rest := []) ⟨hx, hb, hml, hown, hts⟩ (c_accountAt l hst dC dI s.heap.size t h0 ac w0 b0 dd a1 ed) (cwV 1 hts (zg_V kw_668 kw_670 kw_30 kw_64 kw_671) rfl rfl rfl (by decide +kernel) ⟨Nat.le_of_ble_eq_true rfl, Nat.le_of_ble_eq_true rfl⟩) ⟨zA_blind, va_recv hK hP (ci := 5) (q0 := 0) rfl rfl, zA_pre hP hD hS hK hQ hA [0, 1] rfl rfl (by decide) [] rfl⟩ rfl rfl hl.1 rfl (lv_room (Nat.le_of_ble_eq_true rfl)) dX4_promote_2 ⟨zl_b rfl, zl_b rfl⟩) hSn (fun q _ h => h.elim) (fun q h => Nat.le_trans (Nat.le_refl _) h) (fun q _ h => Nat.le_trans (Nat.le_refl _) h) (fun E ce q9 u t9 H1 locs1 ht hvm hp9 hE hz1 hk1 hS1 hc1 hv1 hcl1 => ?_) (fun r u t9 H1 locs1 ht hvm hw hB hz1 hk1 hS1 => hw.elim)
  have hE : E = "java/lang/IndexOutOfBoundsException" := hE
  subst hE
  refine vx_widen (k := 1) (n := 6) (zl_b rfl) (zl_b rfl) ?_
  exact vx_out (fun x hx => (htab x hx).elim) hlocks hc1 hv1 hcl1 (fun t ht hW => ⟨(), trivial, rfl, zS_F hS1 ht⟩) hS1.2.2 (zl_b rfl) (zl_b rfl)
set_option maxHeartbeats 4000000 in
set_option maxRecDepth 100000 in
/-- buy: no such account -/
theorem c_buy (l : Launch) (hst : l.stackTraces = false) (dC : Nat → ClassId) (dI : Nat → Nat → Nat) (sz t : Nat) (h0 ac : Nat) (w0 b0 : Value) (dd : Int32) (ed : Value) (a1 a2 a3 : Int32) : vx_Met l yX4_buy ws_X4_buy ({ frames := 7, cells := 1, slots := 6, locals := 120 }) (zA dC dI [(h0, .inr (5, [.ref ac, w0, b0, .int dd])), (ac, .inr (0, [.int 0, ed, .int 0]))] [] sz t [.ref h0, .int a1, .int a2, .int a3]) (va_Qi (fun _ (_ : Unit) => False) (fun _ _ => True) (fun _ => False)) (vx_X (fun _ : Unit => True) (fun E _ _ => E = "java/lang/IndexOutOfBoundsException") (fun q => sz ≤ q)) 1 6 (fun q => sz ≤ q) := by
  refine vx_ofW (cc := cX4_buy) (maxL := 6) (ret := (some .int)) (by decide) rfl ?_
  intro p e s m args below meth c s₁ B hml htab hv
  obtain ⟨rfl, hsz, hP, hK, hD0, hQ⟩ := hv
  have hx := B.exec
  have hb := B.bytes
  have hr := B.returns
  have hts : ∀ w ∈ zG, w.before _ s = true := fun w h => atoms_spec (ws := ws_X4_buy) B.pre w (List.mem_cons_of_mem _ h)
  have hown : s.vm.findClass RX4 = some m.cls := findClass_of_methodNamed B.named
  have hlocks := B.notSynchronized
  subst hsz
  have hD := hD0.self (sz := s.heap.size)
  generalize hAe : va_A [(h0, .inr (5, [.ref ac, w0, b0, .int dd])), (ac, .inr (0, [.int 0, ed, .int 0]))] s.heap.size = A at hD hQ
  have hA : ∀ q : Nat, s.heap.size ≤ q → A q := fun q h => by rw [← hAe]; exact Or.inr h
  have hS : va_S A s.heap s.heap [] := va_S.rf
  have hSn : va_S (fun q => s.heap.size ≤ q) s.heap s.heap [] := va_S.rf
  have hP : va_P (dC, dI) zc [(h0, .inr (5, [.ref ac, w0, b0, .int dd])), (ac, .inr (0, [.int 0, ed, .int 0]))] s.heap := hP
  have hl := lv_entry ([.ref h0, .int a1, .int a2, .int a3]) (n := 6) (Nat.le_of_ble_eq_true rfl)
  rw [lg_entry_eq]
  generalize (lg_sl ([.ref h0, .int a1, .int a2, .int a3]) ++ List.replicate (6 - (lg_sl ([.ref h0, .int a1, .int a2, .int a3])).length) Slot.unset).toArray = ls at hl ⊢
  have hl : lv_has ls 6 [(0, .ref h0), (1, .int a1), (2, .int a2), (3, .int a3)] := hl
  refine lv_aload_n hx hb dX4_buy_0 rfl (lv_at hl 0 rfl) ?_
  refine lv_iload_n hx hb dX4_buy_1 rfl (lv_at hl 1 rfl) ?_
  refine vx_callq (vx_runV (As := [.int a1]) (rest := []) ⟨hx, hb, hml, hown, hts⟩ (c_accountAt l hst dC dI s.heap.size t h0 ac w0 b0 dd a1 ed) (cwV 1 hts (zg_V kw_668 kw_670 kw_30 kw_64 kw_671) rfl rfl rfl (by decide +kernel) ⟨Nat.le_of_ble_eq_true rfl, Nat.le_of_ble_eq_true rfl⟩) ⟨zA_blind, va_recv hK hP (ci := 5) (q0 := 0) rfl rfl, zA_pre hP hD hS hK hQ hA [0, 1] rfl rfl (by decide) [] rfl⟩ rfl rfl hl.1 rfl (lv_room (Nat.le_of_ble_eq_true rfl)) dX4_buy_2 ⟨zl_b rfl, zl_b rfl⟩) hSn (fun q _ h => h.elim) (fun q h => Nat.le_trans (Nat.le_refl _) h) (fun q _ h => Nat.le_trans (Nat.le_refl _) h) (fun E ce q9 u t9 H1 locs1 ht hvm hp9 hE hz1 hk1 hS1 hc1 hv1 hcl1 => ?_) (fun r u t9 H1 locs1 ht hvm hw hB hz1 hk1 hS1 => hw.elim)
  have hE : E = "java/lang/IndexOutOfBoundsException" := hE
  subst hE
  refine vx_widen (k := 1) (n := 6) (zl_b rfl) (zl_b rfl) ?_
  exact vx_out (fun x hx => (htab x hx).elim) hlocks hc1 hv1 hcl1 (fun t ht hW => ⟨(), trivial, rfl, zS_F hS1 ht⟩) hS1.2.2 (zl_b rfl) (zl_b rfl)
set_option maxHeartbeats 4000000 in
set_option maxRecDepth 100000 in
/-- buyOn: no such account -/
theorem c_buyOn (l : Launch) (hst : l.stackTraces = false) (dC : Nat → ClassId) (dI : Nat → Nat → Nat) (sz t : Nat) (h0 ac : Nat) (w0 b0 : Value) (dd : Int32) (ed : Value) (a1 a2 a3 a4 : Int32) : vx_Met l yX4_buyOn ws_X4_buyOn ({ frames := 7, cells := 1, slots := 6, locals := 120 }) (zA dC dI [(h0, .inr (5, [.ref ac, w0, b0, .int dd])), (ac, .inr (0, [.int 0, ed, .int 0]))] [] sz t [.ref h0, .int a1, .int a2, .int a3, .int a4]) (va_Qi (fun _ (_ : Unit) => False) (fun _ _ => True) (fun _ => False)) (vx_X (fun _ : Unit => True) (fun E _ _ => E = "java/lang/IndexOutOfBoundsException") (fun q => sz ≤ q)) 1 6 (fun q => sz ≤ q) := by
  refine vx_ofW (cc := cX4_buyOn) (maxL := 7) (ret := (some .int)) (by decide) rfl ?_
  intro p e s m args below meth c s₁ B hml htab hv
  obtain ⟨rfl, hsz, hP, hK, hD0, hQ⟩ := hv
  have hx := B.exec
  have hb := B.bytes
  have hr := B.returns
  have hts : ∀ w ∈ zG, w.before _ s = true := fun w h => atoms_spec (ws := ws_X4_buyOn) B.pre w (List.mem_cons_of_mem _ h)
  have hown : s.vm.findClass RX4 = some m.cls := findClass_of_methodNamed B.named
  have hlocks := B.notSynchronized
  subst hsz
  have hD := hD0.self (sz := s.heap.size)
  generalize hAe : va_A [(h0, .inr (5, [.ref ac, w0, b0, .int dd])), (ac, .inr (0, [.int 0, ed, .int 0]))] s.heap.size = A at hD hQ
  have hA : ∀ q : Nat, s.heap.size ≤ q → A q := fun q h => by rw [← hAe]; exact Or.inr h
  have hS : va_S A s.heap s.heap [] := va_S.rf
  have hSn : va_S (fun q => s.heap.size ≤ q) s.heap s.heap [] := va_S.rf
  have hP : va_P (dC, dI) zc [(h0, .inr (5, [.ref ac, w0, b0, .int dd])), (ac, .inr (0, [.int 0, ed, .int 0]))] s.heap := hP
  have hl := lv_entry ([.ref h0, .int a1, .int a2, .int a3, .int a4]) (n := 7) (Nat.le_of_ble_eq_true rfl)
  rw [lg_entry_eq]
  generalize (lg_sl ([.ref h0, .int a1, .int a2, .int a3, .int a4]) ++ List.replicate (7 - (lg_sl ([.ref h0, .int a1, .int a2, .int a3, .int a4])).length) Slot.unset).toArray = ls at hl ⊢
  have hl : lv_has ls 7 [(0, .ref h0), (1, .int a1), (2, .int a2), (3, .int a3), (4, .int a4)] := hl
  refine lv_aload_n hx hb dX4_buyOn_0 rfl (lv_at hl 0 rfl) ?_
  refine lv_iload_n hx hb dX4_buyOn_1 rfl (lv_at hl 1 rfl) ?_
  refine vx_callq (vx_runV (As := [.int a1]) (rest := []) ⟨hx, hb, hml, hown, hts⟩ (c_accountAt l hst dC dI s.heap.size t h0 ac w0 b0 dd a1 ed) (cwV 1 hts (zg_V kw_668 kw_670 kw_30 kw_64 kw_671) rfl rfl rfl (by decide +kernel) ⟨Nat.le_of_ble_eq_true rfl, Nat.le_of_ble_eq_true rfl⟩) ⟨zA_blind, va_recv hK hP (ci := 5) (q0 := 0) rfl rfl, zA_pre hP hD hS hK hQ hA [0, 1] rfl rfl (by decide) [] rfl⟩ rfl rfl hl.1 rfl (lv_room (Nat.le_of_ble_eq_true rfl)) dX4_buyOn_2 ⟨zl_b rfl, zl_b rfl⟩) hSn (fun q _ h => h.elim) (fun q h => Nat.le_trans (Nat.le_refl _) h) (fun q _ h => Nat.le_trans (Nat.le_refl _) h) (fun E ce q9 u t9 H1 locs1 ht hvm hp9 hE hz1 hk1 hS1 hc1 hv1 hcl1 => ?_) (fun r u t9 H1 locs1 ht hvm hw hB hz1 hk1 hS1 => hw.elim)
  have hE : E = "java/lang/IndexOutOfBoundsException" := hE
  subst hE
  refine vx_widen (k := 1) (n := 6) (zl_b rfl) (zl_b rfl) ?_
  exact vx_out (fun x hx => (htab x hx).elim) hlocks hc1 hv1 hcl1 (fun t ht hW => ⟨(), trivial, rfl, zS_F hS1 ht⟩) hS1.2.2 (zl_b rfl) (zl_b rfl)
set_option maxHeartbeats 4000000 in
set_option maxRecDepth 100000 in
/-- abroad: no such account -/
theorem c_abroad (l : Launch) (hst : l.stackTraces = false) (dC : Nat → ClassId) (dI : Nat → Nat → Nat) (sz t : Nat) (h0 ac : Nat) (w0 b0 : Value) (dd : Int32) (ed : Value) (a1 a2 a3 : Int32) : vx_Met l yX4_abroad ws_X4_abroad ({ frames := 7, cells := 1, slots := 6, locals := 120 }) (zA dC dI [(h0, .inr (5, [.ref ac, w0, b0, .int dd])), (ac, .inr (0, [.int 0, ed, .int 0]))] [] sz t [.ref h0, .int a1, .int a2, .int a3]) (va_Qi (fun _ (_ : Unit) => False) (fun _ _ => True) (fun _ => False)) (vx_X (fun _ : Unit => True) (fun E _ _ => E = "java/lang/IndexOutOfBoundsException") (fun q => sz ≤ q)) 1 6 (fun q => sz ≤ q) := by
  refine vx_ofW (cc := cX4_abroad) (maxL := 7) (ret := (some .int)) (by decide) rfl ?_
  intro p e s m args below meth c s₁ B hml htab hv
  obtain ⟨rfl, hsz, hP, hK, hD0, hQ⟩ := hv
  have hx := B.exec
  have hb := B.bytes
  have hr := B.returns
  have hts : ∀ w ∈ zG, w.before _ s = true := fun w h => atoms_spec (ws := ws_X4_abroad) B.pre w (List.mem_cons_of_mem _ h)
  have hown : s.vm.findClass RX4 = some m.cls := findClass_of_methodNamed B.named
  have hlocks := B.notSynchronized
  subst hsz
  have hD := hD0.self (sz := s.heap.size)
  generalize hAe : va_A [(h0, .inr (5, [.ref ac, w0, b0, .int dd])), (ac, .inr (0, [.int 0, ed, .int 0]))] s.heap.size = A at hD hQ
  have hA : ∀ q : Nat, s.heap.size ≤ q → A q := fun q h => by rw [← hAe]; exact Or.inr h
  have hS : va_S A s.heap s.heap [] := va_S.rf
  have hSn : va_S (fun q => s.heap.size ≤ q) s.heap s.heap [] := va_S.rf
  have hP : va_P (dC, dI) zc [(h0, .inr (5, [.ref ac, w0, b0, .int dd])), (ac, .inr (0, [.int 0, ed, .int 0]))] s.heap := hP
  have hl := lv_entry ([.ref h0, .int a1, .int a2, .int a3]) (n := 7) (Nat.le_of_ble_eq_true rfl)
  rw [lg_entry_eq]
  generalize (lg_sl ([.ref h0, .int a1, .int a2, .int a3]) ++ List.replicate (7 - (lg_sl ([.ref h0, .int a1, .int a2, .int a3])).length) Slot.unset).toArray = ls at hl ⊢
  have hl : lv_has ls 7 [(0, .ref h0), (1, .int a1), (2, .int a2), (3, .int a3)] := hl
  refine lv_aload_n hx hb dX4_abroad_0 rfl (lv_at hl 0 rfl) ?_
  refine lv_iload_n hx hb dX4_abroad_1 rfl (lv_at hl 1 rfl) ?_
  refine vx_callq (vx_runV (As := [.int a1]) (rest := []) ⟨hx, hb, hml, hown, hts⟩ (c_accountAt l hst dC dI s.heap.size t h0 ac w0 b0 dd a1 ed) (cwV 1 hts (zg_V kw_668 kw_670 kw_30 kw_64 kw_671) rfl rfl rfl (by decide +kernel) ⟨Nat.le_of_ble_eq_true rfl, Nat.le_of_ble_eq_true rfl⟩) ⟨zA_blind, va_recv hK hP (ci := 5) (q0 := 0) rfl rfl, zA_pre hP hD hS hK hQ hA [0, 1] rfl rfl (by decide) [] rfl⟩ rfl rfl hl.1 rfl (lv_room (Nat.le_of_ble_eq_true rfl)) dX4_abroad_2 ⟨zl_b rfl, zl_b rfl⟩) hSn (fun q _ h => h.elim) (fun q h => Nat.le_trans (Nat.le_refl _) h) (fun q _ h => Nat.le_trans (Nat.le_refl _) h) (fun E ce q9 u t9 H1 locs1 ht hvm hp9 hE hz1 hk1 hS1 hc1 hv1 hcl1 => ?_) (fun r u t9 H1 locs1 ht hvm hw hB hz1 hk1 hS1 => hw.elim)
  have hE : E = "java/lang/IndexOutOfBoundsException" := hE
  subst hE
  refine vx_widen (k := 1) (n := 6) (zl_b rfl) (zl_b rfl) ?_
  exact vx_out (fun x hx => (htab x hx).elim) hlocks hc1 hv1 hcl1 (fun t ht hW => ⟨(), trivial, rfl, zS_F hS1 ht⟩) hS1.2.2 (zl_b rfl) (zl_b rfl)
set_option maxHeartbeats 4000000 in
set_option maxRecDepth 100000 in
/-- pay: no such account -/
theorem c_pay (l : Launch) (hst : l.stackTraces = false) (dC : Nat → ClassId) (dI : Nat → Nat → Nat) (sz t : Nat) (h0 ac : Nat) (w0 b0 : Value) (dd : Int32) (ed : Value) (a1 a2 : Int32) : vx_Met l yX4_pay ws_X4_pay ({ frames := 7, cells := 1, slots := 6, locals := 120 }) (zA dC dI [(h0, .inr (5, [.ref ac, w0, b0, .int dd])), (ac, .inr (0, [.int 0, ed, .int 0]))] [] sz t [.ref h0, .int a1, .int a2]) (va_Qi (fun _ (_ : Unit) => False) (fun _ _ => True) (fun _ => False)) (vx_X (fun _ : Unit => True) (fun E _ _ => E = "java/lang/IndexOutOfBoundsException") (fun q => sz ≤ q)) 1 6 (fun q => sz ≤ q) := by
  refine vx_ofW (cc := cX4_pay) (maxL := 4) (ret := (some .int)) (by decide) rfl ?_
  intro p e s m args below meth c s₁ B hml htab hv
  obtain ⟨rfl, hsz, hP, hK, hD0, hQ⟩ := hv
  have hx := B.exec
  have hb := B.bytes
  have hr := B.returns
  have hts : ∀ w ∈ zG, w.before _ s = true := fun w h => atoms_spec (ws := ws_X4_pay) B.pre w (List.mem_cons_of_mem _ h)
  have hown : s.vm.findClass RX4 = some m.cls := findClass_of_methodNamed B.named
  have hlocks := B.notSynchronized
  subst hsz
  have hD := hD0.self (sz := s.heap.size)
  generalize hAe : va_A [(h0, .inr (5, [.ref ac, w0, b0, .int dd])), (ac, .inr (0, [.int 0, ed, .int 0]))] s.heap.size = A at hD hQ
  have hA : ∀ q : Nat, s.heap.size ≤ q → A q := fun q h => by rw [← hAe]; exact Or.inr h
  have hS : va_S A s.heap s.heap [] := va_S.rf
  have hSn : va_S (fun q => s.heap.size ≤ q) s.heap s.heap [] := va_S.rf
  have hP : va_P (dC, dI) zc [(h0, .inr (5, [.ref ac, w0, b0, .int dd])), (ac, .inr (0, [.int 0, ed, .int 0]))] s.heap := hP
  have hl := lv_entry ([.ref h0, .int a1, .int a2]) (n := 4) (Nat.le_of_ble_eq_true rfl)
  rw [lg_entry_eq]
  generalize (lg_sl ([.ref h0, .int a1, .int a2]) ++ List.replicate (4 - (lg_sl ([.ref h0, .int a1, .int a2])).length) Slot.unset).toArray = ls at hl ⊢
  have hl : lv_has ls 4 [(0, .ref h0), (1, .int a1), (2, .int a2)] := hl
  refine lv_aload_n hx hb dX4_pay_0 rfl (lv_at hl 0 rfl) ?_
  refine lv_iload_n hx hb dX4_pay_1 rfl (lv_at hl 1 rfl) ?_
  refine vx_callq (vx_runV (As := [.int a1]) (rest := []) ⟨hx, hb, hml, hown, hts⟩ (c_accountAt l hst dC dI s.heap.size t h0 ac w0 b0 dd a1 ed) (cwV 1 hts (zg_V kw_668 kw_670 kw_30 kw_64 kw_671) rfl rfl rfl (by decide +kernel) ⟨Nat.le_of_ble_eq_true rfl, Nat.le_of_ble_eq_true rfl⟩) ⟨zA_blind, va_recv hK hP (ci := 5) (q0 := 0) rfl rfl, zA_pre hP hD hS hK hQ hA [0, 1] rfl rfl (by decide) [] rfl⟩ rfl rfl hl.1 rfl (lv_room (Nat.le_of_ble_eq_true rfl)) dX4_pay_2 ⟨zl_b rfl, zl_b rfl⟩) hSn (fun q _ h => h.elim) (fun q h => Nat.le_trans (Nat.le_refl _) h) (fun q _ h => Nat.le_trans (Nat.le_refl _) h) (fun E ce q9 u t9 H1 locs1 ht hvm hp9 hE hz1 hk1 hS1 hc1 hv1 hcl1 => ?_) (fun r u t9 H1 locs1 ht hvm hw hB hz1 hk1 hS1 => hw.elim)
  have hE : E = "java/lang/IndexOutOfBoundsException" := hE
  subst hE
  refine vx_widen (k := 1) (n := 6) (zl_b rfl) (zl_b rfl) ?_
  exact vx_out (fun x hx => (htab x hx).elim) hlocks hc1 hv1 hcl1 (fun t ht hW => ⟨(), trivial, rfl, zS_F hS1 ht⟩) hS1.2.2 (zl_b rfl) (zl_b rfl)
set_option maxHeartbeats 4000000 in
set_option maxRecDepth 100000 in
/-- returns: no such account -/
theorem c_returns (l : Launch) (hst : l.stackTraces = false) (dC : Nat → ClassId) (dI : Nat → Nat → Nat) (sz t : Nat) (h0 ac : Nat) (w0 b0 : Value) (dd : Int32) (ed : Value) (a1 a2 : Int32) : vx_Met l yX4_returns ws_X4_returns ({ frames := 7, cells := 1, slots := 6, locals := 120 }) (zA dC dI [(h0, .inr (5, [.ref ac, w0, b0, .int dd])), (ac, .inr (0, [.int 0, ed, .int 0]))] [] sz t [.ref h0, .int a1, .int a2]) (va_Qi (fun _ (_ : Unit) => False) (fun _ _ => True) (fun _ => False)) (vx_X (fun _ : Unit => True) (fun E _ _ => E = "java/lang/IndexOutOfBoundsException") (fun q => sz ≤ q)) 1 6 (fun q => sz ≤ q) := by
  refine vx_ofW (cc := cX4_returns) (maxL := 5) (ret := (some .int)) (by decide) rfl ?_
  intro p e s m args below meth c s₁ B hml htab hv
  obtain ⟨rfl, hsz, hP, hK, hD0, hQ⟩ := hv
  have hx := B.exec
  have hb := B.bytes
  have hr := B.returns
  have hts : ∀ w ∈ zG, w.before _ s = true := fun w h => atoms_spec (ws := ws_X4_returns) B.pre w (List.mem_cons_of_mem _ h)
  have hown : s.vm.findClass RX4 = some m.cls := findClass_of_methodNamed B.named
  have hlocks := B.notSynchronized
  subst hsz
  have hD := hD0.self (sz := s.heap.size)
  generalize hAe : va_A [(h0, .inr (5, [.ref ac, w0, b0, .int dd])), (ac, .inr (0, [.int 0, ed, .int 0]))] s.heap.size = A at hD hQ
  have hA : ∀ q : Nat, s.heap.size ≤ q → A q := fun q h => by rw [← hAe]; exact Or.inr h
  have hS : va_S A s.heap s.heap [] := va_S.rf
  have hSn : va_S (fun q => s.heap.size ≤ q) s.heap s.heap [] := va_S.rf
  have hP : va_P (dC, dI) zc [(h0, .inr (5, [.ref ac, w0, b0, .int dd])), (ac, .inr (0, [.int 0, ed, .int 0]))] s.heap := hP
  have hl := lv_entry ([.ref h0, .int a1, .int a2]) (n := 5) (Nat.le_of_ble_eq_true rfl)
  rw [lg_entry_eq]
  generalize (lg_sl ([.ref h0, .int a1, .int a2]) ++ List.replicate (5 - (lg_sl ([.ref h0, .int a1, .int a2])).length) Slot.unset).toArray = ls at hl ⊢
  have hl : lv_has ls 5 [(0, .ref h0), (1, .int a1), (2, .int a2)] := hl
  refine lv_aload_n hx hb dX4_returns_0 rfl (lv_at hl 0 rfl) ?_
  refine lv_iload_n hx hb dX4_returns_1 rfl (lv_at hl 1 rfl) ?_
  refine vx_callq (vx_runV (As := [.int a1]) (rest := []) ⟨hx, hb, hml, hown, hts⟩ (c_accountAt l hst dC dI s.heap.size t h0 ac w0 b0 dd a1 ed) (cwV 1 hts (zg_V kw_668 kw_670 kw_30 kw_64 kw_671) rfl rfl rfl (by decide +kernel) ⟨Nat.le_of_ble_eq_true rfl, Nat.le_of_ble_eq_true rfl⟩) ⟨zA_blind, va_recv hK hP (ci := 5) (q0 := 0) rfl rfl, zA_pre hP hD hS hK hQ hA [0, 1] rfl rfl (by decide) [] rfl⟩ rfl rfl hl.1 rfl (lv_room (Nat.le_of_ble_eq_true rfl)) dX4_returns_2 ⟨zl_b rfl, zl_b rfl⟩) hSn (fun q _ h => h.elim) (fun q h => Nat.le_trans (Nat.le_refl _) h) (fun q _ h => Nat.le_trans (Nat.le_refl _) h) (fun E ce q9 u t9 H1 locs1 ht hvm hp9 hE hz1 hk1 hS1 hc1 hv1 hcl1 => ?_) (fun r u t9 H1 locs1 ht hvm hw hB hz1 hk1 hS1 => hw.elim)
  have hE : E = "java/lang/IndexOutOfBoundsException" := hE
  subst hE
  refine vx_widen (k := 1) (n := 6) (zl_b rfl) (zl_b rfl) ?_
  exact vx_out (fun x hx => (htab x hx).elim) hlocks hc1 hv1 hcl1 (fun t ht hW => ⟨(), trivial, rfl, zS_F hS1 ht⟩) hS1.2.2 (zl_b rfl) (zl_b rfl)
set_option maxHeartbeats 4000000 in
set_option maxRecDepth 100000 in
/-- dispute: no such account -/
theorem c_dispute (l : Launch) (hst : l.stackTraces = false) (dC : Nat → ClassId) (dI : Nat → Nat → Nat) (sz t : Nat) (h0 ac : Nat) (w0 b0 : Value) (dd : Int32) (ed : Value) (a1 a2 : Int32) : vx_Met l yX4_dispute ws_X4_dispute ({ frames := 7, cells := 1, slots := 6, locals := 120 }) (zA dC dI [(h0, .inr (5, [.ref ac, w0, b0, .int dd])), (ac, .inr (0, [.int 0, ed, .int 0]))] [] sz t [.ref h0, .int a1, .int a2]) (va_Qi (fun _ (_ : Unit) => False) (fun _ _ => True) (fun _ => False)) (vx_X (fun _ : Unit => True) (fun E _ _ => E = "java/lang/IndexOutOfBoundsException") (fun q => sz ≤ q)) 1 6 (fun q => sz ≤ q) := by
  refine vx_ofW (cc := cX4_dispute) (maxL := 5) (ret := (some .int)) (by decide) rfl ?_
  intro p e s m args below meth c s₁ B hml htab hv
  obtain ⟨rfl, hsz, hP, hK, hD0, hQ⟩ := hv
  have hx := B.exec
  have hb := B.bytes
  have hr := B.returns
  have hts : ∀ w ∈ zG, w.before _ s = true := fun w h => atoms_spec (ws := ws_X4_dispute) B.pre w (List.mem_cons_of_mem _ h)
  have hown : s.vm.findClass RX4 = some m.cls := findClass_of_methodNamed B.named
  have hlocks := B.notSynchronized
  subst hsz
  have hD := hD0.self (sz := s.heap.size)
  generalize hAe : va_A [(h0, .inr (5, [.ref ac, w0, b0, .int dd])), (ac, .inr (0, [.int 0, ed, .int 0]))] s.heap.size = A at hD hQ
  have hA : ∀ q : Nat, s.heap.size ≤ q → A q := fun q h => by rw [← hAe]; exact Or.inr h
  have hS : va_S A s.heap s.heap [] := va_S.rf
  have hSn : va_S (fun q => s.heap.size ≤ q) s.heap s.heap [] := va_S.rf
  have hP : va_P (dC, dI) zc [(h0, .inr (5, [.ref ac, w0, b0, .int dd])), (ac, .inr (0, [.int 0, ed, .int 0]))] s.heap := hP
  have hl := lv_entry ([.ref h0, .int a1, .int a2]) (n := 5) (Nat.le_of_ble_eq_true rfl)
  rw [lg_entry_eq]
  generalize (lg_sl ([.ref h0, .int a1, .int a2]) ++ List.replicate (5 - (lg_sl ([.ref h0, .int a1, .int a2])).length) Slot.unset).toArray = ls at hl ⊢
  have hl : lv_has ls 5 [(0, .ref h0), (1, .int a1), (2, .int a2)] := hl
  refine lv_aload_n hx hb dX4_dispute_0 rfl (lv_at hl 0 rfl) ?_
  refine lv_iload_n hx hb dX4_dispute_1 rfl (lv_at hl 1 rfl) ?_
  refine vx_callq (vx_runV (As := [.int a1]) (rest := []) ⟨hx, hb, hml, hown, hts⟩ (c_accountAt l hst dC dI s.heap.size t h0 ac w0 b0 dd a1 ed) (cwV 1 hts (zg_V kw_668 kw_670 kw_30 kw_64 kw_671) rfl rfl rfl (by decide +kernel) ⟨Nat.le_of_ble_eq_true rfl, Nat.le_of_ble_eq_true rfl⟩) ⟨zA_blind, va_recv hK hP (ci := 5) (q0 := 0) rfl rfl, zA_pre hP hD hS hK hQ hA [0, 1] rfl rfl (by decide) [] rfl⟩ rfl rfl hl.1 rfl (lv_room (Nat.le_of_ble_eq_true rfl)) dX4_dispute_2 ⟨zl_b rfl, zl_b rfl⟩) hSn (fun q _ h => h.elim) (fun q h => Nat.le_trans (Nat.le_refl _) h) (fun q _ h => Nat.le_trans (Nat.le_refl _) h) (fun E ce q9 u t9 H1 locs1 ht hvm hp9 hE hz1 hk1 hS1 hc1 hv1 hcl1 => ?_) (fun r u t9 H1 locs1 ht hvm hw hB hz1 hk1 hS1 => hw.elim)
  have hE : E = "java/lang/IndexOutOfBoundsException" := hE
  subst hE
  refine vx_widen (k := 1) (n := 6) (zl_b rfl) (zl_b rfl) ?_
  exact vx_out (fun x hx => (htab x hx).elim) hlocks hc1 hv1 hcl1 (fun t ht hW => ⟨(), trivial, rfl, zS_F hS1 ht⟩) hS1.2.2 (zl_b rfl) (zl_b rfl)
set_option maxHeartbeats 4000000 in
set_option maxRecDepth 100000 in
/-- settle: no such account -/
theorem c_settle (l : Launch) (hst : l.stackTraces = false) (dC : Nat → ClassId) (dI : Nat → Nat → Nat) (sz t : Nat) (h0 ac : Nat) (w0 b0 : Value) (dd : Int32) (ed : Value) (a1 a2 a3 : Int32) : vx_Met l yX4_settle ws_X4_settle ({ frames := 7, cells := 1, slots := 6, locals := 120 }) (zA dC dI [(h0, .inr (5, [.ref ac, w0, b0, .int dd])), (ac, .inr (0, [.int 0, ed, .int 0]))] [] sz t [.ref h0, .int a1, .int a2, .int a3]) (va_Ql (fun _ (_ : Unit) => False) (fun _ _ => True) (fun _ => False)) (vx_X (fun _ : Unit => True) (fun E _ _ => E = "java/lang/IndexOutOfBoundsException") (fun q => sz ≤ q)) 1 6 (fun q => sz ≤ q) := by
  refine vx_ofW (cc := cX4_settle) (maxL := 6) (ret := (some .long)) (by decide) rfl ?_
  intro p e s m args below meth c s₁ B hml htab hv
  obtain ⟨rfl, hsz, hP, hK, hD0, hQ⟩ := hv
  have hx := B.exec
  have hb := B.bytes
  have hr := B.returns
  have hts : ∀ w ∈ zG, w.before _ s = true := fun w h => atoms_spec (ws := ws_X4_settle) B.pre w (List.mem_cons_of_mem _ h)
  have hown : s.vm.findClass RX4 = some m.cls := findClass_of_methodNamed B.named
  have hlocks := B.notSynchronized
  subst hsz
  have hD := hD0.self (sz := s.heap.size)
  generalize hAe : va_A [(h0, .inr (5, [.ref ac, w0, b0, .int dd])), (ac, .inr (0, [.int 0, ed, .int 0]))] s.heap.size = A at hD hQ
  have hA : ∀ q : Nat, s.heap.size ≤ q → A q := fun q h => by rw [← hAe]; exact Or.inr h
  have hS : va_S A s.heap s.heap [] := va_S.rf
  have hSn : va_S (fun q => s.heap.size ≤ q) s.heap s.heap [] := va_S.rf
  have hP : va_P (dC, dI) zc [(h0, .inr (5, [.ref ac, w0, b0, .int dd])), (ac, .inr (0, [.int 0, ed, .int 0]))] s.heap := hP
  have hl := lv_entry ([.ref h0, .int a1, .int a2, .int a3]) (n := 6) (Nat.le_of_ble_eq_true rfl)
  rw [lg_entry_eq]
  generalize (lg_sl ([.ref h0, .int a1, .int a2, .int a3]) ++ List.replicate (6 - (lg_sl ([.ref h0, .int a1, .int a2, .int a3])).length) Slot.unset).toArray = ls at hl ⊢
  have hl : lv_has ls 6 [(0, .ref h0), (1, .int a1), (2, .int a2), (3, .int a3)] := hl
  refine lv_aload_n hx hb dX4_settle_0 rfl (lv_at hl 0 rfl) ?_
  refine lv_iload_n hx hb dX4_settle_1 rfl (lv_at hl 1 rfl) ?_
  refine vx_callq (vx_runV (As := [.int a1]) (rest := []) ⟨hx, hb, hml, hown, hts⟩ (c_accountAt l hst dC dI s.heap.size t h0 ac w0 b0 dd a1 ed) (cwV 1 hts (zg_V kw_668 kw_670 kw_30 kw_64 kw_671) rfl rfl rfl (by decide +kernel) ⟨Nat.le_of_ble_eq_true rfl, Nat.le_of_ble_eq_true rfl⟩) ⟨zA_blind, va_recv hK hP (ci := 5) (q0 := 0) rfl rfl, zA_pre hP hD hS hK hQ hA [0, 1] rfl rfl (by decide) [] rfl⟩ rfl rfl hl.1 rfl (lv_room (Nat.le_of_ble_eq_true rfl)) dX4_settle_2 ⟨zl_b rfl, zl_b rfl⟩) hSn (fun q _ h => h.elim) (fun q h => Nat.le_trans (Nat.le_refl _) h) (fun q _ h => Nat.le_trans (Nat.le_refl _) h) (fun E ce q9 u t9 H1 locs1 ht hvm hp9 hE hz1 hk1 hS1 hc1 hv1 hcl1 => ?_) (fun r u t9 H1 locs1 ht hvm hw hB hz1 hk1 hS1 => hw.elim)
  have hE : E = "java/lang/IndexOutOfBoundsException" := hE
  subst hE
  refine vx_widen (k := 1) (n := 6) (zl_b rfl) (zl_b rfl) ?_
  exact vx_out (fun x hx => (htab x hx).elim) hlocks hc1 hv1 hcl1 (fun t ht hW => ⟨(), trivial, rfl, zS_F hS1 ht⟩) hS1.2.2 (zl_b rfl) (zl_b rfl)
set_option maxHeartbeats 4000000 in
set_option maxRecDepth 100000 in
/-- reverse: no such account -/
theorem c_reverse (l : Launch) (hst : l.stackTraces = false) (dC : Nat → ClassId) (dI : Nat → Nat → Nat) (sz t : Nat) (h0 ac : Nat) (w0 b0 : Value) (dd : Int32) (ed : Value) (a1 a2 : Int32) : vx_Met l yX4_reverse ws_X4_reverse ({ frames := 7, cells := 1, slots := 6, locals := 120 }) (zA dC dI [(h0, .inr (5, [.ref ac, w0, b0, .int dd])), (ac, .inr (0, [.int 0, ed, .int 0]))] [] sz t [.ref h0, .int a1, .int a2]) (va_Ql (fun _ (_ : Unit) => False) (fun _ _ => True) (fun _ => False)) (vx_X (fun _ : Unit => True) (fun E _ _ => E = "java/lang/IndexOutOfBoundsException") (fun q => sz ≤ q)) 1 6 (fun q => sz ≤ q) := by
  refine vx_ofW (cc := cX4_reverse) (maxL := 5) (ret := (some .long)) (by decide) rfl ?_
  intro p e s m args below meth c s₁ B hml htab hv
  obtain ⟨rfl, hsz, hP, hK, hD0, hQ⟩ := hv
  have hx := B.exec
  have hb := B.bytes
  have hr := B.returns
  have hts : ∀ w ∈ zG, w.before _ s = true := fun w h => atoms_spec (ws := ws_X4_reverse) B.pre w (List.mem_cons_of_mem _ h)
  have hown : s.vm.findClass RX4 = some m.cls := findClass_of_methodNamed B.named
  have hlocks := B.notSynchronized
  subst hsz
  have hD := hD0.self (sz := s.heap.size)
  generalize hAe : va_A [(h0, .inr (5, [.ref ac, w0, b0, .int dd])), (ac, .inr (0, [.int 0, ed, .int 0]))] s.heap.size = A at hD hQ
  have hA : ∀ q : Nat, s.heap.size ≤ q → A q := fun q h => by rw [← hAe]; exact Or.inr h
  have hS : va_S A s.heap s.heap [] := va_S.rf
  have hSn : va_S (fun q => s.heap.size ≤ q) s.heap s.heap [] := va_S.rf
  have hP : va_P (dC, dI) zc [(h0, .inr (5, [.ref ac, w0, b0, .int dd])), (ac, .inr (0, [.int 0, ed, .int 0]))] s.heap := hP
  have hl := lv_entry ([.ref h0, .int a1, .int a2]) (n := 5) (Nat.le_of_ble_eq_true rfl)
  rw [lg_entry_eq]
  generalize (lg_sl ([.ref h0, .int a1, .int a2]) ++ List.replicate (5 - (lg_sl ([.ref h0, .int a1, .int a2])).length) Slot.unset).toArray = ls at hl ⊢
  have hl : lv_has ls 5 [(0, .ref h0), (1, .int a1), (2, .int a2)] := hl
  refine lv_aload_n hx hb dX4_reverse_0 rfl (lv_at hl 0 rfl) ?_
  refine lv_iload_n hx hb dX4_reverse_1 rfl (lv_at hl 1 rfl) ?_
  refine vx_callq (vx_runV (As := [.int a1]) (rest := []) ⟨hx, hb, hml, hown, hts⟩ (c_accountAt l hst dC dI s.heap.size t h0 ac w0 b0 dd a1 ed) (cwV 1 hts (zg_V kw_668 kw_670 kw_30 kw_64 kw_671) rfl rfl rfl (by decide +kernel) ⟨Nat.le_of_ble_eq_true rfl, Nat.le_of_ble_eq_true rfl⟩) ⟨zA_blind, va_recv hK hP (ci := 5) (q0 := 0) rfl rfl, zA_pre hP hD hS hK hQ hA [0, 1] rfl rfl (by decide) [] rfl⟩ rfl rfl hl.1 rfl (lv_room (Nat.le_of_ble_eq_true rfl)) dX4_reverse_2 ⟨zl_b rfl, zl_b rfl⟩) hSn (fun q _ h => h.elim) (fun q h => Nat.le_trans (Nat.le_refl _) h) (fun q _ h => Nat.le_trans (Nat.le_refl _) h) (fun E ce q9 u t9 H1 locs1 ht hvm hp9 hE hz1 hk1 hS1 hc1 hv1 hcl1 => ?_) (fun r u t9 H1 locs1 ht hvm hw hB hz1 hk1 hS1 => hw.elim)
  have hE : E = "java/lang/IndexOutOfBoundsException" := hE
  subst hE
  refine vx_widen (k := 1) (n := 6) (zl_b rfl) (zl_b rfl) ?_
  exact vx_out (fun x hx => (htab x hx).elim) hlocks hc1 hv1 hcl1 (fun t ht hW => ⟨(), trivial, rfl, zS_F hS1 ht⟩) hS1.2.2 (zl_b rfl) (zl_b rfl)
set_option maxHeartbeats 4000000 in
set_option maxRecDepth 100000 in
/-- plan: no such account -/
theorem c_plan (l : Launch) (hst : l.stackTraces = false) (dC : Nat → ClassId) (dI : Nat → Nat → Nat) (sz t : Nat) (h0 ac : Nat) (w0 b0 : Value) (dd : Int32) (ed : Value) (a1 : Int32) : vx_Met l yX4_plan ws_X4_plan ({ frames := 7, cells := 1, slots := 6, locals := 120 }) (zA dC dI [(h0, .inr (5, [.ref ac, w0, b0, .int dd])), (ac, .inr (0, [.int 0, ed, .int 0]))] [] sz t [.ref h0, .int a1]) (va_Qi (fun _ (_ : Unit) => False) (fun _ _ => True) (fun _ => False)) (vx_X (fun _ : Unit => True) (fun E _ _ => E = "java/lang/IndexOutOfBoundsException") (fun q => sz ≤ q)) 1 6 (fun q => sz ≤ q) := by
  refine vx_ofW (cc := cX4_plan) (maxL := 3) (ret := (some .int)) (by decide) rfl ?_
  intro p e s m args below meth c s₁ B hml htab hv
  obtain ⟨rfl, hsz, hP, hK, hD0, hQ⟩ := hv
  have hx := B.exec
  have hb := B.bytes
  have hr := B.returns
  have hts : ∀ w ∈ zG, w.before _ s = true := fun w h => atoms_spec (ws := ws_X4_plan) B.pre w (List.mem_cons_of_mem _ h)
  have hown : s.vm.findClass RX4 = some m.cls := findClass_of_methodNamed B.named
  have hlocks := B.notSynchronized
  subst hsz
  have hD := hD0.self (sz := s.heap.size)
  generalize hAe : va_A [(h0, .inr (5, [.ref ac, w0, b0, .int dd])), (ac, .inr (0, [.int 0, ed, .int 0]))] s.heap.size = A at hD hQ
  have hA : ∀ q : Nat, s.heap.size ≤ q → A q := fun q h => by rw [← hAe]; exact Or.inr h
  have hS : va_S A s.heap s.heap [] := va_S.rf
  have hSn : va_S (fun q => s.heap.size ≤ q) s.heap s.heap [] := va_S.rf
  have hP : va_P (dC, dI) zc [(h0, .inr (5, [.ref ac, w0, b0, .int dd])), (ac, .inr (0, [.int 0, ed, .int 0]))] s.heap := hP
  have hl := lv_entry ([.ref h0, .int a1]) (n := 3) (Nat.le_of_ble_eq_true rfl)
  rw [lg_entry_eq]
  generalize (lg_sl ([.ref h0, .int a1]) ++ List.replicate (3 - (lg_sl ([.ref h0, .int a1])).length) Slot.unset).toArray = ls at hl ⊢
  have hl : lv_has ls 3 [(0, .ref h0), (1, .int a1)] := hl
  refine lv_aload_n hx hb dX4_plan_0 rfl (lv_at hl 0 rfl) ?_
  refine lv_iload_n hx hb dX4_plan_1 rfl (lv_at hl 1 rfl) ?_
  refine vx_callq (vx_runV (As := [.int a1]) (rest := []) ⟨hx, hb, hml, hown, hts⟩ (c_accountAt l hst dC dI s.heap.size t h0 ac w0 b0 dd a1 ed) (cwV 1 hts (zg_V kw_668 kw_670 kw_30 kw_64 kw_671) rfl rfl rfl (by decide +kernel) ⟨Nat.le_of_ble_eq_true rfl, Nat.le_of_ble_eq_true rfl⟩) ⟨zA_blind, va_recv hK hP (ci := 5) (q0 := 0) rfl rfl, zA_pre hP hD hS hK hQ hA [0, 1] rfl rfl (by decide) [] rfl⟩ rfl rfl hl.1 rfl (lv_room (Nat.le_of_ble_eq_true rfl)) dX4_plan_2 ⟨zl_b rfl, zl_b rfl⟩) hSn (fun q _ h => h.elim) (fun q h => Nat.le_trans (Nat.le_refl _) h) (fun q _ h => Nat.le_trans (Nat.le_refl _) h) (fun E ce q9 u t9 H1 locs1 ht hvm hp9 hE hz1 hk1 hS1 hc1 hv1 hcl1 => ?_) (fun r u t9 H1 locs1 ht hvm hw hB hz1 hk1 hS1 => hw.elim)
  have hE : E = "java/lang/IndexOutOfBoundsException" := hE
  subst hE
  refine vx_widen (k := 1) (n := 6) (zl_b rfl) (zl_b rfl) ?_
  exact vx_out (fun x hx => (htab x hx).elim) hlocks hc1 hv1 hcl1 (fun t ht hW => ⟨(), trivial, rfl, zS_F hS1 ht⟩) hS1.2.2 (zl_b rfl) (zl_b rfl)
set_option maxHeartbeats 4000000 in
set_option maxRecDepth 100000 in
/-- redeem: no such account -/
theorem c_redeem (l : Launch) (hst : l.stackTraces = false) (dC : Nat → ClassId) (dI : Nat → Nat → Nat) (sz t : Nat) (h0 ac : Nat) (w0 b0 : Value) (dd : Int32) (ed : Value) (a1 a2 : Int32) : vx_Met l yX4_redeem ws_X4_redeem ({ frames := 7, cells := 1, slots := 6, locals := 120 }) (zA dC dI [(h0, .inr (5, [.ref ac, w0, b0, .int dd])), (ac, .inr (0, [.int 0, ed, .int 0]))] [] sz t [.ref h0, .int a1, .int a2]) (va_Qi (fun _ (_ : Unit) => False) (fun _ _ => True) (fun _ => False)) (vx_X (fun _ : Unit => True) (fun E _ _ => E = "java/lang/IndexOutOfBoundsException") (fun q => sz ≤ q)) 1 6 (fun q => sz ≤ q) := by
  refine vx_ofW (cc := cX4_redeem) (maxL := 4) (ret := (some .int)) (by decide) rfl ?_
  intro p e s m args below meth c s₁ B hml htab hv
  obtain ⟨rfl, hsz, hP, hK, hD0, hQ⟩ := hv
  have hx := B.exec
  have hb := B.bytes
  have hr := B.returns
  have hts : ∀ w ∈ zG, w.before _ s = true := fun w h => atoms_spec (ws := ws_X4_redeem) B.pre w (List.mem_cons_of_mem _ h)
  have hown : s.vm.findClass RX4 = some m.cls := findClass_of_methodNamed B.named
  have hlocks := B.notSynchronized
  subst hsz
  have hD := hD0.self (sz := s.heap.size)
  generalize hAe : va_A [(h0, .inr (5, [.ref ac, w0, b0, .int dd])), (ac, .inr (0, [.int 0, ed, .int 0]))] s.heap.size = A at hD hQ
  have hA : ∀ q : Nat, s.heap.size ≤ q → A q := fun q h => by rw [← hAe]; exact Or.inr h
  have hS : va_S A s.heap s.heap [] := va_S.rf
  have hSn : va_S (fun q => s.heap.size ≤ q) s.heap s.heap [] := va_S.rf
  have hP : va_P (dC, dI) zc [(h0, .inr (5, [.ref ac, w0, b0, .int dd])), (ac, .inr (0, [.int 0, ed, .int 0]))] s.heap := hP
  have hl := lv_entry ([.ref h0, .int a1, .int a2]) (n := 4) (Nat.le_of_ble_eq_true rfl)
  rw [lg_entry_eq]
  generalize (lg_sl ([.ref h0, .int a1, .int a2]) ++ List.replicate (4 - (lg_sl ([.ref h0, .int a1, .int a2])).length) Slot.unset).toArray = ls at hl ⊢
  have hl : lv_has ls 4 [(0, .ref h0), (1, .int a1), (2, .int a2)] := hl
  refine lv_aload_n hx hb dX4_redeem_0 rfl (lv_at hl 0 rfl) ?_
  refine lv_iload_n hx hb dX4_redeem_1 rfl (lv_at hl 1 rfl) ?_
  refine vx_callq (vx_runV (As := [.int a1]) (rest := []) ⟨hx, hb, hml, hown, hts⟩ (c_accountAt l hst dC dI s.heap.size t h0 ac w0 b0 dd a1 ed) (cwV 1 hts (zg_V kw_668 kw_670 kw_30 kw_64 kw_671) rfl rfl rfl (by decide +kernel) ⟨Nat.le_of_ble_eq_true rfl, Nat.le_of_ble_eq_true rfl⟩) ⟨zA_blind, va_recv hK hP (ci := 5) (q0 := 0) rfl rfl, zA_pre hP hD hS hK hQ hA [0, 1] rfl rfl (by decide) [] rfl⟩ rfl rfl hl.1 rfl (lv_room (Nat.le_of_ble_eq_true rfl)) dX4_redeem_2 ⟨zl_b rfl, zl_b rfl⟩) hSn (fun q _ h => h.elim) (fun q h => Nat.le_trans (Nat.le_refl _) h) (fun q _ h => Nat.le_trans (Nat.le_refl _) h) (fun E ce q9 u t9 H1 locs1 ht hvm hp9 hE hz1 hk1 hS1 hc1 hv1 hcl1 => ?_) (fun r u t9 H1 locs1 ht hvm hw hB hz1 hk1 hS1 => hw.elim)
  have hE : E = "java/lang/IndexOutOfBoundsException" := hE
  subst hE
  refine vx_widen (k := 1) (n := 6) (zl_b rfl) (zl_b rfl) ?_
  exact vx_out (fun x hx => (htab x hx).elim) hlocks hc1 hv1 hcl1 (fun t ht hW => ⟨(), trivial, rfl, zS_F hS1 ht⟩) hS1.2.2 (zl_b rfl) (zl_b rfl)
set_option maxHeartbeats 4000000 in
set_option maxRecDepth 100000 in
/-- owed: no such account -/
theorem c_owed (l : Launch) (hst : l.stackTraces = false) (dC : Nat → ClassId) (dI : Nat → Nat → Nat) (sz t : Nat) (h0 ac : Nat) (w0 b0 : Value) (dd : Int32) (ed : Value) (a1 : Int32) : vx_Met l yX4_owed ws_X4_owed ({ frames := 7, cells := 1, slots := 6, locals := 120 }) (zA dC dI [(h0, .inr (5, [.ref ac, w0, b0, .int dd])), (ac, .inr (0, [.int 0, ed, .int 0]))] [] sz t [.ref h0, .int a1]) (va_Ql (fun _ (_ : Unit) => False) (fun _ _ => True) (fun _ => False)) (vx_X (fun _ : Unit => True) (fun E _ _ => E = "java/lang/IndexOutOfBoundsException") (fun q => sz ≤ q)) 1 6 (fun q => sz ≤ q) := by
  refine vx_ofW (cc := cX4_owed) (maxL := 2) (ret := (some .long)) (by decide) rfl ?_
  intro p e s m args below meth c s₁ B hml htab hv
  obtain ⟨rfl, hsz, hP, hK, hD0, hQ⟩ := hv
  have hx := B.exec
  have hb := B.bytes
  have hr := B.returns
  have hts : ∀ w ∈ zG, w.before _ s = true := fun w h => atoms_spec (ws := ws_X4_owed) B.pre w (List.mem_cons_of_mem _ h)
  have hown : s.vm.findClass RX4 = some m.cls := findClass_of_methodNamed B.named
  have hlocks := B.notSynchronized
  subst hsz
  have hD := hD0.self (sz := s.heap.size)
  generalize hAe : va_A [(h0, .inr (5, [.ref ac, w0, b0, .int dd])), (ac, .inr (0, [.int 0, ed, .int 0]))] s.heap.size = A at hD hQ
  have hA : ∀ q : Nat, s.heap.size ≤ q → A q := fun q h => by rw [← hAe]; exact Or.inr h
  have hS : va_S A s.heap s.heap [] := va_S.rf
  have hSn : va_S (fun q => s.heap.size ≤ q) s.heap s.heap [] := va_S.rf
  have hP : va_P (dC, dI) zc [(h0, .inr (5, [.ref ac, w0, b0, .int dd])), (ac, .inr (0, [.int 0, ed, .int 0]))] s.heap := hP
  have hl := lv_entry ([.ref h0, .int a1]) (n := 2) (Nat.le_of_ble_eq_true rfl)
  rw [lg_entry_eq]
  generalize (lg_sl ([.ref h0, .int a1]) ++ List.replicate (2 - (lg_sl ([.ref h0, .int a1])).length) Slot.unset).toArray = ls at hl ⊢
  have hl : lv_has ls 2 [(0, .ref h0), (1, .int a1)] := hl
  refine lv_aload_n hx hb dX4_owed_0 rfl (lv_at hl 0 rfl) ?_
  refine lv_aload_n hx hb dX4_owed_1 rfl (lv_at hl 0 rfl) ?_
  refine lv_iload_n hx hb dX4_owed_2 rfl (lv_at hl 1 rfl) ?_
  refine vx_callq (vx_runV (As := [.int a1]) (rest := [.ref h0]) ⟨hx, hb, hml, hown, hts⟩ (c_accountAt l hst dC dI s.heap.size t h0 ac w0 b0 dd a1 ed) (cwV 1 hts (zg_V kw_668 kw_670 kw_30 kw_64 kw_671) rfl rfl rfl (by decide +kernel) ⟨Nat.le_of_ble_eq_true rfl, Nat.le_of_ble_eq_true rfl⟩) ⟨zA_blind, va_recv hK hP (ci := 5) (q0 := 0) rfl rfl, zA_pre hP hD hS hK hQ hA [0, 1] rfl rfl (by decide) [] rfl⟩ rfl rfl hl.1 rfl (lv_room (Nat.le_of_ble_eq_true rfl)) dX4_owed_3 ⟨zl_b rfl, zl_b rfl⟩) hSn (fun q _ h => h.elim) (fun q h => Nat.le_trans (Nat.le_refl _) h) (fun q _ h => Nat.le_trans (Nat.le_refl _) h) (fun E ce q9 u t9 H1 locs1 ht hvm hp9 hE hz1 hk1 hS1 hc1 hv1 hcl1 => ?_) (fun r u t9 H1 locs1 ht hvm hw hB hz1 hk1 hS1 => hw.elim)
  have hE : E = "java/lang/IndexOutOfBoundsException" := hE
  subst hE
  refine vx_widen (k := 1) (n := 6) (zl_b rfl) (zl_b rfl) ?_
  exact vx_out (fun x hx => (htab x hx).elim) hlocks hc1 hv1 hcl1 (fun t ht hW => ⟨(), trivial, rfl, zS_F hS1 ht⟩) hS1.2.2 (zl_b rfl) (zl_b rfl)
set_option maxHeartbeats 4000000 in
set_option maxRecDepth 100000 in
/-- bucket: no such account -/
theorem c_bucket (l : Launch) (hst : l.stackTraces = false) (dC : Nat → ClassId) (dI : Nat → Nat → Nat) (sz t : Nat) (h0 ac : Nat) (w0 b0 : Value) (dd : Int32) (ed : Value) (a1 a2 : Int32) : vx_Met l yX4_bucket ws_X4_bucket ({ frames := 7, cells := 1, slots := 6, locals := 120 }) (zA dC dI [(h0, .inr (5, [.ref ac, w0, b0, .int dd])), (ac, .inr (0, [.int 0, ed, .int 0]))] [] sz t [.ref h0, .int a1, .int a2]) (va_Ql (fun _ (_ : Unit) => False) (fun _ _ => True) (fun _ => False)) (vx_X (fun _ : Unit => True) (fun E _ _ => E = "java/lang/IndexOutOfBoundsException") (fun q => sz ≤ q)) 1 6 (fun q => sz ≤ q) := by
  refine vx_ofW (cc := cX4_bucket) (maxL := 5) (ret := (some .long)) (by decide) rfl ?_
  intro p e s m args below meth c s₁ B hml htab hv
  obtain ⟨rfl, hsz, hP, hK, hD0, hQ⟩ := hv
  have hx := B.exec
  have hb := B.bytes
  have hr := B.returns
  have hts : ∀ w ∈ zG, w.before _ s = true := fun w h => atoms_spec (ws := ws_X4_bucket) B.pre w (List.mem_cons_of_mem _ h)
  have hown : s.vm.findClass RX4 = some m.cls := findClass_of_methodNamed B.named
  have hlocks := B.notSynchronized
  subst hsz
  have hD := hD0.self (sz := s.heap.size)
  generalize hAe : va_A [(h0, .inr (5, [.ref ac, w0, b0, .int dd])), (ac, .inr (0, [.int 0, ed, .int 0]))] s.heap.size = A at hD hQ
  have hA : ∀ q : Nat, s.heap.size ≤ q → A q := fun q h => by rw [← hAe]; exact Or.inr h
  have hS : va_S A s.heap s.heap [] := va_S.rf
  have hSn : va_S (fun q => s.heap.size ≤ q) s.heap s.heap [] := va_S.rf
  have hP : va_P (dC, dI) zc [(h0, .inr (5, [.ref ac, w0, b0, .int dd])), (ac, .inr (0, [.int 0, ed, .int 0]))] s.heap := hP
  have hl := lv_entry ([.ref h0, .int a1, .int a2]) (n := 5) (Nat.le_of_ble_eq_true rfl)
  rw [lg_entry_eq]
  generalize (lg_sl ([.ref h0, .int a1, .int a2]) ++ List.replicate (5 - (lg_sl ([.ref h0, .int a1, .int a2])).length) Slot.unset).toArray = ls at hl ⊢
  have hl : lv_has ls 5 [(0, .ref h0), (1, .int a1), (2, .int a2)] := hl
  refine lv_aload_n hx hb dX4_bucket_0 rfl (lv_at hl 0 rfl) ?_
  refine lv_iload_n hx hb dX4_bucket_1 rfl (lv_at hl 1 rfl) ?_
  refine vx_callq (vx_runV (As := [.int a1]) (rest := []) ⟨hx, hb, hml, hown, hts⟩ (c_accountAt l hst dC dI s.heap.size t h0 ac w0 b0 dd a1 ed) (cwV 1 hts (zg_V kw_668 kw_670 kw_30 kw_64 kw_671) rfl rfl rfl (by decide +kernel) ⟨Nat.le_of_ble_eq_true rfl, Nat.le_of_ble_eq_true rfl⟩) ⟨zA_blind, va_recv hK hP (ci := 5) (q0 := 0) rfl rfl, zA_pre hP hD hS hK hQ hA [0, 1] rfl rfl (by decide) [] rfl⟩ rfl rfl hl.1 rfl (lv_room (Nat.le_of_ble_eq_true rfl)) dX4_bucket_2 ⟨zl_b rfl, zl_b rfl⟩) hSn (fun q _ h => h.elim) (fun q h => Nat.le_trans (Nat.le_refl _) h) (fun q _ h => Nat.le_trans (Nat.le_refl _) h) (fun E ce q9 u t9 H1 locs1 ht hvm hp9 hE hz1 hk1 hS1 hc1 hv1 hcl1 => ?_) (fun r u t9 H1 locs1 ht hvm hw hB hz1 hk1 hS1 => hw.elim)
  have hE : E = "java/lang/IndexOutOfBoundsException" := hE
  subst hE
  refine vx_widen (k := 1) (n := 6) (zl_b rfl) (zl_b rfl) ?_
  exact vx_out (fun x hx => (htab x hx).elim) hlocks hc1 hv1 hcl1 (fun t ht hW => ⟨(), trivial, rfl, zS_F hS1 ht⟩) hS1.2.2 (zl_b rfl) (zl_b rfl)
set_option maxHeartbeats 4000000 in
set_option maxRecDepth 100000 in
/-- credit: no such account -/
theorem c_credit (l : Launch) (hst : l.stackTraces = false) (dC : Nat → ClassId) (dI : Nat → Nat → Nat) (sz t : Nat) (h0 ac : Nat) (w0 b0 : Value) (dd : Int32) (ed : Value) (a1 : Int32) : vx_Met l yX4_credit ws_X4_credit ({ frames := 7, cells := 1, slots := 6, locals := 120 }) (zA dC dI [(h0, .inr (5, [.ref ac, w0, b0, .int dd])), (ac, .inr (0, [.int 0, ed, .int 0]))] [] sz t [.ref h0, .int a1]) (va_Ql (fun _ (_ : Unit) => False) (fun _ _ => True) (fun _ => False)) (vx_X (fun _ : Unit => True) (fun E _ _ => E = "java/lang/IndexOutOfBoundsException") (fun q => sz ≤ q)) 1 6 (fun q => sz ≤ q) := by
  refine vx_ofW (cc := cX4_credit) (maxL := 2) (ret := (some .long)) (by decide) rfl ?_
  intro p e s m args below meth c s₁ B hml htab hv
  obtain ⟨rfl, hsz, hP, hK, hD0, hQ⟩ := hv
  have hx := B.exec
  have hb := B.bytes
  have hr := B.returns
  have hts : ∀ w ∈ zG, w.before _ s = true := fun w h => atoms_spec (ws := ws_X4_credit) B.pre w (List.mem_cons_of_mem _ h)
  have hown : s.vm.findClass RX4 = some m.cls := findClass_of_methodNamed B.named
  have hlocks := B.notSynchronized
  subst hsz
  have hD := hD0.self (sz := s.heap.size)
  generalize hAe : va_A [(h0, .inr (5, [.ref ac, w0, b0, .int dd])), (ac, .inr (0, [.int 0, ed, .int 0]))] s.heap.size = A at hD hQ
  have hA : ∀ q : Nat, s.heap.size ≤ q → A q := fun q h => by rw [← hAe]; exact Or.inr h
  have hS : va_S A s.heap s.heap [] := va_S.rf
  have hSn : va_S (fun q => s.heap.size ≤ q) s.heap s.heap [] := va_S.rf
  have hP : va_P (dC, dI) zc [(h0, .inr (5, [.ref ac, w0, b0, .int dd])), (ac, .inr (0, [.int 0, ed, .int 0]))] s.heap := hP
  have hl := lv_entry ([.ref h0, .int a1]) (n := 2) (Nat.le_of_ble_eq_true rfl)
  rw [lg_entry_eq]
  generalize (lg_sl ([.ref h0, .int a1]) ++ List.replicate (2 - (lg_sl ([.ref h0, .int a1])).length) Slot.unset).toArray = ls at hl ⊢
  have hl : lv_has ls 2 [(0, .ref h0), (1, .int a1)] := hl
  refine lv_aload_n hx hb dX4_credit_0 rfl (lv_at hl 0 rfl) ?_
  refine lv_aload_n hx hb dX4_credit_1 rfl (lv_at hl 0 rfl) ?_
  refine lv_iload_n hx hb dX4_credit_2 rfl (lv_at hl 1 rfl) ?_
  refine vx_callq (vx_runV (As := [.int a1]) (rest := [.ref h0]) ⟨hx, hb, hml, hown, hts⟩ (c_accountAt l hst dC dI s.heap.size t h0 ac w0 b0 dd a1 ed) (cwV 1 hts (zg_V kw_668 kw_670 kw_30 kw_64 kw_671) rfl rfl rfl (by decide +kernel) ⟨Nat.le_of_ble_eq_true rfl, Nat.le_of_ble_eq_true rfl⟩) ⟨zA_blind, va_recv hK hP (ci := 5) (q0 := 0) rfl rfl, zA_pre hP hD hS hK hQ hA [0, 1] rfl rfl (by decide) [] rfl⟩ rfl rfl hl.1 rfl (lv_room (Nat.le_of_ble_eq_true rfl)) dX4_credit_3 ⟨zl_b rfl, zl_b rfl⟩) hSn (fun q _ h => h.elim) (fun q h => Nat.le_trans (Nat.le_refl _) h) (fun q _ h => Nat.le_trans (Nat.le_refl _) h) (fun E ce q9 u t9 H1 locs1 ht hvm hp9 hE hz1 hk1 hS1 hc1 hv1 hcl1 => ?_) (fun r u t9 H1 locs1 ht hvm hw hB hz1 hk1 hS1 => hw.elim)
  have hE : E = "java/lang/IndexOutOfBoundsException" := hE
  subst hE
  refine vx_widen (k := 1) (n := 6) (zl_b rfl) (zl_b rfl) ?_
  exact vx_out (fun x hx => (htab x hx).elim) hlocks hc1 hv1 hcl1 (fun t ht hW => ⟨(), trivial, rfl, zS_F hS1 ht⟩) hS1.2.2 (zl_b rfl) (zl_b rfl)
set_option maxHeartbeats 4000000 in
set_option maxRecDepth 100000 in
/-- statement: no such account -/
theorem c_statement (l : Launch) (hst : l.stackTraces = false) (dC : Nat → ClassId) (dI : Nat → Nat → Nat) (sz t : Nat) (h0 ac : Nat) (w0 b0 : Value) (dd : Int32) (ed : Value) (a1 a2 : Int32) : vx_Met l yX4_statement ws_X4_statement ({ frames := 7, cells := 1, slots := 6, locals := 120 }) (zA dC dI [(h0, .inr (5, [.ref ac, w0, b0, .int dd])), (ac, .inr (0, [.int 0, ed, .int 0]))] [] sz t [.ref h0, .int a1, .int a2]) (va_Ql (fun _ (_ : Unit) => False) (fun _ _ => True) (fun _ => False)) (vx_X (fun _ : Unit => True) (fun E _ _ => E = "java/lang/IndexOutOfBoundsException") (fun q => sz ≤ q)) 1 6 (fun q => sz ≤ q) := by
  refine vx_ofW (cc := cX4_statement) (maxL := 3) (ret := (some .long)) (by decide) rfl ?_
  intro p e s m args below meth c s₁ B hml htab hv
  obtain ⟨rfl, hsz, hP, hK, hD0, hQ⟩ := hv
  have hx := B.exec
  have hb := B.bytes
  have hr := B.returns
  have hts : ∀ w ∈ zG, w.before _ s = true := fun w h => atoms_spec (ws := ws_X4_statement) B.pre w (List.mem_cons_of_mem _ h)
  have hown : s.vm.findClass RX4 = some m.cls := findClass_of_methodNamed B.named
  have hlocks := B.notSynchronized
  subst hsz
  have hD := hD0.self (sz := s.heap.size)
  generalize hAe : va_A [(h0, .inr (5, [.ref ac, w0, b0, .int dd])), (ac, .inr (0, [.int 0, ed, .int 0]))] s.heap.size = A at hD hQ
  have hA : ∀ q : Nat, s.heap.size ≤ q → A q := fun q h => by rw [← hAe]; exact Or.inr h
  have hS : va_S A s.heap s.heap [] := va_S.rf
  have hSn : va_S (fun q => s.heap.size ≤ q) s.heap s.heap [] := va_S.rf
  have hP : va_P (dC, dI) zc [(h0, .inr (5, [.ref ac, w0, b0, .int dd])), (ac, .inr (0, [.int 0, ed, .int 0]))] s.heap := hP
  have hl := lv_entry ([.ref h0, .int a1, .int a2]) (n := 3) (Nat.le_of_ble_eq_true rfl)
  rw [lg_entry_eq]
  generalize (lg_sl ([.ref h0, .int a1, .int a2]) ++ List.replicate (3 - (lg_sl ([.ref h0, .int a1, .int a2])).length) Slot.unset).toArray = ls at hl ⊢
  have hl : lv_has ls 3 [(0, .ref h0), (1, .int a1), (2, .int a2)] := hl
  refine lv_aload_n hx hb dX4_statement_0 rfl (lv_at hl 0 rfl) ?_
  refine lv_aload_n hx hb dX4_statement_1 rfl (lv_at hl 0 rfl) ?_
  refine lv_iload_n hx hb dX4_statement_2 rfl (lv_at hl 1 rfl) ?_
  refine vx_callq (vx_runV (As := [.int a1]) (rest := [.ref h0]) ⟨hx, hb, hml, hown, hts⟩ (c_accountAt l hst dC dI s.heap.size t h0 ac w0 b0 dd a1 ed) (cwV 1 hts (zg_V kw_668 kw_670 kw_30 kw_64 kw_671) rfl rfl rfl (by decide +kernel) ⟨Nat.le_of_ble_eq_true rfl, Nat.le_of_ble_eq_true rfl⟩) ⟨zA_blind, va_recv hK hP (ci := 5) (q0 := 0) rfl rfl, zA_pre hP hD hS hK hQ hA [0, 1] rfl rfl (by decide) [] rfl⟩ rfl rfl hl.1 rfl (lv_room (Nat.le_of_ble_eq_true rfl)) dX4_statement_3 ⟨zl_b rfl, zl_b rfl⟩) hSn (fun q _ h => h.elim) (fun q h => Nat.le_trans (Nat.le_refl _) h) (fun q _ h => Nat.le_trans (Nat.le_refl _) h) (fun E ce q9 u t9 H1 locs1 ht hvm hp9 hE hz1 hk1 hS1 hc1 hv1 hcl1 => ?_) (fun r u t9 H1 locs1 ht hvm hw hB hz1 hk1 hS1 => hw.elim)
  have hE : E = "java/lang/IndexOutOfBoundsException" := hE
  subst hE
  refine vx_widen (k := 1) (n := 6) (zl_b rfl) (zl_b rfl) ?_
  exact vx_out (fun x hx => (htab x hx).elim) hlocks hc1 hv1 hcl1 (fun t ht hW => ⟨(), trivial, rfl, zS_F hS1 ht⟩) hS1.2.2 (zl_b rfl) (zl_b rfl)
set_option maxHeartbeats 4000000 in
set_option maxRecDepth 100000 in
/-- told: no such account -/
theorem c_told (l : Launch) (hst : l.stackTraces = false) (dC : Nat → ClassId) (dI : Nat → Nat → Nat) (sz t : Nat) (h0 ac : Nat) (w0 b0 : Value) (dd : Int32) (ed : Value) (a1 a2 : Int32) : vx_Met l yX4_told ws_X4_told ({ frames := 7, cells := 1, slots := 6, locals := 120 }) (zA dC dI [(h0, .inr (5, [.ref ac, w0, b0, .int dd])), (ac, .inr (0, [.int 0, ed, .int 0]))] [] sz t [.ref h0, .int a1, .int a2]) (va_Ql (fun _ (_ : Unit) => False) (fun _ _ => True) (fun _ => False)) (vx_X (fun _ : Unit => True) (fun E _ _ => E = "java/lang/IndexOutOfBoundsException") (fun q => sz ≤ q)) 1 6 (fun q => sz ≤ q) := by
  refine vx_ofW (cc := cX4_told) (maxL := 3) (ret := (some .long)) (by decide) rfl ?_
  intro p e s m args below meth c s₁ B hml htab hv
  obtain ⟨rfl, hsz, hP, hK, hD0, hQ⟩ := hv
  have hx := B.exec
  have hb := B.bytes
  have hr := B.returns
  have hts : ∀ w ∈ zG, w.before _ s = true := fun w h => atoms_spec (ws := ws_X4_told) B.pre w (List.mem_cons_of_mem _ h)
  have hown : s.vm.findClass RX4 = some m.cls := findClass_of_methodNamed B.named
  have hlocks := B.notSynchronized
  subst hsz
  have hD := hD0.self (sz := s.heap.size)
  generalize hAe : va_A [(h0, .inr (5, [.ref ac, w0, b0, .int dd])), (ac, .inr (0, [.int 0, ed, .int 0]))] s.heap.size = A at hD hQ
  have hA : ∀ q : Nat, s.heap.size ≤ q → A q := fun q h => by rw [← hAe]; exact Or.inr h
  have hS : va_S A s.heap s.heap [] := va_S.rf
  have hSn : va_S (fun q => s.heap.size ≤ q) s.heap s.heap [] := va_S.rf
  have hP : va_P (dC, dI) zc [(h0, .inr (5, [.ref ac, w0, b0, .int dd])), (ac, .inr (0, [.int 0, ed, .int 0]))] s.heap := hP
  have hl := lv_entry ([.ref h0, .int a1, .int a2]) (n := 3) (Nat.le_of_ble_eq_true rfl)
  rw [lg_entry_eq]
  generalize (lg_sl ([.ref h0, .int a1, .int a2]) ++ List.replicate (3 - (lg_sl ([.ref h0, .int a1, .int a2])).length) Slot.unset).toArray = ls at hl ⊢
  have hl : lv_has ls 3 [(0, .ref h0), (1, .int a1), (2, .int a2)] := hl
  refine lv_aload_n hx hb dX4_told_0 rfl (lv_at hl 0 rfl) ?_
  refine lv_aload_n hx hb dX4_told_1 rfl (lv_at hl 0 rfl) ?_
  refine lv_iload_n hx hb dX4_told_2 rfl (lv_at hl 1 rfl) ?_
  refine vx_callq (vx_runV (As := [.int a1]) (rest := [.ref h0]) ⟨hx, hb, hml, hown, hts⟩ (c_accountAt l hst dC dI s.heap.size t h0 ac w0 b0 dd a1 ed) (cwV 1 hts (zg_V kw_668 kw_670 kw_30 kw_64 kw_671) rfl rfl rfl (by decide +kernel) ⟨Nat.le_of_ble_eq_true rfl, Nat.le_of_ble_eq_true rfl⟩) ⟨zA_blind, va_recv hK hP (ci := 5) (q0 := 0) rfl rfl, zA_pre hP hD hS hK hQ hA [0, 1] rfl rfl (by decide) [] rfl⟩ rfl rfl hl.1 rfl (lv_room (Nat.le_of_ble_eq_true rfl)) dX4_told_3 ⟨zl_b rfl, zl_b rfl⟩) hSn (fun q _ h => h.elim) (fun q h => Nat.le_trans (Nat.le_refl _) h) (fun q _ h => Nat.le_trans (Nat.le_refl _) h) (fun E ce q9 u t9 H1 locs1 ht hvm hp9 hE hz1 hk1 hS1 hc1 hv1 hcl1 => ?_) (fun r u t9 H1 locs1 ht hvm hw hB hz1 hk1 hS1 => hw.elim)
  have hE : E = "java/lang/IndexOutOfBoundsException" := hE
  subst hE
  refine vx_widen (k := 1) (n := 6) (zl_b rfl) (zl_b rfl) ?_
  exact vx_out (fun x hx => (htab x hx).elim) hlocks hc1 hv1 hcl1 (fun t ht hW => ⟨(), trivial, rfl, zS_F hS1 ht⟩) hS1.2.2 (zl_b rfl) (zl_b rfl)
set_option maxHeartbeats 4000000 in
set_option maxRecDepth 100000 in
/-- difference: no such account -/
theorem c_difference (l : Launch) (hst : l.stackTraces = false) (dC : Nat → ClassId) (dI : Nat → Nat → Nat) (sz t : Nat) (h0 ac : Nat) (w0 b0 : Value) (dd : Int32) (ed : Value) (a1 a2 : Int32) : vx_Met l yX4_difference ws_X4_difference ({ frames := 7, cells := 1, slots := 6, locals := 120 }) (zA dC dI [(h0, .inr (5, [.ref ac, w0, b0, .int dd])), (ac, .inr (0, [.int 0, ed, .int 0]))] [] sz t [.ref h0, .int a1, .int a2]) (va_Ql (fun _ (_ : Unit) => False) (fun _ _ => True) (fun _ => False)) (vx_X (fun _ : Unit => True) (fun E _ _ => E = "java/lang/IndexOutOfBoundsException") (fun q => sz ≤ q)) 1 6 (fun q => sz ≤ q) := by
  refine vx_ofW (cc := cX4_difference) (maxL := 6) (ret := (some .long)) (by decide) rfl ?_
  intro p e s m args below meth c s₁ B hml htab hv
  obtain ⟨rfl, hsz, hP, hK, hD0, hQ⟩ := hv
  have hx := B.exec
  have hb := B.bytes
  have hr := B.returns
  have hts : ∀ w ∈ zG, w.before _ s = true := fun w h => atoms_spec (ws := ws_X4_difference) B.pre w (List.mem_cons_of_mem _ h)
  have hown : s.vm.findClass RX4 = some m.cls := findClass_of_methodNamed B.named
  have hlocks := B.notSynchronized
  subst hsz
  have hD := hD0.self (sz := s.heap.size)
  generalize hAe : va_A [(h0, .inr (5, [.ref ac, w0, b0, .int dd])), (ac, .inr (0, [.int 0, ed, .int 0]))] s.heap.size = A at hD hQ
  have hA : ∀ q : Nat, s.heap.size ≤ q → A q := fun q h => by rw [← hAe]; exact Or.inr h
  have hS : va_S A s.heap s.heap [] := va_S.rf
  have hSn : va_S (fun q => s.heap.size ≤ q) s.heap s.heap [] := va_S.rf
  have hP : va_P (dC, dI) zc [(h0, .inr (5, [.ref ac, w0, b0, .int dd])), (ac, .inr (0, [.int 0, ed, .int 0]))] s.heap := hP
  have hl := lv_entry ([.ref h0, .int a1, .int a2]) (n := 6) (Nat.le_of_ble_eq_true rfl)
  rw [lg_entry_eq]
  generalize (lg_sl ([.ref h0, .int a1, .int a2]) ++ List.replicate (6 - (lg_sl ([.ref h0, .int a1, .int a2])).length) Slot.unset).toArray = ls at hl ⊢
  have hl : lv_has ls 6 [(0, .ref h0), (1, .int a1), (2, .int a2)] := hl
  refine lv_aload_n hx hb dX4_difference_0 rfl (lv_at hl 0 rfl) ?_
  refine lv_iload_n hx hb dX4_difference_1 rfl (lv_at hl 1 rfl) ?_
  refine vx_callq (vx_runV (As := [.int a1]) (rest := []) ⟨hx, hb, hml, hown, hts⟩ (c_accountAt l hst dC dI s.heap.size t h0 ac w0 b0 dd a1 ed) (cwV 1 hts (zg_V kw_668 kw_670 kw_30 kw_64 kw_671) rfl rfl rfl (by decide +kernel) ⟨Nat.le_of_ble_eq_true rfl, Nat.le_of_ble_eq_true rfl⟩) ⟨zA_blind, va_recv hK hP (ci := 5) (q0 := 0) rfl rfl, zA_pre hP hD hS hK hQ hA [0, 1] rfl rfl (by decide) [] rfl⟩ rfl rfl hl.1 rfl (lv_room (Nat.le_of_ble_eq_true rfl)) dX4_difference_2 ⟨zl_b rfl, zl_b rfl⟩) hSn (fun q _ h => h.elim) (fun q h => Nat.le_trans (Nat.le_refl _) h) (fun q _ h => Nat.le_trans (Nat.le_refl _) h) (fun E ce q9 u t9 H1 locs1 ht hvm hp9 hE hz1 hk1 hS1 hc1 hv1 hcl1 => ?_) (fun r u t9 H1 locs1 ht hvm hw hB hz1 hk1 hS1 => hw.elim)
  have hE : E = "java/lang/IndexOutOfBoundsException" := hE
  subst hE
  refine vx_widen (k := 1) (n := 6) (zl_b rfl) (zl_b rfl) ?_
  exact vx_out (fun x hx => (htab x hx).elim) hlocks hc1 hv1 hcl1 (fun t ht hW => ⟨(), trivial, rfl, zS_F hS1 ht⟩) hS1.2.2 (zl_b rfl) (zl_b rfl)
set_option maxHeartbeats 4000000 in
set_option maxRecDepth 100000 in
/-- least: no such account -/
theorem c_least (l : Launch) (hst : l.stackTraces = false) (dC : Nat → ClassId) (dI : Nat → Nat → Nat) (sz t : Nat) (h0 ac : Nat) (w0 b0 : Value) (dd : Int32) (ed : Value) (a1 a2 : Int32) : vx_Met l yX4_least ws_X4_least ({ frames := 7, cells := 1, slots := 6, locals := 120 }) (zA dC dI [(h0, .inr (5, [.ref ac, w0, b0, .int dd])), (ac, .inr (0, [.int 0, ed, .int 0]))] [] sz t [.ref h0, .int a1, .int a2]) (va_Ql (fun _ (_ : Unit) => False) (fun _ _ => True) (fun _ => False)) (vx_X (fun _ : Unit => True) (fun E _ _ => E = "java/lang/IndexOutOfBoundsException") (fun q => sz ≤ q)) 1 6 (fun q => sz ≤ q) := by
  refine vx_ofW (cc := cX4_least) (maxL := 3) (ret := (some .long)) (by decide) rfl ?_
  intro p e s m args below meth c s₁ B hml htab hv
  obtain ⟨rfl, hsz, hP, hK, hD0, hQ⟩ := hv
  have hx := B.exec
  have hb := B.bytes
  have hr := B.returns
  have hts : ∀ w ∈ zG, w.before _ s = true := fun w h => atoms_spec (ws := ws_X4_least) B.pre w (List.mem_cons_of_mem _ h)
  have hown : s.vm.findClass RX4 = some m.cls := findClass_of_methodNamed B.named
  have hlocks := B.notSynchronized
  subst hsz
  have hD := hD0.self (sz := s.heap.size)
  generalize hAe : va_A [(h0, .inr (5, [.ref ac, w0, b0, .int dd])), (ac, .inr (0, [.int 0, ed, .int 0]))] s.heap.size = A at hD hQ
  have hA : ∀ q : Nat, s.heap.size ≤ q → A q := fun q h => by rw [← hAe]; exact Or.inr h
  have hS : va_S A s.heap s.heap [] := va_S.rf
  have hSn : va_S (fun q => s.heap.size ≤ q) s.heap s.heap [] := va_S.rf
  have hP : va_P (dC, dI) zc [(h0, .inr (5, [.ref ac, w0, b0, .int dd])), (ac, .inr (0, [.int 0, ed, .int 0]))] s.heap := hP
  have hl := lv_entry ([.ref h0, .int a1, .int a2]) (n := 3) (Nat.le_of_ble_eq_true rfl)
  rw [lg_entry_eq]
  generalize (lg_sl ([.ref h0, .int a1, .int a2]) ++ List.replicate (3 - (lg_sl ([.ref h0, .int a1, .int a2])).length) Slot.unset).toArray = ls at hl ⊢
  have hl : lv_has ls 3 [(0, .ref h0), (1, .int a1), (2, .int a2)] := hl
  refine lv_aload_n hx hb dX4_least_0 rfl (lv_at hl 0 rfl) ?_
  refine lv_aload_n hx hb dX4_least_1 rfl (lv_at hl 0 rfl) ?_
  refine lv_iload_n hx hb dX4_least_2 rfl (lv_at hl 1 rfl) ?_
  refine vx_callq (vx_runV (As := [.int a1]) (rest := [.ref h0]) ⟨hx, hb, hml, hown, hts⟩ (c_accountAt l hst dC dI s.heap.size t h0 ac w0 b0 dd a1 ed) (cwV 1 hts (zg_V kw_668 kw_670 kw_30 kw_64 kw_671) rfl rfl rfl (by decide +kernel) ⟨Nat.le_of_ble_eq_true rfl, Nat.le_of_ble_eq_true rfl⟩) ⟨zA_blind, va_recv hK hP (ci := 5) (q0 := 0) rfl rfl, zA_pre hP hD hS hK hQ hA [0, 1] rfl rfl (by decide) [] rfl⟩ rfl rfl hl.1 rfl (lv_room (Nat.le_of_ble_eq_true rfl)) dX4_least_3 ⟨zl_b rfl, zl_b rfl⟩) hSn (fun q _ h => h.elim) (fun q h => Nat.le_trans (Nat.le_refl _) h) (fun q _ h => Nat.le_trans (Nat.le_refl _) h) (fun E ce q9 u t9 H1 locs1 ht hvm hp9 hE hz1 hk1 hS1 hc1 hv1 hcl1 => ?_) (fun r u t9 H1 locs1 ht hvm hw hB hz1 hk1 hS1 => hw.elim)
  have hE : E = "java/lang/IndexOutOfBoundsException" := hE
  subst hE
  refine vx_widen (k := 1) (n := 6) (zl_b rfl) (zl_b rfl) ?_
  exact vx_out (fun x hx => (htab x hx).elim) hlocks hc1 hv1 hcl1 (fun t ht hW => ⟨(), trivial, rfl, zS_F hS1 ht⟩) hS1.2.2 (zl_b rfl) (zl_b rfl)
set_option maxHeartbeats 4000000 in
set_option maxRecDepth 100000 in
/-- interest: no such account -/
theorem c_interest (l : Launch) (hst : l.stackTraces = false) (dC : Nat → ClassId) (dI : Nat → Nat → Nat) (sz t : Nat) (h0 ac : Nat) (w0 b0 : Value) (dd : Int32) (ed : Value) (a1 a2 : Int32) : vx_Met l yX4_interest ws_X4_interest ({ frames := 7, cells := 1, slots := 6, locals := 120 }) (zA dC dI [(h0, .inr (5, [.ref ac, w0, b0, .int dd])), (ac, .inr (0, [.int 0, ed, .int 0]))] [] sz t [.ref h0, .int a1, .int a2]) (va_Ql (fun _ (_ : Unit) => False) (fun _ _ => True) (fun _ => False)) (vx_X (fun _ : Unit => True) (fun E _ _ => E = "java/lang/IndexOutOfBoundsException") (fun q => sz ≤ q)) 1 6 (fun q => sz ≤ q) := by
  refine vx_ofW (cc := cX4_interest) (maxL := 3) (ret := (some .long)) (by decide) rfl ?_
  intro p e s m args below meth c s₁ B hml htab hv
  obtain ⟨rfl, hsz, hP, hK, hD0, hQ⟩ := hv
  have hx := B.exec
  have hb := B.bytes
  have hr := B.returns
  have hts : ∀ w ∈ zG, w.before _ s = true := fun w h => atoms_spec (ws := ws_X4_interest) B.pre w (List.mem_cons_of_mem _ h)
  have hown : s.vm.findClass RX4 = some m.cls := findClass_of_methodNamed B.named
  have hlocks := B.notSynchronized
  subst hsz
  have hD := hD0.self (sz := s.heap.size)
  generalize hAe : va_A [(h0, .inr (5, [.ref ac, w0, b0, .int dd])), (ac, .inr (0, [.int 0, ed, .int 0]))] s.heap.size = A at hD hQ
  have hA : ∀ q : Nat, s.heap.size ≤ q → A q := fun q h => by rw [← hAe]; exact Or.inr h
  have hS : va_S A s.heap s.heap [] := va_S.rf
  have hSn : va_S (fun q => s.heap.size ≤ q) s.heap s.heap [] := va_S.rf
  have hP : va_P (dC, dI) zc [(h0, .inr (5, [.ref ac, w0, b0, .int dd])), (ac, .inr (0, [.int 0, ed, .int 0]))] s.heap := hP
  have hl := lv_entry ([.ref h0, .int a1, .int a2]) (n := 3) (Nat.le_of_ble_eq_true rfl)
  rw [lg_entry_eq]
  generalize (lg_sl ([.ref h0, .int a1, .int a2]) ++ List.replicate (3 - (lg_sl ([.ref h0, .int a1, .int a2])).length) Slot.unset).toArray = ls at hl ⊢
  have hl : lv_has ls 3 [(0, .ref h0), (1, .int a1), (2, .int a2)] := hl
  refine lv_aload_n hx hb dX4_interest_0 rfl (lv_at hl 0 rfl) ?_
  refine lv_aload_n hx hb dX4_interest_1 rfl (lv_at hl 0 rfl) ?_
  refine lv_iload_n hx hb dX4_interest_2 rfl (lv_at hl 1 rfl) ?_
  refine vx_callq (vx_runV (As := [.int a1]) (rest := [.ref h0]) ⟨hx, hb, hml, hown, hts⟩ (c_accountAt l hst dC dI s.heap.size t h0 ac w0 b0 dd a1 ed) (cwV 1 hts (zg_V kw_668 kw_670 kw_30 kw_64 kw_671) rfl rfl rfl (by decide +kernel) ⟨Nat.le_of_ble_eq_true rfl, Nat.le_of_ble_eq_true rfl⟩) ⟨zA_blind, va_recv hK hP (ci := 5) (q0 := 0) rfl rfl, zA_pre hP hD hS hK hQ hA [0, 1] rfl rfl (by decide) [] rfl⟩ rfl rfl hl.1 rfl (lv_room (Nat.le_of_ble_eq_true rfl)) dX4_interest_3 ⟨zl_b rfl, zl_b rfl⟩) hSn (fun q _ h => h.elim) (fun q h => Nat.le_trans (Nat.le_refl _) h) (fun q _ h => Nat.le_trans (Nat.le_refl _) h) (fun E ce q9 u t9 H1 locs1 ht hvm hp9 hE hz1 hk1 hS1 hc1 hv1 hcl1 => ?_) (fun r u t9 H1 locs1 ht hvm hw hB hz1 hk1 hS1 => hw.elim)
  have hE : E = "java/lang/IndexOutOfBoundsException" := hE
  subst hE
  refine vx_widen (k := 1) (n := 6) (zl_b rfl) (zl_b rfl) ?_
  exact vx_out (fun x hx => (htab x hx).elim) hlocks hc1 hv1 hcl1 (fun t ht hW => ⟨(), trivial, rfl, zS_F hS1 ht⟩) hS1.2.2 (zl_b rfl) (zl_b rfl)
set_option maxHeartbeats 4000000 in
set_option maxRecDepth 100000 in
/-- hadGrace: no such account -/
theorem c_hadGrace (l : Launch) (hst : l.stackTraces = false) (dC : Nat → ClassId) (dI : Nat → Nat → Nat) (sz t : Nat) (h0 ac : Nat) (w0 b0 : Value) (dd : Int32) (ed : Value) (a1 a2 : Int32) : vx_Met l yX4_hadGrace ws_X4_hadGrace ({ frames := 7, cells := 1, slots := 6, locals := 120 }) (zA dC dI [(h0, .inr (5, [.ref ac, w0, b0, .int dd])), (ac, .inr (0, [.int 0, ed, .int 0]))] [] sz t [.ref h0, .int a1, .int a2]) (va_Qi (fun _ (_ : Unit) => False) (fun _ _ => True) (fun _ => False)) (vx_X (fun _ : Unit => True) (fun E _ _ => E = "java/lang/IndexOutOfBoundsException") (fun q => sz ≤ q)) 1 6 (fun q => sz ≤ q) := by
  refine vx_ofW (cc := cX4_hadGrace) (maxL := 3) (ret := (some .boolean)) (by decide) rfl ?_
  intro p e s m args below meth c s₁ B hml htab hv
  obtain ⟨rfl, hsz, hP, hK, hD0, hQ⟩ := hv
  have hx := B.exec
  have hb := B.bytes
  have hr := B.returns
  have hts : ∀ w ∈ zG, w.before _ s = true := fun w h => atoms_spec (ws := ws_X4_hadGrace) B.pre w (List.mem_cons_of_mem _ h)
  have hown : s.vm.findClass RX4 = some m.cls := findClass_of_methodNamed B.named
  have hlocks := B.notSynchronized
  subst hsz
  have hD := hD0.self (sz := s.heap.size)
  generalize hAe : va_A [(h0, .inr (5, [.ref ac, w0, b0, .int dd])), (ac, .inr (0, [.int 0, ed, .int 0]))] s.heap.size = A at hD hQ
  have hA : ∀ q : Nat, s.heap.size ≤ q → A q := fun q h => by rw [← hAe]; exact Or.inr h
  have hS : va_S A s.heap s.heap [] := va_S.rf
  have hSn : va_S (fun q => s.heap.size ≤ q) s.heap s.heap [] := va_S.rf
  have hP : va_P (dC, dI) zc [(h0, .inr (5, [.ref ac, w0, b0, .int dd])), (ac, .inr (0, [.int 0, ed, .int 0]))] s.heap := hP
  have hl := lv_entry ([.ref h0, .int a1, .int a2]) (n := 3) (Nat.le_of_ble_eq_true rfl)
  rw [lg_entry_eq]
  generalize (lg_sl ([.ref h0, .int a1, .int a2]) ++ List.replicate (3 - (lg_sl ([.ref h0, .int a1, .int a2])).length) Slot.unset).toArray = ls at hl ⊢
  have hl : lv_has ls 3 [(0, .ref h0), (1, .int a1), (2, .int a2)] := hl
  refine lv_aload_n hx hb dX4_hadGrace_0 rfl (lv_at hl 0 rfl) ?_
  refine lv_aload_n hx hb dX4_hadGrace_1 rfl (lv_at hl 0 rfl) ?_
  refine lv_iload_n hx hb dX4_hadGrace_2 rfl (lv_at hl 1 rfl) ?_
  refine vx_callq (vx_runV (As := [.int a1]) (rest := [.ref h0]) ⟨hx, hb, hml, hown, hts⟩ (c_accountAt l hst dC dI s.heap.size t h0 ac w0 b0 dd a1 ed) (cwV 1 hts (zg_V kw_668 kw_670 kw_30 kw_64 kw_671) rfl rfl rfl (by decide +kernel) ⟨Nat.le_of_ble_eq_true rfl, Nat.le_of_ble_eq_true rfl⟩) ⟨zA_blind, va_recv hK hP (ci := 5) (q0 := 0) rfl rfl, zA_pre hP hD hS hK hQ hA [0, 1] rfl rfl (by decide) [] rfl⟩ rfl rfl hl.1 rfl (lv_room (Nat.le_of_ble_eq_true rfl)) dX4_hadGrace_3 ⟨zl_b rfl, zl_b rfl⟩) hSn (fun q _ h => h.elim) (fun q h => Nat.le_trans (Nat.le_refl _) h) (fun q _ h => Nat.le_trans (Nat.le_refl _) h) (fun E ce q9 u t9 H1 locs1 ht hvm hp9 hE hz1 hk1 hS1 hc1 hv1 hcl1 => ?_) (fun r u t9 H1 locs1 ht hvm hw hB hz1 hk1 hS1 => hw.elim)
  have hE : E = "java/lang/IndexOutOfBoundsException" := hE
  subst hE
  refine vx_widen (k := 1) (n := 6) (zl_b rfl) (zl_b rfl) ?_
  exact vx_out (fun x hx => (htab x hx).elim) hlocks hc1 hv1 hcl1 (fun t ht hW => ⟨(), trivial, rfl, zS_F hS1 ht⟩) hS1.2.2 (zl_b rfl) (zl_b rfl)
set_option maxHeartbeats 4000000 in
set_option maxRecDepth 100000 in
/-- paid: no such account -/
theorem c_paid (l : Launch) (hst : l.stackTraces = false) (dC : Nat → ClassId) (dI : Nat → Nat → Nat) (sz t : Nat) (h0 ac : Nat) (w0 b0 : Value) (dd : Int32) (ed : Value) (a1 a2 : Int32) : vx_Met l yX4_paid ws_X4_paid ({ frames := 7, cells := 1, slots := 6, locals := 120 }) (zA dC dI [(h0, .inr (5, [.ref ac, w0, b0, .int dd])), (ac, .inr (0, [.int 0, ed, .int 0]))] [] sz t [.ref h0, .int a1, .int a2]) (va_Qi (fun _ (_ : Unit) => False) (fun _ _ => True) (fun _ => False)) (vx_X (fun _ : Unit => True) (fun E _ _ => E = "java/lang/IndexOutOfBoundsException") (fun q => sz ≤ q)) 1 6 (fun q => sz ≤ q) := by
  refine vx_ofW (cc := cX4_paid) (maxL := 3) (ret := (some .char)) (by decide) rfl ?_
  intro p e s m args below meth c s₁ B hml htab hv
  obtain ⟨rfl, hsz, hP, hK, hD0, hQ⟩ := hv
  have hx := B.exec
  have hb := B.bytes
  have hr := B.returns
  have hts : ∀ w ∈ zG, w.before _ s = true := fun w h => atoms_spec (ws := ws_X4_paid) B.pre w (List.mem_cons_of_mem _ h)
  have hown : s.vm.findClass RX4 = some m.cls := findClass_of_methodNamed B.named
  have hlocks := B.notSynchronized
  subst hsz
  have hD := hD0.self (sz := s.heap.size)
  generalize hAe : va_A [(h0, .inr (5, [.ref ac, w0, b0, .int dd])), (ac, .inr (0, [.int 0, ed, .int 0]))] s.heap.size = A at hD hQ
  have hA : ∀ q : Nat, s.heap.size ≤ q → A q := fun q h => by rw [← hAe]; exact Or.inr h
  have hS : va_S A s.heap s.heap [] := va_S.rf
  have hSn : va_S (fun q => s.heap.size ≤ q) s.heap s.heap [] := va_S.rf
  have hP : va_P (dC, dI) zc [(h0, .inr (5, [.ref ac, w0, b0, .int dd])), (ac, .inr (0, [.int 0, ed, .int 0]))] s.heap := hP
  have hl := lv_entry ([.ref h0, .int a1, .int a2]) (n := 3) (Nat.le_of_ble_eq_true rfl)
  rw [lg_entry_eq]
  generalize (lg_sl ([.ref h0, .int a1, .int a2]) ++ List.replicate (3 - (lg_sl ([.ref h0, .int a1, .int a2])).length) Slot.unset).toArray = ls at hl ⊢
  have hl : lv_has ls 3 [(0, .ref h0), (1, .int a1), (2, .int a2)] := hl
  refine lv_aload_n hx hb dX4_paid_0 rfl (lv_at hl 0 rfl) ?_
  refine lv_aload_n hx hb dX4_paid_1 rfl (lv_at hl 0 rfl) ?_
  refine lv_iload_n hx hb dX4_paid_2 rfl (lv_at hl 1 rfl) ?_
  refine vx_callq (vx_runV (As := [.int a1]) (rest := [.ref h0]) ⟨hx, hb, hml, hown, hts⟩ (c_accountAt l hst dC dI s.heap.size t h0 ac w0 b0 dd a1 ed) (cwV 1 hts (zg_V kw_668 kw_670 kw_30 kw_64 kw_671) rfl rfl rfl (by decide +kernel) ⟨Nat.le_of_ble_eq_true rfl, Nat.le_of_ble_eq_true rfl⟩) ⟨zA_blind, va_recv hK hP (ci := 5) (q0 := 0) rfl rfl, zA_pre hP hD hS hK hQ hA [0, 1] rfl rfl (by decide) [] rfl⟩ rfl rfl hl.1 rfl (lv_room (Nat.le_of_ble_eq_true rfl)) dX4_paid_3 ⟨zl_b rfl, zl_b rfl⟩) hSn (fun q _ h => h.elim) (fun q h => Nat.le_trans (Nat.le_refl _) h) (fun q _ h => Nat.le_trans (Nat.le_refl _) h) (fun E ce q9 u t9 H1 locs1 ht hvm hp9 hE hz1 hk1 hS1 hc1 hv1 hcl1 => ?_) (fun r u t9 H1 locs1 ht hvm hw hB hz1 hk1 hS1 => hw.elim)
  have hE : E = "java/lang/IndexOutOfBoundsException" := hE
  subst hE
  refine vx_widen (k := 1) (n := 6) (zl_b rfl) (zl_b rfl) ?_
  exact vx_out (fun x hx => (htab x hx).elim) hlocks hc1 hv1 hcl1 (fun t ht hW => ⟨(), trivial, rfl, zS_F hS1 ht⟩) hS1.2.2 (zl_b rfl) (zl_b rfl)
set_option maxHeartbeats 4000000 in
set_option maxRecDepth 100000 in
/-- missing: no such account -/
theorem c_missing (l : Launch) (hst : l.stackTraces = false) (dC : Nat → ClassId) (dI : Nat → Nat → Nat) (sz t : Nat) (h0 ac : Nat) (w0 b0 : Value) (dd : Int32) (ed : Value) (a1 : Int32) : vx_Met l yX4_missing ws_X4_missing ({ frames := 7, cells := 1, slots := 6, locals := 120 }) (zA dC dI [(h0, .inr (5, [.ref ac, w0, b0, .int dd])), (ac, .inr (0, [.int 0, ed, .int 0]))] [] sz t [.ref h0, .int a1]) (va_Ql (fun _ (_ : Unit) => False) (fun _ _ => True) (fun _ => False)) (vx_X (fun _ : Unit => True) (fun E _ _ => E = "java/lang/IndexOutOfBoundsException") (fun q => sz ≤ q)) 1 6 (fun q => sz ≤ q) := by
  refine vx_ofW (cc := cX4_missing) (maxL := 2) (ret := (some .long)) (by decide) rfl ?_
  intro p e s m args below meth c s₁ B hml htab hv
  obtain ⟨rfl, hsz, hP, hK, hD0, hQ⟩ := hv
  have hx := B.exec
  have hb := B.bytes
  have hr := B.returns
  have hts : ∀ w ∈ zG, w.before _ s = true := fun w h => atoms_spec (ws := ws_X4_missing) B.pre w (List.mem_cons_of_mem _ h)
  have hown : s.vm.findClass RX4 = some m.cls := findClass_of_methodNamed B.named
  have hlocks := B.notSynchronized
  subst hsz
  have hD := hD0.self (sz := s.heap.size)
  generalize hAe : va_A [(h0, .inr (5, [.ref ac, w0, b0, .int dd])), (ac, .inr (0, [.int 0, ed, .int 0]))] s.heap.size = A at hD hQ
  have hA : ∀ q : Nat, s.heap.size ≤ q → A q := fun q h => by rw [← hAe]; exact Or.inr h
  have hS : va_S A s.heap s.heap [] := va_S.rf
  have hSn : va_S (fun q => s.heap.size ≤ q) s.heap s.heap [] := va_S.rf
  have hP : va_P (dC, dI) zc [(h0, .inr (5, [.ref ac, w0, b0, .int dd])), (ac, .inr (0, [.int 0, ed, .int 0]))] s.heap := hP
  have hl := lv_entry ([.ref h0, .int a1]) (n := 2) (Nat.le_of_ble_eq_true rfl)
  rw [lg_entry_eq]
  generalize (lg_sl ([.ref h0, .int a1]) ++ List.replicate (2 - (lg_sl ([.ref h0, .int a1])).length) Slot.unset).toArray = ls at hl ⊢
  have hl : lv_has ls 2 [(0, .ref h0), (1, .int a1)] := hl
  refine lv_aload_n hx hb dX4_missing_0 rfl (lv_at hl 0 rfl) ?_
  refine lv_aload_n hx hb dX4_missing_1 rfl (lv_at hl 0 rfl) ?_
  refine lv_iload_n hx hb dX4_missing_2 rfl (lv_at hl 1 rfl) ?_
  refine vx_callq (vx_runV (As := [.int a1]) (rest := [.ref h0]) ⟨hx, hb, hml, hown, hts⟩ (c_accountAt l hst dC dI s.heap.size t h0 ac w0 b0 dd a1 ed) (cwV 1 hts (zg_V kw_668 kw_670 kw_30 kw_64 kw_671) rfl rfl rfl (by decide +kernel) ⟨Nat.le_of_ble_eq_true rfl, Nat.le_of_ble_eq_true rfl⟩) ⟨zA_blind, va_recv hK hP (ci := 5) (q0 := 0) rfl rfl, zA_pre hP hD hS hK hQ hA [0, 1] rfl rfl (by decide) [] rfl⟩ rfl rfl hl.1 rfl (lv_room (Nat.le_of_ble_eq_true rfl)) dX4_missing_3 ⟨zl_b rfl, zl_b rfl⟩) hSn (fun q _ h => h.elim) (fun q h => Nat.le_trans (Nat.le_refl _) h) (fun q _ h => Nat.le_trans (Nat.le_refl _) h) (fun E ce q9 u t9 H1 locs1 ht hvm hp9 hE hz1 hk1 hS1 hc1 hv1 hcl1 => ?_) (fun r u t9 H1 locs1 ht hvm hw hB hz1 hk1 hS1 => hw.elim)
  have hE : E = "java/lang/IndexOutOfBoundsException" := hE
  subst hE
  refine vx_widen (k := 1) (n := 6) (zl_b rfl) (zl_b rfl) ?_
  exact vx_out (fun x hx => (htab x hx).elim) hlocks hc1 hv1 hcl1 (fun t ht hW => ⟨(), trivial, rfl, zS_F hS1 ht⟩) hS1.2.2 (zl_b rfl) (zl_b rfl)
set_option maxHeartbeats 4000000 in
set_option maxRecDepth 100000 in
/-- missed: no such account -/
theorem c_missed (l : Launch) (hst : l.stackTraces = false) (dC : Nat → ClassId) (dI : Nat → Nat → Nat) (sz t : Nat) (h0 ac : Nat) (w0 b0 : Value) (dd : Int32) (ed : Value) (a1 : Int32) : vx_Met l yX4_missed ws_X4_missed ({ frames := 7, cells := 1, slots := 6, locals := 120 }) (zA dC dI [(h0, .inr (5, [.ref ac, w0, b0, .int dd])), (ac, .inr (0, [.int 0, ed, .int 0]))] [] sz t [.ref h0, .int a1]) (va_Qi (fun _ (_ : Unit) => False) (fun _ _ => True) (fun _ => False)) (vx_X (fun _ : Unit => True) (fun E _ _ => E = "java/lang/IndexOutOfBoundsException") (fun q => sz ≤ q)) 1 6 (fun q => sz ≤ q) := by
  refine vx_ofW (cc := cX4_missed) (maxL := 2) (ret := (some .int)) (by decide) rfl ?_
  intro p e s m args below meth c s₁ B hml htab hv
  obtain ⟨rfl, hsz, hP, hK, hD0, hQ⟩ := hv
  have hx := B.exec
  have hb := B.bytes
  have hr := B.returns
  have hts : ∀ w ∈ zG, w.before _ s = true := fun w h => atoms_spec (ws := ws_X4_missed) B.pre w (List.mem_cons_of_mem _ h)
  have hown : s.vm.findClass RX4 = some m.cls := findClass_of_methodNamed B.named
  have hlocks := B.notSynchronized
  subst hsz
  have hD := hD0.self (sz := s.heap.size)
  generalize hAe : va_A [(h0, .inr (5, [.ref ac, w0, b0, .int dd])), (ac, .inr (0, [.int 0, ed, .int 0]))] s.heap.size = A at hD hQ
  have hA : ∀ q : Nat, s.heap.size ≤ q → A q := fun q h => by rw [← hAe]; exact Or.inr h
  have hS : va_S A s.heap s.heap [] := va_S.rf
  have hSn : va_S (fun q => s.heap.size ≤ q) s.heap s.heap [] := va_S.rf
  have hP : va_P (dC, dI) zc [(h0, .inr (5, [.ref ac, w0, b0, .int dd])), (ac, .inr (0, [.int 0, ed, .int 0]))] s.heap := hP
  have hl := lv_entry ([.ref h0, .int a1]) (n := 2) (Nat.le_of_ble_eq_true rfl)
  rw [lg_entry_eq]
  generalize (lg_sl ([.ref h0, .int a1]) ++ List.replicate (2 - (lg_sl ([.ref h0, .int a1])).length) Slot.unset).toArray = ls at hl ⊢
  have hl : lv_has ls 2 [(0, .ref h0), (1, .int a1)] := hl
  refine lv_aload_n hx hb dX4_missed_0 rfl (lv_at hl 0 rfl) ?_
  refine lv_aload_n hx hb dX4_missed_1 rfl (lv_at hl 0 rfl) ?_
  refine lv_iload_n hx hb dX4_missed_2 rfl (lv_at hl 1 rfl) ?_
  refine vx_callq (vx_runV (As := [.int a1]) (rest := [.ref h0]) ⟨hx, hb, hml, hown, hts⟩ (c_accountAt l hst dC dI s.heap.size t h0 ac w0 b0 dd a1 ed) (cwV 1 hts (zg_V kw_668 kw_670 kw_30 kw_64 kw_671) rfl rfl rfl (by decide +kernel) ⟨Nat.le_of_ble_eq_true rfl, Nat.le_of_ble_eq_true rfl⟩) ⟨zA_blind, va_recv hK hP (ci := 5) (q0 := 0) rfl rfl, zA_pre hP hD hS hK hQ hA [0, 1] rfl rfl (by decide) [] rfl⟩ rfl rfl hl.1 rfl (lv_room (Nat.le_of_ble_eq_true rfl)) dX4_missed_3 ⟨zl_b rfl, zl_b rfl⟩) hSn (fun q _ h => h.elim) (fun q h => Nat.le_trans (Nat.le_refl _) h) (fun q _ h => Nat.le_trans (Nat.le_refl _) h) (fun E ce q9 u t9 H1 locs1 ht hvm hp9 hE hz1 hk1 hS1 hc1 hv1 hcl1 => ?_) (fun r u t9 H1 locs1 ht hvm hw hB hz1 hk1 hS1 => hw.elim)
  have hE : E = "java/lang/IndexOutOfBoundsException" := hE
  subst hE
  refine vx_widen (k := 1) (n := 6) (zl_b rfl) (zl_b rfl) ?_
  exact vx_out (fun x hx => (htab x hx).elim) hlocks hc1 hv1 hcl1 (fun t ht hW => ⟨(), trivial, rfl, zS_F hS1 ht⟩) hS1.2.2 (zl_b rfl) (zl_b rfl)
set_option maxHeartbeats 4000000 in
set_option maxRecDepth 100000 in
/-- isOff: no such account -/
theorem c_isOff (l : Launch) (hst : l.stackTraces = false) (dC : Nat → ClassId) (dI : Nat → Nat → Nat) (sz t : Nat) (h0 ac : Nat) (w0 b0 : Value) (dd : Int32) (ed : Value) (a1 : Int32) : vx_Met l yX4_isOff ws_X4_isOff ({ frames := 7, cells := 1, slots := 6, locals := 120 }) (zA dC dI [(h0, .inr (5, [.ref ac, w0, b0, .int dd])), (ac, .inr (0, [.int 0, ed, .int 0]))] [] sz t [.ref h0, .int a1]) (va_Qi (fun _ (_ : Unit) => False) (fun _ _ => True) (fun _ => False)) (vx_X (fun _ : Unit => True) (fun E _ _ => E = "java/lang/IndexOutOfBoundsException") (fun q => sz ≤ q)) 1 6 (fun q => sz ≤ q) := by
  refine vx_ofW (cc := cX4_isOff) (maxL := 2) (ret := (some .boolean)) (by decide) rfl ?_
  intro p e s m args below meth c s₁ B hml htab hv
  obtain ⟨rfl, hsz, hP, hK, hD0, hQ⟩ := hv
  have hx := B.exec
  have hb := B.bytes
  have hr := B.returns
  have hts : ∀ w ∈ zG, w.before _ s = true := fun w h => atoms_spec (ws := ws_X4_isOff) B.pre w (List.mem_cons_of_mem _ h)
  have hown : s.vm.findClass RX4 = some m.cls := findClass_of_methodNamed B.named
  have hlocks := B.notSynchronized
  subst hsz
  have hD := hD0.self (sz := s.heap.size)
  generalize hAe : va_A [(h0, .inr (5, [.ref ac, w0, b0, .int dd])), (ac, .inr (0, [.int 0, ed, .int 0]))] s.heap.size = A at hD hQ
  have hA : ∀ q : Nat, s.heap.size ≤ q → A q := fun q h => by rw [← hAe]; exact Or.inr h
  have hS : va_S A s.heap s.heap [] := va_S.rf
  have hSn : va_S (fun q => s.heap.size ≤ q) s.heap s.heap [] := va_S.rf
  have hP : va_P (dC, dI) zc [(h0, .inr (5, [.ref ac, w0, b0, .int dd])), (ac, .inr (0, [.int 0, ed, .int 0]))] s.heap := hP
  have hl := lv_entry ([.ref h0, .int a1]) (n := 2) (Nat.le_of_ble_eq_true rfl)
  rw [lg_entry_eq]
  generalize (lg_sl ([.ref h0, .int a1]) ++ List.replicate (2 - (lg_sl ([.ref h0, .int a1])).length) Slot.unset).toArray = ls at hl ⊢
  have hl : lv_has ls 2 [(0, .ref h0), (1, .int a1)] := hl
  refine lv_aload_n hx hb dX4_isOff_0 rfl (lv_at hl 0 rfl) ?_
  refine lv_aload_n hx hb dX4_isOff_1 rfl (lv_at hl 0 rfl) ?_
  refine lv_iload_n hx hb dX4_isOff_2 rfl (lv_at hl 1 rfl) ?_
  refine vx_callq (vx_runV (As := [.int a1]) (rest := [.ref h0]) ⟨hx, hb, hml, hown, hts⟩ (c_accountAt l hst dC dI s.heap.size t h0 ac w0 b0 dd a1 ed) (cwV 1 hts (zg_V kw_668 kw_670 kw_30 kw_64 kw_671) rfl rfl rfl (by decide +kernel) ⟨Nat.le_of_ble_eq_true rfl, Nat.le_of_ble_eq_true rfl⟩) ⟨zA_blind, va_recv hK hP (ci := 5) (q0 := 0) rfl rfl, zA_pre hP hD hS hK hQ hA [0, 1] rfl rfl (by decide) [] rfl⟩ rfl rfl hl.1 rfl (lv_room (Nat.le_of_ble_eq_true rfl)) dX4_isOff_3 ⟨zl_b rfl, zl_b rfl⟩) hSn (fun q _ h => h.elim) (fun q h => Nat.le_trans (Nat.le_refl _) h) (fun q _ h => Nat.le_trans (Nat.le_refl _) h) (fun E ce q9 u t9 H1 locs1 ht hvm hp9 hE hz1 hk1 hS1 hc1 hv1 hcl1 => ?_) (fun r u t9 H1 locs1 ht hvm hw hB hz1 hk1 hS1 => hw.elim)
  have hE : E = "java/lang/IndexOutOfBoundsException" := hE
  subst hE
  refine vx_widen (k := 1) (n := 6) (zl_b rfl) (zl_b rfl) ?_
  exact vx_out (fun x hx => (htab x hx).elim) hlocks hc1 hv1 hcl1 (fun t ht hW => ⟨(), trivial, rfl, zS_F hS1 ht⟩) hS1.2.2 (zl_b rfl) (zl_b rfl)
set_option maxHeartbeats 4000000 in
set_option maxRecDepth 100000 in
/-- points: no such account -/
theorem c_points (l : Launch) (hst : l.stackTraces = false) (dC : Nat → ClassId) (dI : Nat → Nat → Nat) (sz t : Nat) (h0 ac : Nat) (w0 b0 : Value) (dd : Int32) (ed : Value) (a1 : Int32) : vx_Met l yX4_points ws_X4_points ({ frames := 7, cells := 1, slots := 6, locals := 120 }) (zA dC dI [(h0, .inr (5, [.ref ac, w0, b0, .int dd])), (ac, .inr (0, [.int 0, ed, .int 0]))] [] sz t [.ref h0, .int a1]) (va_Ql (fun _ (_ : Unit) => False) (fun _ _ => True) (fun _ => False)) (vx_X (fun _ : Unit => True) (fun E _ _ => E = "java/lang/IndexOutOfBoundsException") (fun q => sz ≤ q)) 1 6 (fun q => sz ≤ q) := by
  refine vx_ofW (cc := cX4_points) (maxL := 2) (ret := (some .long)) (by decide) rfl ?_
  intro p e s m args below meth c s₁ B hml htab hv
  obtain ⟨rfl, hsz, hP, hK, hD0, hQ⟩ := hv
  have hx := B.exec
  have hb := B.bytes
  have hr := B.returns
  have hts : ∀ w ∈ zG, w.before _ s = true := fun w h => atoms_spec (ws := ws_X4_points) B.pre w (List.mem_cons_of_mem _ h)
  have hown : s.vm.findClass RX4 = some m.cls := findClass_of_methodNamed B.named
  have hlocks := B.notSynchronized
  subst hsz
  have hD := hD0.self (sz := s.heap.size)
  generalize hAe : va_A [(h0, .inr (5, [.ref ac, w0, b0, .int dd])), (ac, .inr (0, [.int 0, ed, .int 0]))] s.heap.size = A at hD hQ
  have hA : ∀ q : Nat, s.heap.size ≤ q → A q := fun q h => by rw [← hAe]; exact Or.inr h
  have hS : va_S A s.heap s.heap [] := va_S.rf
  have hSn : va_S (fun q => s.heap.size ≤ q) s.heap s.heap [] := va_S.rf
  have hP : va_P (dC, dI) zc [(h0, .inr (5, [.ref ac, w0, b0, .int dd])), (ac, .inr (0, [.int 0, ed, .int 0]))] s.heap := hP
  have hl := lv_entry ([.ref h0, .int a1]) (n := 2) (Nat.le_of_ble_eq_true rfl)
  rw [lg_entry_eq]
  generalize (lg_sl ([.ref h0, .int a1]) ++ List.replicate (2 - (lg_sl ([.ref h0, .int a1])).length) Slot.unset).toArray = ls at hl ⊢
  have hl : lv_has ls 2 [(0, .ref h0), (1, .int a1)] := hl
  refine lv_aload_n hx hb dX4_points_0 rfl (lv_at hl 0 rfl) ?_
  refine lv_iload_n hx hb dX4_points_1 rfl (lv_at hl 1 rfl) ?_
  refine vx_callq (vx_runV (As := [.int a1]) (rest := []) ⟨hx, hb, hml, hown, hts⟩ (c_accountAt l hst dC dI s.heap.size t h0 ac w0 b0 dd a1 ed) (cwV 1 hts (zg_V kw_668 kw_670 kw_30 kw_64 kw_671) rfl rfl rfl (by decide +kernel) ⟨Nat.le_of_ble_eq_true rfl, Nat.le_of_ble_eq_true rfl⟩) ⟨zA_blind, va_recv hK hP (ci := 5) (q0 := 0) rfl rfl, zA_pre hP hD hS hK hQ hA [0, 1] rfl rfl (by decide) [] rfl⟩ rfl rfl hl.1 rfl (lv_room (Nat.le_of_ble_eq_true rfl)) dX4_points_2 ⟨zl_b rfl, zl_b rfl⟩) hSn (fun q _ h => h.elim) (fun q h => Nat.le_trans (Nat.le_refl _) h) (fun q _ h => Nat.le_trans (Nat.le_refl _) h) (fun E ce q9 u t9 H1 locs1 ht hvm hp9 hE hz1 hk1 hS1 hc1 hv1 hcl1 => ?_) (fun r u t9 H1 locs1 ht hvm hw hB hz1 hk1 hS1 => hw.elim)
  have hE : E = "java/lang/IndexOutOfBoundsException" := hE
  subst hE
  refine vx_widen (k := 1) (n := 6) (zl_b rfl) (zl_b rfl) ?_
  exact vx_out (fun x hx => (htab x hx).elim) hlocks hc1 hv1 hcl1 (fun t ht hW => ⟨(), trivial, rfl, zS_F hS1 ht⟩) hS1.2.2 (zl_b rfl) (zl_b rfl)
set_option maxHeartbeats 4000000 in
set_option maxRecDepth 100000 in
/-- events: no such account -/
theorem c_events (l : Launch) (hst : l.stackTraces = false) (dC : Nat → ClassId) (dI : Nat → Nat → Nat) (sz t : Nat) (h0 ac : Nat) (w0 b0 : Value) (dd : Int32) (ed : Value) (a1 : Int32) : vx_Met l yX4_events ws_X4_events ({ frames := 7, cells := 1, slots := 6, locals := 120 }) (zA dC dI [(h0, .inr (5, [.ref ac, w0, b0, .int dd])), (ac, .inr (0, [.int 0, ed, .int 0]))] [] sz t [.ref h0, .int a1]) (va_Qi (fun _ (_ : Unit) => False) (fun _ _ => True) (fun _ => False)) (vx_X (fun _ : Unit => True) (fun E _ _ => E = "java/lang/IndexOutOfBoundsException") (fun q => sz ≤ q)) 1 6 (fun q => sz ≤ q) := by
  refine vx_ofW (cc := cX4_events) (maxL := 2) (ret := (some .int)) (by decide) rfl ?_
  intro p e s m args below meth c s₁ B hml htab hv
  obtain ⟨rfl, hsz, hP, hK, hD0, hQ⟩ := hv
  have hx := B.exec
  have hb := B.bytes
  have hr := B.returns
  have hts : ∀ w ∈ zG, w.before _ s = true := fun w h => atoms_spec (ws := ws_X4_events) B.pre w (List.mem_cons_of_mem _ h)
  have hown : s.vm.findClass RX4 = some m.cls := findClass_of_methodNamed B.named
  have hlocks := B.notSynchronized
  subst hsz
  have hD := hD0.self (sz := s.heap.size)
  generalize hAe : va_A [(h0, .inr (5, [.ref ac, w0, b0, .int dd])), (ac, .inr (0, [.int 0, ed, .int 0]))] s.heap.size = A at hD hQ
  have hA : ∀ q : Nat, s.heap.size ≤ q → A q := fun q h => by rw [← hAe]; exact Or.inr h
  have hS : va_S A s.heap s.heap [] := va_S.rf
  have hSn : va_S (fun q => s.heap.size ≤ q) s.heap s.heap [] := va_S.rf
  have hP : va_P (dC, dI) zc [(h0, .inr (5, [.ref ac, w0, b0, .int dd])), (ac, .inr (0, [.int 0, ed, .int 0]))] s.heap := hP
  have hl := lv_entry ([.ref h0, .int a1]) (n := 2) (Nat.le_of_ble_eq_true rfl)
  rw [lg_entry_eq]
  generalize (lg_sl ([.ref h0, .int a1]) ++ List.replicate (2 - (lg_sl ([.ref h0, .int a1])).length) Slot.unset).toArray = ls at hl ⊢
  have hl : lv_has ls 2 [(0, .ref h0), (1, .int a1)] := hl
  refine lv_aload_n hx hb dX4_events_0 rfl (lv_at hl 0 rfl) ?_
  refine lv_iload_n hx hb dX4_events_1 rfl (lv_at hl 1 rfl) ?_
  refine vx_callq (vx_runV (As := [.int a1]) (rest := []) ⟨hx, hb, hml, hown, hts⟩ (c_accountAt l hst dC dI s.heap.size t h0 ac w0 b0 dd a1 ed) (cwV 1 hts (zg_V kw_668 kw_670 kw_30 kw_64 kw_671) rfl rfl rfl (by decide +kernel) ⟨Nat.le_of_ble_eq_true rfl, Nat.le_of_ble_eq_true rfl⟩) ⟨zA_blind, va_recv hK hP (ci := 5) (q0 := 0) rfl rfl, zA_pre hP hD hS hK hQ hA [0, 1] rfl rfl (by decide) [] rfl⟩ rfl rfl hl.1 rfl (lv_room (Nat.le_of_ble_eq_true rfl)) dX4_events_2 ⟨zl_b rfl, zl_b rfl⟩) hSn (fun q _ h => h.elim) (fun q h => Nat.le_trans (Nat.le_refl _) h) (fun q _ h => Nat.le_trans (Nat.le_refl _) h) (fun E ce q9 u t9 H1 locs1 ht hvm hp9 hE hz1 hk1 hS1 hc1 hv1 hcl1 => ?_) (fun r u t9 H1 locs1 ht hvm hw hB hz1 hk1 hS1 => hw.elim)
  have hE : E = "java/lang/IndexOutOfBoundsException" := hE
  subst hE
  refine vx_widen (k := 1) (n := 6) (zl_b rfl) (zl_b rfl) ?_
  exact vx_out (fun x hx => (htab x hx).elim) hlocks hc1 hv1 hcl1 (fun t ht hW => ⟨(), trivial, rfl, zS_F hS1 ht⟩) hS1.2.2 (zl_b rfl) (zl_b rfl)
set_option maxHeartbeats 4000000 in
set_option maxRecDepth 100000 in
/-- kindOf: no such account -/
theorem c_kindOf (l : Launch) (hst : l.stackTraces = false) (dC : Nat → ClassId) (dI : Nat → Nat → Nat) (sz t : Nat) (h0 ac : Nat) (w0 b0 : Value) (dd : Int32) (ed : Value) (a1 a2 : Int32) : vx_Met l yX4_kindOf ws_X4_kindOf ({ frames := 7, cells := 1, slots := 6, locals := 120 }) (zA dC dI [(h0, .inr (5, [.ref ac, w0, b0, .int dd])), (ac, .inr (0, [.int 0, ed, .int 0]))] [] sz t [.ref h0, .int a1, .int a2]) (va_Qi (fun _ (_ : Unit) => False) (fun _ _ => True) (fun _ => False)) (vx_X (fun _ : Unit => True) (fun E _ _ => E = "java/lang/IndexOutOfBoundsException") (fun q => sz ≤ q)) 1 6 (fun q => sz ≤ q) := by
  refine vx_ofW (cc := cX4_kindOf) (maxL := 3) (ret := (some .char)) (by decide) rfl ?_
  intro p e s m args below meth c s₁ B hml htab hv
  obtain ⟨rfl, hsz, hP, hK, hD0, hQ⟩ := hv
  have hx := B.exec
  have hb := B.bytes
  have hr := B.returns
  have hts : ∀ w ∈ zG, w.before _ s = true := fun w h => atoms_spec (ws := ws_X4_kindOf) B.pre w (List.mem_cons_of_mem _ h)
  have hown : s.vm.findClass RX4 = some m.cls := findClass_of_methodNamed B.named
  have hlocks := B.notSynchronized
  subst hsz
  have hD := hD0.self (sz := s.heap.size)
  generalize hAe : va_A [(h0, .inr (5, [.ref ac, w0, b0, .int dd])), (ac, .inr (0, [.int 0, ed, .int 0]))] s.heap.size = A at hD hQ
  have hA : ∀ q : Nat, s.heap.size ≤ q → A q := fun q h => by rw [← hAe]; exact Or.inr h
  have hS : va_S A s.heap s.heap [] := va_S.rf
  have hSn : va_S (fun q => s.heap.size ≤ q) s.heap s.heap [] := va_S.rf
  have hP : va_P (dC, dI) zc [(h0, .inr (5, [.ref ac, w0, b0, .int dd])), (ac, .inr (0, [.int 0, ed, .int 0]))] s.heap := hP
  have hl := lv_entry ([.ref h0, .int a1, .int a2]) (n := 3) (Nat.le_of_ble_eq_true rfl)
  rw [lg_entry_eq]
  generalize (lg_sl ([.ref h0, .int a1, .int a2]) ++ List.replicate (3 - (lg_sl ([.ref h0, .int a1, .int a2])).length) Slot.unset).toArray = ls at hl ⊢
  have hl : lv_has ls 3 [(0, .ref h0), (1, .int a1), (2, .int a2)] := hl
  refine lv_aload_n hx hb dX4_kindOf_0 rfl (lv_at hl 0 rfl) ?_
  refine lv_iload_n hx hb dX4_kindOf_1 rfl (lv_at hl 1 rfl) ?_
  refine vx_callq (vx_runV (As := [.int a1]) (rest := []) ⟨hx, hb, hml, hown, hts⟩ (c_accountAt l hst dC dI s.heap.size t h0 ac w0 b0 dd a1 ed) (cwV 1 hts (zg_V kw_668 kw_670 kw_30 kw_64 kw_671) rfl rfl rfl (by decide +kernel) ⟨Nat.le_of_ble_eq_true rfl, Nat.le_of_ble_eq_true rfl⟩) ⟨zA_blind, va_recv hK hP (ci := 5) (q0 := 0) rfl rfl, zA_pre hP hD hS hK hQ hA [0, 1] rfl rfl (by decide) [] rfl⟩ rfl rfl hl.1 rfl (lv_room (Nat.le_of_ble_eq_true rfl)) dX4_kindOf_2 ⟨zl_b rfl, zl_b rfl⟩) hSn (fun q _ h => h.elim) (fun q h => Nat.le_trans (Nat.le_refl _) h) (fun q _ h => Nat.le_trans (Nat.le_refl _) h) (fun E ce q9 u t9 H1 locs1 ht hvm hp9 hE hz1 hk1 hS1 hc1 hv1 hcl1 => ?_) (fun r u t9 H1 locs1 ht hvm hw hB hz1 hk1 hS1 => hw.elim)
  have hE : E = "java/lang/IndexOutOfBoundsException" := hE
  subst hE
  refine vx_widen (k := 1) (n := 6) (zl_b rfl) (zl_b rfl) ?_
  exact vx_out (fun x hx => (htab x hx).elim) hlocks hc1 hv1 hcl1 (fun t ht hW => ⟨(), trivial, rfl, zS_F hS1 ht⟩) hS1.2.2 (zl_b rfl) (zl_b rfl)
set_option maxHeartbeats 4000000 in
set_option maxRecDepth 100000 in
/-- isBack: no such account -/
theorem c_isBack (l : Launch) (hst : l.stackTraces = false) (dC : Nat → ClassId) (dI : Nat → Nat → Nat) (sz t : Nat) (h0 ac : Nat) (w0 b0 : Value) (dd : Int32) (ed : Value) (a1 a2 : Int32) : vx_Met l yX4_isBack ws_X4_isBack ({ frames := 7, cells := 1, slots := 6, locals := 120 }) (zA dC dI [(h0, .inr (5, [.ref ac, w0, b0, .int dd])), (ac, .inr (0, [.int 0, ed, .int 0]))] [] sz t [.ref h0, .int a1, .int a2]) (va_Qi (fun _ (_ : Unit) => False) (fun _ _ => True) (fun _ => False)) (vx_X (fun _ : Unit => True) (fun E _ _ => E = "java/lang/IndexOutOfBoundsException") (fun q => sz ≤ q)) 1 6 (fun q => sz ≤ q) := by
  refine vx_ofW (cc := cX4_isBack) (maxL := 3) (ret := (some .boolean)) (by decide) rfl ?_
  intro p e s m args below meth c s₁ B hml htab hv
  obtain ⟨rfl, hsz, hP, hK, hD0, hQ⟩ := hv
  have hx := B.exec
  have hb := B.bytes
  have hr := B.returns
  have hts : ∀ w ∈ zG, w.before _ s = true := fun w h => atoms_spec (ws := ws_X4_isBack) B.pre w (List.mem_cons_of_mem _ h)
  have hown : s.vm.findClass RX4 = some m.cls := findClass_of_methodNamed B.named
  have hlocks := B.notSynchronized
  subst hsz
  have hD := hD0.self (sz := s.heap.size)
  generalize hAe : va_A [(h0, .inr (5, [.ref ac, w0, b0, .int dd])), (ac, .inr (0, [.int 0, ed, .int 0]))] s.heap.size = A at hD hQ
  have hA : ∀ q : Nat, s.heap.size ≤ q → A q := fun q h => by rw [← hAe]; exact Or.inr h
  have hS : va_S A s.heap s.heap [] := va_S.rf
  have hSn : va_S (fun q => s.heap.size ≤ q) s.heap s.heap [] := va_S.rf
  have hP : va_P (dC, dI) zc [(h0, .inr (5, [.ref ac, w0, b0, .int dd])), (ac, .inr (0, [.int 0, ed, .int 0]))] s.heap := hP
  have hl := lv_entry ([.ref h0, .int a1, .int a2]) (n := 3) (Nat.le_of_ble_eq_true rfl)
  rw [lg_entry_eq]
  generalize (lg_sl ([.ref h0, .int a1, .int a2]) ++ List.replicate (3 - (lg_sl ([.ref h0, .int a1, .int a2])).length) Slot.unset).toArray = ls at hl ⊢
  have hl : lv_has ls 3 [(0, .ref h0), (1, .int a1), (2, .int a2)] := hl
  refine lv_aload_n hx hb dX4_isBack_0 rfl (lv_at hl 0 rfl) ?_
  refine lv_iload_n hx hb dX4_isBack_1 rfl (lv_at hl 1 rfl) ?_
  refine vx_callq (vx_runV (As := [.int a1]) (rest := []) ⟨hx, hb, hml, hown, hts⟩ (c_accountAt l hst dC dI s.heap.size t h0 ac w0 b0 dd a1 ed) (cwV 1 hts (zg_V kw_668 kw_670 kw_30 kw_64 kw_671) rfl rfl rfl (by decide +kernel) ⟨Nat.le_of_ble_eq_true rfl, Nat.le_of_ble_eq_true rfl⟩) ⟨zA_blind, va_recv hK hP (ci := 5) (q0 := 0) rfl rfl, zA_pre hP hD hS hK hQ hA [0, 1] rfl rfl (by decide) [] rfl⟩ rfl rfl hl.1 rfl (lv_room (Nat.le_of_ble_eq_true rfl)) dX4_isBack_2 ⟨zl_b rfl, zl_b rfl⟩) hSn (fun q _ h => h.elim) (fun q h => Nat.le_trans (Nat.le_refl _) h) (fun q _ h => Nat.le_trans (Nat.le_refl _) h) (fun E ce q9 u t9 H1 locs1 ht hvm hp9 hE hz1 hk1 hS1 hc1 hv1 hcl1 => ?_) (fun r u t9 H1 locs1 ht hvm hw hB hz1 hk1 hS1 => hw.elim)
  have hE : E = "java/lang/IndexOutOfBoundsException" := hE
  subst hE
  refine vx_widen (k := 1) (n := 6) (zl_b rfl) (zl_b rfl) ?_
  exact vx_out (fun x hx => (htab x hx).elim) hlocks hc1 hv1 hcl1 (fun t ht hW => ⟨(), trivial, rfl, zS_F hS1 ht⟩) hS1.2.2 (zl_b rfl) (zl_b rfl)
set_option maxHeartbeats 4000000 in
set_option maxRecDepth 100000 in
/-- sum: no such account -/
theorem c_sum (l : Launch) (hst : l.stackTraces = false) (dC : Nat → ClassId) (dI : Nat → Nat → Nat) (sz t : Nat) (h0 ac : Nat) (w0 b0 : Value) (dd : Int32) (ed : Value) (a1 a2 : Int32) : vx_Met l yX4_sum ws_X4_sum ({ frames := 7, cells := 1, slots := 6, locals := 120 }) (zA dC dI [(h0, .inr (5, [.ref ac, w0, b0, .int dd])), (ac, .inr (0, [.int 0, ed, .int 0]))] [] sz t [.ref h0, .int a1, .int a2]) (va_Qi (fun _ (_ : Unit) => False) (fun _ _ => True) (fun _ => False)) (vx_X (fun _ : Unit => True) (fun E _ _ => E = "java/lang/IndexOutOfBoundsException") (fun q => sz ≤ q)) 1 6 (fun q => sz ≤ q) := by
  refine vx_ofW (cc := cX4_sum) (maxL := 3) (ret := (some .int)) (by decide) rfl ?_
  intro p e s m args below meth c s₁ B hml htab hv
  obtain ⟨rfl, hsz, hP, hK, hD0, hQ⟩ := hv
  have hx := B.exec
  have hb := B.bytes
  have hr := B.returns
  have hts : ∀ w ∈ zG, w.before _ s = true := fun w h => atoms_spec (ws := ws_X4_sum) B.pre w (List.mem_cons_of_mem _ h)
  have hown : s.vm.findClass RX4 = some m.cls := findClass_of_methodNamed B.named
  have hlocks := B.notSynchronized
  subst hsz
  have hD := hD0.self (sz := s.heap.size)
  generalize hAe : va_A [(h0, .inr (5, [.ref ac, w0, b0, .int dd])), (ac, .inr (0, [.int 0, ed, .int 0]))] s.heap.size = A at hD hQ
  have hA : ∀ q : Nat, s.heap.size ≤ q → A q := fun q h => by rw [← hAe]; exact Or.inr h
  have hS : va_S A s.heap s.heap [] := va_S.rf
  have hSn : va_S (fun q => s.heap.size ≤ q) s.heap s.heap [] := va_S.rf
  have hP : va_P (dC, dI) zc [(h0, .inr (5, [.ref ac, w0, b0, .int dd])), (ac, .inr (0, [.int 0, ed, .int 0]))] s.heap := hP
  have hl := lv_entry ([.ref h0, .int a1, .int a2]) (n := 3) (Nat.le_of_ble_eq_true rfl)
  rw [lg_entry_eq]
  generalize (lg_sl ([.ref h0, .int a1, .int a2]) ++ List.replicate (3 - (lg_sl ([.ref h0, .int a1, .int a2])).length) Slot.unset).toArray = ls at hl ⊢
  have hl : lv_has ls 3 [(0, .ref h0), (1, .int a1), (2, .int a2)] := hl
  refine lv_aload_n hx hb dX4_sum_0 rfl (lv_at hl 0 rfl) ?_
  refine lv_iload_n hx hb dX4_sum_1 rfl (lv_at hl 1 rfl) ?_
  refine vx_callq (vx_runV (As := [.int a1]) (rest := []) ⟨hx, hb, hml, hown, hts⟩ (c_accountAt l hst dC dI s.heap.size t h0 ac w0 b0 dd a1 ed) (cwV 1 hts (zg_V kw_668 kw_670 kw_30 kw_64 kw_671) rfl rfl rfl (by decide +kernel) ⟨Nat.le_of_ble_eq_true rfl, Nat.le_of_ble_eq_true rfl⟩) ⟨zA_blind, va_recv hK hP (ci := 5) (q0 := 0) rfl rfl, zA_pre hP hD hS hK hQ hA [0, 1] rfl rfl (by decide) [] rfl⟩ rfl rfl hl.1 rfl (lv_room (Nat.le_of_ble_eq_true rfl)) dX4_sum_2 ⟨zl_b rfl, zl_b rfl⟩) hSn (fun q _ h => h.elim) (fun q h => Nat.le_trans (Nat.le_refl _) h) (fun q _ h => Nat.le_trans (Nat.le_refl _) h) (fun E ce q9 u t9 H1 locs1 ht hvm hp9 hE hz1 hk1 hS1 hc1 hv1 hcl1 => ?_) (fun r u t9 H1 locs1 ht hvm hw hB hz1 hk1 hS1 => hw.elim)
  have hE : E = "java/lang/IndexOutOfBoundsException" := hE
  subst hE
  refine vx_widen (k := 1) (n := 6) (zl_b rfl) (zl_b rfl) ?_
  exact vx_out (fun x hx => (htab x hx).elim) hlocks hc1 hv1 hcl1 (fun t ht hW => ⟨(), trivial, rfl, zS_F hS1 ht⟩) hS1.2.2 (zl_b rfl) (zl_b rfl)
set_option maxHeartbeats 4000000 in
set_option maxRecDepth 100000 in
/-- why: no such account -/
theorem c_why (l : Launch) (hst : l.stackTraces = false) (dC : Nat → ClassId) (dI : Nat → Nat → Nat) (sz t : Nat) (h0 ac : Nat) (w0 b0 : Value) (dd : Int32) (ed : Value) (a1 a2 a3 : Int32) : vx_Met l yX4_why ws_X4_why ({ frames := 7, cells := 1, slots := 6, locals := 120 }) (zA dC dI [(h0, .inr (5, [.ref ac, w0, b0, .int dd])), (ac, .inr (0, [.int 0, ed, .int 0]))] [] sz t [.ref h0, .int a1, .int a2, .int a3]) (va_Qi (fun _ (_ : Unit) => False) (fun _ _ => True) (fun _ => False)) (vx_X (fun _ : Unit => True) (fun E _ _ => E = "java/lang/IndexOutOfBoundsException") (fun q => sz ≤ q)) 1 6 (fun q => sz ≤ q) := by
  refine vx_ofW (cc := cX4_why) (maxL := 7) (ret := (some .char)) (by decide) rfl ?_
  intro p e s m args below meth c s₁ B hml htab hv
  obtain ⟨rfl, hsz, hP, hK, hD0, hQ⟩ := hv
  have hx := B.exec
  have hb := B.bytes
  have hr := B.returns
  have hts : ∀ w ∈ zG, w.before _ s = true := fun w h => atoms_spec (ws := ws_X4_why) B.pre w (List.mem_cons_of_mem _ h)
  have hown : s.vm.findClass RX4 = some m.cls := findClass_of_methodNamed B.named
  have hlocks := B.notSynchronized
  subst hsz
  have hD := hD0.self (sz := s.heap.size)
  generalize hAe : va_A [(h0, .inr (5, [.ref ac, w0, b0, .int dd])), (ac, .inr (0, [.int 0, ed, .int 0]))] s.heap.size = A at hD hQ
  have hA : ∀ q : Nat, s.heap.size ≤ q → A q := fun q h => by rw [← hAe]; exact Or.inr h
  have hS : va_S A s.heap s.heap [] := va_S.rf
  have hSn : va_S (fun q => s.heap.size ≤ q) s.heap s.heap [] := va_S.rf
  have hP : va_P (dC, dI) zc [(h0, .inr (5, [.ref ac, w0, b0, .int dd])), (ac, .inr (0, [.int 0, ed, .int 0]))] s.heap := hP
  have hl := lv_entry ([.ref h0, .int a1, .int a2, .int a3]) (n := 7) (Nat.le_of_ble_eq_true rfl)
  rw [lg_entry_eq]
  generalize (lg_sl ([.ref h0, .int a1, .int a2, .int a3]) ++ List.replicate (7 - (lg_sl ([.ref h0, .int a1, .int a2, .int a3])).length) Slot.unset).toArray = ls at hl ⊢
  have hl : lv_has ls 7 [(0, .ref h0), (1, .int a1), (2, .int a2), (3, .int a3)] := hl
  refine lv_aload_n hx hb dX4_why_0 rfl (lv_at hl 0 rfl) ?_
  refine lv_iload_n hx hb dX4_why_1 rfl (lv_at hl 1 rfl) ?_
  refine vx_callq (vx_runV (As := [.int a1]) (rest := []) ⟨hx, hb, hml, hown, hts⟩ (c_accountAt l hst dC dI s.heap.size t h0 ac w0 b0 dd a1 ed) (cwV 1 hts (zg_V kw_668 kw_670 kw_30 kw_64 kw_671) rfl rfl rfl (by decide +kernel) ⟨Nat.le_of_ble_eq_true rfl, Nat.le_of_ble_eq_true rfl⟩) ⟨zA_blind, va_recv hK hP (ci := 5) (q0 := 0) rfl rfl, zA_pre hP hD hS hK hQ hA [0, 1] rfl rfl (by decide) [] rfl⟩ rfl rfl hl.1 rfl (lv_room (Nat.le_of_ble_eq_true rfl)) dX4_why_2 ⟨zl_b rfl, zl_b rfl⟩) hSn (fun q _ h => h.elim) (fun q h => Nat.le_trans (Nat.le_refl _) h) (fun q _ h => Nat.le_trans (Nat.le_refl _) h) (fun E ce q9 u t9 H1 locs1 ht hvm hp9 hE hz1 hk1 hS1 hc1 hv1 hcl1 => ?_) (fun r u t9 H1 locs1 ht hvm hw hB hz1 hk1 hS1 => hw.elim)
  have hE : E = "java/lang/IndexOutOfBoundsException" := hE
  subst hE
  refine vx_widen (k := 1) (n := 6) (zl_b rfl) (zl_b rfl) ?_
  exact vx_out (fun x hx => (htab x hx).elim) hlocks hc1 hv1 hcl1 (fun t ht hW => ⟨(), trivial, rfl, zS_F hS1 ht⟩) hS1.2.2 (zl_b rfl) (zl_b rfl)
set_option maxHeartbeats 4000000 in
set_option maxRecDepth 100000 in
/-- reasons: no such account -/
theorem c_reasons (l : Launch) (hst : l.stackTraces = false) (dC : Nat → ClassId) (dI : Nat → Nat → Nat) (sz t : Nat) (h0 ac : Nat) (w0 b0 : Value) (dd : Int32) (ed : Value) (a1 a2 a3 : Int32) : vx_Met l yX4_reasons ws_X4_reasons ({ frames := 7, cells := 1, slots := 6, locals := 120 }) (zA dC dI [(h0, .inr (5, [.ref ac, w0, b0, .int dd])), (ac, .inr (0, [.int 0, ed, .int 0]))] [] sz t [.ref h0, .int a1, .int a2, .int a3]) (va_Qi (fun _ (_ : Unit) => False) (fun _ _ => True) (fun _ => False)) (vx_X (fun _ : Unit => True) (fun E _ _ => E = "java/lang/IndexOutOfBoundsException") (fun q => sz ≤ q)) 1 6 (fun q => sz ≤ q) := by
  refine vx_ofW (cc := cX4_reasons) (maxL := 6) (ret := (some .int)) (by decide) rfl ?_
  intro p e s m args below meth c s₁ B hml htab hv
  obtain ⟨rfl, hsz, hP, hK, hD0, hQ⟩ := hv
  have hx := B.exec
  have hb := B.bytes
  have hr := B.returns
  have hts : ∀ w ∈ zG, w.before _ s = true := fun w h => atoms_spec (ws := ws_X4_reasons) B.pre w (List.mem_cons_of_mem _ h)
  have hown : s.vm.findClass RX4 = some m.cls := findClass_of_methodNamed B.named
  have hlocks := B.notSynchronized
  subst hsz
  have hD := hD0.self (sz := s.heap.size)
  generalize hAe : va_A [(h0, .inr (5, [.ref ac, w0, b0, .int dd])), (ac, .inr (0, [.int 0, ed, .int 0]))] s.heap.size = A at hD hQ
  have hA : ∀ q : Nat, s.heap.size ≤ q → A q := fun q h => by rw [← hAe]; exact Or.inr h
  have hS : va_S A s.heap s.heap [] := va_S.rf
  have hSn : va_S (fun q => s.heap.size ≤ q) s.heap s.heap [] := va_S.rf
  have hP : va_P (dC, dI) zc [(h0, .inr (5, [.ref ac, w0, b0, .int dd])), (ac, .inr (0, [.int 0, ed, .int 0]))] s.heap := hP
  have hl := lv_entry ([.ref h0, .int a1, .int a2, .int a3]) (n := 6) (Nat.le_of_ble_eq_true rfl)
  rw [lg_entry_eq]
  generalize (lg_sl ([.ref h0, .int a1, .int a2, .int a3]) ++ List.replicate (6 - (lg_sl ([.ref h0, .int a1, .int a2, .int a3])).length) Slot.unset).toArray = ls at hl ⊢
  have hl : lv_has ls 6 [(0, .ref h0), (1, .int a1), (2, .int a2), (3, .int a3)] := hl
  refine lv_aload_n hx hb dX4_reasons_0 rfl (lv_at hl 0 rfl) ?_
  refine lv_iload_n hx hb dX4_reasons_1 rfl (lv_at hl 1 rfl) ?_
  refine vx_callq (vx_runV (As := [.int a1]) (rest := []) ⟨hx, hb, hml, hown, hts⟩ (c_accountAt l hst dC dI s.heap.size t h0 ac w0 b0 dd a1 ed) (cwV 1 hts (zg_V kw_668 kw_670 kw_30 kw_64 kw_671) rfl rfl rfl (by decide +kernel) ⟨Nat.le_of_ble_eq_true rfl, Nat.le_of_ble_eq_true rfl⟩) ⟨zA_blind, va_recv hK hP (ci := 5) (q0 := 0) rfl rfl, zA_pre hP hD hS hK hQ hA [0, 1] rfl rfl (by decide) [] rfl⟩ rfl rfl hl.1 rfl (lv_room (Nat.le_of_ble_eq_true rfl)) dX4_reasons_2 ⟨zl_b rfl, zl_b rfl⟩) hSn (fun q _ h => h.elim) (fun q h => Nat.le_trans (Nat.le_refl _) h) (fun q _ h => Nat.le_trans (Nat.le_refl _) h) (fun E ce q9 u t9 H1 locs1 ht hvm hp9 hE hz1 hk1 hS1 hc1 hv1 hcl1 => ?_) (fun r u t9 H1 locs1 ht hvm hw hB hz1 hk1 hS1 => hw.elim)
  have hE : E = "java/lang/IndexOutOfBoundsException" := hE
  subst hE
  refine vx_widen (k := 1) (n := 6) (zl_b rfl) (zl_b rfl) ?_
  exact vx_out (fun x hx => (htab x hx).elim) hlocks hc1 hv1 hcl1 (fun t ht hW => ⟨(), trivial, rfl, zS_F hS1 ht⟩) hS1.2.2 (zl_b rfl) (zl_b rfl)
