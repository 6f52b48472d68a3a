set_option maxHeartbeats 4000000 in
set_option maxRecDepth 100000 in
/-- setLimit of the model: no such account -/
theorem m_setLimit (l : Launch) (dC : Nat → ClassId) (dI : Nat → Nat → Nat) (sz t : Nat) (h0 ac : Nat) (cu : Value) (dd th : Int32) (ed : Value) (a1 a2 : Int32) : Met l yX8_setLimit ws_X8_setLimit ({ frames := 3, cells := 0, slots := 0, locals := 55 }) (zA dC dI [(h0, .inr (7, [.ref ac, cu, .int dd, .int th])), (ac, .inr (0, [.int 0, ed, .int 0]))] [] sz t [.ref h0, .int a1, .int a2]) (va_Qi (fun r (_ : Unit) => True) (fun _ t9 => zB dC dI (va_A [(h0, .inr (7, [.ref ac, cu, .int dd, .int th])), (ac, .inr (0, [.int 0, ed, .int 0]))] sz) [(h0, .inr (7, [.ref ac, cu, .int dd, .int 1])), (ac, .inr (0, [.int 0, ed, .int 0]))] [] t9) (va_A [(h0, .inr (7, [.ref ac, cu, .int dd, .int th])), (ac, .inr (0, [.int 0, ed, .int 0]))] sz)) 0 0 (va_A [(h0, .inr (7, [.ref ac, cu, .int dd, .int th])), (ac, .inr (0, [.int 0, ed, .int 0]))] sz) := by
  refine Met.ofW (cc := cX8_setLimit) (maxL := 4) (ret := (some .int)) (by decide) rfl ?_
  intro p e s m args below meth c s₁ B hml hv
  obtain ⟨rfl, hsz, hP, hK, hD0, hQ⟩ := hv
  have hx := B.exec
  have hb := B.bytes
  have hr := B.returns
  have hts : ∀ w ∈ zG, w.before _ s = true := fun w h => atoms_spec (ws := ws_X8_setLimit) B.pre w (List.mem_cons_of_mem _ h)
  have hown : s.vm.findClass RX8 = some m.cls := findClass_of_methodNamed B.named
  have hlocks := B.notSynchronized
  subst hsz
  have hD := hD0.self (sz := s.heap.size)
  generalize hAe : va_A [(h0, .inr (7, [.ref ac, cu, .int dd, .int th])), (ac, .inr (0, [.int 0, ed, .int 0]))] s.heap.size = A at hD hQ ⊢
  have hA : ∀ q : Nat, s.heap.size ≤ q → A q := fun q h => by rw [← hAe]; exact Or.inr h
  have hS : va_S A s.heap s.heap [] := va_S.rf
  have hP : va_P (dC, dI) zc [(h0, .inr (7, [.ref ac, cu, .int dd, .int th])), (ac, .inr (0, [.int 0, ed, .int 0]))] s.heap := hP
  have hl := lv_entry ([.ref h0, .int a1, .int a2]) (n := 4) (Nat.le_of_ble_eq_true rfl)
  rw [lg_entry_eq]
  generalize (lg_sl ([.ref h0, .int a1, .int a2]) ++ List.replicate (4 - (lg_sl ([.ref h0, .int a1, .int a2])).length) Slot.unset).toArray = ls at hl ⊢
  have hl : lv_has ls 4 [(0, .ref h0), (1, .int a1), (2, .int a2)] := hl
  refine lv_aload_n hx hb dX8_setLimit_0 rfl (lv_at hl 0 rfl) ?_
  refine lv_aload_n hx hb dX8_setLimit_1 rfl (lv_at hl 0 rfl) ?_
  refine lv_iload_n hx hb dX8_setLimit_2 rfl (lv_at hl 1 rfl) ?_
  refine vp_callSi (W.runV (As := [.int a1]) (rest := [.ref h0]) ⟨hx, hb, hml, hown, hts⟩ (c_isAccount l dC dI s.heap.size t h0 ac cu dd th a1 ed) (cwV 1 hts (zg_V kw_1432 kw_1434 kw_41 kw_70 kw_1435) rfl rfl rfl (by decide +kernel) ⟨Nat.le_of_ble_eq_true rfl, Nat.le_of_ble_eq_true rfl⟩) ⟨zA_blind, va_recv hK hP (ci := 7) (q0 := 0) rfl rfl, zA_pre hP hD hS hK hQ hA [0, 1] rfl rfl (by decide) [] rfl⟩ rfl rfl hl.1 rfl (lv_room (Nat.le_of_ble_eq_true rfl)) dX8_setLimit_3 ⟨zl_b rfl, zl_b rfl⟩) (fun r hr => ?_)
  subst hr
  refine lv_iconst (v := 1) hx hb dX8_setLimit_6 (by decide) ?_
  have hFc := va_free (wc := [(h0, .inr (7, [.ref ac, cu, .int dd, .int th]))]) hD hS hA [0] rfl
  refine va_calli (va_runV (As := [.int 0, .int 1]) (rest := []) ⟨hx, hb, hml, hown, hts⟩ (c_no0 l dC dI s.heap.size t h0 (.ref ac) cu dd th 1) (cwV 2 hts (zg_V kw_1377 kw_1379 kw_40 kw_70 kw_1380) rfl rfl rfl (by decide +kernel) ⟨Nat.le_of_ble_eq_true rfl, Nat.le_of_ble_eq_true rfl⟩) ⟨zA_blind, va_recv hK hP (ci := 7) (q0 := 0) rfl rfl, zA_pre hP hD hS hK hQ hA [0] rfl rfl (by decide) [] rfl⟩ rfl rfl hl.1 rfl (lv_room (Nat.le_of_ble_eq_true rfl)) dX8_setLimit_7 ⟨zl_b rfl, zl_b rfl⟩) hS (fun q _ h => hFc q h) hFc (fun r_1 u t9 H1 locs ht hvm hw hB hz1 hk1 hS => ?_)
  obtain ⟨hP1, hK1, hD1⟩ := hB
  rw [ht] at hP1
  have hK1 := va_K.moved hvm.symm hK1
  obtain ⟨hP, hD⟩ := va_join (wr := [(ac, .inr (0, [.int 0, ed, .int 0]))]) (w1 := [(h0, .inr (7, [.ref ac, cu, .int dd, .int 1]))]) hP hD [0] [1] rfl rfl (by decide) (by decide) hk1 hFc hP1 hD1
  have hK := (hK.sub (tys' := []) [] rfl).app hK1
  generalize H1 = H at hP hS ⊢
  have hP : va_P (dC, dI) zc [(ac, .inr (0, [.int 0, ed, .int 0])), (h0, .inr (7, [.ref ac, cu, .int dd, .int 1]))] H := hP
  have hD : va_D A [(ac, .inr (0, [.int 0, ed, .int 0])), (h0, .inr (7, [.ref ac, cu, .int dd, .int 1]))] := hD
  have hK : va_K (dC, dI) zc [] s := hK
  have hw : 1 = r_1 := hw.symm
  subst hw
  refine lv_if_ne (tgt := 28) hx hb dX8_setLimit_10 (by decide) (fun c_2 => ?_) (fun c_2 => absurd c_2 (by decide))
  refine lv_iconst (v := 0) hx hb dX8_setLimit_28 (by decide) ?_
  have hP9 := hP.sub (ws' := [(h0, .inr (7, [.ref ac, cu, .int dd, .int 1])), (ac, .inr (0, [.int 0, ed, .int 0]))]) [1, 0] rfl
  have hD9 := hD.sub (ws' := [(h0, .inr (7, [.ref ac, cu, .int dd, .int 1])), (ac, .inr (0, [.int 0, ed, .int 0]))]) [1, 0] (by decide) rfl
  have hK9 := hK.sub (tys' := []) [] rfl
  exact W.iret hx hb hr (fun t ht hW => ⟨⟨_, (), rfl, trivial, by rw [ht]; exact hP9, va_K.moved hW.alike hK9, hD9⟩, hS.F ht⟩) hS.2.2 dX8_setLimit_29
set_option maxHeartbeats 4000000 in
set_option maxRecDepth 100000 in
/-- block of the model: no such account -/
theorem m_block (l : Launch) (dC : Nat → ClassId) (dI : Nat → Nat → Nat) (sz t : Nat) (h0 ac : Nat) (cu : Value) (dd th : Int32) (ed : Value) (a1 a2 : Int32) : Met l yX8_block ws_X8_block ({ frames := 3, cells := 0, slots := 0, locals := 55 }) (zA dC dI [(h0, .inr (7, [.ref ac, cu, .int dd, .int th])), (ac, .inr (0, [.int 0, ed, .int 0]))] [] sz t [.ref h0, .int a1, .int a2]) (va_Qi (fun r (_ : Unit) => True) (fun _ t9 => zB dC dI (va_A [(h0, .inr (7, [.ref ac, cu, .int dd, .int th])), (ac, .inr (0, [.int 0, ed, .int 0]))] sz) [(h0, .inr (7, [.ref ac, cu, .int dd, .int 1])), (ac, .inr (0, [.int 0, ed, .int 0]))] [] t9) (va_A [(h0, .inr (7, [.ref ac, cu, .int dd, .int th])), (ac, .inr (0, [.int 0, ed, .int 0]))] sz)) 0 0 (va_A [(h0, .inr (7, [.ref ac, cu, .int dd, .int th])), (ac, .inr (0, [.int 0, ed, .int 0]))] sz) := by
  refine Met.ofW (cc := cX8_block) (maxL := 4) (ret := (some .boolean)) (by decide) rfl ?_
  intro p e s m args below meth c s₁ B hml hv
  obtain ⟨rfl, hsz, hP, hK, hD0, hQ⟩ := hv
  have hx := B.exec
  have hb := B.bytes
  have hr := B.returns
  have hts : ∀ w ∈ zG, w.before _ s = true := fun w h => atoms_spec (ws := ws_X8_block) B.pre w (List.mem_cons_of_mem _ h)
  have hown : s.vm.findClass RX8 = some m.cls := findClass_of_methodNamed B.named
  have hlocks := B.notSynchronized
  subst hsz
  have hD := hD0.self (sz := s.heap.size)
  generalize hAe : va_A [(h0, .inr (7, [.ref ac, cu, .int dd, .int th])), (ac, .inr (0, [.int 0, ed, .int 0]))] s.heap.size = A at hD hQ ⊢
  have hA : ∀ q : Nat, s.heap.size ≤ q → A q := fun q h => by rw [← hAe]; exact Or.inr h
  have hS : va_S A s.heap s.heap [] := va_S.rf
  have hP : va_P (dC, dI) zc [(h0, .inr (7, [.ref ac, cu, .int dd, .int th])), (ac, .inr (0, [.int 0, ed, .int 0]))] s.heap := hP
  have hl := lv_entry ([.ref h0, .int a1, .int a2]) (n := 4) (Nat.le_of_ble_eq_true rfl)
  rw [lg_entry_eq]
  generalize (lg_sl ([.ref h0, .int a1, .int a2]) ++ List.replicate (4 - (lg_sl ([.ref h0, .int a1, .int a2])).length) Slot.unset).toArray = ls at hl ⊢
  have hl : lv_has ls 4 [(0, .ref h0), (1, .int a1), (2, .int a2)] := hl
  refine lv_aload_n hx hb dX8_block_0 rfl (lv_at hl 0 rfl) ?_
  refine lv_aload_n hx hb dX8_block_1 rfl (lv_at hl 0 rfl) ?_
  refine lv_iload_n hx hb dX8_block_2 rfl (lv_at hl 1 rfl) ?_
  refine vp_callSi (W.runV (As := [.int a1]) (rest := [.ref h0]) ⟨hx, hb, hml, hown, hts⟩ (c_isAccount l dC dI s.heap.size t h0 ac cu dd th a1 ed) (cwV 1 hts (zg_V kw_1432 kw_1434 kw_41 kw_70 kw_1435) rfl rfl rfl (by decide +kernel) ⟨Nat.le_of_ble_eq_true rfl, Nat.le_of_ble_eq_true rfl⟩) ⟨zA_blind, va_recv hK hP (ci := 7) (q0 := 0) rfl rfl, zA_pre hP hD hS hK hQ hA [0, 1] rfl rfl (by decide) [] rfl⟩ rfl rfl hl.1 rfl (lv_room (Nat.le_of_ble_eq_true rfl)) dX8_block_3 ⟨zl_b rfl, zl_b rfl⟩) (fun r hr => ?_)
  subst hr
  refine lv_iconst (v := 1) hx hb dX8_block_6 (by decide) ?_
  have hFc := va_free (wc := [(h0, .inr (7, [.ref ac, cu, .int dd, .int th]))]) hD hS hA [0] rfl
  refine va_calli (va_runV (As := [.int 0, .int 1]) (rest := []) ⟨hx, hb, hml, hown, hts⟩ (c_no0 l dC dI s.heap.size t h0 (.ref ac) cu dd th 1) (cwV 2 hts (zg_V kw_1377 kw_1379 kw_40 kw_70 kw_1380) rfl rfl rfl (by decide +kernel) ⟨Nat.le_of_ble_eq_true rfl, Nat.le_of_ble_eq_true rfl⟩) ⟨zA_blind, va_recv hK hP (ci := 7) (q0 := 0) rfl rfl, zA_pre hP hD hS hK hQ hA [0] rfl rfl (by decide) [] rfl⟩ rfl rfl hl.1 rfl (lv_room (Nat.le_of_ble_eq_true rfl)) dX8_block_7 ⟨zl_b rfl, zl_b rfl⟩) hS (fun q _ h => hFc q h) hFc (fun r_1 u t9 H1 locs ht hvm hw hB hz1 hk1 hS => ?_)
  obtain ⟨hP1, hK1, hD1⟩ := hB
  rw [ht] at hP1
  have hK1 := va_K.moved hvm.symm hK1
  obtain ⟨hP, hD⟩ := va_join (wr := [(ac, .inr (0, [.int 0, ed, .int 0]))]) (w1 := [(h0, .inr (7, [.ref ac, cu, .int dd, .int 1]))]) hP hD [0] [1] rfl rfl (by decide) (by decide) hk1 hFc hP1 hD1
  have hK := (hK.sub (tys' := []) [] rfl).app hK1
  generalize H1 = H at hP hS ⊢
  have hP : va_P (dC, dI) zc [(ac, .inr (0, [.int 0, ed, .int 0])), (h0, .inr (7, [.ref ac, cu, .int dd, .int 1]))] H := hP
  have hD : va_D A [(ac, .inr (0, [.int 0, ed, .int 0])), (h0, .inr (7, [.ref ac, cu, .int dd, .int 1]))] := hD
  have hK : va_K (dC, dI) zc [] s := hK
  have hw : 1 = r_1 := hw.symm
  subst hw
  refine lv_if_eq (tgt := 15) hx hb dX8_block_10 (by decide) (fun c_2 => absurd c_2 (by decide)) (fun c_2 => ?_)
  refine lv_iconst (v := 0) hx hb dX8_block_13 (by decide) ?_
  have hP9 := hP.sub (ws' := [(h0, .inr (7, [.ref ac, cu, .int dd, .int 1])), (ac, .inr (0, [.int 0, ed, .int 0]))]) [1, 0] rfl
  have hD9 := hD.sub (ws' := [(h0, .inr (7, [.ref ac, cu, .int dd, .int 1])), (ac, .inr (0, [.int 0, ed, .int 0]))]) [1, 0] (by decide) rfl
  have hK9 := hK.sub (tys' := []) [] rfl
  exact W.zret (ty := .boolean) hx hb hr rfl (fun t ht hW => ⟨⟨_, (), rfl, trivial, by rw [ht]; exact hP9, va_K.moved hW.alike hK9, hD9⟩, hS.F ht⟩) hS.2.2 dX8_block_14
set_option maxHeartbeats 4000000 in
set_option maxRecDepth 100000 in
/-- setRate of the model: no such account -/
theorem m_setRate (l : Launch) (dC : Nat → ClassId) (dI : Nat → Nat → Nat) (sz t : Nat) (h0 ac : Nat) (cu : Value) (dd th : Int32) (ed : Value) (a1 a2 a3 : Int32) : Met l yX8_setRate ws_X8_setRate ({ frames := 3, cells := 0, slots := 0, locals := 55 }) (zA dC dI [(h0, .inr (7, [.ref ac, cu, .int dd, .int th])), (ac, .inr (0, [.int 0, ed, .int 0]))] [] sz t [.ref h0, .int a1, .int a2, .int a3]) (va_Qi (fun r (_ : Unit) => True) (fun _ t9 => zB dC dI (va_A [(h0, .inr (7, [.ref ac, cu, .int dd, .int th])), (ac, .inr (0, [.int 0, ed, .int 0]))] sz) [(h0, .inr (7, [.ref ac, cu, .int dd, .int 1])), (ac, .inr (0, [.int 0, ed, .int 0]))] [] t9) (va_A [(h0, .inr (7, [.ref ac, cu, .int dd, .int th])), (ac, .inr (0, [.int 0, ed, .int 0]))] sz)) 0 0 (va_A [(h0, .inr (7, [.ref ac, cu, .int dd, .int th])), (ac, .inr (0, [.int 0, ed, .int 0]))] sz) := by
  refine Met.ofW (cc := cX8_setRate) (maxL := 4) (ret := (some .int)) (by decide) rfl ?_
  intro p e s m args below meth c s₁ B hml hv
  obtain ⟨rfl, hsz, hP, hK, hD0, hQ⟩ := hv
  have hx := B.exec
  have hb := B.bytes
  have hr := B.returns
  have hts : ∀ w ∈ zG, w.before _ s = true := fun w h => atoms_spec (ws := ws_X8_setRate) B.pre w (List.mem_cons_of_mem _ h)
  have hown : s.vm.findClass RX8 = some m.cls := findClass_of_methodNamed B.named
  have hlocks := B.notSynchronized
  subst hsz
  have hD := hD0.self (sz := s.heap.size)
  generalize hAe : va_A [(h0, .inr (7, [.ref ac, cu, .int dd, .int th])), (ac, .inr (0, [.int 0, ed, .int 0]))] s.heap.size = A at hD hQ ⊢
  have hA : ∀ q : Nat, s.heap.size ≤ q → A q := fun q h => by rw [← hAe]; exact Or.inr h
  have hS : va_S A s.heap s.heap [] := va_S.rf
  have hP : va_P (dC, dI) zc [(h0, .inr (7, [.ref ac, cu, .int dd, .int th])), (ac, .inr (0, [.int 0, ed, .int 0]))] s.heap := hP
  have hl := lv_entry ([.ref h0, .int a1, .int a2, .int a3]) (n := 4) (Nat.le_of_ble_eq_true rfl)
  rw [lg_entry_eq]
  generalize (lg_sl ([.ref h0, .int a1, .int a2, .int a3]) ++ List.replicate (4 - (lg_sl ([.ref h0, .int a1, .int a2, .int a3])).length) Slot.unset).toArray = ls at hl ⊢
  have hl : lv_has ls 4 [(0, .ref h0), (1, .int a1), (2, .int a2), (3, .int a3)] := hl
  refine lv_aload_n hx hb dX8_setRate_0 rfl (lv_at hl 0 rfl) ?_
  refine lv_aload_n hx hb dX8_setRate_1 rfl (lv_at hl 0 rfl) ?_
  refine lv_iload_n hx hb dX8_setRate_2 rfl (lv_at hl 1 rfl) ?_
  refine vp_callSi (W.runV (As := [.int a1]) (rest := [.ref h0]) ⟨hx, hb, hml, hown, hts⟩ (c_isAccount l dC dI s.heap.size t h0 ac cu dd th a1 ed) (cwV 1 hts (zg_V kw_1432 kw_1434 kw_41 kw_70 kw_1435) rfl rfl rfl (by decide +kernel) ⟨Nat.le_of_ble_eq_true rfl, Nat.le_of_ble_eq_true rfl⟩) ⟨zA_blind, va_recv hK hP (ci := 7) (q0 := 0) rfl rfl, zA_pre hP hD hS hK hQ hA [0, 1] rfl rfl (by decide) [] rfl⟩ rfl rfl hl.1 rfl (lv_room (Nat.le_of_ble_eq_true rfl)) dX8_setRate_3 ⟨zl_b rfl, zl_b rfl⟩) (fun r hr => ?_)
  subst hr
  refine lv_iconst (v := 1) hx hb dX8_setRate_6 (by decide) ?_
  have hFc := va_free (wc := [(h0, .inr (7, [.ref ac, cu, .int dd, .int th]))]) hD hS hA [0] rfl
  refine va_calli (va_runV (As := [.int 0, .int 1]) (rest := []) ⟨hx, hb, hml, hown, hts⟩ (c_no0 l dC dI s.heap.size t h0 (.ref ac) cu dd th 1) (cwV 2 hts (zg_V kw_1377 kw_1379 kw_40 kw_70 kw_1380) rfl rfl rfl (by decide +kernel) ⟨Nat.le_of_ble_eq_true rfl, Nat.le_of_ble_eq_true rfl⟩) ⟨zA_blind, va_recv hK hP (ci := 7) (q0 := 0) rfl rfl, zA_pre hP hD hS hK hQ hA [0] rfl rfl (by decide) [] rfl⟩ rfl rfl hl.1 rfl (lv_room (Nat.le_of_ble_eq_true rfl)) dX8_setRate_7 ⟨zl_b rfl, zl_b rfl⟩) hS (fun q _ h => hFc q h) hFc (fun r_1 u t9 H1 locs ht hvm hw hB hz1 hk1 hS => ?_)
  obtain ⟨hP1, hK1, hD1⟩ := hB
  rw [ht] at hP1
  have hK1 := va_K.moved hvm.symm hK1
  obtain ⟨hP, hD⟩ := va_join (wr := [(ac, .inr (0, [.int 0, ed, .int 0]))]) (w1 := [(h0, .inr (7, [.ref ac, cu, .int dd, .int 1]))]) hP hD [0] [1] rfl rfl (by decide) (by decide) hk1 hFc hP1 hD1
  have hK := (hK.sub (tys' := []) [] rfl).app hK1
  generalize H1 = H at hP hS ⊢
  have hP : va_P (dC, dI) zc [(ac, .inr (0, [.int 0, ed, .int 0])), (h0, .inr (7, [.ref ac, cu, .int dd, .int 1]))] H := hP
  have hD : va_D A [(ac, .inr (0, [.int 0, ed, .int 0])), (h0, .inr (7, [.ref ac, cu, .int dd, .int 1]))] := hD
  have hK : va_K (dC, dI) zc [] s := hK
  have hw : 1 = r_1 := hw.symm
  subst hw
  refine lv_if_ne (tgt := 57) hx hb dX8_setRate_10 (by decide) (fun c_2 => ?_) (fun c_2 => absurd c_2 (by decide))
  refine lv_iconst (v := 0) hx hb dX8_setRate_57 (by decide) ?_
  have hP9 := hP.sub (ws' := [(h0, .inr (7, [.ref ac, cu, .int dd, .int 1])), (ac, .inr (0, [.int 0, ed, .int 0]))]) [1, 0] rfl
  have hD9 := hD.sub (ws' := [(h0, .inr (7, [.ref ac, cu, .int dd, .int 1])), (ac, .inr (0, [.int 0, ed, .int 0]))]) [1, 0] (by decide) rfl
  have hK9 := hK.sub (tys' := []) [] rfl
  exact W.iret hx hb hr (fun t ht hW => ⟨⟨_, (), rfl, trivial, by rw [ht]; exact hP9, va_K.moved hW.alike hK9, hD9⟩, hS.F ht⟩) hS.2.2 dX8_setRate_58
set_option maxHeartbeats 4000000 in
set_option maxRecDepth 100000 in
/-- promote of the model: no such account -/
theorem m_promote (l : Launch) (dC : Nat → ClassId) (dI : Nat → Nat → Nat) (sz t : Nat) (h0 ac : Nat) (cu : Value) (dd th : Int32) (ed : Value) (a1 a2 a3 : Int32) : Met l yX8_promote ws_X8_promote ({ frames := 3, cells := 0, slots := 0, locals := 55 }) (zA dC dI [(h0, .inr (7, [.ref ac, cu, .int dd, .int th])), (ac, .inr (0, [.int 0, ed, .int 0]))] [] sz t [.ref h0, .int a1, .int a2, .int a3]) (va_Qi (fun r (_ : Unit) => True) (fun _ t9 => zB dC dI (va_A [(h0, .inr (7, [.ref ac, cu, .int dd, .int th])), (ac, .inr (0, [.int 0, ed, .int 0]))] sz) [(h0, .inr (7, [.ref ac, cu, .int dd, .int 1])), (ac, .inr (0, [.int 0, ed, .int 0]))] [] t9) (va_A [(h0, .inr (7, [.ref ac, cu, .int dd, .int th])), (ac, .inr (0, [.int 0, ed, .int 0]))] sz)) 0 0 (va_A [(h0, .inr (7, [.ref ac, cu, .int dd, .int th])), (ac, .inr (0, [.int 0, ed, .int 0]))] sz) := by
  refine Met.ofW (cc := cX8_promote) (maxL := 4) (ret := (some .int)) (by decide) rfl ?_
  intro p e s m args below meth c s₁ B hml hv
  obtain ⟨rfl, hsz, hP, hK, hD0, hQ⟩ := hv
  have hx := B.exec
  have hb := B.bytes
  have hr := B.returns
  have hts : ∀ w ∈ zG, w.before _ s = true := fun w h => atoms_spec (ws := ws_X8_promote) B.pre w (List.mem_cons_of_mem _ h)
  have hown : s.vm.findClass RX8 = some m.cls := findClass_of_methodNamed B.named
  have hlocks := B.notSynchronized
  subst hsz
  have hD := hD0.self (sz := s.heap.size)
  generalize hAe : va_A [(h0, .inr (7, [.ref ac, cu, .int dd, .int th])), (ac, .inr (0, [.int 0, ed, .int 0]))] s.heap.size = A at hD hQ ⊢
  have hA : ∀ q : Nat, s.heap.size ≤ q → A q := fun q h => by rw [← hAe]; exact Or.inr h
  have hS : va_S A s.heap s.heap [] := va_S.rf
  have hP : va_P (dC, dI) zc [(h0, .inr (7, [.ref ac, cu, .int dd, .int th])), (ac, .inr (0, [.int 0, ed, .int 0]))] s.heap := hP
  have hl := lv_entry ([.ref h0, .int a1, .int a2, .int a3]) (n := 4) (Nat.le_of_ble_eq_true rfl)
  rw [lg_entry_eq]
  generalize (lg_sl ([.ref h0, .int a1, .int a2, .int a3]) ++ List.replicate (4 - (lg_sl ([.ref h0, .int a1, .int a2, .int a3])).length) Slot.unset).toArray = ls at hl ⊢
  have hl : lv_has ls 4 [(0, .ref h0), (1, .int a1), (2, .int a2), (3, .int a3)] := hl
  refine lv_aload_n hx hb dX8_promote_0 rfl (lv_at hl 0 rfl) ?_
  refine lv_aload_n hx hb dX8_promote_1 rfl (lv_at hl 0 rfl) ?_
  refine lv_iload_n hx hb dX8_promote_2 rfl (lv_at hl 1 rfl) ?_
  refine vp_callSi (W.runV (As := [.int a1]) (rest := [.ref h0]) ⟨hx, hb, hml, hown, hts⟩ (c_isAccount l dC dI s.heap.size t h0 ac cu dd th a1 ed) (cwV 1 hts (zg_V kw_1432 kw_1434 kw_41 kw_70 kw_1435) rfl rfl rfl (by decide +kernel) ⟨Nat.le_of_ble_eq_true rfl, Nat.le_of_ble_eq_true rfl⟩) ⟨zA_blind, va_recv hK hP (ci := 7) (q0 := 0) rfl rfl, zA_pre hP hD hS hK hQ hA [0, 1] rfl rfl (by decide) [] rfl⟩ rfl rfl hl.1 rfl (lv_room (Nat.le_of_ble_eq_true rfl)) dX8_promote_3 ⟨zl_b rfl, zl_b rfl⟩) (fun r hr => ?_)
  subst hr
  refine lv_iconst (v := 1) hx hb dX8_promote_6 (by decide) ?_
  have hFc := va_free (wc := [(h0, .inr (7, [.ref ac, cu, .int dd, .int th]))]) hD hS hA [0] rfl
  refine va_calli (va_runV (As := [.int 0, .int 1]) (rest := []) ⟨hx, hb, hml, hown, hts⟩ (c_no0 l dC dI s.heap.size t h0 (.ref ac) cu dd th 1) (cwV 2 hts (zg_V kw_1377 kw_1379 kw_40 kw_70 kw_1380) rfl rfl rfl (by decide +kernel) ⟨Nat.le_of_ble_eq_true rfl, Nat.le_of_ble_eq_true rfl⟩) ⟨zA_blind, va_recv hK hP (ci := 7) (q0 := 0) rfl rfl, zA_pre hP hD hS hK hQ hA [0] rfl rfl (by decide) [] rfl⟩ rfl rfl hl.1 rfl (lv_room (Nat.le_of_ble_eq_true rfl)) dX8_promote_7 ⟨zl_b rfl, zl_b rfl⟩) hS (fun q _ h => hFc q h) hFc (fun r_1 u t9 H1 locs ht hvm hw hB hz1 hk1 hS => ?_)
  obtain ⟨hP1, hK1, hD1⟩ := hB
  rw [ht] at hP1
  have hK1 := va_K.moved hvm.symm hK1
  obtain ⟨hP, hD⟩ := va_join (wr := [(ac, .inr (0, [.int 0, ed, .int 0]))]) (w1 := [(h0, .inr (7, [.ref ac, cu, .int dd, .int 1]))]) hP hD [0] [1] rfl rfl (by decide) (by decide) hk1 hFc hP1 hD1
  have hK := (hK.sub (tys' := []) [] rfl).app hK1
  generalize H1 = H at hP hS ⊢
  have hP : va_P (dC, dI) zc [(ac, .inr (0, [.int 0, ed, .int 0])), (h0, .inr (7, [.ref ac, cu, .int dd, .int 1]))] H := hP
  have hD : va_D A [(ac, .inr (0, [.int 0, ed, .int 0])), (h0, .inr (7, [.ref ac, cu, .int dd, .int 1]))] := hD
  have hK : va_K (dC, dI) zc [] s := hK
  have hw : 1 = r_1 := hw.symm
  subst hw
  refine lv_if_ne (tgt := 61) hx hb dX8_promote_10 (by decide) (fun c_2 => ?_) (fun c_2 => absurd c_2 (by decide))
  refine lv_iconst (v := 0) hx hb dX8_promote_61 (by decide) ?_
  have hP9 := hP.sub (ws' := [(h0, .inr (7, [.ref ac, cu, .int dd, .int 1])), (ac, .inr (0, [.int 0, ed, .int 0]))]) [1, 0] rfl
  have hD9 := hD.sub (ws' := [(h0, .inr (7, [.ref ac, cu, .int dd, .int 1])), (ac, .inr (0, [.int 0, ed, .int 0]))]) [1, 0] (by decide) rfl
  have hK9 := hK.sub (tys' := []) [] rfl
  exact W.iret hx hb hr (fun t ht hW => ⟨⟨_, (), rfl, trivial, by rw [ht]; exact hP9, va_K.moved hW.alike hK9, hD9⟩, hS.F ht⟩) hS.2.2 dX8_promote_62
set_option maxHeartbeats 4000000 in
set_option maxRecDepth 100000 in
/-- buy of the model: no such account -/
theorem m_buy (l : Launch) (dC : Nat → ClassId) (dI : Nat → Nat → Nat) (sz t : Nat) (h0 ac : Nat) (cu : Value) (dd th : Int32) (ed : Value) (a1 a2 a3 : Int32) : Met l yX8_buy ws_X8_buy ({ frames := 3, cells := 0, slots := 0, locals := 55 }) (zA dC dI [(h0, .inr (7, [.ref ac, cu, .int dd, .int th])), (ac, .inr (0, [.int 0, ed, .int 0]))] [] sz t [.ref h0, .int a1, .int a2, .int a3]) (va_Qi (fun r (_ : Unit) => True) (fun _ t9 => zB dC dI (va_A [(h0, .inr (7, [.ref ac, cu, .int dd, .int th])), (ac, .inr (0, [.int 0, ed, .int 0]))] sz) [(h0, .inr (7, [.ref ac, cu, .int dd, .int 1])), (ac, .inr (0, [.int 0, ed, .int 0]))] [] t9) (va_A [(h0, .inr (7, [.ref ac, cu, .int dd, .int th])), (ac, .inr (0, [.int 0, ed, .int 0]))] sz)) 0 0 (va_A [(h0, .inr (7, [.ref ac, cu, .int dd, .int th])), (ac, .inr (0, [.int 0, ed, .int 0]))] sz) := by
  refine Met.ofW (cc := cX8_buy) (maxL := 4) (ret := (some .int)) (by decide) rfl ?_
  intro p e s m args below meth c s₁ B hml hv
  obtain ⟨rfl, hsz, hP, hK, hD0, hQ⟩ := hv
  have hx := B.exec
  have hb := B.bytes
  have hr := B.returns
  have hts : ∀ w ∈ zG, w.before _ s = true := fun w h => atoms_spec (ws := ws_X8_buy) B.pre w (List.mem_cons_of_mem _ h)
  have hown : s.vm.findClass RX8 = some m.cls := findClass_of_methodNamed B.named
  have hlocks := B.notSynchronized
  subst hsz
  have hD := hD0.self (sz := s.heap.size)
  generalize hAe : va_A [(h0, .inr (7, [.ref ac, cu, .int dd, .int th])), (ac, .inr (0, [.int 0, ed, .int 0]))] s.heap.size = A at hD hQ ⊢
  have hA : ∀ q : Nat, s.heap.size ≤ q → A q := fun q h => by rw [← hAe]; exact Or.inr h
  have hS : va_S A s.heap s.heap [] := va_S.rf
  have hP : va_P (dC, dI) zc [(h0, .inr (7, [.ref ac, cu, .int dd, .int th])), (ac, .inr (0, [.int 0, ed, .int 0]))] s.heap := hP
  have hl := lv_entry ([.ref h0, .int a1, .int a2, .int a3]) (n := 4) (Nat.le_of_ble_eq_true rfl)
  rw [lg_entry_eq]
  generalize (lg_sl ([.ref h0, .int a1, .int a2, .int a3]) ++ List.replicate (4 - (lg_sl ([.ref h0, .int a1, .int a2, .int a3])).length) Slot.unset).toArray = ls at hl ⊢
  have hl : lv_has ls 4 [(0, .ref h0), (1, .int a1), (2, .int a2), (3, .int a3)] := hl
  refine lv_aload_n hx hb dX8_buy_0 rfl (lv_at hl 0 rfl) ?_
  refine lv_aload_n hx hb dX8_buy_1 rfl (lv_at hl 0 rfl) ?_
  refine lv_iload_n hx hb dX8_buy_2 rfl (lv_at hl 1 rfl) ?_
  refine vp_callSi (W.runV (As := [.int a1]) (rest := [.ref h0]) ⟨hx, hb, hml, hown, hts⟩ (c_isAccount l dC dI s.heap.size t h0 ac cu dd th a1 ed) (cwV 1 hts (zg_V kw_1432 kw_1434 kw_41 kw_70 kw_1435) rfl rfl rfl (by decide +kernel) ⟨Nat.le_of_ble_eq_true rfl, Nat.le_of_ble_eq_true rfl⟩) ⟨zA_blind, va_recv hK hP (ci := 7) (q0 := 0) rfl rfl, zA_pre hP hD hS hK hQ hA [0, 1] rfl rfl (by decide) [] rfl⟩ rfl rfl hl.1 rfl (lv_room (Nat.le_of_ble_eq_true rfl)) dX8_buy_3 ⟨zl_b rfl, zl_b rfl⟩) (fun r hr => ?_)
  subst hr
  refine lv_iconst (v := 1) hx hb dX8_buy_6 (by decide) ?_
  have hFc := va_free (wc := [(h0, .inr (7, [.ref ac, cu, .int dd, .int th]))]) hD hS hA [0] rfl
  refine va_calli (va_runV (As := [.int 0, .int 1]) (rest := []) ⟨hx, hb, hml, hown, hts⟩ (c_no0 l dC dI s.heap.size t h0 (.ref ac) cu dd th 1) (cwV 2 hts (zg_V kw_1377 kw_1379 kw_40 kw_70 kw_1380) rfl rfl rfl (by decide +kernel) ⟨Nat.le_of_ble_eq_true rfl, Nat.le_of_ble_eq_true rfl⟩) ⟨zA_blind, va_recv hK hP (ci := 7) (q0 := 0) rfl rfl, zA_pre hP hD hS hK hQ hA [0] rfl rfl (by decide) [] rfl⟩ rfl rfl hl.1 rfl (lv_room (Nat.le_of_ble_eq_true rfl)) dX8_buy_7 ⟨zl_b rfl, zl_b rfl⟩) hS (fun q _ h => hFc q h) hFc (fun r_1 u t9 H1 locs ht hvm hw hB hz1 hk1 hS => ?_)
  obtain ⟨hP1, hK1, hD1⟩ := hB
  rw [ht] at hP1
  have hK1 := va_K.moved hvm.symm hK1
  obtain ⟨hP, hD⟩ := va_join (wr := [(ac, .inr (0, [.int 0, ed, .int 0]))]) (w1 := [(h0, .inr (7, [.ref ac, cu, .int dd, .int 1]))]) hP hD [0] [1] rfl rfl (by decide) (by decide) hk1 hFc hP1 hD1
  have hK := (hK.sub (tys' := []) [] rfl).app hK1
  generalize H1 = H at hP hS ⊢
  have hP : va_P (dC, dI) zc [(ac, .inr (0, [.int 0, ed, .int 0])), (h0, .inr (7, [.ref ac, cu, .int dd, .int 1]))] H := hP
  have hD : va_D A [(ac, .inr (0, [.int 0, ed, .int 0])), (h0, .inr (7, [.ref ac, cu, .int dd, .int 1]))] := hD
  have hK : va_K (dC, dI) zc [] s := hK
  have hw : 1 = r_1 := hw.symm
  subst hw
  refine lv_if_ne (tgt := 83) hx hb dX8_buy_10 (by decide) (fun c_2 => ?_) (fun c_2 => absurd c_2 (by decide))
  refine lv_iconst (v := 0) hx hb dX8_buy_83 (by decide) ?_
  have hP9 := hP.sub (ws' := [(h0, .inr (7, [.ref ac, cu, .int dd, .int 1])), (ac, .inr (0, [.int 0, ed, .int 0]))]) [1, 0] rfl
  have hD9 := hD.sub (ws' := [(h0, .inr (7, [.ref ac, cu, .int dd, .int 1])), (ac, .inr (0, [.int 0, ed, .int 0]))]) [1, 0] (by decide) rfl
  have hK9 := hK.sub (tys' := []) [] rfl
  exact W.iret hx hb hr (fun t ht hW => ⟨⟨_, (), rfl, trivial, by rw [ht]; exact hP9, va_K.moved hW.alike hK9, hD9⟩, hS.F ht⟩) hS.2.2 dX8_buy_84
set_option maxHeartbeats 4000000 in
set_option maxRecDepth 100000 in
/-- buyOn of the model: no such account -/
theorem m_buyOn (l : Launch) (dC : Nat → ClassId) (dI : Nat → Nat → Nat) (sz t : Nat) (h0 ac : Nat) (cu : Value) (dd th : Int32) (ed : Value) (a1 a2 a3 a4 : Int32) : Met l yX8_buyOn ws_X8_buyOn ({ frames := 3, cells := 0, slots := 0, locals := 55 }) (zA dC dI [(h0, .inr (7, [.ref ac, cu, .int dd, .int th])), (ac, .inr (0, [.int 0, ed, .int 0]))] [] sz t [.ref h0, .int a1, .int a2, .int a3, .int a4]) (va_Qi (fun r (_ : Unit) => True) (fun _ t9 => zB dC dI (va_A [(h0, .inr (7, [.ref ac, cu, .int dd, .int th])), (ac, .inr (0, [.int 0, ed, .int 0]))] sz) [(h0, .inr (7, [.ref ac, cu, .int dd, .int 1])), (ac, .inr (0, [.int 0, ed, .int 0]))] [] t9) (va_A [(h0, .inr (7, [.ref ac, cu, .int dd, .int th])), (ac, .inr (0, [.int 0, ed, .int 0]))] sz)) 0 0 (va_A [(h0, .inr (7, [.ref ac, cu, .int dd, .int th])), (ac, .inr (0, [.int 0, ed, .int 0]))] sz) := by
  refine Met.ofW (cc := cX8_buyOn) (maxL := 5) (ret := (some .int)) (by decide) rfl ?_
  intro p e s m args below meth c s₁ B hml hv
  obtain ⟨rfl, hsz, hP, hK, hD0, hQ⟩ := hv
  have hx := B.exec
  have hb := B.bytes
  have hr := B.returns
  have hts : ∀ w ∈ zG, w.before _ s = true := fun w h => atoms_spec (ws := ws_X8_buyOn) B.pre w (List.mem_cons_of_mem _ h)
  have hown : s.vm.findClass RX8 = some m.cls := findClass_of_methodNamed B.named
  have hlocks := B.notSynchronized
  subst hsz
  have hD := hD0.self (sz := s.heap.size)
  generalize hAe : va_A [(h0, .inr (7, [.ref ac, cu, .int dd, .int th])), (ac, .inr (0, [.int 0, ed, .int 0]))] s.heap.size = A at hD hQ ⊢
  have hA : ∀ q : Nat, s.heap.size ≤ q → A q := fun q h => by rw [← hAe]; exact Or.inr h
  have hS : va_S A s.heap s.heap [] := va_S.rf
  have hP : va_P (dC, dI) zc [(h0, .inr (7, [.ref ac, cu, .int dd, .int th])), (ac, .inr (0, [.int 0, ed, .int 0]))] s.heap := hP
  have hl := lv_entry ([.ref h0, .int a1, .int a2, .int a3, .int a4]) (n := 5) (Nat.le_of_ble_eq_true rfl)
  rw [lg_entry_eq]
  generalize (lg_sl ([.ref h0, .int a1, .int a2, .int a3, .int a4]) ++ List.replicate (5 - (lg_sl ([.ref h0, .int a1, .int a2, .int a3, .int a4])).length) Slot.unset).toArray = ls at hl ⊢
  have hl : lv_has ls 5 [(0, .ref h0), (1, .int a1), (2, .int a2), (3, .int a3), (4, .int a4)] := hl
  refine lv_aload_n hx hb dX8_buyOn_0 rfl (lv_at hl 0 rfl) ?_
  refine lv_aload_n hx hb dX8_buyOn_1 rfl (lv_at hl 0 rfl) ?_
  refine lv_iload_n hx hb dX8_buyOn_2 rfl (lv_at hl 1 rfl) ?_
  refine vp_callSi (W.runV (As := [.int a1]) (rest := [.ref h0]) ⟨hx, hb, hml, hown, hts⟩ (c_isAccount l dC dI s.heap.size t h0 ac cu dd th a1 ed) (cwV 1 hts (zg_V kw_1432 kw_1434 kw_41 kw_70 kw_1435) rfl rfl rfl (by decide +kernel) ⟨Nat.le_of_ble_eq_true rfl, Nat.le_of_ble_eq_true rfl⟩) ⟨zA_blind, va_recv hK hP (ci := 7) (q0 := 0) rfl rfl, zA_pre hP hD hS hK hQ hA [0, 1] rfl rfl (by decide) [] rfl⟩ rfl rfl hl.1 rfl (lv_room (Nat.le_of_ble_eq_true rfl)) dX8_buyOn_3 ⟨zl_b rfl, zl_b rfl⟩) (fun r hr => ?_)
  subst hr
  refine lv_iconst (v := 1) hx hb dX8_buyOn_6 (by decide) ?_
  have hFc := va_free (wc := [(h0, .inr (7, [.ref ac, cu, .int dd, .int th]))]) hD hS hA [0] rfl
  refine va_calli (va_runV (As := [.int 0, .int 1]) (rest := []) ⟨hx, hb, hml, hown, hts⟩ (c_no0 l dC dI s.heap.size t h0 (.ref ac) cu dd th 1) (cwV 2 hts (zg_V kw_1377 kw_1379 kw_40 kw_70 kw_1380) rfl rfl rfl (by decide +kernel) ⟨Nat.le_of_ble_eq_true rfl, Nat.le_of_ble_eq_true rfl⟩) ⟨zA_blind, va_recv hK hP (ci := 7) (q0 := 0) rfl rfl, zA_pre hP hD hS hK hQ hA [0] rfl rfl (by decide) [] rfl⟩ rfl rfl hl.1 rfl (lv_room (Nat.le_of_ble_eq_true rfl)) dX8_buyOn_7 ⟨zl_b rfl, zl_b rfl⟩) hS (fun q _ h => hFc q h) hFc (fun r_1 u t9 H1 locs ht hvm hw hB hz1 hk1 hS => ?_)
  obtain ⟨hP1, hK1, hD1⟩ := hB
  rw [ht] at hP1
  have hK1 := va_K.moved hvm.symm hK1
  obtain ⟨hP, hD⟩ := va_join (wr := [(ac, .inr (0, [.int 0, ed, .int 0]))]) (w1 := [(h0, .inr (7, [.ref ac, cu, .int dd, .int 1]))]) hP hD [0] [1] rfl rfl (by decide) (by decide) hk1 hFc hP1 hD1
  have hK := (hK.sub (tys' := []) [] rfl).app hK1
  generalize H1 = H at hP hS ⊢
  have hP : va_P (dC, dI) zc [(ac, .inr (0, [.int 0, ed, .int 0])), (h0, .inr (7, [.ref ac, cu, .int dd, .int 1]))] H := hP
  have hD : va_D A [(ac, .inr (0, [.int 0, ed, .int 0])), (h0, .inr (7, [.ref ac, cu, .int dd, .int 1]))] := hD
  have hK : va_K (dC, dI) zc [] s := hK
  have hw : 1 = r_1 := hw.symm
  subst hw
  refine lv_if_ne (tgt := 69) hx hb dX8_buyOn_10 (by decide) (fun c_2 => ?_) (fun c_2 => absurd c_2 (by decide))
  refine lv_iconst (v := 0) hx hb dX8_buyOn_69 (by decide) ?_
  have hP9 := hP.sub (ws' := [(h0, .inr (7, [.ref ac, cu, .int dd, .int 1])), (ac, .inr (0, [.int 0, ed, .int 0]))]) [1, 0] rfl
  have hD9 := hD.sub (ws' := [(h0, .inr (7, [.ref ac, cu, .int dd, .int 1])), (ac, .inr (0, [.int 0, ed, .int 0]))]) [1, 0] (by decide) rfl
  have hK9 := hK.sub (tys' := []) [] rfl
  exact W.iret hx hb hr (fun t ht hW => ⟨⟨_, (), rfl, trivial, by rw [ht]; exact hP9, va_K.moved hW.alike hK9, hD9⟩, hS.F ht⟩) hS.2.2 dX8_buyOn_70
set_option maxHeartbeats 4000000 in
set_option maxRecDepth 100000 in
/-- abroad of the model: no such account -/
theorem m_abroad (l : Launch) (dC : Nat → ClassId) (dI : Nat → Nat → Nat) (sz t : Nat) (h0 ac : Nat) (cu : Value) (dd th : Int32) (ed : Value) (a1 a2 a3 : Int32) : Met l yX8_abroad ws_X8_abroad ({ frames := 3, cells := 0, slots := 0, locals := 55 }) (zA dC dI [(h0, .inr (7, [.ref ac, cu, .int dd, .int th])), (ac, .inr (0, [.int 0, ed, .int 0]))] [] sz t [.ref h0, .int a1, .int a2, .int a3]) (va_Qi (fun r (_ : Unit) => True) (fun _ t9 => zB dC dI (va_A [(h0, .inr (7, [.ref ac, cu, .int dd, .int th])), (ac, .inr (0, [.int 0, ed, .int 0]))] sz) [(h0, .inr (7, [.ref ac, cu, .int dd, .int 1])), (ac, .inr (0, [.int 0, ed, .int 0]))] [] t9) (va_A [(h0, .inr (7, [.ref ac, cu, .int dd, .int th])), (ac, .inr (0, [.int 0, ed, .int 0]))] sz)) 0 0 (va_A [(h0, .inr (7, [.ref ac, cu, .int dd, .int th])), (ac, .inr (0, [.int 0, ed, .int 0]))] sz) := by
  refine Met.ofW (cc := cX8_abroad) (maxL := 6) (ret := (some .int)) (by decide) rfl ?_
  intro p e s m args below meth c s₁ B hml hv
  obtain ⟨rfl, hsz, hP, hK, hD0, hQ⟩ := hv
  have hx := B.exec
  have hb := B.bytes
  have hr := B.returns
  have hts : ∀ w ∈ zG, w.before _ s = true := fun w h => atoms_spec (ws := ws_X8_abroad) B.pre w (List.mem_cons_of_mem _ h)
  have hown : s.vm.findClass RX8 = some m.cls := findClass_of_methodNamed B.named
  have hlocks := B.notSynchronized
  subst hsz
  have hD := hD0.self (sz := s.heap.size)
  generalize hAe : va_A [(h0, .inr (7, [.ref ac, cu, .int dd, .int th])), (ac, .inr (0, [.int 0, ed, .int 0]))] s.heap.size = A at hD hQ ⊢
  have hA : ∀ q : Nat, s.heap.size ≤ q → A q := fun q h => by rw [← hAe]; exact Or.inr h
  have hS : va_S A s.heap s.heap [] := va_S.rf
  have hP : va_P (dC, dI) zc [(h0, .inr (7, [.ref ac, cu, .int dd, .int th])), (ac, .inr (0, [.int 0, ed, .int 0]))] s.heap := hP
  have hl := lv_entry ([.ref h0, .int a1, .int a2, .int a3]) (n := 6) (Nat.le_of_ble_eq_true rfl)
  rw [lg_entry_eq]
  generalize (lg_sl ([.ref h0, .int a1, .int a2, .int a3]) ++ List.replicate (6 - (lg_sl ([.ref h0, .int a1, .int a2, .int a3])).length) Slot.unset).toArray = ls at hl ⊢
  have hl : lv_has ls 6 [(0, .ref h0), (1, .int a1), (2, .int a2), (3, .int a3)] := hl
  refine lv_aload_n hx hb dX8_abroad_0 rfl (lv_at hl 0 rfl) ?_
  refine lv_aload_n hx hb dX8_abroad_1 rfl (lv_at hl 0 rfl) ?_
  refine lv_iload_n hx hb dX8_abroad_2 rfl (lv_at hl 1 rfl) ?_
  refine vp_callSi (W.runV (As := [.int a1]) (rest := [.ref h0]) ⟨hx, hb, hml, hown, hts⟩ (c_isAccount l dC dI s.heap.size t h0 ac cu dd th a1 ed) (cwV 1 hts (zg_V kw_1432 kw_1434 kw_41 kw_70 kw_1435) rfl rfl rfl (by decide +kernel) ⟨Nat.le_of_ble_eq_true rfl, Nat.le_of_ble_eq_true rfl⟩) ⟨zA_blind, va_recv hK hP (ci := 7) (q0 := 0) rfl rfl, zA_pre hP hD hS hK hQ hA [0, 1] rfl rfl (by decide) [] rfl⟩ rfl rfl hl.1 rfl (lv_room (Nat.le_of_ble_eq_true rfl)) dX8_abroad_3 ⟨zl_b rfl, zl_b rfl⟩) (fun r hr => ?_)
  subst hr
  refine lv_iconst (v := 1) hx hb dX8_abroad_6 (by decide) ?_
  have hFc := va_free (wc := [(h0, .inr (7, [.ref ac, cu, .int dd, .int th]))]) hD hS hA [0] rfl
  refine va_calli (va_runV (As := [.int 0, .int 1]) (rest := []) ⟨hx, hb, hml, hown, hts⟩ (c_no0 l dC dI s.heap.size t h0 (.ref ac) cu dd th 1) (cwV 2 hts (zg_V kw_1377 kw_1379 kw_40 kw_70 kw_1380) rfl rfl rfl (by decide +kernel) ⟨Nat.le_of_ble_eq_true rfl, Nat.le_of_ble_eq_true rfl⟩) ⟨zA_blind, va_recv hK hP (ci := 7) (q0 := 0) rfl rfl, zA_pre hP hD hS hK hQ hA [0] rfl rfl (by decide) [] rfl⟩ rfl rfl hl.1 rfl (lv_room (Nat.le_of_ble_eq_true rfl)) dX8_abroad_7 ⟨zl_b rfl, zl_b rfl⟩) hS (fun q _ h => hFc q h) hFc (fun r_1 u t9 H1 locs ht hvm hw hB hz1 hk1 hS => ?_)
  obtain ⟨hP1, hK1, hD1⟩ := hB
  rw [ht] at hP1
  have hK1 := va_K.moved hvm.symm hK1
  obtain ⟨hP, hD⟩ := va_join (wr := [(ac, .inr (0, [.int 0, ed, .int 0]))]) (w1 := [(h0, .inr (7, [.ref ac, cu, .int dd, .int 1]))]) hP hD [0] [1] rfl rfl (by decide) (by decide) hk1 hFc hP1 hD1
  have hK := (hK.sub (tys' := []) [] rfl).app hK1
  generalize H1 = H at hP hS ⊢
  have hP : va_P (dC, dI) zc [(ac, .inr (0, [.int 0, ed, .int 0])), (h0, .inr (7, [.ref ac, cu, .int dd, .int 1]))] H := hP
  have hD : va_D A [(ac, .inr (0, [.int 0, ed, .int 0])), (h0, .inr (7, [.ref ac, cu, .int dd, .int 1]))] := hD
  have hK : va_K (dC, dI) zc [] s := hK
  have hw : 1 = r_1 := hw.symm
  subst hw
  refine lv_if_ne (tgt := 46) hx hb dX8_abroad_10 (by decide) (fun c_2 => ?_) (fun c_2 => absurd c_2 (by decide))
  refine lv_iconst (v := 0) hx hb dX8_abroad_46 (by decide) ?_
  have hP9 := hP.sub (ws' := [(h0, .inr (7, [.ref ac, cu, .int dd, .int 1])), (ac, .inr (0, [.int 0, ed, .int 0]))]) [1, 0] rfl
  have hD9 := hD.sub (ws' := [(h0, .inr (7, [.ref ac, cu, .int dd, .int 1])), (ac, .inr (0, [.int 0, ed, .int 0]))]) [1, 0] (by decide) rfl
  have hK9 := hK.sub (tys' := []) [] rfl
  exact W.iret hx hb hr (fun t ht hW => ⟨⟨_, (), rfl, trivial, by rw [ht]; exact hP9, va_K.moved hW.alike hK9, hD9⟩, hS.F ht⟩) hS.2.2 dX8_abroad_47
set_option maxHeartbeats 4000000 in
set_option maxRecDepth 100000 in
/-- pay of the model: no such account -/
theorem m_pay (l : Launch) (dC : Nat → ClassId) (dI : Nat → Nat → Nat) (sz t : Nat) (h0 ac : Nat) (cu : Value) (dd th : Int32) (ed : Value) (a1 a2 : Int32) : Met l yX8_pay ws_X8_pay ({ frames := 3, cells := 0, slots := 0, locals := 55 }) (zA dC dI [(h0, .inr (7, [.ref ac, cu, .int dd, .int th])), (ac, .inr (0, [.int 0, ed, .int 0]))] [] sz t [.ref h0, .int a1, .int a2]) (va_Qi (fun r (_ : Unit) => True) (fun _ t9 => zB dC dI (va_A [(h0, .inr (7, [.ref ac, cu, .int dd, .int th])), (ac, .inr (0, [.int 0, ed, .int 0]))] sz) [(h0, .inr (7, [.ref ac, cu, .int dd, .int 1])), (ac, .inr (0, [.int 0, ed, .int 0]))] [] t9) (va_A [(h0, .inr (7, [.ref ac, cu, .int dd, .int th])), (ac, .inr (0, [.int 0, ed, .int 0]))] sz)) 0 0 (va_A [(h0, .inr (7, [.ref ac, cu, .int dd, .int th])), (ac, .inr (0, [.int 0, ed, .int 0]))] sz) := by
  refine Met.ofW (cc := cX8_pay) (maxL := 3) (ret := (some .int)) (by decide) rfl ?_
  intro p e s m args below meth c s₁ B hml hv
  obtain ⟨rfl, hsz, hP, hK, hD0, hQ⟩ := hv
  have hx := B.exec
  have hb := B.bytes
  have hr := B.returns
  have hts : ∀ w ∈ zG, w.before _ s = true := fun w h => atoms_spec (ws := ws_X8_pay) B.pre w (List.mem_cons_of_mem _ h)
  have hown : s.vm.findClass RX8 = some m.cls := findClass_of_methodNamed B.named
  have hlocks := B.notSynchronized
  subst hsz
  have hD := hD0.self (sz := s.heap.size)
  generalize hAe : va_A [(h0, .inr (7, [.ref ac, cu, .int dd, .int th])), (ac, .inr (0, [.int 0, ed, .int 0]))] s.heap.size = A at hD hQ ⊢
  have hA : ∀ q : Nat, s.heap.size ≤ q → A q := fun q h => by rw [← hAe]; exact Or.inr h
  have hS : va_S A s.heap s.heap [] := va_S.rf
  have hP : va_P (dC, dI) zc [(h0, .inr (7, [.ref ac, cu, .int dd, .int th])), (ac, .inr (0, [.int 0, ed, .int 0]))] s.heap := hP
  have hl := lv_entry ([.ref h0, .int a1, .int a2]) (n := 3) (Nat.le_of_ble_eq_true rfl)
  rw [lg_entry_eq]
  generalize (lg_sl ([.ref h0, .int a1, .int a2]) ++ List.replicate (3 - (lg_sl ([.ref h0, .int a1, .int a2])).length) Slot.unset).toArray = ls at hl ⊢
  have hl : lv_has ls 3 [(0, .ref h0), (1, .int a1), (2, .int a2)] := hl
  refine lv_aload_n hx hb dX8_pay_0 rfl (lv_at hl 0 rfl) ?_
  refine lv_aload_n hx hb dX8_pay_1 rfl (lv_at hl 0 rfl) ?_
  refine lv_iload_n hx hb dX8_pay_2 rfl (lv_at hl 1 rfl) ?_
  refine vp_callSi (W.runV (As := [.int a1]) (rest := [.ref h0]) ⟨hx, hb, hml, hown, hts⟩ (c_isAccount l dC dI s.heap.size t h0 ac cu dd th a1 ed) (cwV 1 hts (zg_V kw_1432 kw_1434 kw_41 kw_70 kw_1435) rfl rfl rfl (by decide +kernel) ⟨Nat.le_of_ble_eq_true rfl, Nat.le_of_ble_eq_true rfl⟩) ⟨zA_blind, va_recv hK hP (ci := 7) (q0 := 0) rfl rfl, zA_pre hP hD hS hK hQ hA [0, 1] rfl rfl (by decide) [] rfl⟩ rfl rfl hl.1 rfl (lv_room (Nat.le_of_ble_eq_true rfl)) dX8_pay_3 ⟨zl_b rfl, zl_b rfl⟩) (fun r hr => ?_)
  subst hr
  refine lv_iconst (v := 1) hx hb dX8_pay_6 (by decide) ?_
  have hFc := va_free (wc := [(h0, .inr (7, [.ref ac, cu, .int dd, .int th]))]) hD hS hA [0] rfl
  refine va_calli (va_runV (As := [.int 0, .int 1]) (rest := []) ⟨hx, hb, hml, hown, hts⟩ (c_no0 l dC dI s.heap.size t h0 (.ref ac) cu dd th 1) (cwV 2 hts (zg_V kw_1377 kw_1379 kw_40 kw_70 kw_1380) rfl rfl rfl (by decide +kernel) ⟨Nat.le_of_ble_eq_true rfl, Nat.le_of_ble_eq_true rfl⟩) ⟨zA_blind, va_recv hK hP (ci := 7) (q0 := 0) rfl rfl, zA_pre hP hD hS hK hQ hA [0] rfl rfl (by decide) [] rfl⟩ rfl rfl hl.1 rfl (lv_room (Nat.le_of_ble_eq_true rfl)) dX8_pay_7 ⟨zl_b rfl, zl_b rfl⟩) hS (fun q _ h => hFc q h) hFc (fun r_1 u t9 H1 locs ht hvm hw hB hz1 hk1 hS => ?_)
  obtain ⟨hP1, hK1, hD1⟩ := hB
  rw [ht] at hP1
  have hK1 := va_K.moved hvm.symm hK1
  obtain ⟨hP, hD⟩ := va_join (wr := [(ac, .inr (0, [.int 0, ed, .int 0]))]) (w1 := [(h0, .inr (7, [.ref ac, cu, .int dd, .int 1]))]) hP hD [0] [1] rfl rfl (by decide) (by decide) hk1 hFc hP1 hD1
  have hK := (hK.sub (tys' := []) [] rfl).app hK1
  generalize H1 = H at hP hS ⊢
  have hP : va_P (dC, dI) zc [(ac, .inr (0, [.int 0, ed, .int 0])), (h0, .inr (7, [.ref ac, cu, .int dd, .int 1]))] H := hP
  have hD : va_D A [(ac, .inr (0, [.int 0, ed, .int 0])), (h0, .inr (7, [.ref ac, cu, .int dd, .int 1]))] := hD
  have hK : va_K (dC, dI) zc [] s := hK
  have hw : 1 = r_1 := hw.symm
  subst hw
  refine lv_if_ne (tgt := 41) hx hb dX8_pay_10 (by decide) (fun c_2 => ?_) (fun c_2 => absurd c_2 (by decide))
  refine lv_iconst (v := 0) hx hb dX8_pay_41 (by decide) ?_
  have hP9 := hP.sub (ws' := [(h0, .inr (7, [.ref ac, cu, .int dd, .int 1])), (ac, .inr (0, [.int 0, ed, .int 0]))]) [1, 0] rfl
  have hD9 := hD.sub (ws' := [(h0, .inr (7, [.ref ac, cu, .int dd, .int 1])), (ac, .inr (0, [.int 0, ed, .int 0]))]) [1, 0] (by decide) rfl
  have hK9 := hK.sub (tys' := []) [] rfl
  exact W.iret hx hb hr (fun t ht hW => ⟨⟨_, (), rfl, trivial, by rw [ht]; exact hP9, va_K.moved hW.alike hK9, hD9⟩, hS.F ht⟩) hS.2.2 dX8_pay_42
set_option maxHeartbeats 4000000 in
set_option maxRecDepth 100000 in
/-- returns of the model: no such account -/
theorem m_returns (l : Launch) (dC : Nat → ClassId) (dI : Nat → Nat → Nat) (sz t : Nat) (h0 ac : Nat) (cu : Value) (dd th : Int32) (ed : Value) (a1 a2 : Int32) : Met l yX8_returns ws_X8_returns ({ frames := 4, cells := 0, slots := 0, locals := 77 }) (zA dC dI [(h0, .inr (7, [.ref ac, cu, .int dd, .int th])), (ac, .inr (0, [.int 0, ed, .int 0]))] [] sz t [.ref h0, .int a1, .int a2]) (va_Qi (fun r (_ : Unit) => True) (fun _ t9 => zB dC dI (va_A [(h0, .inr (7, [.ref ac, cu, .int dd, .int th])), (ac, .inr (0, [.int 0, ed, .int 0]))] sz) [(h0, .inr (7, [.ref ac, cu, .int dd, .int 1])), (ac, .inr (0, [.int 0, ed, .int 0]))] [] t9) (va_A [(h0, .inr (7, [.ref ac, cu, .int dd, .int th])), (ac, .inr (0, [.int 0, ed, .int 0]))] sz)) 0 0 (va_A [(h0, .inr (7, [.ref ac, cu, .int dd, .int th])), (ac, .inr (0, [.int 0, ed, .int 0]))] sz) := by
  refine Met.ofW (cc := cX8_returns) (maxL := 3) (ret := (some .int)) (by decide) rfl ?_
  intro p e s m args below meth c s₁ B hml hv
  obtain ⟨rfl, hsz, hP, hK, hD0, hQ⟩ := hv
  have hx := B.exec
  have hb := B.bytes
  have hr := B.returns
  have hts : ∀ w ∈ zG, w.before _ s = true := fun w h => atoms_spec (ws := ws_X8_returns) B.pre w (List.mem_cons_of_mem _ h)
  have hown : s.vm.findClass RX8 = some m.cls := findClass_of_methodNamed B.named
  have hlocks := B.notSynchronized
  subst hsz
  have hD := hD0.self (sz := s.heap.size)
  generalize hAe : va_A [(h0, .inr (7, [.ref ac, cu, .int dd, .int th])), (ac, .inr (0, [.int 0, ed, .int 0]))] s.heap.size = A at hD hQ ⊢
  have hA : ∀ q : Nat, s.heap.size ≤ q → A q := fun q h => by rw [← hAe]; exact Or.inr h
  have hS : va_S A s.heap s.heap [] := va_S.rf
  have hP : va_P (dC, dI) zc [(h0, .inr (7, [.ref ac, cu, .int dd, .int th])), (ac, .inr (0, [.int 0, ed, .int 0]))] s.heap := hP
  have hl := lv_entry ([.ref h0, .int a1, .int a2]) (n := 3) (Nat.le_of_ble_eq_true rfl)
  rw [lg_entry_eq]
  generalize (lg_sl ([.ref h0, .int a1, .int a2]) ++ List.replicate (3 - (lg_sl ([.ref h0, .int a1, .int a2])).length) Slot.unset).toArray = ls at hl ⊢
  have hl : lv_has ls 3 [(0, .ref h0), (1, .int a1), (2, .int a2)] := hl
  refine lv_aload_n hx hb dX8_returns_0 rfl (lv_at hl 0 rfl) ?_
  refine lv_aload_n hx hb dX8_returns_1 rfl (lv_at hl 0 rfl) ?_
  refine lv_iload_n hx hb dX8_returns_2 rfl (lv_at hl 1 rfl) ?_
  refine lv_iload_n hx hb dX8_returns_3 rfl (lv_at hl 2 rfl) ?_
  refine vp_callSi (W.runV (As := [.int a1, .int a2]) (rest := [.ref h0]) ⟨hx, hb, hml, hown, hts⟩ (c_isEvent l dC dI s.heap.size t h0 ac cu dd th a1 a2 ed) (cwV 2 hts (zg_V kw_1802 kw_1804 kw_58 kw_70 kw_1805) rfl rfl rfl (by decide +kernel) ⟨Nat.le_of_ble_eq_true rfl, Nat.le_of_ble_eq_true rfl⟩) ⟨zA_blind, va_recv hK hP (ci := 7) (q0 := 0) rfl rfl, zA_pre hP hD hS hK hQ hA [0, 1] rfl rfl (by decide) [] rfl⟩ rfl rfl hl.1 rfl (lv_room (Nat.le_of_ble_eq_true rfl)) dX8_returns_4 ⟨zl_b rfl, zl_b rfl⟩) (fun r hr => ?_)
  subst hr
  refine lv_iconst (v := 1) hx hb dX8_returns_7 (by decide) ?_
  have hFc := va_free (wc := [(h0, .inr (7, [.ref ac, cu, .int dd, .int th]))]) hD hS hA [0] rfl
  refine va_calli (va_runV (As := [.int 0, .int 1]) (rest := []) ⟨hx, hb, hml, hown, hts⟩ (c_no0 l dC dI s.heap.size t h0 (.ref ac) cu dd th 1) (cwV 2 hts (zg_V kw_1377 kw_1379 kw_40 kw_70 kw_1380) rfl rfl rfl (by decide +kernel) ⟨Nat.le_of_ble_eq_true rfl, Nat.le_of_ble_eq_true rfl⟩) ⟨zA_blind, va_recv hK hP (ci := 7) (q0 := 0) rfl rfl, zA_pre hP hD hS hK hQ hA [0] rfl rfl (by decide) [] rfl⟩ rfl rfl hl.1 rfl (lv_room (Nat.le_of_ble_eq_true rfl)) dX8_returns_8 ⟨zl_b rfl, zl_b rfl⟩) hS (fun q _ h => hFc q h) hFc (fun r_1 u t9 H1 locs ht hvm hw hB hz1 hk1 hS => ?_)
  obtain ⟨hP1, hK1, hD1⟩ := hB
  rw [ht] at hP1
  have hK1 := va_K.moved hvm.symm hK1
  obtain ⟨hP, hD⟩ := va_join (wr := [(ac, .inr (0, [.int 0, ed, .int 0]))]) (w1 := [(h0, .inr (7, [.ref ac, cu, .int dd, .int 1]))]) hP hD [0] [1] rfl rfl (by decide) (by decide) hk1 hFc hP1 hD1
  have hK := (hK.sub (tys' := []) [] rfl).app hK1
  generalize H1 = H at hP hS ⊢
  have hP : va_P (dC, dI) zc [(ac, .inr (0, [.int 0, ed, .int 0])), (h0, .inr (7, [.ref ac, cu, .int dd, .int 1]))] H := hP
  have hD : va_D A [(ac, .inr (0, [.int 0, ed, .int 0])), (h0, .inr (7, [.ref ac, cu, .int dd, .int 1]))] := hD
  have hK : va_K (dC, dI) zc [] s := hK
  have hw : 1 = r_1 := hw.symm
  subst hw
  refine lv_if_ne (tgt := 66) hx hb dX8_returns_11 (by decide) (fun c_2 => ?_) (fun c_2 => absurd c_2 (by decide))
  refine lv_iconst (v := 0) hx hb dX8_returns_66 (by decide) ?_
  have hP9 := hP.sub (ws' := [(h0, .inr (7, [.ref ac, cu, .int dd, .int 1])), (ac, .inr (0, [.int 0, ed, .int 0]))]) [1, 0] rfl
  have hD9 := hD.sub (ws' := [(h0, .inr (7, [.ref ac, cu, .int dd, .int 1])), (ac, .inr (0, [.int 0, ed, .int 0]))]) [1, 0] (by decide) rfl
  have hK9 := hK.sub (tys' := []) [] rfl
  exact W.iret hx hb hr (fun t ht hW => ⟨⟨_, (), rfl, trivial, by rw [ht]; exact hP9, va_K.moved hW.alike hK9, hD9⟩, hS.F ht⟩) hS.2.2 dX8_returns_67
set_option maxHeartbeats 4000000 in
set_option maxRecDepth 100000 in
/-- dispute of the model: no such account -/
theorem m_dispute (l : Launch) (dC : Nat → ClassId) (dI : Nat → Nat → Nat) (sz t : Nat) (h0 ac : Nat) (cu : Value) (dd th : Int32) (ed : Value) (a1 a2 : Int32) : Met l yX8_dispute ws_X8_dispute ({ frames := 4, cells := 0, slots := 0, locals := 77 }) (zA dC dI [(h0, .inr (7, [.ref ac, cu, .int dd, .int th])), (ac, .inr (0, [.int 0, ed, .int 0]))] [] sz t [.ref h0, .int a1, .int a2]) (va_Qi (fun r (_ : Unit) => True) (fun _ t9 => zB dC dI (va_A [(h0, .inr (7, [.ref ac, cu, .int dd, .int th])), (ac, .inr (0, [.int 0, ed, .int 0]))] sz) [(h0, .inr (7, [.ref ac, cu, .int dd, .int 1])), (ac, .inr (0, [.int 0, ed, .int 0]))] [] t9) (va_A [(h0, .inr (7, [.ref ac, cu, .int dd, .int th])), (ac, .inr (0, [.int 0, ed, .int 0]))] sz)) 0 0 (va_A [(h0, .inr (7, [.ref ac, cu, .int dd, .int th])), (ac, .inr (0, [.int 0, ed, .int 0]))] sz) := by
  refine Met.ofW (cc := cX8_dispute) (maxL := 7) (ret := (some .int)) (by decide) rfl ?_
  intro p e s m args below meth c s₁ B hml hv
  obtain ⟨rfl, hsz, hP, hK, hD0, hQ⟩ := hv
  have hx := B.exec
  have hb := B.bytes
  have hr := B.returns
  have hts : ∀ w ∈ zG, w.before _ s = true := fun w h => atoms_spec (ws := ws_X8_dispute) B.pre w (List.mem_cons_of_mem _ h)
  have hown : s.vm.findClass RX8 = some m.cls := findClass_of_methodNamed B.named
  have hlocks := B.notSynchronized
  subst hsz
  have hD := hD0.self (sz := s.heap.size)
  generalize hAe : va_A [(h0, .inr (7, [.ref ac, cu, .int dd, .int th])), (ac, .inr (0, [.int 0, ed, .int 0]))] s.heap.size = A at hD hQ ⊢
  have hA : ∀ q : Nat, s.heap.size ≤ q → A q := fun q h => by rw [← hAe]; exact Or.inr h
  have hS : va_S A s.heap s.heap [] := va_S.rf
  have hP : va_P (dC, dI) zc [(h0, .inr (7, [.ref ac, cu, .int dd, .int th])), (ac, .inr (0, [.int 0, ed, .int 0]))] s.heap := hP
  have hl := lv_entry ([.ref h0, .int a1, .int a2]) (n := 7) (Nat.le_of_ble_eq_true rfl)
  rw [lg_entry_eq]
  generalize (lg_sl ([.ref h0, .int a1, .int a2]) ++ List.replicate (7 - (lg_sl ([.ref h0, .int a1, .int a2])).length) Slot.unset).toArray = ls at hl ⊢
  have hl : lv_has ls 7 [(0, .ref h0), (1, .int a1), (2, .int a2)] := hl
  refine lv_aload_n hx hb dX8_dispute_0 rfl (lv_at hl 0 rfl) ?_
  refine lv_aload_n hx hb dX8_dispute_1 rfl (lv_at hl 0 rfl) ?_
  refine lv_iload_n hx hb dX8_dispute_2 rfl (lv_at hl 1 rfl) ?_
  refine lv_iload_n hx hb dX8_dispute_3 rfl (lv_at hl 2 rfl) ?_
  refine vp_callSi (W.runV (As := [.int a1, .int a2]) (rest := [.ref h0]) ⟨hx, hb, hml, hown, hts⟩ (c_isEvent l dC dI s.heap.size t h0 ac cu dd th a1 a2 ed) (cwV 2 hts (zg_V kw_1802 kw_1804 kw_58 kw_70 kw_1805) rfl rfl rfl (by decide +kernel) ⟨Nat.le_of_ble_eq_true rfl, Nat.le_of_ble_eq_true rfl⟩) ⟨zA_blind, va_recv hK hP (ci := 7) (q0 := 0) rfl rfl, zA_pre hP hD hS hK hQ hA [0, 1] rfl rfl (by decide) [] rfl⟩ rfl rfl hl.1 rfl (lv_room (Nat.le_of_ble_eq_true rfl)) dX8_dispute_4 ⟨zl_b rfl, zl_b rfl⟩) (fun r hr => ?_)
  subst hr
  refine lv_iconst (v := 1) hx hb dX8_dispute_7 (by decide) ?_
  have hFc := va_free (wc := [(h0, .inr (7, [.ref ac, cu, .int dd, .int th]))]) hD hS hA [0] rfl
  refine va_calli (va_runV (As := [.int 0, .int 1]) (rest := []) ⟨hx, hb, hml, hown, hts⟩ (c_no0 l dC dI s.heap.size t h0 (.ref ac) cu dd th 1) (cwV 2 hts (zg_V kw_1377 kw_1379 kw_40 kw_70 kw_1380) rfl rfl rfl (by decide +kernel) ⟨Nat.le_of_ble_eq_true rfl, Nat.le_of_ble_eq_true rfl⟩) ⟨zA_blind, va_recv hK hP (ci := 7) (q0 := 0) rfl rfl, zA_pre hP hD hS hK hQ hA [0] rfl rfl (by decide) [] rfl⟩ rfl rfl hl.1 rfl (lv_room (Nat.le_of_ble_eq_true rfl)) dX8_dispute_8 ⟨zl_b rfl, zl_b rfl⟩) hS (fun q _ h => hFc q h) hFc (fun r_1 u t9 H1 locs ht hvm hw hB hz1 hk1 hS => ?_)
  obtain ⟨hP1, hK1, hD1⟩ := hB
  rw [ht] at hP1
  have hK1 := va_K.moved hvm.symm hK1
  obtain ⟨hP, hD⟩ := va_join (wr := [(ac, .inr (0, [.int 0, ed, .int 0]))]) (w1 := [(h0, .inr (7, [.ref ac, cu, .int dd, .int 1]))]) hP hD [0] [1] rfl rfl (by decide) (by decide) hk1 hFc hP1 hD1
  have hK := (hK.sub (tys' := []) [] rfl).app hK1
  generalize H1 = H at hP hS ⊢
  have hP : va_P (dC, dI) zc [(ac, .inr (0, [.int 0, ed, .int 0])), (h0, .inr (7, [.ref ac, cu, .int dd, .int 1]))] H := hP
  have hD : va_D A [(ac, .inr (0, [.int 0, ed, .int 0])), (h0, .inr (7, [.ref ac, cu, .int dd, .int 1]))] := hD
  have hK : va_K (dC, dI) zc [] s := hK
  have hw : 1 = r_1 := hw.symm
  subst hw
  refine lv_if_eq (tgt := 16) hx hb dX8_dispute_11 (by decide) (fun c_2 => absurd c_2 (by decide)) (fun c_2 => ?_)
  refine lv_iconst (v := 0) hx hb dX8_dispute_14 (by decide) ?_
  have hP9 := hP.sub (ws' := [(h0, .inr (7, [.ref ac, cu, .int dd, .int 1])), (ac, .inr (0, [.int 0, ed, .int 0]))]) [1, 0] rfl
  have hD9 := hD.sub (ws' := [(h0, .inr (7, [.ref ac, cu, .int dd, .int 1])), (ac, .inr (0, [.int 0, ed, .int 0]))]) [1, 0] (by decide) rfl
  have hK9 := hK.sub (tys' := []) [] rfl
  exact W.iret hx hb hr (fun t ht hW => ⟨⟨_, (), rfl, trivial, by rw [ht]; exact hP9, va_K.moved hW.alike hK9, hD9⟩, hS.F ht⟩) hS.2.2 dX8_dispute_15
set_option maxHeartbeats 4000000 in
set_option maxRecDepth 100000 in
/-- settle of the model: no such account -/
theorem m_settle (l : Launch) (dC : Nat → ClassId) (dI : Nat → Nat → Nat) (sz t : Nat) (h0 ac : Nat) (cu : Value) (dd th : Int32) (ed : Value) (a1 a2 a3 : Int32) : Met l yX8_settle ws_X8_settle ({ frames := 4, cells := 0, slots := 0, locals := 77 }) (zA dC dI [(h0, .inr (7, [.ref ac, cu, .int dd, .int th])), (ac, .inr (0, [.int 0, ed, .int 0]))] [] sz t [.ref h0, .int a1, .int a2, .int a3]) (va_Ql (fun r (_ : Unit) => True) (fun _ t9 => zB dC dI (va_A [(h0, .inr (7, [.ref ac, cu, .int dd, .int th])), (ac, .inr (0, [.int 0, ed, .int 0]))] sz) [(h0, .inr (7, [.ref ac, cu, .int dd, .int 1])), (ac, .inr (0, [.int 0, ed, .int 0]))] [] t9) (va_A [(h0, .inr (7, [.ref ac, cu, .int dd, .int th])), (ac, .inr (0, [.int 0, ed, .int 0]))] sz)) 0 0 (va_A [(h0, .inr (7, [.ref ac, cu, .int dd, .int th])), (ac, .inr (0, [.int 0, ed, .int 0]))] sz) := by
  refine Met.ofW (cc := cX8_settle) (maxL := 4) (ret := (some .long)) (by decide) rfl ?_
  intro p e s m args below meth c s₁ B hml hv
  obtain ⟨rfl, hsz, hP, hK, hD0, hQ⟩ := hv
  have hx := B.exec
  have hb := B.bytes
  have hr := B.returns
  have hts : ∀ w ∈ zG, w.before _ s = true := fun w h => atoms_spec (ws := ws_X8_settle) B.pre w (List.mem_cons_of_mem _ h)
  have hown : s.vm.findClass RX8 = some m.cls := findClass_of_methodNamed B.named
  have hlocks := B.notSynchronized
  subst hsz
  have hD := hD0.self (sz := s.heap.size)
  generalize hAe : va_A [(h0, .inr (7, [.ref ac, cu, .int dd, .int th])), (ac, .inr (0, [.int 0, ed, .int 0]))] s.heap.size = A at hD hQ ⊢
  have hA : ∀ q : Nat, s.heap.size ≤ q → A q := fun q h => by rw [← hAe]; exact Or.inr h
  have hS : va_S A s.heap s.heap [] := va_S.rf
  have hP : va_P (dC, dI) zc [(h0, .inr (7, [.ref ac, cu, .int dd, .int th])), (ac, .inr (0, [.int 0, ed, .int 0]))] s.heap := hP
  have hl := lv_entry ([.ref h0, .int a1, .int a2, .int a3]) (n := 4) (Nat.le_of_ble_eq_true rfl)
  rw [lg_entry_eq]
  generalize (lg_sl ([.ref h0, .int a1, .int a2, .int a3]) ++ List.replicate (4 - (lg_sl ([.ref h0, .int a1, .int a2, .int a3])).length) Slot.unset).toArray = ls at hl ⊢
  have hl : lv_has ls 4 [(0, .ref h0), (1, .int a1), (2, .int a2), (3, .int a3)] := hl
  refine lv_aload_n hx hb dX8_settle_0 rfl (lv_at hl 0 rfl) ?_
  refine lv_aload_n hx hb dX8_settle_1 rfl (lv_at hl 0 rfl) ?_
  refine lv_iload_n hx hb dX8_settle_2 rfl (lv_at hl 1 rfl) ?_
  refine lv_iload_n hx hb dX8_settle_3 rfl (lv_at hl 2 rfl) ?_
  refine vp_callSi (W.runV (As := [.int a1, .int a2]) (rest := [.ref h0]) ⟨hx, hb, hml, hown, hts⟩ (c_isEvent l dC dI s.heap.size t h0 ac cu dd th a1 a2 ed) (cwV 2 hts (zg_V kw_1802 kw_1804 kw_58 kw_70 kw_1805) rfl rfl rfl (by decide +kernel) ⟨Nat.le_of_ble_eq_true rfl, Nat.le_of_ble_eq_true rfl⟩) ⟨zA_blind, va_recv hK hP (ci := 7) (q0 := 0) rfl rfl, zA_pre hP hD hS hK hQ hA [0, 1] rfl rfl (by decide) [] rfl⟩ rfl rfl hl.1 rfl (lv_room (Nat.le_of_ble_eq_true rfl)) dX8_settle_4 ⟨zl_b rfl, zl_b rfl⟩) (fun r hr => ?_)
  subst hr
  refine lv_iconst (v := 1) hx hb dX8_settle_7 (by decide) ?_
  have hFc := va_free (wc := [(h0, .inr (7, [.ref ac, cu, .int dd, .int th]))]) hD hS hA [0] rfl
  refine va_calli (va_runV (As := [.int 0, .int 1]) (rest := []) ⟨hx, hb, hml, hown, hts⟩ (c_no0 l dC dI s.heap.size t h0 (.ref ac) cu dd th 1) (cwV 2 hts (zg_V kw_1377 kw_1379 kw_40 kw_70 kw_1380) rfl rfl rfl (by decide +kernel) ⟨Nat.le_of_ble_eq_true rfl, Nat.le_of_ble_eq_true rfl⟩) ⟨zA_blind, va_recv hK hP (ci := 7) (q0 := 0) rfl rfl, zA_pre hP hD hS hK hQ hA [0] rfl rfl (by decide) [] rfl⟩ rfl rfl hl.1 rfl (lv_room (Nat.le_of_ble_eq_true rfl)) dX8_settle_8 ⟨zl_b rfl, zl_b rfl⟩) hS (fun q _ h => hFc q h) hFc (fun r_1 u t9 H1 locs ht hvm hw hB hz1 hk1 hS => ?_)
  obtain ⟨hP1, hK1, hD1⟩ := hB
  rw [ht] at hP1
  have hK1 := va_K.moved hvm.symm hK1
  obtain ⟨hP, hD⟩ := va_join (wr := [(ac, .inr (0, [.int 0, ed, .int 0]))]) (w1 := [(h0, .inr (7, [.ref ac, cu, .int dd, .int 1]))]) hP hD [0] [1] rfl rfl (by decide) (by decide) hk1 hFc hP1 hD1
  have hK := (hK.sub (tys' := []) [] rfl).app hK1
  generalize H1 = H at hP hS ⊢
  have hP : va_P (dC, dI) zc [(ac, .inr (0, [.int 0, ed, .int 0])), (h0, .inr (7, [.ref ac, cu, .int dd, .int 1]))] H := hP
  have hD : va_D A [(ac, .inr (0, [.int 0, ed, .int 0])), (h0, .inr (7, [.ref ac, cu, .int dd, .int 1]))] := hD
  have hK : va_K (dC, dI) zc [] s := hK
  have hw : 1 = r_1 := hw.symm
  subst hw
  refine lv_if_ne (tgt := 31) hx hb dX8_settle_11 (by decide) (fun c_2 => ?_) (fun c_2 => absurd c_2 (by decide))
  refine lv_lconst (v := 0) hx hb dX8_settle_31 (by decide) ?_
  have hP9 := hP.sub (ws' := [(h0, .inr (7, [.ref ac, cu, .int dd, .int 1])), (ac, .inr (0, [.int 0, ed, .int 0]))]) [1, 0] rfl
  have hD9 := hD.sub (ws' := [(h0, .inr (7, [.ref ac, cu, .int dd, .int 1])), (ac, .inr (0, [.int 0, ed, .int 0]))]) [1, 0] (by decide) rfl
  have hK9 := hK.sub (tys' := []) [] rfl
  exact W.lret hx hb hr (fun t ht hW => ⟨⟨_, (), rfl, trivial, by rw [ht]; exact hP9, va_K.moved hW.alike hK9, hD9⟩, hS.F ht⟩) hS.2.2 dX8_settle_32
set_option maxHeartbeats 4000000 in
set_option maxRecDepth 100000 in
/-- reverse of the model: no such account -/
theorem m_reverse (l : Launch) (dC : Nat → ClassId) (dI : Nat → Nat → Nat) (sz t : Nat) (h0 ac : Nat) (cu : Value) (dd th : Int32) (ed : Value) (a1 a2 : Int32) : Met l yX8_reverse ws_X8_reverse ({ frames := 4, cells := 0, slots := 0, locals := 77 }) (zA dC dI [(h0, .inr (7, [.ref ac, cu, .int dd, .int th])), (ac, .inr (0, [.int 0, ed, .int 0]))] [] sz t [.ref h0, .int a1, .int a2]) (va_Ql (fun r (_ : Unit) => True) (fun _ t9 => zB dC dI (va_A [(h0, .inr (7, [.ref ac, cu, .int dd, .int th])), (ac, .inr (0, [.int 0, ed, .int 0]))] sz) [(h0, .inr (7, [.ref ac, cu, .int dd, .int 1])), (ac, .inr (0, [.int 0, ed, .int 0]))] [] t9) (va_A [(h0, .inr (7, [.ref ac, cu, .int dd, .int th])), (ac, .inr (0, [.int 0, ed, .int 0]))] sz)) 0 0 (va_A [(h0, .inr (7, [.ref ac, cu, .int dd, .int th])), (ac, .inr (0, [.int 0, ed, .int 0]))] sz) := by
  refine Met.ofW (cc := cX8_reverse) (maxL := 4) (ret := (some .long)) (by decide) rfl ?_
  intro p e s m args below meth c s₁ B hml hv
  obtain ⟨rfl, hsz, hP, hK, hD0, hQ⟩ := hv
  have hx := B.exec
  have hb := B.bytes
  have hr := B.returns
  have hts : ∀ w ∈ zG, w.before _ s = true := fun w h => atoms_spec (ws := ws_X8_reverse) B.pre w (List.mem_cons_of_mem _ h)
  have hown : s.vm.findClass RX8 = some m.cls := findClass_of_methodNamed B.named
  have hlocks := B.notSynchronized
  subst hsz
  have hD := hD0.self (sz := s.heap.size)
  generalize hAe : va_A [(h0, .inr (7, [.ref ac, cu, .int dd, .int th])), (ac, .inr (0, [.int 0, ed, .int 0]))] s.heap.size = A at hD hQ ⊢
  have hA : ∀ q : Nat, s.heap.size ≤ q → A q := fun q h => by rw [← hAe]; exact Or.inr h
  have hS : va_S A s.heap s.heap [] := va_S.rf
  have hP : va_P (dC, dI) zc [(h0, .inr (7, [.ref ac, cu, .int dd, .int th])), (ac, .inr (0, [.int 0, ed, .int 0]))] s.heap := hP
  have hl := lv_entry ([.ref h0, .int a1, .int a2]) (n := 4) (Nat.le_of_ble_eq_true rfl)
  rw [lg_entry_eq]
  generalize (lg_sl ([.ref h0, .int a1, .int a2]) ++ List.replicate (4 - (lg_sl ([.ref h0, .int a1, .int a2])).length) Slot.unset).toArray = ls at hl ⊢
  have hl : lv_has ls 4 [(0, .ref h0), (1, .int a1), (2, .int a2)] := hl
  refine lv_aload_n hx hb dX8_reverse_0 rfl (lv_at hl 0 rfl) ?_
  refine lv_aload_n hx hb dX8_reverse_1 rfl (lv_at hl 0 rfl) ?_
  refine lv_iload_n hx hb dX8_reverse_2 rfl (lv_at hl 1 rfl) ?_
  refine lv_iload_n hx hb dX8_reverse_3 rfl (lv_at hl 2 rfl) ?_
  refine vp_callSi (W.runV (As := [.int a1, .int a2]) (rest := [.ref h0]) ⟨hx, hb, hml, hown, hts⟩ (c_isEvent l dC dI s.heap.size t h0 ac cu dd th a1 a2 ed) (cwV 2 hts (zg_V kw_1802 kw_1804 kw_58 kw_70 kw_1805) rfl rfl rfl (by decide +kernel) ⟨Nat.le_of_ble_eq_true rfl, Nat.le_of_ble_eq_true rfl⟩) ⟨zA_blind, va_recv hK hP (ci := 7) (q0 := 0) rfl rfl, zA_pre hP hD hS hK hQ hA [0, 1] rfl rfl (by decide) [] rfl⟩ rfl rfl hl.1 rfl (lv_room (Nat.le_of_ble_eq_true rfl)) dX8_reverse_4 ⟨zl_b rfl, zl_b rfl⟩) (fun r hr => ?_)
  subst hr
  refine lv_iconst (v := 1) hx hb dX8_reverse_7 (by decide) ?_
  have hFc := va_free (wc := [(h0, .inr (7, [.ref ac, cu, .int dd, .int th]))]) hD hS hA [0] rfl
  refine va_calli (va_runV (As := [.int 0, .int 1]) (rest := []) ⟨hx, hb, hml, hown, hts⟩ (c_no0 l dC dI s.heap.size t h0 (.ref ac) cu dd th 1) (cwV 2 hts (zg_V kw_1377 kw_1379 kw_40 kw_70 kw_1380) rfl rfl rfl (by decide +kernel) ⟨Nat.le_of_ble_eq_true rfl, Nat.le_of_ble_eq_true rfl⟩) ⟨zA_blind, va_recv hK hP (ci := 7) (q0 := 0) rfl rfl, zA_pre hP hD hS hK hQ hA [0] rfl rfl (by decide) [] rfl⟩ rfl rfl hl.1 rfl (lv_room (Nat.le_of_ble_eq_true rfl)) dX8_reverse_8 ⟨zl_b rfl, zl_b rfl⟩) hS (fun q _ h => hFc q h) hFc (fun r_1 u t9 H1 locs ht hvm hw hB hz1 hk1 hS => ?_)
  obtain ⟨hP1, hK1, hD1⟩ := hB
  rw [ht] at hP1
  have hK1 := va_K.moved hvm.symm hK1
  obtain ⟨hP, hD⟩ := va_join (wr := [(ac, .inr (0, [.int 0, ed, .int 0]))]) (w1 := [(h0, .inr (7, [.ref ac, cu, .int dd, .int 1]))]) hP hD [0] [1] rfl rfl (by decide) (by decide) hk1 hFc hP1 hD1
  have hK := (hK.sub (tys' := []) [] rfl).app hK1
  generalize H1 = H at hP hS ⊢
  have hP : va_P (dC, dI) zc [(ac, .inr (0, [.int 0, ed, .int 0])), (h0, .inr (7, [.ref ac, cu, .int dd, .int 1]))] H := hP
  have hD : va_D A [(ac, .inr (0, [.int 0, ed, .int 0])), (h0, .inr (7, [.ref ac, cu, .int dd, .int 1]))] := hD
  have hK : va_K (dC, dI) zc [] s := hK
  have hw : 1 = r_1 := hw.symm
  subst hw
  refine lv_if_eq (tgt := 16) hx hb dX8_reverse_11 (by decide) (fun c_2 => absurd c_2 (by decide)) (fun c_2 => ?_)
  refine lv_lconst (v := 0) hx hb dX8_reverse_14 (by decide) ?_
  have hP9 := hP.sub (ws' := [(h0, .inr (7, [.ref ac, cu, .int dd, .int 1])), (ac, .inr (0, [.int 0, ed, .int 0]))]) [1, 0] rfl
  have hD9 := hD.sub (ws' := [(h0, .inr (7, [.ref ac, cu, .int dd, .int 1])), (ac, .inr (0, [.int 0, ed, .int 0]))]) [1, 0] (by decide) rfl
  have hK9 := hK.sub (tys' := []) [] rfl
  exact W.lret hx hb hr (fun t ht hW => ⟨⟨_, (), rfl, trivial, by rw [ht]; exact hP9, va_K.moved hW.alike hK9, hD9⟩, hS.F ht⟩) hS.2.2 dX8_reverse_15
set_option maxHeartbeats 4000000 in
set_option maxRecDepth 100000 in
/-- plan of the model: no such account -/
theorem m_plan (l : Launch) (dC : Nat → ClassId) (dI : Nat → Nat → Nat) (sz t : Nat) (h0 ac : Nat) (cu : Value) (dd th : Int32) (ed : Value) (a1 : Int32) : Met l yX8_plan ws_X8_plan ({ frames := 3, cells := 0, slots := 0, locals := 55 }) (zA dC dI [(h0, .inr (7, [.ref ac, cu, .int dd, .int th])), (ac, .inr (0, [.int 0, ed, .int 0]))] [] sz t [.ref h0, .int a1]) (va_Qi (fun r (_ : Unit) => True) (fun _ t9 => zB dC dI (va_A [(h0, .inr (7, [.ref ac, cu, .int dd, .int th])), (ac, .inr (0, [.int 0, ed, .int 0]))] sz) [(h0, .inr (7, [.ref ac, cu, .int dd, .int 1])), (ac, .inr (0, [.int 0, ed, .int 0]))] [] t9) (va_A [(h0, .inr (7, [.ref ac, cu, .int dd, .int th])), (ac, .inr (0, [.int 0, ed, .int 0]))] sz)) 0 0 (va_A [(h0, .inr (7, [.ref ac, cu, .int dd, .int th])), (ac, .inr (0, [.int 0, ed, .int 0]))] sz) := by
  refine Met.ofW (cc := cX8_plan) (maxL := 5) (ret := (some .int)) (by decide) rfl ?_
  intro p e s m args below meth c s₁ B hml hv
  obtain ⟨rfl, hsz, hP, hK, hD0, hQ⟩ := hv
  have hx := B.exec
  have hb := B.bytes
  have hr := B.returns
  have hts : ∀ w ∈ zG, w.before _ s = true := fun w h => atoms_spec (ws := ws_X8_plan) B.pre w (List.mem_cons_of_mem _ h)
  have hown : s.vm.findClass RX8 = some m.cls := findClass_of_methodNamed B.named
  have hlocks := B.notSynchronized
  subst hsz
  have hD := hD0.self (sz := s.heap.size)
  generalize hAe : va_A [(h0, .inr (7, [.ref ac, cu, .int dd, .int th])), (ac, .inr (0, [.int 0, ed, .int 0]))] s.heap.size = A at hD hQ ⊢
  have hA : ∀ q : Nat, s.heap.size ≤ q → A q := fun q h => by rw [← hAe]; exact Or.inr h
  have hS : va_S A s.heap s.heap [] := va_S.rf
  have hP : va_P (dC, dI) zc [(h0, .inr (7, [.ref ac, cu, .int dd, .int th])), (ac, .inr (0, [.int 0, ed, .int 0]))] s.heap := hP
  have hl := lv_entry ([.ref h0, .int a1]) (n := 5) (Nat.le_of_ble_eq_true rfl)
  rw [lg_entry_eq]
  generalize (lg_sl ([.ref h0, .int a1]) ++ List.replicate (5 - (lg_sl ([.ref h0, .int a1])).length) Slot.unset).toArray = ls at hl ⊢
  have hl : lv_has ls 5 [(0, .ref h0), (1, .int a1)] := hl
  refine lv_aload_n hx hb dX8_plan_0 rfl (lv_at hl 0 rfl) ?_
  refine lv_aload_n hx hb dX8_plan_1 rfl (lv_at hl 0 rfl) ?_
  refine lv_iload_n hx hb dX8_plan_2 rfl (lv_at hl 1 rfl) ?_
  refine vp_callSi (W.runV (As := [.int a1]) (rest := [.ref h0]) ⟨hx, hb, hml, hown, hts⟩ (c_isAccount l dC dI s.heap.size t h0 ac cu dd th a1 ed) (cwV 1 hts (zg_V kw_1432 kw_1434 kw_41 kw_70 kw_1435) rfl rfl rfl (by decide +kernel) ⟨Nat.le_of_ble_eq_true rfl, Nat.le_of_ble_eq_true rfl⟩) ⟨zA_blind, va_recv hK hP (ci := 7) (q0 := 0) rfl rfl, zA_pre hP hD hS hK hQ hA [0, 1] rfl rfl (by decide) [] rfl⟩ rfl rfl hl.1 rfl (lv_room (Nat.le_of_ble_eq_true rfl)) dX8_plan_3 ⟨zl_b rfl, zl_b rfl⟩) (fun r hr => ?_)
  subst hr
  refine lv_iconst (v := 1) hx hb dX8_plan_6 (by decide) ?_
  have hFc := va_free (wc := [(h0, .inr (7, [.ref ac, cu, .int dd, .int th]))]) hD hS hA [0] rfl
  refine va_calli (va_runV (As := [.int 0, .int 1]) (rest := []) ⟨hx, hb, hml, hown, hts⟩ (c_no0 l dC dI s.heap.size t h0 (.ref ac) cu dd th 1) (cwV 2 hts (zg_V kw_1377 kw_1379 kw_40 kw_70 kw_1380) rfl rfl rfl (by decide +kernel) ⟨Nat.le_of_ble_eq_true rfl, Nat.le_of_ble_eq_true rfl⟩) ⟨zA_blind, va_recv hK hP (ci := 7) (q0 := 0) rfl rfl, zA_pre hP hD hS hK hQ hA [0] rfl rfl (by decide) [] rfl⟩ rfl rfl hl.1 rfl (lv_room (Nat.le_of_ble_eq_true rfl)) dX8_plan_7 ⟨zl_b rfl, zl_b rfl⟩) hS (fun q _ h => hFc q h) hFc (fun r_1 u t9 H1 locs ht hvm hw hB hz1 hk1 hS => ?_)
  obtain ⟨hP1, hK1, hD1⟩ := hB
  rw [ht] at hP1
  have hK1 := va_K.moved hvm.symm hK1
  obtain ⟨hP, hD⟩ := va_join (wr := [(ac, .inr (0, [.int 0, ed, .int 0]))]) (w1 := [(h0, .inr (7, [.ref ac, cu, .int dd, .int 1]))]) hP hD [0] [1] rfl rfl (by decide) (by decide) hk1 hFc hP1 hD1
  have hK := (hK.sub (tys' := []) [] rfl).app hK1
  generalize H1 = H at hP hS ⊢
  have hP : va_P (dC, dI) zc [(ac, .inr (0, [.int 0, ed, .int 0])), (h0, .inr (7, [.ref ac, cu, .int dd, .int 1]))] H := hP
  have hD : va_D A [(ac, .inr (0, [.int 0, ed, .int 0])), (h0, .inr (7, [.ref ac, cu, .int dd, .int 1]))] := hD
  have hK : va_K (dC, dI) zc [] s := hK
  have hw : 1 = r_1 := hw.symm
  subst hw
  refine lv_if_eq (tgt := 15) hx hb dX8_plan_10 (by decide) (fun c_2 => absurd c_2 (by decide)) (fun c_2 => ?_)
  refine lv_iconst (v := 0) hx hb dX8_plan_13 (by decide) ?_
  have hP9 := hP.sub (ws' := [(h0, .inr (7, [.ref ac, cu, .int dd, .int 1])), (ac, .inr (0, [.int 0, ed, .int 0]))]) [1, 0] rfl
  have hD9 := hD.sub (ws' := [(h0, .inr (7, [.ref ac, cu, .int dd, .int 1])), (ac, .inr (0, [.int 0, ed, .int 0]))]) [1, 0] (by decide) rfl
  have hK9 := hK.sub (tys' := []) [] rfl
  exact W.iret hx hb hr (fun t ht hW => ⟨⟨_, (), rfl, trivial, by rw [ht]; exact hP9, va_K.moved hW.alike hK9, hD9⟩, hS.F ht⟩) hS.2.2 dX8_plan_14
set_option maxHeartbeats 4000000 in
set_option maxRecDepth 100000 in
/-- redeem of the model: no such account -/
theorem m_redeem (l : Launch) (dC : Nat → ClassId) (dI : Nat → Nat → Nat) (sz t : Nat) (h0 ac : Nat) (cu : Value) (dd th : Int32) (ed : Value) (a1 a2 : Int32) : Met l yX8_redeem ws_X8_redeem ({ frames := 3, cells := 0, slots := 0, locals := 55 }) (zA dC dI [(h0, .inr (7, [.ref ac, cu, .int dd, .int th])), (ac, .inr (0, [.int 0, ed, .int 0]))] [] sz t [.ref h0, .int a1, .int a2]) (va_Qi (fun r (_ : Unit) => True) (fun _ t9 => zB dC dI (va_A [(h0, .inr (7, [.ref ac, cu, .int dd, .int th])), (ac, .inr (0, [.int 0, ed, .int 0]))] sz) [(h0, .inr (7, [.ref ac, cu, .int dd, .int 1])), (ac, .inr (0, [.int 0, ed, .int 0]))] [] t9) (va_A [(h0, .inr (7, [.ref ac, cu, .int dd, .int th])), (ac, .inr (0, [.int 0, ed, .int 0]))] sz)) 0 0 (va_A [(h0, .inr (7, [.ref ac, cu, .int dd, .int th])), (ac, .inr (0, [.int 0, ed, .int 0]))] sz) := by
  refine Met.ofW (cc := cX8_redeem) (maxL := 3) (ret := (some .int)) (by decide) rfl ?_
  intro p e s m args below meth c s₁ B hml hv
  obtain ⟨rfl, hsz, hP, hK, hD0, hQ⟩ := hv
  have hx := B.exec
  have hb := B.bytes
  have hr := B.returns
  have hts : ∀ w ∈ zG, w.before _ s = true := fun w h => atoms_spec (ws := ws_X8_redeem) B.pre w (List.mem_cons_of_mem _ h)
  have hown : s.vm.findClass RX8 = some m.cls := findClass_of_methodNamed B.named
  have hlocks := B.notSynchronized
  subst hsz
  have hD := hD0.self (sz := s.heap.size)
  generalize hAe : va_A [(h0, .inr (7, [.ref ac, cu, .int dd, .int th])), (ac, .inr (0, [.int 0, ed, .int 0]))] s.heap.size = A at hD hQ ⊢
  have hA : ∀ q : Nat, s.heap.size ≤ q → A q := fun q h => by rw [← hAe]; exact Or.inr h
  have hS : va_S A s.heap s.heap [] := va_S.rf
  have hP : va_P (dC, dI) zc [(h0, .inr (7, [.ref ac, cu, .int dd, .int th])), (ac, .inr (0, [.int 0, ed, .int 0]))] s.heap := hP
  have hl := lv_entry ([.ref h0, .int a1, .int a2]) (n := 3) (Nat.le_of_ble_eq_true rfl)
  rw [lg_entry_eq]
  generalize (lg_sl ([.ref h0, .int a1, .int a2]) ++ List.replicate (3 - (lg_sl ([.ref h0, .int a1, .int a2])).length) Slot.unset).toArray = ls at hl ⊢
  have hl : lv_has ls 3 [(0, .ref h0), (1, .int a1), (2, .int a2)] := hl
  refine lv_aload_n hx hb dX8_redeem_0 rfl (lv_at hl 0 rfl) ?_
  refine lv_aload_n hx hb dX8_redeem_1 rfl (lv_at hl 0 rfl) ?_
  refine lv_iload_n hx hb dX8_redeem_2 rfl (lv_at hl 1 rfl) ?_
  refine vp_callSi (W.runV (As := [.int a1]) (rest := [.ref h0]) ⟨hx, hb, hml, hown, hts⟩ (c_isAccount l dC dI s.heap.size t h0 ac cu dd th a1 ed) (cwV 1 hts (zg_V kw_1432 kw_1434 kw_41 kw_70 kw_1435) rfl rfl rfl (by decide +kernel) ⟨Nat.le_of_ble_eq_true rfl, Nat.le_of_ble_eq_true rfl⟩) ⟨zA_blind, va_recv hK hP (ci := 7) (q0 := 0) rfl rfl, zA_pre hP hD hS hK hQ hA [0, 1] rfl rfl (by decide) [] rfl⟩ rfl rfl hl.1 rfl (lv_room (Nat.le_of_ble_eq_true rfl)) dX8_redeem_3 ⟨zl_b rfl, zl_b rfl⟩) (fun r hr => ?_)
  subst hr
  refine lv_iconst (v := 1) hx hb dX8_redeem_6 (by decide) ?_
  have hFc := va_free (wc := [(h0, .inr (7, [.ref ac, cu, .int dd, .int th]))]) hD hS hA [0] rfl
  refine va_calli (va_runV (As := [.int 0, .int 1]) (rest := []) ⟨hx, hb, hml, hown, hts⟩ (c_no0 l dC dI s.heap.size t h0 (.ref ac) cu dd th 1) (cwV 2 hts (zg_V kw_1377 kw_1379 kw_40 kw_70 kw_1380) rfl rfl rfl (by decide +kernel) ⟨Nat.le_of_ble_eq_true rfl, Nat.le_of_ble_eq_true rfl⟩) ⟨zA_blind, va_recv hK hP (ci := 7) (q0 := 0) rfl rfl, zA_pre hP hD hS hK hQ hA [0] rfl rfl (by decide) [] rfl⟩ rfl rfl hl.1 rfl (lv_room (Nat.le_of_ble_eq_true rfl)) dX8_redeem_7 ⟨zl_b rfl, zl_b rfl⟩) hS (fun q _ h => hFc q h) hFc (fun r_1 u t9 H1 locs ht hvm hw hB hz1 hk1 hS => ?_)
  obtain ⟨hP1, hK1, hD1⟩ := hB
  rw [ht] at hP1
  have hK1 := va_K.moved hvm.symm hK1
  obtain ⟨hP, hD⟩ := va_join (wr := [(ac, .inr (0, [.int 0, ed, .int 0]))]) (w1 := [(h0, .inr (7, [.ref ac, cu, .int dd, .int 1]))]) hP hD [0] [1] rfl rfl (by decide) (by decide) hk1 hFc hP1 hD1
  have hK := (hK.sub (tys' := []) [] rfl).app hK1
  generalize H1 = H at hP hS ⊢
  have hP : va_P (dC, dI) zc [(ac, .inr (0, [.int 0, ed, .int 0])), (h0, .inr (7, [.ref ac, cu, .int dd, .int 1]))] H := hP
  have hD : va_D A [(ac, .inr (0, [.int 0, ed, .int 0])), (h0, .inr (7, [.ref ac, cu, .int dd, .int 1]))] := hD
  have hK : va_K (dC, dI) zc [] s := hK
  have hw : 1 = r_1 := hw.symm
  subst hw
  refine lv_if_ne (tgt := 65) hx hb dX8_redeem_10 (by decide) (fun c_2 => ?_) (fun c_2 => absurd c_2 (by decide))
  refine lv_iconst (v := 0) hx hb dX8_redeem_65 (by decide) ?_
  have hP9 := hP.sub (ws' := [(h0, .inr (7, [.ref ac, cu, .int dd, .int 1])), (ac, .inr (0, [.int 0, ed, .int 0]))]) [1, 0] rfl
  have hD9 := hD.sub (ws' := [(h0, .inr (7, [.ref ac, cu, .int dd, .int 1])), (ac, .inr (0, [.int 0, ed, .int 0]))]) [1, 0] (by decide) rfl
  have hK9 := hK.sub (tys' := []) [] rfl
  exact W.iret hx hb hr (fun t ht hW => ⟨⟨_, (), rfl, trivial, by rw [ht]; exact hP9, va_K.moved hW.alike hK9, hD9⟩, hS.F ht⟩) hS.2.2 dX8_redeem_66
set_option maxHeartbeats 4000000 in
set_option maxRecDepth 100000 in
/-- owed of the model: no such account -/
theorem m_owed (l : Launch) (dC : Nat → ClassId) (dI : Nat → Nat → Nat) (sz t : Nat) (h0 ac : Nat) (cu : Value) (dd th : Int32) (ed : Value) (a1 : Int32) : Met l yX8_owed ws_X8_owed ({ frames := 3, cells := 0, slots := 0, locals := 55 }) (zA dC dI [(h0, .inr (7, [.ref ac, cu, .int dd, .int th])), (ac, .inr (0, [.int 0, ed, .int 0]))] [] sz t [.ref h0, .int a1]) (va_Ql (fun r (_ : Unit) => True) (fun _ t9 => zB dC dI (va_A [(h0, .inr (7, [.ref ac, cu, .int dd, .int th])), (ac, .inr (0, [.int 0, ed, .int 0]))] sz) [(h0, .inr (7, [.ref ac, cu, .int dd, .int 1])), (ac, .inr (0, [.int 0, ed, .int 0]))] [] t9) (va_A [(h0, .inr (7, [.ref ac, cu, .int dd, .int th])), (ac, .inr (0, [.int 0, ed, .int 0]))] sz)) 0 0 (va_A [(h0, .inr (7, [.ref ac, cu, .int dd, .int th])), (ac, .inr (0, [.int 0, ed, .int 0]))] sz) := by
  refine Met.ofW (cc := cX8_owed) (maxL := 2) (ret := (some .long)) (by decide) rfl ?_
  intro p e s m args below meth c s₁ B hml hv
  obtain ⟨rfl, hsz, hP, hK, hD0, hQ⟩ := hv
  have hx := B.exec
  have hb := B.bytes
  have hr := B.returns
  have hts : ∀ w ∈ zG, w.before _ s = true := fun w h => atoms_spec (ws := ws_X8_owed) B.pre w (List.mem_cons_of_mem _ h)
  have hown : s.vm.findClass RX8 = some m.cls := findClass_of_methodNamed B.named
  have hlocks := B.notSynchronized
  subst hsz
  have hD := hD0.self (sz := s.heap.size)
  generalize hAe : va_A [(h0, .inr (7, [.ref ac, cu, .int dd, .int th])), (ac, .inr (0, [.int 0, ed, .int 0]))] s.heap.size = A at hD hQ ⊢
  have hA : ∀ q : Nat, s.heap.size ≤ q → A q := fun q h => by rw [← hAe]; exact Or.inr h
  have hS : va_S A s.heap s.heap [] := va_S.rf
  have hP : va_P (dC, dI) zc [(h0, .inr (7, [.ref ac, cu, .int dd, .int th])), (ac, .inr (0, [.int 0, ed, .int 0]))] s.heap := hP
  have hl := lv_entry ([.ref h0, .int a1]) (n := 2) (Nat.le_of_ble_eq_true rfl)
  rw [lg_entry_eq]
  generalize (lg_sl ([.ref h0, .int a1]) ++ List.replicate (2 - (lg_sl ([.ref h0, .int a1])).length) Slot.unset).toArray = ls at hl ⊢
  have hl : lv_has ls 2 [(0, .ref h0), (1, .int a1)] := hl
  refine lv_aload_n hx hb dX8_owed_0 rfl (lv_at hl 0 rfl) ?_
  refine lv_aload_n hx hb dX8_owed_1 rfl (lv_at hl 0 rfl) ?_
  refine lv_iload_n hx hb dX8_owed_2 rfl (lv_at hl 1 rfl) ?_
  refine vp_callSi (W.runV (As := [.int a1]) (rest := [.ref h0]) ⟨hx, hb, hml, hown, hts⟩ (c_isAccount l dC dI s.heap.size t h0 ac cu dd th a1 ed) (cwV 1 hts (zg_V kw_1432 kw_1434 kw_41 kw_70 kw_1435) rfl rfl rfl (by decide +kernel) ⟨Nat.le_of_ble_eq_true rfl, Nat.le_of_ble_eq_true rfl⟩) ⟨zA_blind, va_recv hK hP (ci := 7) (q0 := 0) rfl rfl, zA_pre hP hD hS hK hQ hA [0, 1] rfl rfl (by decide) [] rfl⟩ rfl rfl hl.1 rfl (lv_room (Nat.le_of_ble_eq_true rfl)) dX8_owed_3 ⟨zl_b rfl, zl_b rfl⟩) (fun r hr => ?_)
  subst hr
  refine lv_iconst (v := 1) hx hb dX8_owed_6 (by decide) ?_
  have hFc := va_free (wc := [(h0, .inr (7, [.ref ac, cu, .int dd, .int th]))]) hD hS hA [0] rfl
  refine va_calli (va_runV (As := [.int 0, .int 1]) (rest := []) ⟨hx, hb, hml, hown, hts⟩ (c_no0 l dC dI s.heap.size t h0 (.ref ac) cu dd th 1) (cwV 2 hts (zg_V kw_1377 kw_1379 kw_40 kw_70 kw_1380) rfl rfl rfl (by decide +kernel) ⟨Nat.le_of_ble_eq_true rfl, Nat.le_of_ble_eq_true rfl⟩) ⟨zA_blind, va_recv hK hP (ci := 7) (q0 := 0) rfl rfl, zA_pre hP hD hS hK hQ hA [0] rfl rfl (by decide) [] rfl⟩ rfl rfl hl.1 rfl (lv_room (Nat.le_of_ble_eq_true rfl)) dX8_owed_7 ⟨zl_b rfl, zl_b rfl⟩) hS (fun q _ h => hFc q h) hFc (fun r_1 u t9 H1 locs ht hvm hw hB hz1 hk1 hS => ?_)
  obtain ⟨hP1, hK1, hD1⟩ := hB
  rw [ht] at hP1
  have hK1 := va_K.moved hvm.symm hK1
  obtain ⟨hP, hD⟩ := va_join (wr := [(ac, .inr (0, [.int 0, ed, .int 0]))]) (w1 := [(h0, .inr (7, [.ref ac, cu, .int dd, .int 1]))]) hP hD [0] [1] rfl rfl (by decide) (by decide) hk1 hFc hP1 hD1
  have hK := (hK.sub (tys' := []) [] rfl).app hK1
  generalize H1 = H at hP hS ⊢
  have hP : va_P (dC, dI) zc [(ac, .inr (0, [.int 0, ed, .int 0])), (h0, .inr (7, [.ref ac, cu, .int dd, .int 1]))] H := hP
  have hD : va_D A [(ac, .inr (0, [.int 0, ed, .int 0])), (h0, .inr (7, [.ref ac, cu, .int dd, .int 1]))] := hD
  have hK : va_K (dC, dI) zc [] s := hK
  have hw : 1 = r_1 := hw.symm
  subst hw
  refine lv_if_eq (tgt := 17) hx hb dX8_owed_10 (by decide) (fun c_2 => absurd c_2 (by decide)) (fun c_2 => ?_)
  refine lv_lconst (v := 0) hx hb dX8_owed_13 (by decide) ?_
  refine lv_goto (tgt := 25) hx hb dX8_owed_14 (by decide) ?_
  have hP9 := hP.sub (ws' := [(h0, .inr (7, [.ref ac, cu, .int dd, .int 1])), (ac, .inr (0, [.int 0, ed, .int 0]))]) [1, 0] rfl
  have hD9 := hD.sub (ws' := [(h0, .inr (7, [.ref ac, cu, .int dd, .int 1])), (ac, .inr (0, [.int 0, ed, .int 0]))]) [1, 0] (by decide) rfl
  have hK9 := hK.sub (tys' := []) [] rfl
  exact W.lret hx hb hr (fun t ht hW => ⟨⟨_, (), rfl, trivial, by rw [ht]; exact hP9, va_K.moved hW.alike hK9, hD9⟩, hS.F ht⟩) hS.2.2 dX8_owed_25
set_option maxHeartbeats 4000000 in
set_option maxRecDepth 100000 in
/-- bucket of the model: no such account -/
theorem m_bucket (l : Launch) (dC : Nat → ClassId) (dI : Nat → Nat → Nat) (sz t : Nat) (h0 ac : Nat) (cu : Value) (dd th : Int32) (ed : Value) (a1 a2 : Int32) : Met l yX8_bucket ws_X8_bucket ({ frames := 3, cells := 0, slots := 0, locals := 55 }) (zA dC dI [(h0, .inr (7, [.ref ac, cu, .int dd, .int th])), (ac, .inr (0, [.int 0, ed, .int 0]))] [] sz t [.ref h0, .int a1, .int a2]) (va_Ql (fun r (_ : Unit) => True) (fun _ t9 => zB dC dI (va_A [(h0, .inr (7, [.ref ac, cu, .int dd, .int th])), (ac, .inr (0, [.int 0, ed, .int 0]))] sz) [(h0, .inr (7, [.ref ac, cu, .int dd, .int 1])), (ac, .inr (0, [.int 0, ed, .int 0]))] [] t9) (va_A [(h0, .inr (7, [.ref ac, cu, .int dd, .int th])), (ac, .inr (0, [.int 0, ed, .int 0]))] sz)) 0 0 (va_A [(h0, .inr (7, [.ref ac, cu, .int dd, .int th])), (ac, .inr (0, [.int 0, ed, .int 0]))] sz) := by
  refine Met.ofW (cc := cX8_bucket) (maxL := 3) (ret := (some .long)) (by decide) rfl ?_
  intro p e s m args below meth c s₁ B hml hv
  obtain ⟨rfl, hsz, hP, hK, hD0, hQ⟩ := hv
  have hx := B.exec
  have hb := B.bytes
  have hr := B.returns
  have hts : ∀ w ∈ zG, w.before _ s = true := fun w h => atoms_spec (ws := ws_X8_bucket) B.pre w (List.mem_cons_of_mem _ h)
  have hown : s.vm.findClass RX8 = some m.cls := findClass_of_methodNamed B.named
  have hlocks := B.notSynchronized
  subst hsz
  have hD := hD0.self (sz := s.heap.size)
  generalize hAe : va_A [(h0, .inr (7, [.ref ac, cu, .int dd, .int th])), (ac, .inr (0, [.int 0, ed, .int 0]))] s.heap.size = A at hD hQ ⊢
  have hA : ∀ q : Nat, s.heap.size ≤ q → A q := fun q h => by rw [← hAe]; exact Or.inr h
  have hS : va_S A s.heap s.heap [] := va_S.rf
  have hP : va_P (dC, dI) zc [(h0, .inr (7, [.ref ac, cu, .int dd, .int th])), (ac, .inr (0, [.int 0, ed, .int 0]))] s.heap := hP
  have hl := lv_entry ([.ref h0, .int a1, .int a2]) (n := 3) (Nat.le_of_ble_eq_true rfl)
  rw [lg_entry_eq]
  generalize (lg_sl ([.ref h0, .int a1, .int a2]) ++ List.replicate (3 - (lg_sl ([.ref h0, .int a1, .int a2])).length) Slot.unset).toArray = ls at hl ⊢
  have hl : lv_has ls 3 [(0, .ref h0), (1, .int a1), (2, .int a2)] := hl
  refine lv_aload_n hx hb dX8_bucket_0 rfl (lv_at hl 0 rfl) ?_
  refine lv_aload_n hx hb dX8_bucket_1 rfl (lv_at hl 0 rfl) ?_
  refine lv_iload_n hx hb dX8_bucket_2 rfl (lv_at hl 1 rfl) ?_
  refine vp_callSi (W.runV (As := [.int a1]) (rest := [.ref h0]) ⟨hx, hb, hml, hown, hts⟩ (c_isAccount l dC dI s.heap.size t h0 ac cu dd th a1 ed) (cwV 1 hts (zg_V kw_1432 kw_1434 kw_41 kw_70 kw_1435) rfl rfl rfl (by decide +kernel) ⟨Nat.le_of_ble_eq_true rfl, Nat.le_of_ble_eq_true rfl⟩) ⟨zA_blind, va_recv hK hP (ci := 7) (q0 := 0) rfl rfl, zA_pre hP hD hS hK hQ hA [0, 1] rfl rfl (by decide) [] rfl⟩ rfl rfl hl.1 rfl (lv_room (Nat.le_of_ble_eq_true rfl)) dX8_bucket_3 ⟨zl_b rfl, zl_b rfl⟩) (fun r hr => ?_)
  subst hr
  refine lv_iconst (v := 1) hx hb dX8_bucket_6 (by decide) ?_
  have hFc := va_free (wc := [(h0, .inr (7, [.ref ac, cu, .int dd, .int th]))]) hD hS hA [0] rfl
  refine va_calli (va_runV (As := [.int 0, .int 1]) (rest := []) ⟨hx, hb, hml, hown, hts⟩ (c_no0 l dC dI s.heap.size t h0 (.ref ac) cu dd th 1) (cwV 2 hts (zg_V kw_1377 kw_1379 kw_40 kw_70 kw_1380) rfl rfl rfl (by decide +kernel) ⟨Nat.le_of_ble_eq_true rfl, Nat.le_of_ble_eq_true rfl⟩) ⟨zA_blind, va_recv hK hP (ci := 7) (q0 := 0) rfl rfl, zA_pre hP hD hS hK hQ hA [0] rfl rfl (by decide) [] rfl⟩ rfl rfl hl.1 rfl (lv_room (Nat.le_of_ble_eq_true rfl)) dX8_bucket_7 ⟨zl_b rfl, zl_b rfl⟩) hS (fun q _ h => hFc q h) hFc (fun r_1 u t9 H1 locs ht hvm hw hB hz1 hk1 hS => ?_)
  obtain ⟨hP1, hK1, hD1⟩ := hB
  rw [ht] at hP1
  have hK1 := va_K.moved hvm.symm hK1
  obtain ⟨hP, hD⟩ := va_join (wr := [(ac, .inr (0, [.int 0, ed, .int 0]))]) (w1 := [(h0, .inr (7, [.ref ac, cu, .int dd, .int 1]))]) hP hD [0] [1] rfl rfl (by decide) (by decide) hk1 hFc hP1 hD1
  have hK := (hK.sub (tys' := []) [] rfl).app hK1
  generalize H1 = H at hP hS ⊢
  have hP : va_P (dC, dI) zc [(ac, .inr (0, [.int 0, ed, .int 0])), (h0, .inr (7, [.ref ac, cu, .int dd, .int 1]))] H := hP
  have hD : va_D A [(ac, .inr (0, [.int 0, ed, .int 0])), (h0, .inr (7, [.ref ac, cu, .int dd, .int 1]))] := hD
  have hK : va_K (dC, dI) zc [] s := hK
  have hw : 1 = r_1 := hw.symm
  subst hw
  refine lv_if_ne (tgt := 25) hx hb dX8_bucket_10 (by decide) (fun c_2 => ?_) (fun c_2 => absurd c_2 (by decide))
  refine lv_lconst (v := 0) hx hb dX8_bucket_25 (by decide) ?_
  refine lv_goto (tgt := 44) hx hb dX8_bucket_26 (by decide) ?_
  have hP9 := hP.sub (ws' := [(h0, .inr (7, [.ref ac, cu, .int dd, .int 1])), (ac, .inr (0, [.int 0, ed, .int 0]))]) [1, 0] rfl
  have hD9 := hD.sub (ws' := [(h0, .inr (7, [.ref ac, cu, .int dd, .int 1])), (ac, .inr (0, [.int 0, ed, .int 0]))]) [1, 0] (by decide) rfl
  have hK9 := hK.sub (tys' := []) [] rfl
  exact W.lret hx hb hr (fun t ht hW => ⟨⟨_, (), rfl, trivial, by rw [ht]; exact hP9, va_K.moved hW.alike hK9, hD9⟩, hS.F ht⟩) hS.2.2 dX8_bucket_44
set_option maxHeartbeats 4000000 in
set_option maxRecDepth 100000 in
/-- credit of the model: no such account -/
theorem m_credit (l : Launch) (dC : Nat → ClassId) (dI : Nat → Nat → Nat) (sz t : Nat) (h0 ac : Nat) (cu : Value) (dd th : Int32) (ed : Value) (a1 : Int32) : Met l yX8_credit ws_X8_credit ({ frames := 3, cells := 0, slots := 0, locals := 55 }) (zA dC dI [(h0, .inr (7, [.ref ac, cu, .int dd, .int th])), (ac, .inr (0, [.int 0, ed, .int 0]))] [] sz t [.ref h0, .int a1]) (va_Ql (fun r (_ : Unit) => True) (fun _ t9 => zB dC dI (va_A [(h0, .inr (7, [.ref ac, cu, .int dd, .int th])), (ac, .inr (0, [.int 0, ed, .int 0]))] sz) [(h0, .inr (7, [.ref ac, cu, .int dd, .int 1])), (ac, .inr (0, [.int 0, ed, .int 0]))] [] t9) (va_A [(h0, .inr (7, [.ref ac, cu, .int dd, .int th])), (ac, .inr (0, [.int 0, ed, .int 0]))] sz)) 0 0 (va_A [(h0, .inr (7, [.ref ac, cu, .int dd, .int th])), (ac, .inr (0, [.int 0, ed, .int 0]))] sz) := by
  refine Met.ofW (cc := cX8_credit) (maxL := 2) (ret := (some .long)) (by decide) rfl ?_
  intro p e s m args below meth c s₁ B hml hv
  obtain ⟨rfl, hsz, hP, hK, hD0, hQ⟩ := hv
  have hx := B.exec
  have hb := B.bytes
  have hr := B.returns
  have hts : ∀ w ∈ zG, w.before _ s = true := fun w h => atoms_spec (ws := ws_X8_credit) B.pre w (List.mem_cons_of_mem _ h)
  have hown : s.vm.findClass RX8 = some m.cls := findClass_of_methodNamed B.named
  have hlocks := B.notSynchronized
  subst hsz
  have hD := hD0.self (sz := s.heap.size)
  generalize hAe : va_A [(h0, .inr (7, [.ref ac, cu, .int dd, .int th])), (ac, .inr (0, [.int 0, ed, .int 0]))] s.heap.size = A at hD hQ ⊢
  have hA : ∀ q : Nat, s.heap.size ≤ q → A q := fun q h => by rw [← hAe]; exact Or.inr h
  have hS : va_S A s.heap s.heap [] := va_S.rf
  have hP : va_P (dC, dI) zc [(h0, .inr (7, [.ref ac, cu, .int dd, .int th])), (ac, .inr (0, [.int 0, ed, .int 0]))] s.heap := hP
  have hl := lv_entry ([.ref h0, .int a1]) (n := 2) (Nat.le_of_ble_eq_true rfl)
  rw [lg_entry_eq]
  generalize (lg_sl ([.ref h0, .int a1]) ++ List.replicate (2 - (lg_sl ([.ref h0, .int a1])).length) Slot.unset).toArray = ls at hl ⊢
  have hl : lv_has ls 2 [(0, .ref h0), (1, .int a1)] := hl
  refine lv_aload_n hx hb dX8_credit_0 rfl (lv_at hl 0 rfl) ?_
  refine lv_aload_n hx hb dX8_credit_1 rfl (lv_at hl 0 rfl) ?_
  refine lv_iload_n hx hb dX8_credit_2 rfl (lv_at hl 1 rfl) ?_
  refine vp_callSi (W.runV (As := [.int a1]) (rest := [.ref h0]) ⟨hx, hb, hml, hown, hts⟩ (c_isAccount l dC dI s.heap.size t h0 ac cu dd th a1 ed) (cwV 1 hts (zg_V kw_1432 kw_1434 kw_41 kw_70 kw_1435) rfl rfl rfl (by decide +kernel) ⟨Nat.le_of_ble_eq_true rfl, Nat.le_of_ble_eq_true rfl⟩) ⟨zA_blind, va_recv hK hP (ci := 7) (q0 := 0) rfl rfl, zA_pre hP hD hS hK hQ hA [0, 1] rfl rfl (by decide) [] rfl⟩ rfl rfl hl.1 rfl (lv_room (Nat.le_of_ble_eq_true rfl)) dX8_credit_3 ⟨zl_b rfl, zl_b rfl⟩) (fun r hr => ?_)
  subst hr
  refine lv_iconst (v := 1) hx hb dX8_credit_6 (by decide) ?_
  have hFc := va_free (wc := [(h0, .inr (7, [.ref ac, cu, .int dd, .int th]))]) hD hS hA [0] rfl
  refine va_calli (va_runV (As := [.int 0, .int 1]) (rest := []) ⟨hx, hb, hml, hown, hts⟩ (c_no0 l dC dI s.heap.size t h0 (.ref ac) cu dd th 1) (cwV 2 hts (zg_V kw_1377 kw_1379 kw_40 kw_70 kw_1380) rfl rfl rfl (by decide +kernel) ⟨Nat.le_of_ble_eq_true rfl, Nat.le_of_ble_eq_true rfl⟩) ⟨zA_blind, va_recv hK hP (ci := 7) (q0 := 0) rfl rfl, zA_pre hP hD hS hK hQ hA [0] rfl rfl (by decide) [] rfl⟩ rfl rfl hl.1 rfl (lv_room (Nat.le_of_ble_eq_true rfl)) dX8_credit_7 ⟨zl_b rfl, zl_b rfl⟩) hS (fun q _ h => hFc q h) hFc (fun r_1 u t9 H1 locs ht hvm hw hB hz1 hk1 hS => ?_)
  obtain ⟨hP1, hK1, hD1⟩ := hB
  rw [ht] at hP1
  have hK1 := va_K.moved hvm.symm hK1
  obtain ⟨hP, hD⟩ := va_join (wr := [(ac, .inr (0, [.int 0, ed, .int 0]))]) (w1 := [(h0, .inr (7, [.ref ac, cu, .int dd, .int 1]))]) hP hD [0] [1] rfl rfl (by decide) (by decide) hk1 hFc hP1 hD1
  have hK := (hK.sub (tys' := []) [] rfl).app hK1
  generalize H1 = H at hP hS ⊢
  have hP : va_P (dC, dI) zc [(ac, .inr (0, [.int 0, ed, .int 0])), (h0, .inr (7, [.ref ac, cu, .int dd, .int 1]))] H := hP
  have hD : va_D A [(ac, .inr (0, [.int 0, ed, .int 0])), (h0, .inr (7, [.ref ac, cu, .int dd, .int 1]))] := hD
  have hK : va_K (dC, dI) zc [] s := hK
  have hw : 1 = r_1 := hw.symm
  subst hw
  refine lv_if_eq (tgt := 17) hx hb dX8_credit_10 (by decide) (fun c_2 => absurd c_2 (by decide)) (fun c_2 => ?_)
  refine lv_lconst (v := 0) hx hb dX8_credit_13 (by decide) ?_
  refine lv_goto (tgt := 25) hx hb dX8_credit_14 (by decide) ?_
  have hP9 := hP.sub (ws' := [(h0, .inr (7, [.ref ac, cu, .int dd, .int 1])), (ac, .inr (0, [.int 0, ed, .int 0]))]) [1, 0] rfl
  have hD9 := hD.sub (ws' := [(h0, .inr (7, [.ref ac, cu, .int dd, .int 1])), (ac, .inr (0, [.int 0, ed, .int 0]))]) [1, 0] (by decide) rfl
  have hK9 := hK.sub (tys' := []) [] rfl
  exact W.lret hx hb hr (fun t ht hW => ⟨⟨_, (), rfl, trivial, by rw [ht]; exact hP9, va_K.moved hW.alike hK9, hD9⟩, hS.F ht⟩) hS.2.2 dX8_credit_25
set_option maxHeartbeats 4000000 in
set_option maxRecDepth 100000 in
/-- statement of the model: no such account -/
theorem m_statement (l : Launch) (dC : Nat → ClassId) (dI : Nat → Nat → Nat) (sz t : Nat) (h0 ac : Nat) (cu : Value) (dd th : Int32) (ed : Value) (a1 a2 : Int32) : Met l yX8_statement ws_X8_statement ({ frames := 3, cells := 0, slots := 0, locals := 55 }) (zA dC dI [(h0, .inr (7, [.ref ac, cu, .int dd, .int th])), (ac, .inr (0, [.int 0, ed, .int 0]))] [] sz t [.ref h0, .int a1, .int a2]) (va_Ql (fun r (_ : Unit) => True) (fun _ t9 => zB dC dI (va_A [(h0, .inr (7, [.ref ac, cu, .int dd, .int th])), (ac, .inr (0, [.int 0, ed, .int 0]))] sz) [(h0, .inr (7, [.ref ac, cu, .int dd, .int 1])), (ac, .inr (0, [.int 0, ed, .int 0]))] [] t9) (va_A [(h0, .inr (7, [.ref ac, cu, .int dd, .int th])), (ac, .inr (0, [.int 0, ed, .int 0]))] sz)) 0 0 (va_A [(h0, .inr (7, [.ref ac, cu, .int dd, .int th])), (ac, .inr (0, [.int 0, ed, .int 0]))] sz) := by
  refine Met.ofW (cc := cX8_statement) (maxL := 3) (ret := (some .long)) (by decide) rfl ?_
  intro p e s m args below meth c s₁ B hml hv
  obtain ⟨rfl, hsz, hP, hK, hD0, hQ⟩ := hv
  have hx := B.exec
  have hb := B.bytes
  have hr := B.returns
  have hts : ∀ w ∈ zG, w.before _ s = true := fun w h => atoms_spec (ws := ws_X8_statement) B.pre w (List.mem_cons_of_mem _ h)
  have hown : s.vm.findClass RX8 = some m.cls := findClass_of_methodNamed B.named
  have hlocks := B.notSynchronized
  subst hsz
  have hD := hD0.self (sz := s.heap.size)
  generalize hAe : va_A [(h0, .inr (7, [.ref ac, cu, .int dd, .int th])), (ac, .inr (0, [.int 0, ed, .int 0]))] s.heap.size = A at hD hQ ⊢
  have hA : ∀ q : Nat, s.heap.size ≤ q → A q := fun q h => by rw [← hAe]; exact Or.inr h
  have hS : va_S A s.heap s.heap [] := va_S.rf
  have hP : va_P (dC, dI) zc [(h0, .inr (7, [.ref ac, cu, .int dd, .int th])), (ac, .inr (0, [.int 0, ed, .int 0]))] s.heap := hP
  have hl := lv_entry ([.ref h0, .int a1, .int a2]) (n := 3) (Nat.le_of_ble_eq_true rfl)
  rw [lg_entry_eq]
  generalize (lg_sl ([.ref h0, .int a1, .int a2]) ++ List.replicate (3 - (lg_sl ([.ref h0, .int a1, .int a2])).length) Slot.unset).toArray = ls at hl ⊢
  have hl : lv_has ls 3 [(0, .ref h0), (1, .int a1), (2, .int a2)] := hl
  refine lv_aload_n hx hb dX8_statement_0 rfl (lv_at hl 0 rfl) ?_
  refine lv_aload_n hx hb dX8_statement_1 rfl (lv_at hl 0 rfl) ?_
  refine lv_iload_n hx hb dX8_statement_2 rfl (lv_at hl 1 rfl) ?_
  refine vp_callSi (W.runV (As := [.int a1]) (rest := [.ref h0]) ⟨hx, hb, hml, hown, hts⟩ (c_isAccount l dC dI s.heap.size t h0 ac cu dd th a1 ed) (cwV 1 hts (zg_V kw_1432 kw_1434 kw_41 kw_70 kw_1435) rfl rfl rfl (by decide +kernel) ⟨Nat.le_of_ble_eq_true rfl, Nat.le_of_ble_eq_true rfl⟩) ⟨zA_blind, va_recv hK hP (ci := 7) (q0 := 0) rfl rfl, zA_pre hP hD hS hK hQ hA [0, 1] rfl rfl (by decide) [] rfl⟩ rfl rfl hl.1 rfl (lv_room (Nat.le_of_ble_eq_true rfl)) dX8_statement_3 ⟨zl_b rfl, zl_b rfl⟩) (fun r hr => ?_)
  subst hr
  refine lv_iconst (v := 1) hx hb dX8_statement_6 (by decide) ?_
  have hFc := va_free (wc := [(h0, .inr (7, [.ref ac, cu, .int dd, .int th]))]) hD hS hA [0] rfl
  refine va_calli (va_runV (As := [.int 0, .int 1]) (rest := []) ⟨hx, hb, hml, hown, hts⟩ (c_no0 l dC dI s.heap.size t h0 (.ref ac) cu dd th 1) (cwV 2 hts (zg_V kw_1377 kw_1379 kw_40 kw_70 kw_1380) rfl rfl rfl (by decide +kernel) ⟨Nat.le_of_ble_eq_true rfl, Nat.le_of_ble_eq_true rfl⟩) ⟨zA_blind, va_recv hK hP (ci := 7) (q0 := 0) rfl rfl, zA_pre hP hD hS hK hQ hA [0] rfl rfl (by decide) [] rfl⟩ rfl rfl hl.1 rfl (lv_room (Nat.le_of_ble_eq_true rfl)) dX8_statement_7 ⟨zl_b rfl, zl_b rfl⟩) hS (fun q _ h => hFc q h) hFc (fun r_1 u t9 H1 locs ht hvm hw hB hz1 hk1 hS => ?_)
  obtain ⟨hP1, hK1, hD1⟩ := hB
  rw [ht] at hP1
  have hK1 := va_K.moved hvm.symm hK1
  obtain ⟨hP, hD⟩ := va_join (wr := [(ac, .inr (0, [.int 0, ed, .int 0]))]) (w1 := [(h0, .inr (7, [.ref ac, cu, .int dd, .int 1]))]) hP hD [0] [1] rfl rfl (by decide) (by decide) hk1 hFc hP1 hD1
  have hK := (hK.sub (tys' := []) [] rfl).app hK1
  generalize H1 = H at hP hS ⊢
  have hP : va_P (dC, dI) zc [(ac, .inr (0, [.int 0, ed, .int 0])), (h0, .inr (7, [.ref ac, cu, .int dd, .int 1]))] H := hP
  have hD : va_D A [(ac, .inr (0, [.int 0, ed, .int 0])), (h0, .inr (7, [.ref ac, cu, .int dd, .int 1]))] := hD
  have hK : va_K (dC, dI) zc [] s := hK
  have hw : 1 = r_1 := hw.symm
  subst hw
  refine lv_if_ne (tgt := 26) hx hb dX8_statement_10 (by decide) (fun c_2 => ?_) (fun c_2 => absurd c_2 (by decide))
  refine lv_lconst (v := 0) hx hb dX8_statement_26 (by decide) ?_
  refine lv_goto (tgt := 40) hx hb dX8_statement_27 (by decide) ?_
  have hP9 := hP.sub (ws' := [(h0, .inr (7, [.ref ac, cu, .int dd, .int 1])), (ac, .inr (0, [.int 0, ed, .int 0]))]) [1, 0] rfl
  have hD9 := hD.sub (ws' := [(h0, .inr (7, [.ref ac, cu, .int dd, .int 1])), (ac, .inr (0, [.int 0, ed, .int 0]))]) [1, 0] (by decide) rfl
  have hK9 := hK.sub (tys' := []) [] rfl
  exact W.lret hx hb hr (fun t ht hW => ⟨⟨_, (), rfl, trivial, by rw [ht]; exact hP9, va_K.moved hW.alike hK9, hD9⟩, hS.F ht⟩) hS.2.2 dX8_statement_40
set_option maxHeartbeats 4000000 in
set_option maxRecDepth 100000 in
/-- told of the model: no such account -/
theorem m_told (l : Launch) (dC : Nat → ClassId) (dI : Nat → Nat → Nat) (sz t : Nat) (h0 ac : Nat) (cu : Value) (dd th : Int32) (ed : Value) (a1 a2 : Int32) : Met l yX8_told ws_X8_told ({ frames := 3, cells := 0, slots := 0, locals := 55 }) (zA dC dI [(h0, .inr (7, [.ref ac, cu, .int dd, .int th])), (ac, .inr (0, [.int 0, ed, .int 0]))] [] sz t [.ref h0, .int a1, .int a2]) (va_Ql (fun r (_ : Unit) => True) (fun _ t9 => zB dC dI (va_A [(h0, .inr (7, [.ref ac, cu, .int dd, .int th])), (ac, .inr (0, [.int 0, ed, .int 0]))] sz) [(h0, .inr (7, [.ref ac, cu, .int dd, .int 1])), (ac, .inr (0, [.int 0, ed, .int 0]))] [] t9) (va_A [(h0, .inr (7, [.ref ac, cu, .int dd, .int th])), (ac, .inr (0, [.int 0, ed, .int 0]))] sz)) 0 0 (va_A [(h0, .inr (7, [.ref ac, cu, .int dd, .int th])), (ac, .inr (0, [.int 0, ed, .int 0]))] sz) := by
  refine Met.ofW (cc := cX8_told) (maxL := 3) (ret := (some .long)) (by decide) rfl ?_
  intro p e s m args below meth c s₁ B hml hv
  obtain ⟨rfl, hsz, hP, hK, hD0, hQ⟩ := hv
  have hx := B.exec
  have hb := B.bytes
  have hr := B.returns
  have hts : ∀ w ∈ zG, w.before _ s = true := fun w h => atoms_spec (ws := ws_X8_told) B.pre w (List.mem_cons_of_mem _ h)
  have hown : s.vm.findClass RX8 = some m.cls := findClass_of_methodNamed B.named
  have hlocks := B.notSynchronized
  subst hsz
  have hD := hD0.self (sz := s.heap.size)
  generalize hAe : va_A [(h0, .inr (7, [.ref ac, cu, .int dd, .int th])), (ac, .inr (0, [.int 0, ed, .int 0]))] s.heap.size = A at hD hQ ⊢
  have hA : ∀ q : Nat, s.heap.size ≤ q → A q := fun q h => by rw [← hAe]; exact Or.inr h
  have hS : va_S A s.heap s.heap [] := va_S.rf
  have hP : va_P (dC, dI) zc [(h0, .inr (7, [.ref ac, cu, .int dd, .int th])), (ac, .inr (0, [.int 0, ed, .int 0]))] s.heap := hP
  have hl := lv_entry ([.ref h0, .int a1, .int a2]) (n := 3) (Nat.le_of_ble_eq_true rfl)
  rw [lg_entry_eq]
  generalize (lg_sl ([.ref h0, .int a1, .int a2]) ++ List.replicate (3 - (lg_sl ([.ref h0, .int a1, .int a2])).length) Slot.unset).toArray = ls at hl ⊢
  have hl : lv_has ls 3 [(0, .ref h0), (1, .int a1), (2, .int a2)] := hl
  refine lv_aload_n hx hb dX8_told_0 rfl (lv_at hl 0 rfl) ?_
  refine lv_aload_n hx hb dX8_told_1 rfl (lv_at hl 0 rfl) ?_
  refine lv_iload_n hx hb dX8_told_2 rfl (lv_at hl 1 rfl) ?_
  refine vp_callSi (W.runV (As := [.int a1]) (rest := [.ref h0]) ⟨hx, hb, hml, hown, hts⟩ (c_isAccount l dC dI s.heap.size t h0 ac cu dd th a1 ed) (cwV 1 hts (zg_V kw_1432 kw_1434 kw_41 kw_70 kw_1435) rfl rfl rfl (by decide +kernel) ⟨Nat.le_of_ble_eq_true rfl, Nat.le_of_ble_eq_true rfl⟩) ⟨zA_blind, va_recv hK hP (ci := 7) (q0 := 0) rfl rfl, zA_pre hP hD hS hK hQ hA [0, 1] rfl rfl (by decide) [] rfl⟩ rfl rfl hl.1 rfl (lv_room (Nat.le_of_ble_eq_true rfl)) dX8_told_3 ⟨zl_b rfl, zl_b rfl⟩) (fun r hr => ?_)
  subst hr
  refine lv_iconst (v := 1) hx hb dX8_told_6 (by decide) ?_
  have hFc := va_free (wc := [(h0, .inr (7, [.ref ac, cu, .int dd, .int th]))]) hD hS hA [0] rfl
  refine va_calli (va_runV (As := [.int 0, .int 1]) (rest := []) ⟨hx, hb, hml, hown, hts⟩ (c_no0 l dC dI s.heap.size t h0 (.ref ac) cu dd th 1) (cwV 2 hts (zg_V kw_1377 kw_1379 kw_40 kw_70 kw_1380) rfl rfl rfl (by decide +kernel) ⟨Nat.le_of_ble_eq_true rfl, Nat.le_of_ble_eq_true rfl⟩) ⟨zA_blind, va_recv hK hP (ci := 7) (q0 := 0) rfl rfl, zA_pre hP hD hS hK hQ hA [0] rfl rfl (by decide) [] rfl⟩ rfl rfl hl.1 rfl (lv_room (Nat.le_of_ble_eq_true rfl)) dX8_told_7 ⟨zl_b rfl, zl_b rfl⟩) hS (fun q _ h => hFc q h) hFc (fun r_1 u t9 H1 locs ht hvm hw hB hz1 hk1 hS => ?_)
  obtain ⟨hP1, hK1, hD1⟩ := hB
  rw [ht] at hP1
  have hK1 := va_K.moved hvm.symm hK1
  obtain ⟨hP, hD⟩ := va_join (wr := [(ac, .inr (0, [.int 0, ed, .int 0]))]) (w1 := [(h0, .inr (7, [.ref ac, cu, .int dd, .int 1]))]) hP hD [0] [1] rfl rfl (by decide) (by decide) hk1 hFc hP1 hD1
  have hK := (hK.sub (tys' := []) [] rfl).app hK1
  generalize H1 = H at hP hS ⊢
  have hP : va_P (dC, dI) zc [(ac, .inr (0, [.int 0, ed, .int 0])), (h0, .inr (7, [.ref ac, cu, .int dd, .int 1]))] H := hP
  have hD : va_D A [(ac, .inr (0, [.int 0, ed, .int 0])), (h0, .inr (7, [.ref ac, cu, .int dd, .int 1]))] := hD
  have hK : va_K (dC, dI) zc [] s := hK
  have hw : 1 = r_1 := hw.symm
  subst hw
  refine lv_if_ne (tgt := 27) hx hb dX8_told_10 (by decide) (fun c_2 => ?_) (fun c_2 => absurd c_2 (by decide))
  refine lv_lconst (v := 0) hx hb dX8_told_27 (by decide) ?_
  refine lv_goto (tgt := 52) hx hb dX8_told_28 (by decide) ?_
  have hP9 := hP.sub (ws' := [(h0, .inr (7, [.ref ac, cu, .int dd, .int 1])), (ac, .inr (0, [.int 0, ed, .int 0]))]) [1, 0] rfl
  have hD9 := hD.sub (ws' := [(h0, .inr (7, [.ref ac, cu, .int dd, .int 1])), (ac, .inr (0, [.int 0, ed, .int 0]))]) [1, 0] (by decide) rfl
  have hK9 := hK.sub (tys' := []) [] rfl
  exact W.lret hx hb hr (fun t ht hW => ⟨⟨_, (), rfl, trivial, by rw [ht]; exact hP9, va_K.moved hW.alike hK9, hD9⟩, hS.F ht⟩) hS.2.2 dX8_told_52
set_option maxHeartbeats 4000000 in
set_option maxRecDepth 100000 in
/-- difference of the model: no such account -/
theorem m_difference (l : Launch) (dC : Nat → ClassId) (dI : Nat → Nat → Nat) (sz t : Nat) (h0 ac : Nat) (cu : Value) (dd th : Int32) (ed : Value) (a1 a2 : Int32) : Met l yX8_difference ws_X8_difference ({ frames := 3, cells := 0, slots := 0, locals := 55 }) (zA dC dI [(h0, .inr (7, [.ref ac, cu, .int dd, .int th])), (ac, .inr (0, [.int 0, ed, .int 0]))] [] sz t [.ref h0, .int a1, .int a2]) (va_Ql (fun r (_ : Unit) => True) (fun _ t9 => zB dC dI (va_A [(h0, .inr (7, [.ref ac, cu, .int dd, .int th])), (ac, .inr (0, [.int 0, ed, .int 0]))] sz) [(h0, .inr (7, [.ref ac, cu, .int dd, .int 1])), (ac, .inr (0, [.int 0, ed, .int 0]))] [] t9) (va_A [(h0, .inr (7, [.ref ac, cu, .int dd, .int th])), (ac, .inr (0, [.int 0, ed, .int 0]))] sz)) 0 0 (va_A [(h0, .inr (7, [.ref ac, cu, .int dd, .int th])), (ac, .inr (0, [.int 0, ed, .int 0]))] sz) := by
  refine Met.ofW (cc := cX8_difference) (maxL := 3) (ret := (some .long)) (by decide) rfl ?_
  intro p e s m args below meth c s₁ B hml hv
  obtain ⟨rfl, hsz, hP, hK, hD0, hQ⟩ := hv
  have hx := B.exec
  have hb := B.bytes
  have hr := B.returns
  have hts : ∀ w ∈ zG, w.before _ s = true := fun w h => atoms_spec (ws := ws_X8_difference) B.pre w (List.mem_cons_of_mem _ h)
  have hown : s.vm.findClass RX8 = some m.cls := findClass_of_methodNamed B.named
  have hlocks := B.notSynchronized
  subst hsz
  have hD := hD0.self (sz := s.heap.size)
  generalize hAe : va_A [(h0, .inr (7, [.ref ac, cu, .int dd, .int th])), (ac, .inr (0, [.int 0, ed, .int 0]))] s.heap.size = A at hD hQ ⊢
  have hA : ∀ q : Nat, s.heap.size ≤ q → A q := fun q h => by rw [← hAe]; exact Or.inr h
  have hS : va_S A s.heap s.heap [] := va_S.rf
  have hP : va_P (dC, dI) zc [(h0, .inr (7, [.ref ac, cu, .int dd, .int th])), (ac, .inr (0, [.int 0, ed, .int 0]))] s.heap := hP
  have hl := lv_entry ([.ref h0, .int a1, .int a2]) (n := 3) (Nat.le_of_ble_eq_true rfl)
  rw [lg_entry_eq]
  generalize (lg_sl ([.ref h0, .int a1, .int a2]) ++ List.replicate (3 - (lg_sl ([.ref h0, .int a1, .int a2])).length) Slot.unset).toArray = ls at hl ⊢
  have hl : lv_has ls 3 [(0, .ref h0), (1, .int a1), (2, .int a2)] := hl
  refine lv_aload_n hx hb dX8_difference_0 rfl (lv_at hl 0 rfl) ?_
  refine lv_aload_n hx hb dX8_difference_1 rfl (lv_at hl 0 rfl) ?_
  refine lv_iload_n hx hb dX8_difference_2 rfl (lv_at hl 1 rfl) ?_
  refine vp_callSi (W.runV (As := [.int a1]) (rest := [.ref h0]) ⟨hx, hb, hml, hown, hts⟩ (c_isAccount l dC dI s.heap.size t h0 ac cu dd th a1 ed) (cwV 1 hts (zg_V kw_1432 kw_1434 kw_41 kw_70 kw_1435) rfl rfl rfl (by decide +kernel) ⟨Nat.le_of_ble_eq_true rfl, Nat.le_of_ble_eq_true rfl⟩) ⟨zA_blind, va_recv hK hP (ci := 7) (q0 := 0) rfl rfl, zA_pre hP hD hS hK hQ hA [0, 1] rfl rfl (by decide) [] rfl⟩ rfl rfl hl.1 rfl (lv_room (Nat.le_of_ble_eq_true rfl)) dX8_difference_3 ⟨zl_b rfl, zl_b rfl⟩) (fun r hr => ?_)
  subst hr
  refine lv_iconst (v := 1) hx hb dX8_difference_6 (by decide) ?_
  have hFc := va_free (wc := [(h0, .inr (7, [.ref ac, cu, .int dd, .int th]))]) hD hS hA [0] rfl
  refine va_calli (va_runV (As := [.int 0, .int 1]) (rest := []) ⟨hx, hb, hml, hown, hts⟩ (c_no0 l dC dI s.heap.size t h0 (.ref ac) cu dd th 1) (cwV 2 hts (zg_V kw_1377 kw_1379 kw_40 kw_70 kw_1380) rfl rfl rfl (by decide +kernel) ⟨Nat.le_of_ble_eq_true rfl, Nat.le_of_ble_eq_true rfl⟩) ⟨zA_blind, va_recv hK hP (ci := 7) (q0 := 0) rfl rfl, zA_pre hP hD hS hK hQ hA [0] rfl rfl (by decide) [] rfl⟩ rfl rfl hl.1 rfl (lv_room (Nat.le_of_ble_eq_true rfl)) dX8_difference_7 ⟨zl_b rfl, zl_b rfl⟩) hS (fun q _ h => hFc q h) hFc (fun r_1 u t9 H1 locs ht hvm hw hB hz1 hk1 hS => ?_)
  obtain ⟨hP1, hK1, hD1⟩ := hB
  rw [ht] at hP1
  have hK1 := va_K.moved hvm.symm hK1
  obtain ⟨hP, hD⟩ := va_join (wr := [(ac, .inr (0, [.int 0, ed, .int 0]))]) (w1 := [(h0, .inr (7, [.ref ac, cu, .int dd, .int 1]))]) hP hD [0] [1] rfl rfl (by decide) (by decide) hk1 hFc hP1 hD1
  have hK := (hK.sub (tys' := []) [] rfl).app hK1
  generalize H1 = H at hP hS ⊢
  have hP : va_P (dC, dI) zc [(ac, .inr (0, [.int 0, ed, .int 0])), (h0, .inr (7, [.ref ac, cu, .int dd, .int 1]))] H := hP
  have hD : va_D A [(ac, .inr (0, [.int 0, ed, .int 0])), (h0, .inr (7, [.ref ac, cu, .int dd, .int 1]))] := hD
  have hK : va_K (dC, dI) zc [] s := hK
  have hw : 1 = r_1 := hw.symm
  subst hw
  refine lv_if_ne (tgt := 27) hx hb dX8_difference_10 (by decide) (fun c_2 => ?_) (fun c_2 => absurd c_2 (by decide))
  refine lv_lconst (v := 0) hx hb dX8_difference_27 (by decide) ?_
  refine lv_goto (tgt := 63) hx hb dX8_difference_28 (by decide) ?_
  have hP9 := hP.sub (ws' := [(h0, .inr (7, [.ref ac, cu, .int dd, .int 1])), (ac, .inr (0, [.int 0, ed, .int 0]))]) [1, 0] rfl
  have hD9 := hD.sub (ws' := [(h0, .inr (7, [.ref ac, cu, .int dd, .int 1])), (ac, .inr (0, [.int 0, ed, .int 0]))]) [1, 0] (by decide) rfl
  have hK9 := hK.sub (tys' := []) [] rfl
  exact W.lret hx hb hr (fun t ht hW => ⟨⟨_, (), rfl, trivial, by rw [ht]; exact hP9, va_K.moved hW.alike hK9, hD9⟩, hS.F ht⟩) hS.2.2 dX8_difference_63
set_option maxHeartbeats 4000000 in
set_option maxRecDepth 100000 in
/-- least of the model: no such account -/
theorem m_least (l : Launch) (dC : Nat → ClassId) (dI : Nat → Nat → Nat) (sz t : Nat) (h0 ac : Nat) (cu : Value) (dd th : Int32) (ed : Value) (a1 a2 : Int32) : Met l yX8_least ws_X8_least ({ frames := 3, cells := 0, slots := 0, locals := 55 }) (zA dC dI [(h0, .inr (7, [.ref ac, cu, .int dd, .int th])), (ac, .inr (0, [.int 0, ed, .int 0]))] [] sz t [.ref h0, .int a1, .int a2]) (va_Ql (fun r (_ : Unit) => True) (fun _ t9 => zB dC dI (va_A [(h0, .inr (7, [.ref ac, cu, .int dd, .int th])), (ac, .inr (0, [.int 0, ed, .int 0]))] sz) [(h0, .inr (7, [.ref ac, cu, .int dd, .int 1])), (ac, .inr (0, [.int 0, ed, .int 0]))] [] t9) (va_A [(h0, .inr (7, [.ref ac, cu, .int dd, .int th])), (ac, .inr (0, [.int 0, ed, .int 0]))] sz)) 0 0 (va_A [(h0, .inr (7, [.ref ac, cu, .int dd, .int th])), (ac, .inr (0, [.int 0, ed, .int 0]))] sz) := by
  refine Met.ofW (cc := cX8_least) (maxL := 3) (ret := (some .long)) (by decide) rfl ?_
  intro p e s m args below meth c s₁ B hml hv
  obtain ⟨rfl, hsz, hP, hK, hD0, hQ⟩ := hv
  have hx := B.exec
  have hb := B.bytes
  have hr := B.returns
  have hts : ∀ w ∈ zG, w.before _ s = true := fun w h => atoms_spec (ws := ws_X8_least) B.pre w (List.mem_cons_of_mem _ h)
  have hown : s.vm.findClass RX8 = some m.cls := findClass_of_methodNamed B.named
  have hlocks := B.notSynchronized
  subst hsz
  have hD := hD0.self (sz := s.heap.size)
  generalize hAe : va_A [(h0, .inr (7, [.ref ac, cu, .int dd, .int th])), (ac, .inr (0, [.int 0, ed, .int 0]))] s.heap.size = A at hD hQ ⊢
  have hA : ∀ q : Nat, s.heap.size ≤ q → A q := fun q h => by rw [← hAe]; exact Or.inr h
  have hS : va_S A s.heap s.heap [] := va_S.rf
  have hP : va_P (dC, dI) zc [(h0, .inr (7, [.ref ac, cu, .int dd, .int th])), (ac, .inr (0, [.int 0, ed, .int 0]))] s.heap := hP
  have hl := lv_entry ([.ref h0, .int a1, .int a2]) (n := 3) (Nat.le_of_ble_eq_true rfl)
  rw [lg_entry_eq]
  generalize (lg_sl ([.ref h0, .int a1, .int a2]) ++ List.replicate (3 - (lg_sl ([.ref h0, .int a1, .int a2])).length) Slot.unset).toArray = ls at hl ⊢
  have hl : lv_has ls 3 [(0, .ref h0), (1, .int a1), (2, .int a2)] := hl
  refine lv_aload_n hx hb dX8_least_0 rfl (lv_at hl 0 rfl) ?_
  refine lv_aload_n hx hb dX8_least_1 rfl (lv_at hl 0 rfl) ?_
  refine lv_iload_n hx hb dX8_least_2 rfl (lv_at hl 1 rfl) ?_
  refine vp_callSi (W.runV (As := [.int a1]) (rest := [.ref h0]) ⟨hx, hb, hml, hown, hts⟩ (c_isAccount l dC dI s.heap.size t h0 ac cu dd th a1 ed) (cwV 1 hts (zg_V kw_1432 kw_1434 kw_41 kw_70 kw_1435) rfl rfl rfl (by decide +kernel) ⟨Nat.le_of_ble_eq_true rfl, Nat.le_of_ble_eq_true rfl⟩) ⟨zA_blind, va_recv hK hP (ci := 7) (q0 := 0) rfl rfl, zA_pre hP hD hS hK hQ hA [0, 1] rfl rfl (by decide) [] rfl⟩ rfl rfl hl.1 rfl (lv_room (Nat.le_of_ble_eq_true rfl)) dX8_least_3 ⟨zl_b rfl, zl_b rfl⟩) (fun r hr => ?_)
  subst hr
  refine lv_iconst (v := 1) hx hb dX8_least_6 (by decide) ?_
  have hFc := va_free (wc := [(h0, .inr (7, [.ref ac, cu, .int dd, .int th]))]) hD hS hA [0] rfl
  refine va_calli (va_runV (As := [.int 0, .int 1]) (rest := []) ⟨hx, hb, hml, hown, hts⟩ (c_no0 l dC dI s.heap.size t h0 (.ref ac) cu dd th 1) (cwV 2 hts (zg_V kw_1377 kw_1379 kw_40 kw_70 kw_1380) rfl rfl rfl (by decide +kernel) ⟨Nat.le_of_ble_eq_true rfl, Nat.le_of_ble_eq_true rfl⟩) ⟨zA_blind, va_recv hK hP (ci := 7) (q0 := 0) rfl rfl, zA_pre hP hD hS hK hQ hA [0] rfl rfl (by decide) [] rfl⟩ rfl rfl hl.1 rfl (lv_room (Nat.le_of_ble_eq_true rfl)) dX8_least_7 ⟨zl_b rfl, zl_b rfl⟩) hS (fun q _ h => hFc q h) hFc (fun r_1 u t9 H1 locs ht hvm hw hB hz1 hk1 hS => ?_)
  obtain ⟨hP1, hK1, hD1⟩ := hB
  rw [ht] at hP1
  have hK1 := va_K.moved hvm.symm hK1
  obtain ⟨hP, hD⟩ := va_join (wr := [(ac, .inr (0, [.int 0, ed, .int 0]))]) (w1 := [(h0, .inr (7, [.ref ac, cu, .int dd, .int 1]))]) hP hD [0] [1] rfl rfl (by decide) (by decide) hk1 hFc hP1 hD1
  have hK := (hK.sub (tys' := []) [] rfl).app hK1
  generalize H1 = H at hP hS ⊢
  have hP : va_P (dC, dI) zc [(ac, .inr (0, [.int 0, ed, .int 0])), (h0, .inr (7, [.ref ac, cu, .int dd, .int 1]))] H := hP
  have hD : va_D A [(ac, .inr (0, [.int 0, ed, .int 0])), (h0, .inr (7, [.ref ac, cu, .int dd, .int 1]))] := hD
  have hK : va_K (dC, dI) zc [] s := hK
  have hw : 1 = r_1 := hw.symm
  subst hw
  refine lv_if_ne (tgt := 26) hx hb dX8_least_10 (by decide) (fun c_2 => ?_) (fun c_2 => absurd c_2 (by decide))
  refine lv_lconst (v := 0) hx hb dX8_least_26 (by decide) ?_
  refine lv_goto (tgt := 40) hx hb dX8_least_27 (by decide) ?_
  have hP9 := hP.sub (ws' := [(h0, .inr (7, [.ref ac, cu, .int dd, .int 1])), (ac, .inr (0, [.int 0, ed, .int 0]))]) [1, 0] rfl
  have hD9 := hD.sub (ws' := [(h0, .inr (7, [.ref ac, cu, .int dd, .int 1])), (ac, .inr (0, [.int 0, ed, .int 0]))]) [1, 0] (by decide) rfl
  have hK9 := hK.sub (tys' := []) [] rfl
  exact W.lret hx hb hr (fun t ht hW => ⟨⟨_, (), rfl, trivial, by rw [ht]; exact hP9, va_K.moved hW.alike hK9, hD9⟩, hS.F ht⟩) hS.2.2 dX8_least_40
set_option maxHeartbeats 4000000 in
set_option maxRecDepth 100000 in
/-- interest of the model: no such account -/
theorem m_interest (l : Launch) (dC : Nat → ClassId) (dI : Nat → Nat → Nat) (sz t : Nat) (h0 ac : Nat) (cu : Value) (dd th : Int32) (ed : Value) (a1 a2 : Int32) : Met l yX8_interest ws_X8_interest ({ frames := 3, cells := 0, slots := 0, locals := 55 }) (zA dC dI [(h0, .inr (7, [.ref ac, cu, .int dd, .int th])), (ac, .inr (0, [.int 0, ed, .int 0]))] [] sz t [.ref h0, .int a1, .int a2]) (va_Ql (fun r (_ : Unit) => True) (fun _ t9 => zB dC dI (va_A [(h0, .inr (7, [.ref ac, cu, .int dd, .int th])), (ac, .inr (0, [.int 0, ed, .int 0]))] sz) [(h0, .inr (7, [.ref ac, cu, .int dd, .int 1])), (ac, .inr (0, [.int 0, ed, .int 0]))] [] t9) (va_A [(h0, .inr (7, [.ref ac, cu, .int dd, .int th])), (ac, .inr (0, [.int 0, ed, .int 0]))] sz)) 0 0 (va_A [(h0, .inr (7, [.ref ac, cu, .int dd, .int th])), (ac, .inr (0, [.int 0, ed, .int 0]))] sz) := by
  refine Met.ofW (cc := cX8_interest) (maxL := 3) (ret := (some .long)) (by decide) rfl ?_
  intro p e s m args below meth c s₁ B hml hv
  obtain ⟨rfl, hsz, hP, hK, hD0, hQ⟩ := hv
  have hx := B.exec
  have hb := B.bytes
  have hr := B.returns
  have hts : ∀ w ∈ zG, w.before _ s = true := fun w h => atoms_spec (ws := ws_X8_interest) B.pre w (List.mem_cons_of_mem _ h)
  have hown : s.vm.findClass RX8 = some m.cls := findClass_of_methodNamed B.named
  have hlocks := B.notSynchronized
  subst hsz
  have hD := hD0.self (sz := s.heap.size)
  generalize hAe : va_A [(h0, .inr (7, [.ref ac, cu, .int dd, .int th])), (ac, .inr (0, [.int 0, ed, .int 0]))] s.heap.size = A at hD hQ ⊢
  have hA : ∀ q : Nat, s.heap.size ≤ q → A q := fun q h => by rw [← hAe]; exact Or.inr h
  have hS : va_S A s.heap s.heap [] := va_S.rf
  have hP : va_P (dC, dI) zc [(h0, .inr (7, [.ref ac, cu, .int dd, .int th])), (ac, .inr (0, [.int 0, ed, .int 0]))] s.heap := hP
  have hl := lv_entry ([.ref h0, .int a1, .int a2]) (n := 3) (Nat.le_of_ble_eq_true rfl)
  rw [lg_entry_eq]
  generalize (lg_sl ([.ref h0, .int a1, .int a2]) ++ List.replicate (3 - (lg_sl ([.ref h0, .int a1, .int a2])).length) Slot.unset).toArray = ls at hl ⊢
  have hl : lv_has ls 3 [(0, .ref h0), (1, .int a1), (2, .int a2)] := hl
  refine lv_aload_n hx hb dX8_interest_0 rfl (lv_at hl 0 rfl) ?_
  refine lv_aload_n hx hb dX8_interest_1 rfl (lv_at hl 0 rfl) ?_
  refine lv_iload_n hx hb dX8_interest_2 rfl (lv_at hl 1 rfl) ?_
  refine vp_callSi (W.runV (As := [.int a1]) (rest := [.ref h0]) ⟨hx, hb, hml, hown, hts⟩ (c_isAccount l dC dI s.heap.size t h0 ac cu dd th a1 ed) (cwV 1 hts (zg_V kw_1432 kw_1434 kw_41 kw_70 kw_1435) rfl rfl rfl (by decide +kernel) ⟨Nat.le_of_ble_eq_true rfl, Nat.le_of_ble_eq_true rfl⟩) ⟨zA_blind, va_recv hK hP (ci := 7) (q0 := 0) rfl rfl, zA_pre hP hD hS hK hQ hA [0, 1] rfl rfl (by decide) [] rfl⟩ rfl rfl hl.1 rfl (lv_room (Nat.le_of_ble_eq_true rfl)) dX8_interest_3 ⟨zl_b rfl, zl_b rfl⟩) (fun r hr => ?_)
  subst hr
  refine lv_iconst (v := 1) hx hb dX8_interest_6 (by decide) ?_
  have hFc := va_free (wc := [(h0, .inr (7, [.ref ac, cu, .int dd, .int th]))]) hD hS hA [0] rfl
  refine va_calli (va_runV (As := [.int 0, .int 1]) (rest := []) ⟨hx, hb, hml, hown, hts⟩ (c_no0 l dC dI s.heap.size t h0 (.ref ac) cu dd th 1) (cwV 2 hts (zg_V kw_1377 kw_1379 kw_40 kw_70 kw_1380) rfl rfl rfl (by decide +kernel) ⟨Nat.le_of_ble_eq_true rfl, Nat.le_of_ble_eq_true rfl⟩) ⟨zA_blind, va_recv hK hP (ci := 7) (q0 := 0) rfl rfl, zA_pre hP hD hS hK hQ hA [0] rfl rfl (by decide) [] rfl⟩ rfl rfl hl.1 rfl (lv_room (Nat.le_of_ble_eq_true rfl)) dX8_interest_7 ⟨zl_b rfl, zl_b rfl⟩) hS (fun q _ h => hFc q h) hFc (fun r_1 u t9 H1 locs ht hvm hw hB hz1 hk1 hS => ?_)
  obtain ⟨hP1, hK1, hD1⟩ := hB
  rw [ht] at hP1
  have hK1 := va_K.moved hvm.symm hK1
  obtain ⟨hP, hD⟩ := va_join (wr := [(ac, .inr (0, [.int 0, ed, .int 0]))]) (w1 := [(h0, .inr (7, [.ref ac, cu, .int dd, .int 1]))]) hP hD [0] [1] rfl rfl (by decide) (by decide) hk1 hFc hP1 hD1
  have hK := (hK.sub (tys' := []) [] rfl).app hK1
  generalize H1 = H at hP hS ⊢
  have hP : va_P (dC, dI) zc [(ac, .inr (0, [.int 0, ed, .int 0])), (h0, .inr (7, [.ref ac, cu, .int dd, .int 1]))] H := hP
  have hD : va_D A [(ac, .inr (0, [.int 0, ed, .int 0])), (h0, .inr (7, [.ref ac, cu, .int dd, .int 1]))] := hD
  have hK : va_K (dC, dI) zc [] s := hK
  have hw : 1 = r_1 := hw.symm
  subst hw
  refine lv_if_ne (tgt := 26) hx hb dX8_interest_10 (by decide) (fun c_2 => ?_) (fun c_2 => absurd c_2 (by decide))
  refine lv_lconst (v := 0) hx hb dX8_interest_26 (by decide) ?_
  refine lv_goto (tgt := 40) hx hb dX8_interest_27 (by decide) ?_
  have hP9 := hP.sub (ws' := [(h0, .inr (7, [.ref ac, cu, .int dd, .int 1])), (ac, .inr (0, [.int 0, ed, .int 0]))]) [1, 0] rfl
  have hD9 := hD.sub (ws' := [(h0, .inr (7, [.ref ac, cu, .int dd, .int 1])), (ac, .inr (0, [.int 0, ed, .int 0]))]) [1, 0] (by decide) rfl
  have hK9 := hK.sub (tys' := []) [] rfl
  exact W.lret hx hb hr (fun t ht hW => ⟨⟨_, (), rfl, trivial, by rw [ht]; exact hP9, va_K.moved hW.alike hK9, hD9⟩, hS.F ht⟩) hS.2.2 dX8_interest_40
set_option maxHeartbeats 4000000 in
set_option maxRecDepth 100000 in
/-- hadGrace of the model: no such account -/
theorem m_hadGrace (l : Launch) (dC : Nat → ClassId) (dI : Nat → Nat → Nat) (sz t : Nat) (h0 ac : Nat) (cu : Value) (dd th : Int32) (ed : Value) (a1 a2 : Int32) : Met l yX8_hadGrace ws_X8_hadGrace ({ frames := 3, cells := 0, slots := 0, locals := 55 }) (zA dC dI [(h0, .inr (7, [.ref ac, cu, .int dd, .int th])), (ac, .inr (0, [.int 0, ed, .int 0]))] [] sz t [.ref h0, .int a1, .int a2]) (va_Qi (fun r (_ : Unit) => True) (fun _ t9 => zB dC dI (va_A [(h0, .inr (7, [.ref ac, cu, .int dd, .int th])), (ac, .inr (0, [.int 0, ed, .int 0]))] sz) [(h0, .inr (7, [.ref ac, cu, .int dd, .int 1])), (ac, .inr (0, [.int 0, ed, .int 0]))] [] t9) (va_A [(h0, .inr (7, [.ref ac, cu, .int dd, .int th])), (ac, .inr (0, [.int 0, ed, .int 0]))] sz)) 0 0 (va_A [(h0, .inr (7, [.ref ac, cu, .int dd, .int th])), (ac, .inr (0, [.int 0, ed, .int 0]))] sz) := by
  refine Met.ofW (cc := cX8_hadGrace) (maxL := 3) (ret := (some .boolean)) (by decide) rfl ?_
  intro p e s m args below meth c s₁ B hml hv
  obtain ⟨rfl, hsz, hP, hK, hD0, hQ⟩ := hv
  have hx := B.exec
  have hb := B.bytes
  have hr := B.returns
  have hts : ∀ w ∈ zG, w.before _ s = true := fun w h => atoms_spec (ws := ws_X8_hadGrace) B.pre w (List.mem_cons_of_mem _ h)
  have hown : s.vm.findClass RX8 = some m.cls := findClass_of_methodNamed B.named
  have hlocks := B.notSynchronized
  subst hsz
  have hD := hD0.self (sz := s.heap.size)
  generalize hAe : va_A [(h0, .inr (7, [.ref ac, cu, .int dd, .int th])), (ac, .inr (0, [.int 0, ed, .int 0]))] s.heap.size = A at hD hQ ⊢
  have hA : ∀ q : Nat, s.heap.size ≤ q → A q := fun q h => by rw [← hAe]; exact Or.inr h
  have hS : va_S A s.heap s.heap [] := va_S.rf
  have hP : va_P (dC, dI) zc [(h0, .inr (7, [.ref ac, cu, .int dd, .int th])), (ac, .inr (0, [.int 0, ed, .int 0]))] s.heap := hP
  have hl := lv_entry ([.ref h0, .int a1, .int a2]) (n := 3) (Nat.le_of_ble_eq_true rfl)
  rw [lg_entry_eq]
  generalize (lg_sl ([.ref h0, .int a1, .int a2]) ++ List.replicate (3 - (lg_sl ([.ref h0, .int a1, .int a2])).length) Slot.unset).toArray = ls at hl ⊢
  have hl : lv_has ls 3 [(0, .ref h0), (1, .int a1), (2, .int a2)] := hl
  refine lv_aload_n hx hb dX8_hadGrace_0 rfl (lv_at hl 0 rfl) ?_
  refine lv_aload_n hx hb dX8_hadGrace_1 rfl (lv_at hl 0 rfl) ?_
  refine lv_iload_n hx hb dX8_hadGrace_2 rfl (lv_at hl 1 rfl) ?_
  refine vp_callSi (W.runV (As := [.int a1]) (rest := [.ref h0]) ⟨hx, hb, hml, hown, hts⟩ (c_isAccount l dC dI s.heap.size t h0 ac cu dd th a1 ed) (cwV 1 hts (zg_V kw_1432 kw_1434 kw_41 kw_70 kw_1435) rfl rfl rfl (by decide +kernel) ⟨Nat.le_of_ble_eq_true rfl, Nat.le_of_ble_eq_true rfl⟩) ⟨zA_blind, va_recv hK hP (ci := 7) (q0 := 0) rfl rfl, zA_pre hP hD hS hK hQ hA [0, 1] rfl rfl (by decide) [] rfl⟩ rfl rfl hl.1 rfl (lv_room (Nat.le_of_ble_eq_true rfl)) dX8_hadGrace_3 ⟨zl_b rfl, zl_b rfl⟩) (fun r hr => ?_)
  subst hr
  refine lv_iconst (v := 1) hx hb dX8_hadGrace_6 (by decide) ?_
  have hFc := va_free (wc := [(h0, .inr (7, [.ref ac, cu, .int dd, .int th]))]) hD hS hA [0] rfl
  refine va_calli (va_runV (As := [.int 0, .int 1]) (rest := []) ⟨hx, hb, hml, hown, hts⟩ (c_no0 l dC dI s.heap.size t h0 (.ref ac) cu dd th 1) (cwV 2 hts (zg_V kw_1377 kw_1379 kw_40 kw_70 kw_1380) rfl rfl rfl (by decide +kernel) ⟨Nat.le_of_ble_eq_true rfl, Nat.le_of_ble_eq_true rfl⟩) ⟨zA_blind, va_recv hK hP (ci := 7) (q0 := 0) rfl rfl, zA_pre hP hD hS hK hQ hA [0] rfl rfl (by decide) [] rfl⟩ rfl rfl hl.1 rfl (lv_room (Nat.le_of_ble_eq_true rfl)) dX8_hadGrace_7 ⟨zl_b rfl, zl_b rfl⟩) hS (fun q _ h => hFc q h) hFc (fun r_1 u t9 H1 locs ht hvm hw hB hz1 hk1 hS => ?_)
  obtain ⟨hP1, hK1, hD1⟩ := hB
  rw [ht] at hP1
  have hK1 := va_K.moved hvm.symm hK1
  obtain ⟨hP, hD⟩ := va_join (wr := [(ac, .inr (0, [.int 0, ed, .int 0]))]) (w1 := [(h0, .inr (7, [.ref ac, cu, .int dd, .int 1]))]) hP hD [0] [1] rfl rfl (by decide) (by decide) hk1 hFc hP1 hD1
  have hK := (hK.sub (tys' := []) [] rfl).app hK1
  generalize H1 = H at hP hS ⊢
  have hP : va_P (dC, dI) zc [(ac, .inr (0, [.int 0, ed, .int 0])), (h0, .inr (7, [.ref ac, cu, .int dd, .int 1]))] H := hP
  have hD : va_D A [(ac, .inr (0, [.int 0, ed, .int 0])), (h0, .inr (7, [.ref ac, cu, .int dd, .int 1]))] := hD
  have hK : va_K (dC, dI) zc [] s := hK
  have hw : 1 = r_1 := hw.symm
  subst hw
  refine lv_if_ne (tgt := 43) hx hb dX8_hadGrace_10 (by decide) (fun c_2 => ?_) (fun c_2 => absurd c_2 (by decide))
  refine lv_iconst (v := 0) hx hb dX8_hadGrace_43 (by decide) ?_
  have hP9 := hP.sub (ws' := [(h0, .inr (7, [.ref ac, cu, .int dd, .int 1])), (ac, .inr (0, [.int 0, ed, .int 0]))]) [1, 0] rfl
  have hD9 := hD.sub (ws' := [(h0, .inr (7, [.ref ac, cu, .int dd, .int 1])), (ac, .inr (0, [.int 0, ed, .int 0]))]) [1, 0] (by decide) rfl
  have hK9 := hK.sub (tys' := []) [] rfl
  exact W.zret (ty := .boolean) hx hb hr rfl (fun t ht hW => ⟨⟨_, (), rfl, trivial, by rw [ht]; exact hP9, va_K.moved hW.alike hK9, hD9⟩, hS.F ht⟩) hS.2.2 dX8_hadGrace_44
set_option maxHeartbeats 4000000 in
set_option maxRecDepth 100000 in
/-- paid of the model: no such account -/
theorem m_paid (l : Launch) (dC : Nat → ClassId) (dI : Nat → Nat → Nat) (sz t : Nat) (h0 ac : Nat) (cu : Value) (dd th : Int32) (ed : Value) (a1 a2 : Int32) : Met l yX8_paid ws_X8_paid ({ frames := 3, cells := 0, slots := 0, locals := 55 }) (zA dC dI [(h0, .inr (7, [.ref ac, cu, .int dd, .int th])), (ac, .inr (0, [.int 0, ed, .int 0]))] [] sz t [.ref h0, .int a1, .int a2]) (va_Qi (fun r (_ : Unit) => True) (fun _ t9 => zB dC dI (va_A [(h0, .inr (7, [.ref ac, cu, .int dd, .int th])), (ac, .inr (0, [.int 0, ed, .int 0]))] sz) [(h0, .inr (7, [.ref ac, cu, .int dd, .int 1])), (ac, .inr (0, [.int 0, ed, .int 0]))] [] t9) (va_A [(h0, .inr (7, [.ref ac, cu, .int dd, .int th])), (ac, .inr (0, [.int 0, ed, .int 0]))] sz)) 0 0 (va_A [(h0, .inr (7, [.ref ac, cu, .int dd, .int th])), (ac, .inr (0, [.int 0, ed, .int 0]))] sz) := by
  refine Met.ofW (cc := cX8_paid) (maxL := 4) (ret := (some .char)) (by decide) rfl ?_
  intro p e s m args below meth c s₁ B hml hv
  obtain ⟨rfl, hsz, hP, hK, hD0, hQ⟩ := hv
  have hx := B.exec
  have hb := B.bytes
  have hr := B.returns
  have hts : ∀ w ∈ zG, w.before _ s = true := fun w h => atoms_spec (ws := ws_X8_paid) B.pre w (List.mem_cons_of_mem _ h)
  have hown : s.vm.findClass RX8 = some m.cls := findClass_of_methodNamed B.named
  have hlocks := B.notSynchronized
  subst hsz
  have hD := hD0.self (sz := s.heap.size)
  generalize hAe : va_A [(h0, .inr (7, [.ref ac, cu, .int dd, .int th])), (ac, .inr (0, [.int 0, ed, .int 0]))] s.heap.size = A at hD hQ ⊢
  have hA : ∀ q : Nat, s.heap.size ≤ q → A q := fun q h => by rw [← hAe]; exact Or.inr h
  have hS : va_S A s.heap s.heap [] := va_S.rf
  have hP : va_P (dC, dI) zc [(h0, .inr (7, [.ref ac, cu, .int dd, .int th])), (ac, .inr (0, [.int 0, ed, .int 0]))] s.heap := hP
  have hl := lv_entry ([.ref h0, .int a1, .int a2]) (n := 4) (Nat.le_of_ble_eq_true rfl)
  rw [lg_entry_eq]
  generalize (lg_sl ([.ref h0, .int a1, .int a2]) ++ List.replicate (4 - (lg_sl ([.ref h0, .int a1, .int a2])).length) Slot.unset).toArray = ls at hl ⊢
  have hl : lv_has ls 4 [(0, .ref h0), (1, .int a1), (2, .int a2)] := hl
  refine lv_aload_n hx hb dX8_paid_0 rfl (lv_at hl 0 rfl) ?_
  refine lv_aload_n hx hb dX8_paid_1 rfl (lv_at hl 0 rfl) ?_
  refine lv_iload_n hx hb dX8_paid_2 rfl (lv_at hl 1 rfl) ?_
  refine vp_callSi (W.runV (As := [.int a1]) (rest := [.ref h0]) ⟨hx, hb, hml, hown, hts⟩ (c_isAccount l dC dI s.heap.size t h0 ac cu dd th a1 ed) (cwV 1 hts (zg_V kw_1432 kw_1434 kw_41 kw_70 kw_1435) rfl rfl rfl (by decide +kernel) ⟨Nat.le_of_ble_eq_true rfl, Nat.le_of_ble_eq_true rfl⟩) ⟨zA_blind, va_recv hK hP (ci := 7) (q0 := 0) rfl rfl, zA_pre hP hD hS hK hQ hA [0, 1] rfl rfl (by decide) [] rfl⟩ rfl rfl hl.1 rfl (lv_room (Nat.le_of_ble_eq_true rfl)) dX8_paid_3 ⟨zl_b rfl, zl_b rfl⟩) (fun r hr => ?_)
  subst hr
  refine lv_iconst (v := 1) hx hb dX8_paid_6 (by decide) ?_
  have hFc := va_free (wc := [(h0, .inr (7, [.ref ac, cu, .int dd, .int th]))]) hD hS hA [0] rfl
  refine va_calli (va_runV (As := [.int 0, .int 1]) (rest := []) ⟨hx, hb, hml, hown, hts⟩ (c_no0 l dC dI s.heap.size t h0 (.ref ac) cu dd th 1) (cwV 2 hts (zg_V kw_1377 kw_1379 kw_40 kw_70 kw_1380) rfl rfl rfl (by decide +kernel) ⟨Nat.le_of_ble_eq_true rfl, Nat.le_of_ble_eq_true rfl⟩) ⟨zA_blind, va_recv hK hP (ci := 7) (q0 := 0) rfl rfl, zA_pre hP hD hS hK hQ hA [0] rfl rfl (by decide) [] rfl⟩ rfl rfl hl.1 rfl (lv_room (Nat.le_of_ble_eq_true rfl)) dX8_paid_7 ⟨zl_b rfl, zl_b rfl⟩) hS (fun q _ h => hFc q h) hFc (fun r_1 u t9 H1 locs ht hvm hw hB hz1 hk1 hS => ?_)
  obtain ⟨hP1, hK1, hD1⟩ := hB
  rw [ht] at hP1
  have hK1 := va_K.moved hvm.symm hK1
  obtain ⟨hP, hD⟩ := va_join (wr := [(ac, .inr (0, [.int 0, ed, .int 0]))]) (w1 := [(h0, .inr (7, [.ref ac, cu, .int dd, .int 1]))]) hP hD [0] [1] rfl rfl (by decide) (by decide) hk1 hFc hP1 hD1
  have hK := (hK.sub (tys' := []) [] rfl).app hK1
  generalize H1 = H at hP hS ⊢
  have hP : va_P (dC, dI) zc [(ac, .inr (0, [.int 0, ed, .int 0])), (h0, .inr (7, [.ref ac, cu, .int dd, .int 1]))] H := hP
  have hD : va_D A [(ac, .inr (0, [.int 0, ed, .int 0])), (h0, .inr (7, [.ref ac, cu, .int dd, .int 1]))] := hD
  have hK : va_K (dC, dI) zc [] s := hK
  have hw : 1 = r_1 := hw.symm
  subst hw
  refine lv_if_ne (tgt := 26) hx hb dX8_paid_10 (by decide) (fun c_2 => ?_) (fun c_2 => absurd c_2 (by decide))
  refine lv_bipush (v := 45) hx hb dX8_paid_26 (by decide) ?_
  have hP9 := hP.sub (ws' := [(h0, .inr (7, [.ref ac, cu, .int dd, .int 1])), (ac, .inr (0, [.int 0, ed, .int 0]))]) [1, 0] rfl
  have hD9 := hD.sub (ws' := [(h0, .inr (7, [.ref ac, cu, .int dd, .int 1])), (ac, .inr (0, [.int 0, ed, .int 0]))]) [1, 0] (by decide) rfl
  have hK9 := hK.sub (tys' := []) [] rfl
  exact W.zret (ty := .char) hx hb hr rfl (fun t ht hW => ⟨⟨_, (), rfl, trivial, by rw [ht]; exact hP9, va_K.moved hW.alike hK9, hD9⟩, hS.F ht⟩) hS.2.2 dX8_paid_28
set_option maxHeartbeats 4000000 in
set_option maxRecDepth 100000 in
/-- missing of the model: no such account -/
theorem m_missing (l : Launch) (dC : Nat → ClassId) (dI : Nat → Nat → Nat) (sz t : Nat) (h0 ac : Nat) (cu : Value) (dd th : Int32) (ed : Value) (a1 : Int32) : Met l yX8_missing ws_X8_missing ({ frames := 3, cells := 0, slots := 0, locals := 55 }) (zA dC dI [(h0, .inr (7, [.ref ac, cu, .int dd, .int th])), (ac, .inr (0, [.int 0, ed, .int 0]))] [] sz t [.ref h0, .int a1]) (va_Ql (fun r (_ : Unit) => True) (fun _ t9 => zB dC dI (va_A [(h0, .inr (7, [.ref ac, cu, .int dd, .int th])), (ac, .inr (0, [.int 0, ed, .int 0]))] sz) [(h0, .inr (7, [.ref ac, cu, .int dd, .int 1])), (ac, .inr (0, [.int 0, ed, .int 0]))] [] t9) (va_A [(h0, .inr (7, [.ref ac, cu, .int dd, .int th])), (ac, .inr (0, [.int 0, ed, .int 0]))] sz)) 0 0 (va_A [(h0, .inr (7, [.ref ac, cu, .int dd, .int th])), (ac, .inr (0, [.int 0, ed, .int 0]))] sz) := by
  refine Met.ofW (cc := cX8_missing) (maxL := 2) (ret := (some .long)) (by decide) rfl ?_
  intro p e s m args below meth c s₁ B hml hv
  obtain ⟨rfl, hsz, hP, hK, hD0, hQ⟩ := hv
  have hx := B.exec
  have hb := B.bytes
  have hr := B.returns
  have hts : ∀ w ∈ zG, w.before _ s = true := fun w h => atoms_spec (ws := ws_X8_missing) B.pre w (List.mem_cons_of_mem _ h)
  have hown : s.vm.findClass RX8 = some m.cls := findClass_of_methodNamed B.named
  have hlocks := B.notSynchronized
  subst hsz
  have hD := hD0.self (sz := s.heap.size)
  generalize hAe : va_A [(h0, .inr (7, [.ref ac, cu, .int dd, .int th])), (ac, .inr (0, [.int 0, ed, .int 0]))] s.heap.size = A at hD hQ ⊢
  have hA : ∀ q : Nat, s.heap.size ≤ q → A q := fun q h => by rw [← hAe]; exact Or.inr h
  have hS : va_S A s.heap s.heap [] := va_S.rf
  have hP : va_P (dC, dI) zc [(h0, .inr (7, [.ref ac, cu, .int dd, .int th])), (ac, .inr (0, [.int 0, ed, .int 0]))] s.heap := hP
  have hl := lv_entry ([.ref h0, .int a1]) (n := 2) (Nat.le_of_ble_eq_true rfl)
  rw [lg_entry_eq]
  generalize (lg_sl ([.ref h0, .int a1]) ++ List.replicate (2 - (lg_sl ([.ref h0, .int a1])).length) Slot.unset).toArray = ls at hl ⊢
  have hl : lv_has ls 2 [(0, .ref h0), (1, .int a1)] := hl
  refine lv_aload_n hx hb dX8_missing_0 rfl (lv_at hl 0 rfl) ?_
  refine lv_aload_n hx hb dX8_missing_1 rfl (lv_at hl 0 rfl) ?_
  refine lv_iload_n hx hb dX8_missing_2 rfl (lv_at hl 1 rfl) ?_
  refine vp_callSi (W.runV (As := [.int a1]) (rest := [.ref h0]) ⟨hx, hb, hml, hown, hts⟩ (c_isAccount l dC dI s.heap.size t h0 ac cu dd th a1 ed) (cwV 1 hts (zg_V kw_1432 kw_1434 kw_41 kw_70 kw_1435) rfl rfl rfl (by decide +kernel) ⟨Nat.le_of_ble_eq_true rfl, Nat.le_of_ble_eq_true rfl⟩) ⟨zA_blind, va_recv hK hP (ci := 7) (q0 := 0) rfl rfl, zA_pre hP hD hS hK hQ hA [0, 1] rfl rfl (by decide) [] rfl⟩ rfl rfl hl.1 rfl (lv_room (Nat.le_of_ble_eq_true rfl)) dX8_missing_3 ⟨zl_b rfl, zl_b rfl⟩) (fun r hr => ?_)
  subst hr
  refine lv_iconst (v := 1) hx hb dX8_missing_6 (by decide) ?_
  have hFc := va_free (wc := [(h0, .inr (7, [.ref ac, cu, .int dd, .int th]))]) hD hS hA [0] rfl
  refine va_calli (va_runV (As := [.int 0, .int 1]) (rest := []) ⟨hx, hb, hml, hown, hts⟩ (c_no0 l dC dI s.heap.size t h0 (.ref ac) cu dd th 1) (cwV 2 hts (zg_V kw_1377 kw_1379 kw_40 kw_70 kw_1380) rfl rfl rfl (by decide +kernel) ⟨Nat.le_of_ble_eq_true rfl, Nat.le_of_ble_eq_true rfl⟩) ⟨zA_blind, va_recv hK hP (ci := 7) (q0 := 0) rfl rfl, zA_pre hP hD hS hK hQ hA [0] rfl rfl (by decide) [] rfl⟩ rfl rfl hl.1 rfl (lv_room (Nat.le_of_ble_eq_true rfl)) dX8_missing_7 ⟨zl_b rfl, zl_b rfl⟩) hS (fun q _ h => hFc q h) hFc (fun r_1 u t9 H1 locs ht hvm hw hB hz1 hk1 hS => ?_)
  obtain ⟨hP1, hK1, hD1⟩ := hB
  rw [ht] at hP1
  have hK1 := va_K.moved hvm.symm hK1
  obtain ⟨hP, hD⟩ := va_join (wr := [(ac, .inr (0, [.int 0, ed, .int 0]))]) (w1 := [(h0, .inr (7, [.ref ac, cu, .int dd, .int 1]))]) hP hD [0] [1] rfl rfl (by decide) (by decide) hk1 hFc hP1 hD1
  have hK := (hK.sub (tys' := []) [] rfl).app hK1
  generalize H1 = H at hP hS ⊢
  have hP : va_P (dC, dI) zc [(ac, .inr (0, [.int 0, ed, .int 0])), (h0, .inr (7, [.ref ac, cu, .int dd, .int 1]))] H := hP
  have hD : va_D A [(ac, .inr (0, [.int 0, ed, .int 0])), (h0, .inr (7, [.ref ac, cu, .int dd, .int 1]))] := hD
  have hK : va_K (dC, dI) zc [] s := hK
  have hw : 1 = r_1 := hw.symm
  subst hw
  refine lv_if_eq (tgt := 17) hx hb dX8_missing_10 (by decide) (fun c_2 => absurd c_2 (by decide)) (fun c_2 => ?_)
  refine lv_lconst (v := 0) hx hb dX8_missing_13 (by decide) ?_
  refine lv_goto (tgt := 25) hx hb dX8_missing_14 (by decide) ?_
  have hP9 := hP.sub (ws' := [(h0, .inr (7, [.ref ac, cu, .int dd, .int 1])), (ac, .inr (0, [.int 0, ed, .int 0]))]) [1, 0] rfl
  have hD9 := hD.sub (ws' := [(h0, .inr (7, [.ref ac, cu, .int dd, .int 1])), (ac, .inr (0, [.int 0, ed, .int 0]))]) [1, 0] (by decide) rfl
  have hK9 := hK.sub (tys' := []) [] rfl
  exact W.lret hx hb hr (fun t ht hW => ⟨⟨_, (), rfl, trivial, by rw [ht]; exact hP9, va_K.moved hW.alike hK9, hD9⟩, hS.F ht⟩) hS.2.2 dX8_missing_25
set_option maxHeartbeats 4000000 in
set_option maxRecDepth 100000 in
/-- missed of the model: no such account -/
theorem m_missed (l : Launch) (dC : Nat → ClassId) (dI : Nat → Nat → Nat) (sz t : Nat) (h0 ac : Nat) (cu : Value) (dd th : Int32) (ed : Value) (a1 : Int32) : Met l yX8_missed ws_X8_missed ({ frames := 3, cells := 0, slots := 0, locals := 55 }) (zA dC dI [(h0, .inr (7, [.ref ac, cu, .int dd, .int th])), (ac, .inr (0, [.int 0, ed, .int 0]))] [] sz t [.ref h0, .int a1]) (va_Qi (fun r (_ : Unit) => True) (fun _ t9 => zB dC dI (va_A [(h0, .inr (7, [.ref ac, cu, .int dd, .int th])), (ac, .inr (0, [.int 0, ed, .int 0]))] sz) [(h0, .inr (7, [.ref ac, cu, .int dd, .int 1])), (ac, .inr (0, [.int 0, ed, .int 0]))] [] t9) (va_A [(h0, .inr (7, [.ref ac, cu, .int dd, .int th])), (ac, .inr (0, [.int 0, ed, .int 0]))] sz)) 0 0 (va_A [(h0, .inr (7, [.ref ac, cu, .int dd, .int th])), (ac, .inr (0, [.int 0, ed, .int 0]))] sz) := by
  refine Met.ofW (cc := cX8_missed) (maxL := 2) (ret := (some .int)) (by decide) rfl ?_
  intro p e s m args below meth c s₁ B hml hv
  obtain ⟨rfl, hsz, hP, hK, hD0, hQ⟩ := hv
  have hx := B.exec
  have hb := B.bytes
  have hr := B.returns
  have hts : ∀ w ∈ zG, w.before _ s = true := fun w h => atoms_spec (ws := ws_X8_missed) B.pre w (List.mem_cons_of_mem _ h)
  have hown : s.vm.findClass RX8 = some m.cls := findClass_of_methodNamed B.named
  have hlocks := B.notSynchronized
  subst hsz
  have hD := hD0.self (sz := s.heap.size)
  generalize hAe : va_A [(h0, .inr (7, [.ref ac, cu, .int dd, .int th])), (ac, .inr (0, [.int 0, ed, .int 0]))] s.heap.size = A at hD hQ ⊢
  have hA : ∀ q : Nat, s.heap.size ≤ q → A q := fun q h => by rw [← hAe]; exact Or.inr h
  have hS : va_S A s.heap s.heap [] := va_S.rf
  have hP : va_P (dC, dI) zc [(h0, .inr (7, [.ref ac, cu, .int dd, .int th])), (ac, .inr (0, [.int 0, ed, .int 0]))] s.heap := hP
  have hl := lv_entry ([.ref h0, .int a1]) (n := 2) (Nat.le_of_ble_eq_true rfl)
  rw [lg_entry_eq]
  generalize (lg_sl ([.ref h0, .int a1]) ++ List.replicate (2 - (lg_sl ([.ref h0, .int a1])).length) Slot.unset).toArray = ls at hl ⊢
  have hl : lv_has ls 2 [(0, .ref h0), (1, .int a1)] := hl
  refine lv_aload_n hx hb dX8_missed_0 rfl (lv_at hl 0 rfl) ?_
  refine lv_aload_n hx hb dX8_missed_1 rfl (lv_at hl 0 rfl) ?_
  refine lv_iload_n hx hb dX8_missed_2 rfl (lv_at hl 1 rfl) ?_
  refine vp_callSi (W.runV (As := [.int a1]) (rest := [.ref h0]) ⟨hx, hb, hml, hown, hts⟩ (c_isAccount l dC dI s.heap.size t h0 ac cu dd th a1 ed) (cwV 1 hts (zg_V kw_1432 kw_1434 kw_41 kw_70 kw_1435) rfl rfl rfl (by decide +kernel) ⟨Nat.le_of_ble_eq_true rfl, Nat.le_of_ble_eq_true rfl⟩) ⟨zA_blind, va_recv hK hP (ci := 7) (q0 := 0) rfl rfl, zA_pre hP hD hS hK hQ hA [0, 1] rfl rfl (by decide) [] rfl⟩ rfl rfl hl.1 rfl (lv_room (Nat.le_of_ble_eq_true rfl)) dX8_missed_3 ⟨zl_b rfl, zl_b rfl⟩) (fun r hr => ?_)
  subst hr
  refine lv_iconst (v := 1) hx hb dX8_missed_6 (by decide) ?_
  have hFc := va_free (wc := [(h0, .inr (7, [.ref ac, cu, .int dd, .int th]))]) hD hS hA [0] rfl
  refine va_calli (va_runV (As := [.int 0, .int 1]) (rest := []) ⟨hx, hb, hml, hown, hts⟩ (c_no0 l dC dI s.heap.size t h0 (.ref ac) cu dd th 1) (cwV 2 hts (zg_V kw_1377 kw_1379 kw_40 kw_70 kw_1380) rfl rfl rfl (by decide +kernel) ⟨Nat.le_of_ble_eq_true rfl, Nat.le_of_ble_eq_true rfl⟩) ⟨zA_blind, va_recv hK hP (ci := 7) (q0 := 0) rfl rfl, zA_pre hP hD hS hK hQ hA [0] rfl rfl (by decide) [] rfl⟩ rfl rfl hl.1 rfl (lv_room (Nat.le_of_ble_eq_true rfl)) dX8_missed_7 ⟨zl_b rfl, zl_b rfl⟩) hS (fun q _ h => hFc q h) hFc (fun r_1 u t9 H1 locs ht hvm hw hB hz1 hk1 hS => ?_)
  obtain ⟨hP1, hK1, hD1⟩ := hB
  rw [ht] at hP1
  have hK1 := va_K.moved hvm.symm hK1
  obtain ⟨hP, hD⟩ := va_join (wr := [(ac, .inr (0, [.int 0, ed, .int 0]))]) (w1 := [(h0, .inr (7, [.ref ac, cu, .int dd, .int 1]))]) hP hD [0] [1] rfl rfl (by decide) (by decide) hk1 hFc hP1 hD1
  have hK := (hK.sub (tys' := []) [] rfl).app hK1
  generalize H1 = H at hP hS ⊢
  have hP : va_P (dC, dI) zc [(ac, .inr (0, [.int 0, ed, .int 0])), (h0, .inr (7, [.ref ac, cu, .int dd, .int 1]))] H := hP
  have hD : va_D A [(ac, .inr (0, [.int 0, ed, .int 0])), (h0, .inr (7, [.ref ac, cu, .int dd, .int 1]))] := hD
  have hK : va_K (dC, dI) zc [] s := hK
  have hw : 1 = r_1 := hw.symm
  subst hw
  refine lv_if_eq (tgt := 17) hx hb dX8_missed_10 (by decide) (fun c_2 => absurd c_2 (by decide)) (fun c_2 => ?_)
  refine lv_iconst (v := 0) hx hb dX8_missed_13 (by decide) ?_
  refine lv_goto (tgt := 25) hx hb dX8_missed_14 (by decide) ?_
  have hP9 := hP.sub (ws' := [(h0, .inr (7, [.ref ac, cu, .int dd, .int 1])), (ac, .inr (0, [.int 0, ed, .int 0]))]) [1, 0] rfl
  have hD9 := hD.sub (ws' := [(h0, .inr (7, [.ref ac, cu, .int dd, .int 1])), (ac, .inr (0, [.int 0, ed, .int 0]))]) [1, 0] (by decide) rfl
  have hK9 := hK.sub (tys' := []) [] rfl
  exact W.iret hx hb hr (fun t ht hW => ⟨⟨_, (), rfl, trivial, by rw [ht]; exact hP9, va_K.moved hW.alike hK9, hD9⟩, hS.F ht⟩) hS.2.2 dX8_missed_25
set_option maxHeartbeats 4000000 in
set_option maxRecDepth 100000 in
/-- isOff of the model: no such account -/
theorem m_isOff (l : Launch) (dC : Nat → ClassId) (dI : Nat → Nat → Nat) (sz t : Nat) (h0 ac : Nat) (cu : Value) (dd th : Int32) (ed : Value) (a1 : Int32) : Met l yX8_isOff ws_X8_isOff ({ frames := 3, cells := 0, slots := 0, locals := 55 }) (zA dC dI [(h0, .inr (7, [.ref ac, cu, .int dd, .int th])), (ac, .inr (0, [.int 0, ed, .int 0]))] [] sz t [.ref h0, .int a1]) (va_Qi (fun r (_ : Unit) => True) (fun _ t9 => zB dC dI (va_A [(h0, .inr (7, [.ref ac, cu, .int dd, .int th])), (ac, .inr (0, [.int 0, ed, .int 0]))] sz) [(h0, .inr (7, [.ref ac, cu, .int dd, .int 1])), (ac, .inr (0, [.int 0, ed, .int 0]))] [] t9) (va_A [(h0, .inr (7, [.ref ac, cu, .int dd, .int th])), (ac, .inr (0, [.int 0, ed, .int 0]))] sz)) 0 0 (va_A [(h0, .inr (7, [.ref ac, cu, .int dd, .int th])), (ac, .inr (0, [.int 0, ed, .int 0]))] sz) := by
  refine Met.ofW (cc := cX8_isOff) (maxL := 2) (ret := (some .boolean)) (by decide) rfl ?_
  intro p e s m args below meth c s₁ B hml hv
  obtain ⟨rfl, hsz, hP, hK, hD0, hQ⟩ := hv
  have hx := B.exec
  have hb := B.bytes
  have hr := B.returns
  have hts : ∀ w ∈ zG, w.before _ s = true := fun w h => atoms_spec (ws := ws_X8_isOff) B.pre w (List.mem_cons_of_mem _ h)
  have hown : s.vm.findClass RX8 = some m.cls := findClass_of_methodNamed B.named
  have hlocks := B.notSynchronized
  subst hsz
  have hD := hD0.self (sz := s.heap.size)
  generalize hAe : va_A [(h0, .inr (7, [.ref ac, cu, .int dd, .int th])), (ac, .inr (0, [.int 0, ed, .int 0]))] s.heap.size = A at hD hQ ⊢
  have hA : ∀ q : Nat, s.heap.size ≤ q → A q := fun q h => by rw [← hAe]; exact Or.inr h
  have hS : va_S A s.heap s.heap [] := va_S.rf
  have hP : va_P (dC, dI) zc [(h0, .inr (7, [.ref ac, cu, .int dd, .int th])), (ac, .inr (0, [.int 0, ed, .int 0]))] s.heap := hP
  have hl := lv_entry ([.ref h0, .int a1]) (n := 2) (Nat.le_of_ble_eq_true rfl)
  rw [lg_entry_eq]
  generalize (lg_sl ([.ref h0, .int a1]) ++ List.replicate (2 - (lg_sl ([.ref h0, .int a1])).length) Slot.unset).toArray = ls at hl ⊢
  have hl : lv_has ls 2 [(0, .ref h0), (1, .int a1)] := hl
  refine lv_aload_n hx hb dX8_isOff_0 rfl (lv_at hl 0 rfl) ?_
  refine lv_aload_n hx hb dX8_isOff_1 rfl (lv_at hl 0 rfl) ?_
  refine lv_iload_n hx hb dX8_isOff_2 rfl (lv_at hl 1 rfl) ?_
  refine vp_callSi (W.runV (As := [.int a1]) (rest := [.ref h0]) ⟨hx, hb, hml, hown, hts⟩ (c_isAccount l dC dI s.heap.size t h0 ac cu dd th a1 ed) (cwV 1 hts (zg_V kw_1432 kw_1434 kw_41 kw_70 kw_1435) rfl rfl rfl (by decide +kernel) ⟨Nat.le_of_ble_eq_true rfl, Nat.le_of_ble_eq_true rfl⟩) ⟨zA_blind, va_recv hK hP (ci := 7) (q0 := 0) rfl rfl, zA_pre hP hD hS hK hQ hA [0, 1] rfl rfl (by decide) [] rfl⟩ rfl rfl hl.1 rfl (lv_room (Nat.le_of_ble_eq_true rfl)) dX8_isOff_3 ⟨zl_b rfl, zl_b rfl⟩) (fun r hr => ?_)
  subst hr
  refine lv_iconst (v := 1) hx hb dX8_isOff_6 (by decide) ?_
  have hFc := va_free (wc := [(h0, .inr (7, [.ref ac, cu, .int dd, .int th]))]) hD hS hA [0] rfl
  refine va_calli (va_runV (As := [.int 0, .int 1]) (rest := []) ⟨hx, hb, hml, hown, hts⟩ (c_no0 l dC dI s.heap.size t h0 (.ref ac) cu dd th 1) (cwV 2 hts (zg_V kw_1377 kw_1379 kw_40 kw_70 kw_1380) rfl rfl rfl (by decide +kernel) ⟨Nat.le_of_ble_eq_true rfl, Nat.le_of_ble_eq_true rfl⟩) ⟨zA_blind, va_recv hK hP (ci := 7) (q0 := 0) rfl rfl, zA_pre hP hD hS hK hQ hA [0] rfl rfl (by decide) [] rfl⟩ rfl rfl hl.1 rfl (lv_room (Nat.le_of_ble_eq_true rfl)) dX8_isOff_7 ⟨zl_b rfl, zl_b rfl⟩) hS (fun q _ h => hFc q h) hFc (fun r_1 u t9 H1 locs ht hvm hw hB hz1 hk1 hS => ?_)
  obtain ⟨hP1, hK1, hD1⟩ := hB
  rw [ht] at hP1
  have hK1 := va_K.moved hvm.symm hK1
  obtain ⟨hP, hD⟩ := va_join (wr := [(ac, .inr (0, [.int 0, ed, .int 0]))]) (w1 := [(h0, .inr (7, [.ref ac, cu, .int dd, .int 1]))]) hP hD [0] [1] rfl rfl (by decide) (by decide) hk1 hFc hP1 hD1
  have hK := (hK.sub (tys' := []) [] rfl).app hK1
  generalize H1 = H at hP hS ⊢
  have hP : va_P (dC, dI) zc [(ac, .inr (0, [.int 0, ed, .int 0])), (h0, .inr (7, [.ref ac, cu, .int dd, .int 1]))] H := hP
  have hD : va_D A [(ac, .inr (0, [.int 0, ed, .int 0])), (h0, .inr (7, [.ref ac, cu, .int dd, .int 1]))] := hD
  have hK : va_K (dC, dI) zc [] s := hK
  have hw : 1 = r_1 := hw.symm
  subst hw
  refine lv_if_ne (tgt := 28) hx hb dX8_isOff_10 (by decide) (fun c_2 => ?_) (fun c_2 => absurd c_2 (by decide))
  refine lv_iconst (v := 0) hx hb dX8_isOff_28 (by decide) ?_
  have hP9 := hP.sub (ws' := [(h0, .inr (7, [.ref ac, cu, .int dd, .int 1])), (ac, .inr (0, [.int 0, ed, .int 0]))]) [1, 0] rfl
  have hD9 := hD.sub (ws' := [(h0, .inr (7, [.ref ac, cu, .int dd, .int 1])), (ac, .inr (0, [.int 0, ed, .int 0]))]) [1, 0] (by decide) rfl
  have hK9 := hK.sub (tys' := []) [] rfl
  exact W.zret (ty := .boolean) hx hb hr rfl (fun t ht hW => ⟨⟨_, (), rfl, trivial, by rw [ht]; exact hP9, va_K.moved hW.alike hK9, hD9⟩, hS.F ht⟩) hS.2.2 dX8_isOff_29
set_option maxHeartbeats 4000000 in
set_option maxRecDepth 100000 in
/-- points of the model: no such account -/
theorem m_points (l : Launch) (dC : Nat → ClassId) (dI : Nat → Nat → Nat) (sz t : Nat) (h0 ac : Nat) (cu : Value) (dd th : Int32) (ed : Value) (a1 : Int32) : Met l yX8_points ws_X8_points ({ frames := 3, cells := 0, slots := 0, locals := 55 }) (zA dC dI [(h0, .inr (7, [.ref ac, cu, .int dd, .int th])), (ac, .inr (0, [.int 0, ed, .int 0]))] [] sz t [.ref h0, .int a1]) (va_Ql (fun r (_ : Unit) => True) (fun _ t9 => zB dC dI (va_A [(h0, .inr (7, [.ref ac, cu, .int dd, .int th])), (ac, .inr (0, [.int 0, ed, .int 0]))] sz) [(h0, .inr (7, [.ref ac, cu, .int dd, .int 1])), (ac, .inr (0, [.int 0, ed, .int 0]))] [] t9) (va_A [(h0, .inr (7, [.ref ac, cu, .int dd, .int th])), (ac, .inr (0, [.int 0, ed, .int 0]))] sz)) 0 0 (va_A [(h0, .inr (7, [.ref ac, cu, .int dd, .int th])), (ac, .inr (0, [.int 0, ed, .int 0]))] sz) := by
  refine Met.ofW (cc := cX8_points) (maxL := 2) (ret := (some .long)) (by decide) rfl ?_
  intro p e s m args below meth c s₁ B hml hv
  obtain ⟨rfl, hsz, hP, hK, hD0, hQ⟩ := hv
  have hx := B.exec
  have hb := B.bytes
  have hr := B.returns
  have hts : ∀ w ∈ zG, w.before _ s = true := fun w h => atoms_spec (ws := ws_X8_points) B.pre w (List.mem_cons_of_mem _ h)
  have hown : s.vm.findClass RX8 = some m.cls := findClass_of_methodNamed B.named
  have hlocks := B.notSynchronized
  subst hsz
  have hD := hD0.self (sz := s.heap.size)
  generalize hAe : va_A [(h0, .inr (7, [.ref ac, cu, .int dd, .int th])), (ac, .inr (0, [.int 0, ed, .int 0]))] s.heap.size = A at hD hQ ⊢
  have hA : ∀ q : Nat, s.heap.size ≤ q → A q := fun q h => by rw [← hAe]; exact Or.inr h
  have hS : va_S A s.heap s.heap [] := va_S.rf
  have hP : va_P (dC, dI) zc [(h0, .inr (7, [.ref ac, cu, .int dd, .int th])), (ac, .inr (0, [.int 0, ed, .int 0]))] s.heap := hP
  have hl := lv_entry ([.ref h0, .int a1]) (n := 2) (Nat.le_of_ble_eq_true rfl)
  rw [lg_entry_eq]
  generalize (lg_sl ([.ref h0, .int a1]) ++ List.replicate (2 - (lg_sl ([.ref h0, .int a1])).length) Slot.unset).toArray = ls at hl ⊢
  have hl : lv_has ls 2 [(0, .ref h0), (1, .int a1)] := hl
  refine lv_aload_n hx hb dX8_points_0 rfl (lv_at hl 0 rfl) ?_
  refine lv_aload_n hx hb dX8_points_1 rfl (lv_at hl 0 rfl) ?_
  refine lv_iload_n hx hb dX8_points_2 rfl (lv_at hl 1 rfl) ?_
  refine vp_callSi (W.runV (As := [.int a1]) (rest := [.ref h0]) ⟨hx, hb, hml, hown, hts⟩ (c_isAccount l dC dI s.heap.size t h0 ac cu dd th a1 ed) (cwV 1 hts (zg_V kw_1432 kw_1434 kw_41 kw_70 kw_1435) rfl rfl rfl (by decide +kernel) ⟨Nat.le_of_ble_eq_true rfl, Nat.le_of_ble_eq_true rfl⟩) ⟨zA_blind, va_recv hK hP (ci := 7) (q0 := 0) rfl rfl, zA_pre hP hD hS hK hQ hA [0, 1] rfl rfl (by decide) [] rfl⟩ rfl rfl hl.1 rfl (lv_room (Nat.le_of_ble_eq_true rfl)) dX8_points_3 ⟨zl_b rfl, zl_b rfl⟩) (fun r hr => ?_)
  subst hr
  refine lv_iconst (v := 1) hx hb dX8_points_6 (by decide) ?_
  have hFc := va_free (wc := [(h0, .inr (7, [.ref ac, cu, .int dd, .int th]))]) hD hS hA [0] rfl
  refine va_calli (va_runV (As := [.int 0, .int 1]) (rest := []) ⟨hx, hb, hml, hown, hts⟩ (c_no0 l dC dI s.heap.size t h0 (.ref ac) cu dd th 1) (cwV 2 hts (zg_V kw_1377 kw_1379 kw_40 kw_70 kw_1380) rfl rfl rfl (by decide +kernel) ⟨Nat.le_of_ble_eq_true rfl, Nat.le_of_ble_eq_true rfl⟩) ⟨zA_blind, va_recv hK hP (ci := 7) (q0 := 0) rfl rfl, zA_pre hP hD hS hK hQ hA [0] rfl rfl (by decide) [] rfl⟩ rfl rfl hl.1 rfl (lv_room (Nat.le_of_ble_eq_true rfl)) dX8_points_7 ⟨zl_b rfl, zl_b rfl⟩) hS (fun q _ h => hFc q h) hFc (fun r_1 u t9 H1 locs ht hvm hw hB hz1 hk1 hS => ?_)
  obtain ⟨hP1, hK1, hD1⟩ := hB
  rw [ht] at hP1
  have hK1 := va_K.moved hvm.symm hK1
  obtain ⟨hP, hD⟩ := va_join (wr := [(ac, .inr (0, [.int 0, ed, .int 0]))]) (w1 := [(h0, .inr (7, [.ref ac, cu, .int dd, .int 1]))]) hP hD [0] [1] rfl rfl (by decide) (by decide) hk1 hFc hP1 hD1
  have hK := (hK.sub (tys' := []) [] rfl).app hK1
  generalize H1 = H at hP hS ⊢
  have hP : va_P (dC, dI) zc [(ac, .inr (0, [.int 0, ed, .int 0])), (h0, .inr (7, [.ref ac, cu, .int dd, .int 1]))] H := hP
  have hD : va_D A [(ac, .inr (0, [.int 0, ed, .int 0])), (h0, .inr (7, [.ref ac, cu, .int dd, .int 1]))] := hD
  have hK : va_K (dC, dI) zc [] s := hK
  have hw : 1 = r_1 := hw.symm
  subst hw
  refine lv_if_eq (tgt := 17) hx hb dX8_points_10 (by decide) (fun c_2 => absurd c_2 (by decide)) (fun c_2 => ?_)
  refine lv_lconst (v := 0) hx hb dX8_points_13 (by decide) ?_
  refine lv_goto (tgt := 22) hx hb dX8_points_14 (by decide) ?_
  have hP9 := hP.sub (ws' := [(h0, .inr (7, [.ref ac, cu, .int dd, .int 1])), (ac, .inr (0, [.int 0, ed, .int 0]))]) [1, 0] rfl
  have hD9 := hD.sub (ws' := [(h0, .inr (7, [.ref ac, cu, .int dd, .int 1])), (ac, .inr (0, [.int 0, ed, .int 0]))]) [1, 0] (by decide) rfl
  have hK9 := hK.sub (tys' := []) [] rfl
  exact W.lret hx hb hr (fun t ht hW => ⟨⟨_, (), rfl, trivial, by rw [ht]; exact hP9, va_K.moved hW.alike hK9, hD9⟩, hS.F ht⟩) hS.2.2 dX8_points_22
set_option maxHeartbeats 4000000 in
set_option maxRecDepth 100000 in
/-- events of the model: no such account -/
theorem m_events (l : Launch) (dC : Nat → ClassId) (dI : Nat → Nat → Nat) (sz t : Nat) (h0 ac : Nat) (cu : Value) (dd th : Int32) (ed : Value) (a1 : Int32) : Met l yX8_events ws_X8_events ({ frames := 3, cells := 0, slots := 0, locals := 55 }) (zA dC dI [(h0, .inr (7, [.ref ac, cu, .int dd, .int th])), (ac, .inr (0, [.int 0, ed, .int 0]))] [] sz t [.ref h0, .int a1]) (va_Qi (fun r (_ : Unit) => True) (fun _ t9 => zB dC dI (va_A [(h0, .inr (7, [.ref ac, cu, .int dd, .int th])), (ac, .inr (0, [.int 0, ed, .int 0]))] sz) [(h0, .inr (7, [.ref ac, cu, .int dd, .int 1])), (ac, .inr (0, [.int 0, ed, .int 0]))] [] t9) (va_A [(h0, .inr (7, [.ref ac, cu, .int dd, .int th])), (ac, .inr (0, [.int 0, ed, .int 0]))] sz)) 0 0 (va_A [(h0, .inr (7, [.ref ac, cu, .int dd, .int th])), (ac, .inr (0, [.int 0, ed, .int 0]))] sz) := by
  refine Met.ofW (cc := cX8_events) (maxL := 2) (ret := (some .int)) (by decide) rfl ?_
  intro p e s m args below meth c s₁ B hml hv
  obtain ⟨rfl, hsz, hP, hK, hD0, hQ⟩ := hv
  have hx := B.exec
  have hb := B.bytes
  have hr := B.returns
  have hts : ∀ w ∈ zG, w.before _ s = true := fun w h => atoms_spec (ws := ws_X8_events) B.pre w (List.mem_cons_of_mem _ h)
  have hown : s.vm.findClass RX8 = some m.cls := findClass_of_methodNamed B.named
  have hlocks := B.notSynchronized
  subst hsz
  have hD := hD0.self (sz := s.heap.size)
  generalize hAe : va_A [(h0, .inr (7, [.ref ac, cu, .int dd, .int th])), (ac, .inr (0, [.int 0, ed, .int 0]))] s.heap.size = A at hD hQ ⊢
  have hA : ∀ q : Nat, s.heap.size ≤ q → A q := fun q h => by rw [← hAe]; exact Or.inr h
  have hS : va_S A s.heap s.heap [] := va_S.rf
  have hP : va_P (dC, dI) zc [(h0, .inr (7, [.ref ac, cu, .int dd, .int th])), (ac, .inr (0, [.int 0, ed, .int 0]))] s.heap := hP
  have hl := lv_entry ([.ref h0, .int a1]) (n := 2) (Nat.le_of_ble_eq_true rfl)
  rw [lg_entry_eq]
  generalize (lg_sl ([.ref h0, .int a1]) ++ List.replicate (2 - (lg_sl ([.ref h0, .int a1])).length) Slot.unset).toArray = ls at hl ⊢
  have hl : lv_has ls 2 [(0, .ref h0), (1, .int a1)] := hl
  refine lv_aload_n hx hb dX8_events_0 rfl (lv_at hl 0 rfl) ?_
  refine lv_aload_n hx hb dX8_events_1 rfl (lv_at hl 0 rfl) ?_
  refine lv_iload_n hx hb dX8_events_2 rfl (lv_at hl 1 rfl) ?_
  refine vp_callSi (W.runV (As := [.int a1]) (rest := [.ref h0]) ⟨hx, hb, hml, hown, hts⟩ (c_isAccount l dC dI s.heap.size t h0 ac cu dd th a1 ed) (cwV 1 hts (zg_V kw_1432 kw_1434 kw_41 kw_70 kw_1435) rfl rfl rfl (by decide +kernel) ⟨Nat.le_of_ble_eq_true rfl, Nat.le_of_ble_eq_true rfl⟩) ⟨zA_blind, va_recv hK hP (ci := 7) (q0 := 0) rfl rfl, zA_pre hP hD hS hK hQ hA [0, 1] rfl rfl (by decide) [] rfl⟩ rfl rfl hl.1 rfl (lv_room (Nat.le_of_ble_eq_true rfl)) dX8_events_3 ⟨zl_b rfl, zl_b rfl⟩) (fun r hr => ?_)
  subst hr
  refine lv_iconst (v := 1) hx hb dX8_events_6 (by decide) ?_
  have hFc := va_free (wc := [(h0, .inr (7, [.ref ac, cu, .int dd, .int th]))]) hD hS hA [0] rfl
  refine va_calli (va_runV (As := [.int 0, .int 1]) (rest := []) ⟨hx, hb, hml, hown, hts⟩ (c_no0 l dC dI s.heap.size t h0 (.ref ac) cu dd th 1) (cwV 2 hts (zg_V kw_1377 kw_1379 kw_40 kw_70 kw_1380) rfl rfl rfl (by decide +kernel) ⟨Nat.le_of_ble_eq_true rfl, Nat.le_of_ble_eq_true rfl⟩) ⟨zA_blind, va_recv hK hP (ci := 7) (q0 := 0) rfl rfl, zA_pre hP hD hS hK hQ hA [0] rfl rfl (by decide) [] rfl⟩ rfl rfl hl.1 rfl (lv_room (Nat.le_of_ble_eq_true rfl)) dX8_events_7 ⟨zl_b rfl, zl_b rfl⟩) hS (fun q _ h => hFc q h) hFc (fun r_1 u t9 H1 locs ht hvm hw hB hz1 hk1 hS => ?_)
  obtain ⟨hP1, hK1, hD1⟩ := hB
  rw [ht] at hP1
  have hK1 := va_K.moved hvm.symm hK1
  obtain ⟨hP, hD⟩ := va_join (wr := [(ac, .inr (0, [.int 0, ed, .int 0]))]) (w1 := [(h0, .inr (7, [.ref ac, cu, .int dd, .int 1]))]) hP hD [0] [1] rfl rfl (by decide) (by decide) hk1 hFc hP1 hD1
  have hK := (hK.sub (tys' := []) [] rfl).app hK1
  generalize H1 = H at hP hS ⊢
  have hP : va_P (dC, dI) zc [(ac, .inr (0, [.int 0, ed, .int 0])), (h0, .inr (7, [.ref ac, cu, .int dd, .int 1]))] H := hP
  have hD : va_D A [(ac, .inr (0, [.int 0, ed, .int 0])), (h0, .inr (7, [.ref ac, cu, .int dd, .int 1]))] := hD
  have hK : va_K (dC, dI) zc [] s := hK
  have hw : 1 = r_1 := hw.symm
  subst hw
  refine lv_if_eq (tgt := 17) hx hb dX8_events_10 (by decide) (fun c_2 => absurd c_2 (by decide)) (fun c_2 => ?_)
  refine lv_iconst (v := 0) hx hb dX8_events_13 (by decide) ?_
  refine lv_goto (tgt := 38) hx hb dX8_events_14 (by decide) ?_
  have hP9 := hP.sub (ws' := [(h0, .inr (7, [.ref ac, cu, .int dd, .int 1])), (ac, .inr (0, [.int 0, ed, .int 0]))]) [1, 0] rfl
  have hD9 := hD.sub (ws' := [(h0, .inr (7, [.ref ac, cu, .int dd, .int 1])), (ac, .inr (0, [.int 0, ed, .int 0]))]) [1, 0] (by decide) rfl
  have hK9 := hK.sub (tys' := []) [] rfl
  exact W.iret hx hb hr (fun t ht hW => ⟨⟨_, (), rfl, trivial, by rw [ht]; exact hP9, va_K.moved hW.alike hK9, hD9⟩, hS.F ht⟩) hS.2.2 dX8_events_38
set_option maxHeartbeats 4000000 in
set_option maxRecDepth 100000 in
/-- kindOf of the model: no such account -/
theorem m_kindOf (l : Launch) (dC : Nat → ClassId) (dI : Nat → Nat → Nat) (sz t : Nat) (h0 ac : Nat) (cu : Value) (dd th : Int32) (ed : Value) (a1 a2 : Int32) : Met l yX8_kindOf ws_X8_kindOf ({ frames := 4, cells := 0, slots := 0, locals := 77 }) (zA dC dI [(h0, .inr (7, [.ref ac, cu, .int dd, .int th])), (ac, .inr (0, [.int 0, ed, .int 0]))] [] sz t [.ref h0, .int a1, .int a2]) (va_Qi (fun r (_ : Unit) => True) (fun _ t9 => zB dC dI (va_A [(h0, .inr (7, [.ref ac, cu, .int dd, .int th])), (ac, .inr (0, [.int 0, ed, .int 0]))] sz) [(h0, .inr (7, [.ref ac, cu, .int dd, .int 1])), (ac, .inr (0, [.int 0, ed, .int 0]))] [] t9) (va_A [(h0, .inr (7, [.ref ac, cu, .int dd, .int th])), (ac, .inr (0, [.int 0, ed, .int 0]))] sz)) 0 0 (va_A [(h0, .inr (7, [.ref ac, cu, .int dd, .int th])), (ac, .inr (0, [.int 0, ed, .int 0]))] sz) := by
  refine Met.ofW (cc := cX8_kindOf) (maxL := 3) (ret := (some .char)) (by decide) rfl ?_
  intro p e s m args below meth c s₁ B hml hv
  obtain ⟨rfl, hsz, hP, hK, hD0, hQ⟩ := hv
  have hx := B.exec
  have hb := B.bytes
  have hr := B.returns
  have hts : ∀ w ∈ zG, w.before _ s = true := fun w h => atoms_spec (ws := ws_X8_kindOf) B.pre w (List.mem_cons_of_mem _ h)
  have hown : s.vm.findClass RX8 = some m.cls := findClass_of_methodNamed B.named
  have hlocks := B.notSynchronized
  subst hsz
  have hD := hD0.self (sz := s.heap.size)
  generalize hAe : va_A [(h0, .inr (7, [.ref ac, cu, .int dd, .int th])), (ac, .inr (0, [.int 0, ed, .int 0]))] s.heap.size = A at hD hQ ⊢
  have hA : ∀ q : Nat, s.heap.size ≤ q → A q := fun q h => by rw [← hAe]; exact Or.inr h
  have hS : va_S A s.heap s.heap [] := va_S.rf
  have hP : va_P (dC, dI) zc [(h0, .inr (7, [.ref ac, cu, .int dd, .int th])), (ac, .inr (0, [.int 0, ed, .int 0]))] s.heap := hP
  have hl := lv_entry ([.ref h0, .int a1, .int a2]) (n := 3) (Nat.le_of_ble_eq_true rfl)
  rw [lg_entry_eq]
  generalize (lg_sl ([.ref h0, .int a1, .int a2]) ++ List.replicate (3 - (lg_sl ([.ref h0, .int a1, .int a2])).length) Slot.unset).toArray = ls at hl ⊢
  have hl : lv_has ls 3 [(0, .ref h0), (1, .int a1), (2, .int a2)] := hl
  refine lv_aload_n hx hb dX8_kindOf_0 rfl (lv_at hl 0 rfl) ?_
  refine lv_aload_n hx hb dX8_kindOf_1 rfl (lv_at hl 0 rfl) ?_
  refine lv_iload_n hx hb dX8_kindOf_2 rfl (lv_at hl 1 rfl) ?_
  refine lv_iload_n hx hb dX8_kindOf_3 rfl (lv_at hl 2 rfl) ?_
  refine vp_callSi (W.runV (As := [.int a1, .int a2]) (rest := [.ref h0]) ⟨hx, hb, hml, hown, hts⟩ (c_isEvent l dC dI s.heap.size t h0 ac cu dd th a1 a2 ed) (cwV 2 hts (zg_V kw_1802 kw_1804 kw_58 kw_70 kw_1805) rfl rfl rfl (by decide +kernel) ⟨Nat.le_of_ble_eq_true rfl, Nat.le_of_ble_eq_true rfl⟩) ⟨zA_blind, va_recv hK hP (ci := 7) (q0 := 0) rfl rfl, zA_pre hP hD hS hK hQ hA [0, 1] rfl rfl (by decide) [] rfl⟩ rfl rfl hl.1 rfl (lv_room (Nat.le_of_ble_eq_true rfl)) dX8_kindOf_4 ⟨zl_b rfl, zl_b rfl⟩) (fun r hr => ?_)
  subst hr
  refine lv_iconst (v := 1) hx hb dX8_kindOf_7 (by decide) ?_
  have hFc := va_free (wc := [(h0, .inr (7, [.ref ac, cu, .int dd, .int th]))]) hD hS hA [0] rfl
  refine va_calli (va_runV (As := [.int 0, .int 1]) (rest := []) ⟨hx, hb, hml, hown, hts⟩ (c_no0 l dC dI s.heap.size t h0 (.ref ac) cu dd th 1) (cwV 2 hts (zg_V kw_1377 kw_1379 kw_40 kw_70 kw_1380) rfl rfl rfl (by decide +kernel) ⟨Nat.le_of_ble_eq_true rfl, Nat.le_of_ble_eq_true rfl⟩) ⟨zA_blind, va_recv hK hP (ci := 7) (q0 := 0) rfl rfl, zA_pre hP hD hS hK hQ hA [0] rfl rfl (by decide) [] rfl⟩ rfl rfl hl.1 rfl (lv_room (Nat.le_of_ble_eq_true rfl)) dX8_kindOf_8 ⟨zl_b rfl, zl_b rfl⟩) hS (fun q _ h => hFc q h) hFc (fun r_1 u t9 H1 locs ht hvm hw hB hz1 hk1 hS => ?_)
  obtain ⟨hP1, hK1, hD1⟩ := hB
  rw [ht] at hP1
  have hK1 := va_K.moved hvm.symm hK1
  obtain ⟨hP, hD⟩ := va_join (wr := [(ac, .inr (0, [.int 0, ed, .int 0]))]) (w1 := [(h0, .inr (7, [.ref ac, cu, .int dd, .int 1]))]) hP hD [0] [1] rfl rfl (by decide) (by decide) hk1 hFc hP1 hD1
  have hK := (hK.sub (tys' := []) [] rfl).app hK1
  generalize H1 = H at hP hS ⊢
  have hP : va_P (dC, dI) zc [(ac, .inr (0, [.int 0, ed, .int 0])), (h0, .inr (7, [.ref ac, cu, .int dd, .int 1]))] H := hP
  have hD : va_D A [(ac, .inr (0, [.int 0, ed, .int 0])), (h0, .inr (7, [.ref ac, cu, .int dd, .int 1]))] := hD
  have hK : va_K (dC, dI) zc [] s := hK
  have hw : 1 = r_1 := hw.symm
  subst hw
  refine lv_if_eq (tgt := 19) hx hb dX8_kindOf_11 (by decide) (fun c_2 => absurd c_2 (by decide)) (fun c_2 => ?_)
  refine lv_bipush (v := 45) hx hb dX8_kindOf_14 (by decide) ?_
  refine lv_goto (tgt := 28) hx hb dX8_kindOf_16 (by decide) ?_
  have hP9 := hP.sub (ws' := [(h0, .inr (7, [.ref ac, cu, .int dd, .int 1])), (ac, .inr (0, [.int 0, ed, .int 0]))]) [1, 0] rfl
  have hD9 := hD.sub (ws' := [(h0, .inr (7, [.ref ac, cu, .int dd, .int 1])), (ac, .inr (0, [.int 0, ed, .int 0]))]) [1, 0] (by decide) rfl
  have hK9 := hK.sub (tys' := []) [] rfl
  exact W.zret (ty := .char) hx hb hr rfl (fun t ht hW => ⟨⟨_, (), rfl, trivial, by rw [ht]; exact hP9, va_K.moved hW.alike hK9, hD9⟩, hS.F ht⟩) hS.2.2 dX8_kindOf_28
set_option maxHeartbeats 4000000 in
set_option maxRecDepth 100000 in
/-- isBack of the model: no such account -/
theorem m_isBack (l : Launch) (dC : Nat → ClassId) (dI : Nat → Nat → Nat) (sz t : Nat) (h0 ac : Nat) (cu : Value) (dd th : Int32) (ed : Value) (a1 a2 : Int32) : Met l yX8_isBack ws_X8_isBack ({ frames := 4, cells := 0, slots := 0, locals := 77 }) (zA dC dI [(h0, .inr (7, [.ref ac, cu, .int dd, .int th])), (ac, .inr (0, [.int 0, ed, .int 0]))] [] sz t [.ref h0, .int a1, .int a2]) (va_Qi (fun r (_ : Unit) => True) (fun _ t9 => zB dC dI (va_A [(h0, .inr (7, [.ref ac, cu, .int dd, .int th])), (ac, .inr (0, [.int 0, ed, .int 0]))] sz) [(h0, .inr (7, [.ref ac, cu, .int dd, .int 1])), (ac, .inr (0, [.int 0, ed, .int 0]))] [] t9) (va_A [(h0, .inr (7, [.ref ac, cu, .int dd, .int th])), (ac, .inr (0, [.int 0, ed, .int 0]))] sz)) 0 0 (va_A [(h0, .inr (7, [.ref ac, cu, .int dd, .int th])), (ac, .inr (0, [.int 0, ed, .int 0]))] sz) := by
  refine Met.ofW (cc := cX8_isBack) (maxL := 3) (ret := (some .boolean)) (by decide) rfl ?_
  intro p e s m args below meth c s₁ B hml hv
  obtain ⟨rfl, hsz, hP, hK, hD0, hQ⟩ := hv
  have hx := B.exec
  have hb := B.bytes
  have hr := B.returns
  have hts : ∀ w ∈ zG, w.before _ s = true := fun w h => atoms_spec (ws := ws_X8_isBack) B.pre w (List.mem_cons_of_mem _ h)
  have hown : s.vm.findClass RX8 = some m.cls := findClass_of_methodNamed B.named
  have hlocks := B.notSynchronized
  subst hsz
  have hD := hD0.self (sz := s.heap.size)
  generalize hAe : va_A [(h0, .inr (7, [.ref ac, cu, .int dd, .int th])), (ac, .inr (0, [.int 0, ed, .int 0]))] s.heap.size = A at hD hQ ⊢
  have hA : ∀ q : Nat, s.heap.size ≤ q → A q := fun q h => by rw [← hAe]; exact Or.inr h
  have hS : va_S A s.heap s.heap [] := va_S.rf
  have hP : va_P (dC, dI) zc [(h0, .inr (7, [.ref ac, cu, .int dd, .int th])), (ac, .inr (0, [.int 0, ed, .int 0]))] s.heap := hP
  have hl := lv_entry ([.ref h0, .int a1, .int a2]) (n := 3) (Nat.le_of_ble_eq_true rfl)
  rw [lg_entry_eq]
  generalize (lg_sl ([.ref h0, .int a1, .int a2]) ++ List.replicate (3 - (lg_sl ([.ref h0, .int a1, .int a2])).length) Slot.unset).toArray = ls at hl ⊢
  have hl : lv_has ls 3 [(0, .ref h0), (1, .int a1), (2, .int a2)] := hl
  refine lv_aload_n hx hb dX8_isBack_0 rfl (lv_at hl 0 rfl) ?_
  refine lv_aload_n hx hb dX8_isBack_1 rfl (lv_at hl 0 rfl) ?_
  refine lv_iload_n hx hb dX8_isBack_2 rfl (lv_at hl 1 rfl) ?_
  refine lv_iload_n hx hb dX8_isBack_3 rfl (lv_at hl 2 rfl) ?_
  refine vp_callSi (W.runV (As := [.int a1, .int a2]) (rest := [.ref h0]) ⟨hx, hb, hml, hown, hts⟩ (c_isEvent l dC dI s.heap.size t h0 ac cu dd th a1 a2 ed) (cwV 2 hts (zg_V kw_1802 kw_1804 kw_58 kw_70 kw_1805) rfl rfl rfl (by decide +kernel) ⟨Nat.le_of_ble_eq_true rfl, Nat.le_of_ble_eq_true rfl⟩) ⟨zA_blind, va_recv hK hP (ci := 7) (q0 := 0) rfl rfl, zA_pre hP hD hS hK hQ hA [0, 1] rfl rfl (by decide) [] rfl⟩ rfl rfl hl.1 rfl (lv_room (Nat.le_of_ble_eq_true rfl)) dX8_isBack_4 ⟨zl_b rfl, zl_b rfl⟩) (fun r hr => ?_)
  subst hr
  refine lv_iconst (v := 1) hx hb dX8_isBack_7 (by decide) ?_
  have hFc := va_free (wc := [(h0, .inr (7, [.ref ac, cu, .int dd, .int th]))]) hD hS hA [0] rfl
  refine va_calli (va_runV (As := [.int 0, .int 1]) (rest := []) ⟨hx, hb, hml, hown, hts⟩ (c_no0 l dC dI s.heap.size t h0 (.ref ac) cu dd th 1) (cwV 2 hts (zg_V kw_1377 kw_1379 kw_40 kw_70 kw_1380) rfl rfl rfl (by decide +kernel) ⟨Nat.le_of_ble_eq_true rfl, Nat.le_of_ble_eq_true rfl⟩) ⟨zA_blind, va_recv hK hP (ci := 7) (q0 := 0) rfl rfl, zA_pre hP hD hS hK hQ hA [0] rfl rfl (by decide) [] rfl⟩ rfl rfl hl.1 rfl (lv_room (Nat.le_of_ble_eq_true rfl)) dX8_isBack_8 ⟨zl_b rfl, zl_b rfl⟩) hS (fun q _ h => hFc q h) hFc (fun r_1 u t9 H1 locs ht hvm hw hB hz1 hk1 hS => ?_)
  obtain ⟨hP1, hK1, hD1⟩ := hB
  rw [ht] at hP1
  have hK1 := va_K.moved hvm.symm hK1
  obtain ⟨hP, hD⟩ := va_join (wr := [(ac, .inr (0, [.int 0, ed, .int 0]))]) (w1 := [(h0, .inr (7, [.ref ac, cu, .int dd, .int 1]))]) hP hD [0] [1] rfl rfl (by decide) (by decide) hk1 hFc hP1 hD1
  have hK := (hK.sub (tys' := []) [] rfl).app hK1
  generalize H1 = H at hP hS ⊢
  have hP : va_P (dC, dI) zc [(ac, .inr (0, [.int 0, ed, .int 0])), (h0, .inr (7, [.ref ac, cu, .int dd, .int 1]))] H := hP
  have hD : va_D A [(ac, .inr (0, [.int 0, ed, .int 0])), (h0, .inr (7, [.ref ac, cu, .int dd, .int 1]))] := hD
  have hK : va_K (dC, dI) zc [] s := hK
  have hw : 1 = r_1 := hw.symm
  subst hw
  refine lv_if_ne (tgt := 30) hx hb dX8_isBack_11 (by decide) (fun c_2 => ?_) (fun c_2 => absurd c_2 (by decide))
  refine lv_iconst (v := 0) hx hb dX8_isBack_30 (by decide) ?_
  have hP9 := hP.sub (ws' := [(h0, .inr (7, [.ref ac, cu, .int dd, .int 1])), (ac, .inr (0, [.int 0, ed, .int 0]))]) [1, 0] rfl
  have hD9 := hD.sub (ws' := [(h0, .inr (7, [.ref ac, cu, .int dd, .int 1])), (ac, .inr (0, [.int 0, ed, .int 0]))]) [1, 0] (by decide) rfl
  have hK9 := hK.sub (tys' := []) [] rfl
  exact W.zret (ty := .boolean) hx hb hr rfl (fun t ht hW => ⟨⟨_, (), rfl, trivial, by rw [ht]; exact hP9, va_K.moved hW.alike hK9, hD9⟩, hS.F ht⟩) hS.2.2 dX8_isBack_31
set_option maxHeartbeats 4000000 in
set_option maxRecDepth 100000 in
/-- sum of the model: no such account -/
theorem m_sum (l : Launch) (dC : Nat → ClassId) (dI : Nat → Nat → Nat) (sz t : Nat) (h0 ac : Nat) (cu : Value) (dd th : Int32) (ed : Value) (a1 a2 : Int32) : Met l yX8_sum ws_X8_sum ({ frames := 4, cells := 0, slots := 0, locals := 77 }) (zA dC dI [(h0, .inr (7, [.ref ac, cu, .int dd, .int th])), (ac, .inr (0, [.int 0, ed, .int 0]))] [] sz t [.ref h0, .int a1, .int a2]) (va_Qi (fun r (_ : Unit) => True) (fun _ t9 => zB dC dI (va_A [(h0, .inr (7, [.ref ac, cu, .int dd, .int th])), (ac, .inr (0, [.int 0, ed, .int 0]))] sz) [(h0, .inr (7, [.ref ac, cu, .int dd, .int 1])), (ac, .inr (0, [.int 0, ed, .int 0]))] [] t9) (va_A [(h0, .inr (7, [.ref ac, cu, .int dd, .int th])), (ac, .inr (0, [.int 0, ed, .int 0]))] sz)) 0 0 (va_A [(h0, .inr (7, [.ref ac, cu, .int dd, .int th])), (ac, .inr (0, [.int 0, ed, .int 0]))] sz) := by
  refine Met.ofW (cc := cX8_sum) (maxL := 3) (ret := (some .int)) (by decide) rfl ?_
  intro p e s m args below meth c s₁ B hml hv
  obtain ⟨rfl, hsz, hP, hK, hD0, hQ⟩ := hv
  have hx := B.exec
  have hb := B.bytes
  have hr := B.returns
  have hts : ∀ w ∈ zG, w.before _ s = true := fun w h => atoms_spec (ws := ws_X8_sum) B.pre w (List.mem_cons_of_mem _ h)
  have hown : s.vm.findClass RX8 = some m.cls := findClass_of_methodNamed B.named
  have hlocks := B.notSynchronized
  subst hsz
  have hD := hD0.self (sz := s.heap.size)
  generalize hAe : va_A [(h0, .inr (7, [.ref ac, cu, .int dd, .int th])), (ac, .inr (0, [.int 0, ed, .int 0]))] s.heap.size = A at hD hQ ⊢
  have hA : ∀ q : Nat, s.heap.size ≤ q → A q := fun q h => by rw [← hAe]; exact Or.inr h
  have hS : va_S A s.heap s.heap [] := va_S.rf
  have hP : va_P (dC, dI) zc [(h0, .inr (7, [.ref ac, cu, .int dd, .int th])), (ac, .inr (0, [.int 0, ed, .int 0]))] s.heap := hP
  have hl := lv_entry ([.ref h0, .int a1, .int a2]) (n := 3) (Nat.le_of_ble_eq_true rfl)
  rw [lg_entry_eq]
  generalize (lg_sl ([.ref h0, .int a1, .int a2]) ++ List.replicate (3 - (lg_sl ([.ref h0, .int a1, .int a2])).length) Slot.unset).toArray = ls at hl ⊢
  have hl : lv_has ls 3 [(0, .ref h0), (1, .int a1), (2, .int a2)] := hl
  refine lv_aload_n hx hb dX8_sum_0 rfl (lv_at hl 0 rfl) ?_
  refine lv_aload_n hx hb dX8_sum_1 rfl (lv_at hl 0 rfl) ?_
  refine lv_iload_n hx hb dX8_sum_2 rfl (lv_at hl 1 rfl) ?_
  refine lv_iload_n hx hb dX8_sum_3 rfl (lv_at hl 2 rfl) ?_
  refine vp_callSi (W.runV (As := [.int a1, .int a2]) (rest := [.ref h0]) ⟨hx, hb, hml, hown, hts⟩ (c_isEvent l dC dI s.heap.size t h0 ac cu dd th a1 a2 ed) (cwV 2 hts (zg_V kw_1802 kw_1804 kw_58 kw_70 kw_1805) rfl rfl rfl (by decide +kernel) ⟨Nat.le_of_ble_eq_true rfl, Nat.le_of_ble_eq_true rfl⟩) ⟨zA_blind, va_recv hK hP (ci := 7) (q0 := 0) rfl rfl, zA_pre hP hD hS hK hQ hA [0, 1] rfl rfl (by decide) [] rfl⟩ rfl rfl hl.1 rfl (lv_room (Nat.le_of_ble_eq_true rfl)) dX8_sum_4 ⟨zl_b rfl, zl_b rfl⟩) (fun r hr => ?_)
  subst hr
  refine lv_iconst (v := 1) hx hb dX8_sum_7 (by decide) ?_
  have hFc := va_free (wc := [(h0, .inr (7, [.ref ac, cu, .int dd, .int th]))]) hD hS hA [0] rfl
  refine va_calli (va_runV (As := [.int 0, .int 1]) (rest := []) ⟨hx, hb, hml, hown, hts⟩ (c_no0 l dC dI s.heap.size t h0 (.ref ac) cu dd th 1) (cwV 2 hts (zg_V kw_1377 kw_1379 kw_40 kw_70 kw_1380) rfl rfl rfl (by decide +kernel) ⟨Nat.le_of_ble_eq_true rfl, Nat.le_of_ble_eq_true rfl⟩) ⟨zA_blind, va_recv hK hP (ci := 7) (q0 := 0) rfl rfl, zA_pre hP hD hS hK hQ hA [0] rfl rfl (by decide) [] rfl⟩ rfl rfl hl.1 rfl (lv_room (Nat.le_of_ble_eq_true rfl)) dX8_sum_8 ⟨zl_b rfl, zl_b rfl⟩) hS (fun q _ h => hFc q h) hFc (fun r_1 u t9 H1 locs ht hvm hw hB hz1 hk1 hS => ?_)
  obtain ⟨hP1, hK1, hD1⟩ := hB
  rw [ht] at hP1
  have hK1 := va_K.moved hvm.symm hK1
  obtain ⟨hP, hD⟩ := va_join (wr := [(ac, .inr (0, [.int 0, ed, .int 0]))]) (w1 := [(h0, .inr (7, [.ref ac, cu, .int dd, .int 1]))]) hP hD [0] [1] rfl rfl (by decide) (by decide) hk1 hFc hP1 hD1
  have hK := (hK.sub (tys' := []) [] rfl).app hK1
  generalize H1 = H at hP hS ⊢
  have hP : va_P (dC, dI) zc [(ac, .inr (0, [.int 0, ed, .int 0])), (h0, .inr (7, [.ref ac, cu, .int dd, .int 1]))] H := hP
  have hD : va_D A [(ac, .inr (0, [.int 0, ed, .int 0])), (h0, .inr (7, [.ref ac, cu, .int dd, .int 1]))] := hD
  have hK : va_K (dC, dI) zc [] s := hK
  have hw : 1 = r_1 := hw.symm
  subst hw
  refine lv_if_eq (tgt := 18) hx hb dX8_sum_11 (by decide) (fun c_2 => absurd c_2 (by decide)) (fun c_2 => ?_)
  refine lv_iconst (v := 0) hx hb dX8_sum_14 (by decide) ?_
  refine lv_goto (tgt := 27) hx hb dX8_sum_15 (by decide) ?_
  have hP9 := hP.sub (ws' := [(h0, .inr (7, [.ref ac, cu, .int dd, .int 1])), (ac, .inr (0, [.int 0, ed, .int 0]))]) [1, 0] rfl
  have hD9 := hD.sub (ws' := [(h0, .inr (7, [.ref ac, cu, .int dd, .int 1])), (ac, .inr (0, [.int 0, ed, .int 0]))]) [1, 0] (by decide) rfl
  have hK9 := hK.sub (tys' := []) [] rfl
  exact W.iret hx hb hr (fun t ht hW => ⟨⟨_, (), rfl, trivial, by rw [ht]; exact hP9, va_K.moved hW.alike hK9, hD9⟩, hS.F ht⟩) hS.2.2 dX8_sum_27
set_option maxHeartbeats 4000000 in
set_option maxRecDepth 100000 in
/-- why of the model: no such account -/
theorem m_why (l : Launch) (dC : Nat → ClassId) (dI : Nat → Nat → Nat) (sz t : Nat) (h0 ac : Nat) (cu : Value) (dd th : Int32) (ed : Value) (a1 a2 a3 : Int32) : Met l yX8_why ws_X8_why ({ frames := 3, cells := 0, slots := 0, locals := 55 }) (zA dC dI [(h0, .inr (7, [.ref ac, cu, .int dd, .int th])), (ac, .inr (0, [.int 0, ed, .int 0]))] [] sz t [.ref h0, .int a1, .int a2, .int a3]) (va_Qi (fun r (_ : Unit) => True) (fun _ t9 => zB dC dI (va_A [(h0, .inr (7, [.ref ac, cu, .int dd, .int th])), (ac, .inr (0, [.int 0, ed, .int 0]))] sz) [(h0, .inr (7, [.ref ac, cu, .int dd, .int 1])), (ac, .inr (0, [.int 0, ed, .int 0]))] [] t9) (va_A [(h0, .inr (7, [.ref ac, cu, .int dd, .int th])), (ac, .inr (0, [.int 0, ed, .int 0]))] sz)) 0 0 (va_A [(h0, .inr (7, [.ref ac, cu, .int dd, .int th])), (ac, .inr (0, [.int 0, ed, .int 0]))] sz) := by
  refine Met.ofW (cc := cX8_why) (maxL := 6) (ret := (some .char)) (by decide) rfl ?_
  intro p e s m args below meth c s₁ B hml hv
  obtain ⟨rfl, hsz, hP, hK, hD0, hQ⟩ := hv
  have hx := B.exec
  have hb := B.bytes
  have hr := B.returns
  have hts : ∀ w ∈ zG, w.before _ s = true := fun w h => atoms_spec (ws := ws_X8_why) B.pre w (List.mem_cons_of_mem _ h)
  have hown : s.vm.findClass RX8 = some m.cls := findClass_of_methodNamed B.named
  have hlocks := B.notSynchronized
  subst hsz
  have hD := hD0.self (sz := s.heap.size)
  generalize hAe : va_A [(h0, .inr (7, [.ref ac, cu, .int dd, .int th])), (ac, .inr (0, [.int 0, ed, .int 0]))] s.heap.size = A at hD hQ ⊢
  have hA : ∀ q : Nat, s.heap.size ≤ q → A q := fun q h => by rw [← hAe]; exact Or.inr h
  have hS : va_S A s.heap s.heap [] := va_S.rf
  have hP : va_P (dC, dI) zc [(h0, .inr (7, [.ref ac, cu, .int dd, .int th])), (ac, .inr (0, [.int 0, ed, .int 0]))] s.heap := hP
  have hl := lv_entry ([.ref h0, .int a1, .int a2, .int a3]) (n := 6) (Nat.le_of_ble_eq_true rfl)
  rw [lg_entry_eq]
  generalize (lg_sl ([.ref h0, .int a1, .int a2, .int a3]) ++ List.replicate (6 - (lg_sl ([.ref h0, .int a1, .int a2, .int a3])).length) Slot.unset).toArray = ls at hl ⊢
  have hl : lv_has ls 6 [(0, .ref h0), (1, .int a1), (2, .int a2), (3, .int a3)] := hl
  refine lv_aload_n hx hb dX8_why_0 rfl (lv_at hl 0 rfl) ?_
  refine lv_aload_n hx hb dX8_why_1 rfl (lv_at hl 0 rfl) ?_
  refine lv_iload_n hx hb dX8_why_2 rfl (lv_at hl 1 rfl) ?_
  refine vp_callSi (W.runV (As := [.int a1]) (rest := [.ref h0]) ⟨hx, hb, hml, hown, hts⟩ (c_isAccount l dC dI s.heap.size t h0 ac cu dd th a1 ed) (cwV 1 hts (zg_V kw_1432 kw_1434 kw_41 kw_70 kw_1435) rfl rfl rfl (by decide +kernel) ⟨Nat.le_of_ble_eq_true rfl, Nat.le_of_ble_eq_true rfl⟩) ⟨zA_blind, va_recv hK hP (ci := 7) (q0 := 0) rfl rfl, zA_pre hP hD hS hK hQ hA [0, 1] rfl rfl (by decide) [] rfl⟩ rfl rfl hl.1 rfl (lv_room (Nat.le_of_ble_eq_true rfl)) dX8_why_3 ⟨zl_b rfl, zl_b rfl⟩) (fun r hr => ?_)
  subst hr
  refine lv_iconst (v := 1) hx hb dX8_why_6 (by decide) ?_
  have hFc := va_free (wc := [(h0, .inr (7, [.ref ac, cu, .int dd, .int th]))]) hD hS hA [0] rfl
  refine va_calli (va_runV (As := [.int 0, .int 1]) (rest := []) ⟨hx, hb, hml, hown, hts⟩ (c_no0 l dC dI s.heap.size t h0 (.ref ac) cu dd th 1) (cwV 2 hts (zg_V kw_1377 kw_1379 kw_40 kw_70 kw_1380) rfl rfl rfl (by decide +kernel) ⟨Nat.le_of_ble_eq_true rfl, Nat.le_of_ble_eq_true rfl⟩) ⟨zA_blind, va_recv hK hP (ci := 7) (q0 := 0) rfl rfl, zA_pre hP hD hS hK hQ hA [0] rfl rfl (by decide) [] rfl⟩ rfl rfl hl.1 rfl (lv_room (Nat.le_of_ble_eq_true rfl)) dX8_why_7 ⟨zl_b rfl, zl_b rfl⟩) hS (fun q _ h => hFc q h) hFc (fun r_1 u t9 H1 locs ht hvm hw hB hz1 hk1 hS => ?_)
  obtain ⟨hP1, hK1, hD1⟩ := hB
  rw [ht] at hP1
  have hK1 := va_K.moved hvm.symm hK1
  obtain ⟨hP, hD⟩ := va_join (wr := [(ac, .inr (0, [.int 0, ed, .int 0]))]) (w1 := [(h0, .inr (7, [.ref ac, cu, .int dd, .int 1]))]) hP hD [0] [1] rfl rfl (by decide) (by decide) hk1 hFc hP1 hD1
  have hK := (hK.sub (tys' := []) [] rfl).app hK1
  generalize H1 = H at hP hS ⊢
  have hP : va_P (dC, dI) zc [(ac, .inr (0, [.int 0, ed, .int 0])), (h0, .inr (7, [.ref ac, cu, .int dd, .int 1]))] H := hP
  have hD : va_D A [(ac, .inr (0, [.int 0, ed, .int 0])), (h0, .inr (7, [.ref ac, cu, .int dd, .int 1]))] := hD
  have hK : va_K (dC, dI) zc [] s := hK
  have hw : 1 = r_1 := hw.symm
  subst hw
  refine lv_if_ne (tgt := 43) hx hb dX8_why_10 (by decide) (fun c_2 => ?_) (fun c_2 => absurd c_2 (by decide))
  refine lv_bipush (v := 45) hx hb dX8_why_43 (by decide) ?_
  have hP9 := hP.sub (ws' := [(h0, .inr (7, [.ref ac, cu, .int dd, .int 1])), (ac, .inr (0, [.int 0, ed, .int 0]))]) [1, 0] rfl
  have hD9 := hD.sub (ws' := [(h0, .inr (7, [.ref ac, cu, .int dd, .int 1])), (ac, .inr (0, [.int 0, ed, .int 0]))]) [1, 0] (by decide) rfl
  have hK9 := hK.sub (tys' := []) [] rfl
  exact W.zret (ty := .char) hx hb hr rfl (fun t ht hW => ⟨⟨_, (), rfl, trivial, by rw [ht]; exact hP9, va_K.moved hW.alike hK9, hD9⟩, hS.F ht⟩) hS.2.2 dX8_why_45
set_option maxHeartbeats 4000000 in
set_option maxRecDepth 100000 in
/-- reasons of the model: no such account -/
theorem m_reasons (l : Launch) (dC : Nat → ClassId) (dI : Nat → Nat → Nat) (sz t : Nat) (h0 ac : Nat) (cu : Value) (dd th : Int32) (ed : Value) (a1 a2 a3 : Int32) : Met l yX8_reasons ws_X8_reasons ({ frames := 3, cells := 0, slots := 0, locals := 55 }) (zA dC dI [(h0, .inr (7, [.ref ac, cu, .int dd, .int th])), (ac, .inr (0, [.int 0, ed, .int 0]))] [] sz t [.ref h0, .int a1, .int a2, .int a3]) (va_Qi (fun r (_ : Unit) => True) (fun _ t9 => zB dC dI (va_A [(h0, .inr (7, [.ref ac, cu, .int dd, .int th])), (ac, .inr (0, [.int 0, ed, .int 0]))] sz) [(h0, .inr (7, [.ref ac, cu, .int dd, .int 1])), (ac, .inr (0, [.int 0, ed, .int 0]))] [] t9) (va_A [(h0, .inr (7, [.ref ac, cu, .int dd, .int th])), (ac, .inr (0, [.int 0, ed, .int 0]))] sz)) 0 0 (va_A [(h0, .inr (7, [.ref ac, cu, .int dd, .int th])), (ac, .inr (0, [.int 0, ed, .int 0]))] sz) := by
  refine Met.ofW (cc := cX8_reasons) (maxL := 4) (ret := (some .int)) (by decide) rfl ?_
  intro p e s m args below meth c s₁ B hml hv
  obtain ⟨rfl, hsz, hP, hK, hD0, hQ⟩ := hv
  have hx := B.exec
  have hb := B.bytes
  have hr := B.returns
  have hts : ∀ w ∈ zG, w.before _ s = true := fun w h => atoms_spec (ws := ws_X8_reasons) B.pre w (List.mem_cons_of_mem _ h)
  have hown : s.vm.findClass RX8 = some m.cls := findClass_of_methodNamed B.named
  have hlocks := B.notSynchronized
  subst hsz
  have hD := hD0.self (sz := s.heap.size)
  generalize hAe : va_A [(h0, .inr (7, [.ref ac, cu, .int dd, .int th])), (ac, .inr (0, [.int 0, ed, .int 0]))] s.heap.size = A at hD hQ ⊢
  have hA : ∀ q : Nat, s.heap.size ≤ q → A q := fun q h => by rw [← hAe]; exact Or.inr h
  have hS : va_S A s.heap s.heap [] := va_S.rf
  have hP : va_P (dC, dI) zc [(h0, .inr (7, [.ref ac, cu, .int dd, .int th])), (ac, .inr (0, [.int 0, ed, .int 0]))] s.heap := hP
  have hl := lv_entry ([.ref h0, .int a1, .int a2, .int a3]) (n := 4) (Nat.le_of_ble_eq_true rfl)
  rw [lg_entry_eq]
  generalize (lg_sl ([.ref h0, .int a1, .int a2, .int a3]) ++ List.replicate (4 - (lg_sl ([.ref h0, .int a1, .int a2, .int a3])).length) Slot.unset).toArray = ls at hl ⊢
  have hl : lv_has ls 4 [(0, .ref h0), (1, .int a1), (2, .int a2), (3, .int a3)] := hl
  refine lv_aload_n hx hb dX8_reasons_0 rfl (lv_at hl 0 rfl) ?_
  refine lv_aload_n hx hb dX8_reasons_1 rfl (lv_at hl 0 rfl) ?_
  refine lv_iload_n hx hb dX8_reasons_2 rfl (lv_at hl 1 rfl) ?_
  refine vp_callSi (W.runV (As := [.int a1]) (rest := [.ref h0]) ⟨hx, hb, hml, hown, hts⟩ (c_isAccount l dC dI s.heap.size t h0 ac cu dd th a1 ed) (cwV 1 hts (zg_V kw_1432 kw_1434 kw_41 kw_70 kw_1435) rfl rfl rfl (by decide +kernel) ⟨Nat.le_of_ble_eq_true rfl, Nat.le_of_ble_eq_true rfl⟩) ⟨zA_blind, va_recv hK hP (ci := 7) (q0 := 0) rfl rfl, zA_pre hP hD hS hK hQ hA [0, 1] rfl rfl (by decide) [] rfl⟩ rfl rfl hl.1 rfl (lv_room (Nat.le_of_ble_eq_true rfl)) dX8_reasons_3 ⟨zl_b rfl, zl_b rfl⟩) (fun r hr => ?_)
  subst hr
  refine lv_iconst (v := 1) hx hb dX8_reasons_6 (by decide) ?_
  have hFc := va_free (wc := [(h0, .inr (7, [.ref ac, cu, .int dd, .int th]))]) hD hS hA [0] rfl
  refine va_calli (va_runV (As := [.int 0, .int 1]) (rest := []) ⟨hx, hb, hml, hown, hts⟩ (c_no0 l dC dI s.heap.size t h0 (.ref ac) cu dd th 1) (cwV 2 hts (zg_V kw_1377 kw_1379 kw_40 kw_70 kw_1380) rfl rfl rfl (by decide +kernel) ⟨Nat.le_of_ble_eq_true rfl, Nat.le_of_ble_eq_true rfl⟩) ⟨zA_blind, va_recv hK hP (ci := 7) (q0 := 0) rfl rfl, zA_pre hP hD hS hK hQ hA [0] rfl rfl (by decide) [] rfl⟩ rfl rfl hl.1 rfl (lv_room (Nat.le_of_ble_eq_true rfl)) dX8_reasons_7 ⟨zl_b rfl, zl_b rfl⟩) hS (fun q _ h => hFc q h) hFc (fun r_1 u t9 H1 locs ht hvm hw hB hz1 hk1 hS => ?_)
  obtain ⟨hP1, hK1, hD1⟩ := hB
  rw [ht] at hP1
  have hK1 := va_K.moved hvm.symm hK1
  obtain ⟨hP, hD⟩ := va_join (wr := [(ac, .inr (0, [.int 0, ed, .int 0]))]) (w1 := [(h0, .inr (7, [.ref ac, cu, .int dd, .int 1]))]) hP hD [0] [1] rfl rfl (by decide) (by decide) hk1 hFc hP1 hD1
  have hK := (hK.sub (tys' := []) [] rfl).app hK1
  generalize H1 = H at hP hS ⊢
  have hP : va_P (dC, dI) zc [(ac, .inr (0, [.int 0, ed, .int 0])), (h0, .inr (7, [.ref ac, cu, .int dd, .int 1]))] H := hP
  have hD : va_D A [(ac, .inr (0, [.int 0, ed, .int 0])), (h0, .inr (7, [.ref ac, cu, .int dd, .int 1]))] := hD
  have hK : va_K (dC, dI) zc [] s := hK
  have hw : 1 = r_1 := hw.symm
  subst hw
  refine lv_if_ne (tgt := 43) hx hb dX8_reasons_10 (by decide) (fun c_2 => ?_) (fun c_2 => absurd c_2 (by decide))
  refine lv_iconst (v := 0) hx hb dX8_reasons_43 (by decide) ?_
  refine lv_goto (tgt := 58) hx hb dX8_reasons_44 (by decide) ?_
  have hP9 := hP.sub (ws' := [(h0, .inr (7, [.ref ac, cu, .int dd, .int 1])), (ac, .inr (0, [.int 0, ed, .int 0]))]) [1, 0] rfl
  have hD9 := hD.sub (ws' := [(h0, .inr (7, [.ref ac, cu, .int dd, .int 1])), (ac, .inr (0, [.int 0, ed, .int 0]))]) [1, 0] (by decide) rfl
  have hK9 := hK.sub (tys' := []) [] rfl
  exact W.iret hx hb hr (fun t ht hW => ⟨⟨_, (), rfl, trivial, by rw [ht]; exact hP9, va_K.moved hW.alike hK9, hD9⟩, hS.F ht⟩) hS.2.2 dX8_reasons_58
