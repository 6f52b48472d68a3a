set_option maxHeartbeats 4000000 in
set_option maxRecDepth 100000 in
/-- setLimit in the law: 1 -/
theorem lx_setLimit (l : Launch) (hst : l.stackTraces = false) (dC : Nat → ClassId) (dI : Nat → Nat → Nat) (sz t : Nat) (h0 ac o : Nat) (w0 b0 : Value) (dd : Int32) (ed : Value) (a1 a2 : Int32) : vx_Met l yL_setLimit ws_L_setLimit ({ frames := 8, cells := 1, slots := 6, locals := 144 }) (zA dC dI [(h0, .inr (5, [.ref ac, w0, b0, .int dd])), (ac, .inr (0, [.int 0, ed, .int 0]))] [] sz t [.ref h0, .int a1, .int a2, .ref o]) (va_Qi (fun r (_ : Unit) => r = 1) (fun _ _ => True) (fun q => sz ≤ q)) (vx_X (fun _ : Unit => False) (fun _ _ _ => True) (fun _ => False)) 1 6 (fun q => sz ≤ q) := by
  refine vx_ofWH (cc := cL_setLimit) (maxL := 5) (ret := (some .int)) (hh := [(0, 10, 13, 21), (0, 10, 17, 13)]) (by decide) rfl ?_
  intro p e s m args below meth c s₁ B hml hv
  obtain ⟨rfl, hsz, hP, hK, hD0, hQ⟩ := hv
  have hx := B.exec
  have hb := B.bytes
  have hr := B.returns
  have hts : ∀ w ∈ zG, w.before _ s = true := fun w h => atoms_spec (ws := ws_L_setLimit) B.pre w (List.mem_cons_of_mem _ h)
  have htab : c.exceptionTable.toList = tableOf [(0, 10, 13, 21), (0, 10, 17, 13)] := vx_table (x := yL_setLimit) B (atoms_spec (ws := ws_L_setLimit) B.pre _ List.mem_cons_self)
  have hown : s.vm.findClass RL = some m.cls := findClass_of_methodNamed B.named
  have hlocks := B.notSynchronized
  subst hsz
  have hD := hD0.self (sz := s.heap.size)
  generalize hAe : va_A [(h0, .inr (5, [.ref ac, w0, b0, .int dd])), (ac, .inr (0, [.int 0, ed, .int 0]))] s.heap.size = A at hD hQ
  have hA : ∀ q : Nat, s.heap.size ≤ q → A q := fun q h => by rw [← hAe]; exact Or.inr h
  have hS : va_S A s.heap s.heap [] := va_S.rf
  have hSn : va_S (fun q => s.heap.size ≤ q) s.heap s.heap [] := va_S.rf
  have hP : va_P (dC, dI) zc [(h0, .inr (5, [.ref ac, w0, b0, .int dd])), (ac, .inr (0, [.int 0, ed, .int 0]))] s.heap := hP
  have hl := lv_entry ([.ref h0, .int a1, .int a2, .ref o]) (n := 5) (Nat.le_of_ble_eq_true rfl)
  rw [lg_entry_eq]
  generalize (lg_sl ([.ref h0, .int a1, .int a2, .ref o]) ++ List.replicate (5 - (lg_sl ([.ref h0, .int a1, .int a2, .ref o])).length) Slot.unset).toArray = ls at hl ⊢
  have hl : lv_has ls 5 [(0, .ref h0), (1, .int a1), (2, .int a2), (3, .ref o)] := hl
  refine lv_aload_n hx hb dL_setLimit_0 rfl (lv_at hl 3 rfl) ?_
  refine lv_iconst (v := 0) hx hb dL_setLimit_1 (by decide) ?_
  refine lv_aload_n hx hb dL_setLimit_2 rfl (lv_at hl 0 rfl) ?_
  refine lv_iload_n hx hb dL_setLimit_3 rfl (lv_at hl 1 rfl) ?_
  refine lv_iload_n hx hb dL_setLimit_4 rfl (lv_at hl 2 rfl) ?_
  refine vx_calli (vx_runV (As := [.int a1, .int a2]) (rest := [.int 0, .ref o]) ⟨hx, hb, hml, hown, hts⟩ (c_setLimit l hst dC dI s.heap.size t h0 ac w0 b0 dd ed a1 a2) (cwV 2 hts (zg_V kw_664 kw_665 kw_666 kw_64 kw_667) rfl rfl rfl (by decide +kernel) ⟨Nat.le_of_ble_eq_true rfl, Nat.le_of_ble_eq_true rfl⟩) ⟨zA_blind, va_recv hK hP (ci := 5) (q0 := 0) rfl rfl, zA_pre hP hD hS hK hQ hA [0, 1] rfl rfl (by decide) [] rfl⟩ rfl rfl hl.1 rfl (lv_room (Nat.le_of_ble_eq_true rfl)) dL_setLimit_5 ⟨zl_b rfl, zl_b rfl⟩) hSn (fun q _ h => h.elim) (fun q h => Nat.le_trans (Nat.le_refl _) h) (fun q _ h => Nat.le_trans (Nat.le_refl _) h) (fun E ce q9 u t9 H1 locs1 ht hvm hp9 hE hz1 hk1 hS1 hc1 hv1 hcl1 => ?_) (fun r u t9 H1 locs1 ht hvm hw hB hz1 hk1 hS1 => hw.elim)
  have hE : E = "java/lang/IndexOutOfBoundsException" := hE
  subst hE
  refine vx_catch (own := RL) (name := "java/lang/IndexOutOfBoundsException") hown [] _ _ htab (fun z hz => absurd hz List.not_mem_nil) rfl (by decide) (hts _ kw_631) (va_Nw.use rfl (zT_kI hQ.1)) hc1 hv1 hcl1 ?_
  refine W.eq (g2 := F0 m 13 ls [.ref q9]) rfl ?_
  generalize H1 = H at hS1 ⊢
  refine W.widen (k := 1) (n := 6) (zl_b rfl) (zl_b rfl) ?_
  refine lv_astore (lv' := [(4, .ref q9), (0, .ref h0), (1, .int a1), (2, .int a2), (3, .ref o)]) hx hb dL_setLimit_13 hl (by decide) rfl (fun ls hl => ?_)
  refine lv_iconst (v := 1) hx hb dL_setLimit_15 (by decide) ?_
  refine vx_ret ?_
  exact W.iret hx hb hr (fun t ht hW => ⟨⟨_, (), rfl, rfl, trivial⟩, zS_F hS1 ht⟩) hS1.2.2 dL_setLimit_16
set_option maxHeartbeats 4000000 in
set_option maxRecDepth 100000 in
/-- block in the law: 1 -/
theorem lx_block (l : Launch) (hst : l.stackTraces = false) (dC : Nat → ClassId) (dI : Nat → Nat → Nat) (sz t : Nat) (h0 ac o : Nat) (w0 b0 : Value) (dd : Int32) (ed : Value) (a1 a2 : Int32) : vx_Met l yL_block ws_L_block ({ frames := 8, cells := 1, slots := 6, locals := 144 }) (zA dC dI [(h0, .inr (5, [.ref ac, w0, b0, .int dd])), (ac, .inr (0, [.int 0, ed, .int 0]))] [] sz t [.ref h0, .int a1, .int a2, .ref o]) (va_Qi (fun r (_ : Unit) => r = 1) (fun _ _ => True) (fun q => sz ≤ q)) (vx_X (fun _ : Unit => False) (fun _ _ _ => True) (fun _ => False)) 1 6 (fun q => sz ≤ q) := by
  refine vx_ofWH (cc := cL_block) (maxL := 5) (ret := (some .int)) (hh := [(0, 17, 20, 21)]) (by decide) rfl ?_
  intro p e s m args below meth c s₁ B hml hv
  obtain ⟨rfl, hsz, hP, hK, hD0, hQ⟩ := hv
  have hx := B.exec
  have hb := B.bytes
  have hr := B.returns
  have hts : ∀ w ∈ zG, w.before _ s = true := fun w h => atoms_spec (ws := ws_L_block) B.pre w (List.mem_cons_of_mem _ h)
  have htab : c.exceptionTable.toList = tableOf [(0, 17, 20, 21)] := vx_table (x := yL_block) B (atoms_spec (ws := ws_L_block) B.pre _ List.mem_cons_self)
  have hown : s.vm.findClass RL = some m.cls := findClass_of_methodNamed B.named
  have hlocks := B.notSynchronized
  subst hsz
  have hD := hD0.self (sz := s.heap.size)
  generalize hAe : va_A [(h0, .inr (5, [.ref ac, w0, b0, .int dd])), (ac, .inr (0, [.int 0, ed, .int 0]))] s.heap.size = A at hD hQ
  have hA : ∀ q : Nat, s.heap.size ≤ q → A q := fun q h => by rw [← hAe]; exact Or.inr h
  have hS : va_S A s.heap s.heap [] := va_S.rf
  have hSn : va_S (fun q => s.heap.size ≤ q) s.heap s.heap [] := va_S.rf
  have hP : va_P (dC, dI) zc [(h0, .inr (5, [.ref ac, w0, b0, .int dd])), (ac, .inr (0, [.int 0, ed, .int 0]))] s.heap := hP
  have hl := lv_entry ([.ref h0, .int a1, .int a2, .ref o]) (n := 5) (Nat.le_of_ble_eq_true rfl)
  rw [lg_entry_eq]
  generalize (lg_sl ([.ref h0, .int a1, .int a2, .ref o]) ++ List.replicate (5 - (lg_sl ([.ref h0, .int a1, .int a2, .ref o])).length) Slot.unset).toArray = ls at hl ⊢
  have hl : lv_has ls 5 [(0, .ref h0), (1, .int a1), (2, .int a2), (3, .ref o)] := hl
  refine lv_aload_n hx hb dL_block_0 rfl (lv_at hl 3 rfl) ?_
  refine lv_iconst (v := 0) hx hb dL_block_1 (by decide) ?_
  refine lv_aload_n hx hb dL_block_2 rfl (lv_at hl 0 rfl) ?_
  refine lv_iload_n hx hb dL_block_3 rfl (lv_at hl 1 rfl) ?_
  refine lv_iload_n hx hb dL_block_4 rfl (lv_at hl 2 rfl) ?_
  refine vx_calli (vx_runV (As := [.int a1, .int a2]) (rest := [.int 0, .ref o]) ⟨hx, hb, hml, hown, hts⟩ (c_block l hst dC dI s.heap.size t h0 ac w0 b0 dd ed a1 a2) (cwV 2 hts (zg_V kw_690 kw_691 kw_692 kw_64 kw_693) rfl rfl rfl (by decide +kernel) ⟨Nat.le_of_ble_eq_true rfl, Nat.le_of_ble_eq_true rfl⟩) ⟨zA_blind, va_recv hK hP (ci := 5) (q0 := 0) rfl rfl, zA_pre hP hD hS hK hQ hA [0, 1] rfl rfl (by decide) [] rfl⟩ rfl rfl hl.1 rfl (lv_room (Nat.le_of_ble_eq_true rfl)) dL_block_5 ⟨zl_b rfl, zl_b rfl⟩) hSn (fun q _ h => h.elim) (fun q h => Nat.le_trans (Nat.le_refl _) h) (fun q _ h => Nat.le_trans (Nat.le_refl _) h) (fun E ce q9 u t9 H1 locs1 ht hvm hp9 hE hz1 hk1 hS1 hc1 hv1 hcl1 => ?_) (fun r u t9 H1 locs1 ht hvm hw hB hz1 hk1 hS1 => hw.elim)
  have hE : E = "java/lang/IndexOutOfBoundsException" := hE
  subst hE
  refine vx_catch (own := RL) (name := "java/lang/IndexOutOfBoundsException") hown [] _ _ htab (fun z hz => absurd hz List.not_mem_nil) rfl (by decide) (hts _ kw_631) (va_Nw.use rfl (zT_kI hQ.1)) hc1 hv1 hcl1 ?_
  refine W.eq (g2 := F0 m 20 ls [.ref q9]) rfl ?_
  generalize H1 = H at hS1 ⊢
  refine W.widen (k := 1) (n := 6) (zl_b rfl) (zl_b rfl) ?_
  refine lv_astore (lv' := [(4, .ref q9), (0, .ref h0), (1, .int a1), (2, .int a2), (3, .ref o)]) hx hb dL_block_20 hl (by decide) rfl (fun ls hl => ?_)
  refine lv_iconst (v := 1) hx hb dL_block_22 (by decide) ?_
  refine vx_ret ?_
  exact W.iret hx hb hr (fun t ht hW => ⟨⟨_, (), rfl, rfl, trivial⟩, zS_F hS1 ht⟩) hS1.2.2 dL_block_23
set_option maxHeartbeats 4000000 in
set_option maxRecDepth 100000 in
/-- setRate in the law: 1 -/
theorem lx_setRate (l : Launch) (hst : l.stackTraces = false) (dC : Nat → ClassId) (dI : Nat → Nat → Nat) (sz t : Nat) (h0 ac o : Nat) (w0 b0 : Value) (dd : Int32) (ed : Value) (a1 a2 a3 : Int32) : vx_Met l yL_setRate ws_L_setRate ({ frames := 8, cells := 1, slots := 6, locals := 146 }) (zA dC dI [(h0, .inr (5, [.ref ac, w0, b0, .int dd])), (ac, .inr (0, [.int 0, ed, .int 0]))] [] sz t [.ref h0, .int a1, .int a2, .int a3, .ref o]) (va_Qi (fun r (_ : Unit) => r = 1) (fun _ _ => True) (fun q => sz ≤ q)) (vx_X (fun _ : Unit => False) (fun _ _ _ => True) (fun _ => False)) 1 6 (fun q => sz ≤ q) := by
  refine vx_ofWH (cc := cL_setRate) (maxL := 6) (ret := (some .int)) (hh := [(0, 12, 15, 21), (0, 12, 19, 13), (0, 12, 23, 15)]) (by decide) rfl ?_
  intro p e s m args below meth c s₁ B hml hv
  obtain ⟨rfl, hsz, hP, hK, hD0, hQ⟩ := hv
  have hx := B.exec
  have hb := B.bytes
  have hr := B.returns
  have hts : ∀ w ∈ zG, w.before _ s = true := fun w h => atoms_spec (ws := ws_L_setRate) B.pre w (List.mem_cons_of_mem _ h)
  have htab : c.exceptionTable.toList = tableOf [(0, 12, 15, 21), (0, 12, 19, 13), (0, 12, 23, 15)] := vx_table (x := yL_setRate) B (atoms_spec (ws := ws_L_setRate) B.pre _ List.mem_cons_self)
  have hown : s.vm.findClass RL = some m.cls := findClass_of_methodNamed B.named
  have hlocks := B.notSynchronized
  subst hsz
  have hD := hD0.self (sz := s.heap.size)
  generalize hAe : va_A [(h0, .inr (5, [.ref ac, w0, b0, .int dd])), (ac, .inr (0, [.int 0, ed, .int 0]))] s.heap.size = A at hD hQ
  have hA : ∀ q : Nat, s.heap.size ≤ q → A q := fun q h => by rw [← hAe]; exact Or.inr h
  have hS : va_S A s.heap s.heap [] := va_S.rf
  have hSn : va_S (fun q => s.heap.size ≤ q) s.heap s.heap [] := va_S.rf
  have hP : va_P (dC, dI) zc [(h0, .inr (5, [.ref ac, w0, b0, .int dd])), (ac, .inr (0, [.int 0, ed, .int 0]))] s.heap := hP
  have hl := lv_entry ([.ref h0, .int a1, .int a2, .int a3, .ref o]) (n := 6) (Nat.le_of_ble_eq_true rfl)
  rw [lg_entry_eq]
  generalize (lg_sl ([.ref h0, .int a1, .int a2, .int a3, .ref o]) ++ List.replicate (6 - (lg_sl ([.ref h0, .int a1, .int a2, .int a3, .ref o])).length) Slot.unset).toArray = ls at hl ⊢
  have hl : lv_has ls 6 [(0, .ref h0), (1, .int a1), (2, .int a2), (3, .int a3), (4, .ref o)] := hl
  refine lv_aload hx hb dL_setRate_0 (lv_at hl 4 rfl) ?_
  refine lv_iconst (v := 0) hx hb dL_setRate_2 (by decide) ?_
  refine lv_aload_n hx hb dL_setRate_3 rfl (lv_at hl 0 rfl) ?_
  refine lv_iload_n hx hb dL_setRate_4 rfl (lv_at hl 1 rfl) ?_
  refine lv_iload_n hx hb dL_setRate_5 rfl (lv_at hl 2 rfl) ?_
  refine lv_iload_n hx hb dL_setRate_6 rfl (lv_at hl 3 rfl) ?_
  refine vx_calli (vx_runV (As := [.int a1, .int a2, .int a3]) (rest := [.int 0, .ref o]) ⟨hx, hb, hml, hown, hts⟩ (c_setRate l hst dC dI s.heap.size t h0 ac w0 b0 dd ed a1 a2 a3) (cwV 3 hts (zg_V kw_697 kw_698 kw_699 kw_64 kw_700) rfl rfl rfl (by decide +kernel) ⟨Nat.le_of_ble_eq_true rfl, Nat.le_of_ble_eq_true rfl⟩) ⟨zA_blind, va_recv hK hP (ci := 5) (q0 := 0) rfl rfl, zA_pre hP hD hS hK hQ hA [0, 1] rfl rfl (by decide) [] rfl⟩ rfl rfl hl.1 rfl (lv_room (Nat.le_of_ble_eq_true rfl)) dL_setRate_7 ⟨zl_b rfl, zl_b rfl⟩) hSn (fun q _ h => h.elim) (fun q h => Nat.le_trans (Nat.le_refl _) h) (fun q _ h => Nat.le_trans (Nat.le_refl _) h) (fun E ce q9 u t9 H1 locs1 ht hvm hp9 hE hz1 hk1 hS1 hc1 hv1 hcl1 => ?_) (fun r u t9 H1 locs1 ht hvm hw hB hz1 hk1 hS1 => hw.elim)
  have hE : E = "java/lang/IndexOutOfBoundsException" := hE
  subst hE
  refine vx_catch (own := RL) (name := "java/lang/IndexOutOfBoundsException") hown [] _ _ htab (fun z hz => absurd hz List.not_mem_nil) rfl (by decide) (hts _ kw_631) (va_Nw.use rfl (zT_kI hQ.1)) hc1 hv1 hcl1 ?_
  refine W.eq (g2 := F0 m 15 ls [.ref q9]) rfl ?_
  generalize H1 = H at hS1 ⊢
  refine W.widen (k := 1) (n := 6) (zl_b rfl) (zl_b rfl) ?_
  refine lv_astore (lv' := [(5, .ref q9), (0, .ref h0), (1, .int a1), (2, .int a2), (3, .int a3), (4, .ref o)]) hx hb dL_setRate_15 hl (by decide) rfl (fun ls hl => ?_)
  refine lv_iconst (v := 1) hx hb dL_setRate_17 (by decide) ?_
  refine vx_ret ?_
  exact W.iret hx hb hr (fun t ht hW => ⟨⟨_, (), rfl, rfl, trivial⟩, zS_F hS1 ht⟩) hS1.2.2 dL_setRate_18
set_option maxHeartbeats 4000000 in
set_option maxRecDepth 100000 in
/-- promote in the law: 1 -/
theorem lx_promote (l : Launch) (hst : l.stackTraces = false) (dC : Nat → ClassId) (dI : Nat → Nat → Nat) (sz t : Nat) (h0 ac o : Nat) (w0 b0 : Value) (dd : Int32) (ed : Value) (a1 a2 a3 : Int32) : vx_Met l yL_promote ws_L_promote ({ frames := 8, cells := 1, slots := 6, locals := 145 }) (zA dC dI [(h0, .inr (5, [.ref ac, w0, b0, .int dd])), (ac, .inr (0, [.int 0, ed, .int 0]))] [] sz t [.ref h0, .int a1, .int a2, .int a3, .ref o]) (va_Qi (fun r (_ : Unit) => r = 1) (fun _ _ => True) (fun q => sz ≤ q)) (vx_X (fun _ : Unit => False) (fun _ _ _ => True) (fun _ => False)) 1 6 (fun q => sz ≤ q) := by
  refine vx_ofWH (cc := cL_promote) (maxL := 6) (ret := (some .int)) (hh := [(0, 12, 15, 21), (0, 12, 19, 13), (0, 12, 23, 15)]) (by decide) rfl ?_
  intro p e s m args below meth c s₁ B hml hv
  obtain ⟨rfl, hsz, hP, hK, hD0, hQ⟩ := hv
  have hx := B.exec
  have hb := B.bytes
  have hr := B.returns
  have hts : ∀ w ∈ zG, w.before _ s = true := fun w h => atoms_spec (ws := ws_L_promote) B.pre w (List.mem_cons_of_mem _ h)
  have htab : c.exceptionTable.toList = tableOf [(0, 12, 15, 21), (0, 12, 19, 13), (0, 12, 23, 15)] := vx_table (x := yL_promote) B (atoms_spec (ws := ws_L_promote) B.pre _ List.mem_cons_self)
  have hown : s.vm.findClass RL = some m.cls := findClass_of_methodNamed B.named
  have hlocks := B.notSynchronized
  subst hsz
  have hD := hD0.self (sz := s.heap.size)
  generalize hAe : va_A [(h0, .inr (5, [.ref ac, w0, b0, .int dd])), (ac, .inr (0, [.int 0, ed, .int 0]))] s.heap.size = A at hD hQ
  have hA : ∀ q : Nat, s.heap.size ≤ q → A q := fun q h => by rw [← hAe]; exact Or.inr h
  have hS : va_S A s.heap s.heap [] := va_S.rf
  have hSn : va_S (fun q => s.heap.size ≤ q) s.heap s.heap [] := va_S.rf
  have hP : va_P (dC, dI) zc [(h0, .inr (5, [.ref ac, w0, b0, .int dd])), (ac, .inr (0, [.int 0, ed, .int 0]))] s.heap := hP
  have hl := lv_entry ([.ref h0, .int a1, .int a2, .int a3, .ref o]) (n := 6) (Nat.le_of_ble_eq_true rfl)
  rw [lg_entry_eq]
  generalize (lg_sl ([.ref h0, .int a1, .int a2, .int a3, .ref o]) ++ List.replicate (6 - (lg_sl ([.ref h0, .int a1, .int a2, .int a3, .ref o])).length) Slot.unset).toArray = ls at hl ⊢
  have hl : lv_has ls 6 [(0, .ref h0), (1, .int a1), (2, .int a2), (3, .int a3), (4, .ref o)] := hl
  refine lv_aload hx hb dL_promote_0 (lv_at hl 4 rfl) ?_
  refine lv_iconst (v := 0) hx hb dL_promote_2 (by decide) ?_
  refine lv_aload_n hx hb dL_promote_3 rfl (lv_at hl 0 rfl) ?_
  refine lv_iload_n hx hb dL_promote_4 rfl (lv_at hl 1 rfl) ?_
  refine lv_iload_n hx hb dL_promote_5 rfl (lv_at hl 2 rfl) ?_
  refine lv_iload_n hx hb dL_promote_6 rfl (lv_at hl 3 rfl) ?_
  refine vx_calli (vx_runV (As := [.int a1, .int a2, .int a3]) (rest := [.int 0, .ref o]) ⟨hx, hb, hml, hown, hts⟩ (c_promote l hst dC dI s.heap.size t h0 ac w0 b0 dd ed a1 a2 a3) (cwV 3 hts (zg_V kw_1009 kw_1010 kw_1011 kw_64 kw_1012) rfl rfl rfl (by decide +kernel) ⟨Nat.le_of_ble_eq_true rfl, Nat.le_of_ble_eq_true rfl⟩) ⟨zA_blind, va_recv hK hP (ci := 5) (q0 := 0) rfl rfl, zA_pre hP hD hS hK hQ hA [0, 1] rfl rfl (by decide) [] rfl⟩ rfl rfl hl.1 rfl (lv_room (Nat.le_of_ble_eq_true rfl)) dL_promote_7 ⟨zl_b rfl, zl_b rfl⟩) hSn (fun q _ h => h.elim) (fun q h => Nat.le_trans (Nat.le_refl _) h) (fun q _ h => Nat.le_trans (Nat.le_refl _) h) (fun E ce q9 u t9 H1 locs1 ht hvm hp9 hE hz1 hk1 hS1 hc1 hv1 hcl1 => ?_) (fun r u t9 H1 locs1 ht hvm hw hB hz1 hk1 hS1 => hw.elim)
  have hE : E = "java/lang/IndexOutOfBoundsException" := hE
  subst hE
  refine vx_catch (own := RL) (name := "java/lang/IndexOutOfBoundsException") hown [] _ _ htab (fun z hz => absurd hz List.not_mem_nil) rfl (by decide) (hts _ kw_631) (va_Nw.use rfl (zT_kI hQ.1)) hc1 hv1 hcl1 ?_
  refine W.eq (g2 := F0 m 15 ls [.ref q9]) rfl ?_
  generalize H1 = H at hS1 ⊢
  refine W.widen (k := 1) (n := 6) (zl_b rfl) (zl_b rfl) ?_
  refine lv_astore (lv' := [(5, .ref q9), (0, .ref h0), (1, .int a1), (2, .int a2), (3, .int a3), (4, .ref o)]) hx hb dL_promote_15 hl (by decide) rfl (fun ls hl => ?_)
  refine lv_iconst (v := 1) hx hb dL_promote_17 (by decide) ?_
  refine vx_ret ?_
  exact W.iret hx hb hr (fun t ht hW => ⟨⟨_, (), rfl, rfl, trivial⟩, zS_F hS1 ht⟩) hS1.2.2 dL_promote_18
set_option maxHeartbeats 4000000 in
set_option maxRecDepth 100000 in
/-- buy in the law: 1 -/
theorem lx_buy (l : Launch) (hst : l.stackTraces = false) (dC : Nat → ClassId) (dI : Nat → Nat → Nat) (sz t : Nat) (h0 ac o : Nat) (w0 b0 : Value) (dd : Int32) (ed : Value) (a1 a2 a3 : Int32) : vx_Met l yL_buy ws_L_buy ({ frames := 8, cells := 1, slots := 6, locals := 145 }) (zA dC dI [(h0, .inr (5, [.ref ac, w0, b0, .int dd])), (ac, .inr (0, [.int 0, ed, .int 0]))] [] sz t [.ref h0, .int a1, .int a2, .int a3, .ref o]) (va_Qi (fun r (_ : Unit) => r = 1) (fun _ _ => True) (fun q => sz ≤ q)) (vx_X (fun _ : Unit => False) (fun _ _ _ => True) (fun _ => False)) 1 6 (fun q => sz ≤ q) := by
  refine vx_ofWH (cc := cL_buy) (maxL := 6) (ret := (some .int)) (hh := [(0, 12, 15, 21), (0, 12, 19, 13), (0, 12, 23, 41), (0, 12, 27, 15)]) (by decide) rfl ?_
  intro p e s m args below meth c s₁ B hml hv
  obtain ⟨rfl, hsz, hP, hK, hD0, hQ⟩ := hv
  have hx := B.exec
  have hb := B.bytes
  have hr := B.returns
  have hts : ∀ w ∈ zG, w.before _ s = true := fun w h => atoms_spec (ws := ws_L_buy) B.pre w (List.mem_cons_of_mem _ h)
  have htab : c.exceptionTable.toList = tableOf [(0, 12, 15, 21), (0, 12, 19, 13), (0, 12, 23, 41), (0, 12, 27, 15)] := vx_table (x := yL_buy) B (atoms_spec (ws := ws_L_buy) B.pre _ List.mem_cons_self)
  have hown : s.vm.findClass RL = some m.cls := findClass_of_methodNamed B.named
  have hlocks := B.notSynchronized
  subst hsz
  have hD := hD0.self (sz := s.heap.size)
  generalize hAe : va_A [(h0, .inr (5, [.ref ac, w0, b0, .int dd])), (ac, .inr (0, [.int 0, ed, .int 0]))] s.heap.size = A at hD hQ
  have hA : ∀ q : Nat, s.heap.size ≤ q → A q := fun q h => by rw [← hAe]; exact Or.inr h
  have hS : va_S A s.heap s.heap [] := va_S.rf
  have hSn : va_S (fun q => s.heap.size ≤ q) s.heap s.heap [] := va_S.rf
  have hP : va_P (dC, dI) zc [(h0, .inr (5, [.ref ac, w0, b0, .int dd])), (ac, .inr (0, [.int 0, ed, .int 0]))] s.heap := hP
  have hl := lv_entry ([.ref h0, .int a1, .int a2, .int a3, .ref o]) (n := 6) (Nat.le_of_ble_eq_true rfl)
  rw [lg_entry_eq]
  generalize (lg_sl ([.ref h0, .int a1, .int a2, .int a3, .ref o]) ++ List.replicate (6 - (lg_sl ([.ref h0, .int a1, .int a2, .int a3, .ref o])).length) Slot.unset).toArray = ls at hl ⊢
  have hl : lv_has ls 6 [(0, .ref h0), (1, .int a1), (2, .int a2), (3, .int a3), (4, .ref o)] := hl
  refine lv_aload hx hb dL_buy_0 (lv_at hl 4 rfl) ?_
  refine lv_iconst (v := 0) hx hb dL_buy_2 (by decide) ?_
  refine lv_aload_n hx hb dL_buy_3 rfl (lv_at hl 0 rfl) ?_
  refine lv_iload_n hx hb dL_buy_4 rfl (lv_at hl 1 rfl) ?_
  refine lv_iload_n hx hb dL_buy_5 rfl (lv_at hl 2 rfl) ?_
  refine lv_iload_n hx hb dL_buy_6 rfl (lv_at hl 3 rfl) ?_
  refine vx_calli (vx_runV (As := [.int a1, .int a2, .int a3]) (rest := [.int 0, .ref o]) ⟨hx, hb, hml, hown, hts⟩ (c_buy l hst dC dI s.heap.size t h0 ac w0 b0 dd ed a1 a2 a3) (cwV 3 hts (zg_V kw_1025 kw_1026 kw_1027 kw_64 kw_1028) rfl rfl rfl (by decide +kernel) ⟨Nat.le_of_ble_eq_true rfl, Nat.le_of_ble_eq_true rfl⟩) ⟨zA_blind, va_recv hK hP (ci := 5) (q0 := 0) rfl rfl, zA_pre hP hD hS hK hQ hA [0, 1] rfl rfl (by decide) [] rfl⟩ rfl rfl hl.1 rfl (lv_room (Nat.le_of_ble_eq_true rfl)) dL_buy_7 ⟨zl_b rfl, zl_b rfl⟩) hSn (fun q _ h => h.elim) (fun q h => Nat.le_trans (Nat.le_refl _) h) (fun q _ h => Nat.le_trans (Nat.le_refl _) h) (fun E ce q9 u t9 H1 locs1 ht hvm hp9 hE hz1 hk1 hS1 hc1 hv1 hcl1 => ?_) (fun r u t9 H1 locs1 ht hvm hw hB hz1 hk1 hS1 => hw.elim)
  have hE : E = "java/lang/IndexOutOfBoundsException" := hE
  subst hE
  refine vx_catch (own := RL) (name := "java/lang/IndexOutOfBoundsException") hown [] _ _ htab (fun z hz => absurd hz List.not_mem_nil) rfl (by decide) (hts _ kw_631) (va_Nw.use rfl (zT_kI hQ.1)) hc1 hv1 hcl1 ?_
  refine W.eq (g2 := F0 m 15 ls [.ref q9]) rfl ?_
  generalize H1 = H at hS1 ⊢
  refine W.widen (k := 1) (n := 6) (zl_b rfl) (zl_b rfl) ?_
  refine lv_astore (lv' := [(5, .ref q9), (0, .ref h0), (1, .int a1), (2, .int a2), (3, .int a3), (4, .ref o)]) hx hb dL_buy_15 hl (by decide) rfl (fun ls hl => ?_)
  refine lv_iconst (v := 1) hx hb dL_buy_17 (by decide) ?_
  refine vx_ret ?_
  exact W.iret hx hb hr (fun t ht hW => ⟨⟨_, (), rfl, rfl, trivial⟩, zS_F hS1 ht⟩) hS1.2.2 dL_buy_18
set_option maxHeartbeats 4000000 in
set_option maxRecDepth 100000 in
/-- buyOn in the law: 1 -/
theorem lx_buyOn (l : Launch) (hst : l.stackTraces = false) (dC : Nat → ClassId) (dI : Nat → Nat → Nat) (sz t : Nat) (h0 ac o : Nat) (w0 b0 : Value) (dd : Int32) (ed : Value) (a1 a2 a3 a4 : Int32) : vx_Met l yL_buyOn ws_L_buyOn ({ frames := 8, cells := 1, slots := 6, locals := 146 }) (zA dC dI [(h0, .inr (5, [.ref ac, w0, b0, .int dd])), (ac, .inr (0, [.int 0, ed, .int 0]))] [] sz t [.ref h0, .int a1, .int a2, .int a3, .int a4, .ref o]) (va_Qi (fun r (_ : Unit) => r = 1) (fun _ _ => True) (fun q => sz ≤ q)) (vx_X (fun _ : Unit => False) (fun _ _ _ => True) (fun _ => False)) 1 6 (fun q => sz ≤ q) := by
  refine vx_ofWH (cc := cL_buyOn) (maxL := 7) (ret := (some .int)) (hh := [(0, 14, 17, 21), (0, 14, 21, 13), (0, 14, 25, 15)]) (by decide) rfl ?_
  intro p e s m args below meth c s₁ B hml hv
  obtain ⟨rfl, hsz, hP, hK, hD0, hQ⟩ := hv
  have hx := B.exec
  have hb := B.bytes
  have hr := B.returns
  have hts : ∀ w ∈ zG, w.before _ s = true := fun w h => atoms_spec (ws := ws_L_buyOn) B.pre w (List.mem_cons_of_mem _ h)
  have htab : c.exceptionTable.toList = tableOf [(0, 14, 17, 21), (0, 14, 21, 13), (0, 14, 25, 15)] := vx_table (x := yL_buyOn) B (atoms_spec (ws := ws_L_buyOn) B.pre _ List.mem_cons_self)
  have hown : s.vm.findClass RL = some m.cls := findClass_of_methodNamed B.named
  have hlocks := B.notSynchronized
  subst hsz
  have hD := hD0.self (sz := s.heap.size)
  generalize hAe : va_A [(h0, .inr (5, [.ref ac, w0, b0, .int dd])), (ac, .inr (0, [.int 0, ed, .int 0]))] s.heap.size = A at hD hQ
  have hA : ∀ q : Nat, s.heap.size ≤ q → A q := fun q h => by rw [← hAe]; exact Or.inr h
  have hS : va_S A s.heap s.heap [] := va_S.rf
  have hSn : va_S (fun q => s.heap.size ≤ q) s.heap s.heap [] := va_S.rf
  have hP : va_P (dC, dI) zc [(h0, .inr (5, [.ref ac, w0, b0, .int dd])), (ac, .inr (0, [.int 0, ed, .int 0]))] s.heap := hP
  have hl := lv_entry ([.ref h0, .int a1, .int a2, .int a3, .int a4, .ref o]) (n := 7) (Nat.le_of_ble_eq_true rfl)
  rw [lg_entry_eq]
  generalize (lg_sl ([.ref h0, .int a1, .int a2, .int a3, .int a4, .ref o]) ++ List.replicate (7 - (lg_sl ([.ref h0, .int a1, .int a2, .int a3, .int a4, .ref o])).length) Slot.unset).toArray = ls at hl ⊢
  have hl : lv_has ls 7 [(0, .ref h0), (1, .int a1), (2, .int a2), (3, .int a3), (4, .int a4), (5, .ref o)] := hl
  refine lv_aload hx hb dL_buyOn_0 (lv_at hl 5 rfl) ?_
  refine lv_iconst (v := 0) hx hb dL_buyOn_2 (by decide) ?_
  refine lv_aload_n hx hb dL_buyOn_3 rfl (lv_at hl 0 rfl) ?_
  refine lv_iload_n hx hb dL_buyOn_4 rfl (lv_at hl 1 rfl) ?_
  refine lv_iload_n hx hb dL_buyOn_5 rfl (lv_at hl 2 rfl) ?_
  refine lv_iload_n hx hb dL_buyOn_6 rfl (lv_at hl 3 rfl) ?_
  refine lv_iload hx hb dL_buyOn_7 (lv_at hl 4 rfl) ?_
  refine vx_calli (vx_runV (As := [.int a1, .int a2, .int a3, .int a4]) (rest := [.int 0, .ref o]) ⟨hx, hb, hml, hown, hts⟩ (c_buyOn l hst dC dI s.heap.size t h0 ac w0 b0 dd ed a1 a2 a3 a4) (cwV 4 hts (zg_V kw_1053 kw_1054 kw_1055 kw_64 kw_1056) rfl rfl rfl (by decide +kernel) ⟨Nat.le_of_ble_eq_true rfl, Nat.le_of_ble_eq_true rfl⟩) ⟨zA_blind, va_recv hK hP (ci := 5) (q0 := 0) rfl rfl, zA_pre hP hD hS hK hQ hA [0, 1] rfl rfl (by decide) [] rfl⟩ rfl rfl hl.1 rfl (lv_room (Nat.le_of_ble_eq_true rfl)) dL_buyOn_9 ⟨zl_b rfl, zl_b rfl⟩) hSn (fun q _ h => h.elim) (fun q h => Nat.le_trans (Nat.le_refl _) h) (fun q _ h => Nat.le_trans (Nat.le_refl _) h) (fun E ce q9 u t9 H1 locs1 ht hvm hp9 hE hz1 hk1 hS1 hc1 hv1 hcl1 => ?_) (fun r u t9 H1 locs1 ht hvm hw hB hz1 hk1 hS1 => hw.elim)
  have hE : E = "java/lang/IndexOutOfBoundsException" := hE
  subst hE
  refine vx_catch (own := RL) (name := "java/lang/IndexOutOfBoundsException") hown [] _ _ htab (fun z hz => absurd hz List.not_mem_nil) rfl (by decide) (hts _ kw_631) (va_Nw.use rfl (zT_kI hQ.1)) hc1 hv1 hcl1 ?_
  refine W.eq (g2 := F0 m 17 ls [.ref q9]) rfl ?_
  generalize H1 = H at hS1 ⊢
  refine W.widen (k := 1) (n := 6) (zl_b rfl) (zl_b rfl) ?_
  refine lv_astore (lv' := [(6, .ref q9), (0, .ref h0), (1, .int a1), (2, .int a2), (3, .int a3), (4, .int a4), (5, .ref o)]) hx hb dL_buyOn_17 hl (by decide) rfl (fun ls hl => ?_)
  refine lv_iconst (v := 1) hx hb dL_buyOn_19 (by decide) ?_
  refine vx_ret ?_
  exact W.iret hx hb hr (fun t ht hW => ⟨⟨_, (), rfl, rfl, trivial⟩, zS_F hS1 ht⟩) hS1.2.2 dL_buyOn_20
set_option maxHeartbeats 4000000 in
set_option maxRecDepth 100000 in
/-- abroad in the law: 1 -/
theorem lx_abroad (l : Launch) (hst : l.stackTraces = false) (dC : Nat → ClassId) (dI : Nat → Nat → Nat) (sz t : Nat) (h0 ac o : Nat) (w0 b0 : Value) (dd : Int32) (ed : Value) (a1 a2 a3 : Int32) : vx_Met l yL_abroad ws_L_abroad ({ frames := 8, cells := 1, slots := 6, locals := 146 }) (zA dC dI [(h0, .inr (5, [.ref ac, w0, b0, .int dd])), (ac, .inr (0, [.int 0, ed, .int 0]))] [] sz t [.ref h0, .int a1, .int a2, .int a3, .ref o]) (va_Qi (fun r (_ : Unit) => r = 1) (fun _ _ => True) (fun q => sz ≤ q)) (vx_X (fun _ : Unit => False) (fun _ _ _ => True) (fun _ => False)) 1 6 (fun q => sz ≤ q) := by
  refine vx_ofWH (cc := cL_abroad) (maxL := 6) (ret := (some .int)) (hh := [(0, 12, 15, 21), (0, 12, 19, 13), (0, 12, 23, 41), (0, 12, 27, 15)]) (by decide) rfl ?_
  intro p e s m args below meth c s₁ B hml hv
  obtain ⟨rfl, hsz, hP, hK, hD0, hQ⟩ := hv
  have hx := B.exec
  have hb := B.bytes
  have hr := B.returns
  have hts : ∀ w ∈ zG, w.before _ s = true := fun w h => atoms_spec (ws := ws_L_abroad) B.pre w (List.mem_cons_of_mem _ h)
  have htab : c.exceptionTable.toList = tableOf [(0, 12, 15, 21), (0, 12, 19, 13), (0, 12, 23, 41), (0, 12, 27, 15)] := vx_table (x := yL_abroad) B (atoms_spec (ws := ws_L_abroad) B.pre _ List.mem_cons_self)
  have hown : s.vm.findClass RL = some m.cls := findClass_of_methodNamed B.named
  have hlocks := B.notSynchronized
  subst hsz
  have hD := hD0.self (sz := s.heap.size)
  generalize hAe : va_A [(h0, .inr (5, [.ref ac, w0, b0, .int dd])), (ac, .inr (0, [.int 0, ed, .int 0]))] s.heap.size = A at hD hQ
  have hA : ∀ q : Nat, s.heap.size ≤ q → A q := fun q h => by rw [← hAe]; exact Or.inr h
  have hS : va_S A s.heap s.heap [] := va_S.rf
  have hSn : va_S (fun q => s.heap.size ≤ q) s.heap s.heap [] := va_S.rf
  have hP : va_P (dC, dI) zc [(h0, .inr (5, [.ref ac, w0, b0, .int dd])), (ac, .inr (0, [.int 0, ed, .int 0]))] s.heap := hP
  have hl := lv_entry ([.ref h0, .int a1, .int a2, .int a3, .ref o]) (n := 6) (Nat.le_of_ble_eq_true rfl)
  rw [lg_entry_eq]
  generalize (lg_sl ([.ref h0, .int a1, .int a2, .int a3, .ref o]) ++ List.replicate (6 - (lg_sl ([.ref h0, .int a1, .int a2, .int a3, .ref o])).length) Slot.unset).toArray = ls at hl ⊢
  have hl : lv_has ls 6 [(0, .ref h0), (1, .int a1), (2, .int a2), (3, .int a3), (4, .ref o)] := hl
  refine lv_aload hx hb dL_abroad_0 (lv_at hl 4 rfl) ?_
  refine lv_iconst (v := 0) hx hb dL_abroad_2 (by decide) ?_
  refine lv_aload_n hx hb dL_abroad_3 rfl (lv_at hl 0 rfl) ?_
  refine lv_iload_n hx hb dL_abroad_4 rfl (lv_at hl 1 rfl) ?_
  refine lv_iload_n hx hb dL_abroad_5 rfl (lv_at hl 2 rfl) ?_
  refine lv_iload_n hx hb dL_abroad_6 rfl (lv_at hl 3 rfl) ?_
  refine vx_calli (vx_runV (As := [.int a1, .int a2, .int a3]) (rest := [.int 0, .ref o]) ⟨hx, hb, hml, hown, hts⟩ (c_abroad l hst dC dI s.heap.size t h0 ac w0 b0 dd ed a1 a2 a3) (cwV 3 hts (zg_V kw_1060 kw_1061 kw_1062 kw_64 kw_1063) rfl rfl rfl (by decide +kernel) ⟨Nat.le_of_ble_eq_true rfl, Nat.le_of_ble_eq_true rfl⟩) ⟨zA_blind, va_recv hK hP (ci := 5) (q0 := 0) rfl rfl, zA_pre hP hD hS hK hQ hA [0, 1] rfl rfl (by decide) [] rfl⟩ rfl rfl hl.1 rfl (lv_room (Nat.le_of_ble_eq_true rfl)) dL_abroad_7 ⟨zl_b rfl, zl_b rfl⟩) hSn (fun q _ h => h.elim) (fun q h => Nat.le_trans (Nat.le_refl _) h) (fun q _ h => Nat.le_trans (Nat.le_refl _) h) (fun E ce q9 u t9 H1 locs1 ht hvm hp9 hE hz1 hk1 hS1 hc1 hv1 hcl1 => ?_) (fun r u t9 H1 locs1 ht hvm hw hB hz1 hk1 hS1 => hw.elim)
  have hE : E = "java/lang/IndexOutOfBoundsException" := hE
  subst hE
  refine vx_catch (own := RL) (name := "java/lang/IndexOutOfBoundsException") hown [] _ _ htab (fun z hz => absurd hz List.not_mem_nil) rfl (by decide) (hts _ kw_631) (va_Nw.use rfl (zT_kI hQ.1)) hc1 hv1 hcl1 ?_
  refine W.eq (g2 := F0 m 15 ls [.ref q9]) rfl ?_
  generalize H1 = H at hS1 ⊢
  refine W.widen (k := 1) (n := 6) (zl_b rfl) (zl_b rfl) ?_
  refine lv_astore (lv' := [(5, .ref q9), (0, .ref h0), (1, .int a1), (2, .int a2), (3, .int a3), (4, .ref o)]) hx hb dL_abroad_15 hl (by decide) rfl (fun ls hl => ?_)
  refine lv_iconst (v := 1) hx hb dL_abroad_17 (by decide) ?_
  refine vx_ret ?_
  exact W.iret hx hb hr (fun t ht hW => ⟨⟨_, (), rfl, rfl, trivial⟩, zS_F hS1 ht⟩) hS1.2.2 dL_abroad_18
set_option maxHeartbeats 4000000 in
set_option maxRecDepth 100000 in
/-- pay in the law: 1 -/
theorem lx_pay (l : Launch) (hst : l.stackTraces = false) (dC : Nat → ClassId) (dI : Nat → Nat → Nat) (sz t : Nat) (h0 ac o : Nat) (w0 b0 : Value) (dd : Int32) (ed : Value) (a1 a2 : Int32) : vx_Met l yL_pay ws_L_pay ({ frames := 8, cells := 1, slots := 6, locals := 143 }) (zA dC dI [(h0, .inr (5, [.ref ac, w0, b0, .int dd])), (ac, .inr (0, [.int 0, ed, .int 0]))] [] sz t [.ref h0, .int a1, .int a2, .ref o]) (va_Qi (fun r (_ : Unit) => r = 1) (fun _ _ => True) (fun q => sz ≤ q)) (vx_X (fun _ : Unit => False) (fun _ _ _ => True) (fun _ => False)) 1 6 (fun q => sz ≤ q) := by
  refine vx_ofWH (cc := cL_pay) (maxL := 5) (ret := (some .int)) (hh := [(0, 10, 13, 21), (0, 10, 17, 13), (0, 10, 21, 15)]) (by decide) rfl ?_
  intro p e s m args below meth c s₁ B hml hv
  obtain ⟨rfl, hsz, hP, hK, hD0, hQ⟩ := hv
  have hx := B.exec
  have hb := B.bytes
  have hr := B.returns
  have hts : ∀ w ∈ zG, w.before _ s = true := fun w h => atoms_spec (ws := ws_L_pay) B.pre w (List.mem_cons_of_mem _ h)
  have htab : c.exceptionTable.toList = tableOf [(0, 10, 13, 21), (0, 10, 17, 13), (0, 10, 21, 15)] := vx_table (x := yL_pay) B (atoms_spec (ws := ws_L_pay) B.pre _ List.mem_cons_self)
  have hown : s.vm.findClass RL = some m.cls := findClass_of_methodNamed B.named
  have hlocks := B.notSynchronized
  subst hsz
  have hD := hD0.self (sz := s.heap.size)
  generalize hAe : va_A [(h0, .inr (5, [.ref ac, w0, b0, .int dd])), (ac, .inr (0, [.int 0, ed, .int 0]))] s.heap.size = A at hD hQ
  have hA : ∀ q : Nat, s.heap.size ≤ q → A q := fun q h => by rw [← hAe]; exact Or.inr h
  have hS : va_S A s.heap s.heap [] := va_S.rf
  have hSn : va_S (fun q => s.heap.size ≤ q) s.heap s.heap [] := va_S.rf
  have hP : va_P (dC, dI) zc [(h0, .inr (5, [.ref ac, w0, b0, .int dd])), (ac, .inr (0, [.int 0, ed, .int 0]))] s.heap := hP
  have hl := lv_entry ([.ref h0, .int a1, .int a2, .ref o]) (n := 5) (Nat.le_of_ble_eq_true rfl)
  rw [lg_entry_eq]
  generalize (lg_sl ([.ref h0, .int a1, .int a2, .ref o]) ++ List.replicate (5 - (lg_sl ([.ref h0, .int a1, .int a2, .ref o])).length) Slot.unset).toArray = ls at hl ⊢
  have hl : lv_has ls 5 [(0, .ref h0), (1, .int a1), (2, .int a2), (3, .ref o)] := hl
  refine lv_aload_n hx hb dL_pay_0 rfl (lv_at hl 3 rfl) ?_
  refine lv_iconst (v := 0) hx hb dL_pay_1 (by decide) ?_
  refine lv_aload_n hx hb dL_pay_2 rfl (lv_at hl 0 rfl) ?_
  refine lv_iload_n hx hb dL_pay_3 rfl (lv_at hl 1 rfl) ?_
  refine lv_iload_n hx hb dL_pay_4 rfl (lv_at hl 2 rfl) ?_
  refine vx_calli (vx_runV (As := [.int a1, .int a2]) (rest := [.int 0, .ref o]) ⟨hx, hb, hml, hown, hts⟩ (c_pay l hst dC dI s.heap.size t h0 ac w0 b0 dd ed a1 a2) (cwV 2 hts (zg_V kw_1067 kw_1068 kw_1069 kw_64 kw_1070) rfl rfl rfl (by decide +kernel) ⟨Nat.le_of_ble_eq_true rfl, Nat.le_of_ble_eq_true rfl⟩) ⟨zA_blind, va_recv hK hP (ci := 5) (q0 := 0) rfl rfl, zA_pre hP hD hS hK hQ hA [0, 1] rfl rfl (by decide) [] rfl⟩ rfl rfl hl.1 rfl (lv_room (Nat.le_of_ble_eq_true rfl)) dL_pay_5 ⟨zl_b rfl, zl_b rfl⟩) hSn (fun q _ h => h.elim) (fun q h => Nat.le_trans (Nat.le_refl _) h) (fun q _ h => Nat.le_trans (Nat.le_refl _) h) (fun E ce q9 u t9 H1 locs1 ht hvm hp9 hE hz1 hk1 hS1 hc1 hv1 hcl1 => ?_) (fun r u t9 H1 locs1 ht hvm hw hB hz1 hk1 hS1 => hw.elim)
  have hE : E = "java/lang/IndexOutOfBoundsException" := hE
  subst hE
  refine vx_catch (own := RL) (name := "java/lang/IndexOutOfBoundsException") hown [] _ _ htab (fun z hz => absurd hz List.not_mem_nil) rfl (by decide) (hts _ kw_631) (va_Nw.use rfl (zT_kI hQ.1)) hc1 hv1 hcl1 ?_
  refine W.eq (g2 := F0 m 13 ls [.ref q9]) rfl ?_
  generalize H1 = H at hS1 ⊢
  refine W.widen (k := 1) (n := 6) (zl_b rfl) (zl_b rfl) ?_
  refine lv_astore (lv' := [(4, .ref q9), (0, .ref h0), (1, .int a1), (2, .int a2), (3, .ref o)]) hx hb dL_pay_13 hl (by decide) rfl (fun ls hl => ?_)
  refine lv_iconst (v := 1) hx hb dL_pay_15 (by decide) ?_
  refine vx_ret ?_
  exact W.iret hx hb hr (fun t ht hW => ⟨⟨_, (), rfl, rfl, trivial⟩, zS_F hS1 ht⟩) hS1.2.2 dL_pay_16
set_option maxHeartbeats 4000000 in
set_option maxRecDepth 100000 in
/-- returns in the law: 1 -/
theorem lx_returns (l : Launch) (hst : l.stackTraces = false) (dC : Nat → ClassId) (dI : Nat → Nat → Nat) (sz t : Nat) (h0 ac o : Nat) (w0 b0 : Value) (dd : Int32) (ed : Value) (a1 a2 : Int32) : vx_Met l yL_returns ws_L_returns ({ frames := 8, cells := 1, slots := 6, locals := 144 }) (zA dC dI [(h0, .inr (5, [.ref ac, w0, b0, .int dd])), (ac, .inr (0, [.int 0, ed, .int 0]))] [] sz t [.ref h0, .int a1, .int a2, .ref o]) (va_Qi (fun r (_ : Unit) => r = 1) (fun _ _ => True) (fun q => sz ≤ q)) (vx_X (fun _ : Unit => False) (fun _ _ _ => True) (fun _ => False)) 1 6 (fun q => sz ≤ q) := by
  refine vx_ofWH (cc := cL_returns) (maxL := 5) (ret := (some .int)) (hh := [(0, 10, 13, 21), (0, 10, 17, 41), (0, 10, 21, 15)]) (by decide) rfl ?_
  intro p e s m args below meth c s₁ B hml hv
  obtain ⟨rfl, hsz, hP, hK, hD0, hQ⟩ := hv
  have hx := B.exec
  have hb := B.bytes
  have hr := B.returns
  have hts : ∀ w ∈ zG, w.before _ s = true := fun w h => atoms_spec (ws := ws_L_returns) B.pre w (List.mem_cons_of_mem _ h)
  have htab : c.exceptionTable.toList = tableOf [(0, 10, 13, 21), (0, 10, 17, 41), (0, 10, 21, 15)] := vx_table (x := yL_returns) B (atoms_spec (ws := ws_L_returns) B.pre _ List.mem_cons_self)
  have hown : s.vm.findClass RL = some m.cls := findClass_of_methodNamed B.named
  have hlocks := B.notSynchronized
  subst hsz
  have hD := hD0.self (sz := s.heap.size)
  generalize hAe : va_A [(h0, .inr (5, [.ref ac, w0, b0, .int dd])), (ac, .inr (0, [.int 0, ed, .int 0]))] s.heap.size = A at hD hQ
  have hA : ∀ q : Nat, s.heap.size ≤ q → A q := fun q h => by rw [← hAe]; exact Or.inr h
  have hS : va_S A s.heap s.heap [] := va_S.rf
  have hSn : va_S (fun q => s.heap.size ≤ q) s.heap s.heap [] := va_S.rf
  have hP : va_P (dC, dI) zc [(h0, .inr (5, [.ref ac, w0, b0, .int dd])), (ac, .inr (0, [.int 0, ed, .int 0]))] s.heap := hP
  have hl := lv_entry ([.ref h0, .int a1, .int a2, .ref o]) (n := 5) (Nat.le_of_ble_eq_true rfl)
  rw [lg_entry_eq]
  generalize (lg_sl ([.ref h0, .int a1, .int a2, .ref o]) ++ List.replicate (5 - (lg_sl ([.ref h0, .int a1, .int a2, .ref o])).length) Slot.unset).toArray = ls at hl ⊢
  have hl : lv_has ls 5 [(0, .ref h0), (1, .int a1), (2, .int a2), (3, .ref o)] := hl
  refine lv_aload_n hx hb dL_returns_0 rfl (lv_at hl 3 rfl) ?_
  refine lv_iconst (v := 0) hx hb dL_returns_1 (by decide) ?_
  refine lv_aload_n hx hb dL_returns_2 rfl (lv_at hl 0 rfl) ?_
  refine lv_iload_n hx hb dL_returns_3 rfl (lv_at hl 1 rfl) ?_
  refine lv_iload_n hx hb dL_returns_4 rfl (lv_at hl 2 rfl) ?_
  refine vx_calli (vx_runV (As := [.int a1, .int a2]) (rest := [.int 0, .ref o]) ⟨hx, hb, hml, hown, hts⟩ (c_returns l hst dC dI s.heap.size t h0 ac w0 b0 dd ed a1 a2) (cwV 2 hts (zg_V kw_1074 kw_1075 kw_1076 kw_64 kw_1077) rfl rfl rfl (by decide +kernel) ⟨Nat.le_of_ble_eq_true rfl, Nat.le_of_ble_eq_true rfl⟩) ⟨zA_blind, va_recv hK hP (ci := 5) (q0 := 0) rfl rfl, zA_pre hP hD hS hK hQ hA [0, 1] rfl rfl (by decide) [] rfl⟩ rfl rfl hl.1 rfl (lv_room (Nat.le_of_ble_eq_true rfl)) dL_returns_5 ⟨zl_b rfl, zl_b rfl⟩) hSn (fun q _ h => h.elim) (fun q h => Nat.le_trans (Nat.le_refl _) h) (fun q _ h => Nat.le_trans (Nat.le_refl _) h) (fun E ce q9 u t9 H1 locs1 ht hvm hp9 hE hz1 hk1 hS1 hc1 hv1 hcl1 => ?_) (fun r u t9 H1 locs1 ht hvm hw hB hz1 hk1 hS1 => hw.elim)
  have hE : E = "java/lang/IndexOutOfBoundsException" := hE
  subst hE
  refine vx_catch (own := RL) (name := "java/lang/IndexOutOfBoundsException") hown [] _ _ htab (fun z hz => absurd hz List.not_mem_nil) rfl (by decide) (hts _ kw_631) (va_Nw.use rfl (zT_kI hQ.1)) hc1 hv1 hcl1 ?_
  refine W.eq (g2 := F0 m 13 ls [.ref q9]) rfl ?_
  generalize H1 = H at hS1 ⊢
  refine W.widen (k := 1) (n := 6) (zl_b rfl) (zl_b rfl) ?_
  refine lv_astore (lv' := [(4, .ref q9), (0, .ref h0), (1, .int a1), (2, .int a2), (3, .ref o)]) hx hb dL_returns_13 hl (by decide) rfl (fun ls hl => ?_)
  refine lv_iconst (v := 1) hx hb dL_returns_15 (by decide) ?_
  refine vx_ret ?_
  exact W.iret hx hb hr (fun t ht hW => ⟨⟨_, (), rfl, rfl, trivial⟩, zS_F hS1 ht⟩) hS1.2.2 dL_returns_16
set_option maxHeartbeats 4000000 in
set_option maxRecDepth 100000 in
/-- dispute in the law: 1 -/
theorem lx_dispute (l : Launch) (hst : l.stackTraces = false) (dC : Nat → ClassId) (dI : Nat → Nat → Nat) (sz t : Nat) (h0 ac o : Nat) (w0 b0 : Value) (dd : Int32) (ed : Value) (a1 a2 : Int32) : vx_Met l yL_dispute ws_L_dispute ({ frames := 8, cells := 1, slots := 6, locals := 144 }) (zA dC dI [(h0, .inr (5, [.ref ac, w0, b0, .int dd])), (ac, .inr (0, [.int 0, ed, .int 0]))] [] sz t [.ref h0, .int a1, .int a2, .ref o]) (va_Qi (fun r (_ : Unit) => r = 1) (fun _ _ => True) (fun q => sz ≤ q)) (vx_X (fun _ : Unit => False) (fun _ _ _ => True) (fun _ => False)) 1 6 (fun q => sz ≤ q) := by
  refine vx_ofWH (cc := cL_dispute) (maxL := 5) (ret := (some .int)) (hh := [(0, 10, 13, 21), (0, 10, 17, 41)]) (by decide) rfl ?_
  intro p e s m args below meth c s₁ B hml hv
  obtain ⟨rfl, hsz, hP, hK, hD0, hQ⟩ := hv
  have hx := B.exec
  have hb := B.bytes
  have hr := B.returns
  have hts : ∀ w ∈ zG, w.before _ s = true := fun w h => atoms_spec (ws := ws_L_dispute) B.pre w (List.mem_cons_of_mem _ h)
  have htab : c.exceptionTable.toList = tableOf [(0, 10, 13, 21), (0, 10, 17, 41)] := vx_table (x := yL_dispute) B (atoms_spec (ws := ws_L_dispute) B.pre _ List.mem_cons_self)
  have hown : s.vm.findClass RL = some m.cls := findClass_of_methodNamed B.named
  have hlocks := B.notSynchronized
  subst hsz
  have hD := hD0.self (sz := s.heap.size)
  generalize hAe : va_A [(h0, .inr (5, [.ref ac, w0, b0, .int dd])), (ac, .inr (0, [.int 0, ed, .int 0]))] s.heap.size = A at hD hQ
  have hA : ∀ q : Nat, s.heap.size ≤ q → A q := fun q h => by rw [← hAe]; exact Or.inr h
  have hS : va_S A s.heap s.heap [] := va_S.rf
  have hSn : va_S (fun q => s.heap.size ≤ q) s.heap s.heap [] := va_S.rf
  have hP : va_P (dC, dI) zc [(h0, .inr (5, [.ref ac, w0, b0, .int dd])), (ac, .inr (0, [.int 0, ed, .int 0]))] s.heap := hP
  have hl := lv_entry ([.ref h0, .int a1, .int a2, .ref o]) (n := 5) (Nat.le_of_ble_eq_true rfl)
  rw [lg_entry_eq]
  generalize (lg_sl ([.ref h0, .int a1, .int a2, .ref o]) ++ List.replicate (5 - (lg_sl ([.ref h0, .int a1, .int a2, .ref o])).length) Slot.unset).toArray = ls at hl ⊢
  have hl : lv_has ls 5 [(0, .ref h0), (1, .int a1), (2, .int a2), (3, .ref o)] := hl
  refine lv_aload_n hx hb dL_dispute_0 rfl (lv_at hl 3 rfl) ?_
  refine lv_iconst (v := 0) hx hb dL_dispute_1 (by decide) ?_
  refine lv_aload_n hx hb dL_dispute_2 rfl (lv_at hl 0 rfl) ?_
  refine lv_iload_n hx hb dL_dispute_3 rfl (lv_at hl 1 rfl) ?_
  refine lv_iload_n hx hb dL_dispute_4 rfl (lv_at hl 2 rfl) ?_
  refine vx_calli (vx_runV (As := [.int a1, .int a2]) (rest := [.int 0, .ref o]) ⟨hx, hb, hml, hown, hts⟩ (c_dispute l hst dC dI s.heap.size t h0 ac w0 b0 dd ed a1 a2) (cwV 2 hts (zg_V kw_1088 kw_1089 kw_1090 kw_64 kw_1091) rfl rfl rfl (by decide +kernel) ⟨Nat.le_of_ble_eq_true rfl, Nat.le_of_ble_eq_true rfl⟩) ⟨zA_blind, va_recv hK hP (ci := 5) (q0 := 0) rfl rfl, zA_pre hP hD hS hK hQ hA [0, 1] rfl rfl (by decide) [] rfl⟩ rfl rfl hl.1 rfl (lv_room (Nat.le_of_ble_eq_true rfl)) dL_dispute_5 ⟨zl_b rfl, zl_b rfl⟩) hSn (fun q _ h => h.elim) (fun q h => Nat.le_trans (Nat.le_refl _) h) (fun q _ h => Nat.le_trans (Nat.le_refl _) h) (fun E ce q9 u t9 H1 locs1 ht hvm hp9 hE hz1 hk1 hS1 hc1 hv1 hcl1 => ?_) (fun r u t9 H1 locs1 ht hvm hw hB hz1 hk1 hS1 => hw.elim)
  have hE : E = "java/lang/IndexOutOfBoundsException" := hE
  subst hE
  refine vx_catch (own := RL) (name := "java/lang/IndexOutOfBoundsException") hown [] _ _ htab (fun z hz => absurd hz List.not_mem_nil) rfl (by decide) (hts _ kw_631) (va_Nw.use rfl (zT_kI hQ.1)) hc1 hv1 hcl1 ?_
  refine W.eq (g2 := F0 m 13 ls [.ref q9]) rfl ?_
  generalize H1 = H at hS1 ⊢
  refine W.widen (k := 1) (n := 6) (zl_b rfl) (zl_b rfl) ?_
  refine lv_astore (lv' := [(4, .ref q9), (0, .ref h0), (1, .int a1), (2, .int a2), (3, .ref o)]) hx hb dL_dispute_13 hl (by decide) rfl (fun ls hl => ?_)
  refine lv_iconst (v := 1) hx hb dL_dispute_15 (by decide) ?_
  refine vx_ret ?_
  exact W.iret hx hb hr (fun t ht hW => ⟨⟨_, (), rfl, rfl, trivial⟩, zS_F hS1 ht⟩) hS1.2.2 dL_dispute_16
set_option maxHeartbeats 4000000 in
set_option maxRecDepth 100000 in
/-- settle in the law: 1 -/
theorem lx_settle (l : Launch) (hst : l.stackTraces = false) (dC : Nat → ClassId) (dI : Nat → Nat → Nat) (sz t : Nat) (h0 ac o : Nat) (w0 b0 : Value) (dd : Int32) (ed : Value) (a1 a2 a3 : Int32) : vx_Met l yL_settle ws_L_settle ({ frames := 8, cells := 1, slots := 6, locals := 145 }) (zA dC dI [(h0, .inr (5, [.ref ac, w0, b0, .int dd])), (ac, .inr (0, [.int 0, ed, .int 0]))] [] sz t [.ref h0, .int a1, .int a2, .int a3, .ref o]) (va_Qi (fun r (_ : Unit) => r = 1) (fun _ _ => True) (fun q => sz ≤ q)) (vx_X (fun _ : Unit => False) (fun _ _ _ => True) (fun _ => False)) 1 6 (fun q => sz ≤ q) := by
  refine vx_ofWH (cc := cL_settle) (maxL := 6) (ret := (some .int)) (hh := [(0, 11, 14, 21), (0, 11, 18, 41)]) (by decide) rfl ?_
  intro p e s m args below meth c s₁ B hml hv
  obtain ⟨rfl, hsz, hP, hK, hD0, hQ⟩ := hv
  have hx := B.exec
  have hb := B.bytes
  have hr := B.returns
  have hts : ∀ w ∈ zG, w.before _ s = true := fun w h => atoms_spec (ws := ws_L_settle) B.pre w (List.mem_cons_of_mem _ h)
  have htab : c.exceptionTable.toList = tableOf [(0, 11, 14, 21), (0, 11, 18, 41)] := vx_table (x := yL_settle) B (atoms_spec (ws := ws_L_settle) B.pre _ List.mem_cons_self)
  have hown : s.vm.findClass RL = some m.cls := findClass_of_methodNamed B.named
  have hlocks := B.notSynchronized
  subst hsz
  have hD := hD0.self (sz := s.heap.size)
  generalize hAe : va_A [(h0, .inr (5, [.ref ac, w0, b0, .int dd])), (ac, .inr (0, [.int 0, ed, .int 0]))] s.heap.size = A at hD hQ
  have hA : ∀ q : Nat, s.heap.size ≤ q → A q := fun q h => by rw [← hAe]; exact Or.inr h
  have hS : va_S A s.heap s.heap [] := va_S.rf
  have hSn : va_S (fun q => s.heap.size ≤ q) s.heap s.heap [] := va_S.rf
  have hP : va_P (dC, dI) zc [(h0, .inr (5, [.ref ac, w0, b0, .int dd])), (ac, .inr (0, [.int 0, ed, .int 0]))] s.heap := hP
  have hl := lv_entry ([.ref h0, .int a1, .int a2, .int a3, .ref o]) (n := 6) (Nat.le_of_ble_eq_true rfl)
  rw [lg_entry_eq]
  generalize (lg_sl ([.ref h0, .int a1, .int a2, .int a3, .ref o]) ++ List.replicate (6 - (lg_sl ([.ref h0, .int a1, .int a2, .int a3, .ref o])).length) Slot.unset).toArray = ls at hl ⊢
  have hl : lv_has ls 6 [(0, .ref h0), (1, .int a1), (2, .int a2), (3, .int a3), (4, .ref o)] := hl
  refine lv_aload hx hb dL_settle_0 (lv_at hl 4 rfl) ?_
  refine lv_iconst (v := 0) hx hb dL_settle_2 (by decide) ?_
  refine lv_aload_n hx hb dL_settle_3 rfl (lv_at hl 0 rfl) ?_
  refine lv_iload_n hx hb dL_settle_4 rfl (lv_at hl 1 rfl) ?_
  refine lv_iload_n hx hb dL_settle_5 rfl (lv_at hl 2 rfl) ?_
  refine lv_iload_n hx hb dL_settle_6 rfl (lv_at hl 3 rfl) ?_
  refine vx_calll (vx_runV (As := [.int a1, .int a2, .int a3]) (rest := [.int 0, .ref o]) ⟨hx, hb, hml, hown, hts⟩ (c_settle l hst dC dI s.heap.size t h0 ac w0 b0 dd ed a1 a2 a3) (cwV 3 hts (zg_V kw_1103 kw_1104 kw_1105 kw_64 kw_1106) rfl rfl rfl (by decide +kernel) ⟨Nat.le_of_ble_eq_true rfl, Nat.le_of_ble_eq_true rfl⟩) ⟨zA_blind, va_recv hK hP (ci := 5) (q0 := 0) rfl rfl, zA_pre hP hD hS hK hQ hA [0, 1] rfl rfl (by decide) [] rfl⟩ rfl rfl hl.1 rfl (lv_room (Nat.le_of_ble_eq_true rfl)) dL_settle_7 ⟨zl_b rfl, zl_b rfl⟩) hSn (fun q _ h => h.elim) (fun q h => Nat.le_trans (Nat.le_refl _) h) (fun q _ h => Nat.le_trans (Nat.le_refl _) h) (fun E ce q9 u t9 H1 locs1 ht hvm hp9 hE hz1 hk1 hS1 hc1 hv1 hcl1 => ?_) (fun r u t9 H1 locs1 ht hvm hw hB hz1 hk1 hS1 => hw.elim)
  have hE : E = "java/lang/IndexOutOfBoundsException" := hE
  subst hE
  refine vx_catch (own := RL) (name := "java/lang/IndexOutOfBoundsException") hown [] _ _ htab (fun z hz => absurd hz List.not_mem_nil) rfl (by decide) (hts _ kw_631) (va_Nw.use rfl (zT_kI hQ.1)) hc1 hv1 hcl1 ?_
  refine W.eq (g2 := F0 m 14 ls [.ref q9]) rfl ?_
  generalize H1 = H at hS1 ⊢
  refine W.widen (k := 1) (n := 6) (zl_b rfl) (zl_b rfl) ?_
  refine lv_astore (lv' := [(5, .ref q9), (0, .ref h0), (1, .int a1), (2, .int a2), (3, .int a3), (4, .ref o)]) hx hb dL_settle_14 hl (by decide) rfl (fun ls hl => ?_)
  refine lv_iconst (v := 1) hx hb dL_settle_16 (by decide) ?_
  refine vx_ret ?_
  exact W.iret hx hb hr (fun t ht hW => ⟨⟨_, (), rfl, rfl, trivial⟩, zS_F hS1 ht⟩) hS1.2.2 dL_settle_17
set_option maxHeartbeats 4000000 in
set_option maxRecDepth 100000 in
/-- reverse in the law: 1 -/
theorem lx_reverse (l : Launch) (hst : l.stackTraces = false) (dC : Nat → ClassId) (dI : Nat → Nat → Nat) (sz t : Nat) (h0 ac o : Nat) (w0 b0 : Value) (dd : Int32) (ed : Value) (a1 a2 : Int32) : vx_Met l yL_reverse ws_L_reverse ({ frames := 8, cells := 1, slots := 6, locals := 144 }) (zA dC dI [(h0, .inr (5, [.ref ac, w0, b0, .int dd])), (ac, .inr (0, [.int 0, ed, .int 0]))] [] sz t [.ref h0, .int a1, .int a2, .ref o]) (va_Qi (fun r (_ : Unit) => r = 1) (fun _ _ => True) (fun q => sz ≤ q)) (vx_X (fun _ : Unit => False) (fun _ _ _ => True) (fun _ => False)) 1 6 (fun q => sz ≤ q) := by
  refine vx_ofWH (cc := cL_reverse) (maxL := 5) (ret := (some .int)) (hh := [(0, 9, 12, 21), (0, 9, 16, 41)]) (by decide) rfl ?_
  intro p e s m args below meth c s₁ B hml hv
  obtain ⟨rfl, hsz, hP, hK, hD0, hQ⟩ := hv
  have hx := B.exec
  have hb := B.bytes
  have hr := B.returns
  have hts : ∀ w ∈ zG, w.before _ s = true := fun w h => atoms_spec (ws := ws_L_reverse) B.pre w (List.mem_cons_of_mem _ h)
  have htab : c.exceptionTable.toList = tableOf [(0, 9, 12, 21), (0, 9, 16, 41)] := vx_table (x := yL_reverse) B (atoms_spec (ws := ws_L_reverse) B.pre _ List.mem_cons_self)
  have hown : s.vm.findClass RL = some m.cls := findClass_of_methodNamed B.named
  have hlocks := B.notSynchronized
  subst hsz
  have hD := hD0.self (sz := s.heap.size)
  generalize hAe : va_A [(h0, .inr (5, [.ref ac, w0, b0, .int dd])), (ac, .inr (0, [.int 0, ed, .int 0]))] s.heap.size = A at hD hQ
  have hA : ∀ q : Nat, s.heap.size ≤ q → A q := fun q h => by rw [← hAe]; exact Or.inr h
  have hS : va_S A s.heap s.heap [] := va_S.rf
  have hSn : va_S (fun q => s.heap.size ≤ q) s.heap s.heap [] := va_S.rf
  have hP : va_P (dC, dI) zc [(h0, .inr (5, [.ref ac, w0, b0, .int dd])), (ac, .inr (0, [.int 0, ed, .int 0]))] s.heap := hP
  have hl := lv_entry ([.ref h0, .int a1, .int a2, .ref o]) (n := 5) (Nat.le_of_ble_eq_true rfl)
  rw [lg_entry_eq]
  generalize (lg_sl ([.ref h0, .int a1, .int a2, .ref o]) ++ List.replicate (5 - (lg_sl ([.ref h0, .int a1, .int a2, .ref o])).length) Slot.unset).toArray = ls at hl ⊢
  have hl : lv_has ls 5 [(0, .ref h0), (1, .int a1), (2, .int a2), (3, .ref o)] := hl
  refine lv_aload_n hx hb dL_reverse_0 rfl (lv_at hl 3 rfl) ?_
  refine lv_iconst (v := 0) hx hb dL_reverse_1 (by decide) ?_
  refine lv_aload_n hx hb dL_reverse_2 rfl (lv_at hl 0 rfl) ?_
  refine lv_iload_n hx hb dL_reverse_3 rfl (lv_at hl 1 rfl) ?_
  refine lv_iload_n hx hb dL_reverse_4 rfl (lv_at hl 2 rfl) ?_
  refine vx_calll (vx_runV (As := [.int a1, .int a2]) (rest := [.int 0, .ref o]) ⟨hx, hb, hml, hown, hts⟩ (c_reverse l hst dC dI s.heap.size t h0 ac w0 b0 dd ed a1 a2) (cwV 2 hts (zg_V kw_1111 kw_1112 kw_1113 kw_64 kw_1114) rfl rfl rfl (by decide +kernel) ⟨Nat.le_of_ble_eq_true rfl, Nat.le_of_ble_eq_true rfl⟩) ⟨zA_blind, va_recv hK hP (ci := 5) (q0 := 0) rfl rfl, zA_pre hP hD hS hK hQ hA [0, 1] rfl rfl (by decide) [] rfl⟩ rfl rfl hl.1 rfl (lv_room (Nat.le_of_ble_eq_true rfl)) dL_reverse_5 ⟨zl_b rfl, zl_b rfl⟩) hSn (fun q _ h => h.elim) (fun q h => Nat.le_trans (Nat.le_refl _) h) (fun q _ h => Nat.le_trans (Nat.le_refl _) h) (fun E ce q9 u t9 H1 locs1 ht hvm hp9 hE hz1 hk1 hS1 hc1 hv1 hcl1 => ?_) (fun r u t9 H1 locs1 ht hvm hw hB hz1 hk1 hS1 => hw.elim)
  have hE : E = "java/lang/IndexOutOfBoundsException" := hE
  subst hE
  refine vx_catch (own := RL) (name := "java/lang/IndexOutOfBoundsException") hown [] _ _ htab (fun z hz => absurd hz List.not_mem_nil) rfl (by decide) (hts _ kw_631) (va_Nw.use rfl (zT_kI hQ.1)) hc1 hv1 hcl1 ?_
  refine W.eq (g2 := F0 m 12 ls [.ref q9]) rfl ?_
  generalize H1 = H at hS1 ⊢
  refine W.widen (k := 1) (n := 6) (zl_b rfl) (zl_b rfl) ?_
  refine lv_astore (lv' := [(4, .ref q9), (0, .ref h0), (1, .int a1), (2, .int a2), (3, .ref o)]) hx hb dL_reverse_12 hl (by decide) rfl (fun ls hl => ?_)
  refine lv_iconst (v := 1) hx hb dL_reverse_14 (by decide) ?_
  refine vx_ret ?_
  exact W.iret hx hb hr (fun t ht hW => ⟨⟨_, (), rfl, rfl, trivial⟩, zS_F hS1 ht⟩) hS1.2.2 dL_reverse_15
set_option maxHeartbeats 4000000 in
set_option maxRecDepth 100000 in
/-- plan in the law: 1 -/
theorem lx_plan (l : Launch) (hst : l.stackTraces = false) (dC : Nat → ClassId) (dI : Nat → Nat → Nat) (sz t : Nat) (h0 ac o : Nat) (w0 b0 : Value) (dd : Int32) (ed : Value) (a1 : Int32) : vx_Met l yL_plan ws_L_plan ({ frames := 8, cells := 1, slots := 6, locals := 142 }) (zA dC dI [(h0, .inr (5, [.ref ac, w0, b0, .int dd])), (ac, .inr (0, [.int 0, ed, .int 0]))] [] sz t [.ref h0, .int a1, .ref o]) (va_Qi (fun r (_ : Unit) => r = 1) (fun _ _ => True) (fun q => sz ≤ q)) (vx_X (fun _ : Unit => False) (fun _ _ _ => True) (fun _ => False)) 1 6 (fun q => sz ≤ q) := by
  refine vx_ofWH (cc := cL_plan) (maxL := 4) (ret := (some .int)) (hh := [(0, 9, 12, 21), (0, 9, 15, 41), (0, 9, 18, 15)]) (by decide) rfl ?_
  intro p e s m args below meth c s₁ B hml hv
  obtain ⟨rfl, hsz, hP, hK, hD0, hQ⟩ := hv
  have hx := B.exec
  have hb := B.bytes
  have hr := B.returns
  have hts : ∀ w ∈ zG, w.before _ s = true := fun w h => atoms_spec (ws := ws_L_plan) B.pre w (List.mem_cons_of_mem _ h)
  have htab : c.exceptionTable.toList = tableOf [(0, 9, 12, 21), (0, 9, 15, 41), (0, 9, 18, 15)] := vx_table (x := yL_plan) B (atoms_spec (ws := ws_L_plan) B.pre _ List.mem_cons_self)
  have hown : s.vm.findClass RL = some m.cls := findClass_of_methodNamed B.named
  have hlocks := B.notSynchronized
  subst hsz
  have hD := hD0.self (sz := s.heap.size)
  generalize hAe : va_A [(h0, .inr (5, [.ref ac, w0, b0, .int dd])), (ac, .inr (0, [.int 0, ed, .int 0]))] s.heap.size = A at hD hQ
  have hA : ∀ q : Nat, s.heap.size ≤ q → A q := fun q h => by rw [← hAe]; exact Or.inr h
  have hS : va_S A s.heap s.heap [] := va_S.rf
  have hSn : va_S (fun q => s.heap.size ≤ q) s.heap s.heap [] := va_S.rf
  have hP : va_P (dC, dI) zc [(h0, .inr (5, [.ref ac, w0, b0, .int dd])), (ac, .inr (0, [.int 0, ed, .int 0]))] s.heap := hP
  have hl := lv_entry ([.ref h0, .int a1, .ref o]) (n := 4) (Nat.le_of_ble_eq_true rfl)
  rw [lg_entry_eq]
  generalize (lg_sl ([.ref h0, .int a1, .ref o]) ++ List.replicate (4 - (lg_sl ([.ref h0, .int a1, .ref o])).length) Slot.unset).toArray = ls at hl ⊢
  have hl : lv_has ls 4 [(0, .ref h0), (1, .int a1), (2, .ref o)] := hl
  refine lv_aload_n hx hb dL_plan_0 rfl (lv_at hl 2 rfl) ?_
  refine lv_iconst (v := 0) hx hb dL_plan_1 (by decide) ?_
  refine lv_aload_n hx hb dL_plan_2 rfl (lv_at hl 0 rfl) ?_
  refine lv_iload_n hx hb dL_plan_3 rfl (lv_at hl 1 rfl) ?_
  refine vx_calli (vx_runV (As := [.int a1]) (rest := [.int 0, .ref o]) ⟨hx, hb, hml, hown, hts⟩ (c_plan l hst dC dI s.heap.size t h0 ac w0 b0 dd ed a1) (cwV 1 hts (zg_V kw_1118 kw_1119 kw_1120 kw_64 kw_1121) rfl rfl rfl (by decide +kernel) ⟨Nat.le_of_ble_eq_true rfl, Nat.le_of_ble_eq_true rfl⟩) ⟨zA_blind, va_recv hK hP (ci := 5) (q0 := 0) rfl rfl, zA_pre hP hD hS hK hQ hA [0, 1] rfl rfl (by decide) [] rfl⟩ rfl rfl hl.1 rfl (lv_room (Nat.le_of_ble_eq_true rfl)) dL_plan_4 ⟨zl_b rfl, zl_b rfl⟩) hSn (fun q _ h => h.elim) (fun q h => Nat.le_trans (Nat.le_refl _) h) (fun q _ h => Nat.le_trans (Nat.le_refl _) h) (fun E ce q9 u t9 H1 locs1 ht hvm hp9 hE hz1 hk1 hS1 hc1 hv1 hcl1 => ?_) (fun r u t9 H1 locs1 ht hvm hw hB hz1 hk1 hS1 => hw.elim)
  have hE : E = "java/lang/IndexOutOfBoundsException" := hE
  subst hE
  refine vx_catch (own := RL) (name := "java/lang/IndexOutOfBoundsException") hown [] _ _ htab (fun z hz => absurd hz List.not_mem_nil) rfl (by decide) (hts _ kw_631) (va_Nw.use rfl (zT_kI hQ.1)) hc1 hv1 hcl1 ?_
  refine W.eq (g2 := F0 m 12 ls [.ref q9]) rfl ?_
  generalize H1 = H at hS1 ⊢
  refine W.widen (k := 1) (n := 6) (zl_b rfl) (zl_b rfl) ?_
  refine lv_astore_n (lv' := [(3, .ref q9), (0, .ref h0), (1, .int a1), (2, .ref o)]) hx hb dL_plan_12 rfl hl (by decide) rfl (fun ls hl => ?_)
  refine lv_iconst (v := 1) hx hb dL_plan_13 (by decide) ?_
  refine vx_ret ?_
  exact W.iret hx hb hr (fun t ht hW => ⟨⟨_, (), rfl, rfl, trivial⟩, zS_F hS1 ht⟩) hS1.2.2 dL_plan_14
set_option maxHeartbeats 4000000 in
set_option maxRecDepth 100000 in
/-- redeem in the law: 1 -/
theorem lx_redeem (l : Launch) (hst : l.stackTraces = false) (dC : Nat → ClassId) (dI : Nat → Nat → Nat) (sz t : Nat) (h0 ac o : Nat) (w0 b0 : Value) (dd : Int32) (ed : Value) (a1 a2 : Int32) : vx_Met l yL_redeem ws_L_redeem ({ frames := 8, cells := 1, slots := 6, locals := 143 }) (zA dC dI [(h0, .inr (5, [.ref ac, w0, b0, .int dd])), (ac, .inr (0, [.int 0, ed, .int 0]))] [] sz t [.ref h0, .int a1, .int a2, .ref o]) (va_Qi (fun r (_ : Unit) => r = 1) (fun _ _ => True) (fun q => sz ≤ q)) (vx_X (fun _ : Unit => False) (fun _ _ _ => True) (fun _ => False)) 1 6 (fun q => sz ≤ q) := by
  refine vx_ofWH (cc := cL_redeem) (maxL := 5) (ret := (some .int)) (hh := [(0, 10, 13, 21), (0, 10, 17, 13), (0, 10, 21, 41), (0, 10, 25, 15)]) (by decide) rfl ?_
  intro p e s m args below meth c s₁ B hml hv
  obtain ⟨rfl, hsz, hP, hK, hD0, hQ⟩ := hv
  have hx := B.exec
  have hb := B.bytes
  have hr := B.returns
  have hts : ∀ w ∈ zG, w.before _ s = true := fun w h => atoms_spec (ws := ws_L_redeem) B.pre w (List.mem_cons_of_mem _ h)
  have htab : c.exceptionTable.toList = tableOf [(0, 10, 13, 21), (0, 10, 17, 13), (0, 10, 21, 41), (0, 10, 25, 15)] := vx_table (x := yL_redeem) B (atoms_spec (ws := ws_L_redeem) B.pre _ List.mem_cons_self)
  have hown : s.vm.findClass RL = some m.cls := findClass_of_methodNamed B.named
  have hlocks := B.notSynchronized
  subst hsz
  have hD := hD0.self (sz := s.heap.size)
  generalize hAe : va_A [(h0, .inr (5, [.ref ac, w0, b0, .int dd])), (ac, .inr (0, [.int 0, ed, .int 0]))] s.heap.size = A at hD hQ
  have hA : ∀ q : Nat, s.heap.size ≤ q → A q := fun q h => by rw [← hAe]; exact Or.inr h
  have hS : va_S A s.heap s.heap [] := va_S.rf
  have hSn : va_S (fun q => s.heap.size ≤ q) s.heap s.heap [] := va_S.rf
  have hP : va_P (dC, dI) zc [(h0, .inr (5, [.ref ac, w0, b0, .int dd])), (ac, .inr (0, [.int 0, ed, .int 0]))] s.heap := hP
  have hl := lv_entry ([.ref h0, .int a1, .int a2, .ref o]) (n := 5) (Nat.le_of_ble_eq_true rfl)
  rw [lg_entry_eq]
  generalize (lg_sl ([.ref h0, .int a1, .int a2, .ref o]) ++ List.replicate (5 - (lg_sl ([.ref h0, .int a1, .int a2, .ref o])).length) Slot.unset).toArray = ls at hl ⊢
  have hl : lv_has ls 5 [(0, .ref h0), (1, .int a1), (2, .int a2), (3, .ref o)] := hl
  refine lv_aload_n hx hb dL_redeem_0 rfl (lv_at hl 3 rfl) ?_
  refine lv_iconst (v := 0) hx hb dL_redeem_1 (by decide) ?_
  refine lv_aload_n hx hb dL_redeem_2 rfl (lv_at hl 0 rfl) ?_
  refine lv_iload_n hx hb dL_redeem_3 rfl (lv_at hl 1 rfl) ?_
  refine lv_iload_n hx hb dL_redeem_4 rfl (lv_at hl 2 rfl) ?_
  refine vx_calli (vx_runV (As := [.int a1, .int a2]) (rest := [.int 0, .ref o]) ⟨hx, hb, hml, hown, hts⟩ (c_redeem l hst dC dI s.heap.size t h0 ac w0 b0 dd ed a1 a2) (cwV 2 hts (zg_V kw_1129 kw_1130 kw_1131 kw_64 kw_1132) rfl rfl rfl (by decide +kernel) ⟨Nat.le_of_ble_eq_true rfl, Nat.le_of_ble_eq_true rfl⟩) ⟨zA_blind, va_recv hK hP (ci := 5) (q0 := 0) rfl rfl, zA_pre hP hD hS hK hQ hA [0, 1] rfl rfl (by decide) [] rfl⟩ rfl rfl hl.1 rfl (lv_room (Nat.le_of_ble_eq_true rfl)) dL_redeem_5 ⟨zl_b rfl, zl_b rfl⟩) hSn (fun q _ h => h.elim) (fun q h => Nat.le_trans (Nat.le_refl _) h) (fun q _ h => Nat.le_trans (Nat.le_refl _) h) (fun E ce q9 u t9 H1 locs1 ht hvm hp9 hE hz1 hk1 hS1 hc1 hv1 hcl1 => ?_) (fun r u t9 H1 locs1 ht hvm hw hB hz1 hk1 hS1 => hw.elim)
  have hE : E = "java/lang/IndexOutOfBoundsException" := hE
  subst hE
  refine vx_catch (own := RL) (name := "java/lang/IndexOutOfBoundsException") hown [] _ _ htab (fun z hz => absurd hz List.not_mem_nil) rfl (by decide) (hts _ kw_631) (va_Nw.use rfl (zT_kI hQ.1)) hc1 hv1 hcl1 ?_
  refine W.eq (g2 := F0 m 13 ls [.ref q9]) rfl ?_
  generalize H1 = H at hS1 ⊢
  refine W.widen (k := 1) (n := 6) (zl_b rfl) (zl_b rfl) ?_
  refine lv_astore (lv' := [(4, .ref q9), (0, .ref h0), (1, .int a1), (2, .int a2), (3, .ref o)]) hx hb dL_redeem_13 hl (by decide) rfl (fun ls hl => ?_)
  refine lv_iconst (v := 1) hx hb dL_redeem_15 (by decide) ?_
  refine vx_ret ?_
  exact W.iret hx hb hr (fun t ht hW => ⟨⟨_, (), rfl, rfl, trivial⟩, zS_F hS1 ht⟩) hS1.2.2 dL_redeem_16
set_option maxHeartbeats 4000000 in
set_option maxRecDepth 100000 in
/-- owed in the law: 1 -/
theorem lx_owed (l : Launch) (hst : l.stackTraces = false) (dC : Nat → ClassId) (dI : Nat → Nat → Nat) (sz t : Nat) (h0 ac o : Nat) (w0 b0 : Value) (dd : Int32) (ed : Value) (a1 : Int32) : vx_Met l yL_owed ws_L_owed ({ frames := 8, cells := 1, slots := 6, locals := 141 }) (zA dC dI [(h0, .inr (5, [.ref ac, w0, b0, .int dd])), (ac, .inr (0, [.int 0, ed, .int 0]))] [] sz t [.ref h0, .int a1, .ref o]) (va_Qi (fun r (_ : Unit) => r = 1) (fun _ _ => True) (fun q => sz ≤ q)) (vx_X (fun _ : Unit => False) (fun _ _ _ => True) (fun _ => False)) 1 6 (fun q => sz ≤ q) := by
  refine vx_ofWH (cc := cL_owed) (maxL := 4) (ret := (some .int)) (hh := [(0, 8, 11, 21)]) (by decide) rfl ?_
  intro p e s m args below meth c s₁ B hml hv
  obtain ⟨rfl, hsz, hP, hK, hD0, hQ⟩ := hv
  have hx := B.exec
  have hb := B.bytes
  have hr := B.returns
  have hts : ∀ w ∈ zG, w.before _ s = true := fun w h => atoms_spec (ws := ws_L_owed) B.pre w (List.mem_cons_of_mem _ h)
  have htab : c.exceptionTable.toList = tableOf [(0, 8, 11, 21)] := vx_table (x := yL_owed) B (atoms_spec (ws := ws_L_owed) B.pre _ List.mem_cons_self)
  have hown : s.vm.findClass RL = some m.cls := findClass_of_methodNamed B.named
  have hlocks := B.notSynchronized
  subst hsz
  have hD := hD0.self (sz := s.heap.size)
  generalize hAe : va_A [(h0, .inr (5, [.ref ac, w0, b0, .int dd])), (ac, .inr (0, [.int 0, ed, .int 0]))] s.heap.size = A at hD hQ
  have hA : ∀ q : Nat, s.heap.size ≤ q → A q := fun q h => by rw [← hAe]; exact Or.inr h
  have hS : va_S A s.heap s.heap [] := va_S.rf
  have hSn : va_S (fun q => s.heap.size ≤ q) s.heap s.heap [] := va_S.rf
  have hP : va_P (dC, dI) zc [(h0, .inr (5, [.ref ac, w0, b0, .int dd])), (ac, .inr (0, [.int 0, ed, .int 0]))] s.heap := hP
  have hl := lv_entry ([.ref h0, .int a1, .ref o]) (n := 4) (Nat.le_of_ble_eq_true rfl)
  rw [lg_entry_eq]
  generalize (lg_sl ([.ref h0, .int a1, .ref o]) ++ List.replicate (4 - (lg_sl ([.ref h0, .int a1, .ref o])).length) Slot.unset).toArray = ls at hl ⊢
  have hl : lv_has ls 4 [(0, .ref h0), (1, .int a1), (2, .ref o)] := hl
  refine lv_aload_n hx hb dL_owed_0 rfl (lv_at hl 2 rfl) ?_
  refine lv_iconst (v := 0) hx hb dL_owed_1 (by decide) ?_
  refine lv_aload_n hx hb dL_owed_2 rfl (lv_at hl 0 rfl) ?_
  refine lv_iload_n hx hb dL_owed_3 rfl (lv_at hl 1 rfl) ?_
  refine vx_calll (vx_runV (As := [.int a1]) (rest := [.int 0, .ref o]) ⟨hx, hb, hml, hown, hts⟩ (c_owed l hst dC dI s.heap.size t h0 ac w0 b0 dd ed a1) (cwV 1 hts (zg_V kw_1143 kw_1144 kw_1145 kw_64 kw_1146) rfl rfl rfl (by decide +kernel) ⟨Nat.le_of_ble_eq_true rfl, Nat.le_of_ble_eq_true rfl⟩) ⟨zA_blind, va_recv hK hP (ci := 5) (q0 := 0) rfl rfl, zA_pre hP hD hS hK hQ hA [0, 1] rfl rfl (by decide) [] rfl⟩ rfl rfl hl.1 rfl (lv_room (Nat.le_of_ble_eq_true rfl)) dL_owed_4 ⟨zl_b rfl, zl_b rfl⟩) hSn (fun q _ h => h.elim) (fun q h => Nat.le_trans (Nat.le_refl _) h) (fun q _ h => Nat.le_trans (Nat.le_refl _) h) (fun E ce q9 u t9 H1 locs1 ht hvm hp9 hE hz1 hk1 hS1 hc1 hv1 hcl1 => ?_) (fun r u t9 H1 locs1 ht hvm hw hB hz1 hk1 hS1 => hw.elim)
  have hE : E = "java/lang/IndexOutOfBoundsException" := hE
  subst hE
  refine vx_catch (own := RL) (name := "java/lang/IndexOutOfBoundsException") hown [] _ _ htab (fun z hz => absurd hz List.not_mem_nil) rfl (by decide) (hts _ kw_631) (va_Nw.use rfl (zT_kI hQ.1)) hc1 hv1 hcl1 ?_
  refine W.eq (g2 := F0 m 11 ls [.ref q9]) rfl ?_
  generalize H1 = H at hS1 ⊢
  refine W.widen (k := 1) (n := 6) (zl_b rfl) (zl_b rfl) ?_
  refine lv_astore_n (lv' := [(3, .ref q9), (0, .ref h0), (1, .int a1), (2, .ref o)]) hx hb dL_owed_11 rfl hl (by decide) rfl (fun ls hl => ?_)
  refine lv_iconst (v := 1) hx hb dL_owed_12 (by decide) ?_
  refine vx_ret ?_
  exact W.iret hx hb hr (fun t ht hW => ⟨⟨_, (), rfl, rfl, trivial⟩, zS_F hS1 ht⟩) hS1.2.2 dL_owed_13
set_option maxHeartbeats 4000000 in
set_option maxRecDepth 100000 in
/-- bucket in the law: 1 -/
theorem lx_bucket (l : Launch) (hst : l.stackTraces = false) (dC : Nat → ClassId) (dI : Nat → Nat → Nat) (sz t : Nat) (h0 ac o : Nat) (w0 b0 : Value) (dd : Int32) (ed : Value) (a1 a2 : Int32) : vx_Met l yL_bucket ws_L_bucket ({ frames := 8, cells := 1, slots := 6, locals := 144 }) (zA dC dI [(h0, .inr (5, [.ref ac, w0, b0, .int dd])), (ac, .inr (0, [.int 0, ed, .int 0]))] [] sz t [.ref h0, .int a1, .int a2, .ref o]) (va_Qi (fun r (_ : Unit) => r = 1) (fun _ _ => True) (fun q => sz ≤ q)) (vx_X (fun _ : Unit => False) (fun _ _ _ => True) (fun _ => False)) 1 6 (fun q => sz ≤ q) := by
  refine vx_ofWH (cc := cL_bucket) (maxL := 5) (ret := (some .int)) (hh := [(0, 9, 12, 21), (0, 9, 16, 13)]) (by decide) rfl ?_
  intro p e s m args below meth c s₁ B hml hv
  obtain ⟨rfl, hsz, hP, hK, hD0, hQ⟩ := hv
  have hx := B.exec
  have hb := B.bytes
  have hr := B.returns
  have hts : ∀ w ∈ zG, w.before _ s = true := fun w h => atoms_spec (ws := ws_L_bucket) B.pre w (List.mem_cons_of_mem _ h)
  have htab : c.exceptionTable.toList = tableOf [(0, 9, 12, 21), (0, 9, 16, 13)] := vx_table (x := yL_bucket) B (atoms_spec (ws := ws_L_bucket) B.pre _ List.mem_cons_self)
  have hown : s.vm.findClass RL = some m.cls := findClass_of_methodNamed B.named
  have hlocks := B.notSynchronized
  subst hsz
  have hD := hD0.self (sz := s.heap.size)
  generalize hAe : va_A [(h0, .inr (5, [.ref ac, w0, b0, .int dd])), (ac, .inr (0, [.int 0, ed, .int 0]))] s.heap.size = A at hD hQ
  have hA : ∀ q : Nat, s.heap.size ≤ q → A q := fun q h => by rw [← hAe]; exact Or.inr h
  have hS : va_S A s.heap s.heap [] := va_S.rf
  have hSn : va_S (fun q => s.heap.size ≤ q) s.heap s.heap [] := va_S.rf
  have hP : va_P (dC, dI) zc [(h0, .inr (5, [.ref ac, w0, b0, .int dd])), (ac, .inr (0, [.int 0, ed, .int 0]))] s.heap := hP
  have hl := lv_entry ([.ref h0, .int a1, .int a2, .ref o]) (n := 5) (Nat.le_of_ble_eq_true rfl)
  rw [lg_entry_eq]
  generalize (lg_sl ([.ref h0, .int a1, .int a2, .ref o]) ++ List.replicate (5 - (lg_sl ([.ref h0, .int a1, .int a2, .ref o])).length) Slot.unset).toArray = ls at hl ⊢
  have hl : lv_has ls 5 [(0, .ref h0), (1, .int a1), (2, .int a2), (3, .ref o)] := hl
  refine lv_aload_n hx hb dL_bucket_0 rfl (lv_at hl 3 rfl) ?_
  refine lv_iconst (v := 0) hx hb dL_bucket_1 (by decide) ?_
  refine lv_aload_n hx hb dL_bucket_2 rfl (lv_at hl 0 rfl) ?_
  refine lv_iload_n hx hb dL_bucket_3 rfl (lv_at hl 1 rfl) ?_
  refine lv_iload_n hx hb dL_bucket_4 rfl (lv_at hl 2 rfl) ?_
  refine vx_calll (vx_runV (As := [.int a1, .int a2]) (rest := [.int 0, .ref o]) ⟨hx, hb, hml, hown, hts⟩ (c_bucket l hst dC dI s.heap.size t h0 ac w0 b0 dd ed a1 a2) (cwV 2 hts (zg_V kw_1150 kw_1151 kw_1152 kw_64 kw_1153) rfl rfl rfl (by decide +kernel) ⟨Nat.le_of_ble_eq_true rfl, Nat.le_of_ble_eq_true rfl⟩) ⟨zA_blind, va_recv hK hP (ci := 5) (q0 := 0) rfl rfl, zA_pre hP hD hS hK hQ hA [0, 1] rfl rfl (by decide) [] rfl⟩ rfl rfl hl.1 rfl (lv_room (Nat.le_of_ble_eq_true rfl)) dL_bucket_5 ⟨zl_b rfl, zl_b rfl⟩) hSn (fun q _ h => h.elim) (fun q h => Nat.le_trans (Nat.le_refl _) h) (fun q _ h => Nat.le_trans (Nat.le_refl _) h) (fun E ce q9 u t9 H1 locs1 ht hvm hp9 hE hz1 hk1 hS1 hc1 hv1 hcl1 => ?_) (fun r u t9 H1 locs1 ht hvm hw hB hz1 hk1 hS1 => hw.elim)
  have hE : E = "java/lang/IndexOutOfBoundsException" := hE
  subst hE
  refine vx_catch (own := RL) (name := "java/lang/IndexOutOfBoundsException") hown [] _ _ htab (fun z hz => absurd hz List.not_mem_nil) rfl (by decide) (hts _ kw_631) (va_Nw.use rfl (zT_kI hQ.1)) hc1 hv1 hcl1 ?_
  refine W.eq (g2 := F0 m 12 ls [.ref q9]) rfl ?_
  generalize H1 = H at hS1 ⊢
  refine W.widen (k := 1) (n := 6) (zl_b rfl) (zl_b rfl) ?_
  refine lv_astore (lv' := [(4, .ref q9), (0, .ref h0), (1, .int a1), (2, .int a2), (3, .ref o)]) hx hb dL_bucket_12 hl (by decide) rfl (fun ls hl => ?_)
  refine lv_iconst (v := 1) hx hb dL_bucket_14 (by decide) ?_
  refine vx_ret ?_
  exact W.iret hx hb hr (fun t ht hW => ⟨⟨_, (), rfl, rfl, trivial⟩, zS_F hS1 ht⟩) hS1.2.2 dL_bucket_15
set_option maxHeartbeats 4000000 in
set_option maxRecDepth 100000 in
/-- credit in the law: 1 -/
theorem lx_credit (l : Launch) (hst : l.stackTraces = false) (dC : Nat → ClassId) (dI : Nat → Nat → Nat) (sz t : Nat) (h0 ac o : Nat) (w0 b0 : Value) (dd : Int32) (ed : Value) (a1 : Int32) : vx_Met l yL_credit ws_L_credit ({ frames := 8, cells := 1, slots := 6, locals := 141 }) (zA dC dI [(h0, .inr (5, [.ref ac, w0, b0, .int dd])), (ac, .inr (0, [.int 0, ed, .int 0]))] [] sz t [.ref h0, .int a1, .ref o]) (va_Qi (fun r (_ : Unit) => r = 1) (fun _ _ => True) (fun q => sz ≤ q)) (vx_X (fun _ : Unit => False) (fun _ _ _ => True) (fun _ => False)) 1 6 (fun q => sz ≤ q) := by
  refine vx_ofWH (cc := cL_credit) (maxL := 4) (ret := (some .int)) (hh := [(0, 8, 11, 21)]) (by decide) rfl ?_
  intro p e s m args below meth c s₁ B hml hv
  obtain ⟨rfl, hsz, hP, hK, hD0, hQ⟩ := hv
  have hx := B.exec
  have hb := B.bytes
  have hr := B.returns
  have hts : ∀ w ∈ zG, w.before _ s = true := fun w h => atoms_spec (ws := ws_L_credit) B.pre w (List.mem_cons_of_mem _ h)
  have htab : c.exceptionTable.toList = tableOf [(0, 8, 11, 21)] := vx_table (x := yL_credit) B (atoms_spec (ws := ws_L_credit) B.pre _ List.mem_cons_self)
  have hown : s.vm.findClass RL = some m.cls := findClass_of_methodNamed B.named
  have hlocks := B.notSynchronized
  subst hsz
  have hD := hD0.self (sz := s.heap.size)
  generalize hAe : va_A [(h0, .inr (5, [.ref ac, w0, b0, .int dd])), (ac, .inr (0, [.int 0, ed, .int 0]))] s.heap.size = A at hD hQ
  have hA : ∀ q : Nat, s.heap.size ≤ q → A q := fun q h => by rw [← hAe]; exact Or.inr h
  have hS : va_S A s.heap s.heap [] := va_S.rf
  have hSn : va_S (fun q => s.heap.size ≤ q) s.heap s.heap [] := va_S.rf
  have hP : va_P (dC, dI) zc [(h0, .inr (5, [.ref ac, w0, b0, .int dd])), (ac, .inr (0, [.int 0, ed, .int 0]))] s.heap := hP
  have hl := lv_entry ([.ref h0, .int a1, .ref o]) (n := 4) (Nat.le_of_ble_eq_true rfl)
  rw [lg_entry_eq]
  generalize (lg_sl ([.ref h0, .int a1, .ref o]) ++ List.replicate (4 - (lg_sl ([.ref h0, .int a1, .ref o])).length) Slot.unset).toArray = ls at hl ⊢
  have hl : lv_has ls 4 [(0, .ref h0), (1, .int a1), (2, .ref o)] := hl
  refine lv_aload_n hx hb dL_credit_0 rfl (lv_at hl 2 rfl) ?_
  refine lv_iconst (v := 0) hx hb dL_credit_1 (by decide) ?_
  refine lv_aload_n hx hb dL_credit_2 rfl (lv_at hl 0 rfl) ?_
  refine lv_iload_n hx hb dL_credit_3 rfl (lv_at hl 1 rfl) ?_
  refine vx_calll (vx_runV (As := [.int a1]) (rest := [.int 0, .ref o]) ⟨hx, hb, hml, hown, hts⟩ (c_credit l hst dC dI s.heap.size t h0 ac w0 b0 dd ed a1) (cwV 1 hts (zg_V kw_1157 kw_1158 kw_1159 kw_64 kw_1160) rfl rfl rfl (by decide +kernel) ⟨Nat.le_of_ble_eq_true rfl, Nat.le_of_ble_eq_true rfl⟩) ⟨zA_blind, va_recv hK hP (ci := 5) (q0 := 0) rfl rfl, zA_pre hP hD hS hK hQ hA [0, 1] rfl rfl (by decide) [] rfl⟩ rfl rfl hl.1 rfl (lv_room (Nat.le_of_ble_eq_true rfl)) dL_credit_4 ⟨zl_b rfl, zl_b rfl⟩) hSn (fun q _ h => h.elim) (fun q h => Nat.le_trans (Nat.le_refl _) h) (fun q _ h => Nat.le_trans (Nat.le_refl _) h) (fun E ce q9 u t9 H1 locs1 ht hvm hp9 hE hz1 hk1 hS1 hc1 hv1 hcl1 => ?_) (fun r u t9 H1 locs1 ht hvm hw hB hz1 hk1 hS1 => hw.elim)
  have hE : E = "java/lang/IndexOutOfBoundsException" := hE
  subst hE
  refine vx_catch (own := RL) (name := "java/lang/IndexOutOfBoundsException") hown [] _ _ htab (fun z hz => absurd hz List.not_mem_nil) rfl (by decide) (hts _ kw_631) (va_Nw.use rfl (zT_kI hQ.1)) hc1 hv1 hcl1 ?_
  refine W.eq (g2 := F0 m 11 ls [.ref q9]) rfl ?_
  generalize H1 = H at hS1 ⊢
  refine W.widen (k := 1) (n := 6) (zl_b rfl) (zl_b rfl) ?_
  refine lv_astore_n (lv' := [(3, .ref q9), (0, .ref h0), (1, .int a1), (2, .ref o)]) hx hb dL_credit_11 rfl hl (by decide) rfl (fun ls hl => ?_)
  refine lv_iconst (v := 1) hx hb dL_credit_12 (by decide) ?_
  refine vx_ret ?_
  exact W.iret hx hb hr (fun t ht hW => ⟨⟨_, (), rfl, rfl, trivial⟩, zS_F hS1 ht⟩) hS1.2.2 dL_credit_13
set_option maxHeartbeats 4000000 in
set_option maxRecDepth 100000 in
/-- statement in the law: 1 -/
theorem lx_statement (l : Launch) (hst : l.stackTraces = false) (dC : Nat → ClassId) (dI : Nat → Nat → Nat) (sz t : Nat) (h0 ac o : Nat) (w0 b0 : Value) (dd : Int32) (ed : Value) (a1 a2 : Int32) : vx_Met l yL_statement ws_L_statement ({ frames := 8, cells := 1, slots := 6, locals := 142 }) (zA dC dI [(h0, .inr (5, [.ref ac, w0, b0, .int dd])), (ac, .inr (0, [.int 0, ed, .int 0]))] [] sz t [.ref h0, .int a1, .int a2, .ref o]) (va_Qi (fun r (_ : Unit) => r = 1) (fun _ _ => True) (fun q => sz ≤ q)) (vx_X (fun _ : Unit => False) (fun _ _ _ => True) (fun _ => False)) 1 6 (fun q => sz ≤ q) := by
  refine vx_ofWH (cc := cL_statement) (maxL := 5) (ret := (some .int)) (hh := [(0, 9, 12, 21), (0, 9, 16, 90)]) (by decide) rfl ?_
  intro p e s m args below meth c s₁ B hml hv
  obtain ⟨rfl, hsz, hP, hK, hD0, hQ⟩ := hv
  have hx := B.exec
  have hb := B.bytes
  have hr := B.returns
  have hts : ∀ w ∈ zG, w.before _ s = true := fun w h => atoms_spec (ws := ws_L_statement) B.pre w (List.mem_cons_of_mem _ h)
  have htab : c.exceptionTable.toList = tableOf [(0, 9, 12, 21), (0, 9, 16, 90)] := vx_table (x := yL_statement) B (atoms_spec (ws := ws_L_statement) B.pre _ List.mem_cons_self)
  have hown : s.vm.findClass RL = some m.cls := findClass_of_methodNamed B.named
  have hlocks := B.notSynchronized
  subst hsz
  have hD := hD0.self (sz := s.heap.size)
  generalize hAe : va_A [(h0, .inr (5, [.ref ac, w0, b0, .int dd])), (ac, .inr (0, [.int 0, ed, .int 0]))] s.heap.size = A at hD hQ
  have hA : ∀ q : Nat, s.heap.size ≤ q → A q := fun q h => by rw [← hAe]; exact Or.inr h
  have hS : va_S A s.heap s.heap [] := va_S.rf
  have hSn : va_S (fun q => s.heap.size ≤ q) s.heap s.heap [] := va_S.rf
  have hP : va_P (dC, dI) zc [(h0, .inr (5, [.ref ac, w0, b0, .int dd])), (ac, .inr (0, [.int 0, ed, .int 0]))] s.heap := hP
  have hl := lv_entry ([.ref h0, .int a1, .int a2, .ref o]) (n := 5) (Nat.le_of_ble_eq_true rfl)
  rw [lg_entry_eq]
  generalize (lg_sl ([.ref h0, .int a1, .int a2, .ref o]) ++ List.replicate (5 - (lg_sl ([.ref h0, .int a1, .int a2, .ref o])).length) Slot.unset).toArray = ls at hl ⊢
  have hl : lv_has ls 5 [(0, .ref h0), (1, .int a1), (2, .int a2), (3, .ref o)] := hl
  refine lv_aload_n hx hb dL_statement_0 rfl (lv_at hl 3 rfl) ?_
  refine lv_iconst (v := 0) hx hb dL_statement_1 (by decide) ?_
  refine lv_aload_n hx hb dL_statement_2 rfl (lv_at hl 0 rfl) ?_
  refine lv_iload_n hx hb dL_statement_3 rfl (lv_at hl 1 rfl) ?_
  refine lv_iload_n hx hb dL_statement_4 rfl (lv_at hl 2 rfl) ?_
  refine vx_calll (vx_runV (As := [.int a1, .int a2]) (rest := [.int 0, .ref o]) ⟨hx, hb, hml, hown, hts⟩ (c_statement l hst dC dI s.heap.size t h0 ac w0 b0 dd ed a1 a2) (cwV 2 hts (zg_V kw_1165 kw_1166 kw_1167 kw_64 kw_1168) rfl rfl rfl (by decide +kernel) ⟨Nat.le_of_ble_eq_true rfl, Nat.le_of_ble_eq_true rfl⟩) ⟨zA_blind, va_recv hK hP (ci := 5) (q0 := 0) rfl rfl, zA_pre hP hD hS hK hQ hA [0, 1] rfl rfl (by decide) [] rfl⟩ rfl rfl hl.1 rfl (lv_room (Nat.le_of_ble_eq_true rfl)) dL_statement_5 ⟨zl_b rfl, zl_b rfl⟩) hSn (fun q _ h => h.elim) (fun q h => Nat.le_trans (Nat.le_refl _) h) (fun q _ h => Nat.le_trans (Nat.le_refl _) h) (fun E ce q9 u t9 H1 locs1 ht hvm hp9 hE hz1 hk1 hS1 hc1 hv1 hcl1 => ?_) (fun r u t9 H1 locs1 ht hvm hw hB hz1 hk1 hS1 => hw.elim)
  have hE : E = "java/lang/IndexOutOfBoundsException" := hE
  subst hE
  refine vx_catch (own := RL) (name := "java/lang/IndexOutOfBoundsException") hown [] _ _ htab (fun z hz => absurd hz List.not_mem_nil) rfl (by decide) (hts _ kw_631) (va_Nw.use rfl (zT_kI hQ.1)) hc1 hv1 hcl1 ?_
  refine W.eq (g2 := F0 m 12 ls [.ref q9]) rfl ?_
  generalize H1 = H at hS1 ⊢
  refine W.widen (k := 1) (n := 6) (zl_b rfl) (zl_b rfl) ?_
  refine lv_astore (lv' := [(4, .ref q9), (0, .ref h0), (1, .int a1), (2, .int a2), (3, .ref o)]) hx hb dL_statement_12 hl (by decide) rfl (fun ls hl => ?_)
  refine lv_iconst (v := 1) hx hb dL_statement_14 (by decide) ?_
  refine vx_ret ?_
  exact W.iret hx hb hr (fun t ht hW => ⟨⟨_, (), rfl, rfl, trivial⟩, zS_F hS1 ht⟩) hS1.2.2 dL_statement_15
set_option maxHeartbeats 4000000 in
set_option maxRecDepth 100000 in
/-- told in the law: 1 -/
theorem lx_told (l : Launch) (hst : l.stackTraces = false) (dC : Nat → ClassId) (dI : Nat → Nat → Nat) (sz t : Nat) (h0 ac o : Nat) (w0 b0 : Value) (dd : Int32) (ed : Value) (a1 a2 : Int32) : vx_Met l yL_told ws_L_told ({ frames := 8, cells := 1, slots := 6, locals := 142 }) (zA dC dI [(h0, .inr (5, [.ref ac, w0, b0, .int dd])), (ac, .inr (0, [.int 0, ed, .int 0]))] [] sz t [.ref h0, .int a1, .int a2, .ref o]) (va_Qi (fun r (_ : Unit) => r = 1) (fun _ _ => True) (fun q => sz ≤ q)) (vx_X (fun _ : Unit => False) (fun _ _ _ => True) (fun _ => False)) 1 6 (fun q => sz ≤ q) := by
  refine vx_ofWH (cc := cL_told) (maxL := 5) (ret := (some .int)) (hh := [(0, 9, 12, 21), (0, 9, 16, 90)]) (by decide) rfl ?_
  intro p e s m args below meth c s₁ B hml hv
  obtain ⟨rfl, hsz, hP, hK, hD0, hQ⟩ := hv
  have hx := B.exec
  have hb := B.bytes
  have hr := B.returns
  have hts : ∀ w ∈ zG, w.before _ s = true := fun w h => atoms_spec (ws := ws_L_told) B.pre w (List.mem_cons_of_mem _ h)
  have htab : c.exceptionTable.toList = tableOf [(0, 9, 12, 21), (0, 9, 16, 90)] := vx_table (x := yL_told) B (atoms_spec (ws := ws_L_told) B.pre _ List.mem_cons_self)
  have hown : s.vm.findClass RL = some m.cls := findClass_of_methodNamed B.named
  have hlocks := B.notSynchronized
  subst hsz
  have hD := hD0.self (sz := s.heap.size)
  generalize hAe : va_A [(h0, .inr (5, [.ref ac, w0, b0, .int dd])), (ac, .inr (0, [.int 0, ed, .int 0]))] s.heap.size = A at hD hQ
  have hA : ∀ q : Nat, s.heap.size ≤ q → A q := fun q h => by rw [← hAe]; exact Or.inr h
  have hS : va_S A s.heap s.heap [] := va_S.rf
  have hSn : va_S (fun q => s.heap.size ≤ q) s.heap s.heap [] := va_S.rf
  have hP : va_P (dC, dI) zc [(h0, .inr (5, [.ref ac, w0, b0, .int dd])), (ac, .inr (0, [.int 0, ed, .int 0]))] s.heap := hP
  have hl := lv_entry ([.ref h0, .int a1, .int a2, .ref o]) (n := 5) (Nat.le_of_ble_eq_true rfl)
  rw [lg_entry_eq]
  generalize (lg_sl ([.ref h0, .int a1, .int a2, .ref o]) ++ List.replicate (5 - (lg_sl ([.ref h0, .int a1, .int a2, .ref o])).length) Slot.unset).toArray = ls at hl ⊢
  have hl : lv_has ls 5 [(0, .ref h0), (1, .int a1), (2, .int a2), (3, .ref o)] := hl
  refine lv_aload_n hx hb dL_told_0 rfl (lv_at hl 3 rfl) ?_
  refine lv_iconst (v := 0) hx hb dL_told_1 (by decide) ?_
  refine lv_aload_n hx hb dL_told_2 rfl (lv_at hl 0 rfl) ?_
  refine lv_iload_n hx hb dL_told_3 rfl (lv_at hl 1 rfl) ?_
  refine lv_iload_n hx hb dL_told_4 rfl (lv_at hl 2 rfl) ?_
  refine vx_calll (vx_runV (As := [.int a1, .int a2]) (rest := [.int 0, .ref o]) ⟨hx, hb, hml, hown, hts⟩ (c_told l hst dC dI s.heap.size t h0 ac w0 b0 dd ed a1 a2) (cwV 2 hts (zg_V kw_1191 kw_1192 kw_1193 kw_64 kw_1194) rfl rfl rfl (by decide +kernel) ⟨Nat.le_of_ble_eq_true rfl, Nat.le_of_ble_eq_true rfl⟩) ⟨zA_blind, va_recv hK hP (ci := 5) (q0 := 0) rfl rfl, zA_pre hP hD hS hK hQ hA [0, 1] rfl rfl (by decide) [] rfl⟩ rfl rfl hl.1 rfl (lv_room (Nat.le_of_ble_eq_true rfl)) dL_told_5 ⟨zl_b rfl, zl_b rfl⟩) hSn (fun q _ h => h.elim) (fun q h => Nat.le_trans (Nat.le_refl _) h) (fun q _ h => Nat.le_trans (Nat.le_refl _) h) (fun E ce q9 u t9 H1 locs1 ht hvm hp9 hE hz1 hk1 hS1 hc1 hv1 hcl1 => ?_) (fun r u t9 H1 locs1 ht hvm hw hB hz1 hk1 hS1 => hw.elim)
  have hE : E = "java/lang/IndexOutOfBoundsException" := hE
  subst hE
  refine vx_catch (own := RL) (name := "java/lang/IndexOutOfBoundsException") hown [] _ _ htab (fun z hz => absurd hz List.not_mem_nil) rfl (by decide) (hts _ kw_631) (va_Nw.use rfl (zT_kI hQ.1)) hc1 hv1 hcl1 ?_
  refine W.eq (g2 := F0 m 12 ls [.ref q9]) rfl ?_
  generalize H1 = H at hS1 ⊢
  refine W.widen (k := 1) (n := 6) (zl_b rfl) (zl_b rfl) ?_
  refine lv_astore (lv' := [(4, .ref q9), (0, .ref h0), (1, .int a1), (2, .int a2), (3, .ref o)]) hx hb dL_told_12 hl (by decide) rfl (fun ls hl => ?_)
  refine lv_iconst (v := 1) hx hb dL_told_14 (by decide) ?_
  refine vx_ret ?_
  exact W.iret hx hb hr (fun t ht hW => ⟨⟨_, (), rfl, rfl, trivial⟩, zS_F hS1 ht⟩) hS1.2.2 dL_told_15
set_option maxHeartbeats 4000000 in
set_option maxRecDepth 100000 in
/-- difference in the law: 1 -/
theorem lx_difference (l : Launch) (hst : l.stackTraces = false) (dC : Nat → ClassId) (dI : Nat → Nat → Nat) (sz t : Nat) (h0 ac o : Nat) (w0 b0 : Value) (dd : Int32) (ed : Value) (a1 a2 : Int32) : vx_Met l yL_difference ws_L_difference ({ frames := 8, cells := 1, slots := 6, locals := 145 }) (zA dC dI [(h0, .inr (5, [.ref ac, w0, b0, .int dd])), (ac, .inr (0, [.int 0, ed, .int 0]))] [] sz t [.ref h0, .int a1, .int a2, .ref o]) (va_Qi (fun r (_ : Unit) => r = 1) (fun _ _ => True) (fun q => sz ≤ q)) (vx_X (fun _ : Unit => False) (fun _ _ _ => True) (fun _ => False)) 1 6 (fun q => sz ≤ q) := by
  refine vx_ofWH (cc := cL_difference) (maxL := 5) (ret := (some .int)) (hh := [(0, 9, 12, 21), (0, 9, 16, 90)]) (by decide) rfl ?_
  intro p e s m args below meth c s₁ B hml hv
  obtain ⟨rfl, hsz, hP, hK, hD0, hQ⟩ := hv
  have hx := B.exec
  have hb := B.bytes
  have hr := B.returns
  have hts : ∀ w ∈ zG, w.before _ s = true := fun w h => atoms_spec (ws := ws_L_difference) B.pre w (List.mem_cons_of_mem _ h)
  have htab : c.exceptionTable.toList = tableOf [(0, 9, 12, 21), (0, 9, 16, 90)] := vx_table (x := yL_difference) B (atoms_spec (ws := ws_L_difference) B.pre _ List.mem_cons_self)
  have hown : s.vm.findClass RL = some m.cls := findClass_of_methodNamed B.named
  have hlocks := B.notSynchronized
  subst hsz
  have hD := hD0.self (sz := s.heap.size)
  generalize hAe : va_A [(h0, .inr (5, [.ref ac, w0, b0, .int dd])), (ac, .inr (0, [.int 0, ed, .int 0]))] s.heap.size = A at hD hQ
  have hA : ∀ q : Nat, s.heap.size ≤ q → A q := fun q h => by rw [← hAe]; exact Or.inr h
  have hS : va_S A s.heap s.heap [] := va_S.rf
  have hSn : va_S (fun q => s.heap.size ≤ q) s.heap s.heap [] := va_S.rf
  have hP : va_P (dC, dI) zc [(h0, .inr (5, [.ref ac, w0, b0, .int dd])), (ac, .inr (0, [.int 0, ed, .int 0]))] s.heap := hP
  have hl := lv_entry ([.ref h0, .int a1, .int a2, .ref o]) (n := 5) (Nat.le_of_ble_eq_true rfl)
  rw [lg_entry_eq]
  generalize (lg_sl ([.ref h0, .int a1, .int a2, .ref o]) ++ List.replicate (5 - (lg_sl ([.ref h0, .int a1, .int a2, .ref o])).length) Slot.unset).toArray = ls at hl ⊢
  have hl : lv_has ls 5 [(0, .ref h0), (1, .int a1), (2, .int a2), (3, .ref o)] := hl
  refine lv_aload_n hx hb dL_difference_0 rfl (lv_at hl 3 rfl) ?_
  refine lv_iconst (v := 0) hx hb dL_difference_1 (by decide) ?_
  refine lv_aload_n hx hb dL_difference_2 rfl (lv_at hl 0 rfl) ?_
  refine lv_iload_n hx hb dL_difference_3 rfl (lv_at hl 1 rfl) ?_
  refine lv_iload_n hx hb dL_difference_4 rfl (lv_at hl 2 rfl) ?_
  refine vx_calll (vx_runV (As := [.int a1, .int a2]) (rest := [.int 0, .ref o]) ⟨hx, hb, hml, hown, hts⟩ (c_difference l hst dC dI s.heap.size t h0 ac w0 b0 dd ed a1 a2) (cwV 2 hts (zg_V kw_1202 kw_1203 kw_1204 kw_64 kw_1205) rfl rfl rfl (by decide +kernel) ⟨Nat.le_of_ble_eq_true rfl, Nat.le_of_ble_eq_true rfl⟩) ⟨zA_blind, va_recv hK hP (ci := 5) (q0 := 0) rfl rfl, zA_pre hP hD hS hK hQ hA [0, 1] rfl rfl (by decide) [] rfl⟩ rfl rfl hl.1 rfl (lv_room (Nat.le_of_ble_eq_true rfl)) dL_difference_5 ⟨zl_b rfl, zl_b rfl⟩) hSn (fun q _ h => h.elim) (fun q h => Nat.le_trans (Nat.le_refl _) h) (fun q _ h => Nat.le_trans (Nat.le_refl _) h) (fun E ce q9 u t9 H1 locs1 ht hvm hp9 hE hz1 hk1 hS1 hc1 hv1 hcl1 => ?_) (fun r u t9 H1 locs1 ht hvm hw hB hz1 hk1 hS1 => hw.elim)
  have hE : E = "java/lang/IndexOutOfBoundsException" := hE
  subst hE
  refine vx_catch (own := RL) (name := "java/lang/IndexOutOfBoundsException") hown [] _ _ htab (fun z hz => absurd hz List.not_mem_nil) rfl (by decide) (hts _ kw_631) (va_Nw.use rfl (zT_kI hQ.1)) hc1 hv1 hcl1 ?_
  refine W.eq (g2 := F0 m 12 ls [.ref q9]) rfl ?_
  generalize H1 = H at hS1 ⊢
  refine W.widen (k := 1) (n := 6) (zl_b rfl) (zl_b rfl) ?_
  refine lv_astore (lv' := [(4, .ref q9), (0, .ref h0), (1, .int a1), (2, .int a2), (3, .ref o)]) hx hb dL_difference_12 hl (by decide) rfl (fun ls hl => ?_)
  refine lv_iconst (v := 1) hx hb dL_difference_14 (by decide) ?_
  refine vx_ret ?_
  exact W.iret hx hb hr (fun t ht hW => ⟨⟨_, (), rfl, rfl, trivial⟩, zS_F hS1 ht⟩) hS1.2.2 dL_difference_15
set_option maxHeartbeats 4000000 in
set_option maxRecDepth 100000 in
/-- least in the law: 1 -/
theorem lx_least (l : Launch) (hst : l.stackTraces = false) (dC : Nat → ClassId) (dI : Nat → Nat → Nat) (sz t : Nat) (h0 ac o : Nat) (w0 b0 : Value) (dd : Int32) (ed : Value) (a1 a2 : Int32) : vx_Met l yL_least ws_L_least ({ frames := 8, cells := 1, slots := 6, locals := 142 }) (zA dC dI [(h0, .inr (5, [.ref ac, w0, b0, .int dd])), (ac, .inr (0, [.int 0, ed, .int 0]))] [] sz t [.ref h0, .int a1, .int a2, .ref o]) (va_Qi (fun r (_ : Unit) => r = 1) (fun _ _ => True) (fun q => sz ≤ q)) (vx_X (fun _ : Unit => False) (fun _ _ _ => True) (fun _ => False)) 1 6 (fun q => sz ≤ q) := by
  refine vx_ofWH (cc := cL_least) (maxL := 5) (ret := (some .int)) (hh := [(0, 9, 12, 21), (0, 9, 16, 90)]) (by decide) rfl ?_
  intro p e s m args below meth c s₁ B hml hv
  obtain ⟨rfl, hsz, hP, hK, hD0, hQ⟩ := hv
  have hx := B.exec
  have hb := B.bytes
  have hr := B.returns
  have hts : ∀ w ∈ zG, w.before _ s = true := fun w h => atoms_spec (ws := ws_L_least) B.pre w (List.mem_cons_of_mem _ h)
  have htab : c.exceptionTable.toList = tableOf [(0, 9, 12, 21), (0, 9, 16, 90)] := vx_table (x := yL_least) B (atoms_spec (ws := ws_L_least) B.pre _ List.mem_cons_self)
  have hown : s.vm.findClass RL = some m.cls := findClass_of_methodNamed B.named
  have hlocks := B.notSynchronized
  subst hsz
  have hD := hD0.self (sz := s.heap.size)
  generalize hAe : va_A [(h0, .inr (5, [.ref ac, w0, b0, .int dd])), (ac, .inr (0, [.int 0, ed, .int 0]))] s.heap.size = A at hD hQ
  have hA : ∀ q : Nat, s.heap.size ≤ q → A q := fun q h => by rw [← hAe]; exact Or.inr h
  have hS : va_S A s.heap s.heap [] := va_S.rf
  have hSn : va_S (fun q => s.heap.size ≤ q) s.heap s.heap [] := va_S.rf
  have hP : va_P (dC, dI) zc [(h0, .inr (5, [.ref ac, w0, b0, .int dd])), (ac, .inr (0, [.int 0, ed, .int 0]))] s.heap := hP
  have hl := lv_entry ([.ref h0, .int a1, .int a2, .ref o]) (n := 5) (Nat.le_of_ble_eq_true rfl)
  rw [lg_entry_eq]
  generalize (lg_sl ([.ref h0, .int a1, .int a2, .ref o]) ++ List.replicate (5 - (lg_sl ([.ref h0, .int a1, .int a2, .ref o])).length) Slot.unset).toArray = ls at hl ⊢
  have hl : lv_has ls 5 [(0, .ref h0), (1, .int a1), (2, .int a2), (3, .ref o)] := hl
  refine lv_aload_n hx hb dL_least_0 rfl (lv_at hl 3 rfl) ?_
  refine lv_iconst (v := 0) hx hb dL_least_1 (by decide) ?_
  refine lv_aload_n hx hb dL_least_2 rfl (lv_at hl 0 rfl) ?_
  refine lv_iload_n hx hb dL_least_3 rfl (lv_at hl 1 rfl) ?_
  refine lv_iload_n hx hb dL_least_4 rfl (lv_at hl 2 rfl) ?_
  refine vx_calll (vx_runV (As := [.int a1, .int a2]) (rest := [.int 0, .ref o]) ⟨hx, hb, hml, hown, hts⟩ (c_least l hst dC dI s.heap.size t h0 ac w0 b0 dd ed a1 a2) (cwV 2 hts (zg_V kw_1209 kw_1210 kw_1211 kw_64 kw_1212) rfl rfl rfl (by decide +kernel) ⟨Nat.le_of_ble_eq_true rfl, Nat.le_of_ble_eq_true rfl⟩) ⟨zA_blind, va_recv hK hP (ci := 5) (q0 := 0) rfl rfl, zA_pre hP hD hS hK hQ hA [0, 1] rfl rfl (by decide) [] rfl⟩ rfl rfl hl.1 rfl (lv_room (Nat.le_of_ble_eq_true rfl)) dL_least_5 ⟨zl_b rfl, zl_b rfl⟩) hSn (fun q _ h => h.elim) (fun q h => Nat.le_trans (Nat.le_refl _) h) (fun q _ h => Nat.le_trans (Nat.le_refl _) h) (fun E ce q9 u t9 H1 locs1 ht hvm hp9 hE hz1 hk1 hS1 hc1 hv1 hcl1 => ?_) (fun r u t9 H1 locs1 ht hvm hw hB hz1 hk1 hS1 => hw.elim)
  have hE : E = "java/lang/IndexOutOfBoundsException" := hE
  subst hE
  refine vx_catch (own := RL) (name := "java/lang/IndexOutOfBoundsException") hown [] _ _ htab (fun z hz => absurd hz List.not_mem_nil) rfl (by decide) (hts _ kw_631) (va_Nw.use rfl (zT_kI hQ.1)) hc1 hv1 hcl1 ?_
  refine W.eq (g2 := F0 m 12 ls [.ref q9]) rfl ?_
  generalize H1 = H at hS1 ⊢
  refine W.widen (k := 1) (n := 6) (zl_b rfl) (zl_b rfl) ?_
  refine lv_astore (lv' := [(4, .ref q9), (0, .ref h0), (1, .int a1), (2, .int a2), (3, .ref o)]) hx hb dL_least_12 hl (by decide) rfl (fun ls hl => ?_)
  refine lv_iconst (v := 1) hx hb dL_least_14 (by decide) ?_
  refine vx_ret ?_
  exact W.iret hx hb hr (fun t ht hW => ⟨⟨_, (), rfl, rfl, trivial⟩, zS_F hS1 ht⟩) hS1.2.2 dL_least_15
set_option maxHeartbeats 4000000 in
set_option maxRecDepth 100000 in
/-- interest in the law: 1 -/
theorem lx_interest (l : Launch) (hst : l.stackTraces = false) (dC : Nat → ClassId) (dI : Nat → Nat → Nat) (sz t : Nat) (h0 ac o : Nat) (w0 b0 : Value) (dd : Int32) (ed : Value) (a1 a2 : Int32) : vx_Met l yL_interest ws_L_interest ({ frames := 8, cells := 1, slots := 6, locals := 142 }) (zA dC dI [(h0, .inr (5, [.ref ac, w0, b0, .int dd])), (ac, .inr (0, [.int 0, ed, .int 0]))] [] sz t [.ref h0, .int a1, .int a2, .ref o]) (va_Qi (fun r (_ : Unit) => r = 1) (fun _ _ => True) (fun q => sz ≤ q)) (vx_X (fun _ : Unit => False) (fun _ _ _ => True) (fun _ => False)) 1 6 (fun q => sz ≤ q) := by
  refine vx_ofWH (cc := cL_interest) (maxL := 5) (ret := (some .int)) (hh := [(0, 9, 12, 21), (0, 9, 16, 90)]) (by decide) rfl ?_
  intro p e s m args below meth c s₁ B hml hv
  obtain ⟨rfl, hsz, hP, hK, hD0, hQ⟩ := hv
  have hx := B.exec
  have hb := B.bytes
  have hr := B.returns
  have hts : ∀ w ∈ zG, w.before _ s = true := fun w h => atoms_spec (ws := ws_L_interest) B.pre w (List.mem_cons_of_mem _ h)
  have htab : c.exceptionTable.toList = tableOf [(0, 9, 12, 21), (0, 9, 16, 90)] := vx_table (x := yL_interest) B (atoms_spec (ws := ws_L_interest) B.pre _ List.mem_cons_self)
  have hown : s.vm.findClass RL = some m.cls := findClass_of_methodNamed B.named
  have hlocks := B.notSynchronized
  subst hsz
  have hD := hD0.self (sz := s.heap.size)
  generalize hAe : va_A [(h0, .inr (5, [.ref ac, w0, b0, .int dd])), (ac, .inr (0, [.int 0, ed, .int 0]))] s.heap.size = A at hD hQ
  have hA : ∀ q : Nat, s.heap.size ≤ q → A q := fun q h => by rw [← hAe]; exact Or.inr h
  have hS : va_S A s.heap s.heap [] := va_S.rf
  have hSn : va_S (fun q => s.heap.size ≤ q) s.heap s.heap [] := va_S.rf
  have hP : va_P (dC, dI) zc [(h0, .inr (5, [.ref ac, w0, b0, .int dd])), (ac, .inr (0, [.int 0, ed, .int 0]))] s.heap := hP
  have hl := lv_entry ([.ref h0, .int a1, .int a2, .ref o]) (n := 5) (Nat.le_of_ble_eq_true rfl)
  rw [lg_entry_eq]
  generalize (lg_sl ([.ref h0, .int a1, .int a2, .ref o]) ++ List.replicate (5 - (lg_sl ([.ref h0, .int a1, .int a2, .ref o])).length) Slot.unset).toArray = ls at hl ⊢
  have hl : lv_has ls 5 [(0, .ref h0), (1, .int a1), (2, .int a2), (3, .ref o)] := hl
  refine lv_aload_n hx hb dL_interest_0 rfl (lv_at hl 3 rfl) ?_
  refine lv_iconst (v := 0) hx hb dL_interest_1 (by decide) ?_
  refine lv_aload_n hx hb dL_interest_2 rfl (lv_at hl 0 rfl) ?_
  refine lv_iload_n hx hb dL_interest_3 rfl (lv_at hl 1 rfl) ?_
  refine lv_iload_n hx hb dL_interest_4 rfl (lv_at hl 2 rfl) ?_
  refine vx_calll (vx_runV (As := [.int a1, .int a2]) (rest := [.int 0, .ref o]) ⟨hx, hb, hml, hown, hts⟩ (c_interest l hst dC dI s.heap.size t h0 ac w0 b0 dd ed a1 a2) (cwV 2 hts (zg_V kw_1216 kw_1217 kw_1218 kw_64 kw_1219) rfl rfl rfl (by decide +kernel) ⟨Nat.le_of_ble_eq_true rfl, Nat.le_of_ble_eq_true rfl⟩) ⟨zA_blind, va_recv hK hP (ci := 5) (q0 := 0) rfl rfl, zA_pre hP hD hS hK hQ hA [0, 1] rfl rfl (by decide) [] rfl⟩ rfl rfl hl.1 rfl (lv_room (Nat.le_of_ble_eq_true rfl)) dL_interest_5 ⟨zl_b rfl, zl_b rfl⟩) hSn (fun q _ h => h.elim) (fun q h => Nat.le_trans (Nat.le_refl _) h) (fun q _ h => Nat.le_trans (Nat.le_refl _) h) (fun E ce q9 u t9 H1 locs1 ht hvm hp9 hE hz1 hk1 hS1 hc1 hv1 hcl1 => ?_) (fun r u t9 H1 locs1 ht hvm hw hB hz1 hk1 hS1 => hw.elim)
  have hE : E = "java/lang/IndexOutOfBoundsException" := hE
  subst hE
  refine vx_catch (own := RL) (name := "java/lang/IndexOutOfBoundsException") hown [] _ _ htab (fun z hz => absurd hz List.not_mem_nil) rfl (by decide) (hts _ kw_631) (va_Nw.use rfl (zT_kI hQ.1)) hc1 hv1 hcl1 ?_
  refine W.eq (g2 := F0 m 12 ls [.ref q9]) rfl ?_
  generalize H1 = H at hS1 ⊢
  refine W.widen (k := 1) (n := 6) (zl_b rfl) (zl_b rfl) ?_
  refine lv_astore (lv' := [(4, .ref q9), (0, .ref h0), (1, .int a1), (2, .int a2), (3, .ref o)]) hx hb dL_interest_12 hl (by decide) rfl (fun ls hl => ?_)
  refine lv_iconst (v := 1) hx hb dL_interest_14 (by decide) ?_
  refine vx_ret ?_
  exact W.iret hx hb hr (fun t ht hW => ⟨⟨_, (), rfl, rfl, trivial⟩, zS_F hS1 ht⟩) hS1.2.2 dL_interest_15
set_option maxHeartbeats 4000000 in
set_option maxRecDepth 100000 in
/-- hadGrace in the law: 1 -/
theorem lx_hadGrace (l : Launch) (hst : l.stackTraces = false) (dC : Nat → ClassId) (dI : Nat → Nat → Nat) (sz t : Nat) (h0 ac o : Nat) (w0 b0 : Value) (dd : Int32) (ed : Value) (a1 a2 : Int32) : vx_Met l yL_hadGrace ws_L_hadGrace ({ frames := 8, cells := 1, slots := 6, locals := 142 }) (zA dC dI [(h0, .inr (5, [.ref ac, w0, b0, .int dd])), (ac, .inr (0, [.int 0, ed, .int 0]))] [] sz t [.ref h0, .int a1, .int a2, .ref o]) (va_Qi (fun r (_ : Unit) => r = 1) (fun _ _ => True) (fun q => sz ≤ q)) (vx_X (fun _ : Unit => False) (fun _ _ _ => True) (fun _ => False)) 1 6 (fun q => sz ≤ q) := by
  refine vx_ofWH (cc := cL_hadGrace) (maxL := 5) (ret := (some .int)) (hh := [(0, 17, 20, 21), (0, 17, 24, 90)]) (by decide) rfl ?_
  intro p e s m args below meth c s₁ B hml hv
  obtain ⟨rfl, hsz, hP, hK, hD0, hQ⟩ := hv
  have hx := B.exec
  have hb := B.bytes
  have hr := B.returns
  have hts : ∀ w ∈ zG, w.before _ s = true := fun w h => atoms_spec (ws := ws_L_hadGrace) B.pre w (List.mem_cons_of_mem _ h)
  have htab : c.exceptionTable.toList = tableOf [(0, 17, 20, 21), (0, 17, 24, 90)] := vx_table (x := yL_hadGrace) B (atoms_spec (ws := ws_L_hadGrace) B.pre _ List.mem_cons_self)
  have hown : s.vm.findClass RL = some m.cls := findClass_of_methodNamed B.named
  have hlocks := B.notSynchronized
  subst hsz
  have hD := hD0.self (sz := s.heap.size)
  generalize hAe : va_A [(h0, .inr (5, [.ref ac, w0, b0, .int dd])), (ac, .inr (0, [.int 0, ed, .int 0]))] s.heap.size = A at hD hQ
  have hA : ∀ q : Nat, s.heap.size ≤ q → A q := fun q h => by rw [← hAe]; exact Or.inr h
  have hS : va_S A s.heap s.heap [] := va_S.rf
  have hSn : va_S (fun q => s.heap.size ≤ q) s.heap s.heap [] := va_S.rf
  have hP : va_P (dC, dI) zc [(h0, .inr (5, [.ref ac, w0, b0, .int dd])), (ac, .inr (0, [.int 0, ed, .int 0]))] s.heap := hP
  have hl := lv_entry ([.ref h0, .int a1, .int a2, .ref o]) (n := 5) (Nat.le_of_ble_eq_true rfl)
  rw [lg_entry_eq]
  generalize (lg_sl ([.ref h0, .int a1, .int a2, .ref o]) ++ List.replicate (5 - (lg_sl ([.ref h0, .int a1, .int a2, .ref o])).length) Slot.unset).toArray = ls at hl ⊢
  have hl : lv_has ls 5 [(0, .ref h0), (1, .int a1), (2, .int a2), (3, .ref o)] := hl
  refine lv_aload_n hx hb dL_hadGrace_0 rfl (lv_at hl 3 rfl) ?_
  refine lv_iconst (v := 0) hx hb dL_hadGrace_1 (by decide) ?_
  refine lv_aload_n hx hb dL_hadGrace_2 rfl (lv_at hl 0 rfl) ?_
  refine lv_iload_n hx hb dL_hadGrace_3 rfl (lv_at hl 1 rfl) ?_
  refine lv_iload_n hx hb dL_hadGrace_4 rfl (lv_at hl 2 rfl) ?_
  refine vx_calli (vx_runV (As := [.int a1, .int a2]) (rest := [.int 0, .ref o]) ⟨hx, hb, hml, hown, hts⟩ (c_hadGrace l hst dC dI s.heap.size t h0 ac w0 b0 dd ed a1 a2) (cwV 2 hts (zg_V kw_1223 kw_1224 kw_1225 kw_64 kw_1226) rfl rfl rfl (by decide +kernel) ⟨Nat.le_of_ble_eq_true rfl, Nat.le_of_ble_eq_true rfl⟩) ⟨zA_blind, va_recv hK hP (ci := 5) (q0 := 0) rfl rfl, zA_pre hP hD hS hK hQ hA [0, 1] rfl rfl (by decide) [] rfl⟩ rfl rfl hl.1 rfl (lv_room (Nat.le_of_ble_eq_true rfl)) dL_hadGrace_5 ⟨zl_b rfl, zl_b rfl⟩) hSn (fun q _ h => h.elim) (fun q h => Nat.le_trans (Nat.le_refl _) h) (fun q _ h => Nat.le_trans (Nat.le_refl _) h) (fun E ce q9 u t9 H1 locs1 ht hvm hp9 hE hz1 hk1 hS1 hc1 hv1 hcl1 => ?_) (fun r u t9 H1 locs1 ht hvm hw hB hz1 hk1 hS1 => hw.elim)
  have hE : E = "java/lang/IndexOutOfBoundsException" := hE
  subst hE
  refine vx_catch (own := RL) (name := "java/lang/IndexOutOfBoundsException") hown [] _ _ htab (fun z hz => absurd hz List.not_mem_nil) rfl (by decide) (hts _ kw_631) (va_Nw.use rfl (zT_kI hQ.1)) hc1 hv1 hcl1 ?_
  refine W.eq (g2 := F0 m 20 ls [.ref q9]) rfl ?_
  generalize H1 = H at hS1 ⊢
  refine W.widen (k := 1) (n := 6) (zl_b rfl) (zl_b rfl) ?_
  refine lv_astore (lv' := [(4, .ref q9), (0, .ref h0), (1, .int a1), (2, .int a2), (3, .ref o)]) hx hb dL_hadGrace_20 hl (by decide) rfl (fun ls hl => ?_)
  refine lv_iconst (v := 1) hx hb dL_hadGrace_22 (by decide) ?_
  refine vx_ret ?_
  exact W.iret hx hb hr (fun t ht hW => ⟨⟨_, (), rfl, rfl, trivial⟩, zS_F hS1 ht⟩) hS1.2.2 dL_hadGrace_23
set_option maxHeartbeats 4000000 in
set_option maxRecDepth 100000 in
/-- paid in the law: 1 -/
theorem lx_paid (l : Launch) (hst : l.stackTraces = false) (dC : Nat → ClassId) (dI : Nat → Nat → Nat) (sz t : Nat) (h0 ac o : Nat) (w0 b0 : Value) (dd : Int32) (ed : Value) (a1 a2 : Int32) : vx_Met l yL_paid ws_L_paid ({ frames := 8, cells := 1, slots := 6, locals := 142 }) (zA dC dI [(h0, .inr (5, [.ref ac, w0, b0, .int dd])), (ac, .inr (0, [.int 0, ed, .int 0]))] [] sz t [.ref h0, .int a1, .int a2, .ref o]) (va_Qi (fun r (_ : Unit) => r = 1) (fun _ _ => True) (fun q => sz ≤ q)) (vx_X (fun _ : Unit => False) (fun _ _ _ => True) (fun _ => False)) 1 6 (fun q => sz ≤ q) := by
  refine vx_ofWH (cc := cL_paid) (maxL := 5) (ret := (some .int)) (hh := [(0, 10, 13, 21), (0, 10, 17, 90)]) (by decide) rfl ?_
  intro p e s m args below meth c s₁ B hml hv
  obtain ⟨rfl, hsz, hP, hK, hD0, hQ⟩ := hv
  have hx := B.exec
  have hb := B.bytes
  have hr := B.returns
  have hts : ∀ w ∈ zG, w.before _ s = true := fun w h => atoms_spec (ws := ws_L_paid) B.pre w (List.mem_cons_of_mem _ h)
  have htab : c.exceptionTable.toList = tableOf [(0, 10, 13, 21), (0, 10, 17, 90)] := vx_table (x := yL_paid) B (atoms_spec (ws := ws_L_paid) B.pre _ List.mem_cons_self)
  have hown : s.vm.findClass RL = some m.cls := findClass_of_methodNamed B.named
  have hlocks := B.notSynchronized
  subst hsz
  have hD := hD0.self (sz := s.heap.size)
  generalize hAe : va_A [(h0, .inr (5, [.ref ac, w0, b0, .int dd])), (ac, .inr (0, [.int 0, ed, .int 0]))] s.heap.size = A at hD hQ
  have hA : ∀ q : Nat, s.heap.size ≤ q → A q := fun q h => by rw [← hAe]; exact Or.inr h
  have hS : va_S A s.heap s.heap [] := va_S.rf
  have hSn : va_S (fun q => s.heap.size ≤ q) s.heap s.heap [] := va_S.rf
  have hP : va_P (dC, dI) zc [(h0, .inr (5, [.ref ac, w0, b0, .int dd])), (ac, .inr (0, [.int 0, ed, .int 0]))] s.heap := hP
  have hl := lv_entry ([.ref h0, .int a1, .int a2, .ref o]) (n := 5) (Nat.le_of_ble_eq_true rfl)
  rw [lg_entry_eq]
  generalize (lg_sl ([.ref h0, .int a1, .int a2, .ref o]) ++ List.replicate (5 - (lg_sl ([.ref h0, .int a1, .int a2, .ref o])).length) Slot.unset).toArray = ls at hl ⊢
  have hl : lv_has ls 5 [(0, .ref h0), (1, .int a1), (2, .int a2), (3, .ref o)] := hl
  refine lv_aload_n hx hb dL_paid_0 rfl (lv_at hl 3 rfl) ?_
  refine lv_iconst (v := 0) hx hb dL_paid_1 (by decide) ?_
  refine lv_aload_n hx hb dL_paid_2 rfl (lv_at hl 0 rfl) ?_
  refine lv_iload_n hx hb dL_paid_3 rfl (lv_at hl 1 rfl) ?_
  refine lv_iload_n hx hb dL_paid_4 rfl (lv_at hl 2 rfl) ?_
  refine vx_calli (vx_runV (As := [.int a1, .int a2]) (rest := [.int 0, .ref o]) ⟨hx, hb, hml, hown, hts⟩ (c_paid l hst dC dI s.heap.size t h0 ac w0 b0 dd ed a1 a2) (cwV 2 hts (zg_V kw_1230 kw_1231 kw_1232 kw_64 kw_1233) rfl rfl rfl (by decide +kernel) ⟨Nat.le_of_ble_eq_true rfl, Nat.le_of_ble_eq_true rfl⟩) ⟨zA_blind, va_recv hK hP (ci := 5) (q0 := 0) rfl rfl, zA_pre hP hD hS hK hQ hA [0, 1] rfl rfl (by decide) [] rfl⟩ rfl rfl hl.1 rfl (lv_room (Nat.le_of_ble_eq_true rfl)) dL_paid_5 ⟨zl_b rfl, zl_b rfl⟩) hSn (fun q _ h => h.elim) (fun q h => Nat.le_trans (Nat.le_refl _) h) (fun q _ h => Nat.le_trans (Nat.le_refl _) h) (fun E ce q9 u t9 H1 locs1 ht hvm hp9 hE hz1 hk1 hS1 hc1 hv1 hcl1 => ?_) (fun r u t9 H1 locs1 ht hvm hw hB hz1 hk1 hS1 => hw.elim)
  have hE : E = "java/lang/IndexOutOfBoundsException" := hE
  subst hE
  refine vx_catch (own := RL) (name := "java/lang/IndexOutOfBoundsException") hown [] _ _ htab (fun z hz => absurd hz List.not_mem_nil) rfl (by decide) (hts _ kw_631) (va_Nw.use rfl (zT_kI hQ.1)) hc1 hv1 hcl1 ?_
  refine W.eq (g2 := F0 m 13 ls [.ref q9]) rfl ?_
  generalize H1 = H at hS1 ⊢
  refine W.widen (k := 1) (n := 6) (zl_b rfl) (zl_b rfl) ?_
  refine lv_astore (lv' := [(4, .ref q9), (0, .ref h0), (1, .int a1), (2, .int a2), (3, .ref o)]) hx hb dL_paid_13 hl (by decide) rfl (fun ls hl => ?_)
  refine lv_iconst (v := 1) hx hb dL_paid_15 (by decide) ?_
  refine vx_ret ?_
  exact W.iret hx hb hr (fun t ht hW => ⟨⟨_, (), rfl, rfl, trivial⟩, zS_F hS1 ht⟩) hS1.2.2 dL_paid_16
set_option maxHeartbeats 4000000 in
set_option maxRecDepth 100000 in
/-- missing in the law: 1 -/
theorem lx_missing (l : Launch) (hst : l.stackTraces = false) (dC : Nat → ClassId) (dI : Nat → Nat → Nat) (sz t : Nat) (h0 ac o : Nat) (w0 b0 : Value) (dd : Int32) (ed : Value) (a1 : Int32) : vx_Met l yL_missing ws_L_missing ({ frames := 8, cells := 1, slots := 6, locals := 141 }) (zA dC dI [(h0, .inr (5, [.ref ac, w0, b0, .int dd])), (ac, .inr (0, [.int 0, ed, .int 0]))] [] sz t [.ref h0, .int a1, .ref o]) (va_Qi (fun r (_ : Unit) => r = 1) (fun _ _ => True) (fun q => sz ≤ q)) (vx_X (fun _ : Unit => False) (fun _ _ _ => True) (fun _ => False)) 1 6 (fun q => sz ≤ q) := by
  refine vx_ofWH (cc := cL_missing) (maxL := 4) (ret := (some .int)) (hh := [(0, 8, 11, 21)]) (by decide) rfl ?_
  intro p e s m args below meth c s₁ B hml hv
  obtain ⟨rfl, hsz, hP, hK, hD0, hQ⟩ := hv
  have hx := B.exec
  have hb := B.bytes
  have hr := B.returns
  have hts : ∀ w ∈ zG, w.before _ s = true := fun w h => atoms_spec (ws := ws_L_missing) B.pre w (List.mem_cons_of_mem _ h)
  have htab : c.exceptionTable.toList = tableOf [(0, 8, 11, 21)] := vx_table (x := yL_missing) B (atoms_spec (ws := ws_L_missing) B.pre _ List.mem_cons_self)
  have hown : s.vm.findClass RL = some m.cls := findClass_of_methodNamed B.named
  have hlocks := B.notSynchronized
  subst hsz
  have hD := hD0.self (sz := s.heap.size)
  generalize hAe : va_A [(h0, .inr (5, [.ref ac, w0, b0, .int dd])), (ac, .inr (0, [.int 0, ed, .int 0]))] s.heap.size = A at hD hQ
  have hA : ∀ q : Nat, s.heap.size ≤ q → A q := fun q h => by rw [← hAe]; exact Or.inr h
  have hS : va_S A s.heap s.heap [] := va_S.rf
  have hSn : va_S (fun q => s.heap.size ≤ q) s.heap s.heap [] := va_S.rf
  have hP : va_P (dC, dI) zc [(h0, .inr (5, [.ref ac, w0, b0, .int dd])), (ac, .inr (0, [.int 0, ed, .int 0]))] s.heap := hP
  have hl := lv_entry ([.ref h0, .int a1, .ref o]) (n := 4) (Nat.le_of_ble_eq_true rfl)
  rw [lg_entry_eq]
  generalize (lg_sl ([.ref h0, .int a1, .ref o]) ++ List.replicate (4 - (lg_sl ([.ref h0, .int a1, .ref o])).length) Slot.unset).toArray = ls at hl ⊢
  have hl : lv_has ls 4 [(0, .ref h0), (1, .int a1), (2, .ref o)] := hl
  refine lv_aload_n hx hb dL_missing_0 rfl (lv_at hl 2 rfl) ?_
  refine lv_iconst (v := 0) hx hb dL_missing_1 (by decide) ?_
  refine lv_aload_n hx hb dL_missing_2 rfl (lv_at hl 0 rfl) ?_
  refine lv_iload_n hx hb dL_missing_3 rfl (lv_at hl 1 rfl) ?_
  refine vx_calll (vx_runV (As := [.int a1]) (rest := [.int 0, .ref o]) ⟨hx, hb, hml, hown, hts⟩ (c_missing l hst dC dI s.heap.size t h0 ac w0 b0 dd ed a1) (cwV 1 hts (zg_V kw_1237 kw_1238 kw_1239 kw_64 kw_1240) rfl rfl rfl (by decide +kernel) ⟨Nat.le_of_ble_eq_true rfl, Nat.le_of_ble_eq_true rfl⟩) ⟨zA_blind, va_recv hK hP (ci := 5) (q0 := 0) rfl rfl, zA_pre hP hD hS hK hQ hA [0, 1] rfl rfl (by decide) [] rfl⟩ rfl rfl hl.1 rfl (lv_room (Nat.le_of_ble_eq_true rfl)) dL_missing_4 ⟨zl_b rfl, zl_b rfl⟩) hSn (fun q _ h => h.elim) (fun q h => Nat.le_trans (Nat.le_refl _) h) (fun q _ h => Nat.le_trans (Nat.le_refl _) h) (fun E ce q9 u t9 H1 locs1 ht hvm hp9 hE hz1 hk1 hS1 hc1 hv1 hcl1 => ?_) (fun r u t9 H1 locs1 ht hvm hw hB hz1 hk1 hS1 => hw.elim)
  have hE : E = "java/lang/IndexOutOfBoundsException" := hE
  subst hE
  refine vx_catch (own := RL) (name := "java/lang/IndexOutOfBoundsException") hown [] _ _ htab (fun z hz => absurd hz List.not_mem_nil) rfl (by decide) (hts _ kw_631) (va_Nw.use rfl (zT_kI hQ.1)) hc1 hv1 hcl1 ?_
  refine W.eq (g2 := F0 m 11 ls [.ref q9]) rfl ?_
  generalize H1 = H at hS1 ⊢
  refine W.widen (k := 1) (n := 6) (zl_b rfl) (zl_b rfl) ?_
  refine lv_astore_n (lv' := [(3, .ref q9), (0, .ref h0), (1, .int a1), (2, .ref o)]) hx hb dL_missing_11 rfl hl (by decide) rfl (fun ls hl => ?_)
  refine lv_iconst (v := 1) hx hb dL_missing_12 (by decide) ?_
  refine vx_ret ?_
  exact W.iret hx hb hr (fun t ht hW => ⟨⟨_, (), rfl, rfl, trivial⟩, zS_F hS1 ht⟩) hS1.2.2 dL_missing_13
set_option maxHeartbeats 4000000 in
set_option maxRecDepth 100000 in
/-- missed in the law: 1 -/
theorem lx_missed (l : Launch) (hst : l.stackTraces = false) (dC : Nat → ClassId) (dI : Nat → Nat → Nat) (sz t : Nat) (h0 ac o : Nat) (w0 b0 : Value) (dd : Int32) (ed : Value) (a1 : Int32) : vx_Met l yL_missed ws_L_missed ({ frames := 8, cells := 1, slots := 6, locals := 141 }) (zA dC dI [(h0, .inr (5, [.ref ac, w0, b0, .int dd])), (ac, .inr (0, [.int 0, ed, .int 0]))] [] sz t [.ref h0, .int a1, .ref o]) (va_Qi (fun r (_ : Unit) => r = 1) (fun _ _ => True) (fun q => sz ≤ q)) (vx_X (fun _ : Unit => False) (fun _ _ _ => True) (fun _ => False)) 1 6 (fun q => sz ≤ q) := by
  refine vx_ofWH (cc := cL_missed) (maxL := 4) (ret := (some .int)) (hh := [(0, 9, 12, 21)]) (by decide) rfl ?_
  intro p e s m args below meth c s₁ B hml hv
  obtain ⟨rfl, hsz, hP, hK, hD0, hQ⟩ := hv
  have hx := B.exec
  have hb := B.bytes
  have hr := B.returns
  have hts : ∀ w ∈ zG, w.before _ s = true := fun w h => atoms_spec (ws := ws_L_missed) B.pre w (List.mem_cons_of_mem _ h)
  have htab : c.exceptionTable.toList = tableOf [(0, 9, 12, 21)] := vx_table (x := yL_missed) B (atoms_spec (ws := ws_L_missed) B.pre _ List.mem_cons_self)
  have hown : s.vm.findClass RL = some m.cls := findClass_of_methodNamed B.named
  have hlocks := B.notSynchronized
  subst hsz
  have hD := hD0.self (sz := s.heap.size)
  generalize hAe : va_A [(h0, .inr (5, [.ref ac, w0, b0, .int dd])), (ac, .inr (0, [.int 0, ed, .int 0]))] s.heap.size = A at hD hQ
  have hA : ∀ q : Nat, s.heap.size ≤ q → A q := fun q h => by rw [← hAe]; exact Or.inr h
  have hS : va_S A s.heap s.heap [] := va_S.rf
  have hSn : va_S (fun q => s.heap.size ≤ q) s.heap s.heap [] := va_S.rf
  have hP : va_P (dC, dI) zc [(h0, .inr (5, [.ref ac, w0, b0, .int dd])), (ac, .inr (0, [.int 0, ed, .int 0]))] s.heap := hP
  have hl := lv_entry ([.ref h0, .int a1, .ref o]) (n := 4) (Nat.le_of_ble_eq_true rfl)
  rw [lg_entry_eq]
  generalize (lg_sl ([.ref h0, .int a1, .ref o]) ++ List.replicate (4 - (lg_sl ([.ref h0, .int a1, .ref o])).length) Slot.unset).toArray = ls at hl ⊢
  have hl : lv_has ls 4 [(0, .ref h0), (1, .int a1), (2, .ref o)] := hl
  refine lv_aload_n hx hb dL_missed_0 rfl (lv_at hl 2 rfl) ?_
  refine lv_iconst (v := 0) hx hb dL_missed_1 (by decide) ?_
  refine lv_aload_n hx hb dL_missed_2 rfl (lv_at hl 0 rfl) ?_
  refine lv_iload_n hx hb dL_missed_3 rfl (lv_at hl 1 rfl) ?_
  refine vx_calli (vx_runV (As := [.int a1]) (rest := [.int 0, .ref o]) ⟨hx, hb, hml, hown, hts⟩ (c_missed l hst dC dI s.heap.size t h0 ac w0 b0 dd ed a1) (cwV 1 hts (zg_V kw_1245 kw_1246 kw_1247 kw_64 kw_1248) rfl rfl rfl (by decide +kernel) ⟨Nat.le_of_ble_eq_true rfl, Nat.le_of_ble_eq_true rfl⟩) ⟨zA_blind, va_recv hK hP (ci := 5) (q0 := 0) rfl rfl, zA_pre hP hD hS hK hQ hA [0, 1] rfl rfl (by decide) [] rfl⟩ rfl rfl hl.1 rfl (lv_room (Nat.le_of_ble_eq_true rfl)) dL_missed_4 ⟨zl_b rfl, zl_b rfl⟩) hSn (fun q _ h => h.elim) (fun q h => Nat.le_trans (Nat.le_refl _) h) (fun q _ h => Nat.le_trans (Nat.le_refl _) h) (fun E ce q9 u t9 H1 locs1 ht hvm hp9 hE hz1 hk1 hS1 hc1 hv1 hcl1 => ?_) (fun r u t9 H1 locs1 ht hvm hw hB hz1 hk1 hS1 => hw.elim)
  have hE : E = "java/lang/IndexOutOfBoundsException" := hE
  subst hE
  refine vx_catch (own := RL) (name := "java/lang/IndexOutOfBoundsException") hown [] _ _ htab (fun z hz => absurd hz List.not_mem_nil) rfl (by decide) (hts _ kw_631) (va_Nw.use rfl (zT_kI hQ.1)) hc1 hv1 hcl1 ?_
  refine W.eq (g2 := F0 m 12 ls [.ref q9]) rfl ?_
  generalize H1 = H at hS1 ⊢
  refine W.widen (k := 1) (n := 6) (zl_b rfl) (zl_b rfl) ?_
  refine lv_astore_n (lv' := [(3, .ref q9), (0, .ref h0), (1, .int a1), (2, .ref o)]) hx hb dL_missed_12 rfl hl (by decide) rfl (fun ls hl => ?_)
  refine lv_iconst (v := 1) hx hb dL_missed_13 (by decide) ?_
  refine vx_ret ?_
  exact W.iret hx hb hr (fun t ht hW => ⟨⟨_, (), rfl, rfl, trivial⟩, zS_F hS1 ht⟩) hS1.2.2 dL_missed_14
set_option maxHeartbeats 4000000 in
set_option maxRecDepth 100000 in
/-- isOff in the law: 1 -/
theorem lx_isOff (l : Launch) (hst : l.stackTraces = false) (dC : Nat → ClassId) (dI : Nat → Nat → Nat) (sz t : Nat) (h0 ac o : Nat) (w0 b0 : Value) (dd : Int32) (ed : Value) (a1 : Int32) : vx_Met l yL_isOff ws_L_isOff ({ frames := 8, cells := 1, slots := 6, locals := 141 }) (zA dC dI [(h0, .inr (5, [.ref ac, w0, b0, .int dd])), (ac, .inr (0, [.int 0, ed, .int 0]))] [] sz t [.ref h0, .int a1, .ref o]) (va_Qi (fun r (_ : Unit) => r = 1) (fun _ _ => True) (fun q => sz ≤ q)) (vx_X (fun _ : Unit => False) (fun _ _ _ => True) (fun _ => False)) 1 6 (fun q => sz ≤ q) := by
  refine vx_ofWH (cc := cL_isOff) (maxL := 4) (ret := (some .int)) (hh := [(0, 16, 19, 21)]) (by decide) rfl ?_
  intro p e s m args below meth c s₁ B hml hv
  obtain ⟨rfl, hsz, hP, hK, hD0, hQ⟩ := hv
  have hx := B.exec
  have hb := B.bytes
  have hr := B.returns
  have hts : ∀ w ∈ zG, w.before _ s = true := fun w h => atoms_spec (ws := ws_L_isOff) B.pre w (List.mem_cons_of_mem _ h)
  have htab : c.exceptionTable.toList = tableOf [(0, 16, 19, 21)] := vx_table (x := yL_isOff) B (atoms_spec (ws := ws_L_isOff) B.pre _ List.mem_cons_self)
  have hown : s.vm.findClass RL = some m.cls := findClass_of_methodNamed B.named
  have hlocks := B.notSynchronized
  subst hsz
  have hD := hD0.self (sz := s.heap.size)
  generalize hAe : va_A [(h0, .inr (5, [.ref ac, w0, b0, .int dd])), (ac, .inr (0, [.int 0, ed, .int 0]))] s.heap.size = A at hD hQ
  have hA : ∀ q : Nat, s.heap.size ≤ q → A q := fun q h => by rw [← hAe]; exact Or.inr h
  have hS : va_S A s.heap s.heap [] := va_S.rf
  have hSn : va_S (fun q => s.heap.size ≤ q) s.heap s.heap [] := va_S.rf
  have hP : va_P (dC, dI) zc [(h0, .inr (5, [.ref ac, w0, b0, .int dd])), (ac, .inr (0, [.int 0, ed, .int 0]))] s.heap := hP
  have hl := lv_entry ([.ref h0, .int a1, .ref o]) (n := 4) (Nat.le_of_ble_eq_true rfl)
  rw [lg_entry_eq]
  generalize (lg_sl ([.ref h0, .int a1, .ref o]) ++ List.replicate (4 - (lg_sl ([.ref h0, .int a1, .ref o])).length) Slot.unset).toArray = ls at hl ⊢
  have hl : lv_has ls 4 [(0, .ref h0), (1, .int a1), (2, .ref o)] := hl
  refine lv_aload_n hx hb dL_isOff_0 rfl (lv_at hl 2 rfl) ?_
  refine lv_iconst (v := 0) hx hb dL_isOff_1 (by decide) ?_
  refine lv_aload_n hx hb dL_isOff_2 rfl (lv_at hl 0 rfl) ?_
  refine lv_iload_n hx hb dL_isOff_3 rfl (lv_at hl 1 rfl) ?_
  refine vx_calli (vx_runV (As := [.int a1]) (rest := [.int 0, .ref o]) ⟨hx, hb, hml, hown, hts⟩ (c_isOff l hst dC dI s.heap.size t h0 ac w0 b0 dd ed a1) (cwV 1 hts (zg_V kw_1252 kw_1253 kw_1254 kw_64 kw_1255) rfl rfl rfl (by decide +kernel) ⟨Nat.le_of_ble_eq_true rfl, Nat.le_of_ble_eq_true rfl⟩) ⟨zA_blind, va_recv hK hP (ci := 5) (q0 := 0) rfl rfl, zA_pre hP hD hS hK hQ hA [0, 1] rfl rfl (by decide) [] rfl⟩ rfl rfl hl.1 rfl (lv_room (Nat.le_of_ble_eq_true rfl)) dL_isOff_4 ⟨zl_b rfl, zl_b rfl⟩) hSn (fun q _ h => h.elim) (fun q h => Nat.le_trans (Nat.le_refl _) h) (fun q _ h => Nat.le_trans (Nat.le_refl _) h) (fun E ce q9 u t9 H1 locs1 ht hvm hp9 hE hz1 hk1 hS1 hc1 hv1 hcl1 => ?_) (fun r u t9 H1 locs1 ht hvm hw hB hz1 hk1 hS1 => hw.elim)
  have hE : E = "java/lang/IndexOutOfBoundsException" := hE
  subst hE
  refine vx_catch (own := RL) (name := "java/lang/IndexOutOfBoundsException") hown [] _ _ htab (fun z hz => absurd hz List.not_mem_nil) rfl (by decide) (hts _ kw_631) (va_Nw.use rfl (zT_kI hQ.1)) hc1 hv1 hcl1 ?_
  refine W.eq (g2 := F0 m 19 ls [.ref q9]) rfl ?_
  generalize H1 = H at hS1 ⊢
  refine W.widen (k := 1) (n := 6) (zl_b rfl) (zl_b rfl) ?_
  refine lv_astore_n (lv' := [(3, .ref q9), (0, .ref h0), (1, .int a1), (2, .ref o)]) hx hb dL_isOff_19 rfl hl (by decide) rfl (fun ls hl => ?_)
  refine lv_iconst (v := 1) hx hb dL_isOff_20 (by decide) ?_
  refine vx_ret ?_
  exact W.iret hx hb hr (fun t ht hW => ⟨⟨_, (), rfl, rfl, trivial⟩, zS_F hS1 ht⟩) hS1.2.2 dL_isOff_21
set_option maxHeartbeats 4000000 in
set_option maxRecDepth 100000 in
/-- points in the law: 1 -/
theorem lx_points (l : Launch) (hst : l.stackTraces = false) (dC : Nat → ClassId) (dI : Nat → Nat → Nat) (sz t : Nat) (h0 ac o : Nat) (w0 b0 : Value) (dd : Int32) (ed : Value) (a1 : Int32) : vx_Met l yL_points ws_L_points ({ frames := 8, cells := 1, slots := 6, locals := 141 }) (zA dC dI [(h0, .inr (5, [.ref ac, w0, b0, .int dd])), (ac, .inr (0, [.int 0, ed, .int 0]))] [] sz t [.ref h0, .int a1, .ref o]) (va_Qi (fun r (_ : Unit) => r = 1) (fun _ _ => True) (fun q => sz ≤ q)) (vx_X (fun _ : Unit => False) (fun _ _ _ => True) (fun _ => False)) 1 6 (fun q => sz ≤ q) := by
  refine vx_ofWH (cc := cL_points) (maxL := 4) (ret := (some .int)) (hh := [(0, 8, 11, 21)]) (by decide) rfl ?_
  intro p e s m args below meth c s₁ B hml hv
  obtain ⟨rfl, hsz, hP, hK, hD0, hQ⟩ := hv
  have hx := B.exec
  have hb := B.bytes
  have hr := B.returns
  have hts : ∀ w ∈ zG, w.before _ s = true := fun w h => atoms_spec (ws := ws_L_points) B.pre w (List.mem_cons_of_mem _ h)
  have htab : c.exceptionTable.toList = tableOf [(0, 8, 11, 21)] := vx_table (x := yL_points) B (atoms_spec (ws := ws_L_points) B.pre _ List.mem_cons_self)
  have hown : s.vm.findClass RL = some m.cls := findClass_of_methodNamed B.named
  have hlocks := B.notSynchronized
  subst hsz
  have hD := hD0.self (sz := s.heap.size)
  generalize hAe : va_A [(h0, .inr (5, [.ref ac, w0, b0, .int dd])), (ac, .inr (0, [.int 0, ed, .int 0]))] s.heap.size = A at hD hQ
  have hA : ∀ q : Nat, s.heap.size ≤ q → A q := fun q h => by rw [← hAe]; exact Or.inr h
  have hS : va_S A s.heap s.heap [] := va_S.rf
  have hSn : va_S (fun q => s.heap.size ≤ q) s.heap s.heap [] := va_S.rf
  have hP : va_P (dC, dI) zc [(h0, .inr (5, [.ref ac, w0, b0, .int dd])), (ac, .inr (0, [.int 0, ed, .int 0]))] s.heap := hP
  have hl := lv_entry ([.ref h0, .int a1, .ref o]) (n := 4) (Nat.le_of_ble_eq_true rfl)
  rw [lg_entry_eq]
  generalize (lg_sl ([.ref h0, .int a1, .ref o]) ++ List.replicate (4 - (lg_sl ([.ref h0, .int a1, .ref o])).length) Slot.unset).toArray = ls at hl ⊢
  have hl : lv_has ls 4 [(0, .ref h0), (1, .int a1), (2, .ref o)] := hl
  refine lv_aload_n hx hb dL_points_0 rfl (lv_at hl 2 rfl) ?_
  refine lv_iconst (v := 0) hx hb dL_points_1 (by decide) ?_
  refine lv_aload_n hx hb dL_points_2 rfl (lv_at hl 0 rfl) ?_
  refine lv_iload_n hx hb dL_points_3 rfl (lv_at hl 1 rfl) ?_
  refine vx_calll (vx_runV (As := [.int a1]) (rest := [.int 0, .ref o]) ⟨hx, hb, hml, hown, hts⟩ (c_points l hst dC dI s.heap.size t h0 ac w0 b0 dd ed a1) (cwV 1 hts (zg_V kw_1259 kw_1260 kw_1261 kw_64 kw_1262) rfl rfl rfl (by decide +kernel) ⟨Nat.le_of_ble_eq_true rfl, Nat.le_of_ble_eq_true rfl⟩) ⟨zA_blind, va_recv hK hP (ci := 5) (q0 := 0) rfl rfl, zA_pre hP hD hS hK hQ hA [0, 1] rfl rfl (by decide) [] rfl⟩ rfl rfl hl.1 rfl (lv_room (Nat.le_of_ble_eq_true rfl)) dL_points_4 ⟨zl_b rfl, zl_b rfl⟩) hSn (fun q _ h => h.elim) (fun q h => Nat.le_trans (Nat.le_refl _) h) (fun q _ h => Nat.le_trans (Nat.le_refl _) h) (fun E ce q9 u t9 H1 locs1 ht hvm hp9 hE hz1 hk1 hS1 hc1 hv1 hcl1 => ?_) (fun r u t9 H1 locs1 ht hvm hw hB hz1 hk1 hS1 => hw.elim)
  have hE : E = "java/lang/IndexOutOfBoundsException" := hE
  subst hE
  refine vx_catch (own := RL) (name := "java/lang/IndexOutOfBoundsException") hown [] _ _ htab (fun z hz => absurd hz List.not_mem_nil) rfl (by decide) (hts _ kw_631) (va_Nw.use rfl (zT_kI hQ.1)) hc1 hv1 hcl1 ?_
  refine W.eq (g2 := F0 m 11 ls [.ref q9]) rfl ?_
  generalize H1 = H at hS1 ⊢
  refine W.widen (k := 1) (n := 6) (zl_b rfl) (zl_b rfl) ?_
  refine lv_astore_n (lv' := [(3, .ref q9), (0, .ref h0), (1, .int a1), (2, .ref o)]) hx hb dL_points_11 rfl hl (by decide) rfl (fun ls hl => ?_)
  refine lv_iconst (v := 1) hx hb dL_points_12 (by decide) ?_
  refine vx_ret ?_
  exact W.iret hx hb hr (fun t ht hW => ⟨⟨_, (), rfl, rfl, trivial⟩, zS_F hS1 ht⟩) hS1.2.2 dL_points_13
set_option maxHeartbeats 4000000 in
set_option maxRecDepth 100000 in
/-- events in the law: 1 -/
theorem lx_events (l : Launch) (hst : l.stackTraces = false) (dC : Nat → ClassId) (dI : Nat → Nat → Nat) (sz t : Nat) (h0 ac o : Nat) (w0 b0 : Value) (dd : Int32) (ed : Value) (a1 : Int32) : vx_Met l yL_events ws_L_events ({ frames := 8, cells := 1, slots := 6, locals := 141 }) (zA dC dI [(h0, .inr (5, [.ref ac, w0, b0, .int dd])), (ac, .inr (0, [.int 0, ed, .int 0]))] [] sz t [.ref h0, .int a1, .ref o]) (va_Qi (fun r (_ : Unit) => r = 1) (fun _ _ => True) (fun q => sz ≤ q)) (vx_X (fun _ : Unit => False) (fun _ _ _ => True) (fun _ => False)) 1 6 (fun q => sz ≤ q) := by
  refine vx_ofWH (cc := cL_events) (maxL := 4) (ret := (some .int)) (hh := [(0, 9, 12, 21)]) (by decide) rfl ?_
  intro p e s m args below meth c s₁ B hml hv
  obtain ⟨rfl, hsz, hP, hK, hD0, hQ⟩ := hv
  have hx := B.exec
  have hb := B.bytes
  have hr := B.returns
  have hts : ∀ w ∈ zG, w.before _ s = true := fun w h => atoms_spec (ws := ws_L_events) B.pre w (List.mem_cons_of_mem _ h)
  have htab : c.exceptionTable.toList = tableOf [(0, 9, 12, 21)] := vx_table (x := yL_events) B (atoms_spec (ws := ws_L_events) B.pre _ List.mem_cons_self)
  have hown : s.vm.findClass RL = some m.cls := findClass_of_methodNamed B.named
  have hlocks := B.notSynchronized
  subst hsz
  have hD := hD0.self (sz := s.heap.size)
  generalize hAe : va_A [(h0, .inr (5, [.ref ac, w0, b0, .int dd])), (ac, .inr (0, [.int 0, ed, .int 0]))] s.heap.size = A at hD hQ
  have hA : ∀ q : Nat, s.heap.size ≤ q → A q := fun q h => by rw [← hAe]; exact Or.inr h
  have hS : va_S A s.heap s.heap [] := va_S.rf
  have hSn : va_S (fun q => s.heap.size ≤ q) s.heap s.heap [] := va_S.rf
  have hP : va_P (dC, dI) zc [(h0, .inr (5, [.ref ac, w0, b0, .int dd])), (ac, .inr (0, [.int 0, ed, .int 0]))] s.heap := hP
  have hl := lv_entry ([.ref h0, .int a1, .ref o]) (n := 4) (Nat.le_of_ble_eq_true rfl)
  rw [lg_entry_eq]
  generalize (lg_sl ([.ref h0, .int a1, .ref o]) ++ List.replicate (4 - (lg_sl ([.ref h0, .int a1, .ref o])).length) Slot.unset).toArray = ls at hl ⊢
  have hl : lv_has ls 4 [(0, .ref h0), (1, .int a1), (2, .ref o)] := hl
  refine lv_aload_n hx hb dL_events_0 rfl (lv_at hl 2 rfl) ?_
  refine lv_iconst (v := 0) hx hb dL_events_1 (by decide) ?_
  refine lv_aload_n hx hb dL_events_2 rfl (lv_at hl 0 rfl) ?_
  refine lv_iload_n hx hb dL_events_3 rfl (lv_at hl 1 rfl) ?_
  refine vx_calli (vx_runV (As := [.int a1]) (rest := [.int 0, .ref o]) ⟨hx, hb, hml, hown, hts⟩ (c_events l hst dC dI s.heap.size t h0 ac w0 b0 dd ed a1) (cwV 1 hts (zg_V kw_1266 kw_1267 kw_1268 kw_64 kw_1269) rfl rfl rfl (by decide +kernel) ⟨Nat.le_of_ble_eq_true rfl, Nat.le_of_ble_eq_true rfl⟩) ⟨zA_blind, va_recv hK hP (ci := 5) (q0 := 0) rfl rfl, zA_pre hP hD hS hK hQ hA [0, 1] rfl rfl (by decide) [] rfl⟩ rfl rfl hl.1 rfl (lv_room (Nat.le_of_ble_eq_true rfl)) dL_events_4 ⟨zl_b rfl, zl_b rfl⟩) hSn (fun q _ h => h.elim) (fun q h => Nat.le_trans (Nat.le_refl _) h) (fun q _ h => Nat.le_trans (Nat.le_refl _) h) (fun E ce q9 u t9 H1 locs1 ht hvm hp9 hE hz1 hk1 hS1 hc1 hv1 hcl1 => ?_) (fun r u t9 H1 locs1 ht hvm hw hB hz1 hk1 hS1 => hw.elim)
  have hE : E = "java/lang/IndexOutOfBoundsException" := hE
  subst hE
  refine vx_catch (own := RL) (name := "java/lang/IndexOutOfBoundsException") hown [] _ _ htab (fun z hz => absurd hz List.not_mem_nil) rfl (by decide) (hts _ kw_631) (va_Nw.use rfl (zT_kI hQ.1)) hc1 hv1 hcl1 ?_
  refine W.eq (g2 := F0 m 12 ls [.ref q9]) rfl ?_
  generalize H1 = H at hS1 ⊢
  refine W.widen (k := 1) (n := 6) (zl_b rfl) (zl_b rfl) ?_
  refine lv_astore_n (lv' := [(3, .ref q9), (0, .ref h0), (1, .int a1), (2, .ref o)]) hx hb dL_events_12 rfl hl (by decide) rfl (fun ls hl => ?_)
  refine lv_iconst (v := 1) hx hb dL_events_13 (by decide) ?_
  refine vx_ret ?_
  exact W.iret hx hb hr (fun t ht hW => ⟨⟨_, (), rfl, rfl, trivial⟩, zS_F hS1 ht⟩) hS1.2.2 dL_events_14
set_option maxHeartbeats 4000000 in
set_option maxRecDepth 100000 in
/-- kindOf in the law: 1 -/
theorem lx_kindOf (l : Launch) (hst : l.stackTraces = false) (dC : Nat → ClassId) (dI : Nat → Nat → Nat) (sz t : Nat) (h0 ac o : Nat) (w0 b0 : Value) (dd : Int32) (ed : Value) (a1 a2 : Int32) : vx_Met l yL_kindOf ws_L_kindOf ({ frames := 8, cells := 1, slots := 6, locals := 142 }) (zA dC dI [(h0, .inr (5, [.ref ac, w0, b0, .int dd])), (ac, .inr (0, [.int 0, ed, .int 0]))] [] sz t [.ref h0, .int a1, .int a2, .ref o]) (va_Qi (fun r (_ : Unit) => r = 1) (fun _ _ => True) (fun q => sz ≤ q)) (vx_X (fun _ : Unit => False) (fun _ _ _ => True) (fun _ => False)) 1 6 (fun q => sz ≤ q) := by
  refine vx_ofWH (cc := cL_kindOf) (maxL := 5) (ret := (some .int)) (hh := [(0, 10, 13, 21)]) (by decide) rfl ?_
  intro p e s m args below meth c s₁ B hml hv
  obtain ⟨rfl, hsz, hP, hK, hD0, hQ⟩ := hv
  have hx := B.exec
  have hb := B.bytes
  have hr := B.returns
  have hts : ∀ w ∈ zG, w.before _ s = true := fun w h => atoms_spec (ws := ws_L_kindOf) B.pre w (List.mem_cons_of_mem _ h)
  have htab : c.exceptionTable.toList = tableOf [(0, 10, 13, 21)] := vx_table (x := yL_kindOf) B (atoms_spec (ws := ws_L_kindOf) B.pre _ List.mem_cons_self)
  have hown : s.vm.findClass RL = some m.cls := findClass_of_methodNamed B.named
  have hlocks := B.notSynchronized
  subst hsz
  have hD := hD0.self (sz := s.heap.size)
  generalize hAe : va_A [(h0, .inr (5, [.ref ac, w0, b0, .int dd])), (ac, .inr (0, [.int 0, ed, .int 0]))] s.heap.size = A at hD hQ
  have hA : ∀ q : Nat, s.heap.size ≤ q → A q := fun q h => by rw [← hAe]; exact Or.inr h
  have hS : va_S A s.heap s.heap [] := va_S.rf
  have hSn : va_S (fun q => s.heap.size ≤ q) s.heap s.heap [] := va_S.rf
  have hP : va_P (dC, dI) zc [(h0, .inr (5, [.ref ac, w0, b0, .int dd])), (ac, .inr (0, [.int 0, ed, .int 0]))] s.heap := hP
  have hl := lv_entry ([.ref h0, .int a1, .int a2, .ref o]) (n := 5) (Nat.le_of_ble_eq_true rfl)
  rw [lg_entry_eq]
  generalize (lg_sl ([.ref h0, .int a1, .int a2, .ref o]) ++ List.replicate (5 - (lg_sl ([.ref h0, .int a1, .int a2, .ref o])).length) Slot.unset).toArray = ls at hl ⊢
  have hl : lv_has ls 5 [(0, .ref h0), (1, .int a1), (2, .int a2), (3, .ref o)] := hl
  refine lv_aload_n hx hb dL_kindOf_0 rfl (lv_at hl 3 rfl) ?_
  refine lv_iconst (v := 0) hx hb dL_kindOf_1 (by decide) ?_
  refine lv_aload_n hx hb dL_kindOf_2 rfl (lv_at hl 0 rfl) ?_
  refine lv_iload_n hx hb dL_kindOf_3 rfl (lv_at hl 1 rfl) ?_
  refine lv_iload_n hx hb dL_kindOf_4 rfl (lv_at hl 2 rfl) ?_
  refine vx_calli (vx_runV (As := [.int a1, .int a2]) (rest := [.int 0, .ref o]) ⟨hx, hb, hml, hown, hts⟩ (c_kindOf l hst dC dI s.heap.size t h0 ac w0 b0 dd ed a1 a2) (cwV 2 hts (zg_V kw_1273 kw_1274 kw_1275 kw_64 kw_1276) rfl rfl rfl (by decide +kernel) ⟨Nat.le_of_ble_eq_true rfl, Nat.le_of_ble_eq_true rfl⟩) ⟨zA_blind, va_recv hK hP (ci := 5) (q0 := 0) rfl rfl, zA_pre hP hD hS hK hQ hA [0, 1] rfl rfl (by decide) [] rfl⟩ rfl rfl hl.1 rfl (lv_room (Nat.le_of_ble_eq_true rfl)) dL_kindOf_5 ⟨zl_b rfl, zl_b rfl⟩) hSn (fun q _ h => h.elim) (fun q h => Nat.le_trans (Nat.le_refl _) h) (fun q _ h => Nat.le_trans (Nat.le_refl _) h) (fun E ce q9 u t9 H1 locs1 ht hvm hp9 hE hz1 hk1 hS1 hc1 hv1 hcl1 => ?_) (fun r u t9 H1 locs1 ht hvm hw hB hz1 hk1 hS1 => hw.elim)
  have hE : E = "java/lang/IndexOutOfBoundsException" := hE
  subst hE
  refine vx_catch (own := RL) (name := "java/lang/IndexOutOfBoundsException") hown [] _ _ htab (fun z hz => absurd hz List.not_mem_nil) rfl (by decide) (hts _ kw_631) (va_Nw.use rfl (zT_kI hQ.1)) hc1 hv1 hcl1 ?_
  refine W.eq (g2 := F0 m 13 ls [.ref q9]) rfl ?_
  generalize H1 = H at hS1 ⊢
  refine W.widen (k := 1) (n := 6) (zl_b rfl) (zl_b rfl) ?_
  refine lv_astore (lv' := [(4, .ref q9), (0, .ref h0), (1, .int a1), (2, .int a2), (3, .ref o)]) hx hb dL_kindOf_13 hl (by decide) rfl (fun ls hl => ?_)
  refine lv_iconst (v := 1) hx hb dL_kindOf_15 (by decide) ?_
  refine vx_ret ?_
  exact W.iret hx hb hr (fun t ht hW => ⟨⟨_, (), rfl, rfl, trivial⟩, zS_F hS1 ht⟩) hS1.2.2 dL_kindOf_16
set_option maxHeartbeats 4000000 in
set_option maxRecDepth 100000 in
/-- isBack in the law: 1 -/
theorem lx_isBack (l : Launch) (hst : l.stackTraces = false) (dC : Nat → ClassId) (dI : Nat → Nat → Nat) (sz t : Nat) (h0 ac o : Nat) (w0 b0 : Value) (dd : Int32) (ed : Value) (a1 a2 : Int32) : vx_Met l yL_isBack ws_L_isBack ({ frames := 8, cells := 1, slots := 6, locals := 142 }) (zA dC dI [(h0, .inr (5, [.ref ac, w0, b0, .int dd])), (ac, .inr (0, [.int 0, ed, .int 0]))] [] sz t [.ref h0, .int a1, .int a2, .ref o]) (va_Qi (fun r (_ : Unit) => r = 1) (fun _ _ => True) (fun q => sz ≤ q)) (vx_X (fun _ : Unit => False) (fun _ _ _ => True) (fun _ => False)) 1 6 (fun q => sz ≤ q) := by
  refine vx_ofWH (cc := cL_isBack) (maxL := 5) (ret := (some .int)) (hh := [(0, 17, 20, 21)]) (by decide) rfl ?_
  intro p e s m args below meth c s₁ B hml hv
  obtain ⟨rfl, hsz, hP, hK, hD0, hQ⟩ := hv
  have hx := B.exec
  have hb := B.bytes
  have hr := B.returns
  have hts : ∀ w ∈ zG, w.before _ s = true := fun w h => atoms_spec (ws := ws_L_isBack) B.pre w (List.mem_cons_of_mem _ h)
  have htab : c.exceptionTable.toList = tableOf [(0, 17, 20, 21)] := vx_table (x := yL_isBack) B (atoms_spec (ws := ws_L_isBack) B.pre _ List.mem_cons_self)
  have hown : s.vm.findClass RL = some m.cls := findClass_of_methodNamed B.named
  have hlocks := B.notSynchronized
  subst hsz
  have hD := hD0.self (sz := s.heap.size)
  generalize hAe : va_A [(h0, .inr (5, [.ref ac, w0, b0, .int dd])), (ac, .inr (0, [.int 0, ed, .int 0]))] s.heap.size = A at hD hQ
  have hA : ∀ q : Nat, s.heap.size ≤ q → A q := fun q h => by rw [← hAe]; exact Or.inr h
  have hS : va_S A s.heap s.heap [] := va_S.rf
  have hSn : va_S (fun q => s.heap.size ≤ q) s.heap s.heap [] := va_S.rf
  have hP : va_P (dC, dI) zc [(h0, .inr (5, [.ref ac, w0, b0, .int dd])), (ac, .inr (0, [.int 0, ed, .int 0]))] s.heap := hP
  have hl := lv_entry ([.ref h0, .int a1, .int a2, .ref o]) (n := 5) (Nat.le_of_ble_eq_true rfl)
  rw [lg_entry_eq]
  generalize (lg_sl ([.ref h0, .int a1, .int a2, .ref o]) ++ List.replicate (5 - (lg_sl ([.ref h0, .int a1, .int a2, .ref o])).length) Slot.unset).toArray = ls at hl ⊢
  have hl : lv_has ls 5 [(0, .ref h0), (1, .int a1), (2, .int a2), (3, .ref o)] := hl
  refine lv_aload_n hx hb dL_isBack_0 rfl (lv_at hl 3 rfl) ?_
  refine lv_iconst (v := 0) hx hb dL_isBack_1 (by decide) ?_
  refine lv_aload_n hx hb dL_isBack_2 rfl (lv_at hl 0 rfl) ?_
  refine lv_iload_n hx hb dL_isBack_3 rfl (lv_at hl 1 rfl) ?_
  refine lv_iload_n hx hb dL_isBack_4 rfl (lv_at hl 2 rfl) ?_
  refine vx_calli (vx_runV (As := [.int a1, .int a2]) (rest := [.int 0, .ref o]) ⟨hx, hb, hml, hown, hts⟩ (c_isBack l hst dC dI s.heap.size t h0 ac w0 b0 dd ed a1 a2) (cwV 2 hts (zg_V kw_1280 kw_1281 kw_1282 kw_64 kw_1283) rfl rfl rfl (by decide +kernel) ⟨Nat.le_of_ble_eq_true rfl, Nat.le_of_ble_eq_true rfl⟩) ⟨zA_blind, va_recv hK hP (ci := 5) (q0 := 0) rfl rfl, zA_pre hP hD hS hK hQ hA [0, 1] rfl rfl (by decide) [] rfl⟩ rfl rfl hl.1 rfl (lv_room (Nat.le_of_ble_eq_true rfl)) dL_isBack_5 ⟨zl_b rfl, zl_b rfl⟩) hSn (fun q _ h => h.elim) (fun q h => Nat.le_trans (Nat.le_refl _) h) (fun q _ h => Nat.le_trans (Nat.le_refl _) h) (fun E ce q9 u t9 H1 locs1 ht hvm hp9 hE hz1 hk1 hS1 hc1 hv1 hcl1 => ?_) (fun r u t9 H1 locs1 ht hvm hw hB hz1 hk1 hS1 => hw.elim)
  have hE : E = "java/lang/IndexOutOfBoundsException" := hE
  subst hE
  refine vx_catch (own := RL) (name := "java/lang/IndexOutOfBoundsException") hown [] _ _ htab (fun z hz => absurd hz List.not_mem_nil) rfl (by decide) (hts _ kw_631) (va_Nw.use rfl (zT_kI hQ.1)) hc1 hv1 hcl1 ?_
  refine W.eq (g2 := F0 m 20 ls [.ref q9]) rfl ?_
  generalize H1 = H at hS1 ⊢
  refine W.widen (k := 1) (n := 6) (zl_b rfl) (zl_b rfl) ?_
  refine lv_astore (lv' := [(4, .ref q9), (0, .ref h0), (1, .int a1), (2, .int a2), (3, .ref o)]) hx hb dL_isBack_20 hl (by decide) rfl (fun ls hl => ?_)
  refine lv_iconst (v := 1) hx hb dL_isBack_22 (by decide) ?_
  refine vx_ret ?_
  exact W.iret hx hb hr (fun t ht hW => ⟨⟨_, (), rfl, rfl, trivial⟩, zS_F hS1 ht⟩) hS1.2.2 dL_isBack_23
set_option maxHeartbeats 4000000 in
set_option maxRecDepth 100000 in
/-- sum in the law: 1 -/
theorem lx_sum (l : Launch) (hst : l.stackTraces = false) (dC : Nat → ClassId) (dI : Nat → Nat → Nat) (sz t : Nat) (h0 ac o : Nat) (w0 b0 : Value) (dd : Int32) (ed : Value) (a1 a2 : Int32) : vx_Met l yL_sum ws_L_sum ({ frames := 8, cells := 1, slots := 6, locals := 142 }) (zA dC dI [(h0, .inr (5, [.ref ac, w0, b0, .int dd])), (ac, .inr (0, [.int 0, ed, .int 0]))] [] sz t [.ref h0, .int a1, .int a2, .ref o]) (va_Qi (fun r (_ : Unit) => r = 1) (fun _ _ => True) (fun q => sz ≤ q)) (vx_X (fun _ : Unit => False) (fun _ _ _ => True) (fun _ => False)) 1 6 (fun q => sz ≤ q) := by
  refine vx_ofWH (cc := cL_sum) (maxL := 5) (ret := (some .int)) (hh := [(0, 10, 13, 21)]) (by decide) rfl ?_
  intro p e s m args below meth c s₁ B hml hv
  obtain ⟨rfl, hsz, hP, hK, hD0, hQ⟩ := hv
  have hx := B.exec
  have hb := B.bytes
  have hr := B.returns
  have hts : ∀ w ∈ zG, w.before _ s = true := fun w h => atoms_spec (ws := ws_L_sum) B.pre w (List.mem_cons_of_mem _ h)
  have htab : c.exceptionTable.toList = tableOf [(0, 10, 13, 21)] := vx_table (x := yL_sum) B (atoms_spec (ws := ws_L_sum) B.pre _ List.mem_cons_self)
  have hown : s.vm.findClass RL = some m.cls := findClass_of_methodNamed B.named
  have hlocks := B.notSynchronized
  subst hsz
  have hD := hD0.self (sz := s.heap.size)
  generalize hAe : va_A [(h0, .inr (5, [.ref ac, w0, b0, .int dd])), (ac, .inr (0, [.int 0, ed, .int 0]))] s.heap.size = A at hD hQ
  have hA : ∀ q : Nat, s.heap.size ≤ q → A q := fun q h => by rw [← hAe]; exact Or.inr h
  have hS : va_S A s.heap s.heap [] := va_S.rf
  have hSn : va_S (fun q => s.heap.size ≤ q) s.heap s.heap [] := va_S.rf
  have hP : va_P (dC, dI) zc [(h0, .inr (5, [.ref ac, w0, b0, .int dd])), (ac, .inr (0, [.int 0, ed, .int 0]))] s.heap := hP
  have hl := lv_entry ([.ref h0, .int a1, .int a2, .ref o]) (n := 5) (Nat.le_of_ble_eq_true rfl)
  rw [lg_entry_eq]
  generalize (lg_sl ([.ref h0, .int a1, .int a2, .ref o]) ++ List.replicate (5 - (lg_sl ([.ref h0, .int a1, .int a2, .ref o])).length) Slot.unset).toArray = ls at hl ⊢
  have hl : lv_has ls 5 [(0, .ref h0), (1, .int a1), (2, .int a2), (3, .ref o)] := hl
  refine lv_aload_n hx hb dL_sum_0 rfl (lv_at hl 3 rfl) ?_
  refine lv_iconst (v := 0) hx hb dL_sum_1 (by decide) ?_
  refine lv_aload_n hx hb dL_sum_2 rfl (lv_at hl 0 rfl) ?_
  refine lv_iload_n hx hb dL_sum_3 rfl (lv_at hl 1 rfl) ?_
  refine lv_iload_n hx hb dL_sum_4 rfl (lv_at hl 2 rfl) ?_
  refine vx_calli (vx_runV (As := [.int a1, .int a2]) (rest := [.int 0, .ref o]) ⟨hx, hb, hml, hown, hts⟩ (c_sum l hst dC dI s.heap.size t h0 ac w0 b0 dd ed a1 a2) (cwV 2 hts (zg_V kw_1287 kw_1288 kw_1289 kw_64 kw_1290) rfl rfl rfl (by decide +kernel) ⟨Nat.le_of_ble_eq_true rfl, Nat.le_of_ble_eq_true rfl⟩) ⟨zA_blind, va_recv hK hP (ci := 5) (q0 := 0) rfl rfl, zA_pre hP hD hS hK hQ hA [0, 1] rfl rfl (by decide) [] rfl⟩ rfl rfl hl.1 rfl (lv_room (Nat.le_of_ble_eq_true rfl)) dL_sum_5 ⟨zl_b rfl, zl_b rfl⟩) hSn (fun q _ h => h.elim) (fun q h => Nat.le_trans (Nat.le_refl _) h) (fun q _ h => Nat.le_trans (Nat.le_refl _) h) (fun E ce q9 u t9 H1 locs1 ht hvm hp9 hE hz1 hk1 hS1 hc1 hv1 hcl1 => ?_) (fun r u t9 H1 locs1 ht hvm hw hB hz1 hk1 hS1 => hw.elim)
  have hE : E = "java/lang/IndexOutOfBoundsException" := hE
  subst hE
  refine vx_catch (own := RL) (name := "java/lang/IndexOutOfBoundsException") hown [] _ _ htab (fun z hz => absurd hz List.not_mem_nil) rfl (by decide) (hts _ kw_631) (va_Nw.use rfl (zT_kI hQ.1)) hc1 hv1 hcl1 ?_
  refine W.eq (g2 := F0 m 13 ls [.ref q9]) rfl ?_
  generalize H1 = H at hS1 ⊢
  refine W.widen (k := 1) (n := 6) (zl_b rfl) (zl_b rfl) ?_
  refine lv_astore (lv' := [(4, .ref q9), (0, .ref h0), (1, .int a1), (2, .int a2), (3, .ref o)]) hx hb dL_sum_13 hl (by decide) rfl (fun ls hl => ?_)
  refine lv_iconst (v := 1) hx hb dL_sum_15 (by decide) ?_
  refine vx_ret ?_
  exact W.iret hx hb hr (fun t ht hW => ⟨⟨_, (), rfl, rfl, trivial⟩, zS_F hS1 ht⟩) hS1.2.2 dL_sum_16
set_option maxHeartbeats 4000000 in
set_option maxRecDepth 100000 in
/-- why in the law: 1 -/
theorem lx_why (l : Launch) (hst : l.stackTraces = false) (dC : Nat → ClassId) (dI : Nat → Nat → Nat) (sz t : Nat) (h0 ac o : Nat) (w0 b0 : Value) (dd : Int32) (ed : Value) (a1 a2 a3 : Int32) : vx_Met l yL_why ws_L_why ({ frames := 8, cells := 1, slots := 6, locals := 146 }) (zA dC dI [(h0, .inr (5, [.ref ac, w0, b0, .int dd])), (ac, .inr (0, [.int 0, ed, .int 0]))] [] sz t [.ref h0, .int a1, .int a2, .int a3, .ref o]) (va_Qi (fun r (_ : Unit) => r = 1) (fun _ _ => True) (fun q => sz ≤ q)) (vx_X (fun _ : Unit => False) (fun _ _ _ => True) (fun _ => False)) 1 6 (fun q => sz ≤ q) := by
  refine vx_ofWH (cc := cL_why) (maxL := 6) (ret := (some .int)) (hh := [(0, 12, 15, 21), (0, 12, 19, 13)]) (by decide) rfl ?_
  intro p e s m args below meth c s₁ B hml hv
  obtain ⟨rfl, hsz, hP, hK, hD0, hQ⟩ := hv
  have hx := B.exec
  have hb := B.bytes
  have hr := B.returns
  have hts : ∀ w ∈ zG, w.before _ s = true := fun w h => atoms_spec (ws := ws_L_why) B.pre w (List.mem_cons_of_mem _ h)
  have htab : c.exceptionTable.toList = tableOf [(0, 12, 15, 21), (0, 12, 19, 13)] := vx_table (x := yL_why) B (atoms_spec (ws := ws_L_why) B.pre _ List.mem_cons_self)
  have hown : s.vm.findClass RL = some m.cls := findClass_of_methodNamed B.named
  have hlocks := B.notSynchronized
  subst hsz
  have hD := hD0.self (sz := s.heap.size)
  generalize hAe : va_A [(h0, .inr (5, [.ref ac, w0, b0, .int dd])), (ac, .inr (0, [.int 0, ed, .int 0]))] s.heap.size = A at hD hQ
  have hA : ∀ q : Nat, s.heap.size ≤ q → A q := fun q h => by rw [← hAe]; exact Or.inr h
  have hS : va_S A s.heap s.heap [] := va_S.rf
  have hSn : va_S (fun q => s.heap.size ≤ q) s.heap s.heap [] := va_S.rf
  have hP : va_P (dC, dI) zc [(h0, .inr (5, [.ref ac, w0, b0, .int dd])), (ac, .inr (0, [.int 0, ed, .int 0]))] s.heap := hP
  have hl := lv_entry ([.ref h0, .int a1, .int a2, .int a3, .ref o]) (n := 6) (Nat.le_of_ble_eq_true rfl)
  rw [lg_entry_eq]
  generalize (lg_sl ([.ref h0, .int a1, .int a2, .int a3, .ref o]) ++ List.replicate (6 - (lg_sl ([.ref h0, .int a1, .int a2, .int a3, .ref o])).length) Slot.unset).toArray = ls at hl ⊢
  have hl : lv_has ls 6 [(0, .ref h0), (1, .int a1), (2, .int a2), (3, .int a3), (4, .ref o)] := hl
  refine lv_aload hx hb dL_why_0 (lv_at hl 4 rfl) ?_
  refine lv_iconst (v := 0) hx hb dL_why_2 (by decide) ?_
  refine lv_aload_n hx hb dL_why_3 rfl (lv_at hl 0 rfl) ?_
  refine lv_iload_n hx hb dL_why_4 rfl (lv_at hl 1 rfl) ?_
  refine lv_iload_n hx hb dL_why_5 rfl (lv_at hl 2 rfl) ?_
  refine lv_iload_n hx hb dL_why_6 rfl (lv_at hl 3 rfl) ?_
  refine vx_calli (vx_runV (As := [.int a1, .int a2, .int a3]) (rest := [.int 0, .ref o]) ⟨hx, hb, hml, hown, hts⟩ (c_why l hst dC dI s.heap.size t h0 ac w0 b0 dd ed a1 a2 a3) (cwV 3 hts (zg_V kw_1294 kw_1295 kw_1296 kw_64 kw_1297) rfl rfl rfl (by decide +kernel) ⟨Nat.le_of_ble_eq_true rfl, Nat.le_of_ble_eq_true rfl⟩) ⟨zA_blind, va_recv hK hP (ci := 5) (q0 := 0) rfl rfl, zA_pre hP hD hS hK hQ hA [0, 1] rfl rfl (by decide) [] rfl⟩ rfl rfl hl.1 rfl (lv_room (Nat.le_of_ble_eq_true rfl)) dL_why_7 ⟨zl_b rfl, zl_b rfl⟩) hSn (fun q _ h => h.elim) (fun q h => Nat.le_trans (Nat.le_refl _) h) (fun q _ h => Nat.le_trans (Nat.le_refl _) h) (fun E ce q9 u t9 H1 locs1 ht hvm hp9 hE hz1 hk1 hS1 hc1 hv1 hcl1 => ?_) (fun r u t9 H1 locs1 ht hvm hw hB hz1 hk1 hS1 => hw.elim)
  have hE : E = "java/lang/IndexOutOfBoundsException" := hE
  subst hE
  refine vx_catch (own := RL) (name := "java/lang/IndexOutOfBoundsException") hown [] _ _ htab (fun z hz => absurd hz List.not_mem_nil) rfl (by decide) (hts _ kw_631) (va_Nw.use rfl (zT_kI hQ.1)) hc1 hv1 hcl1 ?_
  refine W.eq (g2 := F0 m 15 ls [.ref q9]) rfl ?_
  generalize H1 = H at hS1 ⊢
  refine W.widen (k := 1) (n := 6) (zl_b rfl) (zl_b rfl) ?_
  refine lv_astore (lv' := [(5, .ref q9), (0, .ref h0), (1, .int a1), (2, .int a2), (3, .int a3), (4, .ref o)]) hx hb dL_why_15 hl (by decide) rfl (fun ls hl => ?_)
  refine lv_iconst (v := 1) hx hb dL_why_17 (by decide) ?_
  refine vx_ret ?_
  exact W.iret hx hb hr (fun t ht hW => ⟨⟨_, (), rfl, rfl, trivial⟩, zS_F hS1 ht⟩) hS1.2.2 dL_why_18
set_option maxHeartbeats 4000000 in
set_option maxRecDepth 100000 in
/-- reasons in the law: 1 -/
theorem lx_reasons (l : Launch) (hst : l.stackTraces = false) (dC : Nat → ClassId) (dI : Nat → Nat → Nat) (sz t : Nat) (h0 ac o : Nat) (w0 b0 : Value) (dd : Int32) (ed : Value) (a1 a2 a3 : Int32) : vx_Met l yL_reasons ws_L_reasons ({ frames := 8, cells := 1, slots := 6, locals := 145 }) (zA dC dI [(h0, .inr (5, [.ref ac, w0, b0, .int dd])), (ac, .inr (0, [.int 0, ed, .int 0]))] [] sz t [.ref h0, .int a1, .int a2, .int a3, .ref o]) (va_Qi (fun r (_ : Unit) => r = 1) (fun _ _ => True) (fun q => sz ≤ q)) (vx_X (fun _ : Unit => False) (fun _ _ _ => True) (fun _ => False)) 1 6 (fun q => sz ≤ q) := by
  refine vx_ofWH (cc := cL_reasons) (maxL := 6) (ret := (some .int)) (hh := [(0, 12, 15, 21), (0, 12, 19, 13)]) (by decide) rfl ?_
  intro p e s m args below meth c s₁ B hml hv
  obtain ⟨rfl, hsz, hP, hK, hD0, hQ⟩ := hv
  have hx := B.exec
  have hb := B.bytes
  have hr := B.returns
  have hts : ∀ w ∈ zG, w.before _ s = true := fun w h => atoms_spec (ws := ws_L_reasons) B.pre w (List.mem_cons_of_mem _ h)
  have htab : c.exceptionTable.toList = tableOf [(0, 12, 15, 21), (0, 12, 19, 13)] := vx_table (x := yL_reasons) B (atoms_spec (ws := ws_L_reasons) B.pre _ List.mem_cons_self)
  have hown : s.vm.findClass RL = some m.cls := findClass_of_methodNamed B.named
  have hlocks := B.notSynchronized
  subst hsz
  have hD := hD0.self (sz := s.heap.size)
  generalize hAe : va_A [(h0, .inr (5, [.ref ac, w0, b0, .int dd])), (ac, .inr (0, [.int 0, ed, .int 0]))] s.heap.size = A at hD hQ
  have hA : ∀ q : Nat, s.heap.size ≤ q → A q := fun q h => by rw [← hAe]; exact Or.inr h
  have hS : va_S A s.heap s.heap [] := va_S.rf
  have hSn : va_S (fun q => s.heap.size ≤ q) s.heap s.heap [] := va_S.rf
  have hP : va_P (dC, dI) zc [(h0, .inr (5, [.ref ac, w0, b0, .int dd])), (ac, .inr (0, [.int 0, ed, .int 0]))] s.heap := hP
  have hl := lv_entry ([.ref h0, .int a1, .int a2, .int a3, .ref o]) (n := 6) (Nat.le_of_ble_eq_true rfl)
  rw [lg_entry_eq]
  generalize (lg_sl ([.ref h0, .int a1, .int a2, .int a3, .ref o]) ++ List.replicate (6 - (lg_sl ([.ref h0, .int a1, .int a2, .int a3, .ref o])).length) Slot.unset).toArray = ls at hl ⊢
  have hl : lv_has ls 6 [(0, .ref h0), (1, .int a1), (2, .int a2), (3, .int a3), (4, .ref o)] := hl
  refine lv_aload hx hb dL_reasons_0 (lv_at hl 4 rfl) ?_
  refine lv_iconst (v := 0) hx hb dL_reasons_2 (by decide) ?_
  refine lv_aload_n hx hb dL_reasons_3 rfl (lv_at hl 0 rfl) ?_
  refine lv_iload_n hx hb dL_reasons_4 rfl (lv_at hl 1 rfl) ?_
  refine lv_iload_n hx hb dL_reasons_5 rfl (lv_at hl 2 rfl) ?_
  refine lv_iload_n hx hb dL_reasons_6 rfl (lv_at hl 3 rfl) ?_
  refine vx_calli (vx_runV (As := [.int a1, .int a2, .int a3]) (rest := [.int 0, .ref o]) ⟨hx, hb, hml, hown, hts⟩ (c_reasons l hst dC dI s.heap.size t h0 ac w0 b0 dd ed a1 a2 a3) (cwV 3 hts (zg_V kw_1301 kw_1302 kw_1303 kw_64 kw_1304) rfl rfl rfl (by decide +kernel) ⟨Nat.le_of_ble_eq_true rfl, Nat.le_of_ble_eq_true rfl⟩) ⟨zA_blind, va_recv hK hP (ci := 5) (q0 := 0) rfl rfl, zA_pre hP hD hS hK hQ hA [0, 1] rfl rfl (by decide) [] rfl⟩ rfl rfl hl.1 rfl (lv_room (Nat.le_of_ble_eq_true rfl)) dL_reasons_7 ⟨zl_b rfl, zl_b rfl⟩) hSn (fun q _ h => h.elim) (fun q h => Nat.le_trans (Nat.le_refl _) h) (fun q _ h => Nat.le_trans (Nat.le_refl _) h) (fun E ce q9 u t9 H1 locs1 ht hvm hp9 hE hz1 hk1 hS1 hc1 hv1 hcl1 => ?_) (fun r u t9 H1 locs1 ht hvm hw hB hz1 hk1 hS1 => hw.elim)
  have hE : E = "java/lang/IndexOutOfBoundsException" := hE
  subst hE
  refine vx_catch (own := RL) (name := "java/lang/IndexOutOfBoundsException") hown [] _ _ htab (fun z hz => absurd hz List.not_mem_nil) rfl (by decide) (hts _ kw_631) (va_Nw.use rfl (zT_kI hQ.1)) hc1 hv1 hcl1 ?_
  refine W.eq (g2 := F0 m 15 ls [.ref q9]) rfl ?_
  generalize H1 = H at hS1 ⊢
  refine W.widen (k := 1) (n := 6) (zl_b rfl) (zl_b rfl) ?_
  refine lv_astore (lv' := [(5, .ref q9), (0, .ref h0), (1, .int a1), (2, .int a2), (3, .int a3), (4, .ref o)]) hx hb dL_reasons_15 hl (by decide) rfl (fun ls hl => ?_)
  refine lv_iconst (v := 1) hx hb dL_reasons_17 (by decide) ?_
  refine vx_ret ?_
  exact W.iret hx hb hr (fun t ht hW => ⟨⟨_, (), rfl, rfl, trivial⟩, zS_F hS1 ht⟩) hS1.2.2 dL_reasons_18
