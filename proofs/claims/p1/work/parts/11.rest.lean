set_option maxHeartbeats 4000000 in
set_option maxRecDepth 100000 in
/-- setCurrency: no such currency -/
theorem c_curBad1 (l : Launch) (hst : l.stackTraces = false) (dC : Nat → ClassId) (dI : Nat → Nat → Nat) (sz t : Nat) (h0 wa : Nat) (k1 : ClassId) (ac b0 : Value) (a v : Int32) (hv9 : a < 0 ∨ 3 < a) : vx_Met l yX4_setCurrency ws_X4_setCurrency ({ frames := 7, cells := 1, slots := 6, locals := 121 }) (zA dC dI [(h0, .inr (5, [ac, .ref wa, b0, .int 0])), (wa, .inl (k1, 4, .inl (zW)))] [(k1, .int)] sz t [.ref h0, .int a, .int v]) (va_Qi (fun _ (_ : Unit) => False) (fun _ _ => True) (fun _ => False)) (vx_X (fun _ : Unit => True) (fun E _ _ => E = "java/lang/IllegalArgumentException") (fun q => sz ≤ q)) 1 6 (fun q => sz ≤ q) := by
  refine vx_ofW (cc := cX4_setCurrency) (maxL := 4) (ret := (some .int)) (by decide) rfl ?_
  intro p e s m args below meth c s₁ B hml htab hv
  obtain ⟨rfl, hsz, hP, hK, hD0, hQ⟩ := hv
  have hx := B.exec
  have hb := B.bytes
  have hr := B.returns
  have hts : ∀ w ∈ zG, w.before _ s = true := fun w h => atoms_spec (ws := ws_X4_setCurrency) B.pre w (List.mem_cons_of_mem _ h)
  have hown : s.vm.findClass RX4 = some m.cls := findClass_of_methodNamed B.named
  have hlocks := B.notSynchronized
  subst hsz
  have hD := hD0.self (sz := s.heap.size)
  generalize hAe : va_A [(h0, .inr (5, [ac, .ref wa, b0, .int 0])), (wa, .inl (k1, 4, .inl (zW)))] s.heap.size = A at hD hQ
  have hA : ∀ q : Nat, s.heap.size ≤ q → A q := fun q h => by rw [← hAe]; exact Or.inr h
  have hS : va_S A s.heap s.heap [] := va_S.rf
  have hSn : va_S (fun q => s.heap.size ≤ q) s.heap s.heap [] := va_S.rf
  have hP : va_P (dC, dI) zc [(h0, .inr (5, [ac, .ref wa, b0, .int 0])), (wa, .inl (k1, 4, .inl (zW)))] s.heap := hP
  have hl := lv_entry ([.ref h0, .int a, .int v]) (n := 4) (Nat.le_of_ble_eq_true rfl)
  rw [lg_entry_eq]
  generalize (lg_sl ([.ref h0, .int a, .int v]) ++ List.replicate (4 - (lg_sl ([.ref h0, .int a, .int v])).length) Slot.unset).toArray = ls at hl ⊢
  have hl : lv_has ls 4 [(0, .ref h0), (1, .int a), (2, .int v)] := hl
  refine lv_iload_n hx hb dX4_setCurrency_0 rfl (lv_at hl 1 rfl) ?_
  refine lv_iconst (v := 0) hx hb dX4_setCurrency_1 (by decide) ?_
  refine lv_iconst (v := 3) hx hb dX4_setCurrency_2 (by decide) ?_
  refine vx_callv (vx_runS (As := [.int a, .int 0, .int 3]) (rest := []) ⟨hx, hb, hml, hown, hts⟩ (c_ckBad l hst dC dI s.heap.size t a 0 3 hv9) (va_cwS 3 hts (zg_S kw_432 kw_433 kw_64 kw_434) rfl rfl rfl (by decide +kernel) ⟨Nat.le_of_ble_eq_true rfl, Nat.le_of_ble_eq_true rfl⟩) ⟨zA_blind, zA_pre hP hD hS hK hQ hA [] rfl rfl (by decide) [] rfl⟩ rfl rfl hl.1 rfl (lv_room (Nat.le_of_ble_eq_true rfl)) dX4_setCurrency_3 ⟨zl_b rfl, zl_b rfl⟩) hSn (fun q _ h => h.elim) (fun q h => Nat.le_trans (Nat.le_refl _) h) (fun q _ h => Nat.le_trans (Nat.le_refl _) h) (fun E ce q9 u t9 H1 locs1 ht hvm hp9 hE hz1 hk1 hS1 hc1 hv1 hcl1 => ?_) (fun u t9 H1 locs1 ht hvm hw hB hz1 hk1 hS1 => hw.elim)
  have hE : E = "java/lang/IllegalArgumentException" := hE
  subst hE
  refine vx_widen (k := 1) (n := 6) (zl_b rfl) (zl_b rfl) ?_
  exact vx_out (fun x hx => (htab x hx).elim) hlocks hc1 hv1 hcl1 (fun t ht hW => ⟨(), trivial, rfl, zS_F hS1 ht⟩) hS1.2.2 (zl_b rfl) (zl_b rfl)
set_option maxHeartbeats 4000000 in
set_option maxRecDepth 100000 in
/-- setCurrency: no such worth -/
theorem c_curBad2 (l : Launch) (hst : l.stackTraces = false) (dC : Nat → ClassId) (dI : Nat → Nat → Nat) (sz t : Nat) (h0 wa : Nat) (k1 : ClassId) (ac b0 : Value) (a v : Int32) (hv1 : ¬ a < 0) (hv2 : ¬ 3 < a) (hv9 : v < 1 ∨ 99999 < v) : vx_Met l yX4_setCurrency ws_X4_setCurrency ({ frames := 7, cells := 1, slots := 6, locals := 121 }) (zA dC dI [(h0, .inr (5, [ac, .ref wa, b0, .int 0])), (wa, .inl (k1, 4, .inl (zW)))] [(k1, .int)] sz t [.ref h0, .int a, .int v]) (va_Qi (fun _ (_ : Unit) => False) (fun _ _ => True) (fun _ => False)) (vx_X (fun _ : Unit => True) (fun E _ _ => E = "java/lang/IllegalArgumentException") (fun q => sz ≤ q)) 1 6 (fun q => sz ≤ q) := by
  refine vx_ofW (cc := cX4_setCurrency) (maxL := 4) (ret := (some .int)) (by decide) rfl ?_
  intro p e s m args below meth c s₁ B hml htab hv
  obtain ⟨rfl, hsz, hP, hK, hD0, hQ⟩ := hv
  have hx := B.exec
  have hb := B.bytes
  have hr := B.returns
  have hts : ∀ w ∈ zG, w.before _ s = true := fun w h => atoms_spec (ws := ws_X4_setCurrency) B.pre w (List.mem_cons_of_mem _ h)
  have hown : s.vm.findClass RX4 = some m.cls := findClass_of_methodNamed B.named
  have hlocks := B.notSynchronized
  subst hsz
  have hD := hD0.self (sz := s.heap.size)
  generalize hAe : va_A [(h0, .inr (5, [ac, .ref wa, b0, .int 0])), (wa, .inl (k1, 4, .inl (zW)))] s.heap.size = A at hD hQ
  have hA : ∀ q : Nat, s.heap.size ≤ q → A q := fun q h => by rw [← hAe]; exact Or.inr h
  have hS : va_S A s.heap s.heap [] := va_S.rf
  have hSn : va_S (fun q => s.heap.size ≤ q) s.heap s.heap [] := va_S.rf
  have hP : va_P (dC, dI) zc [(h0, .inr (5, [ac, .ref wa, b0, .int 0])), (wa, .inl (k1, 4, .inl (zW)))] s.heap := hP
  have hl := lv_entry ([.ref h0, .int a, .int v]) (n := 4) (Nat.le_of_ble_eq_true rfl)
  rw [lg_entry_eq]
  generalize (lg_sl ([.ref h0, .int a, .int v]) ++ List.replicate (4 - (lg_sl ([.ref h0, .int a, .int v])).length) Slot.unset).toArray = ls at hl ⊢
  have hl : lv_has ls 4 [(0, .ref h0), (1, .int a), (2, .int v)] := hl
  refine lv_iload_n hx hb dX4_setCurrency_0 rfl (lv_at hl 1 rfl) ?_
  refine lv_iconst (v := 0) hx hb dX4_setCurrency_1 (by decide) ?_
  refine lv_iconst (v := 3) hx hb dX4_setCurrency_2 (by decide) ?_
  refine va_csv (W.runS (As := [.int a, .int 0, .int 3]) (rest := []) ⟨hx, hb, hml, hown, hts⟩ (c_ckOk l dC dI s.heap.size t a 0 3 hv1 hv2) (va_cwS 3 hts (zg_S kw_432 kw_433 kw_64 kw_434) rfl rfl rfl (by decide +kernel) ⟨Nat.le_of_ble_eq_true rfl, Nat.le_of_ble_eq_true rfl⟩) ⟨zA_blind, zA_pre hP hD hS hK hQ hA [] rfl rfl (by decide) [] rfl⟩ rfl rfl hl.1 rfl (lv_room (Nat.le_of_ble_eq_true rfl)) dX4_setCurrency_3 ⟨zl_b rfl, zl_b rfl⟩) (fun _ => ?_)
  refine lv_iload_n hx hb dX4_setCurrency_6 rfl (lv_at hl 2 rfl) ?_
  refine lv_iconst (v := 1) hx hb dX4_setCurrency_7 (by decide) ?_
  refine lv_ldc hx hb hown (hts _ kw_1020) dX4_setCurrency_8 ?_
  refine vx_callv (vx_runS (As := [.int v, .int 1, .int 99999]) (rest := []) ⟨hx, hb, hml, hown, hts⟩ (c_ckBad l hst dC dI s.heap.size t v 1 99999 hv9) (va_cwS 3 hts (zg_S kw_432 kw_433 kw_64 kw_434) rfl rfl rfl (by decide +kernel) ⟨Nat.le_of_ble_eq_true rfl, Nat.le_of_ble_eq_true rfl⟩) ⟨zA_blind, zA_pre hP hD hS hK hQ hA [] rfl rfl (by decide) [] rfl⟩ rfl rfl hl.1 rfl (lv_room (Nat.le_of_ble_eq_true rfl)) dX4_setCurrency_10 ⟨zl_b rfl, zl_b rfl⟩) hSn (fun q _ h => h.elim) (fun q h => Nat.le_trans (Nat.le_refl _) h) (fun q _ h => Nat.le_trans (Nat.le_refl _) h) (fun E ce q9 u t9 H1 locs1 ht hvm hp9 hE hz1 hk1 hS1 hc1 hv1 hcl1 => ?_) (fun u t9 H1 locs1 ht hvm hw hB hz1 hk1 hS1 => hw.elim)
  have hE : E = "java/lang/IllegalArgumentException" := hE
  subst hE
  refine vx_widen (k := 1) (n := 6) (zl_b rfl) (zl_b rfl) ?_
  exact vx_out (fun x hx => (htab x hx).elim) hlocks hc1 hv1 hcl1 (fun t ht hW => ⟨(), trivial, rfl, zS_F hS1 ht⟩) hS1.2.2 (zl_b rfl) (zl_b rfl)
set_option maxHeartbeats 4000000 in
set_option maxRecDepth 100000 in
/-- setCurrency -/
theorem c_curOk (l : Launch) (dC : Nat → ClassId) (dI : Nat → Nat → Nat) (sz t : Nat) (h0 wa : Nat) (k1 : ClassId) (ac b0 : Value) (a v : Int32) (hv1 : ¬ a < 0) (hv2 : ¬ 3 < a) (hv3 : ¬ v < 1) (hv4 : ¬ 99999 < v) : Met l yX4_setCurrency ws_X4_setCurrency ({ frames := 2, cells := 0, slots := 0, locals := 34 }) (zA dC dI [(h0, .inr (5, [ac, .ref wa, b0, .int 0])), (wa, .inl (k1, 4, .inl (zW)))] [(k1, .int)] sz t [.ref h0, .int a, .int v]) (va_Qi (fun r (_ : Unit) => r = zW a.toNatClampNeg) (fun _ t9 => zB dC dI (va_A [(h0, .inr (5, [ac, .ref wa, b0, .int 0])), (wa, .inl (k1, 4, .inl (zW)))] sz) [] [] t9) (va_A [(h0, .inr (5, [ac, .ref wa, b0, .int 0])), (wa, .inl (k1, 4, .inl (zW)))] sz)) 0 0 (va_A [(h0, .inr (5, [ac, .ref wa, b0, .int 0])), (wa, .inl (k1, 4, .inl (zW)))] sz) := by
  refine Met.ofW (cc := cX4_setCurrency) (maxL := 4) (ret := (some .int)) (by decide) rfl ?_
  intro p e s m args below meth c s₁ B hml hv
  obtain ⟨rfl, hsz, hP, hK, hD0, hQ⟩ := hv
  have hx := B.exec
  have hb := B.bytes
  have hr := B.returns
  have hts : ∀ w ∈ zG, w.before _ s = true := fun w h => atoms_spec (ws := ws_X4_setCurrency) B.pre w (List.mem_cons_of_mem _ h)
  have hown : s.vm.findClass RX4 = some m.cls := findClass_of_methodNamed B.named
  have hlocks := B.notSynchronized
  subst hsz
  have hD := hD0.self (sz := s.heap.size)
  generalize hAe : va_A [(h0, .inr (5, [ac, .ref wa, b0, .int 0])), (wa, .inl (k1, 4, .inl (zW)))] s.heap.size = A at hD hQ ⊢
  have hA : ∀ q : Nat, s.heap.size ≤ q → A q := fun q h => by rw [← hAe]; exact Or.inr h
  have hS : va_S A s.heap s.heap [] := va_S.rf
  have hP : va_P (dC, dI) zc [(h0, .inr (5, [ac, .ref wa, b0, .int 0])), (wa, .inl (k1, 4, .inl (zW)))] s.heap := hP
  have hl := lv_entry ([.ref h0, .int a, .int v]) (n := 4) (Nat.le_of_ble_eq_true rfl)
  rw [lg_entry_eq]
  generalize (lg_sl ([.ref h0, .int a, .int v]) ++ List.replicate (4 - (lg_sl ([.ref h0, .int a, .int v])).length) Slot.unset).toArray = ls at hl ⊢
  have hl : lv_has ls 4 [(0, .ref h0), (1, .int a), (2, .int v)] := hl
  refine lv_iload_n hx hb dX4_setCurrency_0 rfl (lv_at hl 1 rfl) ?_
  refine lv_iconst (v := 0) hx hb dX4_setCurrency_1 (by decide) ?_
  refine lv_iconst (v := 3) hx hb dX4_setCurrency_2 (by decide) ?_
  refine va_csv (W.runS (As := [.int a, .int 0, .int 3]) (rest := []) ⟨hx, hb, hml, hown, hts⟩ (c_ckOk l dC dI s.heap.size t a 0 3 hv1 hv2) (va_cwS 3 hts (zg_S kw_432 kw_433 kw_64 kw_434) rfl rfl rfl (by decide +kernel) ⟨Nat.le_of_ble_eq_true rfl, Nat.le_of_ble_eq_true rfl⟩) ⟨zA_blind, zA_pre hP hD hS hK hQ hA [] rfl rfl (by decide) [] rfl⟩ rfl rfl hl.1 rfl (lv_room (Nat.le_of_ble_eq_true rfl)) dX4_setCurrency_3 ⟨zl_b rfl, zl_b rfl⟩) (fun _ => ?_)
  refine lv_iload_n hx hb dX4_setCurrency_6 rfl (lv_at hl 2 rfl) ?_
  refine lv_iconst (v := 1) hx hb dX4_setCurrency_7 (by decide) ?_
  refine lv_ldc hx hb hown (hts _ kw_1020) dX4_setCurrency_8 ?_
  refine va_csv (W.runS (As := [.int v, .int 1, .int 99999]) (rest := []) ⟨hx, hb, hml, hown, hts⟩ (c_ckOk l dC dI s.heap.size t v 1 99999 hv3 hv4) (va_cwS 3 hts (zg_S kw_432 kw_433 kw_64 kw_434) rfl rfl rfl (by decide +kernel) ⟨Nat.le_of_ble_eq_true rfl, Nat.le_of_ble_eq_true rfl⟩) ⟨zA_blind, zA_pre hP hD hS hK hQ hA [] rfl rfl (by decide) [] rfl⟩ rfl rfl hl.1 rfl (lv_room (Nat.le_of_ble_eq_true rfl)) dX4_setCurrency_10 ⟨zl_b rfl, zl_b rfl⟩) (fun _ => ?_)
  refine lv_aload_n hx hb dX4_setCurrency_13 rfl (lv_at hl 0 rfl) ?_
  refine va_get (D := (dC, dI)) (ci := 5) (v := .ref wa) (C := RX4) (T := TX4) (N := 4) hx hb hts iX4 hown hK hP 0 rfl rfl 1 (by decide) (hts _ kw_241) (fun _ h9 => h9) rfl dX4_setCurrency_14 ?_
  refine lv_iload_n hx hb dX4_setCurrency_17 rfl (lv_at hl 1 rfl) ?_
  refine va_iald hx hb hK hP 1 0 rfl rfl (zi_in4 hv1 hv2) dX4_setCurrency_18 ?_
  refine lv_istore_n (lv' := [(3, .int ((zW) (a : Int32).toNatClampNeg)), (0, .ref h0), (1, .int a), (2, .int v)]) hx hb dX4_setCurrency_19 rfl hl (by decide) rfl (fun ls hl => ?_)
  refine lv_aload_n hx hb dX4_setCurrency_20 rfl (lv_at hl 1 rfl) ?_
  refine va_get (D := (dC, dI)) (ci := 5) (v := .ref wa) (C := RX4) (T := TX4) (N := 4) hx hb hts iX4 hown hK hP 0 rfl rfl 1 (by decide) (hts _ kw_241) (fun _ h9 => h9) rfl dX4_setCurrency_21 ?_
  refine lv_iload_n hx hb dX4_setCurrency_24 rfl (lv_at hl 2 rfl) ?_
  refine lv_iload_n hx hb dX4_setCurrency_25 rfl (lv_at hl 3 rfl) ?_
  refine va_iast hx hb hK hP hD hS 1 0 rfl rfl (zi_in4 hv1 hv2) dX4_setCurrency_26 (fun H locs hP hD hS => ?_)
  have hP : va_P (dC, dI) zc [(h0, .inr (5, [ac, .ref wa, b0, .int 0])), (wa, .inl (k1, 4, .inl (upd (zW) (a : Int32).toNatClampNeg v)))] H := hP
  have hD : va_D A [(h0, .inr (5, [ac, .ref wa, b0, .int 0])), (wa, .inl (k1, 4, .inl (upd (zW) (a : Int32).toNatClampNeg v)))] := hD
  refine lv_iload_n hx hb dX4_setCurrency_27 rfl (lv_at hl 0 rfl) ?_
  have hP9 := hP.sub (ws' := []) [] rfl
  have hD9 := hD.sub (ws' := []) [] (by decide) rfl
  have hK9 := hK.sub (tys' := []) [] rfl
  exact W.iret hx hb hr (fun t ht hW => ⟨⟨_, (), rfl, rfl, by rw [ht]; exact hP9, va_K.moved hW.alike hK9, hD9⟩, hS.F ht⟩) hS.2.2 dX4_setCurrency_28
set_option maxHeartbeats 4000000 in
set_option maxRecDepth 100000 in
/-- setCurrency of the model: no such currency -/
theorem m_curBad1 (l : Launch) (dC : Nat → ClassId) (dI : Nat → Nat → Nat) (sz t : Nat) (h0 wa : Nat) (k1 : ClassId) (ac : Value) (a v : Int32) (hv9 : a < 0 ∨ 3 < a) : Met l yX8_setCurrency ws_X8_setCurrency ({ frames := 2, cells := 0, slots := 0, locals := 34 }) (zA dC dI [(h0, .inr (7, [ac, .ref wa, .int 0, .int 0])), (wa, .inl (k1, 4, .inl (zW)))] [(k1, .int)] sz t [.ref h0, .int a, .int v]) (va_Qi (fun r (_ : Unit) => True) (fun _ t9 => zB dC dI (va_A [(h0, .inr (7, [ac, .ref wa, .int 0, .int 0])), (wa, .inl (k1, 4, .inl (zW)))] sz) [(h0, .inr (7, [ac, .ref wa, .int 0, .int 1]))] [] t9) (va_A [(h0, .inr (7, [ac, .ref wa, .int 0, .int 0])), (wa, .inl (k1, 4, .inl (zW)))] sz)) 0 0 (va_A [(h0, .inr (7, [ac, .ref wa, .int 0, .int 0])), (wa, .inl (k1, 4, .inl (zW)))] sz) := by
  refine Met.ofW (cc := cX8_setCurrency) (maxL := 4) (ret := (some .int)) (by decide) rfl ?_
  intro p e s m args below meth c s₁ B hml hv
  obtain ⟨rfl, hsz, hP, hK, hD0, hQ⟩ := hv
  have hx := B.exec
  have hb := B.bytes
  have hr := B.returns
  have hts : ∀ w ∈ zG, w.before _ s = true := fun w h => atoms_spec (ws := ws_X8_setCurrency) B.pre w (List.mem_cons_of_mem _ h)
  have hown : s.vm.findClass RX8 = some m.cls := findClass_of_methodNamed B.named
  have hlocks := B.notSynchronized
  subst hsz
  have hD := hD0.self (sz := s.heap.size)
  generalize hAe : va_A [(h0, .inr (7, [ac, .ref wa, .int 0, .int 0])), (wa, .inl (k1, 4, .inl (zW)))] s.heap.size = A at hD hQ ⊢
  have hA : ∀ q : Nat, s.heap.size ≤ q → A q := fun q h => by rw [← hAe]; exact Or.inr h
  have hS : va_S A s.heap s.heap [] := va_S.rf
  have hP : va_P (dC, dI) zc [(h0, .inr (7, [ac, .ref wa, .int 0, .int 0])), (wa, .inl (k1, 4, .inl (zW)))] s.heap := hP
  have hl := lv_entry ([.ref h0, .int a, .int v]) (n := 4) (Nat.le_of_ble_eq_true rfl)
  rw [lg_entry_eq]
  generalize (lg_sl ([.ref h0, .int a, .int v]) ++ List.replicate (4 - (lg_sl ([.ref h0, .int a, .int v])).length) Slot.unset).toArray = ls at hl ⊢
  have hl : lv_has ls 4 [(0, .ref h0), (1, .int a), (2, .int v)] := hl
  refine lv_aload_n hx hb dX8_setCurrency_0 rfl (lv_at hl 0 rfl) ?_
  refine lv_iload_n hx hb dX8_setCurrency_1 rfl (lv_at hl 1 rfl) ?_
  refine lv_iconst (v := 0) hx hb dX8_setCurrency_2 (by decide) ?_
  refine lv_iconst (v := 3) hx hb dX8_setCurrency_3 (by decide) ?_
  refine vp_callSi (W.runS (As := [.int a, .int 0, .int 3]) (rest := [.ref h0]) ⟨hx, hb, hml, hown, hts⟩ (c_isIn0 l dC dI s.heap.size t a 0 3 hv9) (va_cwS 3 hts (zg_S kw_1374 kw_1375 kw_70 kw_1376) rfl rfl rfl (by decide +kernel) ⟨Nat.le_of_ble_eq_true rfl, Nat.le_of_ble_eq_true rfl⟩) ⟨zA_blind, zA_pre hP hD hS hK hQ hA [] rfl rfl (by decide) [] rfl⟩ rfl rfl hl.1 rfl (lv_room (Nat.le_of_ble_eq_true rfl)) dX8_setCurrency_4 ⟨zl_b rfl, zl_b rfl⟩) (fun r hr => ?_)
  subst hr
  refine lv_if_eq (tgt := 24) hx hb dX8_setCurrency_7 (by decide) (fun c_1 => ?_) (fun c_1 => absurd c_1 (by decide))
  refine lv_iconst (v := 0) hx hb dX8_setCurrency_24 (by decide) ?_
  refine lv_iconst (v := 1) hx hb dX8_setCurrency_25 (by decide) ?_
  have hFc := va_free (wc := [(h0, .inr (7, [ac, .ref wa, .int 0, .int 0]))]) hD hS hA [0] rfl
  refine va_calli (va_runV (As := [.int 0, .int 1]) (rest := []) ⟨hx, hb, hml, hown, hts⟩ (c_no0 l dC dI s.heap.size t h0 ac (.ref wa) 0 0 1) (cwV 2 hts (zg_V kw_1377 kw_1379 kw_40 kw_70 kw_1380) rfl rfl rfl (by decide +kernel) ⟨Nat.le_of_ble_eq_true rfl, Nat.le_of_ble_eq_true rfl⟩) ⟨zA_blind, va_recv hK hP (ci := 7) (q0 := 0) rfl rfl, zA_pre hP hD hS hK hQ hA [0] rfl rfl (by decide) [] rfl⟩ rfl rfl hl.1 rfl (lv_room (Nat.le_of_ble_eq_true rfl)) dX8_setCurrency_26 ⟨zl_b rfl, zl_b rfl⟩) hS (fun q _ h => hFc q h) hFc (fun r_2 u t9 H1 locs ht hvm hw hB hz1 hk1 hS => ?_)
  obtain ⟨hP1, hK1, hD1⟩ := hB
  rw [ht] at hP1
  have hK1 := va_K.moved hvm.symm hK1
  obtain ⟨hP, hD⟩ := va_join (wr := [(wa, .inl (k1, 4, .inl (zW)))]) (w1 := [(h0, .inr (7, [ac, .ref wa, .int 0, .int 1]))]) hP hD [0] [1] rfl rfl (by decide) (by decide) hk1 hFc hP1 hD1
  have hK := (hK.sub (tys' := [(k1, .int)]) [0] rfl).app hK1
  generalize H1 = H at hP hS ⊢
  have hP : va_P (dC, dI) zc [(wa, .inl (k1, 4, .inl (zW))), (h0, .inr (7, [ac, .ref wa, .int 0, .int 1]))] H := hP
  have hD : va_D A [(wa, .inl (k1, 4, .inl (zW))), (h0, .inr (7, [ac, .ref wa, .int 0, .int 1]))] := hD
  have hK : va_K (dC, dI) zc [(k1, .int)] s := hK
  have hw : 1 = r_2 := hw.symm
  subst hw
  refine lv_if_eq (tgt := 34) hx hb dX8_setCurrency_29 (by decide) (fun c_3 => absurd c_3 (by decide)) (fun c_3 => ?_)
  refine lv_iconst (v := 0) hx hb dX8_setCurrency_32 (by decide) ?_
  have hP9 := hP.sub (ws' := [(h0, .inr (7, [ac, .ref wa, .int 0, .int 1]))]) [1] rfl
  have hD9 := hD.sub (ws' := [(h0, .inr (7, [ac, .ref wa, .int 0, .int 1]))]) [1] (by decide) rfl
  have hK9 := hK.sub (tys' := []) [] rfl
  exact W.iret hx hb hr (fun t ht hW => ⟨⟨_, (), rfl, trivial, by rw [ht]; exact hP9, va_K.moved hW.alike hK9, hD9⟩, hS.F ht⟩) hS.2.2 dX8_setCurrency_33
set_option maxHeartbeats 4000000 in
set_option maxRecDepth 100000 in
/-- setCurrency of the model: no such worth -/
theorem m_curBad2 (l : Launch) (dC : Nat → ClassId) (dI : Nat → Nat → Nat) (sz t : Nat) (h0 wa : Nat) (k1 : ClassId) (ac : Value) (a v : Int32) (hv1 : ¬ a < 0) (hv2 : ¬ 3 < a) (hv9 : v < 1 ∨ 99999 < v) : Met l yX8_setCurrency ws_X8_setCurrency ({ frames := 2, cells := 0, slots := 0, locals := 34 }) (zA dC dI [(h0, .inr (7, [ac, .ref wa, .int 0, .int 0])), (wa, .inl (k1, 4, .inl (zW)))] [(k1, .int)] sz t [.ref h0, .int a, .int v]) (va_Qi (fun r (_ : Unit) => True) (fun _ t9 => zB dC dI (va_A [(h0, .inr (7, [ac, .ref wa, .int 0, .int 0])), (wa, .inl (k1, 4, .inl (zW)))] sz) [(h0, .inr (7, [ac, .ref wa, .int 0, .int 1]))] [] t9) (va_A [(h0, .inr (7, [ac, .ref wa, .int 0, .int 0])), (wa, .inl (k1, 4, .inl (zW)))] sz)) 0 0 (va_A [(h0, .inr (7, [ac, .ref wa, .int 0, .int 0])), (wa, .inl (k1, 4, .inl (zW)))] sz) := by
  refine Met.ofW (cc := cX8_setCurrency) (maxL := 4) (ret := (some .int)) (by decide) rfl ?_
  intro p e s m args below meth c s₁ B hml hv
  obtain ⟨rfl, hsz, hP, hK, hD0, hQ⟩ := hv
  have hx := B.exec
  have hb := B.bytes
  have hr := B.returns
  have hts : ∀ w ∈ zG, w.before _ s = true := fun w h => atoms_spec (ws := ws_X8_setCurrency) B.pre w (List.mem_cons_of_mem _ h)
  have hown : s.vm.findClass RX8 = some m.cls := findClass_of_methodNamed B.named
  have hlocks := B.notSynchronized
  subst hsz
  have hD := hD0.self (sz := s.heap.size)
  generalize hAe : va_A [(h0, .inr (7, [ac, .ref wa, .int 0, .int 0])), (wa, .inl (k1, 4, .inl (zW)))] s.heap.size = A at hD hQ ⊢
  have hA : ∀ q : Nat, s.heap.size ≤ q → A q := fun q h => by rw [← hAe]; exact Or.inr h
  have hS : va_S A s.heap s.heap [] := va_S.rf
  have hP : va_P (dC, dI) zc [(h0, .inr (7, [ac, .ref wa, .int 0, .int 0])), (wa, .inl (k1, 4, .inl (zW)))] s.heap := hP
  have hl := lv_entry ([.ref h0, .int a, .int v]) (n := 4) (Nat.le_of_ble_eq_true rfl)
  rw [lg_entry_eq]
  generalize (lg_sl ([.ref h0, .int a, .int v]) ++ List.replicate (4 - (lg_sl ([.ref h0, .int a, .int v])).length) Slot.unset).toArray = ls at hl ⊢
  have hl : lv_has ls 4 [(0, .ref h0), (1, .int a), (2, .int v)] := hl
  refine lv_aload_n hx hb dX8_setCurrency_0 rfl (lv_at hl 0 rfl) ?_
  refine lv_iload_n hx hb dX8_setCurrency_1 rfl (lv_at hl 1 rfl) ?_
  refine lv_iconst (v := 0) hx hb dX8_setCurrency_2 (by decide) ?_
  refine lv_iconst (v := 3) hx hb dX8_setCurrency_3 (by decide) ?_
  refine vp_callSi (W.runS (As := [.int a, .int 0, .int 3]) (rest := [.ref h0]) ⟨hx, hb, hml, hown, hts⟩ (c_isIn1 l dC dI s.heap.size t a 0 3 hv1 hv2) (va_cwS 3 hts (zg_S kw_1374 kw_1375 kw_70 kw_1376) rfl rfl rfl (by decide +kernel) ⟨Nat.le_of_ble_eq_true rfl, Nat.le_of_ble_eq_true rfl⟩) ⟨zA_blind, zA_pre hP hD hS hK hQ hA [] rfl rfl (by decide) [] rfl⟩ rfl rfl hl.1 rfl (lv_room (Nat.le_of_ble_eq_true rfl)) dX8_setCurrency_4 ⟨zl_b rfl, zl_b rfl⟩) (fun r hr => ?_)
  subst hr
  refine lv_if_eq (tgt := 24) hx hb dX8_setCurrency_7 (by decide) (fun c_1 => absurd c_1 (by decide)) (fun c_1 => ?_)
  refine lv_iload_n hx hb dX8_setCurrency_10 rfl (lv_at hl 2 rfl) ?_
  refine lv_iconst (v := 1) hx hb dX8_setCurrency_11 (by decide) ?_
  refine lv_ldc hx hb hown (hts _ kw_1560) dX8_setCurrency_12 ?_
  refine vp_callSi (W.runS (As := [.int v, .int 1, .int 99999]) (rest := [.ref h0]) ⟨hx, hb, hml, hown, hts⟩ (c_isIn0 l dC dI s.heap.size t v 1 99999 hv9) (va_cwS 3 hts (zg_S kw_1374 kw_1375 kw_70 kw_1376) rfl rfl rfl (by decide +kernel) ⟨Nat.le_of_ble_eq_true rfl, Nat.le_of_ble_eq_true rfl⟩) ⟨zA_blind, zA_pre hP hD hS hK hQ hA [] rfl rfl (by decide) [] rfl⟩ rfl rfl hl.1 rfl (lv_room (Nat.le_of_ble_eq_true rfl)) dX8_setCurrency_14 ⟨zl_b rfl, zl_b rfl⟩) (fun r hr => ?_)
  subst hr
  refine lv_if_eq (tgt := 24) hx hb dX8_setCurrency_17 (by decide) (fun c_2 => ?_) (fun c_2 => absurd c_2 (by decide))
  refine lv_iconst (v := 0) hx hb dX8_setCurrency_24 (by decide) ?_
  refine lv_iconst (v := 1) hx hb dX8_setCurrency_25 (by decide) ?_
  have hFc := va_free (wc := [(h0, .inr (7, [ac, .ref wa, .int 0, .int 0]))]) hD hS hA [0] rfl
  refine va_calli (va_runV (As := [.int 0, .int 1]) (rest := []) ⟨hx, hb, hml, hown, hts⟩ (c_no0 l dC dI s.heap.size t h0 ac (.ref wa) 0 0 1) (cwV 2 hts (zg_V kw_1377 kw_1379 kw_40 kw_70 kw_1380) rfl rfl rfl (by decide +kernel) ⟨Nat.le_of_ble_eq_true rfl, Nat.le_of_ble_eq_true rfl⟩) ⟨zA_blind, va_recv hK hP (ci := 7) (q0 := 0) rfl rfl, zA_pre hP hD hS hK hQ hA [0] rfl rfl (by decide) [] rfl⟩ rfl rfl hl.1 rfl (lv_room (Nat.le_of_ble_eq_true rfl)) dX8_setCurrency_26 ⟨zl_b rfl, zl_b rfl⟩) hS (fun q _ h => hFc q h) hFc (fun r_3 u t9 H1 locs ht hvm hw hB hz1 hk1 hS => ?_)
  obtain ⟨hP1, hK1, hD1⟩ := hB
  rw [ht] at hP1
  have hK1 := va_K.moved hvm.symm hK1
  obtain ⟨hP, hD⟩ := va_join (wr := [(wa, .inl (k1, 4, .inl (zW)))]) (w1 := [(h0, .inr (7, [ac, .ref wa, .int 0, .int 1]))]) hP hD [0] [1] rfl rfl (by decide) (by decide) hk1 hFc hP1 hD1
  have hK := (hK.sub (tys' := [(k1, .int)]) [0] rfl).app hK1
  generalize H1 = H at hP hS ⊢
  have hP : va_P (dC, dI) zc [(wa, .inl (k1, 4, .inl (zW))), (h0, .inr (7, [ac, .ref wa, .int 0, .int 1]))] H := hP
  have hD : va_D A [(wa, .inl (k1, 4, .inl (zW))), (h0, .inr (7, [ac, .ref wa, .int 0, .int 1]))] := hD
  have hK : va_K (dC, dI) zc [(k1, .int)] s := hK
  have hw : 1 = r_3 := hw.symm
  subst hw
  refine lv_if_eq (tgt := 34) hx hb dX8_setCurrency_29 (by decide) (fun c_4 => absurd c_4 (by decide)) (fun c_4 => ?_)
  refine lv_iconst (v := 0) hx hb dX8_setCurrency_32 (by decide) ?_
  have hP9 := hP.sub (ws' := [(h0, .inr (7, [ac, .ref wa, .int 0, .int 1]))]) [1] rfl
  have hD9 := hD.sub (ws' := [(h0, .inr (7, [ac, .ref wa, .int 0, .int 1]))]) [1] (by decide) rfl
  have hK9 := hK.sub (tys' := []) [] rfl
  exact W.iret hx hb hr (fun t ht hW => ⟨⟨_, (), rfl, trivial, by rw [ht]; exact hP9, va_K.moved hW.alike hK9, hD9⟩, hS.F ht⟩) hS.2.2 dX8_setCurrency_33
set_option maxHeartbeats 4000000 in
set_option maxRecDepth 100000 in
/-- setCurrency of the model -/
theorem m_curOk (l : Launch) (dC : Nat → ClassId) (dI : Nat → Nat → Nat) (sz t : Nat) (h0 wa : Nat) (k1 : ClassId) (ac : Value) (a v : Int32) (hv1 : ¬ a < 0) (hv2 : ¬ 3 < a) (hv3 : ¬ v < 1) (hv4 : ¬ 99999 < v) : Met l yX8_setCurrency ws_X8_setCurrency ({ frames := 2, cells := 0, slots := 0, locals := 34 }) (zA dC dI [(h0, .inr (7, [ac, .ref wa, .int 0, .int 0])), (wa, .inl (k1, 4, .inl (zW)))] [(k1, .int)] sz t [.ref h0, .int a, .int v]) (va_Qi (fun r (_ : Unit) => r = zW a.toNatClampNeg) (fun _ t9 => zB dC dI (va_A [(h0, .inr (7, [ac, .ref wa, .int 0, .int 0])), (wa, .inl (k1, 4, .inl (zW)))] sz) [(h0, .inr (7, [ac, .ref wa, .int 0, .int 0]))] [] t9) (va_A [(h0, .inr (7, [ac, .ref wa, .int 0, .int 0])), (wa, .inl (k1, 4, .inl (zW)))] sz)) 0 0 (va_A [(h0, .inr (7, [ac, .ref wa, .int 0, .int 0])), (wa, .inl (k1, 4, .inl (zW)))] sz) := by
  refine Met.ofW (cc := cX8_setCurrency) (maxL := 4) (ret := (some .int)) (by decide) rfl ?_
  intro p e s m args below meth c s₁ B hml hv
  obtain ⟨rfl, hsz, hP, hK, hD0, hQ⟩ := hv
  have hx := B.exec
  have hb := B.bytes
  have hr := B.returns
  have hts : ∀ w ∈ zG, w.before _ s = true := fun w h => atoms_spec (ws := ws_X8_setCurrency) B.pre w (List.mem_cons_of_mem _ h)
  have hown : s.vm.findClass RX8 = some m.cls := findClass_of_methodNamed B.named
  have hlocks := B.notSynchronized
  subst hsz
  have hD := hD0.self (sz := s.heap.size)
  generalize hAe : va_A [(h0, .inr (7, [ac, .ref wa, .int 0, .int 0])), (wa, .inl (k1, 4, .inl (zW)))] s.heap.size = A at hD hQ ⊢
  have hA : ∀ q : Nat, s.heap.size ≤ q → A q := fun q h => by rw [← hAe]; exact Or.inr h
  have hS : va_S A s.heap s.heap [] := va_S.rf
  have hP : va_P (dC, dI) zc [(h0, .inr (7, [ac, .ref wa, .int 0, .int 0])), (wa, .inl (k1, 4, .inl (zW)))] s.heap := hP
  have hl := lv_entry ([.ref h0, .int a, .int v]) (n := 4) (Nat.le_of_ble_eq_true rfl)
  rw [lg_entry_eq]
  generalize (lg_sl ([.ref h0, .int a, .int v]) ++ List.replicate (4 - (lg_sl ([.ref h0, .int a, .int v])).length) Slot.unset).toArray = ls at hl ⊢
  have hl : lv_has ls 4 [(0, .ref h0), (1, .int a), (2, .int v)] := hl
  refine lv_aload_n hx hb dX8_setCurrency_0 rfl (lv_at hl 0 rfl) ?_
  refine lv_iload_n hx hb dX8_setCurrency_1 rfl (lv_at hl 1 rfl) ?_
  refine lv_iconst (v := 0) hx hb dX8_setCurrency_2 (by decide) ?_
  refine lv_iconst (v := 3) hx hb dX8_setCurrency_3 (by decide) ?_
  refine vp_callSi (W.runS (As := [.int a, .int 0, .int 3]) (rest := [.ref h0]) ⟨hx, hb, hml, hown, hts⟩ (c_isIn1 l dC dI s.heap.size t a 0 3 hv1 hv2) (va_cwS 3 hts (zg_S kw_1374 kw_1375 kw_70 kw_1376) rfl rfl rfl (by decide +kernel) ⟨Nat.le_of_ble_eq_true rfl, Nat.le_of_ble_eq_true rfl⟩) ⟨zA_blind, zA_pre hP hD hS hK hQ hA [] rfl rfl (by decide) [] rfl⟩ rfl rfl hl.1 rfl (lv_room (Nat.le_of_ble_eq_true rfl)) dX8_setCurrency_4 ⟨zl_b rfl, zl_b rfl⟩) (fun r hr => ?_)
  subst hr
  refine lv_if_eq (tgt := 24) hx hb dX8_setCurrency_7 (by decide) (fun c_1 => absurd c_1 (by decide)) (fun c_1 => ?_)
  refine lv_iload_n hx hb dX8_setCurrency_10 rfl (lv_at hl 2 rfl) ?_
  refine lv_iconst (v := 1) hx hb dX8_setCurrency_11 (by decide) ?_
  refine lv_ldc hx hb hown (hts _ kw_1560) dX8_setCurrency_12 ?_
  refine vp_callSi (W.runS (As := [.int v, .int 1, .int 99999]) (rest := [.ref h0]) ⟨hx, hb, hml, hown, hts⟩ (c_isIn1 l dC dI s.heap.size t v 1 99999 hv3 hv4) (va_cwS 3 hts (zg_S kw_1374 kw_1375 kw_70 kw_1376) rfl rfl rfl (by decide +kernel) ⟨Nat.le_of_ble_eq_true rfl, Nat.le_of_ble_eq_true rfl⟩) ⟨zA_blind, zA_pre hP hD hS hK hQ hA [] rfl rfl (by decide) [] rfl⟩ rfl rfl hl.1 rfl (lv_room (Nat.le_of_ble_eq_true rfl)) dX8_setCurrency_14 ⟨zl_b rfl, zl_b rfl⟩) (fun r hr => ?_)
  subst hr
  refine lv_if_eq (tgt := 24) hx hb dX8_setCurrency_17 (by decide) (fun c_2 => absurd c_2 (by decide)) (fun c_2 => ?_)
  refine lv_iconst (v := 1) hx hb dX8_setCurrency_20 (by decide) ?_
  refine lv_goto (tgt := 25) hx hb dX8_setCurrency_21 (by decide) ?_
  refine lv_iconst (v := 1) hx hb dX8_setCurrency_25 (by decide) ?_
  have hFc := va_free (wc := [(h0, .inr (7, [ac, .ref wa, .int 0, .int 0]))]) hD hS hA [0] rfl
  refine va_calli (va_runV (As := [.int 1, .int 1]) (rest := []) ⟨hx, hb, hml, hown, hts⟩ (c_no1 l dC dI s.heap.size t h0 ac (.ref wa) 0 0 1) (cwV 2 hts (zg_V kw_1377 kw_1379 kw_40 kw_70 kw_1380) rfl rfl rfl (by decide +kernel) ⟨Nat.le_of_ble_eq_true rfl, Nat.le_of_ble_eq_true rfl⟩) ⟨zA_blind, va_recv hK hP (ci := 7) (q0 := 0) rfl rfl, zA_pre hP hD hS hK hQ hA [0] rfl rfl (by decide) [] rfl⟩ rfl rfl hl.1 rfl (lv_room (Nat.le_of_ble_eq_true rfl)) dX8_setCurrency_26 ⟨zl_b rfl, zl_b rfl⟩) hS (fun q _ h => hFc q h) hFc (fun r_3 u t9 H1 locs ht hvm hw hB hz1 hk1 hS => ?_)
  obtain ⟨hP1, hK1, hD1⟩ := hB
  rw [ht] at hP1
  have hK1 := va_K.moved hvm.symm hK1
  obtain ⟨hP, hD⟩ := va_join (wr := [(wa, .inl (k1, 4, .inl (zW)))]) (w1 := [(h0, .inr (7, [ac, .ref wa, .int 0, .int 0]))]) hP hD [0] [1] rfl rfl (by decide) (by decide) hk1 hFc hP1 hD1
  have hK := (hK.sub (tys' := [(k1, .int)]) [0] rfl).app hK1
  generalize H1 = H at hP hS ⊢
  have hP : va_P (dC, dI) zc [(wa, .inl (k1, 4, .inl (zW))), (h0, .inr (7, [ac, .ref wa, .int 0, .int 0]))] H := hP
  have hD : va_D A [(wa, .inl (k1, 4, .inl (zW))), (h0, .inr (7, [ac, .ref wa, .int 0, .int 0]))] := hD
  have hK : va_K (dC, dI) zc [(k1, .int)] s := hK
  have hw : 0 = r_3 := hw.symm
  subst hw
  refine lv_if_eq (tgt := 34) hx hb dX8_setCurrency_29 (by decide) (fun c_4 => ?_) (fun c_4 => absurd c_4 (by decide))
  refine lv_aload_n hx hb dX8_setCurrency_34 rfl (lv_at hl 0 rfl) ?_
  refine va_get (D := (dC, dI)) (ci := 7) (v := .ref wa) (C := RX8) (T := TX8) (N := 4) hx hb hts iX8 hown hK hP 1 rfl rfl 1 (by decide) (hts _ kw_1353) (fun _ h9 => h9) rfl dX8_setCurrency_35 ?_
  refine lv_iload_n hx hb dX8_setCurrency_38 rfl (lv_at hl 1 rfl) ?_
  refine va_iald hx hb hK hP 0 0 rfl rfl (zi_in4 hv1 hv2) dX8_setCurrency_39 ?_
  refine lv_istore_n (lv' := [(3, .int ((zW) (a : Int32).toNatClampNeg)), (0, .ref h0), (1, .int a), (2, .int v)]) hx hb dX8_setCurrency_40 rfl hl (by decide) rfl (fun ls hl => ?_)
  refine lv_aload_n hx hb dX8_setCurrency_41 rfl (lv_at hl 1 rfl) ?_
  refine va_get (D := (dC, dI)) (ci := 7) (v := .ref wa) (C := RX8) (T := TX8) (N := 4) hx hb hts iX8 hown hK hP 1 rfl rfl 1 (by decide) (hts _ kw_1353) (fun _ h9 => h9) rfl dX8_setCurrency_42 ?_
  refine lv_iload_n hx hb dX8_setCurrency_45 rfl (lv_at hl 2 rfl) ?_
  refine lv_iload_n hx hb dX8_setCurrency_46 rfl (lv_at hl 3 rfl) ?_
  refine va_iast hx hb hK hP hD hS 0 0 rfl rfl (zi_in4 hv1 hv2) dX8_setCurrency_47 (fun H locs hP hD hS => ?_)
  have hP : va_P (dC, dI) zc [(wa, .inl (k1, 4, .inl (upd (zW) (a : Int32).toNatClampNeg v))), (h0, .inr (7, [ac, .ref wa, .int 0, .int 0]))] H := hP
  have hD : va_D A [(wa, .inl (k1, 4, .inl (upd (zW) (a : Int32).toNatClampNeg v))), (h0, .inr (7, [ac, .ref wa, .int 0, .int 0]))] := hD
  refine lv_iload_n hx hb dX8_setCurrency_48 rfl (lv_at hl 0 rfl) ?_
  have hP9 := hP.sub (ws' := [(h0, .inr (7, [ac, .ref wa, .int 0, .int 0]))]) [1] rfl
  have hD9 := hD.sub (ws' := [(h0, .inr (7, [ac, .ref wa, .int 0, .int 0]))]) [1] (by decide) rfl
  have hK9 := hK.sub (tys' := []) [] rfl
  exact W.iret hx hb hr (fun t ht hW => ⟨⟨_, (), rfl, rfl, by rw [ht]; exact hP9, va_K.moved hW.alike hK9, hD9⟩, hS.F ht⟩) hS.2.2 dX8_setCurrency_49
set_option maxHeartbeats 4000000 in
set_option maxRecDepth 100000 in
/-- pass: no such number of days -/
theorem c_passBad (l : Launch) (hst : l.stackTraces = false) (dC : Nat → ClassId) (dI : Nat → Nat → Nat) (sz t : Nat) (h0 ac : Nat) (w0 b0 : Value) (a : Int32) (hv9 : a < 1 ∨ 30 < a) : vx_Met l yX4_pass ws_X4_pass ({ frames := 7, cells := 1, slots := 6, locals := 121 }) (zA dC dI [(h0, .inr (5, [.ref ac, w0, b0, .int 0])), (ac, .inr (0, [.int 0, .ref t, .int 0]))] [] sz t [.ref h0, .int a]) (va_Qi (fun _ (_ : Unit) => False) (fun _ _ => True) (fun _ => False)) (vx_X (fun _ : Unit => True) (fun E _ _ => E = "java/lang/IllegalArgumentException") (fun q => sz ≤ q)) 1 6 (fun q => sz ≤ q) := by
  refine vx_ofW (cc := cX4_pass) (maxL := 6) (ret := (some .int)) (by decide) rfl ?_
  intro p e s m args below meth c s₁ B hml htab hv
  obtain ⟨rfl, hsz, hP, hK, hD0, hQ⟩ := hv
  have hx := B.exec
  have hb := B.bytes
  have hr := B.returns
  have hts : ∀ w ∈ zG, w.before _ s = true := fun w h => atoms_spec (ws := ws_X4_pass) B.pre w (List.mem_cons_of_mem _ h)
  have hown : s.vm.findClass RX4 = some m.cls := findClass_of_methodNamed B.named
  have hlocks := B.notSynchronized
  subst hsz
  have hD := hD0.self (sz := s.heap.size)
  generalize hAe : va_A [(h0, .inr (5, [.ref ac, w0, b0, .int 0])), (ac, .inr (0, [.int 0, .ref t, .int 0]))] s.heap.size = A at hD hQ
  have hA : ∀ q : Nat, s.heap.size ≤ q → A q := fun q h => by rw [← hAe]; exact Or.inr h
  have hS : va_S A s.heap s.heap [] := va_S.rf
  have hSn : va_S (fun q => s.heap.size ≤ q) s.heap s.heap [] := va_S.rf
  have hP : va_P (dC, dI) zc [(h0, .inr (5, [.ref ac, w0, b0, .int 0])), (ac, .inr (0, [.int 0, .ref t, .int 0]))] s.heap := hP
  have hl := lv_entry ([.ref h0, .int a]) (n := 6) (Nat.le_of_ble_eq_true rfl)
  rw [lg_entry_eq]
  generalize (lg_sl ([.ref h0, .int a]) ++ List.replicate (6 - (lg_sl ([.ref h0, .int a])).length) Slot.unset).toArray = ls at hl ⊢
  have hl : lv_has ls 6 [(0, .ref h0), (1, .int a)] := hl
  refine lv_iload_n hx hb dX4_pass_0 rfl (lv_at hl 1 rfl) ?_
  refine lv_iconst (v := 1) hx hb dX4_pass_1 (by decide) ?_
  refine lv_bipush (v := 30) hx hb dX4_pass_2 (by decide) ?_
  refine vx_callv (vx_runS (As := [.int a, .int 1, .int 30]) (rest := []) ⟨hx, hb, hml, hown, hts⟩ (c_ckBad l hst dC dI s.heap.size t a 1 30 hv9) (va_cwS 3 hts (zg_S kw_432 kw_433 kw_64 kw_434) rfl rfl rfl (by decide +kernel) ⟨Nat.le_of_ble_eq_true rfl, Nat.le_of_ble_eq_true rfl⟩) ⟨zA_blind, zA_pre hP hD hS hK hQ hA [] rfl rfl (by decide) [] rfl⟩ rfl rfl hl.1 rfl (lv_room (Nat.le_of_ble_eq_true rfl)) dX4_pass_4 ⟨zl_b rfl, zl_b rfl⟩) hSn (fun q _ h => h.elim) (fun q h => Nat.le_trans (Nat.le_refl _) h) (fun q _ h => Nat.le_trans (Nat.le_refl _) h) (fun E ce q9 u t9 H1 locs1 ht hvm hp9 hE hz1 hk1 hS1 hc1 hv1 hcl1 => ?_) (fun u t9 H1 locs1 ht hvm hw hB hz1 hk1 hS1 => hw.elim)
  have hE : E = "java/lang/IllegalArgumentException" := hE
  subst hE
  refine vx_widen (k := 1) (n := 6) (zl_b rfl) (zl_b rfl) ?_
  exact vx_out (fun x hx => (htab x hx).elim) hlocks hc1 hv1 hcl1 (fun t ht hW => ⟨(), trivial, rfl, zS_F hS1 ht⟩) hS1.2.2 (zl_b rfl) (zl_b rfl)
set_option maxHeartbeats 4000000 in
set_option maxRecDepth 100000 in
/-- pass -/
theorem c_passOk (l : Launch) (dC : Nat → ClassId) (dI : Nat → Nat → Nat) (sz t : Nat) (h0 ac : Nat) (w0 b0 : Value) (a : Int32) (hv1 : ¬ a < 1) (hv2 : ¬ 30 < a) : Met l yX4_pass ws_X4_pass ({ frames := 2, cells := 0, slots := 0, locals := 34 }) (zA dC dI [(h0, .inr (5, [.ref ac, w0, b0, .int 0])), (ac, .inr (0, [.int 0, .ref t, .int 0]))] [] sz t [.ref h0, .int a]) (va_Qi (fun r (_ : Unit) => r = a) (fun _ t9 => zB dC dI (va_A [(h0, .inr (5, [.ref ac, w0, b0, .int 0])), (ac, .inr (0, [.int 0, .ref t, .int 0]))] sz) [] [] t9) (va_A [(h0, .inr (5, [.ref ac, w0, b0, .int 0])), (ac, .inr (0, [.int 0, .ref t, .int 0]))] sz)) 0 0 (va_A [(h0, .inr (5, [.ref ac, w0, b0, .int 0])), (ac, .inr (0, [.int 0, .ref t, .int 0]))] sz) := by
  refine Met.ofW (cc := cX4_pass) (maxL := 6) (ret := (some .int)) (by decide) rfl ?_
  intro p e s m args below meth c s₁ B hml hv
  obtain ⟨rfl, hsz, hP, hK, hD0, hQ⟩ := hv
  have hx := B.exec
  have hb := B.bytes
  have hr := B.returns
  have hts : ∀ w ∈ zG, w.before _ s = true := fun w h => atoms_spec (ws := ws_X4_pass) B.pre w (List.mem_cons_of_mem _ h)
  have hown : s.vm.findClass RX4 = some m.cls := findClass_of_methodNamed B.named
  have hlocks := B.notSynchronized
  subst hsz
  have hD := hD0.self (sz := s.heap.size)
  generalize hAe : va_A [(h0, .inr (5, [.ref ac, w0, b0, .int 0])), (ac, .inr (0, [.int 0, .ref t, .int 0]))] s.heap.size = A at hD hQ ⊢
  have hA : ∀ q : Nat, s.heap.size ≤ q → A q := fun q h => by rw [← hAe]; exact Or.inr h
  have hS : va_S A s.heap s.heap [] := va_S.rf
  have hP : va_P (dC, dI) zc [(h0, .inr (5, [.ref ac, w0, b0, .int 0])), (ac, .inr (0, [.int 0, .ref t, .int 0]))] s.heap := hP
  have hl := lv_entry ([.ref h0, .int a]) (n := 6) (Nat.le_of_ble_eq_true rfl)
  rw [lg_entry_eq]
  generalize (lg_sl ([.ref h0, .int a]) ++ List.replicate (6 - (lg_sl ([.ref h0, .int a])).length) Slot.unset).toArray = ls at hl ⊢
  have hl : lv_has ls 6 [(0, .ref h0), (1, .int a)] := hl
  refine lv_iload_n hx hb dX4_pass_0 rfl (lv_at hl 1 rfl) ?_
  refine lv_iconst (v := 1) hx hb dX4_pass_1 (by decide) ?_
  refine lv_bipush (v := 30) hx hb dX4_pass_2 (by decide) ?_
  refine va_csv (W.runS (As := [.int a, .int 1, .int 30]) (rest := []) ⟨hx, hb, hml, hown, hts⟩ (c_ckOk l dC dI s.heap.size t a 1 30 hv1 hv2) (va_cwS 3 hts (zg_S kw_432 kw_433 kw_64 kw_434) rfl rfl rfl (by decide +kernel) ⟨Nat.le_of_ble_eq_true rfl, Nat.le_of_ble_eq_true rfl⟩) ⟨zA_blind, zA_pre hP hD hS hK hQ hA [] rfl rfl (by decide) [] rfl⟩ rfl rfl hl.1 rfl (lv_room (Nat.le_of_ble_eq_true rfl)) dX4_pass_4 ⟨zl_b rfl, zl_b rfl⟩) (fun _ => ?_)
  refine lv_aload_n hx hb dX4_pass_7 rfl (lv_at hl 0 rfl) ?_
  refine va_get (D := (dC, dI)) (ci := 5) (v := .int 0) (C := RX4) (T := TX4) (N := 4) hx hb hts iX4 hown hK hP 0 rfl rfl 3 (by decide) (hts _ kw_243) (fun _ h9 => h9) rfl dX4_pass_8 ?_
  refine lv_iload_n hx hb dX4_pass_11 rfl (lv_at hl 1 rfl) ?_
  refine lv_iadd hx hb dX4_pass_12 ?_
  refine W.eq (g2 := F0 m 13 ls [.int a]) (by rw [Int32.zero_add]) ?_
  refine lv_sipush (v := 360) hx hb dX4_pass_13 (by decide) ?_
  refine lv_icmp_le (tgt := 27) hx hb dX4_pass_16 (by decide) (fun c_1 => ?_) (fun c_1 => absurd (zi_360 hv2) c_1)
  refine lv_aload_n hx hb dX4_pass_27 rfl (lv_at hl 0 rfl) ?_
  refine va_get (D := (dC, dI)) (ci := 5) (v := .int 0) (C := RX4) (T := TX4) (N := 4) hx hb hts iX4 hown hK hP 0 rfl rfl 3 (by decide) (hts _ kw_243) (fun _ h9 => h9) rfl dX4_pass_28 ?_
  refine lv_bipush (v := 30) hx hb dX4_pass_31 (by decide) ?_
  refine lv_idiv hx hb dX4_pass_33 (by decide) ?_
  refine lv_topi (fun x_2 e_x_2 => ?_)
  obtain rfl : x_2 = 0 := by rw [e_x_2]; decide
  refine lv_istore_n (lv' := [(2, .int 0), (0, .ref h0), (1, .int a)]) hx hb dX4_pass_34 rfl hl (by decide) rfl (fun ls hl => ?_)
  refine lv_aload_n hx hb dX4_pass_35 rfl (lv_at hl 1 rfl) ?_
  refine lv_dup hx hb dX4_pass_36 rfl ?_
  refine va_get (D := (dC, dI)) (ci := 5) (v := .int 0) (C := RX4) (T := TX4) (N := 4) hx hb hts iX4 hown hK hP 0 rfl rfl 3 (by decide) (hts _ kw_243) (fun _ h9 => h9) rfl dX4_pass_37 ?_
  refine lv_iload_n hx hb dX4_pass_40 rfl (lv_at hl 2 rfl) ?_
  refine lv_iadd hx hb dX4_pass_41 ?_
  refine W.eq (g2 := F0 m 42 ls [.int a, .ref h0]) (by rw [Int32.zero_add]) ?_
  refine va_put (D := (dC, dI)) (ci := 5) (v := .int a) (ty := .int) (C := RX4) (T := TX4) (N := 4) hx hb hts iX4 tyX4 tyX4_ok nmX4 hown hK hP hD hS 0 rfl rfl 3 (by decide) (hts _ kw_243) (fun _ h9 => h9) rfl (by decide +kernel) rfl rfl (Nat.le_of_ble_eq_true rfl) dX4_pass_42 (fun H locs hP hD hS => ?_)
  have hP : va_P (dC, dI) zc [(h0, .inr (5, [.ref ac, w0, b0, .int a])), (ac, .inr (0, [.int 0, .ref t, .int 0]))] H := hP
  have hD : va_D A [(h0, .inr (5, [.ref ac, w0, b0, .int a])), (ac, .inr (0, [.int 0, .ref t, .int 0]))] := hD
  refine lv_aload_n hx hb dX4_pass_45 rfl (lv_at hl 1 rfl) ?_
  refine va_get (D := (dC, dI)) (ci := 5) (v := .int a) (C := RX4) (T := TX4) (N := 4) hx hb hts iX4 hown hK hP 0 rfl rfl 3 (by decide) (hts _ kw_243) (fun _ h9 => h9) rfl dX4_pass_46 ?_
  refine lv_bipush (v := 30) hx hb dX4_pass_49 (by decide) ?_
  refine lv_idiv hx hb dX4_pass_51 (by decide) ?_
  refine lv_iload_n hx hb dX4_pass_52 rfl (lv_at hl 0 rfl) ?_
  refine lv_icmp_le (tgt := 66) hx hb dX4_pass_53 (by decide) (fun c_3 => ?_) (fun c_3 => ?_)
  · refine lv_iconst (v := 0) hx hb dX4_pass_66 (by decide) ?_
    refine lv_istore_n (lv' := [(3, .int 0), (2, .int 0), (0, .ref h0), (1, .int a)]) hx hb dX4_pass_67 rfl hl (by decide) rfl (fun ls hl => ?_)
    refine lv_iconst (v := 0) hx hb dX4_pass_68 (by decide) ?_
    refine lv_istore (lv' := [(4, .int 0), (3, .int 0), (2, .int 0), (0, .ref h0), (1, .int a)]) hx hb dX4_pass_69 hl (by decide) rfl (fun ls hl => ?_)
    refine lv_iload hx hb dX4_pass_71 (lv_at hl 0 rfl) ?_
    refine lv_aload_n hx hb dX4_pass_73 rfl (lv_at hl 3 rfl) ?_
    refine va_get (D := (dC, dI)) (ci := 5) (v := .ref ac) (C := RX4) (T := TX4) (N := 4) hx hb hts iX4 hown hK hP 0 rfl rfl 0 (by decide) (hts _ kw_240) (fun _ h9 => h9) rfl dX4_pass_74 ?_
    refine vp_callSi (W.runV (As := []) (rest := [.int 0]) ⟨hx, hb, hml, hown, hts⟩ (c_AL_size l dC dI H.size t ac 0 (.ref t) 0) (cwV 0 hts (zg_V kw_257 kw_258 kw_259 kw_67 kw_260) rfl rfl rfl (by decide +kernel) ⟨Nat.le_of_ble_eq_true rfl, Nat.le_of_ble_eq_true rfl⟩) ⟨zA_blind, va_recv hK hP (ci := 0) (q0 := 1) rfl rfl, zA_pre hP hD hS hK hQ hA [1] rfl rfl (by decide) [] rfl⟩ rfl rfl hl.1 rfl (lv_room (Nat.le_of_ble_eq_true rfl)) dX4_pass_77 ⟨zl_b rfl, zl_b rfl⟩) (fun r hr => ?_)
    subst hr
    refine lv_icmp_ge (tgt := 134) hx hb dX4_pass_80 (by decide) (fun c_4 => ?_) (fun c_4 => absurd c_4 (by decide))
    refine lv_aload_n hx hb dX4_pass_134 rfl (lv_at hl 3 rfl) ?_
    refine va_get (D := (dC, dI)) (ci := 5) (v := .int a) (C := RX4) (T := TX4) (N := 4) hx hb hts iX4 hown hK hP 0 rfl rfl 3 (by decide) (hts _ kw_243) (fun _ h9 => h9) rfl dX4_pass_135 ?_
    have hP9 := hP.sub (ws' := []) [] rfl
    have hD9 := hD.sub (ws' := []) [] (by decide) rfl
    have hK9 := hK.sub (tys' := []) [] rfl
    exact W.iret hx hb hr (fun t ht hW => ⟨⟨_, (), rfl, rfl, by rw [ht]; exact hP9, va_K.moved hW.alike hK9, hD9⟩, hS.F ht⟩) hS.2.2 dX4_pass_138
  · refine lv_iload_n hx hb dX4_pass_56 rfl (lv_at hl 0 rfl) ?_
    refine lv_bipush (v := 12) hx hb dX4_pass_57 (by decide) ?_
    refine lv_icmp_ge (tgt := 66) hx hb dX4_pass_59 (by decide) (fun c_5 => absurd c_5 (by decide)) (fun c_5 => ?_)
    refine lv_iconst (v := 1) hx hb dX4_pass_62 (by decide) ?_
    refine lv_goto (tgt := 67) hx hb dX4_pass_63 (by decide) ?_
    refine lv_istore_n (lv' := [(3, .int 1), (2, .int 0), (0, .ref h0), (1, .int a)]) hx hb dX4_pass_67 rfl hl (by decide) rfl (fun ls hl => ?_)
    refine lv_iconst (v := 0) hx hb dX4_pass_68 (by decide) ?_
    refine lv_istore (lv' := [(4, .int 0), (3, .int 1), (2, .int 0), (0, .ref h0), (1, .int a)]) hx hb dX4_pass_69 hl (by decide) rfl (fun ls hl => ?_)
    refine lv_iload hx hb dX4_pass_71 (lv_at hl 0 rfl) ?_
    refine lv_aload_n hx hb dX4_pass_73 rfl (lv_at hl 3 rfl) ?_
    refine va_get (D := (dC, dI)) (ci := 5) (v := .ref ac) (C := RX4) (T := TX4) (N := 4) hx hb hts iX4 hown hK hP 0 rfl rfl 0 (by decide) (hts _ kw_240) (fun _ h9 => h9) rfl dX4_pass_74 ?_
    refine vp_callSi (W.runV (As := []) (rest := [.int 0]) ⟨hx, hb, hml, hown, hts⟩ (c_AL_size l dC dI H.size t ac 0 (.ref t) 0) (cwV 0 hts (zg_V kw_257 kw_258 kw_259 kw_67 kw_260) rfl rfl rfl (by decide +kernel) ⟨Nat.le_of_ble_eq_true rfl, Nat.le_of_ble_eq_true rfl⟩) ⟨zA_blind, va_recv hK hP (ci := 0) (q0 := 1) rfl rfl, zA_pre hP hD hS hK hQ hA [1] rfl rfl (by decide) [] rfl⟩ rfl rfl hl.1 rfl (lv_room (Nat.le_of_ble_eq_true rfl)) dX4_pass_77 ⟨zl_b rfl, zl_b rfl⟩) (fun r hr => ?_)
    subst hr
    refine lv_icmp_ge (tgt := 134) hx hb dX4_pass_80 (by decide) (fun c_6 => ?_) (fun c_6 => absurd c_6 (by decide))
    refine lv_aload_n hx hb dX4_pass_134 rfl (lv_at hl 3 rfl) ?_
    refine va_get (D := (dC, dI)) (ci := 5) (v := .int a) (C := RX4) (T := TX4) (N := 4) hx hb hts iX4 hown hK hP 0 rfl rfl 3 (by decide) (hts _ kw_243) (fun _ h9 => h9) rfl dX4_pass_135 ?_
    have hP9 := hP.sub (ws' := []) [] rfl
    have hD9 := hD.sub (ws' := []) [] (by decide) rfl
    have hK9 := hK.sub (tys' := []) [] rfl
    exact W.iret hx hb hr (fun t ht hW => ⟨⟨_, (), rfl, rfl, by rw [ht]; exact hP9, va_K.moved hW.alike hK9, hD9⟩, hS.F ht⟩) hS.2.2 dX4_pass_138
set_option maxHeartbeats 4000000 in
set_option maxRecDepth 100000 in
/-- pass of the model: no such number of days -/
theorem m_passBad (l : Launch) (dC : Nat → ClassId) (dI : Nat → Nat → Nat) (sz t : Nat) (h0 ac : Nat) (cu : Value) (a : Int32) (hv9 : a < 1 ∨ 30 < a) : Met l yX8_pass ws_X8_pass ({ frames := 2, cells := 0, slots := 0, locals := 34 }) (zA dC dI [(h0, .inr (7, [.ref ac, cu, .int 0, .int 0])), (ac, .inr (0, [.int 0, .ref t, .int 0]))] [] sz t [.ref h0, .int a]) (va_Qi (fun r (_ : Unit) => True) (fun _ t9 => zB dC dI (va_A [(h0, .inr (7, [.ref ac, cu, .int 0, .int 0])), (ac, .inr (0, [.int 0, .ref t, .int 0]))] sz) [(h0, .inr (7, [.ref ac, cu, .int 0, .int 1]))] [] t9) (va_A [(h0, .inr (7, [.ref ac, cu, .int 0, .int 0])), (ac, .inr (0, [.int 0, .ref t, .int 0]))] sz)) 0 0 (va_A [(h0, .inr (7, [.ref ac, cu, .int 0, .int 0])), (ac, .inr (0, [.int 0, .ref t, .int 0]))] sz) := by
  refine Met.ofW (cc := cX8_pass) (maxL := 4) (ret := (some .int)) (by decide) rfl ?_
  intro p e s m args below meth c s₁ B hml hv
  obtain ⟨rfl, hsz, hP, hK, hD0, hQ⟩ := hv
  have hx := B.exec
  have hb := B.bytes
  have hr := B.returns
  have hts : ∀ w ∈ zG, w.before _ s = true := fun w h => atoms_spec (ws := ws_X8_pass) B.pre w (List.mem_cons_of_mem _ h)
  have hown : s.vm.findClass RX8 = some m.cls := findClass_of_methodNamed B.named
  have hlocks := B.notSynchronized
  subst hsz
  have hD := hD0.self (sz := s.heap.size)
  generalize hAe : va_A [(h0, .inr (7, [.ref ac, cu, .int 0, .int 0])), (ac, .inr (0, [.int 0, .ref t, .int 0]))] s.heap.size = A at hD hQ ⊢
  have hA : ∀ q : Nat, s.heap.size ≤ q → A q := fun q h => by rw [← hAe]; exact Or.inr h
  have hS : va_S A s.heap s.heap [] := va_S.rf
  have hP : va_P (dC, dI) zc [(h0, .inr (7, [.ref ac, cu, .int 0, .int 0])), (ac, .inr (0, [.int 0, .ref t, .int 0]))] s.heap := hP
  have hl := lv_entry ([.ref h0, .int a]) (n := 4) (Nat.le_of_ble_eq_true rfl)
  rw [lg_entry_eq]
  generalize (lg_sl ([.ref h0, .int a]) ++ List.replicate (4 - (lg_sl ([.ref h0, .int a])).length) Slot.unset).toArray = ls at hl ⊢
  have hl : lv_has ls 4 [(0, .ref h0), (1, .int a)] := hl
  refine lv_aload_n hx hb dX8_pass_0 rfl (lv_at hl 0 rfl) ?_
  refine lv_iload_n hx hb dX8_pass_1 rfl (lv_at hl 1 rfl) ?_
  refine lv_iconst (v := 1) hx hb dX8_pass_2 (by decide) ?_
  refine lv_bipush (v := 30) hx hb dX8_pass_3 (by decide) ?_
  refine vp_callSi (W.runS (As := [.int a, .int 1, .int 30]) (rest := [.ref h0]) ⟨hx, hb, hml, hown, hts⟩ (c_isIn0 l dC dI s.heap.size t a 1 30 hv9) (va_cwS 3 hts (zg_S kw_1374 kw_1375 kw_70 kw_1376) rfl rfl rfl (by decide +kernel) ⟨Nat.le_of_ble_eq_true rfl, Nat.le_of_ble_eq_true rfl⟩) ⟨zA_blind, zA_pre hP hD hS hK hQ hA [] rfl rfl (by decide) [] rfl⟩ rfl rfl hl.1 rfl (lv_room (Nat.le_of_ble_eq_true rfl)) dX8_pass_5 ⟨zl_b rfl, zl_b rfl⟩) (fun r hr => ?_)
  subst hr
  refine lv_iconst (v := 1) hx hb dX8_pass_8 (by decide) ?_
  have hFc := va_free (wc := [(h0, .inr (7, [.ref ac, cu, .int 0, .int 0]))]) hD hS hA [0] rfl
  refine va_calli (va_runV (As := [.int 0, .int 1]) (rest := []) ⟨hx, hb, hml, hown, hts⟩ (c_no0 l dC dI s.heap.size t h0 (.ref ac) cu 0 0 1) (cwV 2 hts (zg_V kw_1377 kw_1379 kw_40 kw_70 kw_1380) rfl rfl rfl (by decide +kernel) ⟨Nat.le_of_ble_eq_true rfl, Nat.le_of_ble_eq_true rfl⟩) ⟨zA_blind, va_recv hK hP (ci := 7) (q0 := 0) rfl rfl, zA_pre hP hD hS hK hQ hA [0] rfl rfl (by decide) [] rfl⟩ rfl rfl hl.1 rfl (lv_room (Nat.le_of_ble_eq_true rfl)) dX8_pass_9 ⟨zl_b rfl, zl_b rfl⟩) hS (fun q _ h => hFc q h) hFc (fun r_1 u t9 H1 locs ht hvm hw hB hz1 hk1 hS => ?_)
  obtain ⟨hP1, hK1, hD1⟩ := hB
  rw [ht] at hP1
  have hK1 := va_K.moved hvm.symm hK1
  obtain ⟨hP, hD⟩ := va_join (wr := [(ac, .inr (0, [.int 0, .ref t, .int 0]))]) (w1 := [(h0, .inr (7, [.ref ac, cu, .int 0, .int 1]))]) hP hD [0] [1] rfl rfl (by decide) (by decide) hk1 hFc hP1 hD1
  have hK := (hK.sub (tys' := []) [] rfl).app hK1
  generalize H1 = H at hP hS ⊢
  have hP : va_P (dC, dI) zc [(ac, .inr (0, [.int 0, .ref t, .int 0])), (h0, .inr (7, [.ref ac, cu, .int 0, .int 1]))] H := hP
  have hD : va_D A [(ac, .inr (0, [.int 0, .ref t, .int 0])), (h0, .inr (7, [.ref ac, cu, .int 0, .int 1]))] := hD
  have hK : va_K (dC, dI) zc [] s := hK
  have hw : 1 = r_1 := hw.symm
  subst hw
  refine lv_if_ne (tgt := 40) hx hb dX8_pass_12 (by decide) (fun c_2 => ?_) (fun c_2 => absurd c_2 (by decide))
  refine lv_iconst (v := 0) hx hb dX8_pass_40 (by decide) ?_
  have hP9 := hP.sub (ws' := [(h0, .inr (7, [.ref ac, cu, .int 0, .int 1]))]) [1] rfl
  have hD9 := hD.sub (ws' := [(h0, .inr (7, [.ref ac, cu, .int 0, .int 1]))]) [1] (by decide) rfl
  have hK9 := hK.sub (tys' := []) [] rfl
  exact W.iret hx hb hr (fun t ht hW => ⟨⟨_, (), rfl, trivial, by rw [ht]; exact hP9, va_K.moved hW.alike hK9, hD9⟩, hS.F ht⟩) hS.2.2 dX8_pass_41
set_option maxHeartbeats 4000000 in
set_option maxRecDepth 100000 in
/-- pass of the model -/
theorem m_passOk (l : Launch) (dC : Nat → ClassId) (dI : Nat → Nat → Nat) (sz t : Nat) (h0 ac : Nat) (cu : Value) (a : Int32) (hv1 : ¬ a < 1) (hv2 : ¬ 30 < a) : Met l yX8_pass ws_X8_pass ({ frames := 2, cells := 0, slots := 0, locals := 34 }) (zA dC dI [(h0, .inr (7, [.ref ac, cu, .int 0, .int 0])), (ac, .inr (0, [.int 0, .ref t, .int 0]))] [] sz t [.ref h0, .int a]) (va_Qi (fun r (_ : Unit) => r = a) (fun _ t9 => zB dC dI (va_A [(h0, .inr (7, [.ref ac, cu, .int 0, .int 0])), (ac, .inr (0, [.int 0, .ref t, .int 0]))] sz) [(h0, .inr (7, [.ref ac, cu, .int a, .int 0]))] [] t9) (va_A [(h0, .inr (7, [.ref ac, cu, .int 0, .int 0])), (ac, .inr (0, [.int 0, .ref t, .int 0]))] sz)) 0 0 (va_A [(h0, .inr (7, [.ref ac, cu, .int 0, .int 0])), (ac, .inr (0, [.int 0, .ref t, .int 0]))] sz) := by
  refine Met.ofW (cc := cX8_pass) (maxL := 4) (ret := (some .int)) (by decide) rfl ?_
  intro p e s m args below meth c s₁ B hml hv
  obtain ⟨rfl, hsz, hP, hK, hD0, hQ⟩ := hv
  have hx := B.exec
  have hb := B.bytes
  have hr := B.returns
  have hts : ∀ w ∈ zG, w.before _ s = true := fun w h => atoms_spec (ws := ws_X8_pass) B.pre w (List.mem_cons_of_mem _ h)
  have hown : s.vm.findClass RX8 = some m.cls := findClass_of_methodNamed B.named
  have hlocks := B.notSynchronized
  subst hsz
  have hD := hD0.self (sz := s.heap.size)
  generalize hAe : va_A [(h0, .inr (7, [.ref ac, cu, .int 0, .int 0])), (ac, .inr (0, [.int 0, .ref t, .int 0]))] s.heap.size = A at hD hQ ⊢
  have hA : ∀ q : Nat, s.heap.size ≤ q → A q := fun q h => by rw [← hAe]; exact Or.inr h
  have hS : va_S A s.heap s.heap [] := va_S.rf
  have hP : va_P (dC, dI) zc [(h0, .inr (7, [.ref ac, cu, .int 0, .int 0])), (ac, .inr (0, [.int 0, .ref t, .int 0]))] s.heap := hP
  have hl := lv_entry ([.ref h0, .int a]) (n := 4) (Nat.le_of_ble_eq_true rfl)
  rw [lg_entry_eq]
  generalize (lg_sl ([.ref h0, .int a]) ++ List.replicate (4 - (lg_sl ([.ref h0, .int a])).length) Slot.unset).toArray = ls at hl ⊢
  have hl : lv_has ls 4 [(0, .ref h0), (1, .int a)] := hl
  refine lv_aload_n hx hb dX8_pass_0 rfl (lv_at hl 0 rfl) ?_
  refine lv_iload_n hx hb dX8_pass_1 rfl (lv_at hl 1 rfl) ?_
  refine lv_iconst (v := 1) hx hb dX8_pass_2 (by decide) ?_
  refine lv_bipush (v := 30) hx hb dX8_pass_3 (by decide) ?_
  refine vp_callSi (W.runS (As := [.int a, .int 1, .int 30]) (rest := [.ref h0]) ⟨hx, hb, hml, hown, hts⟩ (c_isIn1 l dC dI s.heap.size t a 1 30 hv1 hv2) (va_cwS 3 hts (zg_S kw_1374 kw_1375 kw_70 kw_1376) rfl rfl rfl (by decide +kernel) ⟨Nat.le_of_ble_eq_true rfl, Nat.le_of_ble_eq_true rfl⟩) ⟨zA_blind, zA_pre hP hD hS hK hQ hA [] rfl rfl (by decide) [] rfl⟩ rfl rfl hl.1 rfl (lv_room (Nat.le_of_ble_eq_true rfl)) dX8_pass_5 ⟨zl_b rfl, zl_b rfl⟩) (fun r hr => ?_)
  subst hr
  refine lv_iconst (v := 1) hx hb dX8_pass_8 (by decide) ?_
  have hFc := va_free (wc := [(h0, .inr (7, [.ref ac, cu, .int 0, .int 0]))]) hD hS hA [0] rfl
  refine va_calli (va_runV (As := [.int 1, .int 1]) (rest := []) ⟨hx, hb, hml, hown, hts⟩ (c_no1 l dC dI s.heap.size t h0 (.ref ac) cu 0 0 1) (cwV 2 hts (zg_V kw_1377 kw_1379 kw_40 kw_70 kw_1380) rfl rfl rfl (by decide +kernel) ⟨Nat.le_of_ble_eq_true rfl, Nat.le_of_ble_eq_true rfl⟩) ⟨zA_blind, va_recv hK hP (ci := 7) (q0 := 0) rfl rfl, zA_pre hP hD hS hK hQ hA [0] rfl rfl (by decide) [] rfl⟩ rfl rfl hl.1 rfl (lv_room (Nat.le_of_ble_eq_true rfl)) dX8_pass_9 ⟨zl_b rfl, zl_b rfl⟩) hS (fun q _ h => hFc q h) hFc (fun r_1 u t9 H1 locs ht hvm hw hB hz1 hk1 hS => ?_)
  obtain ⟨hP1, hK1, hD1⟩ := hB
  rw [ht] at hP1
  have hK1 := va_K.moved hvm.symm hK1
  obtain ⟨hP, hD⟩ := va_join (wr := [(ac, .inr (0, [.int 0, .ref t, .int 0]))]) (w1 := [(h0, .inr (7, [.ref ac, cu, .int 0, .int 0]))]) hP hD [0] [1] rfl rfl (by decide) (by decide) hk1 hFc hP1 hD1
  have hK := (hK.sub (tys' := []) [] rfl).app hK1
  generalize H1 = H at hP hS ⊢
  have hP : va_P (dC, dI) zc [(ac, .inr (0, [.int 0, .ref t, .int 0])), (h0, .inr (7, [.ref ac, cu, .int 0, .int 0]))] H := hP
  have hD : va_D A [(ac, .inr (0, [.int 0, .ref t, .int 0])), (h0, .inr (7, [.ref ac, cu, .int 0, .int 0]))] := hD
  have hK : va_K (dC, dI) zc [] s := hK
  have hw : 0 = r_1 := hw.symm
  subst hw
  refine lv_if_ne (tgt := 40) hx hb dX8_pass_12 (by decide) (fun c_2 => absurd c_2 (by decide)) (fun c_2 => ?_)
  refine lv_aload_n hx hb dX8_pass_15 rfl (lv_at hl 0 rfl) ?_
  refine lv_aload_n hx hb dX8_pass_16 rfl (lv_at hl 0 rfl) ?_
  refine va_get (D := (dC, dI)) (ci := 7) (v := .int 0) (C := RX8) (T := TX8) (N := 4) hx hb hts iX8 hown hK hP 1 rfl rfl 2 (by decide) (hts _ kw_1354) (fun _ h9 => h9) rfl dX8_pass_17 ?_
  refine lv_iload_n hx hb dX8_pass_20 rfl (lv_at hl 1 rfl) ?_
  refine lv_iadd hx hb dX8_pass_21 ?_
  refine W.eq (g2 := F0 m 22 ls [.int a, .ref h0]) (by rw [Int32.zero_add]) ?_
  refine lv_sipush (v := 360) hx hb dX8_pass_22 (by decide) ?_
  refine lv_icmp_gt (tgt := 32) hx hb dX8_pass_25 (by decide) (fun c_3 => absurd (zi_360 hv2) (zi_nle c_3)) (fun c_3 => ?_)
  refine lv_iconst (v := 1) hx hb dX8_pass_28 (by decide) ?_
  refine lv_goto (tgt := 33) hx hb dX8_pass_29 (by decide) ?_
  refine lv_iconst (v := 2) hx hb dX8_pass_33 (by decide) ?_
  have hFc := va_free (wc := [(h0, .inr (7, [.ref ac, cu, .int 0, .int 0]))]) hD hS hA [1] rfl
  refine va_calli (va_runV (As := [.int 1, .int 2]) (rest := []) ⟨hx, hb, hml, hown, hts⟩ (c_no1 l dC dI H.size t h0 (.ref ac) cu 0 0 2) (cwV 2 hts (zg_V kw_1377 kw_1379 kw_40 kw_70 kw_1380) rfl rfl rfl (by decide +kernel) ⟨Nat.le_of_ble_eq_true rfl, Nat.le_of_ble_eq_true rfl⟩) ⟨zA_blind, va_recv hK hP (ci := 7) (q0 := 1) rfl rfl, zA_pre hP hD hS hK hQ hA [1] rfl rfl (by decide) [] rfl⟩ rfl rfl hl.1 rfl (lv_room (Nat.le_of_ble_eq_true rfl)) dX8_pass_34 ⟨zl_b rfl, zl_b rfl⟩) hS (fun q _ h => hFc q h) hFc (fun r_4 u t9 H1 locs ht hvm hw hB hz1 hk1 hS => ?_)
  obtain ⟨hP1, hK1, hD1⟩ := hB
  rw [ht] at hP1
  have hK1 := va_K.moved hvm.symm hK1
  obtain ⟨hP, hD⟩ := va_join (wr := [(ac, .inr (0, [.int 0, .ref t, .int 0]))]) (w1 := [(h0, .inr (7, [.ref ac, cu, .int 0, .int 0]))]) hP hD [1] [0] rfl rfl (by decide) (by decide) hk1 hFc hP1 hD1
  have hK := (hK.sub (tys' := []) [] rfl).app hK1
  generalize H1 = H at hP hS ⊢
  have hP : va_P (dC, dI) zc [(ac, .inr (0, [.int 0, .ref t, .int 0])), (h0, .inr (7, [.ref ac, cu, .int 0, .int 0]))] H := hP
  have hD : va_D A [(ac, .inr (0, [.int 0, .ref t, .int 0])), (h0, .inr (7, [.ref ac, cu, .int 0, .int 0]))] := hD
  have hK : va_K (dC, dI) zc [] s := hK
  have hw : 0 = r_4 := hw.symm
  subst hw
  refine lv_if_eq (tgt := 42) hx hb dX8_pass_37 (by decide) (fun c_5 => ?_) (fun c_5 => absurd c_5 (by decide))
  refine lv_iconst (v := 0) hx hb dX8_pass_42 (by decide) ?_
  refine lv_istore_n (lv' := [(2, .int 0), (0, .ref h0), (1, .int a)]) hx hb dX8_pass_43 rfl hl (by decide) rfl (fun ls hl => ?_)
  refine lv_iload_n hx hb dX8_pass_44 rfl (lv_at hl 0 rfl) ?_
  refine lv_iload_n hx hb dX8_pass_45 rfl (lv_at hl 2 rfl) ?_
  refine lv_icmp_ge (tgt := 143) hx hb dX8_pass_46 (by decide) (fun d0 => absurd d0 (zi_n0 hv1)) (fun d0 => ?_)
  refine lv_aload_n hx hb dX8_pass_49 rfl (lv_at hl 1 rfl) ?_
  refine lv_dup hx hb dX8_pass_50 rfl ?_
  refine va_get (D := (dC, dI)) (ci := 7) (v := .int 0) (C := RX8) (T := TX8) (N := 4) hx hb hts iX8 hown hK hP 1 rfl rfl 2 (by decide) (hts _ kw_1354) (fun _ h9 => h9) rfl dX8_pass_51 ?_
  refine lv_iconst (v := 1) hx hb dX8_pass_54 (by decide) ?_
  refine lv_iadd hx hb dX8_pass_55 ?_
  refine lv_topi (fun x_6 e_x_6 => ?_)
  obtain rfl : x_6 = 1 := by rw [e_x_6]; decide
  refine va_put (D := (dC, dI)) (ci := 7) (v := .int 1) (ty := .int) (C := RX8) (T := TX8) (N := 4) hx hb hts iX8 tyX8 tyX8_ok nmX8 hown hK hP hD hS 1 rfl rfl 2 (by decide) (hts _ kw_1354) (fun _ h9 => h9) rfl (by decide +kernel) rfl rfl (Nat.le_of_ble_eq_true rfl) dX8_pass_56 (fun H locs hP hD hS => ?_)
  have hP : va_P (dC, dI) zc [(ac, .inr (0, [.int 0, .ref t, .int 0])), (h0, .inr (7, [.ref ac, cu, .int 1, .int 0]))] H := hP
  have hD : va_D A [(ac, .inr (0, [.int 0, .ref t, .int 0])), (h0, .inr (7, [.ref ac, cu, .int 1, .int 0]))] := hD
  refine lv_iconst (v := 0) hx hb dX8_pass_59 (by decide) ?_
  refine lv_istore_n (lv' := [(3, .int 0), (2, .int 0), (0, .ref h0), (1, .int a)]) hx hb dX8_pass_60 rfl hl (by decide) rfl (fun ls hl => ?_)
  refine lv_aload_n hx hb dX8_pass_61 rfl (lv_at hl 2 rfl) ?_
  refine va_get (D := (dC, dI)) (ci := 7) (v := .int 1) (C := RX8) (T := TX8) (N := 4) hx hb hts iX8 hown hK hP 1 rfl rfl 2 (by decide) (hts _ kw_1354) (fun _ h9 => h9) rfl dX8_pass_62 ?_
  refine lv_bipush (v := 30) hx hb dX8_pass_65 (by decide) ?_
  refine lv_irem hx hb dX8_pass_67 (by decide) ?_
  refine lv_topi (fun x_7 e_x_7 => ?_)
  obtain rfl : x_7 = 1 := by rw [e_x_7]; decide
  refine lv_if_ne (tgt := 137) hx hb dX8_pass_68 (by decide) (fun c_8 => ?_) (fun c_8 => absurd c_8 (by decide))
  refine lv_iinc (v := 1) (lv' := [(2, .int 1), (3, .int 0), (0, .ref h0), (1, .int a)]) hx hb dX8_pass_137 hl (k := 1) rfl (by decide) (by decide) rfl (fun ls hl => ?_)
  refine lv_goto (tgt := 44) hx hb dX8_pass_140 (by decide) ?_
  refine lv_iload_n hx hb dX8_pass_44 rfl (lv_at hl 0 rfl) ?_
  refine lv_iload_n hx hb dX8_pass_45 rfl (lv_at hl 3 rfl) ?_
  refine lv_icmp_ge (tgt := 143) hx hb dX8_pass_46 (by decide) (fun d1 => ?_) (fun d1 => ?_)
  · have ea : (1 : Int32) = a := zi_pin d0 d1
    refine lv_aload_n hx hb dX8_pass_143 rfl (lv_at hl 2 rfl) ?_
    refine va_get (D := (dC, dI)) (ci := 7) (v := .int 1) (C := RX8) (T := TX8) (N := 4) hx hb hts iX8 hown hK hP 1 rfl rfl 2 (by decide) (hts _ kw_1354) (fun _ h9 => h9) rfl dX8_pass_144 ?_
    have hP9 : va_P (dC, dI) zc [(h0, .inr (7, [.ref ac, cu, .int a, .int 0]))] H := by have := hP.sub (ws' := [(h0, .inr (7, [.ref ac, cu, .int 1, .int 0]))]) [1] rfl; rwa [ea] at this
    have hD9 : va_D A [(h0, .inr (7, [.ref ac, cu, .int a, .int 0]))] := by have := hD.sub (ws' := [(h0, .inr (7, [.ref ac, cu, .int 1, .int 0]))]) [1] (by decide) rfl; rwa [ea] at this
    have hK9 := hK.sub (tys' := []) [] rfl
    exact W.iret hx hb hr (fun t ht hW => ⟨⟨_, (), rfl, ea, by rw [ht]; exact hP9, va_K.moved hW.alike hK9, hD9⟩, hS.F ht⟩) hS.2.2 dX8_pass_147
  refine lv_aload_n hx hb dX8_pass_49 rfl (lv_at hl 2 rfl) ?_
  refine lv_dup hx hb dX8_pass_50 rfl ?_
  refine va_get (D := (dC, dI)) (ci := 7) (v := .int 1) (C := RX8) (T := TX8) (N := 4) hx hb hts iX8 hown hK hP 1 rfl rfl 2 (by decide) (hts _ kw_1354) (fun _ h9 => h9) rfl dX8_pass_51 ?_
  refine lv_iconst (v := 1) hx hb dX8_pass_54 (by decide) ?_
  refine lv_iadd hx hb dX8_pass_55 ?_
  refine lv_topi (fun x_9 e_x_9 => ?_)
  obtain rfl : x_9 = 2 := by rw [e_x_9]; decide
  refine va_put (D := (dC, dI)) (ci := 7) (v := .int 2) (ty := .int) (C := RX8) (T := TX8) (N := 4) hx hb hts iX8 tyX8 tyX8_ok nmX8 hown hK hP hD hS 1 rfl rfl 2 (by decide) (hts _ kw_1354) (fun _ h9 => h9) rfl (by decide +kernel) rfl rfl (Nat.le_of_ble_eq_true rfl) dX8_pass_56 (fun H locs hP hD hS => ?_)
  have hP : va_P (dC, dI) zc [(ac, .inr (0, [.int 0, .ref t, .int 0])), (h0, .inr (7, [.ref ac, cu, .int 2, .int 0]))] H := hP
  have hD : va_D A [(ac, .inr (0, [.int 0, .ref t, .int 0])), (h0, .inr (7, [.ref ac, cu, .int 2, .int 0]))] := hD
  refine lv_iconst (v := 0) hx hb dX8_pass_59 (by decide) ?_
  refine lv_istore_n (lv' := [(3, .int 0), (2, .int 1), (0, .ref h0), (1, .int a)]) hx hb dX8_pass_60 rfl hl (by decide) rfl (fun ls hl => ?_)
  refine lv_aload_n hx hb dX8_pass_61 rfl (lv_at hl 2 rfl) ?_
  refine va_get (D := (dC, dI)) (ci := 7) (v := .int 2) (C := RX8) (T := TX8) (N := 4) hx hb hts iX8 hown hK hP 1 rfl rfl 2 (by decide) (hts _ kw_1354) (fun _ h9 => h9) rfl dX8_pass_62 ?_
  refine lv_bipush (v := 30) hx hb dX8_pass_65 (by decide) ?_
  refine lv_irem hx hb dX8_pass_67 (by decide) ?_
  refine lv_topi (fun x_10 e_x_10 => ?_)
  obtain rfl : x_10 = 2 := by rw [e_x_10]; decide
  refine lv_if_ne (tgt := 137) hx hb dX8_pass_68 (by decide) (fun c_11 => ?_) (fun c_11 => absurd c_11 (by decide))
  refine lv_iinc (v := 2) (lv' := [(2, .int 2), (3, .int 0), (0, .ref h0), (1, .int a)]) hx hb dX8_pass_137 hl (k := 1) rfl (by decide) (by decide) rfl (fun ls hl => ?_)
  refine lv_goto (tgt := 44) hx hb dX8_pass_140 (by decide) ?_
  refine lv_iload_n hx hb dX8_pass_44 rfl (lv_at hl 0 rfl) ?_
  refine lv_iload_n hx hb dX8_pass_45 rfl (lv_at hl 3 rfl) ?_
  refine lv_icmp_ge (tgt := 143) hx hb dX8_pass_46 (by decide) (fun d2 => ?_) (fun d2 => ?_)
  · have ea : (2 : Int32) = a := zi_pin d1 d2
    refine lv_aload_n hx hb dX8_pass_143 rfl (lv_at hl 2 rfl) ?_
    refine va_get (D := (dC, dI)) (ci := 7) (v := .int 2) (C := RX8) (T := TX8) (N := 4) hx hb hts iX8 hown hK hP 1 rfl rfl 2 (by decide) (hts _ kw_1354) (fun _ h9 => h9) rfl dX8_pass_144 ?_
    have hP9 : va_P (dC, dI) zc [(h0, .inr (7, [.ref ac, cu, .int a, .int 0]))] H := by have := hP.sub (ws' := [(h0, .inr (7, [.ref ac, cu, .int 2, .int 0]))]) [1] rfl; rwa [ea] at this
    have hD9 : va_D A [(h0, .inr (7, [.ref ac, cu, .int a, .int 0]))] := by have := hD.sub (ws' := [(h0, .inr (7, [.ref ac, cu, .int 2, .int 0]))]) [1] (by decide) rfl; rwa [ea] at this
    have hK9 := hK.sub (tys' := []) [] rfl
    exact W.iret hx hb hr (fun t ht hW => ⟨⟨_, (), rfl, ea, by rw [ht]; exact hP9, va_K.moved hW.alike hK9, hD9⟩, hS.F ht⟩) hS.2.2 dX8_pass_147
  refine lv_aload_n hx hb dX8_pass_49 rfl (lv_at hl 2 rfl) ?_
  refine lv_dup hx hb dX8_pass_50 rfl ?_
  refine va_get (D := (dC, dI)) (ci := 7) (v := .int 2) (C := RX8) (T := TX8) (N := 4) hx hb hts iX8 hown hK hP 1 rfl rfl 2 (by decide) (hts _ kw_1354) (fun _ h9 => h9) rfl dX8_pass_51 ?_
  refine lv_iconst (v := 1) hx hb dX8_pass_54 (by decide) ?_
  refine lv_iadd hx hb dX8_pass_55 ?_
  refine lv_topi (fun x_12 e_x_12 => ?_)
  obtain rfl : x_12 = 3 := by rw [e_x_12]; decide
  refine va_put (D := (dC, dI)) (ci := 7) (v := .int 3) (ty := .int) (C := RX8) (T := TX8) (N := 4) hx hb hts iX8 tyX8 tyX8_ok nmX8 hown hK hP hD hS 1 rfl rfl 2 (by decide) (hts _ kw_1354) (fun _ h9 => h9) rfl (by decide +kernel) rfl rfl (Nat.le_of_ble_eq_true rfl) dX8_pass_56 (fun H locs hP hD hS => ?_)
  have hP : va_P (dC, dI) zc [(ac, .inr (0, [.int 0, .ref t, .int 0])), (h0, .inr (7, [.ref ac, cu, .int 3, .int 0]))] H := hP
  have hD : va_D A [(ac, .inr (0, [.int 0, .ref t, .int 0])), (h0, .inr (7, [.ref ac, cu, .int 3, .int 0]))] := hD
  refine lv_iconst (v := 0) hx hb dX8_pass_59 (by decide) ?_
  refine lv_istore_n (lv' := [(3, .int 0), (2, .int 2), (0, .ref h0), (1, .int a)]) hx hb dX8_pass_60 rfl hl (by decide) rfl (fun ls hl => ?_)
  refine lv_aload_n hx hb dX8_pass_61 rfl (lv_at hl 2 rfl) ?_
  refine va_get (D := (dC, dI)) (ci := 7) (v := .int 3) (C := RX8) (T := TX8) (N := 4) hx hb hts iX8 hown hK hP 1 rfl rfl 2 (by decide) (hts _ kw_1354) (fun _ h9 => h9) rfl dX8_pass_62 ?_
  refine lv_bipush (v := 30) hx hb dX8_pass_65 (by decide) ?_
  refine lv_irem hx hb dX8_pass_67 (by decide) ?_
  refine lv_topi (fun x_13 e_x_13 => ?_)
  obtain rfl : x_13 = 3 := by rw [e_x_13]; decide
  refine lv_if_ne (tgt := 137) hx hb dX8_pass_68 (by decide) (fun c_14 => ?_) (fun c_14 => absurd c_14 (by decide))
  refine lv_iinc (v := 3) (lv' := [(2, .int 3), (3, .int 0), (0, .ref h0), (1, .int a)]) hx hb dX8_pass_137 hl (k := 1) rfl (by decide) (by decide) rfl (fun ls hl => ?_)
  refine lv_goto (tgt := 44) hx hb dX8_pass_140 (by decide) ?_
  refine lv_iload_n hx hb dX8_pass_44 rfl (lv_at hl 0 rfl) ?_
  refine lv_iload_n hx hb dX8_pass_45 rfl (lv_at hl 3 rfl) ?_
  refine lv_icmp_ge (tgt := 143) hx hb dX8_pass_46 (by decide) (fun d3 => ?_) (fun d3 => ?_)
  · have ea : (3 : Int32) = a := zi_pin d2 d3
    refine lv_aload_n hx hb dX8_pass_143 rfl (lv_at hl 2 rfl) ?_
    refine va_get (D := (dC, dI)) (ci := 7) (v := .int 3) (C := RX8) (T := TX8) (N := 4) hx hb hts iX8 hown hK hP 1 rfl rfl 2 (by decide) (hts _ kw_1354) (fun _ h9 => h9) rfl dX8_pass_144 ?_
    have hP9 : va_P (dC, dI) zc [(h0, .inr (7, [.ref ac, cu, .int a, .int 0]))] H := by have := hP.sub (ws' := [(h0, .inr (7, [.ref ac, cu, .int 3, .int 0]))]) [1] rfl; rwa [ea] at this
    have hD9 : va_D A [(h0, .inr (7, [.ref ac, cu, .int a, .int 0]))] := by have := hD.sub (ws' := [(h0, .inr (7, [.ref ac, cu, .int 3, .int 0]))]) [1] (by decide) rfl; rwa [ea] at this
    have hK9 := hK.sub (tys' := []) [] rfl
    exact W.iret hx hb hr (fun t ht hW => ⟨⟨_, (), rfl, ea, by rw [ht]; exact hP9, va_K.moved hW.alike hK9, hD9⟩, hS.F ht⟩) hS.2.2 dX8_pass_147
  refine lv_aload_n hx hb dX8_pass_49 rfl (lv_at hl 2 rfl) ?_
  refine lv_dup hx hb dX8_pass_50 rfl ?_
  refine va_get (D := (dC, dI)) (ci := 7) (v := .int 3) (C := RX8) (T := TX8) (N := 4) hx hb hts iX8 hown hK hP 1 rfl rfl 2 (by decide) (hts _ kw_1354) (fun _ h9 => h9) rfl dX8_pass_51 ?_
  refine lv_iconst (v := 1) hx hb dX8_pass_54 (by decide) ?_
  refine lv_iadd hx hb dX8_pass_55 ?_
  refine lv_topi (fun x_15 e_x_15 => ?_)
  obtain rfl : x_15 = 4 := by rw [e_x_15]; decide
  refine va_put (D := (dC, dI)) (ci := 7) (v := .int 4) (ty := .int) (C := RX8) (T := TX8) (N := 4) hx hb hts iX8 tyX8 tyX8_ok nmX8 hown hK hP hD hS 1 rfl rfl 2 (by decide) (hts _ kw_1354) (fun _ h9 => h9) rfl (by decide +kernel) rfl rfl (Nat.le_of_ble_eq_true rfl) dX8_pass_56 (fun H locs hP hD hS => ?_)
  have hP : va_P (dC, dI) zc [(ac, .inr (0, [.int 0, .ref t, .int 0])), (h0, .inr (7, [.ref ac, cu, .int 4, .int 0]))] H := hP
  have hD : va_D A [(ac, .inr (0, [.int 0, .ref t, .int 0])), (h0, .inr (7, [.ref ac, cu, .int 4, .int 0]))] := hD
  refine lv_iconst (v := 0) hx hb dX8_pass_59 (by decide) ?_
  refine lv_istore_n (lv' := [(3, .int 0), (2, .int 3), (0, .ref h0), (1, .int a)]) hx hb dX8_pass_60 rfl hl (by decide) rfl (fun ls hl => ?_)
  refine lv_aload_n hx hb dX8_pass_61 rfl (lv_at hl 2 rfl) ?_
  refine va_get (D := (dC, dI)) (ci := 7) (v := .int 4) (C := RX8) (T := TX8) (N := 4) hx hb hts iX8 hown hK hP 1 rfl rfl 2 (by decide) (hts _ kw_1354) (fun _ h9 => h9) rfl dX8_pass_62 ?_
  refine lv_bipush (v := 30) hx hb dX8_pass_65 (by decide) ?_
  refine lv_irem hx hb dX8_pass_67 (by decide) ?_
  refine lv_topi (fun x_16 e_x_16 => ?_)
  obtain rfl : x_16 = 4 := by rw [e_x_16]; decide
  refine lv_if_ne (tgt := 137) hx hb dX8_pass_68 (by decide) (fun c_17 => ?_) (fun c_17 => absurd c_17 (by decide))
  refine lv_iinc (v := 4) (lv' := [(2, .int 4), (3, .int 0), (0, .ref h0), (1, .int a)]) hx hb dX8_pass_137 hl (k := 1) rfl (by decide) (by decide) rfl (fun ls hl => ?_)
  refine lv_goto (tgt := 44) hx hb dX8_pass_140 (by decide) ?_
  refine lv_iload_n hx hb dX8_pass_44 rfl (lv_at hl 0 rfl) ?_
  refine lv_iload_n hx hb dX8_pass_45 rfl (lv_at hl 3 rfl) ?_
  refine lv_icmp_ge (tgt := 143) hx hb dX8_pass_46 (by decide) (fun d4 => ?_) (fun d4 => ?_)
  · have ea : (4 : Int32) = a := zi_pin d3 d4
    refine lv_aload_n hx hb dX8_pass_143 rfl (lv_at hl 2 rfl) ?_
    refine va_get (D := (dC, dI)) (ci := 7) (v := .int 4) (C := RX8) (T := TX8) (N := 4) hx hb hts iX8 hown hK hP 1 rfl rfl 2 (by decide) (hts _ kw_1354) (fun _ h9 => h9) rfl dX8_pass_144 ?_
    have hP9 : va_P (dC, dI) zc [(h0, .inr (7, [.ref ac, cu, .int a, .int 0]))] H := by have := hP.sub (ws' := [(h0, .inr (7, [.ref ac, cu, .int 4, .int 0]))]) [1] rfl; rwa [ea] at this
    have hD9 : va_D A [(h0, .inr (7, [.ref ac, cu, .int a, .int 0]))] := by have := hD.sub (ws' := [(h0, .inr (7, [.ref ac, cu, .int 4, .int 0]))]) [1] (by decide) rfl; rwa [ea] at this
    have hK9 := hK.sub (tys' := []) [] rfl
    exact W.iret hx hb hr (fun t ht hW => ⟨⟨_, (), rfl, ea, by rw [ht]; exact hP9, va_K.moved hW.alike hK9, hD9⟩, hS.F ht⟩) hS.2.2 dX8_pass_147
  refine lv_aload_n hx hb dX8_pass_49 rfl (lv_at hl 2 rfl) ?_
  refine lv_dup hx hb dX8_pass_50 rfl ?_
  refine va_get (D := (dC, dI)) (ci := 7) (v := .int 4) (C := RX8) (T := TX8) (N := 4) hx hb hts iX8 hown hK hP 1 rfl rfl 2 (by decide) (hts _ kw_1354) (fun _ h9 => h9) rfl dX8_pass_51 ?_
  refine lv_iconst (v := 1) hx hb dX8_pass_54 (by decide) ?_
  refine lv_iadd hx hb dX8_pass_55 ?_
  refine lv_topi (fun x_18 e_x_18 => ?_)
  obtain rfl : x_18 = 5 := by rw [e_x_18]; decide
  refine va_put (D := (dC, dI)) (ci := 7) (v := .int 5) (ty := .int) (C := RX8) (T := TX8) (N := 4) hx hb hts iX8 tyX8 tyX8_ok nmX8 hown hK hP hD hS 1 rfl rfl 2 (by decide) (hts _ kw_1354) (fun _ h9 => h9) rfl (by decide +kernel) rfl rfl (Nat.le_of_ble_eq_true rfl) dX8_pass_56 (fun H locs hP hD hS => ?_)
  have hP : va_P (dC, dI) zc [(ac, .inr (0, [.int 0, .ref t, .int 0])), (h0, .inr (7, [.ref ac, cu, .int 5, .int 0]))] H := hP
  have hD : va_D A [(ac, .inr (0, [.int 0, .ref t, .int 0])), (h0, .inr (7, [.ref ac, cu, .int 5, .int 0]))] := hD
  refine lv_iconst (v := 0) hx hb dX8_pass_59 (by decide) ?_
  refine lv_istore_n (lv' := [(3, .int 0), (2, .int 4), (0, .ref h0), (1, .int a)]) hx hb dX8_pass_60 rfl hl (by decide) rfl (fun ls hl => ?_)
  refine lv_aload_n hx hb dX8_pass_61 rfl (lv_at hl 2 rfl) ?_
  refine va_get (D := (dC, dI)) (ci := 7) (v := .int 5) (C := RX8) (T := TX8) (N := 4) hx hb hts iX8 hown hK hP 1 rfl rfl 2 (by decide) (hts _ kw_1354) (fun _ h9 => h9) rfl dX8_pass_62 ?_
  refine lv_bipush (v := 30) hx hb dX8_pass_65 (by decide) ?_
  refine lv_irem hx hb dX8_pass_67 (by decide) ?_
  refine lv_topi (fun x_19 e_x_19 => ?_)
  obtain rfl : x_19 = 5 := by rw [e_x_19]; decide
  refine lv_if_ne (tgt := 137) hx hb dX8_pass_68 (by decide) (fun c_20 => ?_) (fun c_20 => absurd c_20 (by decide))
  refine lv_iinc (v := 5) (lv' := [(2, .int 5), (3, .int 0), (0, .ref h0), (1, .int a)]) hx hb dX8_pass_137 hl (k := 1) rfl (by decide) (by decide) rfl (fun ls hl => ?_)
  refine lv_goto (tgt := 44) hx hb dX8_pass_140 (by decide) ?_
  refine lv_iload_n hx hb dX8_pass_44 rfl (lv_at hl 0 rfl) ?_
  refine lv_iload_n hx hb dX8_pass_45 rfl (lv_at hl 3 rfl) ?_
  refine lv_icmp_ge (tgt := 143) hx hb dX8_pass_46 (by decide) (fun d5 => ?_) (fun d5 => ?_)
  · have ea : (5 : Int32) = a := zi_pin d4 d5
    refine lv_aload_n hx hb dX8_pass_143 rfl (lv_at hl 2 rfl) ?_
    refine va_get (D := (dC, dI)) (ci := 7) (v := .int 5) (C := RX8) (T := TX8) (N := 4) hx hb hts iX8 hown hK hP 1 rfl rfl 2 (by decide) (hts _ kw_1354) (fun _ h9 => h9) rfl dX8_pass_144 ?_
    have hP9 : va_P (dC, dI) zc [(h0, .inr (7, [.ref ac, cu, .int a, .int 0]))] H := by have := hP.sub (ws' := [(h0, .inr (7, [.ref ac, cu, .int 5, .int 0]))]) [1] rfl; rwa [ea] at this
    have hD9 : va_D A [(h0, .inr (7, [.ref ac, cu, .int a, .int 0]))] := by have := hD.sub (ws' := [(h0, .inr (7, [.ref ac, cu, .int 5, .int 0]))]) [1] (by decide) rfl; rwa [ea] at this
    have hK9 := hK.sub (tys' := []) [] rfl
    exact W.iret hx hb hr (fun t ht hW => ⟨⟨_, (), rfl, ea, by rw [ht]; exact hP9, va_K.moved hW.alike hK9, hD9⟩, hS.F ht⟩) hS.2.2 dX8_pass_147
  refine lv_aload_n hx hb dX8_pass_49 rfl (lv_at hl 2 rfl) ?_
  refine lv_dup hx hb dX8_pass_50 rfl ?_
  refine va_get (D := (dC, dI)) (ci := 7) (v := .int 5) (C := RX8) (T := TX8) (N := 4) hx hb hts iX8 hown hK hP 1 rfl rfl 2 (by decide) (hts _ kw_1354) (fun _ h9 => h9) rfl dX8_pass_51 ?_
  refine lv_iconst (v := 1) hx hb dX8_pass_54 (by decide) ?_
  refine lv_iadd hx hb dX8_pass_55 ?_
  refine lv_topi (fun x_21 e_x_21 => ?_)
  obtain rfl : x_21 = 6 := by rw [e_x_21]; decide
  refine va_put (D := (dC, dI)) (ci := 7) (v := .int 6) (ty := .int) (C := RX8) (T := TX8) (N := 4) hx hb hts iX8 tyX8 tyX8_ok nmX8 hown hK hP hD hS 1 rfl rfl 2 (by decide) (hts _ kw_1354) (fun _ h9 => h9) rfl (by decide +kernel) rfl rfl (Nat.le_of_ble_eq_true rfl) dX8_pass_56 (fun H locs hP hD hS => ?_)
  have hP : va_P (dC, dI) zc [(ac, .inr (0, [.int 0, .ref t, .int 0])), (h0, .inr (7, [.ref ac, cu, .int 6, .int 0]))] H := hP
  have hD : va_D A [(ac, .inr (0, [.int 0, .ref t, .int 0])), (h0, .inr (7, [.ref ac, cu, .int 6, .int 0]))] := hD
  refine lv_iconst (v := 0) hx hb dX8_pass_59 (by decide) ?_
  refine lv_istore_n (lv' := [(3, .int 0), (2, .int 5), (0, .ref h0), (1, .int a)]) hx hb dX8_pass_60 rfl hl (by decide) rfl (fun ls hl => ?_)
  refine lv_aload_n hx hb dX8_pass_61 rfl (lv_at hl 2 rfl) ?_
  refine va_get (D := (dC, dI)) (ci := 7) (v := .int 6) (C := RX8) (T := TX8) (N := 4) hx hb hts iX8 hown hK hP 1 rfl rfl 2 (by decide) (hts _ kw_1354) (fun _ h9 => h9) rfl dX8_pass_62 ?_
  refine lv_bipush (v := 30) hx hb dX8_pass_65 (by decide) ?_
  refine lv_irem hx hb dX8_pass_67 (by decide) ?_
  refine lv_topi (fun x_22 e_x_22 => ?_)
  obtain rfl : x_22 = 6 := by rw [e_x_22]; decide
  refine lv_if_ne (tgt := 137) hx hb dX8_pass_68 (by decide) (fun c_23 => ?_) (fun c_23 => absurd c_23 (by decide))
  refine lv_iinc (v := 6) (lv' := [(2, .int 6), (3, .int 0), (0, .ref h0), (1, .int a)]) hx hb dX8_pass_137 hl (k := 1) rfl (by decide) (by decide) rfl (fun ls hl => ?_)
  refine lv_goto (tgt := 44) hx hb dX8_pass_140 (by decide) ?_
  refine lv_iload_n hx hb dX8_pass_44 rfl (lv_at hl 0 rfl) ?_
  refine lv_iload_n hx hb dX8_pass_45 rfl (lv_at hl 3 rfl) ?_
  refine lv_icmp_ge (tgt := 143) hx hb dX8_pass_46 (by decide) (fun d6 => ?_) (fun d6 => ?_)
  · have ea : (6 : Int32) = a := zi_pin d5 d6
    refine lv_aload_n hx hb dX8_pass_143 rfl (lv_at hl 2 rfl) ?_
    refine va_get (D := (dC, dI)) (ci := 7) (v := .int 6) (C := RX8) (T := TX8) (N := 4) hx hb hts iX8 hown hK hP 1 rfl rfl 2 (by decide) (hts _ kw_1354) (fun _ h9 => h9) rfl dX8_pass_144 ?_
    have hP9 : va_P (dC, dI) zc [(h0, .inr (7, [.ref ac, cu, .int a, .int 0]))] H := by have := hP.sub (ws' := [(h0, .inr (7, [.ref ac, cu, .int 6, .int 0]))]) [1] rfl; rwa [ea] at this
    have hD9 : va_D A [(h0, .inr (7, [.ref ac, cu, .int a, .int 0]))] := by have := hD.sub (ws' := [(h0, .inr (7, [.ref ac, cu, .int 6, .int 0]))]) [1] (by decide) rfl; rwa [ea] at this
    have hK9 := hK.sub (tys' := []) [] rfl
    exact W.iret hx hb hr (fun t ht hW => ⟨⟨_, (), rfl, ea, by rw [ht]; exact hP9, va_K.moved hW.alike hK9, hD9⟩, hS.F ht⟩) hS.2.2 dX8_pass_147
  refine lv_aload_n hx hb dX8_pass_49 rfl (lv_at hl 2 rfl) ?_
  refine lv_dup hx hb dX8_pass_50 rfl ?_
  refine va_get (D := (dC, dI)) (ci := 7) (v := .int 6) (C := RX8) (T := TX8) (N := 4) hx hb hts iX8 hown hK hP 1 rfl rfl 2 (by decide) (hts _ kw_1354) (fun _ h9 => h9) rfl dX8_pass_51 ?_
  refine lv_iconst (v := 1) hx hb dX8_pass_54 (by decide) ?_
  refine lv_iadd hx hb dX8_pass_55 ?_
  refine lv_topi (fun x_24 e_x_24 => ?_)
  obtain rfl : x_24 = 7 := by rw [e_x_24]; decide
  refine va_put (D := (dC, dI)) (ci := 7) (v := .int 7) (ty := .int) (C := RX8) (T := TX8) (N := 4) hx hb hts iX8 tyX8 tyX8_ok nmX8 hown hK hP hD hS 1 rfl rfl 2 (by decide) (hts _ kw_1354) (fun _ h9 => h9) rfl (by decide +kernel) rfl rfl (Nat.le_of_ble_eq_true rfl) dX8_pass_56 (fun H locs hP hD hS => ?_)
  have hP : va_P (dC, dI) zc [(ac, .inr (0, [.int 0, .ref t, .int 0])), (h0, .inr (7, [.ref ac, cu, .int 7, .int 0]))] H := hP
  have hD : va_D A [(ac, .inr (0, [.int 0, .ref t, .int 0])), (h0, .inr (7, [.ref ac, cu, .int 7, .int 0]))] := hD
  refine lv_iconst (v := 0) hx hb dX8_pass_59 (by decide) ?_
  refine lv_istore_n (lv' := [(3, .int 0), (2, .int 6), (0, .ref h0), (1, .int a)]) hx hb dX8_pass_60 rfl hl (by decide) rfl (fun ls hl => ?_)
  refine lv_aload_n hx hb dX8_pass_61 rfl (lv_at hl 2 rfl) ?_
  refine va_get (D := (dC, dI)) (ci := 7) (v := .int 7) (C := RX8) (T := TX8) (N := 4) hx hb hts iX8 hown hK hP 1 rfl rfl 2 (by decide) (hts _ kw_1354) (fun _ h9 => h9) rfl dX8_pass_62 ?_
  refine lv_bipush (v := 30) hx hb dX8_pass_65 (by decide) ?_
  refine lv_irem hx hb dX8_pass_67 (by decide) ?_
  refine lv_topi (fun x_25 e_x_25 => ?_)
  obtain rfl : x_25 = 7 := by rw [e_x_25]; decide
  refine lv_if_ne (tgt := 137) hx hb dX8_pass_68 (by decide) (fun c_26 => ?_) (fun c_26 => absurd c_26 (by decide))
  refine lv_iinc (v := 7) (lv' := [(2, .int 7), (3, .int 0), (0, .ref h0), (1, .int a)]) hx hb dX8_pass_137 hl (k := 1) rfl (by decide) (by decide) rfl (fun ls hl => ?_)
  refine lv_goto (tgt := 44) hx hb dX8_pass_140 (by decide) ?_
  refine lv_iload_n hx hb dX8_pass_44 rfl (lv_at hl 0 rfl) ?_
  refine lv_iload_n hx hb dX8_pass_45 rfl (lv_at hl 3 rfl) ?_
  refine lv_icmp_ge (tgt := 143) hx hb dX8_pass_46 (by decide) (fun d7 => ?_) (fun d7 => ?_)
  · have ea : (7 : Int32) = a := zi_pin d6 d7
    refine lv_aload_n hx hb dX8_pass_143 rfl (lv_at hl 2 rfl) ?_
    refine va_get (D := (dC, dI)) (ci := 7) (v := .int 7) (C := RX8) (T := TX8) (N := 4) hx hb hts iX8 hown hK hP 1 rfl rfl 2 (by decide) (hts _ kw_1354) (fun _ h9 => h9) rfl dX8_pass_144 ?_
    have hP9 : va_P (dC, dI) zc [(h0, .inr (7, [.ref ac, cu, .int a, .int 0]))] H := by have := hP.sub (ws' := [(h0, .inr (7, [.ref ac, cu, .int 7, .int 0]))]) [1] rfl; rwa [ea] at this
    have hD9 : va_D A [(h0, .inr (7, [.ref ac, cu, .int a, .int 0]))] := by have := hD.sub (ws' := [(h0, .inr (7, [.ref ac, cu, .int 7, .int 0]))]) [1] (by decide) rfl; rwa [ea] at this
    have hK9 := hK.sub (tys' := []) [] rfl
    exact W.iret hx hb hr (fun t ht hW => ⟨⟨_, (), rfl, ea, by rw [ht]; exact hP9, va_K.moved hW.alike hK9, hD9⟩, hS.F ht⟩) hS.2.2 dX8_pass_147
  refine lv_aload_n hx hb dX8_pass_49 rfl (lv_at hl 2 rfl) ?_
  refine lv_dup hx hb dX8_pass_50 rfl ?_
  refine va_get (D := (dC, dI)) (ci := 7) (v := .int 7) (C := RX8) (T := TX8) (N := 4) hx hb hts iX8 hown hK hP 1 rfl rfl 2 (by decide) (hts _ kw_1354) (fun _ h9 => h9) rfl dX8_pass_51 ?_
  refine lv_iconst (v := 1) hx hb dX8_pass_54 (by decide) ?_
  refine lv_iadd hx hb dX8_pass_55 ?_
  refine lv_topi (fun x_27 e_x_27 => ?_)
  obtain rfl : x_27 = 8 := by rw [e_x_27]; decide
  refine va_put (D := (dC, dI)) (ci := 7) (v := .int 8) (ty := .int) (C := RX8) (T := TX8) (N := 4) hx hb hts iX8 tyX8 tyX8_ok nmX8 hown hK hP hD hS 1 rfl rfl 2 (by decide) (hts _ kw_1354) (fun _ h9 => h9) rfl (by decide +kernel) rfl rfl (Nat.le_of_ble_eq_true rfl) dX8_pass_56 (fun H locs hP hD hS => ?_)
  have hP : va_P (dC, dI) zc [(ac, .inr (0, [.int 0, .ref t, .int 0])), (h0, .inr (7, [.ref ac, cu, .int 8, .int 0]))] H := hP
  have hD : va_D A [(ac, .inr (0, [.int 0, .ref t, .int 0])), (h0, .inr (7, [.ref ac, cu, .int 8, .int 0]))] := hD
  refine lv_iconst (v := 0) hx hb dX8_pass_59 (by decide) ?_
  refine lv_istore_n (lv' := [(3, .int 0), (2, .int 7), (0, .ref h0), (1, .int a)]) hx hb dX8_pass_60 rfl hl (by decide) rfl (fun ls hl => ?_)
  refine lv_aload_n hx hb dX8_pass_61 rfl (lv_at hl 2 rfl) ?_
  refine va_get (D := (dC, dI)) (ci := 7) (v := .int 8) (C := RX8) (T := TX8) (N := 4) hx hb hts iX8 hown hK hP 1 rfl rfl 2 (by decide) (hts _ kw_1354) (fun _ h9 => h9) rfl dX8_pass_62 ?_
  refine lv_bipush (v := 30) hx hb dX8_pass_65 (by decide) ?_
  refine lv_irem hx hb dX8_pass_67 (by decide) ?_
  refine lv_topi (fun x_28 e_x_28 => ?_)
  obtain rfl : x_28 = 8 := by rw [e_x_28]; decide
  refine lv_if_ne (tgt := 137) hx hb dX8_pass_68 (by decide) (fun c_29 => ?_) (fun c_29 => absurd c_29 (by decide))
  refine lv_iinc (v := 8) (lv' := [(2, .int 8), (3, .int 0), (0, .ref h0), (1, .int a)]) hx hb dX8_pass_137 hl (k := 1) rfl (by decide) (by decide) rfl (fun ls hl => ?_)
  refine lv_goto (tgt := 44) hx hb dX8_pass_140 (by decide) ?_
  refine lv_iload_n hx hb dX8_pass_44 rfl (lv_at hl 0 rfl) ?_
  refine lv_iload_n hx hb dX8_pass_45 rfl (lv_at hl 3 rfl) ?_
  refine lv_icmp_ge (tgt := 143) hx hb dX8_pass_46 (by decide) (fun d8 => ?_) (fun d8 => ?_)
  · have ea : (8 : Int32) = a := zi_pin d7 d8
    refine lv_aload_n hx hb dX8_pass_143 rfl (lv_at hl 2 rfl) ?_
    refine va_get (D := (dC, dI)) (ci := 7) (v := .int 8) (C := RX8) (T := TX8) (N := 4) hx hb hts iX8 hown hK hP 1 rfl rfl 2 (by decide) (hts _ kw_1354) (fun _ h9 => h9) rfl dX8_pass_144 ?_
    have hP9 : va_P (dC, dI) zc [(h0, .inr (7, [.ref ac, cu, .int a, .int 0]))] H := by have := hP.sub (ws' := [(h0, .inr (7, [.ref ac, cu, .int 8, .int 0]))]) [1] rfl; rwa [ea] at this
    have hD9 : va_D A [(h0, .inr (7, [.ref ac, cu, .int a, .int 0]))] := by have := hD.sub (ws' := [(h0, .inr (7, [.ref ac, cu, .int 8, .int 0]))]) [1] (by decide) rfl; rwa [ea] at this
    have hK9 := hK.sub (tys' := []) [] rfl
    exact W.iret hx hb hr (fun t ht hW => ⟨⟨_, (), rfl, ea, by rw [ht]; exact hP9, va_K.moved hW.alike hK9, hD9⟩, hS.F ht⟩) hS.2.2 dX8_pass_147
  refine lv_aload_n hx hb dX8_pass_49 rfl (lv_at hl 2 rfl) ?_
  refine lv_dup hx hb dX8_pass_50 rfl ?_
  refine va_get (D := (dC, dI)) (ci := 7) (v := .int 8) (C := RX8) (T := TX8) (N := 4) hx hb hts iX8 hown hK hP 1 rfl rfl 2 (by decide) (hts _ kw_1354) (fun _ h9 => h9) rfl dX8_pass_51 ?_
  refine lv_iconst (v := 1) hx hb dX8_pass_54 (by decide) ?_
  refine lv_iadd hx hb dX8_pass_55 ?_
  refine lv_topi (fun x_30 e_x_30 => ?_)
  obtain rfl : x_30 = 9 := by rw [e_x_30]; decide
  refine va_put (D := (dC, dI)) (ci := 7) (v := .int 9) (ty := .int) (C := RX8) (T := TX8) (N := 4) hx hb hts iX8 tyX8 tyX8_ok nmX8 hown hK hP hD hS 1 rfl rfl 2 (by decide) (hts _ kw_1354) (fun _ h9 => h9) rfl (by decide +kernel) rfl rfl (Nat.le_of_ble_eq_true rfl) dX8_pass_56 (fun H locs hP hD hS => ?_)
  have hP : va_P (dC, dI) zc [(ac, .inr (0, [.int 0, .ref t, .int 0])), (h0, .inr (7, [.ref ac, cu, .int 9, .int 0]))] H := hP
  have hD : va_D A [(ac, .inr (0, [.int 0, .ref t, .int 0])), (h0, .inr (7, [.ref ac, cu, .int 9, .int 0]))] := hD
  refine lv_iconst (v := 0) hx hb dX8_pass_59 (by decide) ?_
  refine lv_istore_n (lv' := [(3, .int 0), (2, .int 8), (0, .ref h0), (1, .int a)]) hx hb dX8_pass_60 rfl hl (by decide) rfl (fun ls hl => ?_)
  refine lv_aload_n hx hb dX8_pass_61 rfl (lv_at hl 2 rfl) ?_
  refine va_get (D := (dC, dI)) (ci := 7) (v := .int 9) (C := RX8) (T := TX8) (N := 4) hx hb hts iX8 hown hK hP 1 rfl rfl 2 (by decide) (hts _ kw_1354) (fun _ h9 => h9) rfl dX8_pass_62 ?_
  refine lv_bipush (v := 30) hx hb dX8_pass_65 (by decide) ?_
  refine lv_irem hx hb dX8_pass_67 (by decide) ?_
  refine lv_topi (fun x_31 e_x_31 => ?_)
  obtain rfl : x_31 = 9 := by rw [e_x_31]; decide
  refine lv_if_ne (tgt := 137) hx hb dX8_pass_68 (by decide) (fun c_32 => ?_) (fun c_32 => absurd c_32 (by decide))
  refine lv_iinc (v := 9) (lv' := [(2, .int 9), (3, .int 0), (0, .ref h0), (1, .int a)]) hx hb dX8_pass_137 hl (k := 1) rfl (by decide) (by decide) rfl (fun ls hl => ?_)
  refine lv_goto (tgt := 44) hx hb dX8_pass_140 (by decide) ?_
  refine lv_iload_n hx hb dX8_pass_44 rfl (lv_at hl 0 rfl) ?_
  refine lv_iload_n hx hb dX8_pass_45 rfl (lv_at hl 3 rfl) ?_
  refine lv_icmp_ge (tgt := 143) hx hb dX8_pass_46 (by decide) (fun d9 => ?_) (fun d9 => ?_)
  · have ea : (9 : Int32) = a := zi_pin d8 d9
    refine lv_aload_n hx hb dX8_pass_143 rfl (lv_at hl 2 rfl) ?_
    refine va_get (D := (dC, dI)) (ci := 7) (v := .int 9) (C := RX8) (T := TX8) (N := 4) hx hb hts iX8 hown hK hP 1 rfl rfl 2 (by decide) (hts _ kw_1354) (fun _ h9 => h9) rfl dX8_pass_144 ?_
    have hP9 : va_P (dC, dI) zc [(h0, .inr (7, [.ref ac, cu, .int a, .int 0]))] H := by have := hP.sub (ws' := [(h0, .inr (7, [.ref ac, cu, .int 9, .int 0]))]) [1] rfl; rwa [ea] at this
    have hD9 : va_D A [(h0, .inr (7, [.ref ac, cu, .int a, .int 0]))] := by have := hD.sub (ws' := [(h0, .inr (7, [.ref ac, cu, .int 9, .int 0]))]) [1] (by decide) rfl; rwa [ea] at this
    have hK9 := hK.sub (tys' := []) [] rfl
    exact W.iret hx hb hr (fun t ht hW => ⟨⟨_, (), rfl, ea, by rw [ht]; exact hP9, va_K.moved hW.alike hK9, hD9⟩, hS.F ht⟩) hS.2.2 dX8_pass_147
  refine lv_aload_n hx hb dX8_pass_49 rfl (lv_at hl 2 rfl) ?_
  refine lv_dup hx hb dX8_pass_50 rfl ?_
  refine va_get (D := (dC, dI)) (ci := 7) (v := .int 9) (C := RX8) (T := TX8) (N := 4) hx hb hts iX8 hown hK hP 1 rfl rfl 2 (by decide) (hts _ kw_1354) (fun _ h9 => h9) rfl dX8_pass_51 ?_
  refine lv_iconst (v := 1) hx hb dX8_pass_54 (by decide) ?_
  refine lv_iadd hx hb dX8_pass_55 ?_
  refine lv_topi (fun x_33 e_x_33 => ?_)
  obtain rfl : x_33 = 10 := by rw [e_x_33]; decide
  refine va_put (D := (dC, dI)) (ci := 7) (v := .int 10) (ty := .int) (C := RX8) (T := TX8) (N := 4) hx hb hts iX8 tyX8 tyX8_ok nmX8 hown hK hP hD hS 1 rfl rfl 2 (by decide) (hts _ kw_1354) (fun _ h9 => h9) rfl (by decide +kernel) rfl rfl (Nat.le_of_ble_eq_true rfl) dX8_pass_56 (fun H locs hP hD hS => ?_)
  have hP : va_P (dC, dI) zc [(ac, .inr (0, [.int 0, .ref t, .int 0])), (h0, .inr (7, [.ref ac, cu, .int 10, .int 0]))] H := hP
  have hD : va_D A [(ac, .inr (0, [.int 0, .ref t, .int 0])), (h0, .inr (7, [.ref ac, cu, .int 10, .int 0]))] := hD
  refine lv_iconst (v := 0) hx hb dX8_pass_59 (by decide) ?_
  refine lv_istore_n (lv' := [(3, .int 0), (2, .int 9), (0, .ref h0), (1, .int a)]) hx hb dX8_pass_60 rfl hl (by decide) rfl (fun ls hl => ?_)
  refine lv_aload_n hx hb dX8_pass_61 rfl (lv_at hl 2 rfl) ?_
  refine va_get (D := (dC, dI)) (ci := 7) (v := .int 10) (C := RX8) (T := TX8) (N := 4) hx hb hts iX8 hown hK hP 1 rfl rfl 2 (by decide) (hts _ kw_1354) (fun _ h9 => h9) rfl dX8_pass_62 ?_
  refine lv_bipush (v := 30) hx hb dX8_pass_65 (by decide) ?_
  refine lv_irem hx hb dX8_pass_67 (by decide) ?_
  refine lv_topi (fun x_34 e_x_34 => ?_)
  obtain rfl : x_34 = 10 := by rw [e_x_34]; decide
  refine lv_if_ne (tgt := 137) hx hb dX8_pass_68 (by decide) (fun c_35 => ?_) (fun c_35 => absurd c_35 (by decide))
  refine lv_iinc (v := 10) (lv' := [(2, .int 10), (3, .int 0), (0, .ref h0), (1, .int a)]) hx hb dX8_pass_137 hl (k := 1) rfl (by decide) (by decide) rfl (fun ls hl => ?_)
  refine lv_goto (tgt := 44) hx hb dX8_pass_140 (by decide) ?_
  refine lv_iload_n hx hb dX8_pass_44 rfl (lv_at hl 0 rfl) ?_
  refine lv_iload_n hx hb dX8_pass_45 rfl (lv_at hl 3 rfl) ?_
  refine lv_icmp_ge (tgt := 143) hx hb dX8_pass_46 (by decide) (fun d10 => ?_) (fun d10 => ?_)
  · have ea : (10 : Int32) = a := zi_pin d9 d10
    refine lv_aload_n hx hb dX8_pass_143 rfl (lv_at hl 2 rfl) ?_
    refine va_get (D := (dC, dI)) (ci := 7) (v := .int 10) (C := RX8) (T := TX8) (N := 4) hx hb hts iX8 hown hK hP 1 rfl rfl 2 (by decide) (hts _ kw_1354) (fun _ h9 => h9) rfl dX8_pass_144 ?_
    have hP9 : va_P (dC, dI) zc [(h0, .inr (7, [.ref ac, cu, .int a, .int 0]))] H := by have := hP.sub (ws' := [(h0, .inr (7, [.ref ac, cu, .int 10, .int 0]))]) [1] rfl; rwa [ea] at this
    have hD9 : va_D A [(h0, .inr (7, [.ref ac, cu, .int a, .int 0]))] := by have := hD.sub (ws' := [(h0, .inr (7, [.ref ac, cu, .int 10, .int 0]))]) [1] (by decide) rfl; rwa [ea] at this
    have hK9 := hK.sub (tys' := []) [] rfl
    exact W.iret hx hb hr (fun t ht hW => ⟨⟨_, (), rfl, ea, by rw [ht]; exact hP9, va_K.moved hW.alike hK9, hD9⟩, hS.F ht⟩) hS.2.2 dX8_pass_147
  refine lv_aload_n hx hb dX8_pass_49 rfl (lv_at hl 2 rfl) ?_
  refine lv_dup hx hb dX8_pass_50 rfl ?_
  refine va_get (D := (dC, dI)) (ci := 7) (v := .int 10) (C := RX8) (T := TX8) (N := 4) hx hb hts iX8 hown hK hP 1 rfl rfl 2 (by decide) (hts _ kw_1354) (fun _ h9 => h9) rfl dX8_pass_51 ?_
  refine lv_iconst (v := 1) hx hb dX8_pass_54 (by decide) ?_
  refine lv_iadd hx hb dX8_pass_55 ?_
  refine lv_topi (fun x_36 e_x_36 => ?_)
  obtain rfl : x_36 = 11 := by rw [e_x_36]; decide
  refine va_put (D := (dC, dI)) (ci := 7) (v := .int 11) (ty := .int) (C := RX8) (T := TX8) (N := 4) hx hb hts iX8 tyX8 tyX8_ok nmX8 hown hK hP hD hS 1 rfl rfl 2 (by decide) (hts _ kw_1354) (fun _ h9 => h9) rfl (by decide +kernel) rfl rfl (Nat.le_of_ble_eq_true rfl) dX8_pass_56 (fun H locs hP hD hS => ?_)
  have hP : va_P (dC, dI) zc [(ac, .inr (0, [.int 0, .ref t, .int 0])), (h0, .inr (7, [.ref ac, cu, .int 11, .int 0]))] H := hP
  have hD : va_D A [(ac, .inr (0, [.int 0, .ref t, .int 0])), (h0, .inr (7, [.ref ac, cu, .int 11, .int 0]))] := hD
  refine lv_iconst (v := 0) hx hb dX8_pass_59 (by decide) ?_
  refine lv_istore_n (lv' := [(3, .int 0), (2, .int 10), (0, .ref h0), (1, .int a)]) hx hb dX8_pass_60 rfl hl (by decide) rfl (fun ls hl => ?_)
  refine lv_aload_n hx hb dX8_pass_61 rfl (lv_at hl 2 rfl) ?_
  refine va_get (D := (dC, dI)) (ci := 7) (v := .int 11) (C := RX8) (T := TX8) (N := 4) hx hb hts iX8 hown hK hP 1 rfl rfl 2 (by decide) (hts _ kw_1354) (fun _ h9 => h9) rfl dX8_pass_62 ?_
  refine lv_bipush (v := 30) hx hb dX8_pass_65 (by decide) ?_
  refine lv_irem hx hb dX8_pass_67 (by decide) ?_
  refine lv_topi (fun x_37 e_x_37 => ?_)
  obtain rfl : x_37 = 11 := by rw [e_x_37]; decide
  refine lv_if_ne (tgt := 137) hx hb dX8_pass_68 (by decide) (fun c_38 => ?_) (fun c_38 => absurd c_38 (by decide))
  refine lv_iinc (v := 11) (lv' := [(2, .int 11), (3, .int 0), (0, .ref h0), (1, .int a)]) hx hb dX8_pass_137 hl (k := 1) rfl (by decide) (by decide) rfl (fun ls hl => ?_)
  refine lv_goto (tgt := 44) hx hb dX8_pass_140 (by decide) ?_
  refine lv_iload_n hx hb dX8_pass_44 rfl (lv_at hl 0 rfl) ?_
  refine lv_iload_n hx hb dX8_pass_45 rfl (lv_at hl 3 rfl) ?_
  refine lv_icmp_ge (tgt := 143) hx hb dX8_pass_46 (by decide) (fun d11 => ?_) (fun d11 => ?_)
  · have ea : (11 : Int32) = a := zi_pin d10 d11
    refine lv_aload_n hx hb dX8_pass_143 rfl (lv_at hl 2 rfl) ?_
    refine va_get (D := (dC, dI)) (ci := 7) (v := .int 11) (C := RX8) (T := TX8) (N := 4) hx hb hts iX8 hown hK hP 1 rfl rfl 2 (by decide) (hts _ kw_1354) (fun _ h9 => h9) rfl dX8_pass_144 ?_
    have hP9 : va_P (dC, dI) zc [(h0, .inr (7, [.ref ac, cu, .int a, .int 0]))] H := by have := hP.sub (ws' := [(h0, .inr (7, [.ref ac, cu, .int 11, .int 0]))]) [1] rfl; rwa [ea] at this
    have hD9 : va_D A [(h0, .inr (7, [.ref ac, cu, .int a, .int 0]))] := by have := hD.sub (ws' := [(h0, .inr (7, [.ref ac, cu, .int 11, .int 0]))]) [1] (by decide) rfl; rwa [ea] at this
    have hK9 := hK.sub (tys' := []) [] rfl
    exact W.iret hx hb hr (fun t ht hW => ⟨⟨_, (), rfl, ea, by rw [ht]; exact hP9, va_K.moved hW.alike hK9, hD9⟩, hS.F ht⟩) hS.2.2 dX8_pass_147
  refine lv_aload_n hx hb dX8_pass_49 rfl (lv_at hl 2 rfl) ?_
  refine lv_dup hx hb dX8_pass_50 rfl ?_
  refine va_get (D := (dC, dI)) (ci := 7) (v := .int 11) (C := RX8) (T := TX8) (N := 4) hx hb hts iX8 hown hK hP 1 rfl rfl 2 (by decide) (hts _ kw_1354) (fun _ h9 => h9) rfl dX8_pass_51 ?_
  refine lv_iconst (v := 1) hx hb dX8_pass_54 (by decide) ?_
  refine lv_iadd hx hb dX8_pass_55 ?_
  refine lv_topi (fun x_39 e_x_39 => ?_)
  obtain rfl : x_39 = 12 := by rw [e_x_39]; decide
  refine va_put (D := (dC, dI)) (ci := 7) (v := .int 12) (ty := .int) (C := RX8) (T := TX8) (N := 4) hx hb hts iX8 tyX8 tyX8_ok nmX8 hown hK hP hD hS 1 rfl rfl 2 (by decide) (hts _ kw_1354) (fun _ h9 => h9) rfl (by decide +kernel) rfl rfl (Nat.le_of_ble_eq_true rfl) dX8_pass_56 (fun H locs hP hD hS => ?_)
  have hP : va_P (dC, dI) zc [(ac, .inr (0, [.int 0, .ref t, .int 0])), (h0, .inr (7, [.ref ac, cu, .int 12, .int 0]))] H := hP
  have hD : va_D A [(ac, .inr (0, [.int 0, .ref t, .int 0])), (h0, .inr (7, [.ref ac, cu, .int 12, .int 0]))] := hD
  refine lv_iconst (v := 0) hx hb dX8_pass_59 (by decide) ?_
  refine lv_istore_n (lv' := [(3, .int 0), (2, .int 11), (0, .ref h0), (1, .int a)]) hx hb dX8_pass_60 rfl hl (by decide) rfl (fun ls hl => ?_)
  refine lv_aload_n hx hb dX8_pass_61 rfl (lv_at hl 2 rfl) ?_
  refine va_get (D := (dC, dI)) (ci := 7) (v := .int 12) (C := RX8) (T := TX8) (N := 4) hx hb hts iX8 hown hK hP 1 rfl rfl 2 (by decide) (hts _ kw_1354) (fun _ h9 => h9) rfl dX8_pass_62 ?_
  refine lv_bipush (v := 30) hx hb dX8_pass_65 (by decide) ?_
  refine lv_irem hx hb dX8_pass_67 (by decide) ?_
  refine lv_topi (fun x_40 e_x_40 => ?_)
  obtain rfl : x_40 = 12 := by rw [e_x_40]; decide
  refine lv_if_ne (tgt := 137) hx hb dX8_pass_68 (by decide) (fun c_41 => ?_) (fun c_41 => absurd c_41 (by decide))
  refine lv_iinc (v := 12) (lv' := [(2, .int 12), (3, .int 0), (0, .ref h0), (1, .int a)]) hx hb dX8_pass_137 hl (k := 1) rfl (by decide) (by decide) rfl (fun ls hl => ?_)
  refine lv_goto (tgt := 44) hx hb dX8_pass_140 (by decide) ?_
  refine lv_iload_n hx hb dX8_pass_44 rfl (lv_at hl 0 rfl) ?_
  refine lv_iload_n hx hb dX8_pass_45 rfl (lv_at hl 3 rfl) ?_
  refine lv_icmp_ge (tgt := 143) hx hb dX8_pass_46 (by decide) (fun d12 => ?_) (fun d12 => ?_)
  · have ea : (12 : Int32) = a := zi_pin d11 d12
    refine lv_aload_n hx hb dX8_pass_143 rfl (lv_at hl 2 rfl) ?_
    refine va_get (D := (dC, dI)) (ci := 7) (v := .int 12) (C := RX8) (T := TX8) (N := 4) hx hb hts iX8 hown hK hP 1 rfl rfl 2 (by decide) (hts _ kw_1354) (fun _ h9 => h9) rfl dX8_pass_144 ?_
    have hP9 : va_P (dC, dI) zc [(h0, .inr (7, [.ref ac, cu, .int a, .int 0]))] H := by have := hP.sub (ws' := [(h0, .inr (7, [.ref ac, cu, .int 12, .int 0]))]) [1] rfl; rwa [ea] at this
    have hD9 : va_D A [(h0, .inr (7, [.ref ac, cu, .int a, .int 0]))] := by have := hD.sub (ws' := [(h0, .inr (7, [.ref ac, cu, .int 12, .int 0]))]) [1] (by decide) rfl; rwa [ea] at this
    have hK9 := hK.sub (tys' := []) [] rfl
    exact W.iret hx hb hr (fun t ht hW => ⟨⟨_, (), rfl, ea, by rw [ht]; exact hP9, va_K.moved hW.alike hK9, hD9⟩, hS.F ht⟩) hS.2.2 dX8_pass_147
  refine lv_aload_n hx hb dX8_pass_49 rfl (lv_at hl 2 rfl) ?_
  refine lv_dup hx hb dX8_pass_50 rfl ?_
  refine va_get (D := (dC, dI)) (ci := 7) (v := .int 12) (C := RX8) (T := TX8) (N := 4) hx hb hts iX8 hown hK hP 1 rfl rfl 2 (by decide) (hts _ kw_1354) (fun _ h9 => h9) rfl dX8_pass_51 ?_
  refine lv_iconst (v := 1) hx hb dX8_pass_54 (by decide) ?_
  refine lv_iadd hx hb dX8_pass_55 ?_
  refine lv_topi (fun x_42 e_x_42 => ?_)
  obtain rfl : x_42 = 13 := by rw [e_x_42]; decide
  refine va_put (D := (dC, dI)) (ci := 7) (v := .int 13) (ty := .int) (C := RX8) (T := TX8) (N := 4) hx hb hts iX8 tyX8 tyX8_ok nmX8 hown hK hP hD hS 1 rfl rfl 2 (by decide) (hts _ kw_1354) (fun _ h9 => h9) rfl (by decide +kernel) rfl rfl (Nat.le_of_ble_eq_true rfl) dX8_pass_56 (fun H locs hP hD hS => ?_)
  have hP : va_P (dC, dI) zc [(ac, .inr (0, [.int 0, .ref t, .int 0])), (h0, .inr (7, [.ref ac, cu, .int 13, .int 0]))] H := hP
  have hD : va_D A [(ac, .inr (0, [.int 0, .ref t, .int 0])), (h0, .inr (7, [.ref ac, cu, .int 13, .int 0]))] := hD
  refine lv_iconst (v := 0) hx hb dX8_pass_59 (by decide) ?_
  refine lv_istore_n (lv' := [(3, .int 0), (2, .int 12), (0, .ref h0), (1, .int a)]) hx hb dX8_pass_60 rfl hl (by decide) rfl (fun ls hl => ?_)
  refine lv_aload_n hx hb dX8_pass_61 rfl (lv_at hl 2 rfl) ?_
  refine va_get (D := (dC, dI)) (ci := 7) (v := .int 13) (C := RX8) (T := TX8) (N := 4) hx hb hts iX8 hown hK hP 1 rfl rfl 2 (by decide) (hts _ kw_1354) (fun _ h9 => h9) rfl dX8_pass_62 ?_
  refine lv_bipush (v := 30) hx hb dX8_pass_65 (by decide) ?_
  refine lv_irem hx hb dX8_pass_67 (by decide) ?_
  refine lv_topi (fun x_43 e_x_43 => ?_)
  obtain rfl : x_43 = 13 := by rw [e_x_43]; decide
  refine lv_if_ne (tgt := 137) hx hb dX8_pass_68 (by decide) (fun c_44 => ?_) (fun c_44 => absurd c_44 (by decide))
  refine lv_iinc (v := 13) (lv' := [(2, .int 13), (3, .int 0), (0, .ref h0), (1, .int a)]) hx hb dX8_pass_137 hl (k := 1) rfl (by decide) (by decide) rfl (fun ls hl => ?_)
  refine lv_goto (tgt := 44) hx hb dX8_pass_140 (by decide) ?_
  refine lv_iload_n hx hb dX8_pass_44 rfl (lv_at hl 0 rfl) ?_
  refine lv_iload_n hx hb dX8_pass_45 rfl (lv_at hl 3 rfl) ?_
  refine lv_icmp_ge (tgt := 143) hx hb dX8_pass_46 (by decide) (fun d13 => ?_) (fun d13 => ?_)
  · have ea : (13 : Int32) = a := zi_pin d12 d13
    refine lv_aload_n hx hb dX8_pass_143 rfl (lv_at hl 2 rfl) ?_
    refine va_get (D := (dC, dI)) (ci := 7) (v := .int 13) (C := RX8) (T := TX8) (N := 4) hx hb hts iX8 hown hK hP 1 rfl rfl 2 (by decide) (hts _ kw_1354) (fun _ h9 => h9) rfl dX8_pass_144 ?_
    have hP9 : va_P (dC, dI) zc [(h0, .inr (7, [.ref ac, cu, .int a, .int 0]))] H := by have := hP.sub (ws' := [(h0, .inr (7, [.ref ac, cu, .int 13, .int 0]))]) [1] rfl; rwa [ea] at this
    have hD9 : va_D A [(h0, .inr (7, [.ref ac, cu, .int a, .int 0]))] := by have := hD.sub (ws' := [(h0, .inr (7, [.ref ac, cu, .int 13, .int 0]))]) [1] (by decide) rfl; rwa [ea] at this
    have hK9 := hK.sub (tys' := []) [] rfl
    exact W.iret hx hb hr (fun t ht hW => ⟨⟨_, (), rfl, ea, by rw [ht]; exact hP9, va_K.moved hW.alike hK9, hD9⟩, hS.F ht⟩) hS.2.2 dX8_pass_147
  refine lv_aload_n hx hb dX8_pass_49 rfl (lv_at hl 2 rfl) ?_
  refine lv_dup hx hb dX8_pass_50 rfl ?_
  refine va_get (D := (dC, dI)) (ci := 7) (v := .int 13) (C := RX8) (T := TX8) (N := 4) hx hb hts iX8 hown hK hP 1 rfl rfl 2 (by decide) (hts _ kw_1354) (fun _ h9 => h9) rfl dX8_pass_51 ?_
  refine lv_iconst (v := 1) hx hb dX8_pass_54 (by decide) ?_
  refine lv_iadd hx hb dX8_pass_55 ?_
  refine lv_topi (fun x_45 e_x_45 => ?_)
  obtain rfl : x_45 = 14 := by rw [e_x_45]; decide
  refine va_put (D := (dC, dI)) (ci := 7) (v := .int 14) (ty := .int) (C := RX8) (T := TX8) (N := 4) hx hb hts iX8 tyX8 tyX8_ok nmX8 hown hK hP hD hS 1 rfl rfl 2 (by decide) (hts _ kw_1354) (fun _ h9 => h9) rfl (by decide +kernel) rfl rfl (Nat.le_of_ble_eq_true rfl) dX8_pass_56 (fun H locs hP hD hS => ?_)
  have hP : va_P (dC, dI) zc [(ac, .inr (0, [.int 0, .ref t, .int 0])), (h0, .inr (7, [.ref ac, cu, .int 14, .int 0]))] H := hP
  have hD : va_D A [(ac, .inr (0, [.int 0, .ref t, .int 0])), (h0, .inr (7, [.ref ac, cu, .int 14, .int 0]))] := hD
  refine lv_iconst (v := 0) hx hb dX8_pass_59 (by decide) ?_
  refine lv_istore_n (lv' := [(3, .int 0), (2, .int 13), (0, .ref h0), (1, .int a)]) hx hb dX8_pass_60 rfl hl (by decide) rfl (fun ls hl => ?_)
  refine lv_aload_n hx hb dX8_pass_61 rfl (lv_at hl 2 rfl) ?_
  refine va_get (D := (dC, dI)) (ci := 7) (v := .int 14) (C := RX8) (T := TX8) (N := 4) hx hb hts iX8 hown hK hP 1 rfl rfl 2 (by decide) (hts _ kw_1354) (fun _ h9 => h9) rfl dX8_pass_62 ?_
  refine lv_bipush (v := 30) hx hb dX8_pass_65 (by decide) ?_
  refine lv_irem hx hb dX8_pass_67 (by decide) ?_
  refine lv_topi (fun x_46 e_x_46 => ?_)
  obtain rfl : x_46 = 14 := by rw [e_x_46]; decide
  refine lv_if_ne (tgt := 137) hx hb dX8_pass_68 (by decide) (fun c_47 => ?_) (fun c_47 => absurd c_47 (by decide))
  refine lv_iinc (v := 14) (lv' := [(2, .int 14), (3, .int 0), (0, .ref h0), (1, .int a)]) hx hb dX8_pass_137 hl (k := 1) rfl (by decide) (by decide) rfl (fun ls hl => ?_)
  refine lv_goto (tgt := 44) hx hb dX8_pass_140 (by decide) ?_
  refine lv_iload_n hx hb dX8_pass_44 rfl (lv_at hl 0 rfl) ?_
  refine lv_iload_n hx hb dX8_pass_45 rfl (lv_at hl 3 rfl) ?_
  refine lv_icmp_ge (tgt := 143) hx hb dX8_pass_46 (by decide) (fun d14 => ?_) (fun d14 => ?_)
  · have ea : (14 : Int32) = a := zi_pin d13 d14
    refine lv_aload_n hx hb dX8_pass_143 rfl (lv_at hl 2 rfl) ?_
    refine va_get (D := (dC, dI)) (ci := 7) (v := .int 14) (C := RX8) (T := TX8) (N := 4) hx hb hts iX8 hown hK hP 1 rfl rfl 2 (by decide) (hts _ kw_1354) (fun _ h9 => h9) rfl dX8_pass_144 ?_
    have hP9 : va_P (dC, dI) zc [(h0, .inr (7, [.ref ac, cu, .int a, .int 0]))] H := by have := hP.sub (ws' := [(h0, .inr (7, [.ref ac, cu, .int 14, .int 0]))]) [1] rfl; rwa [ea] at this
    have hD9 : va_D A [(h0, .inr (7, [.ref ac, cu, .int a, .int 0]))] := by have := hD.sub (ws' := [(h0, .inr (7, [.ref ac, cu, .int 14, .int 0]))]) [1] (by decide) rfl; rwa [ea] at this
    have hK9 := hK.sub (tys' := []) [] rfl
    exact W.iret hx hb hr (fun t ht hW => ⟨⟨_, (), rfl, ea, by rw [ht]; exact hP9, va_K.moved hW.alike hK9, hD9⟩, hS.F ht⟩) hS.2.2 dX8_pass_147
  refine lv_aload_n hx hb dX8_pass_49 rfl (lv_at hl 2 rfl) ?_
  refine lv_dup hx hb dX8_pass_50 rfl ?_
  refine va_get (D := (dC, dI)) (ci := 7) (v := .int 14) (C := RX8) (T := TX8) (N := 4) hx hb hts iX8 hown hK hP 1 rfl rfl 2 (by decide) (hts _ kw_1354) (fun _ h9 => h9) rfl dX8_pass_51 ?_
  refine lv_iconst (v := 1) hx hb dX8_pass_54 (by decide) ?_
  refine lv_iadd hx hb dX8_pass_55 ?_
  refine lv_topi (fun x_48 e_x_48 => ?_)
  obtain rfl : x_48 = 15 := by rw [e_x_48]; decide
  refine va_put (D := (dC, dI)) (ci := 7) (v := .int 15) (ty := .int) (C := RX8) (T := TX8) (N := 4) hx hb hts iX8 tyX8 tyX8_ok nmX8 hown hK hP hD hS 1 rfl rfl 2 (by decide) (hts _ kw_1354) (fun _ h9 => h9) rfl (by decide +kernel) rfl rfl (Nat.le_of_ble_eq_true rfl) dX8_pass_56 (fun H locs hP hD hS => ?_)
  have hP : va_P (dC, dI) zc [(ac, .inr (0, [.int 0, .ref t, .int 0])), (h0, .inr (7, [.ref ac, cu, .int 15, .int 0]))] H := hP
  have hD : va_D A [(ac, .inr (0, [.int 0, .ref t, .int 0])), (h0, .inr (7, [.ref ac, cu, .int 15, .int 0]))] := hD
  refine lv_iconst (v := 0) hx hb dX8_pass_59 (by decide) ?_
  refine lv_istore_n (lv' := [(3, .int 0), (2, .int 14), (0, .ref h0), (1, .int a)]) hx hb dX8_pass_60 rfl hl (by decide) rfl (fun ls hl => ?_)
  refine lv_aload_n hx hb dX8_pass_61 rfl (lv_at hl 2 rfl) ?_
  refine va_get (D := (dC, dI)) (ci := 7) (v := .int 15) (C := RX8) (T := TX8) (N := 4) hx hb hts iX8 hown hK hP 1 rfl rfl 2 (by decide) (hts _ kw_1354) (fun _ h9 => h9) rfl dX8_pass_62 ?_
  refine lv_bipush (v := 30) hx hb dX8_pass_65 (by decide) ?_
  refine lv_irem hx hb dX8_pass_67 (by decide) ?_
  refine lv_topi (fun x_49 e_x_49 => ?_)
  obtain rfl : x_49 = 15 := by rw [e_x_49]; decide
  refine lv_if_ne (tgt := 137) hx hb dX8_pass_68 (by decide) (fun c_50 => ?_) (fun c_50 => absurd c_50 (by decide))
  refine lv_iinc (v := 15) (lv' := [(2, .int 15), (3, .int 0), (0, .ref h0), (1, .int a)]) hx hb dX8_pass_137 hl (k := 1) rfl (by decide) (by decide) rfl (fun ls hl => ?_)
  refine lv_goto (tgt := 44) hx hb dX8_pass_140 (by decide) ?_
  refine lv_iload_n hx hb dX8_pass_44 rfl (lv_at hl 0 rfl) ?_
  refine lv_iload_n hx hb dX8_pass_45 rfl (lv_at hl 3 rfl) ?_
  refine lv_icmp_ge (tgt := 143) hx hb dX8_pass_46 (by decide) (fun d15 => ?_) (fun d15 => ?_)
  · have ea : (15 : Int32) = a := zi_pin d14 d15
    refine lv_aload_n hx hb dX8_pass_143 rfl (lv_at hl 2 rfl) ?_
    refine va_get (D := (dC, dI)) (ci := 7) (v := .int 15) (C := RX8) (T := TX8) (N := 4) hx hb hts iX8 hown hK hP 1 rfl rfl 2 (by decide) (hts _ kw_1354) (fun _ h9 => h9) rfl dX8_pass_144 ?_
    have hP9 : va_P (dC, dI) zc [(h0, .inr (7, [.ref ac, cu, .int a, .int 0]))] H := by have := hP.sub (ws' := [(h0, .inr (7, [.ref ac, cu, .int 15, .int 0]))]) [1] rfl; rwa [ea] at this
    have hD9 : va_D A [(h0, .inr (7, [.ref ac, cu, .int a, .int 0]))] := by have := hD.sub (ws' := [(h0, .inr (7, [.ref ac, cu, .int 15, .int 0]))]) [1] (by decide) rfl; rwa [ea] at this
    have hK9 := hK.sub (tys' := []) [] rfl
    exact W.iret hx hb hr (fun t ht hW => ⟨⟨_, (), rfl, ea, by rw [ht]; exact hP9, va_K.moved hW.alike hK9, hD9⟩, hS.F ht⟩) hS.2.2 dX8_pass_147
  refine lv_aload_n hx hb dX8_pass_49 rfl (lv_at hl 2 rfl) ?_
  refine lv_dup hx hb dX8_pass_50 rfl ?_
  refine va_get (D := (dC, dI)) (ci := 7) (v := .int 15) (C := RX8) (T := TX8) (N := 4) hx hb hts iX8 hown hK hP 1 rfl rfl 2 (by decide) (hts _ kw_1354) (fun _ h9 => h9) rfl dX8_pass_51 ?_
  refine lv_iconst (v := 1) hx hb dX8_pass_54 (by decide) ?_
  refine lv_iadd hx hb dX8_pass_55 ?_
  refine lv_topi (fun x_51 e_x_51 => ?_)
  obtain rfl : x_51 = 16 := by rw [e_x_51]; decide
  refine va_put (D := (dC, dI)) (ci := 7) (v := .int 16) (ty := .int) (C := RX8) (T := TX8) (N := 4) hx hb hts iX8 tyX8 tyX8_ok nmX8 hown hK hP hD hS 1 rfl rfl 2 (by decide) (hts _ kw_1354) (fun _ h9 => h9) rfl (by decide +kernel) rfl rfl (Nat.le_of_ble_eq_true rfl) dX8_pass_56 (fun H locs hP hD hS => ?_)
  have hP : va_P (dC, dI) zc [(ac, .inr (0, [.int 0, .ref t, .int 0])), (h0, .inr (7, [.ref ac, cu, .int 16, .int 0]))] H := hP
  have hD : va_D A [(ac, .inr (0, [.int 0, .ref t, .int 0])), (h0, .inr (7, [.ref ac, cu, .int 16, .int 0]))] := hD
  refine lv_iconst (v := 0) hx hb dX8_pass_59 (by decide) ?_
  refine lv_istore_n (lv' := [(3, .int 0), (2, .int 15), (0, .ref h0), (1, .int a)]) hx hb dX8_pass_60 rfl hl (by decide) rfl (fun ls hl => ?_)
  refine lv_aload_n hx hb dX8_pass_61 rfl (lv_at hl 2 rfl) ?_
  refine va_get (D := (dC, dI)) (ci := 7) (v := .int 16) (C := RX8) (T := TX8) (N := 4) hx hb hts iX8 hown hK hP 1 rfl rfl 2 (by decide) (hts _ kw_1354) (fun _ h9 => h9) rfl dX8_pass_62 ?_
  refine lv_bipush (v := 30) hx hb dX8_pass_65 (by decide) ?_
  refine lv_irem hx hb dX8_pass_67 (by decide) ?_
  refine lv_topi (fun x_52 e_x_52 => ?_)
  obtain rfl : x_52 = 16 := by rw [e_x_52]; decide
  refine lv_if_ne (tgt := 137) hx hb dX8_pass_68 (by decide) (fun c_53 => ?_) (fun c_53 => absurd c_53 (by decide))
  refine lv_iinc (v := 16) (lv' := [(2, .int 16), (3, .int 0), (0, .ref h0), (1, .int a)]) hx hb dX8_pass_137 hl (k := 1) rfl (by decide) (by decide) rfl (fun ls hl => ?_)
  refine lv_goto (tgt := 44) hx hb dX8_pass_140 (by decide) ?_
  refine lv_iload_n hx hb dX8_pass_44 rfl (lv_at hl 0 rfl) ?_
  refine lv_iload_n hx hb dX8_pass_45 rfl (lv_at hl 3 rfl) ?_
  refine lv_icmp_ge (tgt := 143) hx hb dX8_pass_46 (by decide) (fun d16 => ?_) (fun d16 => ?_)
  · have ea : (16 : Int32) = a := zi_pin d15 d16
    refine lv_aload_n hx hb dX8_pass_143 rfl (lv_at hl 2 rfl) ?_
    refine va_get (D := (dC, dI)) (ci := 7) (v := .int 16) (C := RX8) (T := TX8) (N := 4) hx hb hts iX8 hown hK hP 1 rfl rfl 2 (by decide) (hts _ kw_1354) (fun _ h9 => h9) rfl dX8_pass_144 ?_
    have hP9 : va_P (dC, dI) zc [(h0, .inr (7, [.ref ac, cu, .int a, .int 0]))] H := by have := hP.sub (ws' := [(h0, .inr (7, [.ref ac, cu, .int 16, .int 0]))]) [1] rfl; rwa [ea] at this
    have hD9 : va_D A [(h0, .inr (7, [.ref ac, cu, .int a, .int 0]))] := by have := hD.sub (ws' := [(h0, .inr (7, [.ref ac, cu, .int 16, .int 0]))]) [1] (by decide) rfl; rwa [ea] at this
    have hK9 := hK.sub (tys' := []) [] rfl
    exact W.iret hx hb hr (fun t ht hW => ⟨⟨_, (), rfl, ea, by rw [ht]; exact hP9, va_K.moved hW.alike hK9, hD9⟩, hS.F ht⟩) hS.2.2 dX8_pass_147
  refine lv_aload_n hx hb dX8_pass_49 rfl (lv_at hl 2 rfl) ?_
  refine lv_dup hx hb dX8_pass_50 rfl ?_
  refine va_get (D := (dC, dI)) (ci := 7) (v := .int 16) (C := RX8) (T := TX8) (N := 4) hx hb hts iX8 hown hK hP 1 rfl rfl 2 (by decide) (hts _ kw_1354) (fun _ h9 => h9) rfl dX8_pass_51 ?_
  refine lv_iconst (v := 1) hx hb dX8_pass_54 (by decide) ?_
  refine lv_iadd hx hb dX8_pass_55 ?_
  refine lv_topi (fun x_54 e_x_54 => ?_)
  obtain rfl : x_54 = 17 := by rw [e_x_54]; decide
  refine va_put (D := (dC, dI)) (ci := 7) (v := .int 17) (ty := .int) (C := RX8) (T := TX8) (N := 4) hx hb hts iX8 tyX8 tyX8_ok nmX8 hown hK hP hD hS 1 rfl rfl 2 (by decide) (hts _ kw_1354) (fun _ h9 => h9) rfl (by decide +kernel) rfl rfl (Nat.le_of_ble_eq_true rfl) dX8_pass_56 (fun H locs hP hD hS => ?_)
  have hP : va_P (dC, dI) zc [(ac, .inr (0, [.int 0, .ref t, .int 0])), (h0, .inr (7, [.ref ac, cu, .int 17, .int 0]))] H := hP
  have hD : va_D A [(ac, .inr (0, [.int 0, .ref t, .int 0])), (h0, .inr (7, [.ref ac, cu, .int 17, .int 0]))] := hD
  refine lv_iconst (v := 0) hx hb dX8_pass_59 (by decide) ?_
  refine lv_istore_n (lv' := [(3, .int 0), (2, .int 16), (0, .ref h0), (1, .int a)]) hx hb dX8_pass_60 rfl hl (by decide) rfl (fun ls hl => ?_)
  refine lv_aload_n hx hb dX8_pass_61 rfl (lv_at hl 2 rfl) ?_
  refine va_get (D := (dC, dI)) (ci := 7) (v := .int 17) (C := RX8) (T := TX8) (N := 4) hx hb hts iX8 hown hK hP 1 rfl rfl 2 (by decide) (hts _ kw_1354) (fun _ h9 => h9) rfl dX8_pass_62 ?_
  refine lv_bipush (v := 30) hx hb dX8_pass_65 (by decide) ?_
  refine lv_irem hx hb dX8_pass_67 (by decide) ?_
  refine lv_topi (fun x_55 e_x_55 => ?_)
  obtain rfl : x_55 = 17 := by rw [e_x_55]; decide
  refine lv_if_ne (tgt := 137) hx hb dX8_pass_68 (by decide) (fun c_56 => ?_) (fun c_56 => absurd c_56 (by decide))
  refine lv_iinc (v := 17) (lv' := [(2, .int 17), (3, .int 0), (0, .ref h0), (1, .int a)]) hx hb dX8_pass_137 hl (k := 1) rfl (by decide) (by decide) rfl (fun ls hl => ?_)
  refine lv_goto (tgt := 44) hx hb dX8_pass_140 (by decide) ?_
  refine lv_iload_n hx hb dX8_pass_44 rfl (lv_at hl 0 rfl) ?_
  refine lv_iload_n hx hb dX8_pass_45 rfl (lv_at hl 3 rfl) ?_
  refine lv_icmp_ge (tgt := 143) hx hb dX8_pass_46 (by decide) (fun d17 => ?_) (fun d17 => ?_)
  · have ea : (17 : Int32) = a := zi_pin d16 d17
    refine lv_aload_n hx hb dX8_pass_143 rfl (lv_at hl 2 rfl) ?_
    refine va_get (D := (dC, dI)) (ci := 7) (v := .int 17) (C := RX8) (T := TX8) (N := 4) hx hb hts iX8 hown hK hP 1 rfl rfl 2 (by decide) (hts _ kw_1354) (fun _ h9 => h9) rfl dX8_pass_144 ?_
    have hP9 : va_P (dC, dI) zc [(h0, .inr (7, [.ref ac, cu, .int a, .int 0]))] H := by have := hP.sub (ws' := [(h0, .inr (7, [.ref ac, cu, .int 17, .int 0]))]) [1] rfl; rwa [ea] at this
    have hD9 : va_D A [(h0, .inr (7, [.ref ac, cu, .int a, .int 0]))] := by have := hD.sub (ws' := [(h0, .inr (7, [.ref ac, cu, .int 17, .int 0]))]) [1] (by decide) rfl; rwa [ea] at this
    have hK9 := hK.sub (tys' := []) [] rfl
    exact W.iret hx hb hr (fun t ht hW => ⟨⟨_, (), rfl, ea, by rw [ht]; exact hP9, va_K.moved hW.alike hK9, hD9⟩, hS.F ht⟩) hS.2.2 dX8_pass_147
  refine lv_aload_n hx hb dX8_pass_49 rfl (lv_at hl 2 rfl) ?_
  refine lv_dup hx hb dX8_pass_50 rfl ?_
  refine va_get (D := (dC, dI)) (ci := 7) (v := .int 17) (C := RX8) (T := TX8) (N := 4) hx hb hts iX8 hown hK hP 1 rfl rfl 2 (by decide) (hts _ kw_1354) (fun _ h9 => h9) rfl dX8_pass_51 ?_
  refine lv_iconst (v := 1) hx hb dX8_pass_54 (by decide) ?_
  refine lv_iadd hx hb dX8_pass_55 ?_
  refine lv_topi (fun x_57 e_x_57 => ?_)
  obtain rfl : x_57 = 18 := by rw [e_x_57]; decide
  refine va_put (D := (dC, dI)) (ci := 7) (v := .int 18) (ty := .int) (C := RX8) (T := TX8) (N := 4) hx hb hts iX8 tyX8 tyX8_ok nmX8 hown hK hP hD hS 1 rfl rfl 2 (by decide) (hts _ kw_1354) (fun _ h9 => h9) rfl (by decide +kernel) rfl rfl (Nat.le_of_ble_eq_true rfl) dX8_pass_56 (fun H locs hP hD hS => ?_)
  have hP : va_P (dC, dI) zc [(ac, .inr (0, [.int 0, .ref t, .int 0])), (h0, .inr (7, [.ref ac, cu, .int 18, .int 0]))] H := hP
  have hD : va_D A [(ac, .inr (0, [.int 0, .ref t, .int 0])), (h0, .inr (7, [.ref ac, cu, .int 18, .int 0]))] := hD
  refine lv_iconst (v := 0) hx hb dX8_pass_59 (by decide) ?_
  refine lv_istore_n (lv' := [(3, .int 0), (2, .int 17), (0, .ref h0), (1, .int a)]) hx hb dX8_pass_60 rfl hl (by decide) rfl (fun ls hl => ?_)
  refine lv_aload_n hx hb dX8_pass_61 rfl (lv_at hl 2 rfl) ?_
  refine va_get (D := (dC, dI)) (ci := 7) (v := .int 18) (C := RX8) (T := TX8) (N := 4) hx hb hts iX8 hown hK hP 1 rfl rfl 2 (by decide) (hts _ kw_1354) (fun _ h9 => h9) rfl dX8_pass_62 ?_
  refine lv_bipush (v := 30) hx hb dX8_pass_65 (by decide) ?_
  refine lv_irem hx hb dX8_pass_67 (by decide) ?_
  refine lv_topi (fun x_58 e_x_58 => ?_)
  obtain rfl : x_58 = 18 := by rw [e_x_58]; decide
  refine lv_if_ne (tgt := 137) hx hb dX8_pass_68 (by decide) (fun c_59 => ?_) (fun c_59 => absurd c_59 (by decide))
  refine lv_iinc (v := 18) (lv' := [(2, .int 18), (3, .int 0), (0, .ref h0), (1, .int a)]) hx hb dX8_pass_137 hl (k := 1) rfl (by decide) (by decide) rfl (fun ls hl => ?_)
  refine lv_goto (tgt := 44) hx hb dX8_pass_140 (by decide) ?_
  refine lv_iload_n hx hb dX8_pass_44 rfl (lv_at hl 0 rfl) ?_
  refine lv_iload_n hx hb dX8_pass_45 rfl (lv_at hl 3 rfl) ?_
  refine lv_icmp_ge (tgt := 143) hx hb dX8_pass_46 (by decide) (fun d18 => ?_) (fun d18 => ?_)
  · have ea : (18 : Int32) = a := zi_pin d17 d18
    refine lv_aload_n hx hb dX8_pass_143 rfl (lv_at hl 2 rfl) ?_
    refine va_get (D := (dC, dI)) (ci := 7) (v := .int 18) (C := RX8) (T := TX8) (N := 4) hx hb hts iX8 hown hK hP 1 rfl rfl 2 (by decide) (hts _ kw_1354) (fun _ h9 => h9) rfl dX8_pass_144 ?_
    have hP9 : va_P (dC, dI) zc [(h0, .inr (7, [.ref ac, cu, .int a, .int 0]))] H := by have := hP.sub (ws' := [(h0, .inr (7, [.ref ac, cu, .int 18, .int 0]))]) [1] rfl; rwa [ea] at this
    have hD9 : va_D A [(h0, .inr (7, [.ref ac, cu, .int a, .int 0]))] := by have := hD.sub (ws' := [(h0, .inr (7, [.ref ac, cu, .int 18, .int 0]))]) [1] (by decide) rfl; rwa [ea] at this
    have hK9 := hK.sub (tys' := []) [] rfl
    exact W.iret hx hb hr (fun t ht hW => ⟨⟨_, (), rfl, ea, by rw [ht]; exact hP9, va_K.moved hW.alike hK9, hD9⟩, hS.F ht⟩) hS.2.2 dX8_pass_147
  refine lv_aload_n hx hb dX8_pass_49 rfl (lv_at hl 2 rfl) ?_
  refine lv_dup hx hb dX8_pass_50 rfl ?_
  refine va_get (D := (dC, dI)) (ci := 7) (v := .int 18) (C := RX8) (T := TX8) (N := 4) hx hb hts iX8 hown hK hP 1 rfl rfl 2 (by decide) (hts _ kw_1354) (fun _ h9 => h9) rfl dX8_pass_51 ?_
  refine lv_iconst (v := 1) hx hb dX8_pass_54 (by decide) ?_
  refine lv_iadd hx hb dX8_pass_55 ?_
  refine lv_topi (fun x_60 e_x_60 => ?_)
  obtain rfl : x_60 = 19 := by rw [e_x_60]; decide
  refine va_put (D := (dC, dI)) (ci := 7) (v := .int 19) (ty := .int) (C := RX8) (T := TX8) (N := 4) hx hb hts iX8 tyX8 tyX8_ok nmX8 hown hK hP hD hS 1 rfl rfl 2 (by decide) (hts _ kw_1354) (fun _ h9 => h9) rfl (by decide +kernel) rfl rfl (Nat.le_of_ble_eq_true rfl) dX8_pass_56 (fun H locs hP hD hS => ?_)
  have hP : va_P (dC, dI) zc [(ac, .inr (0, [.int 0, .ref t, .int 0])), (h0, .inr (7, [.ref ac, cu, .int 19, .int 0]))] H := hP
  have hD : va_D A [(ac, .inr (0, [.int 0, .ref t, .int 0])), (h0, .inr (7, [.ref ac, cu, .int 19, .int 0]))] := hD
  refine lv_iconst (v := 0) hx hb dX8_pass_59 (by decide) ?_
  refine lv_istore_n (lv' := [(3, .int 0), (2, .int 18), (0, .ref h0), (1, .int a)]) hx hb dX8_pass_60 rfl hl (by decide) rfl (fun ls hl => ?_)
  refine lv_aload_n hx hb dX8_pass_61 rfl (lv_at hl 2 rfl) ?_
  refine va_get (D := (dC, dI)) (ci := 7) (v := .int 19) (C := RX8) (T := TX8) (N := 4) hx hb hts iX8 hown hK hP 1 rfl rfl 2 (by decide) (hts _ kw_1354) (fun _ h9 => h9) rfl dX8_pass_62 ?_
  refine lv_bipush (v := 30) hx hb dX8_pass_65 (by decide) ?_
  refine lv_irem hx hb dX8_pass_67 (by decide) ?_
  refine lv_topi (fun x_61 e_x_61 => ?_)
  obtain rfl : x_61 = 19 := by rw [e_x_61]; decide
  refine lv_if_ne (tgt := 137) hx hb dX8_pass_68 (by decide) (fun c_62 => ?_) (fun c_62 => absurd c_62 (by decide))
  refine lv_iinc (v := 19) (lv' := [(2, .int 19), (3, .int 0), (0, .ref h0), (1, .int a)]) hx hb dX8_pass_137 hl (k := 1) rfl (by decide) (by decide) rfl (fun ls hl => ?_)
  refine lv_goto (tgt := 44) hx hb dX8_pass_140 (by decide) ?_
  refine lv_iload_n hx hb dX8_pass_44 rfl (lv_at hl 0 rfl) ?_
  refine lv_iload_n hx hb dX8_pass_45 rfl (lv_at hl 3 rfl) ?_
  refine lv_icmp_ge (tgt := 143) hx hb dX8_pass_46 (by decide) (fun d19 => ?_) (fun d19 => ?_)
  · have ea : (19 : Int32) = a := zi_pin d18 d19
    refine lv_aload_n hx hb dX8_pass_143 rfl (lv_at hl 2 rfl) ?_
    refine va_get (D := (dC, dI)) (ci := 7) (v := .int 19) (C := RX8) (T := TX8) (N := 4) hx hb hts iX8 hown hK hP 1 rfl rfl 2 (by decide) (hts _ kw_1354) (fun _ h9 => h9) rfl dX8_pass_144 ?_
    have hP9 : va_P (dC, dI) zc [(h0, .inr (7, [.ref ac, cu, .int a, .int 0]))] H := by have := hP.sub (ws' := [(h0, .inr (7, [.ref ac, cu, .int 19, .int 0]))]) [1] rfl; rwa [ea] at this
    have hD9 : va_D A [(h0, .inr (7, [.ref ac, cu, .int a, .int 0]))] := by have := hD.sub (ws' := [(h0, .inr (7, [.ref ac, cu, .int 19, .int 0]))]) [1] (by decide) rfl; rwa [ea] at this
    have hK9 := hK.sub (tys' := []) [] rfl
    exact W.iret hx hb hr (fun t ht hW => ⟨⟨_, (), rfl, ea, by rw [ht]; exact hP9, va_K.moved hW.alike hK9, hD9⟩, hS.F ht⟩) hS.2.2 dX8_pass_147
  refine lv_aload_n hx hb dX8_pass_49 rfl (lv_at hl 2 rfl) ?_
  refine lv_dup hx hb dX8_pass_50 rfl ?_
  refine va_get (D := (dC, dI)) (ci := 7) (v := .int 19) (C := RX8) (T := TX8) (N := 4) hx hb hts iX8 hown hK hP 1 rfl rfl 2 (by decide) (hts _ kw_1354) (fun _ h9 => h9) rfl dX8_pass_51 ?_
  refine lv_iconst (v := 1) hx hb dX8_pass_54 (by decide) ?_
  refine lv_iadd hx hb dX8_pass_55 ?_
  refine lv_topi (fun x_63 e_x_63 => ?_)
  obtain rfl : x_63 = 20 := by rw [e_x_63]; decide
  refine va_put (D := (dC, dI)) (ci := 7) (v := .int 20) (ty := .int) (C := RX8) (T := TX8) (N := 4) hx hb hts iX8 tyX8 tyX8_ok nmX8 hown hK hP hD hS 1 rfl rfl 2 (by decide) (hts _ kw_1354) (fun _ h9 => h9) rfl (by decide +kernel) rfl rfl (Nat.le_of_ble_eq_true rfl) dX8_pass_56 (fun H locs hP hD hS => ?_)
  have hP : va_P (dC, dI) zc [(ac, .inr (0, [.int 0, .ref t, .int 0])), (h0, .inr (7, [.ref ac, cu, .int 20, .int 0]))] H := hP
  have hD : va_D A [(ac, .inr (0, [.int 0, .ref t, .int 0])), (h0, .inr (7, [.ref ac, cu, .int 20, .int 0]))] := hD
  refine lv_iconst (v := 0) hx hb dX8_pass_59 (by decide) ?_
  refine lv_istore_n (lv' := [(3, .int 0), (2, .int 19), (0, .ref h0), (1, .int a)]) hx hb dX8_pass_60 rfl hl (by decide) rfl (fun ls hl => ?_)
  refine lv_aload_n hx hb dX8_pass_61 rfl (lv_at hl 2 rfl) ?_
  refine va_get (D := (dC, dI)) (ci := 7) (v := .int 20) (C := RX8) (T := TX8) (N := 4) hx hb hts iX8 hown hK hP 1 rfl rfl 2 (by decide) (hts _ kw_1354) (fun _ h9 => h9) rfl dX8_pass_62 ?_
  refine lv_bipush (v := 30) hx hb dX8_pass_65 (by decide) ?_
  refine lv_irem hx hb dX8_pass_67 (by decide) ?_
  refine lv_topi (fun x_64 e_x_64 => ?_)
  obtain rfl : x_64 = 20 := by rw [e_x_64]; decide
  refine lv_if_ne (tgt := 137) hx hb dX8_pass_68 (by decide) (fun c_65 => ?_) (fun c_65 => absurd c_65 (by decide))
  refine lv_iinc (v := 20) (lv' := [(2, .int 20), (3, .int 0), (0, .ref h0), (1, .int a)]) hx hb dX8_pass_137 hl (k := 1) rfl (by decide) (by decide) rfl (fun ls hl => ?_)
  refine lv_goto (tgt := 44) hx hb dX8_pass_140 (by decide) ?_
  refine lv_iload_n hx hb dX8_pass_44 rfl (lv_at hl 0 rfl) ?_
  refine lv_iload_n hx hb dX8_pass_45 rfl (lv_at hl 3 rfl) ?_
  refine lv_icmp_ge (tgt := 143) hx hb dX8_pass_46 (by decide) (fun d20 => ?_) (fun d20 => ?_)
  · have ea : (20 : Int32) = a := zi_pin d19 d20
    refine lv_aload_n hx hb dX8_pass_143 rfl (lv_at hl 2 rfl) ?_
    refine va_get (D := (dC, dI)) (ci := 7) (v := .int 20) (C := RX8) (T := TX8) (N := 4) hx hb hts iX8 hown hK hP 1 rfl rfl 2 (by decide) (hts _ kw_1354) (fun _ h9 => h9) rfl dX8_pass_144 ?_
    have hP9 : va_P (dC, dI) zc [(h0, .inr (7, [.ref ac, cu, .int a, .int 0]))] H := by have := hP.sub (ws' := [(h0, .inr (7, [.ref ac, cu, .int 20, .int 0]))]) [1] rfl; rwa [ea] at this
    have hD9 : va_D A [(h0, .inr (7, [.ref ac, cu, .int a, .int 0]))] := by have := hD.sub (ws' := [(h0, .inr (7, [.ref ac, cu, .int 20, .int 0]))]) [1] (by decide) rfl; rwa [ea] at this
    have hK9 := hK.sub (tys' := []) [] rfl
    exact W.iret hx hb hr (fun t ht hW => ⟨⟨_, (), rfl, ea, by rw [ht]; exact hP9, va_K.moved hW.alike hK9, hD9⟩, hS.F ht⟩) hS.2.2 dX8_pass_147
  refine lv_aload_n hx hb dX8_pass_49 rfl (lv_at hl 2 rfl) ?_
  refine lv_dup hx hb dX8_pass_50 rfl ?_
  refine va_get (D := (dC, dI)) (ci := 7) (v := .int 20) (C := RX8) (T := TX8) (N := 4) hx hb hts iX8 hown hK hP 1 rfl rfl 2 (by decide) (hts _ kw_1354) (fun _ h9 => h9) rfl dX8_pass_51 ?_
  refine lv_iconst (v := 1) hx hb dX8_pass_54 (by decide) ?_
  refine lv_iadd hx hb dX8_pass_55 ?_
  refine lv_topi (fun x_66 e_x_66 => ?_)
  obtain rfl : x_66 = 21 := by rw [e_x_66]; decide
  refine va_put (D := (dC, dI)) (ci := 7) (v := .int 21) (ty := .int) (C := RX8) (T := TX8) (N := 4) hx hb hts iX8 tyX8 tyX8_ok nmX8 hown hK hP hD hS 1 rfl rfl 2 (by decide) (hts _ kw_1354) (fun _ h9 => h9) rfl (by decide +kernel) rfl rfl (Nat.le_of_ble_eq_true rfl) dX8_pass_56 (fun H locs hP hD hS => ?_)
  have hP : va_P (dC, dI) zc [(ac, .inr (0, [.int 0, .ref t, .int 0])), (h0, .inr (7, [.ref ac, cu, .int 21, .int 0]))] H := hP
  have hD : va_D A [(ac, .inr (0, [.int 0, .ref t, .int 0])), (h0, .inr (7, [.ref ac, cu, .int 21, .int 0]))] := hD
  refine lv_iconst (v := 0) hx hb dX8_pass_59 (by decide) ?_
  refine lv_istore_n (lv' := [(3, .int 0), (2, .int 20), (0, .ref h0), (1, .int a)]) hx hb dX8_pass_60 rfl hl (by decide) rfl (fun ls hl => ?_)
  refine lv_aload_n hx hb dX8_pass_61 rfl (lv_at hl 2 rfl) ?_
  refine va_get (D := (dC, dI)) (ci := 7) (v := .int 21) (C := RX8) (T := TX8) (N := 4) hx hb hts iX8 hown hK hP 1 rfl rfl 2 (by decide) (hts _ kw_1354) (fun _ h9 => h9) rfl dX8_pass_62 ?_
  refine lv_bipush (v := 30) hx hb dX8_pass_65 (by decide) ?_
  refine lv_irem hx hb dX8_pass_67 (by decide) ?_
  refine lv_topi (fun x_67 e_x_67 => ?_)
  obtain rfl : x_67 = 21 := by rw [e_x_67]; decide
  refine lv_if_ne (tgt := 137) hx hb dX8_pass_68 (by decide) (fun c_68 => ?_) (fun c_68 => absurd c_68 (by decide))
  refine lv_iinc (v := 21) (lv' := [(2, .int 21), (3, .int 0), (0, .ref h0), (1, .int a)]) hx hb dX8_pass_137 hl (k := 1) rfl (by decide) (by decide) rfl (fun ls hl => ?_)
  refine lv_goto (tgt := 44) hx hb dX8_pass_140 (by decide) ?_
  refine lv_iload_n hx hb dX8_pass_44 rfl (lv_at hl 0 rfl) ?_
  refine lv_iload_n hx hb dX8_pass_45 rfl (lv_at hl 3 rfl) ?_
  refine lv_icmp_ge (tgt := 143) hx hb dX8_pass_46 (by decide) (fun d21 => ?_) (fun d21 => ?_)
  · have ea : (21 : Int32) = a := zi_pin d20 d21
    refine lv_aload_n hx hb dX8_pass_143 rfl (lv_at hl 2 rfl) ?_
    refine va_get (D := (dC, dI)) (ci := 7) (v := .int 21) (C := RX8) (T := TX8) (N := 4) hx hb hts iX8 hown hK hP 1 rfl rfl 2 (by decide) (hts _ kw_1354) (fun _ h9 => h9) rfl dX8_pass_144 ?_
    have hP9 : va_P (dC, dI) zc [(h0, .inr (7, [.ref ac, cu, .int a, .int 0]))] H := by have := hP.sub (ws' := [(h0, .inr (7, [.ref ac, cu, .int 21, .int 0]))]) [1] rfl; rwa [ea] at this
    have hD9 : va_D A [(h0, .inr (7, [.ref ac, cu, .int a, .int 0]))] := by have := hD.sub (ws' := [(h0, .inr (7, [.ref ac, cu, .int 21, .int 0]))]) [1] (by decide) rfl; rwa [ea] at this
    have hK9 := hK.sub (tys' := []) [] rfl
    exact W.iret hx hb hr (fun t ht hW => ⟨⟨_, (), rfl, ea, by rw [ht]; exact hP9, va_K.moved hW.alike hK9, hD9⟩, hS.F ht⟩) hS.2.2 dX8_pass_147
  refine lv_aload_n hx hb dX8_pass_49 rfl (lv_at hl 2 rfl) ?_
  refine lv_dup hx hb dX8_pass_50 rfl ?_
  refine va_get (D := (dC, dI)) (ci := 7) (v := .int 21) (C := RX8) (T := TX8) (N := 4) hx hb hts iX8 hown hK hP 1 rfl rfl 2 (by decide) (hts _ kw_1354) (fun _ h9 => h9) rfl dX8_pass_51 ?_
  refine lv_iconst (v := 1) hx hb dX8_pass_54 (by decide) ?_
  refine lv_iadd hx hb dX8_pass_55 ?_
  refine lv_topi (fun x_69 e_x_69 => ?_)
  obtain rfl : x_69 = 22 := by rw [e_x_69]; decide
  refine va_put (D := (dC, dI)) (ci := 7) (v := .int 22) (ty := .int) (C := RX8) (T := TX8) (N := 4) hx hb hts iX8 tyX8 tyX8_ok nmX8 hown hK hP hD hS 1 rfl rfl 2 (by decide) (hts _ kw_1354) (fun _ h9 => h9) rfl (by decide +kernel) rfl rfl (Nat.le_of_ble_eq_true rfl) dX8_pass_56 (fun H locs hP hD hS => ?_)
  have hP : va_P (dC, dI) zc [(ac, .inr (0, [.int 0, .ref t, .int 0])), (h0, .inr (7, [.ref ac, cu, .int 22, .int 0]))] H := hP
  have hD : va_D A [(ac, .inr (0, [.int 0, .ref t, .int 0])), (h0, .inr (7, [.ref ac, cu, .int 22, .int 0]))] := hD
  refine lv_iconst (v := 0) hx hb dX8_pass_59 (by decide) ?_
  refine lv_istore_n (lv' := [(3, .int 0), (2, .int 21), (0, .ref h0), (1, .int a)]) hx hb dX8_pass_60 rfl hl (by decide) rfl (fun ls hl => ?_)
  refine lv_aload_n hx hb dX8_pass_61 rfl (lv_at hl 2 rfl) ?_
  refine va_get (D := (dC, dI)) (ci := 7) (v := .int 22) (C := RX8) (T := TX8) (N := 4) hx hb hts iX8 hown hK hP 1 rfl rfl 2 (by decide) (hts _ kw_1354) (fun _ h9 => h9) rfl dX8_pass_62 ?_
  refine lv_bipush (v := 30) hx hb dX8_pass_65 (by decide) ?_
  refine lv_irem hx hb dX8_pass_67 (by decide) ?_
  refine lv_topi (fun x_70 e_x_70 => ?_)
  obtain rfl : x_70 = 22 := by rw [e_x_70]; decide
  refine lv_if_ne (tgt := 137) hx hb dX8_pass_68 (by decide) (fun c_71 => ?_) (fun c_71 => absurd c_71 (by decide))
  refine lv_iinc (v := 22) (lv' := [(2, .int 22), (3, .int 0), (0, .ref h0), (1, .int a)]) hx hb dX8_pass_137 hl (k := 1) rfl (by decide) (by decide) rfl (fun ls hl => ?_)
  refine lv_goto (tgt := 44) hx hb dX8_pass_140 (by decide) ?_
  refine lv_iload_n hx hb dX8_pass_44 rfl (lv_at hl 0 rfl) ?_
  refine lv_iload_n hx hb dX8_pass_45 rfl (lv_at hl 3 rfl) ?_
  refine lv_icmp_ge (tgt := 143) hx hb dX8_pass_46 (by decide) (fun d22 => ?_) (fun d22 => ?_)
  · have ea : (22 : Int32) = a := zi_pin d21 d22
    refine lv_aload_n hx hb dX8_pass_143 rfl (lv_at hl 2 rfl) ?_
    refine va_get (D := (dC, dI)) (ci := 7) (v := .int 22) (C := RX8) (T := TX8) (N := 4) hx hb hts iX8 hown hK hP 1 rfl rfl 2 (by decide) (hts _ kw_1354) (fun _ h9 => h9) rfl dX8_pass_144 ?_
    have hP9 : va_P (dC, dI) zc [(h0, .inr (7, [.ref ac, cu, .int a, .int 0]))] H := by have := hP.sub (ws' := [(h0, .inr (7, [.ref ac, cu, .int 22, .int 0]))]) [1] rfl; rwa [ea] at this
    have hD9 : va_D A [(h0, .inr (7, [.ref ac, cu, .int a, .int 0]))] := by have := hD.sub (ws' := [(h0, .inr (7, [.ref ac, cu, .int 22, .int 0]))]) [1] (by decide) rfl; rwa [ea] at this
    have hK9 := hK.sub (tys' := []) [] rfl
    exact W.iret hx hb hr (fun t ht hW => ⟨⟨_, (), rfl, ea, by rw [ht]; exact hP9, va_K.moved hW.alike hK9, hD9⟩, hS.F ht⟩) hS.2.2 dX8_pass_147
  refine lv_aload_n hx hb dX8_pass_49 rfl (lv_at hl 2 rfl) ?_
  refine lv_dup hx hb dX8_pass_50 rfl ?_
  refine va_get (D := (dC, dI)) (ci := 7) (v := .int 22) (C := RX8) (T := TX8) (N := 4) hx hb hts iX8 hown hK hP 1 rfl rfl 2 (by decide) (hts _ kw_1354) (fun _ h9 => h9) rfl dX8_pass_51 ?_
  refine lv_iconst (v := 1) hx hb dX8_pass_54 (by decide) ?_
  refine lv_iadd hx hb dX8_pass_55 ?_
  refine lv_topi (fun x_72 e_x_72 => ?_)
  obtain rfl : x_72 = 23 := by rw [e_x_72]; decide
  refine va_put (D := (dC, dI)) (ci := 7) (v := .int 23) (ty := .int) (C := RX8) (T := TX8) (N := 4) hx hb hts iX8 tyX8 tyX8_ok nmX8 hown hK hP hD hS 1 rfl rfl 2 (by decide) (hts _ kw_1354) (fun _ h9 => h9) rfl (by decide +kernel) rfl rfl (Nat.le_of_ble_eq_true rfl) dX8_pass_56 (fun H locs hP hD hS => ?_)
  have hP : va_P (dC, dI) zc [(ac, .inr (0, [.int 0, .ref t, .int 0])), (h0, .inr (7, [.ref ac, cu, .int 23, .int 0]))] H := hP
  have hD : va_D A [(ac, .inr (0, [.int 0, .ref t, .int 0])), (h0, .inr (7, [.ref ac, cu, .int 23, .int 0]))] := hD
  refine lv_iconst (v := 0) hx hb dX8_pass_59 (by decide) ?_
  refine lv_istore_n (lv' := [(3, .int 0), (2, .int 22), (0, .ref h0), (1, .int a)]) hx hb dX8_pass_60 rfl hl (by decide) rfl (fun ls hl => ?_)
  refine lv_aload_n hx hb dX8_pass_61 rfl (lv_at hl 2 rfl) ?_
  refine va_get (D := (dC, dI)) (ci := 7) (v := .int 23) (C := RX8) (T := TX8) (N := 4) hx hb hts iX8 hown hK hP 1 rfl rfl 2 (by decide) (hts _ kw_1354) (fun _ h9 => h9) rfl dX8_pass_62 ?_
  refine lv_bipush (v := 30) hx hb dX8_pass_65 (by decide) ?_
  refine lv_irem hx hb dX8_pass_67 (by decide) ?_
  refine lv_topi (fun x_73 e_x_73 => ?_)
  obtain rfl : x_73 = 23 := by rw [e_x_73]; decide
  refine lv_if_ne (tgt := 137) hx hb dX8_pass_68 (by decide) (fun c_74 => ?_) (fun c_74 => absurd c_74 (by decide))
  refine lv_iinc (v := 23) (lv' := [(2, .int 23), (3, .int 0), (0, .ref h0), (1, .int a)]) hx hb dX8_pass_137 hl (k := 1) rfl (by decide) (by decide) rfl (fun ls hl => ?_)
  refine lv_goto (tgt := 44) hx hb dX8_pass_140 (by decide) ?_
  refine lv_iload_n hx hb dX8_pass_44 rfl (lv_at hl 0 rfl) ?_
  refine lv_iload_n hx hb dX8_pass_45 rfl (lv_at hl 3 rfl) ?_
  refine lv_icmp_ge (tgt := 143) hx hb dX8_pass_46 (by decide) (fun d23 => ?_) (fun d23 => ?_)
  · have ea : (23 : Int32) = a := zi_pin d22 d23
    refine lv_aload_n hx hb dX8_pass_143 rfl (lv_at hl 2 rfl) ?_
    refine va_get (D := (dC, dI)) (ci := 7) (v := .int 23) (C := RX8) (T := TX8) (N := 4) hx hb hts iX8 hown hK hP 1 rfl rfl 2 (by decide) (hts _ kw_1354) (fun _ h9 => h9) rfl dX8_pass_144 ?_
    have hP9 : va_P (dC, dI) zc [(h0, .inr (7, [.ref ac, cu, .int a, .int 0]))] H := by have := hP.sub (ws' := [(h0, .inr (7, [.ref ac, cu, .int 23, .int 0]))]) [1] rfl; rwa [ea] at this
    have hD9 : va_D A [(h0, .inr (7, [.ref ac, cu, .int a, .int 0]))] := by have := hD.sub (ws' := [(h0, .inr (7, [.ref ac, cu, .int 23, .int 0]))]) [1] (by decide) rfl; rwa [ea] at this
    have hK9 := hK.sub (tys' := []) [] rfl
    exact W.iret hx hb hr (fun t ht hW => ⟨⟨_, (), rfl, ea, by rw [ht]; exact hP9, va_K.moved hW.alike hK9, hD9⟩, hS.F ht⟩) hS.2.2 dX8_pass_147
  refine lv_aload_n hx hb dX8_pass_49 rfl (lv_at hl 2 rfl) ?_
  refine lv_dup hx hb dX8_pass_50 rfl ?_
  refine va_get (D := (dC, dI)) (ci := 7) (v := .int 23) (C := RX8) (T := TX8) (N := 4) hx hb hts iX8 hown hK hP 1 rfl rfl 2 (by decide) (hts _ kw_1354) (fun _ h9 => h9) rfl dX8_pass_51 ?_
  refine lv_iconst (v := 1) hx hb dX8_pass_54 (by decide) ?_
  refine lv_iadd hx hb dX8_pass_55 ?_
  refine lv_topi (fun x_75 e_x_75 => ?_)
  obtain rfl : x_75 = 24 := by rw [e_x_75]; decide
  refine va_put (D := (dC, dI)) (ci := 7) (v := .int 24) (ty := .int) (C := RX8) (T := TX8) (N := 4) hx hb hts iX8 tyX8 tyX8_ok nmX8 hown hK hP hD hS 1 rfl rfl 2 (by decide) (hts _ kw_1354) (fun _ h9 => h9) rfl (by decide +kernel) rfl rfl (Nat.le_of_ble_eq_true rfl) dX8_pass_56 (fun H locs hP hD hS => ?_)
  have hP : va_P (dC, dI) zc [(ac, .inr (0, [.int 0, .ref t, .int 0])), (h0, .inr (7, [.ref ac, cu, .int 24, .int 0]))] H := hP
  have hD : va_D A [(ac, .inr (0, [.int 0, .ref t, .int 0])), (h0, .inr (7, [.ref ac, cu, .int 24, .int 0]))] := hD
  refine lv_iconst (v := 0) hx hb dX8_pass_59 (by decide) ?_
  refine lv_istore_n (lv' := [(3, .int 0), (2, .int 23), (0, .ref h0), (1, .int a)]) hx hb dX8_pass_60 rfl hl (by decide) rfl (fun ls hl => ?_)
  refine lv_aload_n hx hb dX8_pass_61 rfl (lv_at hl 2 rfl) ?_
  refine va_get (D := (dC, dI)) (ci := 7) (v := .int 24) (C := RX8) (T := TX8) (N := 4) hx hb hts iX8 hown hK hP 1 rfl rfl 2 (by decide) (hts _ kw_1354) (fun _ h9 => h9) rfl dX8_pass_62 ?_
  refine lv_bipush (v := 30) hx hb dX8_pass_65 (by decide) ?_
  refine lv_irem hx hb dX8_pass_67 (by decide) ?_
  refine lv_topi (fun x_76 e_x_76 => ?_)
  obtain rfl : x_76 = 24 := by rw [e_x_76]; decide
  refine lv_if_ne (tgt := 137) hx hb dX8_pass_68 (by decide) (fun c_77 => ?_) (fun c_77 => absurd c_77 (by decide))
  refine lv_iinc (v := 24) (lv' := [(2, .int 24), (3, .int 0), (0, .ref h0), (1, .int a)]) hx hb dX8_pass_137 hl (k := 1) rfl (by decide) (by decide) rfl (fun ls hl => ?_)
  refine lv_goto (tgt := 44) hx hb dX8_pass_140 (by decide) ?_
  refine lv_iload_n hx hb dX8_pass_44 rfl (lv_at hl 0 rfl) ?_
  refine lv_iload_n hx hb dX8_pass_45 rfl (lv_at hl 3 rfl) ?_
  refine lv_icmp_ge (tgt := 143) hx hb dX8_pass_46 (by decide) (fun d24 => ?_) (fun d24 => ?_)
  · have ea : (24 : Int32) = a := zi_pin d23 d24
    refine lv_aload_n hx hb dX8_pass_143 rfl (lv_at hl 2 rfl) ?_
    refine va_get (D := (dC, dI)) (ci := 7) (v := .int 24) (C := RX8) (T := TX8) (N := 4) hx hb hts iX8 hown hK hP 1 rfl rfl 2 (by decide) (hts _ kw_1354) (fun _ h9 => h9) rfl dX8_pass_144 ?_
    have hP9 : va_P (dC, dI) zc [(h0, .inr (7, [.ref ac, cu, .int a, .int 0]))] H := by have := hP.sub (ws' := [(h0, .inr (7, [.ref ac, cu, .int 24, .int 0]))]) [1] rfl; rwa [ea] at this
    have hD9 : va_D A [(h0, .inr (7, [.ref ac, cu, .int a, .int 0]))] := by have := hD.sub (ws' := [(h0, .inr (7, [.ref ac, cu, .int 24, .int 0]))]) [1] (by decide) rfl; rwa [ea] at this
    have hK9 := hK.sub (tys' := []) [] rfl
    exact W.iret hx hb hr (fun t ht hW => ⟨⟨_, (), rfl, ea, by rw [ht]; exact hP9, va_K.moved hW.alike hK9, hD9⟩, hS.F ht⟩) hS.2.2 dX8_pass_147
  refine lv_aload_n hx hb dX8_pass_49 rfl (lv_at hl 2 rfl) ?_
  refine lv_dup hx hb dX8_pass_50 rfl ?_
  refine va_get (D := (dC, dI)) (ci := 7) (v := .int 24) (C := RX8) (T := TX8) (N := 4) hx hb hts iX8 hown hK hP 1 rfl rfl 2 (by decide) (hts _ kw_1354) (fun _ h9 => h9) rfl dX8_pass_51 ?_
  refine lv_iconst (v := 1) hx hb dX8_pass_54 (by decide) ?_
  refine lv_iadd hx hb dX8_pass_55 ?_
  refine lv_topi (fun x_78 e_x_78 => ?_)
  obtain rfl : x_78 = 25 := by rw [e_x_78]; decide
  refine va_put (D := (dC, dI)) (ci := 7) (v := .int 25) (ty := .int) (C := RX8) (T := TX8) (N := 4) hx hb hts iX8 tyX8 tyX8_ok nmX8 hown hK hP hD hS 1 rfl rfl 2 (by decide) (hts _ kw_1354) (fun _ h9 => h9) rfl (by decide +kernel) rfl rfl (Nat.le_of_ble_eq_true rfl) dX8_pass_56 (fun H locs hP hD hS => ?_)
  have hP : va_P (dC, dI) zc [(ac, .inr (0, [.int 0, .ref t, .int 0])), (h0, .inr (7, [.ref ac, cu, .int 25, .int 0]))] H := hP
  have hD : va_D A [(ac, .inr (0, [.int 0, .ref t, .int 0])), (h0, .inr (7, [.ref ac, cu, .int 25, .int 0]))] := hD
  refine lv_iconst (v := 0) hx hb dX8_pass_59 (by decide) ?_
  refine lv_istore_n (lv' := [(3, .int 0), (2, .int 24), (0, .ref h0), (1, .int a)]) hx hb dX8_pass_60 rfl hl (by decide) rfl (fun ls hl => ?_)
  refine lv_aload_n hx hb dX8_pass_61 rfl (lv_at hl 2 rfl) ?_
  refine va_get (D := (dC, dI)) (ci := 7) (v := .int 25) (C := RX8) (T := TX8) (N := 4) hx hb hts iX8 hown hK hP 1 rfl rfl 2 (by decide) (hts _ kw_1354) (fun _ h9 => h9) rfl dX8_pass_62 ?_
  refine lv_bipush (v := 30) hx hb dX8_pass_65 (by decide) ?_
  refine lv_irem hx hb dX8_pass_67 (by decide) ?_
  refine lv_topi (fun x_79 e_x_79 => ?_)
  obtain rfl : x_79 = 25 := by rw [e_x_79]; decide
  refine lv_if_ne (tgt := 137) hx hb dX8_pass_68 (by decide) (fun c_80 => ?_) (fun c_80 => absurd c_80 (by decide))
  refine lv_iinc (v := 25) (lv' := [(2, .int 25), (3, .int 0), (0, .ref h0), (1, .int a)]) hx hb dX8_pass_137 hl (k := 1) rfl (by decide) (by decide) rfl (fun ls hl => ?_)
  refine lv_goto (tgt := 44) hx hb dX8_pass_140 (by decide) ?_
  refine lv_iload_n hx hb dX8_pass_44 rfl (lv_at hl 0 rfl) ?_
  refine lv_iload_n hx hb dX8_pass_45 rfl (lv_at hl 3 rfl) ?_
  refine lv_icmp_ge (tgt := 143) hx hb dX8_pass_46 (by decide) (fun d25 => ?_) (fun d25 => ?_)
  · have ea : (25 : Int32) = a := zi_pin d24 d25
    refine lv_aload_n hx hb dX8_pass_143 rfl (lv_at hl 2 rfl) ?_
    refine va_get (D := (dC, dI)) (ci := 7) (v := .int 25) (C := RX8) (T := TX8) (N := 4) hx hb hts iX8 hown hK hP 1 rfl rfl 2 (by decide) (hts _ kw_1354) (fun _ h9 => h9) rfl dX8_pass_144 ?_
    have hP9 : va_P (dC, dI) zc [(h0, .inr (7, [.ref ac, cu, .int a, .int 0]))] H := by have := hP.sub (ws' := [(h0, .inr (7, [.ref ac, cu, .int 25, .int 0]))]) [1] rfl; rwa [ea] at this
    have hD9 : va_D A [(h0, .inr (7, [.ref ac, cu, .int a, .int 0]))] := by have := hD.sub (ws' := [(h0, .inr (7, [.ref ac, cu, .int 25, .int 0]))]) [1] (by decide) rfl; rwa [ea] at this
    have hK9 := hK.sub (tys' := []) [] rfl
    exact W.iret hx hb hr (fun t ht hW => ⟨⟨_, (), rfl, ea, by rw [ht]; exact hP9, va_K.moved hW.alike hK9, hD9⟩, hS.F ht⟩) hS.2.2 dX8_pass_147
  refine lv_aload_n hx hb dX8_pass_49 rfl (lv_at hl 2 rfl) ?_
  refine lv_dup hx hb dX8_pass_50 rfl ?_
  refine va_get (D := (dC, dI)) (ci := 7) (v := .int 25) (C := RX8) (T := TX8) (N := 4) hx hb hts iX8 hown hK hP 1 rfl rfl 2 (by decide) (hts _ kw_1354) (fun _ h9 => h9) rfl dX8_pass_51 ?_
  refine lv_iconst (v := 1) hx hb dX8_pass_54 (by decide) ?_
  refine lv_iadd hx hb dX8_pass_55 ?_
  refine lv_topi (fun x_81 e_x_81 => ?_)
  obtain rfl : x_81 = 26 := by rw [e_x_81]; decide
  refine va_put (D := (dC, dI)) (ci := 7) (v := .int 26) (ty := .int) (C := RX8) (T := TX8) (N := 4) hx hb hts iX8 tyX8 tyX8_ok nmX8 hown hK hP hD hS 1 rfl rfl 2 (by decide) (hts _ kw_1354) (fun _ h9 => h9) rfl (by decide +kernel) rfl rfl (Nat.le_of_ble_eq_true rfl) dX8_pass_56 (fun H locs hP hD hS => ?_)
  have hP : va_P (dC, dI) zc [(ac, .inr (0, [.int 0, .ref t, .int 0])), (h0, .inr (7, [.ref ac, cu, .int 26, .int 0]))] H := hP
  have hD : va_D A [(ac, .inr (0, [.int 0, .ref t, .int 0])), (h0, .inr (7, [.ref ac, cu, .int 26, .int 0]))] := hD
  refine lv_iconst (v := 0) hx hb dX8_pass_59 (by decide) ?_
  refine lv_istore_n (lv' := [(3, .int 0), (2, .int 25), (0, .ref h0), (1, .int a)]) hx hb dX8_pass_60 rfl hl (by decide) rfl (fun ls hl => ?_)
  refine lv_aload_n hx hb dX8_pass_61 rfl (lv_at hl 2 rfl) ?_
  refine va_get (D := (dC, dI)) (ci := 7) (v := .int 26) (C := RX8) (T := TX8) (N := 4) hx hb hts iX8 hown hK hP 1 rfl rfl 2 (by decide) (hts _ kw_1354) (fun _ h9 => h9) rfl dX8_pass_62 ?_
  refine lv_bipush (v := 30) hx hb dX8_pass_65 (by decide) ?_
  refine lv_irem hx hb dX8_pass_67 (by decide) ?_
  refine lv_topi (fun x_82 e_x_82 => ?_)
  obtain rfl : x_82 = 26 := by rw [e_x_82]; decide
  refine lv_if_ne (tgt := 137) hx hb dX8_pass_68 (by decide) (fun c_83 => ?_) (fun c_83 => absurd c_83 (by decide))
  refine lv_iinc (v := 26) (lv' := [(2, .int 26), (3, .int 0), (0, .ref h0), (1, .int a)]) hx hb dX8_pass_137 hl (k := 1) rfl (by decide) (by decide) rfl (fun ls hl => ?_)
  refine lv_goto (tgt := 44) hx hb dX8_pass_140 (by decide) ?_
  refine lv_iload_n hx hb dX8_pass_44 rfl (lv_at hl 0 rfl) ?_
  refine lv_iload_n hx hb dX8_pass_45 rfl (lv_at hl 3 rfl) ?_
  refine lv_icmp_ge (tgt := 143) hx hb dX8_pass_46 (by decide) (fun d26 => ?_) (fun d26 => ?_)
  · have ea : (26 : Int32) = a := zi_pin d25 d26
    refine lv_aload_n hx hb dX8_pass_143 rfl (lv_at hl 2 rfl) ?_
    refine va_get (D := (dC, dI)) (ci := 7) (v := .int 26) (C := RX8) (T := TX8) (N := 4) hx hb hts iX8 hown hK hP 1 rfl rfl 2 (by decide) (hts _ kw_1354) (fun _ h9 => h9) rfl dX8_pass_144 ?_
    have hP9 : va_P (dC, dI) zc [(h0, .inr (7, [.ref ac, cu, .int a, .int 0]))] H := by have := hP.sub (ws' := [(h0, .inr (7, [.ref ac, cu, .int 26, .int 0]))]) [1] rfl; rwa [ea] at this
    have hD9 : va_D A [(h0, .inr (7, [.ref ac, cu, .int a, .int 0]))] := by have := hD.sub (ws' := [(h0, .inr (7, [.ref ac, cu, .int 26, .int 0]))]) [1] (by decide) rfl; rwa [ea] at this
    have hK9 := hK.sub (tys' := []) [] rfl
    exact W.iret hx hb hr (fun t ht hW => ⟨⟨_, (), rfl, ea, by rw [ht]; exact hP9, va_K.moved hW.alike hK9, hD9⟩, hS.F ht⟩) hS.2.2 dX8_pass_147
  refine lv_aload_n hx hb dX8_pass_49 rfl (lv_at hl 2 rfl) ?_
  refine lv_dup hx hb dX8_pass_50 rfl ?_
  refine va_get (D := (dC, dI)) (ci := 7) (v := .int 26) (C := RX8) (T := TX8) (N := 4) hx hb hts iX8 hown hK hP 1 rfl rfl 2 (by decide) (hts _ kw_1354) (fun _ h9 => h9) rfl dX8_pass_51 ?_
  refine lv_iconst (v := 1) hx hb dX8_pass_54 (by decide) ?_
  refine lv_iadd hx hb dX8_pass_55 ?_
  refine lv_topi (fun x_84 e_x_84 => ?_)
  obtain rfl : x_84 = 27 := by rw [e_x_84]; decide
  refine va_put (D := (dC, dI)) (ci := 7) (v := .int 27) (ty := .int) (C := RX8) (T := TX8) (N := 4) hx hb hts iX8 tyX8 tyX8_ok nmX8 hown hK hP hD hS 1 rfl rfl 2 (by decide) (hts _ kw_1354) (fun _ h9 => h9) rfl (by decide +kernel) rfl rfl (Nat.le_of_ble_eq_true rfl) dX8_pass_56 (fun H locs hP hD hS => ?_)
  have hP : va_P (dC, dI) zc [(ac, .inr (0, [.int 0, .ref t, .int 0])), (h0, .inr (7, [.ref ac, cu, .int 27, .int 0]))] H := hP
  have hD : va_D A [(ac, .inr (0, [.int 0, .ref t, .int 0])), (h0, .inr (7, [.ref ac, cu, .int 27, .int 0]))] := hD
  refine lv_iconst (v := 0) hx hb dX8_pass_59 (by decide) ?_
  refine lv_istore_n (lv' := [(3, .int 0), (2, .int 26), (0, .ref h0), (1, .int a)]) hx hb dX8_pass_60 rfl hl (by decide) rfl (fun ls hl => ?_)
  refine lv_aload_n hx hb dX8_pass_61 rfl (lv_at hl 2 rfl) ?_
  refine va_get (D := (dC, dI)) (ci := 7) (v := .int 27) (C := RX8) (T := TX8) (N := 4) hx hb hts iX8 hown hK hP 1 rfl rfl 2 (by decide) (hts _ kw_1354) (fun _ h9 => h9) rfl dX8_pass_62 ?_
  refine lv_bipush (v := 30) hx hb dX8_pass_65 (by decide) ?_
  refine lv_irem hx hb dX8_pass_67 (by decide) ?_
  refine lv_topi (fun x_85 e_x_85 => ?_)
  obtain rfl : x_85 = 27 := by rw [e_x_85]; decide
  refine lv_if_ne (tgt := 137) hx hb dX8_pass_68 (by decide) (fun c_86 => ?_) (fun c_86 => absurd c_86 (by decide))
  refine lv_iinc (v := 27) (lv' := [(2, .int 27), (3, .int 0), (0, .ref h0), (1, .int a)]) hx hb dX8_pass_137 hl (k := 1) rfl (by decide) (by decide) rfl (fun ls hl => ?_)
  refine lv_goto (tgt := 44) hx hb dX8_pass_140 (by decide) ?_
  refine lv_iload_n hx hb dX8_pass_44 rfl (lv_at hl 0 rfl) ?_
  refine lv_iload_n hx hb dX8_pass_45 rfl (lv_at hl 3 rfl) ?_
  refine lv_icmp_ge (tgt := 143) hx hb dX8_pass_46 (by decide) (fun d27 => ?_) (fun d27 => ?_)
  · have ea : (27 : Int32) = a := zi_pin d26 d27
    refine lv_aload_n hx hb dX8_pass_143 rfl (lv_at hl 2 rfl) ?_
    refine va_get (D := (dC, dI)) (ci := 7) (v := .int 27) (C := RX8) (T := TX8) (N := 4) hx hb hts iX8 hown hK hP 1 rfl rfl 2 (by decide) (hts _ kw_1354) (fun _ h9 => h9) rfl dX8_pass_144 ?_
    have hP9 : va_P (dC, dI) zc [(h0, .inr (7, [.ref ac, cu, .int a, .int 0]))] H := by have := hP.sub (ws' := [(h0, .inr (7, [.ref ac, cu, .int 27, .int 0]))]) [1] rfl; rwa [ea] at this
    have hD9 : va_D A [(h0, .inr (7, [.ref ac, cu, .int a, .int 0]))] := by have := hD.sub (ws' := [(h0, .inr (7, [.ref ac, cu, .int 27, .int 0]))]) [1] (by decide) rfl; rwa [ea] at this
    have hK9 := hK.sub (tys' := []) [] rfl
    exact W.iret hx hb hr (fun t ht hW => ⟨⟨_, (), rfl, ea, by rw [ht]; exact hP9, va_K.moved hW.alike hK9, hD9⟩, hS.F ht⟩) hS.2.2 dX8_pass_147
  refine lv_aload_n hx hb dX8_pass_49 rfl (lv_at hl 2 rfl) ?_
  refine lv_dup hx hb dX8_pass_50 rfl ?_
  refine va_get (D := (dC, dI)) (ci := 7) (v := .int 27) (C := RX8) (T := TX8) (N := 4) hx hb hts iX8 hown hK hP 1 rfl rfl 2 (by decide) (hts _ kw_1354) (fun _ h9 => h9) rfl dX8_pass_51 ?_
  refine lv_iconst (v := 1) hx hb dX8_pass_54 (by decide) ?_
  refine lv_iadd hx hb dX8_pass_55 ?_
  refine lv_topi (fun x_87 e_x_87 => ?_)
  obtain rfl : x_87 = 28 := by rw [e_x_87]; decide
  refine va_put (D := (dC, dI)) (ci := 7) (v := .int 28) (ty := .int) (C := RX8) (T := TX8) (N := 4) hx hb hts iX8 tyX8 tyX8_ok nmX8 hown hK hP hD hS 1 rfl rfl 2 (by decide) (hts _ kw_1354) (fun _ h9 => h9) rfl (by decide +kernel) rfl rfl (Nat.le_of_ble_eq_true rfl) dX8_pass_56 (fun H locs hP hD hS => ?_)
  have hP : va_P (dC, dI) zc [(ac, .inr (0, [.int 0, .ref t, .int 0])), (h0, .inr (7, [.ref ac, cu, .int 28, .int 0]))] H := hP
  have hD : va_D A [(ac, .inr (0, [.int 0, .ref t, .int 0])), (h0, .inr (7, [.ref ac, cu, .int 28, .int 0]))] := hD
  refine lv_iconst (v := 0) hx hb dX8_pass_59 (by decide) ?_
  refine lv_istore_n (lv' := [(3, .int 0), (2, .int 27), (0, .ref h0), (1, .int a)]) hx hb dX8_pass_60 rfl hl (by decide) rfl (fun ls hl => ?_)
  refine lv_aload_n hx hb dX8_pass_61 rfl (lv_at hl 2 rfl) ?_
  refine va_get (D := (dC, dI)) (ci := 7) (v := .int 28) (C := RX8) (T := TX8) (N := 4) hx hb hts iX8 hown hK hP 1 rfl rfl 2 (by decide) (hts _ kw_1354) (fun _ h9 => h9) rfl dX8_pass_62 ?_
  refine lv_bipush (v := 30) hx hb dX8_pass_65 (by decide) ?_
  refine lv_irem hx hb dX8_pass_67 (by decide) ?_
  refine lv_topi (fun x_88 e_x_88 => ?_)
  obtain rfl : x_88 = 28 := by rw [e_x_88]; decide
  refine lv_if_ne (tgt := 137) hx hb dX8_pass_68 (by decide) (fun c_89 => ?_) (fun c_89 => absurd c_89 (by decide))
  refine lv_iinc (v := 28) (lv' := [(2, .int 28), (3, .int 0), (0, .ref h0), (1, .int a)]) hx hb dX8_pass_137 hl (k := 1) rfl (by decide) (by decide) rfl (fun ls hl => ?_)
  refine lv_goto (tgt := 44) hx hb dX8_pass_140 (by decide) ?_
  refine lv_iload_n hx hb dX8_pass_44 rfl (lv_at hl 0 rfl) ?_
  refine lv_iload_n hx hb dX8_pass_45 rfl (lv_at hl 3 rfl) ?_
  refine lv_icmp_ge (tgt := 143) hx hb dX8_pass_46 (by decide) (fun d28 => ?_) (fun d28 => ?_)
  · have ea : (28 : Int32) = a := zi_pin d27 d28
    refine lv_aload_n hx hb dX8_pass_143 rfl (lv_at hl 2 rfl) ?_
    refine va_get (D := (dC, dI)) (ci := 7) (v := .int 28) (C := RX8) (T := TX8) (N := 4) hx hb hts iX8 hown hK hP 1 rfl rfl 2 (by decide) (hts _ kw_1354) (fun _ h9 => h9) rfl dX8_pass_144 ?_
    have hP9 : va_P (dC, dI) zc [(h0, .inr (7, [.ref ac, cu, .int a, .int 0]))] H := by have := hP.sub (ws' := [(h0, .inr (7, [.ref ac, cu, .int 28, .int 0]))]) [1] rfl; rwa [ea] at this
    have hD9 : va_D A [(h0, .inr (7, [.ref ac, cu, .int a, .int 0]))] := by have := hD.sub (ws' := [(h0, .inr (7, [.ref ac, cu, .int 28, .int 0]))]) [1] (by decide) rfl; rwa [ea] at this
    have hK9 := hK.sub (tys' := []) [] rfl
    exact W.iret hx hb hr (fun t ht hW => ⟨⟨_, (), rfl, ea, by rw [ht]; exact hP9, va_K.moved hW.alike hK9, hD9⟩, hS.F ht⟩) hS.2.2 dX8_pass_147
  refine lv_aload_n hx hb dX8_pass_49 rfl (lv_at hl 2 rfl) ?_
  refine lv_dup hx hb dX8_pass_50 rfl ?_
  refine va_get (D := (dC, dI)) (ci := 7) (v := .int 28) (C := RX8) (T := TX8) (N := 4) hx hb hts iX8 hown hK hP 1 rfl rfl 2 (by decide) (hts _ kw_1354) (fun _ h9 => h9) rfl dX8_pass_51 ?_
  refine lv_iconst (v := 1) hx hb dX8_pass_54 (by decide) ?_
  refine lv_iadd hx hb dX8_pass_55 ?_
  refine lv_topi (fun x_90 e_x_90 => ?_)
  obtain rfl : x_90 = 29 := by rw [e_x_90]; decide
  refine va_put (D := (dC, dI)) (ci := 7) (v := .int 29) (ty := .int) (C := RX8) (T := TX8) (N := 4) hx hb hts iX8 tyX8 tyX8_ok nmX8 hown hK hP hD hS 1 rfl rfl 2 (by decide) (hts _ kw_1354) (fun _ h9 => h9) rfl (by decide +kernel) rfl rfl (Nat.le_of_ble_eq_true rfl) dX8_pass_56 (fun H locs hP hD hS => ?_)
  have hP : va_P (dC, dI) zc [(ac, .inr (0, [.int 0, .ref t, .int 0])), (h0, .inr (7, [.ref ac, cu, .int 29, .int 0]))] H := hP
  have hD : va_D A [(ac, .inr (0, [.int 0, .ref t, .int 0])), (h0, .inr (7, [.ref ac, cu, .int 29, .int 0]))] := hD
  refine lv_iconst (v := 0) hx hb dX8_pass_59 (by decide) ?_
  refine lv_istore_n (lv' := [(3, .int 0), (2, .int 28), (0, .ref h0), (1, .int a)]) hx hb dX8_pass_60 rfl hl (by decide) rfl (fun ls hl => ?_)
  refine lv_aload_n hx hb dX8_pass_61 rfl (lv_at hl 2 rfl) ?_
  refine va_get (D := (dC, dI)) (ci := 7) (v := .int 29) (C := RX8) (T := TX8) (N := 4) hx hb hts iX8 hown hK hP 1 rfl rfl 2 (by decide) (hts _ kw_1354) (fun _ h9 => h9) rfl dX8_pass_62 ?_
  refine lv_bipush (v := 30) hx hb dX8_pass_65 (by decide) ?_
  refine lv_irem hx hb dX8_pass_67 (by decide) ?_
  refine lv_topi (fun x_91 e_x_91 => ?_)
  obtain rfl : x_91 = 29 := by rw [e_x_91]; decide
  refine lv_if_ne (tgt := 137) hx hb dX8_pass_68 (by decide) (fun c_92 => ?_) (fun c_92 => absurd c_92 (by decide))
  refine lv_iinc (v := 29) (lv' := [(2, .int 29), (3, .int 0), (0, .ref h0), (1, .int a)]) hx hb dX8_pass_137 hl (k := 1) rfl (by decide) (by decide) rfl (fun ls hl => ?_)
  refine lv_goto (tgt := 44) hx hb dX8_pass_140 (by decide) ?_
  refine lv_iload_n hx hb dX8_pass_44 rfl (lv_at hl 0 rfl) ?_
  refine lv_iload_n hx hb dX8_pass_45 rfl (lv_at hl 3 rfl) ?_
  refine lv_icmp_ge (tgt := 143) hx hb dX8_pass_46 (by decide) (fun d29 => ?_) (fun d29 => ?_)
  · have ea : (29 : Int32) = a := zi_pin d28 d29
    refine lv_aload_n hx hb dX8_pass_143 rfl (lv_at hl 2 rfl) ?_
    refine va_get (D := (dC, dI)) (ci := 7) (v := .int 29) (C := RX8) (T := TX8) (N := 4) hx hb hts iX8 hown hK hP 1 rfl rfl 2 (by decide) (hts _ kw_1354) (fun _ h9 => h9) rfl dX8_pass_144 ?_
    have hP9 : va_P (dC, dI) zc [(h0, .inr (7, [.ref ac, cu, .int a, .int 0]))] H := by have := hP.sub (ws' := [(h0, .inr (7, [.ref ac, cu, .int 29, .int 0]))]) [1] rfl; rwa [ea] at this
    have hD9 : va_D A [(h0, .inr (7, [.ref ac, cu, .int a, .int 0]))] := by have := hD.sub (ws' := [(h0, .inr (7, [.ref ac, cu, .int 29, .int 0]))]) [1] (by decide) rfl; rwa [ea] at this
    have hK9 := hK.sub (tys' := []) [] rfl
    exact W.iret hx hb hr (fun t ht hW => ⟨⟨_, (), rfl, ea, by rw [ht]; exact hP9, va_K.moved hW.alike hK9, hD9⟩, hS.F ht⟩) hS.2.2 dX8_pass_147
  refine lv_aload_n hx hb dX8_pass_49 rfl (lv_at hl 2 rfl) ?_
  refine lv_dup hx hb dX8_pass_50 rfl ?_
  refine va_get (D := (dC, dI)) (ci := 7) (v := .int 29) (C := RX8) (T := TX8) (N := 4) hx hb hts iX8 hown hK hP 1 rfl rfl 2 (by decide) (hts _ kw_1354) (fun _ h9 => h9) rfl dX8_pass_51 ?_
  refine lv_iconst (v := 1) hx hb dX8_pass_54 (by decide) ?_
  refine lv_iadd hx hb dX8_pass_55 ?_
  refine lv_topi (fun x_93 e_x_93 => ?_)
  obtain rfl : x_93 = 30 := by rw [e_x_93]; decide
  refine va_put (D := (dC, dI)) (ci := 7) (v := .int 30) (ty := .int) (C := RX8) (T := TX8) (N := 4) hx hb hts iX8 tyX8 tyX8_ok nmX8 hown hK hP hD hS 1 rfl rfl 2 (by decide) (hts _ kw_1354) (fun _ h9 => h9) rfl (by decide +kernel) rfl rfl (Nat.le_of_ble_eq_true rfl) dX8_pass_56 (fun H locs hP hD hS => ?_)
  have hP : va_P (dC, dI) zc [(ac, .inr (0, [.int 0, .ref t, .int 0])), (h0, .inr (7, [.ref ac, cu, .int 30, .int 0]))] H := hP
  have hD : va_D A [(ac, .inr (0, [.int 0, .ref t, .int 0])), (h0, .inr (7, [.ref ac, cu, .int 30, .int 0]))] := hD
  refine lv_iconst (v := 0) hx hb dX8_pass_59 (by decide) ?_
  refine lv_istore_n (lv' := [(3, .int 0), (2, .int 29), (0, .ref h0), (1, .int a)]) hx hb dX8_pass_60 rfl hl (by decide) rfl (fun ls hl => ?_)
  refine lv_aload_n hx hb dX8_pass_61 rfl (lv_at hl 2 rfl) ?_
  refine va_get (D := (dC, dI)) (ci := 7) (v := .int 30) (C := RX8) (T := TX8) (N := 4) hx hb hts iX8 hown hK hP 1 rfl rfl 2 (by decide) (hts _ kw_1354) (fun _ h9 => h9) rfl dX8_pass_62 ?_
  refine lv_bipush (v := 30) hx hb dX8_pass_65 (by decide) ?_
  refine lv_irem hx hb dX8_pass_67 (by decide) ?_
  refine lv_topi (fun x_94 e_x_94 => ?_)
  obtain rfl : x_94 = 0 := by rw [e_x_94]; decide
  refine lv_if_ne (tgt := 137) hx hb dX8_pass_68 (by decide) (fun c_95 => absurd c_95 (by decide)) (fun c_95 => ?_)
  refine lv_iload_n hx hb dX8_pass_71 rfl (lv_at hl 0 rfl) ?_
  refine lv_aload_n hx hb dX8_pass_72 rfl (lv_at hl 2 rfl) ?_
  refine va_get (D := (dC, dI)) (ci := 7) (v := .ref ac) (C := RX8) (T := TX8) (N := 4) hx hb hts iX8 hown hK hP 1 rfl rfl 0 (by decide) (hts _ kw_1352) (fun _ h9 => h9) rfl dX8_pass_73 ?_
  refine va_csFi (va_runF (As := []) (rest := [.int 0]) ((hK.1 0 _ rfl).2) ⟨hx, hb, hml, hown, hts⟩ (c_AL_size l dC dI H.size t ac 0 (.ref t) 0) (va_cwF 0 hts (zg_F kw_1382 kw_1386 kw_258 kw_67 kw_260) rfl rfl rfl (zT_fsize hQ.1) (by decide +kernel) ⟨Nat.le_of_ble_eq_true rfl, Nat.le_of_ble_eq_true rfl⟩) ⟨zA_blind, va_recv hK hP (ci := 0) (q0 := 0) rfl rfl, zA_pre hP hD hS hK hQ hA [0] rfl rfl (by decide) [] rfl⟩ rfl rfl hl.1 rfl (lv_room (Nat.le_of_ble_eq_true rfl)) dX8_pass_76 ⟨zl_b rfl, zl_b rfl⟩) (fun r hr => ?_)
  subst hr
  refine lv_icmp_ge (tgt := 137) hx hb dX8_pass_81 (by decide) (fun c_96 => ?_) (fun c_96 => absurd c_96 (by decide))
  refine lv_iinc (v := 30) (lv' := [(2, .int 30), (3, .int 0), (0, .ref h0), (1, .int a)]) hx hb dX8_pass_137 hl (k := 1) rfl (by decide) (by decide) rfl (fun ls hl => ?_)
  refine lv_goto (tgt := 44) hx hb dX8_pass_140 (by decide) ?_
  refine lv_iload_n hx hb dX8_pass_44 rfl (lv_at hl 0 rfl) ?_
  refine lv_iload_n hx hb dX8_pass_45 rfl (lv_at hl 3 rfl) ?_
  refine lv_icmp_ge (tgt := 143) hx hb dX8_pass_46 (by decide) (fun d30 => ?_) (fun d30 => ?_)
  · have ea : (30 : Int32) = a := zi_pin d29 d30
    refine lv_aload_n hx hb dX8_pass_143 rfl (lv_at hl 2 rfl) ?_
    refine va_get (D := (dC, dI)) (ci := 7) (v := .int 30) (C := RX8) (T := TX8) (N := 4) hx hb hts iX8 hown hK hP 1 rfl rfl 2 (by decide) (hts _ kw_1354) (fun _ h9 => h9) rfl dX8_pass_144 ?_
    have hP9 : va_P (dC, dI) zc [(h0, .inr (7, [.ref ac, cu, .int a, .int 0]))] H := by have := hP.sub (ws' := [(h0, .inr (7, [.ref ac, cu, .int 30, .int 0]))]) [1] rfl; rwa [ea] at this
    have hD9 : va_D A [(h0, .inr (7, [.ref ac, cu, .int a, .int 0]))] := by have := hD.sub (ws' := [(h0, .inr (7, [.ref ac, cu, .int 30, .int 0]))]) [1] (by decide) rfl; rwa [ea] at this
    have hK9 := hK.sub (tys' := []) [] rfl
    exact W.iret hx hb hr (fun t ht hW => ⟨⟨_, (), rfl, ea, by rw [ht]; exact hP9, va_K.moved hW.alike hK9, hD9⟩, hS.F ht⟩) hS.2.2 dX8_pass_147
  exact absurd (zi_le hv2) (zi_n30 d30)
set_option maxHeartbeats 4000000 in
set_option maxRecDepth 100000 in
/-- collected: no account -/
theorem c_collected (l : Launch) (dC : Nat → ClassId) (dI : Nat → Nat → Nat) (sz t : Nat) (h0 ac : Nat) (w0 b0 : Value) : Met l yX4_collected ws_X4_collected ({ frames := 2, cells := 0, slots := 0, locals := 32 }) (zA dC dI [(h0, .inr (5, [.ref ac, w0, b0, .int 0])), (ac, .inr (0, [.int 0, .ref t, .int 0]))] [] sz t [.ref h0]) (vp_Sl (fun r => r = 0)) 0 0 (fun _ => False) := by
  refine Met.ofW (cc := cX4_collected) (maxL := 4) (ret := (some .long)) (by decide) rfl ?_
  intro p e s m args below meth c s₁ B hml hv
  obtain ⟨rfl, hsz, hP, hK, hD0, hQ⟩ := hv
  have hx := B.exec
  have hb := B.bytes
  have hr := B.returns
  have hts : ∀ w ∈ zG, w.before _ s = true := fun w h => atoms_spec (ws := ws_X4_collected) B.pre w (List.mem_cons_of_mem _ h)
  have hown : s.vm.findClass RX4 = some m.cls := findClass_of_methodNamed B.named
  have hlocks := B.notSynchronized
  subst hsz
  have hD := hD0.self (sz := s.heap.size)
  generalize hAe : va_A [(h0, .inr (5, [.ref ac, w0, b0, .int 0])), (ac, .inr (0, [.int 0, .ref t, .int 0]))] s.heap.size = A at hD hQ
  have hA : ∀ q : Nat, s.heap.size ≤ q → A q := fun q h => by rw [← hAe]; exact Or.inr h
  have hS : va_S A s.heap s.heap [] := va_S.rf
  have hP : va_P (dC, dI) zc [(h0, .inr (5, [.ref ac, w0, b0, .int 0])), (ac, .inr (0, [.int 0, .ref t, .int 0]))] s.heap := hP
  have hl := lv_entry ([.ref h0]) (n := 4) (Nat.le_of_ble_eq_true rfl)
  rw [lg_entry_eq]
  generalize (lg_sl ([.ref h0]) ++ List.replicate (4 - (lg_sl ([.ref h0])).length) Slot.unset).toArray = ls at hl ⊢
  have hl : lv_has ls 4 [(0, .ref h0)] := hl
  refine lv_lconst (v := 0) hx hb dX4_collected_0 (by decide) ?_
  refine lv_lstore_n (lv' := [(1, .long 0), (0, .ref h0)]) hx hb dX4_collected_1 rfl hl (by decide) rfl (fun ls hl => ?_)
  refine lv_iconst (v := 0) hx hb dX4_collected_2 (by decide) ?_
  refine lv_istore_n (lv' := [(3, .int 0), (1, .long 0), (0, .ref h0)]) hx hb dX4_collected_3 rfl hl (by decide) rfl (fun ls hl => ?_)
  refine lv_iload_n hx hb dX4_collected_4 rfl (lv_at hl 0 rfl) ?_
  refine lv_aload_n hx hb dX4_collected_5 rfl (lv_at hl 2 rfl) ?_
  refine va_get (D := (dC, dI)) (ci := 5) (v := .ref ac) (C := RX4) (T := TX4) (N := 4) hx hb hts iX4 hown hK hP 0 rfl rfl 0 (by decide) (hts _ kw_240) (fun _ h9 => h9) rfl dX4_collected_6 ?_
  refine vp_callSi (W.runV (As := []) (rest := [.int 0]) ⟨hx, hb, hml, hown, hts⟩ (c_AL_size l dC dI s.heap.size t ac 0 (.ref t) 0) (cwV 0 hts (zg_V kw_257 kw_258 kw_259 kw_67 kw_260) rfl rfl rfl (by decide +kernel) ⟨Nat.le_of_ble_eq_true rfl, Nat.le_of_ble_eq_true rfl⟩) ⟨zA_blind, va_recv hK hP (ci := 0) (q0 := 1) rfl rfl, zA_pre hP hD hS hK hQ hA [1] rfl rfl (by decide) [] rfl⟩ rfl rfl hl.1 rfl (lv_room (Nat.le_of_ble_eq_true rfl)) dX4_collected_9 ⟨zl_b rfl, zl_b rfl⟩) (fun r hr => ?_)
  subst hr
  refine lv_icmp_ge (tgt := 40) hx hb dX4_collected_12 (by decide) (fun c_1 => ?_) (fun c_1 => absurd c_1 (by decide))
  refine lv_lload_n hx hb dX4_collected_40 rfl (lv_at hl 1 rfl) ?_
  exact W.lret hx hb hr (fun t ht hW => ⟨_, rfl, rfl, ht⟩) (fun q hq => absurd hq List.not_mem_nil) dX4_collected_41
set_option maxHeartbeats 4000000 in
set_option maxRecDepth 100000 in
/-- today: 0 -/
theorem c_today (l : Launch) (dC : Nat → ClassId) (dI : Nat → Nat → Nat) (sz t : Nat) (h0 ac : Nat) (w0 b0 : Value) : Met l yX4_today ws_X4_today ({ frames := 1, cells := 0, slots := 0, locals := 12 }) (zA dC dI [(h0, .inr (5, [.ref ac, w0, b0, .int 0])), (ac, .inr (0, [.int 0, .ref t, .int 0]))] [] sz t [.ref h0]) (vp_Si (fun r => r = 0)) 0 0 (fun _ => False) := by
  refine Met.ofW (cc := cX4_today) (maxL := 1) (ret := (some .int)) (by decide) rfl ?_
  intro p e s m args below meth c s₁ B hml hv
  obtain ⟨rfl, hsz, hP, hK, hD0, hQ⟩ := hv
  have hx := B.exec
  have hb := B.bytes
  have hr := B.returns
  have hts : ∀ w ∈ zG, w.before _ s = true := fun w h => atoms_spec (ws := ws_X4_today) B.pre w (List.mem_cons_of_mem _ h)
  have hown : s.vm.findClass RX4 = some m.cls := findClass_of_methodNamed B.named
  have hlocks := B.notSynchronized
  subst hsz
  have hD := hD0.self (sz := s.heap.size)
  generalize hAe : va_A [(h0, .inr (5, [.ref ac, w0, b0, .int 0])), (ac, .inr (0, [.int 0, .ref t, .int 0]))] s.heap.size = A at hD hQ
  have hA : ∀ q : Nat, s.heap.size ≤ q → A q := fun q h => by rw [← hAe]; exact Or.inr h
  have hS : va_S A s.heap s.heap [] := va_S.rf
  have hP : va_P (dC, dI) zc [(h0, .inr (5, [.ref ac, w0, b0, .int 0])), (ac, .inr (0, [.int 0, .ref t, .int 0]))] s.heap := hP
  have hl := lv_entry ([.ref h0]) (n := 1) (Nat.le_of_ble_eq_true rfl)
  rw [lg_entry_eq]
  generalize (lg_sl ([.ref h0]) ++ List.replicate (1 - (lg_sl ([.ref h0])).length) Slot.unset).toArray = ls at hl ⊢
  have hl : lv_has ls 1 [(0, .ref h0)] := hl
  refine lv_aload_n hx hb dX4_today_0 rfl (lv_at hl 0 rfl) ?_
  refine va_get (D := (dC, dI)) (ci := 5) (v := .int 0) (C := RX4) (T := TX4) (N := 4) hx hb hts iX4 hown hK hP 0 rfl rfl 3 (by decide) (hts _ kw_243) (fun _ h9 => h9) rfl dX4_today_1 ?_
  exact W.iret hx hb hr (fun t ht hW => ⟨_, rfl, rfl, ht⟩) (fun q hq => absurd hq List.not_mem_nil) dX4_today_4
set_option maxHeartbeats 4000000 in
set_option maxRecDepth 100000 in
/-- checksum: no account -/
theorem c_checksum (l : Launch) (dC : Nat → ClassId) (dI : Nat → Nat → Nat) (sz t : Nat) (h0 ac : Nat) (w0 b0 : Value) : Met l yX4_checksum ws_X4_checksum ({ frames := 2, cells := 0, slots := 0, locals := 32 }) (zA dC dI [(h0, .inr (5, [.ref ac, w0, b0, .int 0])), (ac, .inr (0, [.int 0, .ref t, .int 0]))] [] sz t [.ref h0]) (vp_Sl (fun r => r = 217)) 0 0 (fun _ => False) := by
  refine Met.ofW (cc := cX4_checksum) (maxL := 7) (ret := (some .long)) (by decide) rfl ?_
  intro p e s m args below meth c s₁ B hml hv
  obtain ⟨rfl, hsz, hP, hK, hD0, hQ⟩ := hv
  have hx := B.exec
  have hb := B.bytes
  have hr := B.returns
  have hts : ∀ w ∈ zG, w.before _ s = true := fun w h => atoms_spec (ws := ws_X4_checksum) B.pre w (List.mem_cons_of_mem _ h)
  have hown : s.vm.findClass RX4 = some m.cls := findClass_of_methodNamed B.named
  have hlocks := B.notSynchronized
  subst hsz
  have hD := hD0.self (sz := s.heap.size)
  generalize hAe : va_A [(h0, .inr (5, [.ref ac, w0, b0, .int 0])), (ac, .inr (0, [.int 0, .ref t, .int 0]))] s.heap.size = A at hD hQ
  have hA : ∀ q : Nat, s.heap.size ≤ q → A q := fun q h => by rw [← hAe]; exact Or.inr h
  have hS : va_S A s.heap s.heap [] := va_S.rf
  have hP : va_P (dC, dI) zc [(h0, .inr (5, [.ref ac, w0, b0, .int 0])), (ac, .inr (0, [.int 0, .ref t, .int 0]))] s.heap := hP
  have hl := lv_entry ([.ref h0]) (n := 7) (Nat.le_of_ble_eq_true rfl)
  rw [lg_entry_eq]
  generalize (lg_sl ([.ref h0]) ++ List.replicate (7 - (lg_sl ([.ref h0])).length) Slot.unset).toArray = ls at hl ⊢
  have hl : lv_has ls 7 [(0, .ref h0)] := hl
  refine lv_ldc2 hx hb hown (hts _ kw_292) dX4_checksum_0 ?_
  refine lv_lstore_n (lv' := [(1, .long 7), (0, .ref h0)]) hx hb dX4_checksum_3 rfl hl (by decide) rfl (fun ls hl => ?_)
  refine lv_iconst (v := 0) hx hb dX4_checksum_4 (by decide) ?_
  refine lv_istore_n (lv' := [(3, .int 0), (1, .long 7), (0, .ref h0)]) hx hb dX4_checksum_5 rfl hl (by decide) rfl (fun ls hl => ?_)
  refine lv_iload_n hx hb dX4_checksum_6 rfl (lv_at hl 0 rfl) ?_
  refine lv_aload_n hx hb dX4_checksum_7 rfl (lv_at hl 2 rfl) ?_
  refine va_get (D := (dC, dI)) (ci := 5) (v := .ref ac) (C := RX4) (T := TX4) (N := 4) hx hb hts iX4 hown hK hP 0 rfl rfl 0 (by decide) (hts _ kw_240) (fun _ h9 => h9) rfl dX4_checksum_8 ?_
  refine vp_callSi (W.runV (As := []) (rest := [.int 0]) ⟨hx, hb, hml, hown, hts⟩ (c_AL_size l dC dI s.heap.size t ac 0 (.ref t) 0) (cwV 0 hts (zg_V kw_257 kw_258 kw_259 kw_67 kw_260) rfl rfl rfl (by decide +kernel) ⟨Nat.le_of_ble_eq_true rfl, Nat.le_of_ble_eq_true rfl⟩) ⟨zA_blind, va_recv hK hP (ci := 0) (q0 := 1) rfl rfl, zA_pre hP hD hS hK hQ hA [1] rfl rfl (by decide) [] rfl⟩ rfl rfl hl.1 rfl (lv_room (Nat.le_of_ble_eq_true rfl)) dX4_checksum_11 ⟨zl_b rfl, zl_b rfl⟩) (fun r hr => ?_)
  subst hr
  refine lv_icmp_ge (tgt := 111) hx hb dX4_checksum_14 (by decide) (fun c_1 => ?_) (fun c_1 => absurd c_1 (by decide))
  refine lv_ldc2 hx hb hown (hts _ kw_400) dX4_checksum_111 ?_
  refine lv_lload_n hx hb dX4_checksum_114 rfl (lv_at hl 1 rfl) ?_
  refine lv_lmul hx hb dX4_checksum_115 ?_
  refine lv_aload_n hx hb dX4_checksum_116 rfl (lv_at hl 2 rfl) ?_
  refine va_get (D := (dC, dI)) (ci := 5) (v := .int 0) (C := RX4) (T := TX4) (N := 4) hx hb hts iX4 hown hK hP 0 rfl rfl 3 (by decide) (hts _ kw_243) (fun _ h9 => h9) rfl dX4_checksum_117 ?_
  refine lv_i2l (v := (0 : Int32).toInt64) hx hb dX4_checksum_120 rfl ?_
  refine lv_ladd hx hb dX4_checksum_121 ?_
  refine lv_topl (fun x_2 e_x_2 => ?_)
  obtain rfl : x_2 = 217 := by rw [e_x_2]; decide
  exact W.lret hx hb hr (fun t ht hW => ⟨_, rfl, rfl, ht⟩) (fun q hq => absurd hq List.not_mem_nil) dX4_checksum_122
set_option maxHeartbeats 4000000 in
set_option maxRecDepth 100000 in
/-- missedShare: none is due -/
theorem c_missedShare (l : Launch) (hst : l.stackTraces = false) (dC : Nat → ClassId) (dI : Nat → Nat → Nat) (sz t : Nat) (h0 ac : Nat) (w0 b0 : Value) : vx_Met l yX4_missedShare ws_X4_missedShare ({ frames := 6, cells := 1, slots := 6, locals := 99 }) (zA dC dI [(h0, .inr (5, [.ref ac, w0, b0, .int 0])), (ac, .inr (0, [.int 0, .ref t, .int 0]))] [] sz t [.ref h0]) (va_Qf (fun _ (_ : Unit) => False) (fun _ _ => True) (fun _ => False)) (vx_X (fun _ : Unit => True) (fun E _ _ => E = "java/lang/ArithmeticException") (fun q => sz ≤ q)) 1 6 (fun q => sz ≤ q) := by
  refine vx_ofW (cc := cX4_missedShare) (maxL := 5) (ret := (some .float)) (by decide) rfl ?_
  intro p e s m args below meth c s₁ B hml htab hv
  obtain ⟨rfl, hsz, hP, hK, hD0, hQ⟩ := hv
  have hx := B.exec
  have hb := B.bytes
  have hr := B.returns
  have hts : ∀ w ∈ zG, w.before _ s = true := fun w h => atoms_spec (ws := ws_X4_missedShare) B.pre w (List.mem_cons_of_mem _ h)
  have hown : s.vm.findClass RX4 = some m.cls := findClass_of_methodNamed B.named
  have hlocks := B.notSynchronized
  subst hsz
  have hD := hD0.self (sz := s.heap.size)
  generalize hAe : va_A [(h0, .inr (5, [.ref ac, w0, b0, .int 0])), (ac, .inr (0, [.int 0, .ref t, .int 0]))] s.heap.size = A at hD hQ
  have hA : ∀ q : Nat, s.heap.size ≤ q → A q := fun q h => by rw [← hAe]; exact Or.inr h
  have hS : va_S A s.heap s.heap [] := va_S.rf
  have hSn : va_S (fun q => s.heap.size ≤ q) s.heap s.heap [] := va_S.rf
  have hP : va_P (dC, dI) zc [(h0, .inr (5, [.ref ac, w0, b0, .int 0])), (ac, .inr (0, [.int 0, .ref t, .int 0]))] s.heap := hP
  have hl := lv_entry ([.ref h0]) (n := 5) (Nat.le_of_ble_eq_true rfl)
  rw [lg_entry_eq]
  generalize (lg_sl ([.ref h0]) ++ List.replicate (5 - (lg_sl ([.ref h0])).length) Slot.unset).toArray = ls at hl ⊢
  have hl : lv_has ls 5 [(0, .ref h0)] := hl
  refine lv_iconst (v := 0) hx hb dX4_missedShare_0 (by decide) ?_
  refine lv_istore_n (lv' := [(1, .int 0), (0, .ref h0)]) hx hb dX4_missedShare_1 rfl hl (by decide) rfl (fun ls hl => ?_)
  refine lv_iconst (v := 0) hx hb dX4_missedShare_2 (by decide) ?_
  refine lv_istore_n (lv' := [(2, .int 0), (1, .int 0), (0, .ref h0)]) hx hb dX4_missedShare_3 rfl hl (by decide) rfl (fun ls hl => ?_)
  refine lv_iconst (v := 0) hx hb dX4_missedShare_4 (by decide) ?_
  refine lv_istore_n (lv' := [(3, .int 0), (2, .int 0), (1, .int 0), (0, .ref h0)]) hx hb dX4_missedShare_5 rfl hl (by decide) rfl (fun ls hl => ?_)
  refine lv_iload_n hx hb dX4_missedShare_6 rfl (lv_at hl 0 rfl) ?_
  refine lv_aload_n hx hb dX4_missedShare_7 rfl (lv_at hl 3 rfl) ?_
  refine va_get (D := (dC, dI)) (ci := 5) (v := .ref ac) (C := RX4) (T := TX4) (N := 4) hx hb hts iX4 hown hK hP 0 rfl rfl 0 (by decide) (hts _ kw_240) (fun _ h9 => h9) rfl dX4_missedShare_8 ?_
  refine vp_callSi (W.runV (As := []) (rest := [.int 0]) ⟨hx, hb, hml, hown, hts⟩ (c_AL_size l dC dI s.heap.size t ac 0 (.ref t) 0) (cwV 0 hts (zg_V kw_257 kw_258 kw_259 kw_67 kw_260) rfl rfl rfl (by decide +kernel) ⟨Nat.le_of_ble_eq_true rfl, Nat.le_of_ble_eq_true rfl⟩) ⟨zA_blind, va_recv hK hP (ci := 0) (q0 := 1) rfl rfl, zA_pre hP hD hS hK hQ hA [1] rfl rfl (by decide) [] rfl⟩ rfl rfl hl.1 rfl (lv_room (Nat.le_of_ble_eq_true rfl)) dX4_missedShare_11 ⟨zl_b rfl, zl_b rfl⟩) (fun r hr => ?_)
  subst hr
  refine lv_icmp_ge (tgt := 56) hx hb dX4_missedShare_14 (by decide) (fun c_1 => ?_) (fun c_1 => absurd c_1 (by decide))
  refine lv_iload_n hx hb dX4_missedShare_56 rfl (lv_at hl 1 rfl) ?_
  refine lv_if_ne (tgt := 68) hx hb dX4_missedShare_57 (by decide) (fun c_2 => absurd c_2 (by decide)) (fun c_2 => ?_)
  exact vx_throw0 (own := RX4) (cls := "java/lang/ArithmeticException") (names := ["java/lang/RuntimeException", "java/lang/Exception"]) (A := fun q => s.heap.size ≤ q) hx hb hst hown (by decide +kernel) (by decide +kernel) (hts _ kw_1332) (hts _ kw_102) (zK_hat za_X4_221 hts (zT_kR hQ.1) hQ.1) (List.forall_mem_cons.mpr ⟨rfl, List.forall_mem_cons.mpr ⟨rfl, fun w h => (za_X4_221 w h).2⟩⟩) (vx_Zq.narrow hQ.2.1 hA) (vx_Zq.narrow hQ.2.2.1 hA) hSn (by rw [hml]; exact hl.1) dX4_missedShare_60 dX4_missedShare_63 dX4_missedShare_64 dX4_missedShare_67 (fun x hx => (htab x hx).elim) (zl_b rfl) (zl_b rfl) (zl_b rfl) (zl_b rfl) hlocks (fun t hvm hz hk => ⟨(), trivial, rfl, hz, fun q h _ => hk q h⟩) (fun q hq => absurd hq List.not_mem_nil) (zl_b rfl) (zl_b rfl)
set_option maxHeartbeats 4000000 in
set_option maxRecDepth 100000 in
/-- meanOwed: no account -/
theorem c_meanOwed (l : Launch) (hst : l.stackTraces = false) (dC : Nat → ClassId) (dI : Nat → Nat → Nat) (sz t : Nat) (h0 ac : Nat) (w0 b0 : Value) : vx_Met l yX4_meanOwed ws_X4_meanOwed ({ frames := 6, cells := 1, slots := 6, locals := 99 }) (zA dC dI [(h0, .inr (5, [.ref ac, w0, b0, .int 0])), (ac, .inr (0, [.int 0, .ref t, .int 0]))] [] sz t [.ref h0]) (va_Qd (fun _ (_ : Unit) => False) (fun _ _ => True) (fun _ => False)) (vx_X (fun _ : Unit => True) (fun E _ _ => E = "java/lang/ArithmeticException") (fun q => sz ≤ q)) 1 6 (fun q => sz ≤ q) := by
  refine vx_ofW (cc := cX4_meanOwed) (maxL := 5) (ret := (some .double)) (by decide) rfl ?_
  intro p e s m args below meth c s₁ B hml htab hv
  obtain ⟨rfl, hsz, hP, hK, hD0, hQ⟩ := hv
  have hx := B.exec
  have hb := B.bytes
  have hr := B.returns
  have hts : ∀ w ∈ zG, w.before _ s = true := fun w h => atoms_spec (ws := ws_X4_meanOwed) B.pre w (List.mem_cons_of_mem _ h)
  have hown : s.vm.findClass RX4 = some m.cls := findClass_of_methodNamed B.named
  have hlocks := B.notSynchronized
  subst hsz
  have hD := hD0.self (sz := s.heap.size)
  generalize hAe : va_A [(h0, .inr (5, [.ref ac, w0, b0, .int 0])), (ac, .inr (0, [.int 0, .ref t, .int 0]))] s.heap.size = A at hD hQ
  have hA : ∀ q : Nat, s.heap.size ≤ q → A q := fun q h => by rw [← hAe]; exact Or.inr h
  have hS : va_S A s.heap s.heap [] := va_S.rf
  have hSn : va_S (fun q => s.heap.size ≤ q) s.heap s.heap [] := va_S.rf
  have hP : va_P (dC, dI) zc [(h0, .inr (5, [.ref ac, w0, b0, .int 0])), (ac, .inr (0, [.int 0, .ref t, .int 0]))] s.heap := hP
  have hl := lv_entry ([.ref h0]) (n := 5) (Nat.le_of_ble_eq_true rfl)
  rw [lg_entry_eq]
  generalize (lg_sl ([.ref h0]) ++ List.replicate (5 - (lg_sl ([.ref h0])).length) Slot.unset).toArray = ls at hl ⊢
  have hl : lv_has ls 5 [(0, .ref h0)] := hl
  refine lv_aload_n hx hb dX4_meanOwed_0 rfl (lv_at hl 0 rfl) ?_
  refine va_get (D := (dC, dI)) (ci := 5) (v := .ref ac) (C := RX4) (T := TX4) (N := 4) hx hb hts iX4 hown hK hP 0 rfl rfl 0 (by decide) (hts _ kw_240) (fun _ h9 => h9) rfl dX4_meanOwed_1 ?_
  refine vp_callSi (W.runV (As := []) (rest := []) ⟨hx, hb, hml, hown, hts⟩ (c_AL_size l dC dI s.heap.size t ac 0 (.ref t) 0) (cwV 0 hts (zg_V kw_257 kw_258 kw_259 kw_67 kw_260) rfl rfl rfl (by decide +kernel) ⟨Nat.le_of_ble_eq_true rfl, Nat.le_of_ble_eq_true rfl⟩) ⟨zA_blind, va_recv hK hP (ci := 0) (q0 := 1) rfl rfl, zA_pre hP hD hS hK hQ hA [1] rfl rfl (by decide) [] rfl⟩ rfl rfl hl.1 rfl (lv_room (Nat.le_of_ble_eq_true rfl)) dX4_meanOwed_4 ⟨zl_b rfl, zl_b rfl⟩) (fun r hr => ?_)
  subst hr
  refine lv_istore_n (lv' := [(1, .int 0), (0, .ref h0)]) hx hb dX4_meanOwed_7 rfl hl (by decide) rfl (fun ls hl => ?_)
  refine lv_iload_n hx hb dX4_meanOwed_8 rfl (lv_at hl 0 rfl) ?_
  refine lv_if_ne (tgt := 20) hx hb dX4_meanOwed_9 (by decide) (fun c_1 => absurd c_1 (by decide)) (fun c_1 => ?_)
  exact vx_throw0 (own := RX4) (cls := "java/lang/ArithmeticException") (names := ["java/lang/RuntimeException", "java/lang/Exception"]) (A := fun q => s.heap.size ≤ q) hx hb hst hown (by decide +kernel) (by decide +kernel) (hts _ kw_1332) (hts _ kw_102) (zK_hat za_X4_221 hts (zT_kR hQ.1) hQ.1) (List.forall_mem_cons.mpr ⟨rfl, List.forall_mem_cons.mpr ⟨rfl, fun w h => (za_X4_221 w h).2⟩⟩) (vx_Zq.narrow hQ.2.1 hA) (vx_Zq.narrow hQ.2.2.1 hA) hSn (by rw [hml]; exact hl.1) dX4_meanOwed_12 dX4_meanOwed_15 dX4_meanOwed_16 dX4_meanOwed_19 (fun x hx => (htab x hx).elim) (zl_b rfl) (zl_b rfl) (zl_b rfl) (zl_b rfl) hlocks (fun t hvm hz hk => ⟨(), trivial, rfl, hz, fun q h _ => hk q h⟩) (fun q hq => absurd hq List.not_mem_nil) (zl_b rfl) (zl_b rfl)
set_option maxHeartbeats 4000000 in
set_option maxRecDepth 100000 in
/-- isSound: no account -/
theorem c_isSound (l : Launch) (dC : Nat → ClassId) (dI : Nat → Nat → Nat) (sz t : Nat) (h0 ac : Nat) (w0 b0 : Value) : Met l yX4_isSound ws_X4_isSound ({ frames := 2, cells := 0, slots := 0, locals := 32 }) (zA dC dI [(h0, .inr (5, [.ref ac, w0, b0, .int 0])), (ac, .inr (0, [.int 0, .ref t, .int 0]))] [] sz t [.ref h0]) (vp_Si (fun r => r = 1)) 0 0 (fun _ => False) := by
  refine Met.ofW (cc := cX4_isSound) (maxL := 4) (ret := (some .boolean)) (by decide) rfl ?_
  intro p e s m args below meth c s₁ B hml hv
  obtain ⟨rfl, hsz, hP, hK, hD0, hQ⟩ := hv
  have hx := B.exec
  have hb := B.bytes
  have hr := B.returns
  have hts : ∀ w ∈ zG, w.before _ s = true := fun w h => atoms_spec (ws := ws_X4_isSound) B.pre w (List.mem_cons_of_mem _ h)
  have hown : s.vm.findClass RX4 = some m.cls := findClass_of_methodNamed B.named
  have hlocks := B.notSynchronized
  subst hsz
  have hD := hD0.self (sz := s.heap.size)
  generalize hAe : va_A [(h0, .inr (5, [.ref ac, w0, b0, .int 0])), (ac, .inr (0, [.int 0, .ref t, .int 0]))] s.heap.size = A at hD hQ
  have hA : ∀ q : Nat, s.heap.size ≤ q → A q := fun q h => by rw [← hAe]; exact Or.inr h
  have hS : va_S A s.heap s.heap [] := va_S.rf
  have hP : va_P (dC, dI) zc [(h0, .inr (5, [.ref ac, w0, b0, .int 0])), (ac, .inr (0, [.int 0, .ref t, .int 0]))] s.heap := hP
  have hl := lv_entry ([.ref h0]) (n := 4) (Nat.le_of_ble_eq_true rfl)
  rw [lg_entry_eq]
  generalize (lg_sl ([.ref h0]) ++ List.replicate (4 - (lg_sl ([.ref h0])).length) Slot.unset).toArray = ls at hl ⊢
  have hl : lv_has ls 4 [(0, .ref h0)] := hl
  refine lv_iconst (v := 0) hx hb dX4_isSound_0 (by decide) ?_
  refine lv_istore_n (lv' := [(1, .int 0), (0, .ref h0)]) hx hb dX4_isSound_1 rfl hl (by decide) rfl (fun ls hl => ?_)
  refine lv_iload_n hx hb dX4_isSound_2 rfl (lv_at hl 0 rfl) ?_
  refine lv_aload_n hx hb dX4_isSound_3 rfl (lv_at hl 1 rfl) ?_
  refine va_get (D := (dC, dI)) (ci := 5) (v := .ref ac) (C := RX4) (T := TX4) (N := 4) hx hb hts iX4 hown hK hP 0 rfl rfl 0 (by decide) (hts _ kw_240) (fun _ h9 => h9) rfl dX4_isSound_4 ?_
  refine vp_callSi (W.runV (As := []) (rest := [.int 0]) ⟨hx, hb, hml, hown, hts⟩ (c_AL_size l dC dI s.heap.size t ac 0 (.ref t) 0) (cwV 0 hts (zg_V kw_257 kw_258 kw_259 kw_67 kw_260) rfl rfl rfl (by decide +kernel) ⟨Nat.le_of_ble_eq_true rfl, Nat.le_of_ble_eq_true rfl⟩) ⟨zA_blind, va_recv hK hP (ci := 0) (q0 := 1) rfl rfl, zA_pre hP hD hS hK hQ hA [1] rfl rfl (by decide) [] rfl⟩ rfl rfl hl.1 rfl (lv_room (Nat.le_of_ble_eq_true rfl)) dX4_isSound_7 ⟨zl_b rfl, zl_b rfl⟩) (fun r hr => ?_)
  subst hr
  refine lv_icmp_ge (tgt := 70) hx hb dX4_isSound_10 (by decide) (fun c_1 => ?_) (fun c_1 => absurd c_1 (by decide))
  refine lv_iconst (v := 1) hx hb dX4_isSound_70 (by decide) ?_
  exact W.zret (ty := .boolean) hx hb hr rfl (fun t ht hW => ⟨_, rfl, rfl, ht⟩) (fun q hq => absurd hq List.not_mem_nil) dX4_isSound_71
set_option maxHeartbeats 4000000 in
set_option maxRecDepth 100000 in
/-- Itr(list) -/
theorem c_it_init (l : Launch) (dC : Nat → ClassId) (dI : Nat → Nat → Nat) (sz t : Nat) (h0 ac : Nat) (ed : Value) : Met l yJx35411_init_45d68 ws_Jx35411_init_45d68 ({ frames := 1, cells := 0, slots := 0, locals := 12 }) (zA dC dI [(h0, .inr (1, [.int 0, .int 0, .int 0, .null])), (ac, .inr (0, [.int 0, ed, .int 0]))] [] sz t [.ref h0, .ref ac]) (va_Qv (fun _ : Unit => True) (fun _ t9 => zB dC dI (va_A [(h0, .inr (1, [.int 0, .int 0, .int 0, .null])), (ac, .inr (0, [.int 0, ed, .int 0]))] sz) [(h0, .inr (1, [.int 0, .int (-1), .int 0, .ref ac])), (ac, .inr (0, [.int 0, ed, .int 0]))] [] t9) (va_A [(h0, .inr (1, [.int 0, .int 0, .int 0, .null])), (ac, .inr (0, [.int 0, ed, .int 0]))] sz)) 0 0 (va_A [(h0, .inr (1, [.int 0, .int 0, .int 0, .null])), (ac, .inr (0, [.int 0, ed, .int 0]))] sz) := by
  refine Met.ofW (cc := cJx35411_init_45d68) (maxL := 2) (ret := none) (by decide) rfl ?_
  intro p e s m args below meth c s₁ B hml hv
  obtain ⟨rfl, hsz, hP, hK, hD0, hQ⟩ := hv
  have hx := B.exec
  have hb := B.bytes
  have hr := B.returns
  have hts : ∀ w ∈ zG, w.before _ s = true := fun w h => atoms_spec (ws := ws_Jx35411_init_45d68) B.pre w (List.mem_cons_of_mem _ h)
  have hown : s.vm.findClass RJx35411 = some m.cls := findClass_of_methodNamed B.named
  have hlocks := B.notSynchronized
  have hin : meth.name = "<init>" := (name_of_methodNamed B.named B.method).1
  subst hsz
  have hD := hD0.self (sz := s.heap.size)
  generalize hAe : va_A [(h0, .inr (1, [.int 0, .int 0, .int 0, .null])), (ac, .inr (0, [.int 0, ed, .int 0]))] s.heap.size = A at hD hQ ⊢
  have hA : ∀ q : Nat, s.heap.size ≤ q → A q := fun q h => by rw [← hAe]; exact Or.inr h
  have hS : va_S A s.heap s.heap [] := va_S.rf
  have hP : va_P (dC, dI) zc [(h0, .inr (1, [.int 0, .int 0, .int 0, .null])), (ac, .inr (0, [.int 0, ed, .int 0]))] s.heap := hP
  have hl := lv_entry ([.ref h0, .ref ac]) (n := 2) (Nat.le_of_ble_eq_true rfl)
  rw [lg_entry_eq]
  generalize (lg_sl ([.ref h0, .ref ac]) ++ List.replicate (2 - (lg_sl ([.ref h0, .ref ac])).length) Slot.unset).toArray = ls at hl ⊢
  have hl : lv_has ls 2 [(0, .ref h0), (1, .ref ac)] := hl
  refine lv_aload_n hx hb dJx35411_init_45d68_0 rfl (lv_at hl 0 rfl) ?_
  refine lv_aload_n hx hb dJx35411_init_45d68_1 rfl (lv_at hl 1 rfl) ?_
  refine va_putF (D := (dC, dI)) (ci := 1) (v := .ref ac) (ty := .object "java/util/ArrayList") (C := RJx35411) (T := TJx35411) (N := 4) hx hb hts iJx35411 tyJx35411 tyJx35411_ok nmJx35411 hown hK hP hD hS 0 rfl rfl 3 (by decide) (hts _ kw_1602) (fun _ h9 => h9) rfl hin rfl (by decide +kernel) rfl rfl (Nat.le_of_ble_eq_true rfl) dJx35411_init_45d68_2 (fun H locs hP hD hS => ?_)
  have hP : va_P (dC, dI) zc [(h0, .inr (1, [.int 0, .int 0, .int 0, .ref ac])), (ac, .inr (0, [.int 0, ed, .int 0]))] H := hP
  have hD : va_D A [(h0, .inr (1, [.int 0, .int 0, .int 0, .ref ac])), (ac, .inr (0, [.int 0, ed, .int 0]))] := hD
  refine lv_aload_n hx hb dJx35411_init_45d68_5 rfl (lv_at hl 0 rfl) ?_
  refine W.objInit hx hb hown (hts _ kw_1598) (hts _ kw_109) (hts _ kw_110) rfl (by rw [hml]; exact hl.1) rfl dJx35411_init_45d68_6 (Nat.le_of_ble_eq_true rfl) (Nat.le_of_ble_eq_true rfl) ?_
  refine W.eq (g2 := F0 m 9 ls []) rfl ?_
  refine lv_aload_n hx hb dJx35411_init_45d68_9 rfl (lv_at hl 0 rfl) ?_
  refine lv_iconst (v := (-1)) hx hb dJx35411_init_45d68_10 (by decide) ?_
  refine va_put (D := (dC, dI)) (ci := 1) (v := .int (-1)) (ty := .int) (C := RJx35411) (T := TJx35411) (N := 4) hx hb hts iJx35411 tyJx35411 tyJx35411_ok nmJx35411 hown hK hP hD hS 0 rfl rfl 1 (by decide) (hts _ kw_1600) (fun _ h9 => h9) rfl (by decide +kernel) rfl rfl (Nat.le_of_ble_eq_true rfl) dJx35411_init_45d68_11 (fun H locs hP hD hS => ?_)
  have hP : va_P (dC, dI) zc [(h0, .inr (1, [.int 0, .int (-1), .int 0, .ref ac])), (ac, .inr (0, [.int 0, ed, .int 0]))] H := hP
  have hD : va_D A [(h0, .inr (1, [.int 0, .int (-1), .int 0, .ref ac])), (ac, .inr (0, [.int 0, ed, .int 0]))] := hD
  refine lv_aload_n hx hb dJx35411_init_45d68_14 rfl (lv_at hl 0 rfl) ?_
  refine lv_aload_n hx hb dJx35411_init_45d68_15 rfl (lv_at hl 0 rfl) ?_
  refine va_get (D := (dC, dI)) (ci := 1) (v := .ref ac) (C := RJx35411) (T := TJx35411) (N := 4) hx hb hts iJx35411 hown hK hP 0 rfl rfl 3 (by decide) (hts _ kw_1602) (fun _ h9 => h9) rfl dJx35411_init_45d68_16 ?_
  refine va_get (D := (dC, dI)) (ci := 0) (v := .int 0) (C := RJx4a65c) (T := TJx4a65c) (N := 3) hx hb hts iJx4a65c hown hK hP 1 rfl rfl 0 (by decide) (hts _ kw_130) (fun x h9 => u_same (hts _ kw_131) x h9) rfl dJx35411_init_45d68_19 ?_
  refine va_put (D := (dC, dI)) (ci := 1) (v := .int 0) (ty := .int) (C := RJx35411) (T := TJx35411) (N := 4) hx hb hts iJx35411 tyJx35411 tyJx35411_ok nmJx35411 hown hK hP hD hS 0 rfl rfl 2 (by decide) (hts _ kw_1601) (fun _ h9 => h9) rfl (by decide +kernel) rfl rfl (Nat.le_of_ble_eq_true rfl) dJx35411_init_45d68_22 (fun H locs hP hD hS => ?_)
  have hP : va_P (dC, dI) zc [(h0, .inr (1, [.int 0, .int (-1), .int 0, .ref ac])), (ac, .inr (0, [.int 0, ed, .int 0]))] H := hP
  have hD : va_D A [(h0, .inr (1, [.int 0, .int (-1), .int 0, .ref ac])), (ac, .inr (0, [.int 0, ed, .int 0]))] := hD
  have hP9 := hP.sub (ws' := [(h0, .inr (1, [.int 0, .int (-1), .int 0, .ref ac])), (ac, .inr (0, [.int 0, ed, .int 0]))]) [0, 1] rfl
  have hD9 := hD.sub (ws' := [(h0, .inr (1, [.int 0, .int (-1), .int 0, .ref ac])), (ac, .inr (0, [.int 0, ed, .int 0]))]) [0, 1] (by decide) rfl
  have hK9 := hK.sub (tys' := []) [] rfl
  exact W.vret hx hb hr (fun t ht hW => ⟨⟨(), rfl, trivial, by rw [ht]; exact hP9, va_K.moved hW.alike hK9, hD9⟩, hS.F ht⟩) hS.2.2 dJx35411_init_45d68_25
set_option maxHeartbeats 4000000 in
set_option maxRecDepth 100000 in
/-- iterator() -/
theorem c_iter (l : Launch) (dC : Nat → ClassId) (dI : Nat → Nat → Nat) (sz t : Nat) (h0 : Nat) (ed : Value) : Met l yJx4a65c_iterator_32c93 ws_Jx4a65c_iterator_32c93 ({ frames := 2, cells := 1, slots := 4, locals := 33 }) (zA dC dI [(h0, .inr (0, [.int 0, ed, .int 0]))] [] sz t [.ref h0]) (va_Qr (fun _ : Unit => True) (fun _ ra t9 => zB dC dI (va_A [(h0, .inr (0, [.int 0, ed, .int 0]))] sz) [(ra, .inr (1, [.int 0, .int (-1), .int 0, .ref h0])), (h0, .inr (0, [.int 0, ed, .int 0]))] [] t9) (va_A [(h0, .inr (0, [.int 0, ed, .int 0]))] sz)) 1 4 (va_A [(h0, .inr (0, [.int 0, ed, .int 0]))] sz) := by
  refine Met.ofW (cc := cJx4a65c_iterator_32c93) (maxL := 1) (ret := (some (.object "java/util/Iterator"))) (by decide) rfl ?_
  intro p e s m args below meth c s₁ B hml hv
  obtain ⟨rfl, hsz, hP, hK, hD0, hQ⟩ := hv
  have hx := B.exec
  have hb := B.bytes
  have hr := B.returns
  have hts : ∀ w ∈ zG, w.before _ s = true := fun w h => atoms_spec (ws := ws_Jx4a65c_iterator_32c93) B.pre w (List.mem_cons_of_mem _ h)
  have hown : s.vm.findClass RJx4a65c = some m.cls := findClass_of_methodNamed B.named
  have hlocks := B.notSynchronized
  subst hsz
  have hD := hD0.self (sz := s.heap.size)
  generalize hAe : va_A [(h0, .inr (0, [.int 0, ed, .int 0]))] s.heap.size = A at hD hQ ⊢
  have hA : ∀ q : Nat, s.heap.size ≤ q → A q := fun q h => by rw [← hAe]; exact Or.inr h
  have hS : va_S A s.heap s.heap [] := va_S.rf
  have hP : va_P (dC, dI) zc [(h0, .inr (0, [.int 0, ed, .int 0]))] s.heap := hP
  have hl := lv_entry ([.ref h0]) (n := 1) (Nat.le_of_ble_eq_true rfl)
  rw [lg_entry_eq]
  generalize (lg_sl ([.ref h0]) ++ List.replicate (1 - (lg_sl ([.ref h0])).length) Slot.unset).toArray = ls at hl ⊢
  have hl : lv_has ls 1 [(0, .ref h0)] := hl
  refine va_new (ci := 1) (fs := [.int 0, .int 0, .int 0, .null]) (C := RJx35411) (T := TJx35411) (N := 4) hx hb hts iJx35411 tyJx35411 tyJx35411_ok hown (hts _ kw_1593) (hts _ kw_1594) (hts _ kw_98) hK hP hD hS hA rfl z_dfJx35411 (zl_b rfl) (zl_b rfl) dJx4a65c_iterator_32c93_0 (fun q_1 H hP hD hS => ?_)
  have hP : va_P (dC, dI) zc [(h0, .inr (0, [.int 0, ed, .int 0])), (q_1, .inr (1, [.int 0, .int 0, .int 0, .null]))] H := hP
  have hD : va_D A [(h0, .inr (0, [.int 0, ed, .int 0])), (q_1, .inr (1, [.int 0, .int 0, .int 0, .null]))] := hD
  refine W.widen (k := 1) (n := 4) (zl_b rfl) (zl_b rfl) ?_
  refine lv_dup hx hb dJx4a65c_iterator_32c93_3 rfl ?_
  refine lv_aload_n hx hb dJx4a65c_iterator_32c93_4 rfl (lv_at hl 0 rfl) ?_
  have hFc := va_free (wc := [(q_1, .inr (1, [.int 0, .int 0, .int 0, .null])), (h0, .inr (0, [.int 0, ed, .int 0]))]) hD hS hA [1, 0] rfl
  refine va_callv (va_runI (As := [.ref h0]) (rest := [.ref q_1]) ⟨hx, hb, hml, hown, hts⟩ (c_it_init l dC dI H.size t q_1 h0 ed) (cwI 1 hts (zg_c kw_1597) rfl rfl rfl (hts _ kw_98) (hts _ kw_1595) (hts _ kw_1596) rfl (by decide +kernel) ⟨Nat.le_of_ble_eq_true rfl, Nat.le_of_ble_eq_true rfl⟩) ⟨zA_blind, zA_pre hP hD hS hK hQ hA [1, 0] rfl rfl (by decide) [] rfl⟩ rfl rfl hl.1 rfl (lv_room (Nat.le_of_ble_eq_true rfl)) dJx4a65c_iterator_32c93_5 ⟨zl_b rfl, zl_b rfl⟩) hS (fun q _ h => hFc q h) hFc (fun u t9 H1 locs ht hvm hw hB hz1 hk1 hS => ?_)
  obtain ⟨hP1, hK1, hD1⟩ := hB
  rw [ht] at hP1
  have hK1 := va_K.moved hvm.symm hK1
  obtain ⟨hP, hD⟩ := va_join (wr := []) (w1 := [(q_1, .inr (1, [.int 0, .int (-1), .int 0, .ref h0])), (h0, .inr (0, [.int 0, ed, .int 0]))]) hP hD [1, 0] [] rfl rfl (by decide) (by decide) hk1 hFc hP1 hD1
  have hK := (hK.sub (tys' := []) [] rfl).app hK1
  generalize H1 = H at hP hS ⊢
  have hP : va_P (dC, dI) zc [(q_1, .inr (1, [.int 0, .int (-1), .int 0, .ref h0])), (h0, .inr (0, [.int 0, ed, .int 0]))] H := hP
  have hD : va_D A [(q_1, .inr (1, [.int 0, .int (-1), .int 0, .ref h0])), (h0, .inr (0, [.int 0, ed, .int 0]))] := hD
  have hK : va_K (dC, dI) zc [] s := hK
  have hP9 := hP.sub (ws' := [(q_1, .inr (1, [.int 0, .int (-1), .int 0, .ref h0])), (h0, .inr (0, [.int 0, ed, .int 0]))]) [0, 1] rfl
  have hD9 := hD.sub (ws' := [(q_1, .inr (1, [.int 0, .int (-1), .int 0, .ref h0])), (h0, .inr (0, [.int 0, ed, .int 0]))]) [0, 1] (by decide) rfl
  have hK9 := hK.sub (tys' := []) [] rfl
  exact W.aret (v := .ref q_1) hx hb hr (by first | exact Or.inl ⟨_, rfl⟩ | exact Or.inr ⟨_, rfl⟩) (Or.inr ⟨_, rfl⟩) (fun t ht hW => ⟨⟨(), _, rfl, trivial, by rw [ht]; exact hP9, va_K.moved hW.alike hK9, hD9⟩, hS.F ht⟩) hS.2.2 dJx4a65c_iterator_32c93_8
set_option maxHeartbeats 4000000 in
set_option maxRecDepth 100000 in
/-- hasNext: no -/
theorem c_hasNext (l : Launch) (dC : Nat → ClassId) (dI : Nat → Nat → Nat) (sz t : Nat) (h0 ac : Nat) (ed : Value) : Met l yJx35411_hasNext_aae02 ws_Jx35411_hasNext_aae02 ({ frames := 1, cells := 0, slots := 0, locals := 12 }) (zA dC dI [(h0, .inr (1, [.int 0, .int (-1), .int 0, .ref ac])), (ac, .inr (0, [.int 0, ed, .int 0]))] [] sz t [.ref h0]) (vp_Si (fun r => r = 0)) 0 0 (fun _ => False) := by
  refine Met.ofW (cc := cJx35411_hasNext_aae02) (maxL := 1) (ret := (some .boolean)) (by decide) rfl ?_
  intro p e s m args below meth c s₁ B hml hv
  obtain ⟨rfl, hsz, hP, hK, hD0, hQ⟩ := hv
  have hx := B.exec
  have hb := B.bytes
  have hr := B.returns
  have hts : ∀ w ∈ zG, w.before _ s = true := fun w h => atoms_spec (ws := ws_Jx35411_hasNext_aae02) B.pre w (List.mem_cons_of_mem _ h)
  have hown : s.vm.findClass RJx35411 = some m.cls := findClass_of_methodNamed B.named
  have hlocks := B.notSynchronized
  subst hsz
  have hD := hD0.self (sz := s.heap.size)
  generalize hAe : va_A [(h0, .inr (1, [.int 0, .int (-1), .int 0, .ref ac])), (ac, .inr (0, [.int 0, ed, .int 0]))] s.heap.size = A at hD hQ
  have hA : ∀ q : Nat, s.heap.size ≤ q → A q := fun q h => by rw [← hAe]; exact Or.inr h
  have hS : va_S A s.heap s.heap [] := va_S.rf
  have hP : va_P (dC, dI) zc [(h0, .inr (1, [.int 0, .int (-1), .int 0, .ref ac])), (ac, .inr (0, [.int 0, ed, .int 0]))] s.heap := hP
  have hl := lv_entry ([.ref h0]) (n := 1) (Nat.le_of_ble_eq_true rfl)
  rw [lg_entry_eq]
  generalize (lg_sl ([.ref h0]) ++ List.replicate (1 - (lg_sl ([.ref h0])).length) Slot.unset).toArray = ls at hl ⊢
  have hl : lv_has ls 1 [(0, .ref h0)] := hl
  refine lv_aload_n hx hb dJx35411_hasNext_aae02_0 rfl (lv_at hl 0 rfl) ?_
  refine va_get (D := (dC, dI)) (ci := 1) (v := .int 0) (C := RJx35411) (T := TJx35411) (N := 4) hx hb hts iJx35411 hown hK hP 0 rfl rfl 0 (by decide) (hts _ kw_1599) (fun _ h9 => h9) rfl dJx35411_hasNext_aae02_1 ?_
  refine lv_aload_n hx hb dJx35411_hasNext_aae02_4 rfl (lv_at hl 0 rfl) ?_
  refine va_get (D := (dC, dI)) (ci := 1) (v := .ref ac) (C := RJx35411) (T := TJx35411) (N := 4) hx hb hts iJx35411 hown hK hP 0 rfl rfl 3 (by decide) (hts _ kw_1602) (fun _ h9 => h9) rfl dJx35411_hasNext_aae02_5 ?_
  refine va_getN (D := (dC, dI)) (ci := 0) (v := .int 0) (C := RJx4a65c) (T := TJx4a65c) (N := 3) hx hb hts iJx4a65c hown hK hP 1 rfl rfl 2 (by decide) (va_Nw.use rfl (zT_fn28 hQ.1)) (fun _ h9 => h9) rfl dJx35411_hasNext_aae02_8 ?_
  refine lv_icmp_eq (tgt := 18) hx hb dJx35411_hasNext_aae02_11 (by decide) (fun c_1 => ?_) (fun c_1 => absurd c_1 (by decide))
  refine lv_iconst (v := 0) hx hb dJx35411_hasNext_aae02_18 (by decide) ?_
  exact W.zret (ty := .boolean) hx hb hr rfl (fun t ht hW => ⟨_, rfl, rfl, ht⟩) (fun q hq => absurd hq List.not_mem_nil) dJx35411_hasNext_aae02_19
set_option maxHeartbeats 4000000 in
set_option maxRecDepth 100000 in
/-- isEmpty: yes -/
theorem c_isEmpty (l : Launch) (dC : Nat → ClassId) (dI : Nat → Nat → Nat) (sz t : Nat) (h0 : Nat) (ed : Value) : Met l yJx4a65c_isEmpty_aae02 ws_Jx4a65c_isEmpty_aae02 ({ frames := 1, cells := 0, slots := 0, locals := 12 }) (zA dC dI [(h0, .inr (0, [.int 0, ed, .int 0]))] [] sz t [.ref h0]) (vp_Si (fun r => r = 1)) 0 0 (fun _ => False) := by
  refine Met.ofW (cc := cJx4a65c_isEmpty_aae02) (maxL := 1) (ret := (some .boolean)) (by decide) rfl ?_
  intro p e s m args below meth c s₁ B hml hv
  obtain ⟨rfl, hsz, hP, hK, hD0, hQ⟩ := hv
  have hx := B.exec
  have hb := B.bytes
  have hr := B.returns
  have hts : ∀ w ∈ zG, w.before _ s = true := fun w h => atoms_spec (ws := ws_Jx4a65c_isEmpty_aae02) B.pre w (List.mem_cons_of_mem _ h)
  have hown : s.vm.findClass RJx4a65c = some m.cls := findClass_of_methodNamed B.named
  have hlocks := B.notSynchronized
  subst hsz
  have hD := hD0.self (sz := s.heap.size)
  generalize hAe : va_A [(h0, .inr (0, [.int 0, ed, .int 0]))] s.heap.size = A at hD hQ
  have hA : ∀ q : Nat, s.heap.size ≤ q → A q := fun q h => by rw [← hAe]; exact Or.inr h
  have hS : va_S A s.heap s.heap [] := va_S.rf
  have hP : va_P (dC, dI) zc [(h0, .inr (0, [.int 0, ed, .int 0]))] s.heap := hP
  have hl := lv_entry ([.ref h0]) (n := 1) (Nat.le_of_ble_eq_true rfl)
  rw [lg_entry_eq]
  generalize (lg_sl ([.ref h0]) ++ List.replicate (1 - (lg_sl ([.ref h0])).length) Slot.unset).toArray = ls at hl ⊢
  have hl : lv_has ls 1 [(0, .ref h0)] := hl
  refine lv_aload_n hx hb dJx4a65c_isEmpty_aae02_0 rfl (lv_at hl 0 rfl) ?_
  refine va_get (D := (dC, dI)) (ci := 0) (v := .int 0) (C := RJx4a65c) (T := TJx4a65c) (N := 3) hx hb hts iJx4a65c hown hK hP 0 rfl rfl 2 (by decide) (hts _ kw_128) (fun _ h9 => h9) rfl dJx4a65c_isEmpty_aae02_1 ?_
  refine lv_if_ne (tgt := 11) hx hb dJx4a65c_isEmpty_aae02_4 (by decide) (fun c_1 => absurd c_1 (by decide)) (fun c_1 => ?_)
  refine lv_iconst (v := 1) hx hb dJx4a65c_isEmpty_aae02_7 (by decide) ?_
  refine lv_goto (tgt := 12) hx hb dJx4a65c_isEmpty_aae02_8 (by decide) ?_
  exact W.zret (ty := .boolean) hx hb hr rfl (fun t ht hW => ⟨_, rfl, rfl, ht⟩) (fun q hq => absurd hq List.not_mem_nil) dJx4a65c_isEmpty_aae02_12
set_option maxHeartbeats 4000000 in
set_option maxRecDepth 100000 in
/-- collected of the model: no account -/
theorem m_collected (l : Launch) (dC : Nat → ClassId) (dI : Nat → Nat → Nat) (sz t : Nat) (h0 ac : Nat) (cu : Value) : Met l yX8_collected ws_X8_collected ({ frames := 3, cells := 1, slots := 4, locals := 53 }) (zA dC dI [(h0, .inr (7, [.ref ac, cu, .int 0, .int 0])), (ac, .inr (0, [.int 0, .ref t, .int 0]))] [] sz t [.ref h0]) (va_Ql (fun r (_ : Unit) => r = 0) (fun _ t9 => zB dC dI (va_A [(h0, .inr (7, [.ref ac, cu, .int 0, .int 0])), (ac, .inr (0, [.int 0, .ref t, .int 0]))] sz) [] [] t9) (va_A [(h0, .inr (7, [.ref ac, cu, .int 0, .int 0])), (ac, .inr (0, [.int 0, .ref t, .int 0]))] sz)) 1 4 (va_A [(h0, .inr (7, [.ref ac, cu, .int 0, .int 0])), (ac, .inr (0, [.int 0, .ref t, .int 0]))] sz) := by
  refine Met.ofW (cc := cX8_collected) (maxL := 7) (ret := (some .long)) (by decide) rfl ?_
  intro p e s m args below meth c s₁ B hml hv
  obtain ⟨rfl, hsz, hP, hK, hD0, hQ⟩ := hv
  have hx := B.exec
  have hb := B.bytes
  have hr := B.returns
  have hts : ∀ w ∈ zG, w.before _ s = true := fun w h => atoms_spec (ws := ws_X8_collected) B.pre w (List.mem_cons_of_mem _ h)
  have hown : s.vm.findClass RX8 = some m.cls := findClass_of_methodNamed B.named
  have hlocks := B.notSynchronized
  subst hsz
  have hD := hD0.self (sz := s.heap.size)
  generalize hAe : va_A [(h0, .inr (7, [.ref ac, cu, .int 0, .int 0])), (ac, .inr (0, [.int 0, .ref t, .int 0]))] s.heap.size = A at hD hQ ⊢
  have hA : ∀ q : Nat, s.heap.size ≤ q → A q := fun q h => by rw [← hAe]; exact Or.inr h
  have hS : va_S A s.heap s.heap [] := va_S.rf
  have hP : va_P (dC, dI) zc [(h0, .inr (7, [.ref ac, cu, .int 0, .int 0])), (ac, .inr (0, [.int 0, .ref t, .int 0]))] s.heap := hP
  have hl := lv_entry ([.ref h0]) (n := 7) (Nat.le_of_ble_eq_true rfl)
  rw [lg_entry_eq]
  generalize (lg_sl ([.ref h0]) ++ List.replicate (7 - (lg_sl ([.ref h0])).length) Slot.unset).toArray = ls at hl ⊢
  have hl : lv_has ls 7 [(0, .ref h0)] := hl
  refine lv_lconst (v := 0) hx hb dX8_collected_0 (by decide) ?_
  refine lv_lstore_n (lv' := [(1, .long 0), (0, .ref h0)]) hx hb dX8_collected_1 rfl hl (by decide) rfl (fun ls hl => ?_)
  refine lv_aload_n hx hb dX8_collected_2 rfl (lv_at hl 1 rfl) ?_
  refine va_get (D := (dC, dI)) (ci := 7) (v := .ref ac) (C := RX8) (T := TX8) (N := 4) hx hb hts iX8 hown hK hP 0 rfl rfl 0 (by decide) (hts _ kw_1352) (fun _ h9 => h9) rfl dX8_collected_3 ?_
  have hFc := va_free (wc := [(ac, .inr (0, [.int 0, .ref t, .int 0]))]) hD hS hA [1] rfl
  refine va_callFr (va_runF (As := []) (rest := []) ((hK.1 0 _ rfl).2) ⟨hx, hb, hml, hown, hts⟩ (c_iter l dC dI s.heap.size t ac (.ref t)) (va_cwF 0 hts (zg_F kw_1815 kw_1588 kw_1590 kw_67 kw_1592) rfl rfl rfl (zT_fiterator hQ.1) (by decide +kernel) ⟨Nat.le_of_ble_eq_true rfl, Nat.le_of_ble_eq_true rfl⟩) ⟨zA_blind, va_recv hK hP (ci := 0) (q0 := 1) rfl rfl, zA_pre hP hD hS hK hQ hA [1] rfl rfl (by decide) [] rfl⟩ rfl rfl hl.1 rfl (lv_room (Nat.le_of_ble_eq_true rfl)) dX8_collected_6 ⟨zl_b rfl, zl_b rfl⟩) hS (fun q _ h => hFc q h) hFc (fun u ra t9 H1 locs ht hvm hw hB hz1 hk1 hS => ?_)
  obtain ⟨hP1, hK1, hD1⟩ := hB
  rw [ht] at hP1
  have hK1 := va_K.moved hvm.symm hK1
  obtain ⟨hP, hD⟩ := va_join (wr := [(h0, .inr (7, [.ref ac, cu, .int 0, .int 0]))]) (w1 := [(ra, .inr (1, [.int 0, .int (-1), .int 0, .ref ac])), (ac, .inr (0, [.int 0, .ref t, .int 0]))]) hP hD [1] [0] rfl rfl (by decide) (by decide) hk1 hFc hP1 hD1
  have hK := (hK.sub (tys' := []) [] rfl).app hK1
  generalize H1 = H at hP hS ⊢
  have hP : va_P (dC, dI) zc [(h0, .inr (7, [.ref ac, cu, .int 0, .int 0])), (ra, .inr (1, [.int 0, .int (-1), .int 0, .ref ac])), (ac, .inr (0, [.int 0, .ref t, .int 0]))] H := hP
  have hD : va_D A [(h0, .inr (7, [.ref ac, cu, .int 0, .int 0])), (ra, .inr (1, [.int 0, .int (-1), .int 0, .ref ac])), (ac, .inr (0, [.int 0, .ref t, .int 0]))] := hD
  have hK : va_K (dC, dI) zc [] s := hK
  refine W.widen (k := 1) (n := 4) (zl_b rfl) (zl_b rfl) ?_
  refine lv_astore_n (lv' := [(3, .ref ra), (1, .long 0), (0, .ref h0)]) hx hb dX8_collected_11 rfl hl (by decide) rfl (fun ls hl => ?_)
  refine lv_aload_n hx hb dX8_collected_12 rfl (lv_at hl 0 rfl) ?_
  refine va_csFi (va_runF (As := []) (rest := []) ((hK.1 1 _ rfl).2) ⟨hx, hb, hml, hown, hts⟩ (c_hasNext l dC dI H.size t ra ac (.ref t)) (va_cwF 0 hts (zg_F kw_1817 kw_1618 kw_1620 kw_98 kw_1622) rfl rfl rfl (zT_fhasNext hQ.1) (by decide +kernel) ⟨Nat.le_of_ble_eq_true rfl, Nat.le_of_ble_eq_true rfl⟩) ⟨zA_blind, va_recv hK hP (ci := 1) (q0 := 1) rfl rfl, zA_pre hP hD hS hK hQ hA [1, 2] rfl rfl (by decide) [] rfl⟩ rfl rfl hl.1 rfl (lv_room (Nat.le_of_ble_eq_true rfl)) dX8_collected_13 ⟨zl_b rfl, zl_b rfl⟩) (fun r hr => ?_)
  subst hr
  refine lv_if_eq (tgt := 103) hx hb dX8_collected_18 (by decide) (fun c_1 => ?_) (fun c_1 => absurd c_1 (by decide))
  refine lv_lload_n hx hb dX8_collected_103 rfl (lv_at hl 1 rfl) ?_
  have hP9 := hP.sub (ws' := []) [] rfl
  have hD9 := hD.sub (ws' := []) [] (by decide) rfl
  have hK9 := hK.sub (tys' := []) [] rfl
  exact W.lret hx hb hr (fun t ht hW => ⟨⟨_, (), rfl, rfl, by rw [ht]; exact hP9, va_K.moved hW.alike hK9, hD9⟩, hS.F ht⟩) hS.2.2 dX8_collected_104
set_option maxHeartbeats 4000000 in
set_option maxRecDepth 100000 in
/-- today of the model: 0 -/
theorem m_today (l : Launch) (dC : Nat → ClassId) (dI : Nat → Nat → Nat) (sz t : Nat) (h0 ac : Nat) (cu : Value) : Met l yX8_today ws_X8_today ({ frames := 1, cells := 0, slots := 0, locals := 12 }) (zA dC dI [(h0, .inr (7, [.ref ac, cu, .int 0, .int 0])), (ac, .inr (0, [.int 0, .ref t, .int 0]))] [] sz t [.ref h0]) (vp_Si (fun r => r = 0)) 0 0 (fun _ => False) := by
  refine Met.ofW (cc := cX8_today) (maxL := 1) (ret := (some .int)) (by decide) rfl ?_
  intro p e s m args below meth c s₁ B hml hv
  obtain ⟨rfl, hsz, hP, hK, hD0, hQ⟩ := hv
  have hx := B.exec
  have hb := B.bytes
  have hr := B.returns
  have hts : ∀ w ∈ zG, w.before _ s = true := fun w h => atoms_spec (ws := ws_X8_today) B.pre w (List.mem_cons_of_mem _ h)
  have hown : s.vm.findClass RX8 = some m.cls := findClass_of_methodNamed B.named
  have hlocks := B.notSynchronized
  subst hsz
  have hD := hD0.self (sz := s.heap.size)
  generalize hAe : va_A [(h0, .inr (7, [.ref ac, cu, .int 0, .int 0])), (ac, .inr (0, [.int 0, .ref t, .int 0]))] s.heap.size = A at hD hQ
  have hA : ∀ q : Nat, s.heap.size ≤ q → A q := fun q h => by rw [← hAe]; exact Or.inr h
  have hS : va_S A s.heap s.heap [] := va_S.rf
  have hP : va_P (dC, dI) zc [(h0, .inr (7, [.ref ac, cu, .int 0, .int 0])), (ac, .inr (0, [.int 0, .ref t, .int 0]))] s.heap := hP
  have hl := lv_entry ([.ref h0]) (n := 1) (Nat.le_of_ble_eq_true rfl)
  rw [lg_entry_eq]
  generalize (lg_sl ([.ref h0]) ++ List.replicate (1 - (lg_sl ([.ref h0])).length) Slot.unset).toArray = ls at hl ⊢
  have hl : lv_has ls 1 [(0, .ref h0)] := hl
  refine lv_aload_n hx hb dX8_today_0 rfl (lv_at hl 0 rfl) ?_
  refine va_get (D := (dC, dI)) (ci := 7) (v := .int 0) (C := RX8) (T := TX8) (N := 4) hx hb hts iX8 hown hK hP 0 rfl rfl 2 (by decide) (hts _ kw_1354) (fun _ h9 => h9) rfl dX8_today_1 ?_
  exact W.iret hx hb hr (fun t ht hW => ⟨_, rfl, rfl, ht⟩) (fun q hq => absurd hq List.not_mem_nil) dX8_today_4
set_option maxHeartbeats 4000000 in
set_option maxRecDepth 100000 in
/-- checksum of the model: no account -/
theorem m_checksum (l : Launch) (dC : Nat → ClassId) (dI : Nat → Nat → Nat) (sz t : Nat) (h0 ac : Nat) (cu : Value) : Met l yX8_checksum ws_X8_checksum ({ frames := 2, cells := 0, slots := 0, locals := 32 }) (zA dC dI [(h0, .inr (7, [.ref ac, cu, .int 0, .int 0])), (ac, .inr (0, [.int 0, .ref t, .int 0]))] [] sz t [.ref h0]) (vp_Sl (fun r => r = 217)) 0 0 (fun _ => False) := by
  refine Met.ofW (cc := cX8_checksum) (maxL := 10) (ret := (some .long)) (by decide) rfl ?_
  intro p e s m args below meth c s₁ B hml hv
  obtain ⟨rfl, hsz, hP, hK, hD0, hQ⟩ := hv
  have hx := B.exec
  have hb := B.bytes
  have hr := B.returns
  have hts : ∀ w ∈ zG, w.before _ s = true := fun w h => atoms_spec (ws := ws_X8_checksum) B.pre w (List.mem_cons_of_mem _ h)
  have hown : s.vm.findClass RX8 = some m.cls := findClass_of_methodNamed B.named
  have hlocks := B.notSynchronized
  subst hsz
  have hD := hD0.self (sz := s.heap.size)
  generalize hAe : va_A [(h0, .inr (7, [.ref ac, cu, .int 0, .int 0])), (ac, .inr (0, [.int 0, .ref t, .int 0]))] s.heap.size = A at hD hQ
  have hA : ∀ q : Nat, s.heap.size ≤ q → A q := fun q h => by rw [← hAe]; exact Or.inr h
  have hS : va_S A s.heap s.heap [] := va_S.rf
  have hP : va_P (dC, dI) zc [(h0, .inr (7, [.ref ac, cu, .int 0, .int 0])), (ac, .inr (0, [.int 0, .ref t, .int 0]))] s.heap := hP
  have hl := lv_entry ([.ref h0]) (n := 10) (Nat.le_of_ble_eq_true rfl)
  rw [lg_entry_eq]
  generalize (lg_sl ([.ref h0]) ++ List.replicate (10 - (lg_sl ([.ref h0])).length) Slot.unset).toArray = ls at hl ⊢
  have hl : lv_has ls 10 [(0, .ref h0)] := hl
  refine lv_ldc2 hx hb hown (hts _ kw_1997) dX8_checksum_0 ?_
  refine lv_lstore_n (lv' := [(1, .long 7), (0, .ref h0)]) hx hb dX8_checksum_3 rfl hl (by decide) rfl (fun ls hl => ?_)
  refine lv_iconst (v := 0) hx hb dX8_checksum_4 (by decide) ?_
  refine lv_istore_n (lv' := [(3, .int 0), (1, .long 7), (0, .ref h0)]) hx hb dX8_checksum_5 rfl hl (by decide) rfl (fun ls hl => ?_)
  refine lv_iload_n hx hb dX8_checksum_6 rfl (lv_at hl 0 rfl) ?_
  refine lv_aload_n hx hb dX8_checksum_7 rfl (lv_at hl 2 rfl) ?_
  refine va_get (D := (dC, dI)) (ci := 7) (v := .ref ac) (C := RX8) (T := TX8) (N := 4) hx hb hts iX8 hown hK hP 0 rfl rfl 0 (by decide) (hts _ kw_1352) (fun _ h9 => h9) rfl dX8_checksum_8 ?_
  refine va_csFi (va_runF (As := []) (rest := [.int 0]) ((hK.1 0 _ rfl).2) ⟨hx, hb, hml, hown, hts⟩ (c_AL_size l dC dI s.heap.size t ac 0 (.ref t) 0) (va_cwF 0 hts (zg_F kw_1382 kw_1386 kw_258 kw_67 kw_260) rfl rfl rfl (zT_fsize hQ.1) (by decide +kernel) ⟨Nat.le_of_ble_eq_true rfl, Nat.le_of_ble_eq_true rfl⟩) ⟨zA_blind, va_recv hK hP (ci := 0) (q0 := 1) rfl rfl, zA_pre hP hD hS hK hQ hA [1] rfl rfl (by decide) [] rfl⟩ rfl rfl hl.1 rfl (lv_room (Nat.le_of_ble_eq_true rfl)) dX8_checksum_11 ⟨zl_b rfl, zl_b rfl⟩) (fun r hr => ?_)
  subst hr
  refine lv_icmp_ge (tgt := 113) hx hb dX8_checksum_16 (by decide) (fun c_1 => ?_) (fun c_1 => absurd c_1 (by decide))
  refine lv_ldc2 hx hb hown (hts _ kw_1998) dX8_checksum_113 ?_
  refine lv_lload_n hx hb dX8_checksum_116 rfl (lv_at hl 1 rfl) ?_
  refine lv_lmul hx hb dX8_checksum_117 ?_
  refine lv_aload_n hx hb dX8_checksum_118 rfl (lv_at hl 2 rfl) ?_
  refine va_get (D := (dC, dI)) (ci := 7) (v := .int 0) (C := RX8) (T := TX8) (N := 4) hx hb hts iX8 hown hK hP 0 rfl rfl 2 (by decide) (hts _ kw_1354) (fun _ h9 => h9) rfl dX8_checksum_119 ?_
  refine lv_i2l (v := (0 : Int32).toInt64) hx hb dX8_checksum_122 rfl ?_
  refine lv_ladd hx hb dX8_checksum_123 ?_
  refine lv_topl (fun x_2 e_x_2 => ?_)
  obtain rfl : x_2 = 217 := by rw [e_x_2]; decide
  exact W.lret hx hb hr (fun t ht hW => ⟨_, rfl, rfl, ht⟩) (fun q hq => absurd hq List.not_mem_nil) dX8_checksum_124
set_option maxHeartbeats 4000000 in
set_option maxRecDepth 100000 in
/-- missedShare of the model: none is due -/
theorem m_missedShare (l : Launch) (dC : Nat → ClassId) (dI : Nat → Nat → Nat) (sz t : Nat) (h0 ac : Nat) (cu : Value) : Met l yX8_missedShare ws_X8_missedShare ({ frames := 2, cells := 0, slots := 0, locals := 34 }) (zA dC dI [(h0, .inr (7, [.ref ac, cu, .int 0, .int 0])), (ac, .inr (0, [.int 0, .ref t, .int 0]))] [] sz t [.ref h0]) (va_Qf (fun r (_ : Unit) => True) (fun _ t9 => zB dC dI (va_A [(h0, .inr (7, [.ref ac, cu, .int 0, .int 0])), (ac, .inr (0, [.int 0, .ref t, .int 0]))] sz) [(h0, .inr (7, [.ref ac, cu, .int 0, .int 1]))] [] t9) (va_A [(h0, .inr (7, [.ref ac, cu, .int 0, .int 0])), (ac, .inr (0, [.int 0, .ref t, .int 0]))] sz)) 0 0 (va_A [(h0, .inr (7, [.ref ac, cu, .int 0, .int 0])), (ac, .inr (0, [.int 0, .ref t, .int 0]))] sz) := by
  refine Met.ofW (cc := cX8_missedShare) (maxL := 5) (ret := (some .float)) (by decide) rfl ?_
  intro p e s m args below meth c s₁ B hml hv
  obtain ⟨rfl, hsz, hP, hK, hD0, hQ⟩ := hv
  have hx := B.exec
  have hb := B.bytes
  have hr := B.returns
  have hts : ∀ w ∈ zG, w.before _ s = true := fun w h => atoms_spec (ws := ws_X8_missedShare) B.pre w (List.mem_cons_of_mem _ h)
  have hown : s.vm.findClass RX8 = some m.cls := findClass_of_methodNamed B.named
  have hlocks := B.notSynchronized
  subst hsz
  have hD := hD0.self (sz := s.heap.size)
  generalize hAe : va_A [(h0, .inr (7, [.ref ac, cu, .int 0, .int 0])), (ac, .inr (0, [.int 0, .ref t, .int 0]))] s.heap.size = A at hD hQ ⊢
  have hA : ∀ q : Nat, s.heap.size ≤ q → A q := fun q h => by rw [← hAe]; exact Or.inr h
  have hS : va_S A s.heap s.heap [] := va_S.rf
  have hP : va_P (dC, dI) zc [(h0, .inr (7, [.ref ac, cu, .int 0, .int 0])), (ac, .inr (0, [.int 0, .ref t, .int 0]))] s.heap := hP
  have hl := lv_entry ([.ref h0]) (n := 5) (Nat.le_of_ble_eq_true rfl)
  rw [lg_entry_eq]
  generalize (lg_sl ([.ref h0]) ++ List.replicate (5 - (lg_sl ([.ref h0])).length) Slot.unset).toArray = ls at hl ⊢
  have hl : lv_has ls 5 [(0, .ref h0)] := hl
  refine lv_iconst (v := 0) hx hb dX8_missedShare_0 (by decide) ?_
  refine lv_istore_n (lv' := [(1, .int 0), (0, .ref h0)]) hx hb dX8_missedShare_1 rfl hl (by decide) rfl (fun ls hl => ?_)
  refine lv_iconst (v := 0) hx hb dX8_missedShare_2 (by decide) ?_
  refine lv_istore_n (lv' := [(2, .int 0), (1, .int 0), (0, .ref h0)]) hx hb dX8_missedShare_3 rfl hl (by decide) rfl (fun ls hl => ?_)
  refine lv_iconst (v := 0) hx hb dX8_missedShare_4 (by decide) ?_
  refine lv_istore_n (lv' := [(3, .int 0), (2, .int 0), (1, .int 0), (0, .ref h0)]) hx hb dX8_missedShare_5 rfl hl (by decide) rfl (fun ls hl => ?_)
  refine lv_iload_n hx hb dX8_missedShare_6 rfl (lv_at hl 0 rfl) ?_
  refine lv_aload_n hx hb dX8_missedShare_7 rfl (lv_at hl 3 rfl) ?_
  refine va_get (D := (dC, dI)) (ci := 7) (v := .ref ac) (C := RX8) (T := TX8) (N := 4) hx hb hts iX8 hown hK hP 0 rfl rfl 0 (by decide) (hts _ kw_1352) (fun _ h9 => h9) rfl dX8_missedShare_8 ?_
  refine va_csFi (va_runF (As := []) (rest := [.int 0]) ((hK.1 0 _ rfl).2) ⟨hx, hb, hml, hown, hts⟩ (c_AL_size l dC dI s.heap.size t ac 0 (.ref t) 0) (va_cwF 0 hts (zg_F kw_1382 kw_1386 kw_258 kw_67 kw_260) rfl rfl rfl (zT_fsize hQ.1) (by decide +kernel) ⟨Nat.le_of_ble_eq_true rfl, Nat.le_of_ble_eq_true rfl⟩) ⟨zA_blind, va_recv hK hP (ci := 0) (q0 := 1) rfl rfl, zA_pre hP hD hS hK hQ hA [1] rfl rfl (by decide) [] rfl⟩ rfl rfl hl.1 rfl (lv_room (Nat.le_of_ble_eq_true rfl)) dX8_missedShare_11 ⟨zl_b rfl, zl_b rfl⟩) (fun r hr => ?_)
  subst hr
  refine lv_icmp_ge (tgt := 48) hx hb dX8_missedShare_16 (by decide) (fun c_1 => ?_) (fun c_1 => absurd c_1 (by decide))
  refine lv_aload_n hx hb dX8_missedShare_48 rfl (lv_at hl 3 rfl) ?_
  refine lv_iload_n hx hb dX8_missedShare_49 rfl (lv_at hl 2 rfl) ?_
  refine lv_if_le (tgt := 57) hx hb dX8_missedShare_50 (by decide) (fun c_2 => ?_) (fun c_2 => absurd c_2 (by decide))
  refine lv_iconst (v := 0) hx hb dX8_missedShare_57 (by decide) ?_
  refine lv_iconst (v := 1) hx hb dX8_missedShare_58 (by decide) ?_
  have hFc := va_free (wc := [(h0, .inr (7, [.ref ac, cu, .int 0, .int 0]))]) hD hS hA [0] rfl
  refine va_calli (va_runV (As := [.int 0, .int 1]) (rest := []) ⟨hx, hb, hml, hown, hts⟩ (c_no0 l dC dI s.heap.size t h0 (.ref ac) cu 0 0 1) (cwV 2 hts (zg_V kw_1377 kw_1379 kw_40 kw_70 kw_1380) rfl rfl rfl (by decide +kernel) ⟨Nat.le_of_ble_eq_true rfl, Nat.le_of_ble_eq_true rfl⟩) ⟨zA_blind, va_recv hK hP (ci := 7) (q0 := 0) rfl rfl, zA_pre hP hD hS hK hQ hA [0] rfl rfl (by decide) [] rfl⟩ rfl rfl hl.1 rfl (lv_room (Nat.le_of_ble_eq_true rfl)) dX8_missedShare_59 ⟨zl_b rfl, zl_b rfl⟩) hS (fun q _ h => hFc q h) hFc (fun r_3 u t9 H1 locs ht hvm hw hB hz1 hk1 hS => ?_)
  obtain ⟨hP1, hK1, hD1⟩ := hB
  rw [ht] at hP1
  have hK1 := va_K.moved hvm.symm hK1
  obtain ⟨hP, hD⟩ := va_join (wr := [(ac, .inr (0, [.int 0, .ref t, .int 0]))]) (w1 := [(h0, .inr (7, [.ref ac, cu, .int 0, .int 1]))]) hP hD [0] [1] rfl rfl (by decide) (by decide) hk1 hFc hP1 hD1
  have hK := (hK.sub (tys' := []) [] rfl).app hK1
  generalize H1 = H at hP hS ⊢
  have hP : va_P (dC, dI) zc [(ac, .inr (0, [.int 0, .ref t, .int 0])), (h0, .inr (7, [.ref ac, cu, .int 0, .int 1]))] H := hP
  have hD : va_D A [(ac, .inr (0, [.int 0, .ref t, .int 0])), (h0, .inr (7, [.ref ac, cu, .int 0, .int 1]))] := hD
  have hK : va_K (dC, dI) zc [] s := hK
  have hw : 1 = r_3 := hw.symm
  subst hw
  refine lv_if_eq (tgt := 69) hx hb dX8_missedShare_62 (by decide) (fun c_4 => absurd c_4 (by decide)) (fun c_4 => ?_)
  refine lv_fconst0 hx hb dX8_missedShare_65 ?_
  refine lv_goto (tgt := 74) hx hb dX8_missedShare_66 (by decide) ?_
  have hP9 := hP.sub (ws' := [(h0, .inr (7, [.ref ac, cu, .int 0, .int 1]))]) [1] rfl
  have hD9 := hD.sub (ws' := [(h0, .inr (7, [.ref ac, cu, .int 0, .int 1]))]) [1] (by decide) rfl
  have hK9 := hK.sub (tys' := []) [] rfl
  exact W.fret hx hb hr (fun t ht hW => ⟨⟨_, (), rfl, trivial, by rw [ht]; exact hP9, va_K.moved hW.alike hK9, hD9⟩, hS.F ht⟩) hS.2.2 dX8_missedShare_74
set_option maxHeartbeats 4000000 in
set_option maxRecDepth 100000 in
/-- meanOwed of the model: no account -/
theorem m_meanOwed (l : Launch) (dC : Nat → ClassId) (dI : Nat → Nat → Nat) (sz t : Nat) (h0 ac : Nat) (cu : Value) : Met l yX8_meanOwed ws_X8_meanOwed ({ frames := 2, cells := 0, slots := 0, locals := 34 }) (zA dC dI [(h0, .inr (7, [.ref ac, cu, .int 0, .int 0])), (ac, .inr (0, [.int 0, .ref t, .int 0]))] [] sz t [.ref h0]) (va_Qd (fun r (_ : Unit) => True) (fun _ t9 => zB dC dI (va_A [(h0, .inr (7, [.ref ac, cu, .int 0, .int 0])), (ac, .inr (0, [.int 0, .ref t, .int 0]))] sz) [(h0, .inr (7, [.ref ac, cu, .int 0, .int 1]))] [] t9) (va_A [(h0, .inr (7, [.ref ac, cu, .int 0, .int 0])), (ac, .inr (0, [.int 0, .ref t, .int 0]))] sz)) 0 0 (va_A [(h0, .inr (7, [.ref ac, cu, .int 0, .int 0])), (ac, .inr (0, [.int 0, .ref t, .int 0]))] sz) := by
  refine Met.ofW (cc := cX8_meanOwed) (maxL := 4) (ret := (some .double)) (by decide) rfl ?_
  intro p e s m args below meth c s₁ B hml hv
  obtain ⟨rfl, hsz, hP, hK, hD0, hQ⟩ := hv
  have hx := B.exec
  have hb := B.bytes
  have hr := B.returns
  have hts : ∀ w ∈ zG, w.before _ s = true := fun w h => atoms_spec (ws := ws_X8_meanOwed) B.pre w (List.mem_cons_of_mem _ h)
  have hown : s.vm.findClass RX8 = some m.cls := findClass_of_methodNamed B.named
  have hlocks := B.notSynchronized
  subst hsz
  have hD := hD0.self (sz := s.heap.size)
  generalize hAe : va_A [(h0, .inr (7, [.ref ac, cu, .int 0, .int 0])), (ac, .inr (0, [.int 0, .ref t, .int 0]))] s.heap.size = A at hD hQ ⊢
  have hA : ∀ q : Nat, s.heap.size ≤ q → A q := fun q h => by rw [← hAe]; exact Or.inr h
  have hS : va_S A s.heap s.heap [] := va_S.rf
  have hP : va_P (dC, dI) zc [(h0, .inr (7, [.ref ac, cu, .int 0, .int 0])), (ac, .inr (0, [.int 0, .ref t, .int 0]))] s.heap := hP
  have hl := lv_entry ([.ref h0]) (n := 4) (Nat.le_of_ble_eq_true rfl)
  rw [lg_entry_eq]
  generalize (lg_sl ([.ref h0]) ++ List.replicate (4 - (lg_sl ([.ref h0])).length) Slot.unset).toArray = ls at hl ⊢
  have hl : lv_has ls 4 [(0, .ref h0)] := hl
  refine lv_lconst (v := 0) hx hb dX8_meanOwed_0 (by decide) ?_
  refine lv_lstore_n (lv' := [(1, .long 0), (0, .ref h0)]) hx hb dX8_meanOwed_1 rfl hl (by decide) rfl (fun ls hl => ?_)
  refine lv_iconst (v := 0) hx hb dX8_meanOwed_2 (by decide) ?_
  refine lv_istore_n (lv' := [(3, .int 0), (1, .long 0), (0, .ref h0)]) hx hb dX8_meanOwed_3 rfl hl (by decide) rfl (fun ls hl => ?_)
  refine lv_iload_n hx hb dX8_meanOwed_4 rfl (lv_at hl 0 rfl) ?_
  refine lv_aload_n hx hb dX8_meanOwed_5 rfl (lv_at hl 2 rfl) ?_
  refine va_get (D := (dC, dI)) (ci := 7) (v := .ref ac) (C := RX8) (T := TX8) (N := 4) hx hb hts iX8 hown hK hP 0 rfl rfl 0 (by decide) (hts _ kw_1352) (fun _ h9 => h9) rfl dX8_meanOwed_6 ?_
  refine va_csFi (va_runF (As := []) (rest := [.int 0]) ((hK.1 0 _ rfl).2) ⟨hx, hb, hml, hown, hts⟩ (c_AL_size l dC dI s.heap.size t ac 0 (.ref t) 0) (va_cwF 0 hts (zg_F kw_1382 kw_1386 kw_258 kw_67 kw_260) rfl rfl rfl (zT_fsize hQ.1) (by decide +kernel) ⟨Nat.le_of_ble_eq_true rfl, Nat.le_of_ble_eq_true rfl⟩) ⟨zA_blind, va_recv hK hP (ci := 0) (q0 := 1) rfl rfl, zA_pre hP hD hS hK hQ hA [1] rfl rfl (by decide) [] rfl⟩ rfl rfl hl.1 rfl (lv_room (Nat.le_of_ble_eq_true rfl)) dX8_meanOwed_9 ⟨zl_b rfl, zl_b rfl⟩) (fun r hr => ?_)
  subst hr
  refine lv_icmp_ge (tgt := 34) hx hb dX8_meanOwed_14 (by decide) (fun c_1 => ?_) (fun c_1 => absurd c_1 (by decide))
  refine lv_aload_n hx hb dX8_meanOwed_34 rfl (lv_at hl 2 rfl) ?_
  refine lv_aload_n hx hb dX8_meanOwed_35 rfl (lv_at hl 2 rfl) ?_
  refine va_get (D := (dC, dI)) (ci := 7) (v := .ref ac) (C := RX8) (T := TX8) (N := 4) hx hb hts iX8 hown hK hP 0 rfl rfl 0 (by decide) (hts _ kw_1352) (fun _ h9 => h9) rfl dX8_meanOwed_36 ?_
  refine va_csFi (va_runF (As := []) (rest := [.ref h0]) ((hK.1 0 _ rfl).2) ⟨hx, hb, hml, hown, hts⟩ (c_isEmpty l dC dI s.heap.size t ac (.ref t)) (va_cwF 0 hts (zg_F kw_2008 kw_2011 kw_2013 kw_67 kw_2015) rfl rfl rfl (zT_fisEmpty hQ.1) (by decide +kernel) ⟨Nat.le_of_ble_eq_true rfl, Nat.le_of_ble_eq_true rfl⟩) ⟨zA_blind, va_recv hK hP (ci := 0) (q0 := 1) rfl rfl, zA_pre hP hD hS hK hQ hA [1] rfl rfl (by decide) [] rfl⟩ rfl rfl hl.1 rfl (lv_room (Nat.le_of_ble_eq_true rfl)) dX8_meanOwed_39 ⟨zl_b rfl, zl_b rfl⟩) (fun r hr => ?_)
  subst hr
  refine lv_if_ne (tgt := 51) hx hb dX8_meanOwed_44 (by decide) (fun c_2 => ?_) (fun c_2 => absurd c_2 (by decide))
  refine lv_iconst (v := 0) hx hb dX8_meanOwed_51 (by decide) ?_
  refine lv_iconst (v := 1) hx hb dX8_meanOwed_52 (by decide) ?_
  have hFc := va_free (wc := [(h0, .inr (7, [.ref ac, cu, .int 0, .int 0]))]) hD hS hA [0] rfl
  refine va_calli (va_runV (As := [.int 0, .int 1]) (rest := []) ⟨hx, hb, hml, hown, hts⟩ (c_no0 l dC dI s.heap.size t h0 (.ref ac) cu 0 0 1) (cwV 2 hts (zg_V kw_1377 kw_1379 kw_40 kw_70 kw_1380) rfl rfl rfl (by decide +kernel) ⟨Nat.le_of_ble_eq_true rfl, Nat.le_of_ble_eq_true rfl⟩) ⟨zA_blind, va_recv hK hP (ci := 7) (q0 := 0) rfl rfl, zA_pre hP hD hS hK hQ hA [0] rfl rfl (by decide) [] rfl⟩ rfl rfl hl.1 rfl (lv_room (Nat.le_of_ble_eq_true rfl)) dX8_meanOwed_53 ⟨zl_b rfl, zl_b rfl⟩) hS (fun q _ h => hFc q h) hFc (fun r_3 u t9 H1 locs ht hvm hw hB hz1 hk1 hS => ?_)
  obtain ⟨hP1, hK1, hD1⟩ := hB
  rw [ht] at hP1
  have hK1 := va_K.moved hvm.symm hK1
  obtain ⟨hP, hD⟩ := va_join (wr := [(ac, .inr (0, [.int 0, .ref t, .int 0]))]) (w1 := [(h0, .inr (7, [.ref ac, cu, .int 0, .int 1]))]) hP hD [0] [1] rfl rfl (by decide) (by decide) hk1 hFc hP1 hD1
  have hK := (hK.sub (tys' := []) [] rfl).app hK1
  generalize H1 = H at hP hS ⊢
  have hP : va_P (dC, dI) zc [(ac, .inr (0, [.int 0, .ref t, .int 0])), (h0, .inr (7, [.ref ac, cu, .int 0, .int 1]))] H := hP
  have hD : va_D A [(ac, .inr (0, [.int 0, .ref t, .int 0])), (h0, .inr (7, [.ref ac, cu, .int 0, .int 1]))] := hD
  have hK : va_K (dC, dI) zc [] s := hK
  have hw : 1 = r_3 := hw.symm
  subst hw
  refine lv_if_eq (tgt := 63) hx hb dX8_meanOwed_56 (by decide) (fun c_4 => absurd c_4 (by decide)) (fun c_4 => ?_)
  refine lv_dconst0 hx hb dX8_meanOwed_59 ?_
  refine lv_goto (tgt := 76) hx hb dX8_meanOwed_60 (by decide) ?_
  have hP9 := hP.sub (ws' := [(h0, .inr (7, [.ref ac, cu, .int 0, .int 1]))]) [1] rfl
  have hD9 := hD.sub (ws' := [(h0, .inr (7, [.ref ac, cu, .int 0, .int 1]))]) [1] (by decide) rfl
  have hK9 := hK.sub (tys' := []) [] rfl
  exact W.dret hx hb hr (fun t ht hW => ⟨⟨_, (), rfl, trivial, by rw [ht]; exact hP9, va_K.moved hW.alike hK9, hD9⟩, hS.F ht⟩) hS.2.2 dX8_meanOwed_76
set_option maxHeartbeats 4000000 in
set_option maxRecDepth 100000 in
/-- isSound of the model -/
theorem m_isSound (l : Launch) (dC : Nat → ClassId) (dI : Nat → Nat → Nat) (sz t : Nat) (h0 ac : Nat) (cu : Value) : Met l yX8_isSound ws_X8_isSound ({ frames := 1, cells := 0, slots := 0, locals := 12 }) (zA dC dI [(h0, .inr (7, [.ref ac, cu, .int 0, .int 0])), (ac, .inr (0, [.int 0, .ref t, .int 0]))] [] sz t [.ref h0]) (vp_Si (fun r => r = 1)) 0 0 (fun _ => False) := by
  refine Met.ofW (cc := cX8_isSound) (maxL := 1) (ret := (some .boolean)) (by decide) rfl ?_
  intro p e s m args below meth c s₁ B hml hv
  obtain ⟨rfl, hsz, hP, hK, hD0, hQ⟩ := hv
  have hx := B.exec
  have hb := B.bytes
  have hr := B.returns
  have hts : ∀ w ∈ zG, w.before _ s = true := fun w h => atoms_spec (ws := ws_X8_isSound) B.pre w (List.mem_cons_of_mem _ h)
  have hown : s.vm.findClass RX8 = some m.cls := findClass_of_methodNamed B.named
  have hlocks := B.notSynchronized
  subst hsz
  have hD := hD0.self (sz := s.heap.size)
  generalize hAe : va_A [(h0, .inr (7, [.ref ac, cu, .int 0, .int 0])), (ac, .inr (0, [.int 0, .ref t, .int 0]))] s.heap.size = A at hD hQ
  have hA : ∀ q : Nat, s.heap.size ≤ q → A q := fun q h => by rw [← hAe]; exact Or.inr h
  have hS : va_S A s.heap s.heap [] := va_S.rf
  have hP : va_P (dC, dI) zc [(h0, .inr (7, [.ref ac, cu, .int 0, .int 0])), (ac, .inr (0, [.int 0, .ref t, .int 0]))] s.heap := hP
  have hl := lv_entry ([.ref h0]) (n := 1) (Nat.le_of_ble_eq_true rfl)
  rw [lg_entry_eq]
  generalize (lg_sl ([.ref h0]) ++ List.replicate (1 - (lg_sl ([.ref h0])).length) Slot.unset).toArray = ls at hl ⊢
  have hl : lv_has ls 1 [(0, .ref h0)] := hl
  refine lv_iconst (v := 1) hx hb dX8_isSound_0 (by decide) ?_
  exact W.zret (ty := .boolean) hx hb hr rfl (fun t ht hW => ⟨_, rfl, rfl, ht⟩) (fun q hq => absurd hq List.not_mem_nil) dX8_isSound_1
