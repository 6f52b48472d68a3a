set_option maxHeartbeats 4000000 in
set_option maxRecDepth 100000 in
/-- AbstractCollection() -/
theorem c_AC_init (l : Launch) (dC : Nat → ClassId) (dI : Nat → Nat → Nat) (sz t : Nat) (h0 : Nat) (a : Int32) (b : Value) (k : Int32) : Met l yJxa1e45_init_da8c8 ws_Jxa1e45_init_da8c8 ({ frames := 1, cells := 0, slots := 0, locals := 12 }) (zA dC dI [(h0, .inr (0, [.int a, b, .int k]))] [] sz t [.ref h0]) (va_Sv (fun _ => True)) 0 0 (fun _ => False) := by
  refine Met.ofW (cc := cJxa1e45_init_da8c8) (maxL := 1) (ret := none) (by decide) rfl ?_
  intro p e s m args below meth c s₁ B hml hv
  obtain ⟨rfl, hsz, hP, hK, hD0, hQ⟩ := hv
  have hx := B.exec
  have hb := B.bytes
  have hr := B.returns
  have hts : ∀ w ∈ zG, w.before _ s = true := fun w h => atoms_spec (ws := ws_Jxa1e45_init_da8c8) B.pre w (List.mem_cons_of_mem _ h)
  have hown : s.vm.findClass RJxa1e45 = some m.cls := findClass_of_methodNamed B.named
  have hlocks := B.notSynchronized
  have hin : meth.name = "<init>" := (name_of_methodNamed B.named B.method).1
  subst hsz
  have hD := hD0.self (sz := s.heap.size)
  generalize hAe : va_A [(h0, .inr (0, [.int a, b, .int k]))] s.heap.size = A at hD hQ
  have hA : ∀ q : Nat, s.heap.size ≤ q → A q := fun q h => by rw [← hAe]; exact Or.inr h
  have hS : va_S A s.heap s.heap [] := va_S.rf
  have hP : va_P (dC, dI) zc [(h0, .inr (0, [.int a, b, .int k]))] s.heap := hP
  have hl := lv_entry ([.ref h0]) (n := 1) (Nat.le_of_ble_eq_true rfl)
  rw [lg_entry_eq]
  generalize (lg_sl ([.ref h0]) ++ List.replicate (1 - (lg_sl ([.ref h0])).length) Slot.unset).toArray = ls at hl ⊢
  have hl : lv_has ls 1 [(0, .ref h0)] := hl
  refine lv_aload_n hx hb dJxa1e45_init_da8c8_0 rfl (lv_at hl 0 rfl) ?_
  refine W.objInit hx hb hown (hts _ kw_122) (hts _ kw_109) (hts _ kw_110) rfl (by rw [hml]; exact hl.1) rfl dJxa1e45_init_da8c8_1 (Nat.le_of_ble_eq_true rfl) (Nat.le_of_ble_eq_true rfl) ?_
  refine W.eq (g2 := F0 m 4 ls []) rfl ?_
  exact W.vret hx hb hr (fun t ht hW => ⟨rfl, trivial, ht⟩) (fun q hq => absurd hq List.not_mem_nil) dJxa1e45_init_da8c8_4
set_option maxHeartbeats 4000000 in
set_option maxRecDepth 100000 in
/-- AbstractList(): modCount is 0 -/
theorem c_AbL_init (l : Launch) (dC : Nat → ClassId) (dI : Nat → Nat → Nat) (sz t : Nat) (h0 : Nat) (a : Int32) (b : Value) (k : Int32) : Met l yJxc12de_init_da8c8 ws_Jxc12de_init_da8c8 ({ frames := 2, cells := 0, slots := 0, locals := 32 }) (zA dC dI [(h0, .inr (0, [.int a, b, .int k]))] [] sz t [.ref h0]) (va_Qv (fun _ : Unit => True) (fun _ t9 => zB dC dI (va_A [(h0, .inr (0, [.int a, b, .int k]))] sz) [(h0, .inr (0, [.int 0, b, .int k]))] [] t9) (va_A [(h0, .inr (0, [.int a, b, .int k]))] sz)) 0 0 (va_A [(h0, .inr (0, [.int a, b, .int k]))] sz) := by
  refine Met.ofW (cc := cJxc12de_init_da8c8) (maxL := 1) (ret := none) (by decide) rfl ?_
  intro p e s m args below meth c s₁ B hml hv
  obtain ⟨rfl, hsz, hP, hK, hD0, hQ⟩ := hv
  have hx := B.exec
  have hb := B.bytes
  have hr := B.returns
  have hts : ∀ w ∈ zG, w.before _ s = true := fun w h => atoms_spec (ws := ws_Jxc12de_init_da8c8) B.pre w (List.mem_cons_of_mem _ h)
  have hown : s.vm.findClass RJxc12de = some m.cls := findClass_of_methodNamed B.named
  have hlocks := B.notSynchronized
  have hin : meth.name = "<init>" := (name_of_methodNamed B.named B.method).1
  subst hsz
  have hD := hD0.self (sz := s.heap.size)
  generalize hAe : va_A [(h0, .inr (0, [.int a, b, .int k]))] s.heap.size = A at hD hQ ⊢
  have hA : ∀ q : Nat, s.heap.size ≤ q → A q := fun q h => by rw [← hAe]; exact Or.inr h
  have hS : va_S A s.heap s.heap [] := va_S.rf
  have hP : va_P (dC, dI) zc [(h0, .inr (0, [.int a, b, .int k]))] s.heap := hP
  have hl := lv_entry ([.ref h0]) (n := 1) (Nat.le_of_ble_eq_true rfl)
  rw [lg_entry_eq]
  generalize (lg_sl ([.ref h0]) ++ List.replicate (1 - (lg_sl ([.ref h0])).length) Slot.unset).toArray = ls at hl ⊢
  have hl : lv_has ls 1 [(0, .ref h0)] := hl
  refine lv_aload_n hx hb dJxc12de_init_da8c8_0 rfl (lv_at hl 0 rfl) ?_
  refine va_csv (W.runI (As := []) (rest := []) ⟨hx, hb, hml, hown, hts⟩ (c_AC_init l dC dI s.heap.size t h0 a b k) (cwI 0 hts (zg_c kw_121) rfl rfl rfl (hts _ kw_65) (hts _ kw_119) (hts _ kw_120) rfl (by decide +kernel) ⟨Nat.le_of_ble_eq_true rfl, Nat.le_of_ble_eq_true rfl⟩) ⟨zA_blind, zA_pre hP hD hS hK hQ hA [0] rfl rfl (by decide) [] rfl⟩ rfl rfl hl.1 rfl (lv_room (Nat.le_of_ble_eq_true rfl)) dJxc12de_init_da8c8_1 ⟨zl_b rfl, zl_b rfl⟩) (fun _ => ?_)
  refine lv_aload_n hx hb dJxc12de_init_da8c8_4 rfl (lv_at hl 0 rfl) ?_
  refine lv_iconst (v := 0) hx hb dJxc12de_init_da8c8_5 (by decide) ?_
  refine va_put (D := (dC, dI)) (ci := 0) (v := .int 0) (ty := .int) (C := RJx4a65c) (T := TJx4a65c) (N := 3) hx hb hts iJx4a65c tyJx4a65c tyJx4a65c_ok nmJx4a65c hown hK hP hD hS 0 rfl rfl 0 (by decide) (hts _ kw_129) (fun _ h9 => h9) rfl (by decide +kernel) rfl rfl (Nat.le_of_ble_eq_true rfl) dJxc12de_init_da8c8_6 (fun H locs hP hD hS => ?_)
  have hP : va_P (dC, dI) zc [(h0, .inr (0, [.int 0, b, .int k]))] H := hP
  have hD : va_D A [(h0, .inr (0, [.int 0, b, .int k]))] := hD
  have hP9 := hP.sub (ws' := [(h0, .inr (0, [.int 0, b, .int k]))]) [0] rfl
  have hD9 := hD.sub (ws' := [(h0, .inr (0, [.int 0, b, .int k]))]) [0] (by decide) rfl
  have hK9 := hK.sub (tys' := []) [] rfl
  exact W.vret hx hb hr (fun t ht hW => ⟨⟨(), rfl, trivial, by rw [ht]; exact hP9, va_K.moved hW.alike hK9, hD9⟩, hS.F ht⟩) hS.2.2 dJxc12de_init_da8c8_9
set_option maxHeartbeats 4000000 in
set_option maxRecDepth 100000 in
/-- ArrayList(): the empty row of the class -/
theorem c_AL_init (l : Launch) (dC : Nat → ClassId) (dI : Nat → Nat → Nat) (sz t : Nat) (h0 : Nat) : Met l yJx4a65c_init_da8c8 ws_Jx4a65c_init_da8c8 ({ frames := 3, cells := 0, slots := 0, locals := 52 }) (zA dC dI [(h0, .inr (0, [.int 0, .null, .int 0]))] [] sz t [.ref h0]) (va_Qv (fun _ : Unit => True) (fun _ t9 => zB dC dI (va_A [(h0, .inr (0, [.int 0, .null, .int 0]))] sz) [(h0, .inr (0, [.int 0, .ref t, .int 0]))] [] t9) (va_A [(h0, .inr (0, [.int 0, .null, .int 0]))] sz)) 0 0 (va_A [(h0, .inr (0, [.int 0, .null, .int 0]))] sz) := by
  refine Met.ofW (cc := cJx4a65c_init_da8c8) (maxL := 1) (ret := none) (by decide) rfl ?_
  intro p e s m args below meth c s₁ B hml hv
  obtain ⟨rfl, hsz, hP, hK, hD0, hQ⟩ := hv
  have hx := B.exec
  have hb := B.bytes
  have hr := B.returns
  have hts : ∀ w ∈ zG, w.before _ s = true := fun w h => atoms_spec (ws := ws_Jx4a65c_init_da8c8) B.pre w (List.mem_cons_of_mem _ h)
  have hown : s.vm.findClass RJx4a65c = some m.cls := findClass_of_methodNamed B.named
  have hlocks := B.notSynchronized
  have hin : meth.name = "<init>" := (name_of_methodNamed B.named B.method).1
  subst hsz
  have hD := hD0.self (sz := s.heap.size)
  generalize hAe : va_A [(h0, .inr (0, [.int 0, .null, .int 0]))] s.heap.size = A at hD hQ ⊢
  have hA : ∀ q : Nat, s.heap.size ≤ q → A q := fun q h => by rw [← hAe]; exact Or.inr h
  have hS : va_S A s.heap s.heap [] := va_S.rf
  have hP : va_P (dC, dI) zc [(h0, .inr (0, [.int 0, .null, .int 0]))] s.heap := hP
  have hl := lv_entry ([.ref h0]) (n := 1) (Nat.le_of_ble_eq_true rfl)
  rw [lg_entry_eq]
  generalize (lg_sl ([.ref h0]) ++ List.replicate (1 - (lg_sl ([.ref h0])).length) Slot.unset).toArray = ls at hl ⊢
  have hl : lv_has ls 1 [(0, .ref h0)] := hl
  refine lv_aload_n hx hb dJx4a65c_init_da8c8_0 rfl (lv_at hl 0 rfl) ?_
  have hFc := va_free (wc := [(h0, .inr (0, [.int 0, .null, .int 0]))]) hD hS hA [0] rfl
  refine va_callv (va_runI (As := []) (rest := []) ⟨hx, hb, hml, hown, hts⟩ (c_AbL_init l dC dI s.heap.size t h0 0 .null 0) (cwI 0 hts (zg_c kw_118) rfl rfl rfl (hts _ kw_66) (hts _ kw_116) (hts _ kw_117) rfl (by decide +kernel) ⟨Nat.le_of_ble_eq_true rfl, Nat.le_of_ble_eq_true rfl⟩) ⟨zA_blind, zA_pre hP hD hS hK hQ hA [0] rfl rfl (by decide) [] rfl⟩ rfl rfl hl.1 rfl (lv_room (Nat.le_of_ble_eq_true rfl)) dJx4a65c_init_da8c8_1 ⟨zl_b rfl, zl_b rfl⟩) hS (fun q _ h => hFc q h) hFc (fun u t9 H1 locs ht hvm hw hB hz1 hk1 hS => ?_)
  obtain ⟨hP1, hK1, hD1⟩ := hB
  rw [ht] at hP1
  have hK1 := va_K.moved hvm.symm hK1
  obtain ⟨hP, hD⟩ := va_join (wr := []) (w1 := [(h0, .inr (0, [.int 0, .null, .int 0]))]) hP hD [0] [] rfl rfl (by decide) (by decide) hk1 hFc hP1 hD1
  have hK := (hK.sub (tys' := []) [] rfl).app hK1
  generalize H1 = H at hP hS ⊢
  have hP : va_P (dC, dI) zc [(h0, .inr (0, [.int 0, .null, .int 0]))] H := hP
  have hD : va_D A [(h0, .inr (0, [.int 0, .null, .int 0]))] := hD
  have hK : va_K (dC, dI) zc [] s := hK
  refine lv_aload_n hx hb dJx4a65c_init_da8c8_4 rfl (lv_at hl 0 rfl) ?_
  refine va_gets hx hb hQ.2.2.2.1 hS hown (hts _ kw_123) (fun _ h9 => h9) dJx4a65c_init_da8c8_5 ?_
  refine va_put (D := (dC, dI)) (ci := 0) (v := .ref t) (ty := .array (.object "java/lang/Object")) (C := RJx4a65c) (T := TJx4a65c) (N := 3) hx hb hts iJx4a65c tyJx4a65c tyJx4a65c_ok nmJx4a65c hown hK hP hD hS 0 rfl rfl 1 (by decide) (hts _ kw_125) (fun _ h9 => h9) rfl (by decide +kernel) rfl rfl (Nat.le_of_ble_eq_true rfl) dJx4a65c_init_da8c8_8 (fun H locs hP hD hS => ?_)
  have hP : va_P (dC, dI) zc [(h0, .inr (0, [.int 0, .ref t, .int 0]))] H := hP
  have hD : va_D A [(h0, .inr (0, [.int 0, .ref t, .int 0]))] := hD
  have hP9 := hP.sub (ws' := [(h0, .inr (0, [.int 0, .ref t, .int 0]))]) [0] rfl
  have hD9 := hD.sub (ws' := [(h0, .inr (0, [.int 0, .ref t, .int 0]))]) [0] (by decide) rfl
  have hK9 := hK.sub (tys' := []) [] rfl
  exact W.vret hx hb hr (fun t ht hW => ⟨⟨(), rfl, trivial, by rw [ht]; exact hP9, va_K.moved hW.alike hK9, hD9⟩, hS.F ht⟩) hS.2.2 dJx4a65c_init_da8c8_11
set_option maxHeartbeats 4000000 in
set_option maxRecDepth 100000 in
/-- size() -/
theorem c_AL_size (l : Launch) (dC : Nat → ClassId) (dI : Nat → Nat → Nat) (sz t : Nat) (h0 : Nat) (a : Int32) (b : Value) (k : Int32) : Met l yJx4a65c_size_8abf5 ws_Jx4a65c_size_8abf5 ({ frames := 1, cells := 0, slots := 0, locals := 12 }) (zA dC dI [(h0, .inr (0, [.int a, b, .int k]))] [] sz t [.ref h0]) (vp_Si (fun r => r = k)) 0 0 (fun _ => False) := by
  refine Met.ofW (cc := cJx4a65c_size_8abf5) (maxL := 1) (ret := (some .int)) (by decide) rfl ?_
  intro p e s m args below meth c s₁ B hml hv
  obtain ⟨rfl, hsz, hP, hK, hD0, hQ⟩ := hv
  have hx := B.exec
  have hb := B.bytes
  have hr := B.returns
  have hts : ∀ w ∈ zG, w.before _ s = true := fun w h => atoms_spec (ws := ws_Jx4a65c_size_8abf5) B.pre w (List.mem_cons_of_mem _ h)
  have hown : s.vm.findClass RJx4a65c = some m.cls := findClass_of_methodNamed B.named
  have hlocks := B.notSynchronized
  subst hsz
  have hD := hD0.self (sz := s.heap.size)
  generalize hAe : va_A [(h0, .inr (0, [.int a, b, .int k]))] s.heap.size = A at hD hQ
  have hA : ∀ q : Nat, s.heap.size ≤ q → A q := fun q h => by rw [← hAe]; exact Or.inr h
  have hS : va_S A s.heap s.heap [] := va_S.rf
  have hP : va_P (dC, dI) zc [(h0, .inr (0, [.int a, b, .int k]))] s.heap := hP
  have hl := lv_entry ([.ref h0]) (n := 1) (Nat.le_of_ble_eq_true rfl)
  rw [lg_entry_eq]
  generalize (lg_sl ([.ref h0]) ++ List.replicate (1 - (lg_sl ([.ref h0])).length) Slot.unset).toArray = ls at hl ⊢
  have hl : lv_has ls 1 [(0, .ref h0)] := hl
  refine lv_aload_n hx hb dJx4a65c_size_8abf5_0 rfl (lv_at hl 0 rfl) ?_
  refine va_get (D := (dC, dI)) (ci := 0) (v := .int k) (C := RJx4a65c) (T := TJx4a65c) (N := 3) hx hb hts iJx4a65c hown hK hP 0 rfl rfl 2 (by decide) (hts _ kw_128) (fun _ h9 => h9) rfl dJx4a65c_size_8abf5_1 ?_
  exact W.iret hx hb hr (fun t ht hW => ⟨_, rfl, rfl, ht⟩) (fun q hq => absurd hq List.not_mem_nil) dJx4a65c_size_8abf5_4
set_option maxHeartbeats 4000000 in
set_option maxRecDepth 100000 in
/-- Statement() -/
theorem c_St_init (l : Launch) (dC : Nat → ClassId) (dI : Nat → Nat → Nat) (sz t : Nat) (h0 : Nat) : Met l yX3_init ws_X3_init ({ frames := 1, cells := 0, slots := 0, locals := 12 }) (zA dC dI [(h0, .inr (4, [.long 0, .long 0, .long 0, .int 0, .int 0]))] [] sz t [.ref h0]) (va_Qv (fun _ : Unit => True) (fun _ t9 => zB dC dI (va_A [(h0, .inr (4, [.long 0, .long 0, .long 0, .int 0, .int 0]))] sz) [(h0, .inr (4, [.long 0, .long 0, .long 0, .int 0, .int 0]))] [] t9) (va_A [(h0, .inr (4, [.long 0, .long 0, .long 0, .int 0, .int 0]))] sz)) 0 0 (va_A [(h0, .inr (4, [.long 0, .long 0, .long 0, .int 0, .int 0]))] sz) := by
  refine Met.ofW (cc := cX3_init) (maxL := 1) (ret := none) (by decide) rfl ?_
  intro p e s m args below meth c s₁ B hml hv
  obtain ⟨rfl, hsz, hP, hK, hD0, hQ⟩ := hv
  have hx := B.exec
  have hb := B.bytes
  have hr := B.returns
  have hts : ∀ w ∈ zG, w.before _ s = true := fun w h => atoms_spec (ws := ws_X3_init) B.pre w (List.mem_cons_of_mem _ h)
  have hown : s.vm.findClass RX3 = some m.cls := findClass_of_methodNamed B.named
  have hlocks := B.notSynchronized
  have hin : meth.name = "<init>" := (name_of_methodNamed B.named B.method).1
  subst hsz
  have hD := hD0.self (sz := s.heap.size)
  generalize hAe : va_A [(h0, .inr (4, [.long 0, .long 0, .long 0, .int 0, .int 0]))] s.heap.size = A at hD hQ ⊢
  have hA : ∀ q : Nat, s.heap.size ≤ q → A q := fun q h => by rw [← hAe]; exact Or.inr h
  have hS : va_S A s.heap s.heap [] := va_S.rf
  have hP : va_P (dC, dI) zc [(h0, .inr (4, [.long 0, .long 0, .long 0, .int 0, .int 0]))] s.heap := hP
  have hl := lv_entry ([.ref h0]) (n := 1) (Nat.le_of_ble_eq_true rfl)
  rw [lg_entry_eq]
  generalize (lg_sl ([.ref h0]) ++ List.replicate (1 - (lg_sl ([.ref h0])).length) Slot.unset).toArray = ls at hl ⊢
  have hl : lv_has ls 1 [(0, .ref h0)] := hl
  refine lv_aload_n hx hb dX3_init_0 rfl (lv_at hl 0 rfl) ?_
  refine W.objInit hx hb hown (hts _ kw_152) (hts _ kw_109) (hts _ kw_110) rfl (by rw [hml]; exact hl.1) rfl dX3_init_1 (Nat.le_of_ble_eq_true rfl) (Nat.le_of_ble_eq_true rfl) ?_
  refine W.eq (g2 := F0 m 4 ls []) rfl ?_
  have hP9 := hP.sub (ws' := [(h0, .inr (4, [.long 0, .long 0, .long 0, .int 0, .int 0]))]) [0] rfl
  have hD9 := hD.sub (ws' := [(h0, .inr (4, [.long 0, .long 0, .long 0, .int 0, .int 0]))]) [0] (by decide) rfl
  have hK9 := hK.sub (tys' := []) [] rfl
  exact W.vret hx hb hr (fun t ht hW => ⟨⟨(), rfl, trivial, by rw [ht]; exact hP9, va_K.moved hW.alike hK9, hD9⟩, hS.F ht⟩) hS.2.2 dX3_init_4
set_option maxHeartbeats 4000000 in
set_option maxRecDepth 100000 in
/-- accountAt: there is none -/
theorem c_accountAt (l : Launch) (hst : l.stackTraces = false) (dC : Nat → ClassId) (dI : Nat → Nat → Nat) (sz t : Nat) (h0 ac : Nat) (w0 b0 : Value) (dd a : Int32) (ed : Value) : vx_Met l yX4_accountAt ws_X4_accountAt ({ frames := 6, cells := 1, slots := 6, locals := 99 }) (zA dC dI [(h0, .inr (5, [.ref ac, w0, b0, .int dd])), (ac, .inr (0, [.int 0, ed, .int 0]))] [] sz t [.ref h0, .int a]) (va_Qq (fun _ (_ : Unit) => False) (fun _ _ => True) (fun _ => False)) (vx_X (fun _ : Unit => True) (fun E _ _ => E = "java/lang/IndexOutOfBoundsException") (fun q => sz ≤ q)) 1 6 (fun q => sz ≤ q) := by
  refine vx_ofW (cc := cX4_accountAt) (maxL := 2) (ret := (some (.object "StatementCycle$Account"))) (by decide) rfl ?_
  intro p e s m args below meth c s₁ B hml htab hv
  obtain ⟨rfl, hsz, hP, hK, hD0, hQ⟩ := hv
  have hx := B.exec
  have hb := B.bytes
  have hr := B.returns
  have hts : ∀ w ∈ zG, w.before _ s = true := fun w h => atoms_spec (ws := ws_X4_accountAt) B.pre w (List.mem_cons_of_mem _ h)
  have hown : s.vm.findClass RX4 = some m.cls := findClass_of_methodNamed B.named
  have hlocks := B.notSynchronized
  subst hsz
  have hD := hD0.self (sz := s.heap.size)
  generalize hAe : va_A [(h0, .inr (5, [.ref ac, w0, b0, .int dd])), (ac, .inr (0, [.int 0, ed, .int 0]))] s.heap.size = A at hD hQ
  have hA : ∀ q : Nat, s.heap.size ≤ q → A q := fun q h => by rw [← hAe]; exact Or.inr h
  have hS : va_S A s.heap s.heap [] := va_S.rf
  have hSn : va_S (fun q => s.heap.size ≤ q) s.heap s.heap [] := va_S.rf
  have hP : va_P (dC, dI) zc [(h0, .inr (5, [.ref ac, w0, b0, .int dd])), (ac, .inr (0, [.int 0, ed, .int 0]))] s.heap := hP
  have hl := lv_entry ([.ref h0, .int a]) (n := 2) (Nat.le_of_ble_eq_true rfl)
  rw [lg_entry_eq]
  generalize (lg_sl ([.ref h0, .int a]) ++ List.replicate (2 - (lg_sl ([.ref h0, .int a])).length) Slot.unset).toArray = ls at hl ⊢
  have hl : lv_has ls 2 [(0, .ref h0), (1, .int a)] := hl
  refine lv_iload_n hx hb dX4_accountAt_0 rfl (lv_at hl 1 rfl) ?_
  refine lv_if_lt (tgt := 15) hx hb dX4_accountAt_1 (by decide) (fun c_1 => ?_) (fun c_1 => ?_)
  · exact vx_throw0 (own := RX4) (cls := "java/lang/IndexOutOfBoundsException") (names := ["java/lang/RuntimeException", "java/lang/Exception"]) (A := fun q => s.heap.size ≤ q) hx hb hst hown (by decide +kernel) (by decide +kernel) (hts _ kw_672) (hts _ kw_84) (zK_hat za_X4_236 hts (zT_kI hQ.1) hQ.1) (List.forall_mem_cons.mpr ⟨rfl, List.forall_mem_cons.mpr ⟨rfl, fun w h => (za_X4_236 w h).2⟩⟩) (vx_Zq.narrow hQ.2.1 hA) (vx_Zq.narrow hQ.2.2.1 hA) hSn (by rw [hml]; exact hl.1) dX4_accountAt_15 dX4_accountAt_18 dX4_accountAt_19 dX4_accountAt_22 (fun x hx => (htab x hx).elim) (zl_b rfl) (zl_b rfl) (zl_b rfl) (zl_b rfl) hlocks (fun t hvm hz hk => ⟨(), trivial, rfl, hz, fun q h _ => hk q h⟩) (fun q hq => absurd hq List.not_mem_nil) (zl_b rfl) (zl_b rfl)
  · refine lv_iload_n hx hb dX4_accountAt_4 rfl (lv_at hl 1 rfl) ?_
    refine lv_aload_n hx hb dX4_accountAt_5 rfl (lv_at hl 0 rfl) ?_
    refine va_get (D := (dC, dI)) (ci := 5) (v := .ref ac) (C := RX4) (T := TX4) (N := 4) hx hb hts iX4 hown hK hP 0 rfl rfl 0 (by decide) (hts _ kw_240) (fun _ h9 => h9) rfl dX4_accountAt_6 ?_
    refine vp_callSi (W.runV (As := []) (rest := [.int a]) ⟨hx, hb, hml, hown, hts⟩ (c_AL_size l dC dI s.heap.size t ac 0 ed 0) (cwV 0 hts (zg_V kw_257 kw_258 kw_259 kw_67 kw_260) rfl rfl rfl (by decide +kernel) ⟨Nat.le_of_ble_eq_true rfl, Nat.le_of_ble_eq_true rfl⟩) ⟨zA_blind, va_recv hK hP (ci := 0) (q0 := 1) rfl rfl, zA_pre hP hD hS hK hQ hA [1] rfl rfl (by decide) [] rfl⟩ rfl rfl hl.1 rfl (lv_room (Nat.le_of_ble_eq_true rfl)) dX4_accountAt_9 ⟨zl_b rfl, zl_b rfl⟩) (fun r hr => ?_)
    subst hr
    refine lv_icmp_lt (tgt := 23) hx hb dX4_accountAt_12 (by decide) (fun c_2 => absurd c_2 c_1) (fun c_2 => ?_)
    exact vx_throw0 (own := RX4) (cls := "java/lang/IndexOutOfBoundsException") (names := ["java/lang/RuntimeException", "java/lang/Exception"]) (A := fun q => s.heap.size ≤ q) hx hb hst hown (by decide +kernel) (by decide +kernel) (hts _ kw_672) (hts _ kw_84) (zK_hat za_X4_236 hts (zT_kI hQ.1) hQ.1) (List.forall_mem_cons.mpr ⟨rfl, List.forall_mem_cons.mpr ⟨rfl, fun w h => (za_X4_236 w h).2⟩⟩) (vx_Zq.narrow hQ.2.1 hA) (vx_Zq.narrow hQ.2.2.1 hA) hSn (by rw [hml]; exact hl.1) dX4_accountAt_15 dX4_accountAt_18 dX4_accountAt_19 dX4_accountAt_22 (fun x hx => (htab x hx).elim) (zl_b rfl) (zl_b rfl) (zl_b rfl) (zl_b rfl) hlocks (fun t hvm hz hk => ⟨(), trivial, rfl, hz, fun q h _ => hk q h⟩) (fun q hq => absurd hq List.not_mem_nil) (zl_b rfl) (zl_b rfl)
