set_option maxHeartbeats 4000000 in
set_option maxRecDepth 100000 in
/-- open in the law: 1 -/
theorem lo_openBad (l : Launch) (hst : l.stackTraces = false) (dC : Nat → ClassId) (dI : Nat → Nat → Nat) (sz t : Nat) (h0 ac : Nat) (w0 b0 : Value) (o : Nat) (a : Int32) (hv9 : a < 0 ∨ 9999999 < a) : vx_Met l yL_open ws_L_open ({ frames := 8, cells := 1, slots := 6, locals := 142 }) (zA dC dI [(h0, .inr (5, [.ref ac, w0, b0, .int 0])), (ac, .inr (0, [.int 0, .ref t, .int 0]))] [] sz t [.ref h0, .int a, .ref o]) (va_Qi (fun r (_ : Unit) => r = 1) (fun _ _ => True) (fun q => sz ≤ q)) (vx_X (fun _ : Unit => False) (fun _ _ _ => True) (fun _ => False)) 1 6 (fun q => sz ≤ q) := by
  refine vx_ofWH (cc := cL_open) (maxL := 4) (ret := (some .int)) (hh := [(0, 9, 12, 13), (0, 9, 15, 15)]) (by decide) rfl ?_
  intro p e s m args below meth c s₁ B hml hv
  obtain ⟨rfl, hsz, hP, hK, hD0, hQ⟩ := hv
  have hx := B.exec
  have hb := B.bytes
  have hr := B.returns
  have hts : ∀ w ∈ zG, w.before _ s = true := fun w h => atoms_spec (ws := ws_L_open) B.pre w (List.mem_cons_of_mem _ h)
  have htab : c.exceptionTable.toList = tableOf [(0, 9, 12, 13), (0, 9, 15, 15)] := vx_table (x := yL_open) B (atoms_spec (ws := ws_L_open) B.pre _ List.mem_cons_self)
  have hown : s.vm.findClass RL = some m.cls := findClass_of_methodNamed B.named
  have hlocks := B.notSynchronized
  subst hsz
  have hD := hD0.self (sz := s.heap.size)
  generalize hAe : va_A [(h0, .inr (5, [.ref ac, w0, b0, .int 0])), (ac, .inr (0, [.int 0, .ref t, .int 0]))] s.heap.size = A at hD hQ
  have hA : ∀ q : Nat, s.heap.size ≤ q → A q := fun q h => by rw [← hAe]; exact Or.inr h
  have hS : va_S A s.heap s.heap [] := va_S.rf
  have hSn : va_S (fun q => s.heap.size ≤ q) s.heap s.heap [] := va_S.rf
  have hP : va_P (dC, dI) zc [(h0, .inr (5, [.ref ac, w0, b0, .int 0])), (ac, .inr (0, [.int 0, .ref t, .int 0]))] s.heap := hP
  have hl := lv_entry ([.ref h0, .int a, .ref o]) (n := 4) (Nat.le_of_ble_eq_true rfl)
  rw [lg_entry_eq]
  generalize (lg_sl ([.ref h0, .int a, .ref o]) ++ List.replicate (4 - (lg_sl ([.ref h0, .int a, .ref o])).length) Slot.unset).toArray = ls at hl ⊢
  have hl : lv_has ls 4 [(0, .ref h0), (1, .int a), (2, .ref o)] := hl
  refine lv_aload_n hx hb dL_open_0 rfl (lv_at hl 2 rfl) ?_
  refine lv_iconst (v := 0) hx hb dL_open_1 (by decide) ?_
  refine lv_aload_n hx hb dL_open_2 rfl (lv_at hl 0 rfl) ?_
  refine lv_iload_n hx hb dL_open_3 rfl (lv_at hl 1 rfl) ?_
  refine vx_calli (vx_runV (As := [.int a]) (rest := [.int 0, .ref o]) ⟨hx, hb, hml, hown, hts⟩ (c_openBad l hst dC dI s.heap.size t h0 ac w0 b0 a hv9) (cwV 1 hts (zg_V kw_427 kw_428 kw_429 kw_64 kw_430) rfl rfl rfl (by decide +kernel) ⟨Nat.le_of_ble_eq_true rfl, Nat.le_of_ble_eq_true rfl⟩) ⟨zA_blind, va_recv hK hP (ci := 5) (q0 := 0) rfl rfl, zA_pre hP hD hS hK hQ hA [0, 1] rfl rfl (by decide) [] rfl⟩ rfl rfl hl.1 rfl (lv_room (Nat.le_of_ble_eq_true rfl)) dL_open_4 ⟨zl_b rfl, zl_b rfl⟩) hSn (fun q _ h => h.elim) (fun q h => Nat.le_trans (Nat.le_refl _) h) (fun q _ h => Nat.le_trans (Nat.le_refl _) h) (fun E ce q9 u t9 H1 locs1 ht hvm hp9 hE hz1 hk1 hS1 hc1 hv1 hcl1 => ?_) (fun r u t9 H1 locs1 ht hvm hw hB hz1 hk1 hS1 => hw.elim)
  have hE : E = "java/lang/IllegalArgumentException" := hE
  subst hE
  refine vx_catch (own := RL) (name := "java/lang/IllegalArgumentException") hown [] _ _ htab (fun z hz => absurd hz List.not_mem_nil) rfl (by decide) (hts _ kw_425) (va_Nw.use rfl (zT_kA hQ.1)) hc1 hv1 hcl1 ?_
  refine W.eq (g2 := F0 m 12 ls [.ref q9]) rfl ?_
  generalize H1 = H at hS1 ⊢
  refine W.widen (k := 1) (n := 6) (zl_b rfl) (zl_b rfl) ?_
  refine lv_astore_n (lv' := [(3, .ref q9), (0, .ref h0), (1, .int a), (2, .ref o)]) hx hb dL_open_12 rfl hl (by decide) rfl (fun ls hl => ?_)
  refine lv_iconst (v := 1) hx hb dL_open_13 (by decide) ?_
  refine vx_ret ?_
  exact W.iret hx hb hr (fun t ht hW => ⟨⟨_, (), rfl, rfl, trivial⟩, zS_F hS1 ht⟩) hS1.2.2 dL_open_14
set_option maxHeartbeats 4000000 in
set_option maxRecDepth 100000 in
/-- open in the law: 0 -/
theorem lo_openOk (l : Launch) (hst : l.stackTraces = false) (dC : Nat → ClassId) (dI : Nat → Nat → Nat) (sz t : Nat) (h0 ac : Nat) (w0 b0 : Value) (a : Int32) (hv1 : ¬ a < 0) (hv2 : ¬ 9999999 < a) (o : Nat) (ko : ClassId) (fo : Nat → Int64) : vx_Met l yL_open ws_L_open ({ frames := 7, cells := 24, slots := 141, locals := 168 }) (zA dC dI [(h0, .inr (5, [.ref ac, w0, b0, .int 0])), (ac, .inr (0, [.int 0, .ref t, .int 0])), (o, .inl (ko, 1, .inr (.inl (fo))))] [(ko, .long)] sz t [.ref h0, .int a, .ref o]) (va_Qi (fun r (_ : Unit) => r = 0) (fun _ t9 => zB dC dI (va_A [(h0, .inr (5, [.ref ac, w0, b0, .int 0])), (ac, .inr (0, [.int 0, .ref t, .int 0])), (o, .inl (ko, 1, .inr (.inl (fo))))] sz) [(o, .inl (ko, 1, .inr (.inl (vp_updL fo 0 ((0 : Int32)).toInt64))))] [] t9) (va_A [(h0, .inr (5, [.ref ac, w0, b0, .int 0])), (ac, .inr (0, [.int 0, .ref t, .int 0])), (o, .inl (ko, 1, .inr (.inl (fo))))] sz)) (vx_X (fun _ : Unit => False) (fun _ _ _ => True) (fun _ => False)) 24 141 (va_A [(h0, .inr (5, [.ref ac, w0, b0, .int 0])), (ac, .inr (0, [.int 0, .ref t, .int 0])), (o, .inl (ko, 1, .inr (.inl (fo))))] sz) := by
  refine vx_ofWH (cc := cL_open) (maxL := 4) (ret := (some .int)) (hh := [(0, 9, 12, 13), (0, 9, 15, 15)]) (by decide) rfl ?_
  intro p e s m args below meth c s₁ B hml hv
  obtain ⟨rfl, hsz, hP, hK, hD0, hQ⟩ := hv
  have hx := B.exec
  have hb := B.bytes
  have hr := B.returns
  have hts : ∀ w ∈ zG, w.before _ s = true := fun w h => atoms_spec (ws := ws_L_open) B.pre w (List.mem_cons_of_mem _ h)
  have htab : c.exceptionTable.toList = tableOf [(0, 9, 12, 13), (0, 9, 15, 15)] := vx_table (x := yL_open) B (atoms_spec (ws := ws_L_open) B.pre _ List.mem_cons_self)
  have hown : s.vm.findClass RL = some m.cls := findClass_of_methodNamed B.named
  have hlocks := B.notSynchronized
  subst hsz
  have hD := hD0.self (sz := s.heap.size)
  generalize hAe : va_A [(h0, .inr (5, [.ref ac, w0, b0, .int 0])), (ac, .inr (0, [.int 0, .ref t, .int 0])), (o, .inl (ko, 1, .inr (.inl (fo))))] s.heap.size = A at hD hQ ⊢
  have hA : ∀ q : Nat, s.heap.size ≤ q → A q := fun q h => by rw [← hAe]; exact Or.inr h
  have hS : va_S A s.heap s.heap [] := va_S.rf
  have hSn : va_S (fun q => s.heap.size ≤ q) s.heap s.heap [] := va_S.rf
  have hP : va_P (dC, dI) zc [(h0, .inr (5, [.ref ac, w0, b0, .int 0])), (ac, .inr (0, [.int 0, .ref t, .int 0])), (o, .inl (ko, 1, .inr (.inl (fo))))] s.heap := hP
  have hl := lv_entry ([.ref h0, .int a, .ref o]) (n := 4) (Nat.le_of_ble_eq_true rfl)
  rw [lg_entry_eq]
  generalize (lg_sl ([.ref h0, .int a, .ref o]) ++ List.replicate (4 - (lg_sl ([.ref h0, .int a, .ref o])).length) Slot.unset).toArray = ls at hl ⊢
  have hl : lv_has ls 4 [(0, .ref h0), (1, .int a), (2, .ref o)] := hl
  refine lv_aload_n hx hb dL_open_0 rfl (lv_at hl 2 rfl) ?_
  refine lv_iconst (v := 0) hx hb dL_open_1 (by decide) ?_
  refine lv_aload_n hx hb dL_open_2 rfl (lv_at hl 0 rfl) ?_
  refine lv_iload_n hx hb dL_open_3 rfl (lv_at hl 1 rfl) ?_
  have hFc := va_free (wc := [(h0, .inr (5, [.ref ac, w0, b0, .int 0])), (ac, .inr (0, [.int 0, .ref t, .int 0]))]) hD hS hA [0, 1] rfl
  refine va_calli (va_runV (As := [.int a]) (rest := [.int 0, .ref o]) ⟨hx, hb, hml, hown, hts⟩ (c_openOk l dC dI s.heap.size t h0 ac w0 b0 a hv1 hv2) (cwV 1 hts (zg_V kw_427 kw_428 kw_429 kw_64 kw_430) rfl rfl rfl (by decide +kernel) ⟨Nat.le_of_ble_eq_true rfl, Nat.le_of_ble_eq_true rfl⟩) ⟨zA_blind, va_recv hK hP (ci := 5) (q0 := 0) rfl rfl, zA_pre hP hD hS hK hQ hA [0, 1] rfl rfl (by decide) [] rfl⟩ rfl rfl hl.1 rfl (lv_room (Nat.le_of_ble_eq_true rfl)) dL_open_4 ⟨zl_b rfl, zl_b rfl⟩) hS (fun q _ h => hFc q h) hFc (fun r_1 u t9 H1 locs ht hvm hw hB hz1 hk1 hS => ?_)
  obtain ⟨hP1, hK1, hD1⟩ := hB
  rw [ht] at hP1
  have hK1 := va_K.moved hvm.symm hK1
  obtain ⟨hP, hD⟩ := va_join (wr := [(o, .inl (ko, 1, .inr (.inl (fo))))]) (w1 := []) hP hD [0, 1] [2] rfl rfl (by decide) (by decide) hk1 hFc hP1 hD1
  have hK := (hK.sub (tys' := [(ko, .long)]) [0] rfl).app hK1
  generalize H1 = H at hP hS ⊢
  have hP : va_P (dC, dI) zc [(o, .inl (ko, 1, .inr (.inl (fo))))] H := hP
  have hD : va_D A [(o, .inl (ko, 1, .inr (.inl (fo))))] := hD
  have hK : va_K (dC, dI) zc [(ko, .long)] s := hK
  refine W.widen (k := 24) (n := 141) (zl_b rfl) (zl_b rfl) ?_
  have hw : (0 : Int32) = r_1 := hw.symm
  subst hw
  refine lv_i2l (v := ((0 : Int32) : Int32).toInt64) hx hb dL_open_7 rfl ?_
  refine va_last hx hb hK hP hD hS 0 0 rfl rfl (by unfold vp_in; decide) dL_open_8 (fun H locs hP hD hS => ?_)
  have hP : va_P (dC, dI) zc [(o, .inl (ko, 1, .inr (.inl (vp_updL (fo) (0 : Int32).toNatClampNeg ((((0 : Int32) : Int32).toInt64))))))] H := hP
  have hD : va_D A [(o, .inl (ko, 1, .inr (.inl (vp_updL (fo) (0 : Int32).toNatClampNeg ((((0 : Int32) : Int32).toInt64))))))] := hD
  refine lv_goto (tgt := 18) hx hb dL_open_9 (by decide) ?_
  refine lv_iconst (v := 0) hx hb dL_open_18 (by decide) ?_
  have hP : va_P (dC, dI) zc [(o, .inl (ko, 1, .inr (.inl (vp_updL fo 0 ((0 : Int32)).toInt64))))] H := hP
  have hD : va_D A [(o, .inl (ko, 1, .inr (.inl (vp_updL fo 0 ((0 : Int32)).toInt64))))] := hD
  have hP9 := hP.sub (ws' := [(o, .inl (ko, 1, .inr (.inl (vp_updL fo 0 ((0 : Int32)).toInt64))))]) [0] rfl
  have hD9 := hD.sub (ws' := [(o, .inl (ko, 1, .inr (.inl (vp_updL fo 0 ((0 : Int32)).toInt64))))]) [0] (by decide) rfl
  have hK9 := hK.sub (tys' := []) [] rfl
  refine vx_ret ?_
  exact W.iret hx hb hr (fun t ht hW => ⟨⟨_, (), rfl, rfl, by rw [ht]; exact hP9, va_K.moved hW.alike hK9, hD9⟩, hS.F ht⟩) hS.2.2 dL_open_19
set_option maxHeartbeats 4000000 in
set_option maxRecDepth 100000 in
/-- setCurrency in the law: 1 -/
theorem lo_curBad1 (l : Launch) (hst : l.stackTraces = false) (dC : Nat → ClassId) (dI : Nat → Nat → Nat) (sz t : Nat) (h0 wa : Nat) (k1 : ClassId) (ac b0 : Value) (a v : Int32) (o : Nat) (hv9 : a < 0 ∨ 3 < a) : vx_Met l yL_setCurrency ws_L_setCurrency ({ frames := 8, cells := 1, slots := 6, locals := 144 }) (zA dC dI [(h0, .inr (5, [ac, .ref wa, b0, .int 0])), (wa, .inl (k1, 4, .inl (zW)))] [(k1, .int)] sz t [.ref h0, .int a, .int v, .ref o]) (va_Qi (fun r (_ : Unit) => r = 1) (fun _ _ => True) (fun q => sz ≤ q)) (vx_X (fun _ : Unit => False) (fun _ _ _ => True) (fun _ => False)) 1 6 (fun q => sz ≤ q) := by
  refine vx_ofWH (cc := cL_setCurrency) (maxL := 5) (ret := (some .int)) (hh := [(0, 10, 13, 13)]) (by decide) rfl ?_
  intro p e s m args below meth c s₁ B hml hv
  obtain ⟨rfl, hsz, hP, hK, hD0, hQ⟩ := hv
  have hx := B.exec
  have hb := B.bytes
  have hr := B.returns
  have hts : ∀ w ∈ zG, w.before _ s = true := fun w h => atoms_spec (ws := ws_L_setCurrency) B.pre w (List.mem_cons_of_mem _ h)
  have htab : c.exceptionTable.toList = tableOf [(0, 10, 13, 13)] := vx_table (x := yL_setCurrency) B (atoms_spec (ws := ws_L_setCurrency) B.pre _ List.mem_cons_self)
  have hown : s.vm.findClass RL = some m.cls := findClass_of_methodNamed B.named
  have hlocks := B.notSynchronized
  subst hsz
  have hD := hD0.self (sz := s.heap.size)
  generalize hAe : va_A [(h0, .inr (5, [ac, .ref wa, b0, .int 0])), (wa, .inl (k1, 4, .inl (zW)))] s.heap.size = A at hD hQ
  have hA : ∀ q : Nat, s.heap.size ≤ q → A q := fun q h => by rw [← hAe]; exact Or.inr h
  have hS : va_S A s.heap s.heap [] := va_S.rf
  have hSn : va_S (fun q => s.heap.size ≤ q) s.heap s.heap [] := va_S.rf
  have hP : va_P (dC, dI) zc [(h0, .inr (5, [ac, .ref wa, b0, .int 0])), (wa, .inl (k1, 4, .inl (zW)))] s.heap := hP
  have hl := lv_entry ([.ref h0, .int a, .int v, .ref o]) (n := 5) (Nat.le_of_ble_eq_true rfl)
  rw [lg_entry_eq]
  generalize (lg_sl ([.ref h0, .int a, .int v, .ref o]) ++ List.replicate (5 - (lg_sl ([.ref h0, .int a, .int v, .ref o])).length) Slot.unset).toArray = ls at hl ⊢
  have hl : lv_has ls 5 [(0, .ref h0), (1, .int a), (2, .int v), (3, .ref o)] := hl
  refine lv_aload_n hx hb dL_setCurrency_0 rfl (lv_at hl 3 rfl) ?_
  refine lv_iconst (v := 0) hx hb dL_setCurrency_1 (by decide) ?_
  refine lv_aload_n hx hb dL_setCurrency_2 rfl (lv_at hl 0 rfl) ?_
  refine lv_iload_n hx hb dL_setCurrency_3 rfl (lv_at hl 1 rfl) ?_
  refine lv_iload_n hx hb dL_setCurrency_4 rfl (lv_at hl 2 rfl) ?_
  refine vx_calli (vx_runV (As := [.int a, .int v]) (rest := [.int 0, .ref o]) ⟨hx, hb, hml, hown, hts⟩ (c_curBad1 l hst dC dI s.heap.size t h0 wa k1 ac b0 a v hv9) (cwV 2 hts (zg_V kw_1016 kw_1017 kw_1018 kw_64 kw_1019) rfl rfl rfl (by decide +kernel) ⟨Nat.le_of_ble_eq_true rfl, Nat.le_of_ble_eq_true rfl⟩) ⟨zA_blind, va_recv hK hP (ci := 5) (q0 := 0) rfl rfl, zA_pre hP hD hS hK hQ hA [0, 1] rfl rfl (by decide) [0] rfl⟩ rfl rfl hl.1 rfl (lv_room (Nat.le_of_ble_eq_true rfl)) dL_setCurrency_5 ⟨zl_b rfl, zl_b rfl⟩) hSn (fun q _ h => h.elim) (fun q h => Nat.le_trans (Nat.le_refl _) h) (fun q _ h => Nat.le_trans (Nat.le_refl _) h) (fun E ce q9 u t9 H1 locs1 ht hvm hp9 hE hz1 hk1 hS1 hc1 hv1 hcl1 => ?_) (fun r u t9 H1 locs1 ht hvm hw hB hz1 hk1 hS1 => hw.elim)
  have hE : E = "java/lang/IllegalArgumentException" := hE
  subst hE
  refine vx_catch (own := RL) (name := "java/lang/IllegalArgumentException") hown [] _ _ htab (fun z hz => absurd hz List.not_mem_nil) rfl (by decide) (hts _ kw_425) (va_Nw.use rfl (zT_kA hQ.1)) hc1 hv1 hcl1 ?_
  refine W.eq (g2 := F0 m 13 ls [.ref q9]) rfl ?_
  generalize H1 = H at hS1 ⊢
  refine W.widen (k := 1) (n := 6) (zl_b rfl) (zl_b rfl) ?_
  refine lv_astore (lv' := [(4, .ref q9), (0, .ref h0), (1, .int a), (2, .int v), (3, .ref o)]) hx hb dL_setCurrency_13 hl (by decide) rfl (fun ls hl => ?_)
  refine lv_iconst (v := 1) hx hb dL_setCurrency_15 (by decide) ?_
  refine vx_ret ?_
  exact W.iret hx hb hr (fun t ht hW => ⟨⟨_, (), rfl, rfl, trivial⟩, zS_F hS1 ht⟩) hS1.2.2 dL_setCurrency_16
set_option maxHeartbeats 4000000 in
set_option maxRecDepth 100000 in
/-- setCurrency in the law: 1 -/
theorem lo_curBad2 (l : Launch) (hst : l.stackTraces = false) (dC : Nat → ClassId) (dI : Nat → Nat → Nat) (sz t : Nat) (h0 wa : Nat) (k1 : ClassId) (ac b0 : Value) (a v : Int32) (o : Nat) (hv1 : ¬ a < 0) (hv2 : ¬ 3 < a) (hv9 : v < 1 ∨ 99999 < v) : vx_Met l yL_setCurrency ws_L_setCurrency ({ frames := 8, cells := 1, slots := 6, locals := 144 }) (zA dC dI [(h0, .inr (5, [ac, .ref wa, b0, .int 0])), (wa, .inl (k1, 4, .inl (zW)))] [(k1, .int)] sz t [.ref h0, .int a, .int v, .ref o]) (va_Qi (fun r (_ : Unit) => r = 1) (fun _ _ => True) (fun q => sz ≤ q)) (vx_X (fun _ : Unit => False) (fun _ _ _ => True) (fun _ => False)) 1 6 (fun q => sz ≤ q) := by
  refine vx_ofWH (cc := cL_setCurrency) (maxL := 5) (ret := (some .int)) (hh := [(0, 10, 13, 13)]) (by decide) rfl ?_
  intro p e s m args below meth c s₁ B hml hv
  obtain ⟨rfl, hsz, hP, hK, hD0, hQ⟩ := hv
  have hx := B.exec
  have hb := B.bytes
  have hr := B.returns
  have hts : ∀ w ∈ zG, w.before _ s = true := fun w h => atoms_spec (ws := ws_L_setCurrency) B.pre w (List.mem_cons_of_mem _ h)
  have htab : c.exceptionTable.toList = tableOf [(0, 10, 13, 13)] := vx_table (x := yL_setCurrency) B (atoms_spec (ws := ws_L_setCurrency) B.pre _ List.mem_cons_self)
  have hown : s.vm.findClass RL = some m.cls := findClass_of_methodNamed B.named
  have hlocks := B.notSynchronized
  subst hsz
  have hD := hD0.self (sz := s.heap.size)
  generalize hAe : va_A [(h0, .inr (5, [ac, .ref wa, b0, .int 0])), (wa, .inl (k1, 4, .inl (zW)))] s.heap.size = A at hD hQ
  have hA : ∀ q : Nat, s.heap.size ≤ q → A q := fun q h => by rw [← hAe]; exact Or.inr h
  have hS : va_S A s.heap s.heap [] := va_S.rf
  have hSn : va_S (fun q => s.heap.size ≤ q) s.heap s.heap [] := va_S.rf
  have hP : va_P (dC, dI) zc [(h0, .inr (5, [ac, .ref wa, b0, .int 0])), (wa, .inl (k1, 4, .inl (zW)))] s.heap := hP
  have hl := lv_entry ([.ref h0, .int a, .int v, .ref o]) (n := 5) (Nat.le_of_ble_eq_true rfl)
  rw [lg_entry_eq]
  generalize (lg_sl ([.ref h0, .int a, .int v, .ref o]) ++ List.replicate (5 - (lg_sl ([.ref h0, .int a, .int v, .ref o])).length) Slot.unset).toArray = ls at hl ⊢
  have hl : lv_has ls 5 [(0, .ref h0), (1, .int a), (2, .int v), (3, .ref o)] := hl
  refine lv_aload_n hx hb dL_setCurrency_0 rfl (lv_at hl 3 rfl) ?_
  refine lv_iconst (v := 0) hx hb dL_setCurrency_1 (by decide) ?_
  refine lv_aload_n hx hb dL_setCurrency_2 rfl (lv_at hl 0 rfl) ?_
  refine lv_iload_n hx hb dL_setCurrency_3 rfl (lv_at hl 1 rfl) ?_
  refine lv_iload_n hx hb dL_setCurrency_4 rfl (lv_at hl 2 rfl) ?_
  refine vx_calli (vx_runV (As := [.int a, .int v]) (rest := [.int 0, .ref o]) ⟨hx, hb, hml, hown, hts⟩ (c_curBad2 l hst dC dI s.heap.size t h0 wa k1 ac b0 a v hv1 hv2 hv9) (cwV 2 hts (zg_V kw_1016 kw_1017 kw_1018 kw_64 kw_1019) rfl rfl rfl (by decide +kernel) ⟨Nat.le_of_ble_eq_true rfl, Nat.le_of_ble_eq_true rfl⟩) ⟨zA_blind, va_recv hK hP (ci := 5) (q0 := 0) rfl rfl, zA_pre hP hD hS hK hQ hA [0, 1] rfl rfl (by decide) [0] rfl⟩ rfl rfl hl.1 rfl (lv_room (Nat.le_of_ble_eq_true rfl)) dL_setCurrency_5 ⟨zl_b rfl, zl_b rfl⟩) hSn (fun q _ h => h.elim) (fun q h => Nat.le_trans (Nat.le_refl _) h) (fun q _ h => Nat.le_trans (Nat.le_refl _) h) (fun E ce q9 u t9 H1 locs1 ht hvm hp9 hE hz1 hk1 hS1 hc1 hv1 hcl1 => ?_) (fun r u t9 H1 locs1 ht hvm hw hB hz1 hk1 hS1 => hw.elim)
  have hE : E = "java/lang/IllegalArgumentException" := hE
  subst hE
  refine vx_catch (own := RL) (name := "java/lang/IllegalArgumentException") hown [] _ _ htab (fun z hz => absurd hz List.not_mem_nil) rfl (by decide) (hts _ kw_425) (va_Nw.use rfl (zT_kA hQ.1)) hc1 hv1 hcl1 ?_
  refine W.eq (g2 := F0 m 13 ls [.ref q9]) rfl ?_
  generalize H1 = H at hS1 ⊢
  refine W.widen (k := 1) (n := 6) (zl_b rfl) (zl_b rfl) ?_
  refine lv_astore (lv' := [(4, .ref q9), (0, .ref h0), (1, .int a), (2, .int v), (3, .ref o)]) hx hb dL_setCurrency_13 hl (by decide) rfl (fun ls hl => ?_)
  refine lv_iconst (v := 1) hx hb dL_setCurrency_15 (by decide) ?_
  refine vx_ret ?_
  exact W.iret hx hb hr (fun t ht hW => ⟨⟨_, (), rfl, rfl, trivial⟩, zS_F hS1 ht⟩) hS1.2.2 dL_setCurrency_16
set_option maxHeartbeats 4000000 in
set_option maxRecDepth 100000 in
/-- setCurrency in the law: 0 -/
theorem lo_curOk (l : Launch) (hst : l.stackTraces = false) (dC : Nat → ClassId) (dI : Nat → Nat → Nat) (sz t : Nat) (h0 wa : Nat) (k1 : ClassId) (ac b0 : Value) (a v : Int32) (hv1 : ¬ a < 0) (hv2 : ¬ 3 < a) (hv3 : ¬ v < 1) (hv4 : ¬ 99999 < v) (o : Nat) (ko : ClassId) (fo : Nat → Int64) : vx_Met l yL_setCurrency ws_L_setCurrency ({ frames := 3, cells := 0, slots := 0, locals := 57 }) (zA dC dI [(h0, .inr (5, [ac, .ref wa, b0, .int 0])), (wa, .inl (k1, 4, .inl (zW))), (o, .inl (ko, 1, .inr (.inl (fo))))] [(k1, .int), (ko, .long)] sz t [.ref h0, .int a, .int v, .ref o]) (va_Qi (fun r (_ : Unit) => r = 0) (fun _ t9 => zB dC dI (va_A [(h0, .inr (5, [ac, .ref wa, b0, .int 0])), (wa, .inl (k1, 4, .inl (zW))), (o, .inl (ko, 1, .inr (.inl (fo))))] sz) [(o, .inl (ko, 1, .inr (.inl (vp_updL fo 0 ((zW a.toNatClampNeg)).toInt64))))] [] t9) (va_A [(h0, .inr (5, [ac, .ref wa, b0, .int 0])), (wa, .inl (k1, 4, .inl (zW))), (o, .inl (ko, 1, .inr (.inl (fo))))] sz)) (vx_X (fun _ : Unit => False) (fun _ _ _ => True) (fun _ => False)) 0 0 (va_A [(h0, .inr (5, [ac, .ref wa, b0, .int 0])), (wa, .inl (k1, 4, .inl (zW))), (o, .inl (ko, 1, .inr (.inl (fo))))] sz) := by
  refine vx_ofWH (cc := cL_setCurrency) (maxL := 5) (ret := (some .int)) (hh := [(0, 10, 13, 13)]) (by decide) rfl ?_
  intro p e s m args below meth c s₁ B hml hv
  obtain ⟨rfl, hsz, hP, hK, hD0, hQ⟩ := hv
  have hx := B.exec
  have hb := B.bytes
  have hr := B.returns
  have hts : ∀ w ∈ zG, w.before _ s = true := fun w h => atoms_spec (ws := ws_L_setCurrency) B.pre w (List.mem_cons_of_mem _ h)
  have htab : c.exceptionTable.toList = tableOf [(0, 10, 13, 13)] := vx_table (x := yL_setCurrency) B (atoms_spec (ws := ws_L_setCurrency) B.pre _ List.mem_cons_self)
  have hown : s.vm.findClass RL = some m.cls := findClass_of_methodNamed B.named
  have hlocks := B.notSynchronized
  subst hsz
  have hD := hD0.self (sz := s.heap.size)
  generalize hAe : va_A [(h0, .inr (5, [ac, .ref wa, b0, .int 0])), (wa, .inl (k1, 4, .inl (zW))), (o, .inl (ko, 1, .inr (.inl (fo))))] s.heap.size = A at hD hQ ⊢
  have hA : ∀ q : Nat, s.heap.size ≤ q → A q := fun q h => by rw [← hAe]; exact Or.inr h
  have hS : va_S A s.heap s.heap [] := va_S.rf
  have hSn : va_S (fun q => s.heap.size ≤ q) s.heap s.heap [] := va_S.rf
  have hP : va_P (dC, dI) zc [(h0, .inr (5, [ac, .ref wa, b0, .int 0])), (wa, .inl (k1, 4, .inl (zW))), (o, .inl (ko, 1, .inr (.inl (fo))))] s.heap := hP
  have hl := lv_entry ([.ref h0, .int a, .int v, .ref o]) (n := 5) (Nat.le_of_ble_eq_true rfl)
  rw [lg_entry_eq]
  generalize (lg_sl ([.ref h0, .int a, .int v, .ref o]) ++ List.replicate (5 - (lg_sl ([.ref h0, .int a, .int v, .ref o])).length) Slot.unset).toArray = ls at hl ⊢
  have hl : lv_has ls 5 [(0, .ref h0), (1, .int a), (2, .int v), (3, .ref o)] := hl
  refine lv_aload_n hx hb dL_setCurrency_0 rfl (lv_at hl 3 rfl) ?_
  refine lv_iconst (v := 0) hx hb dL_setCurrency_1 (by decide) ?_
  refine lv_aload_n hx hb dL_setCurrency_2 rfl (lv_at hl 0 rfl) ?_
  refine lv_iload_n hx hb dL_setCurrency_3 rfl (lv_at hl 1 rfl) ?_
  refine lv_iload_n hx hb dL_setCurrency_4 rfl (lv_at hl 2 rfl) ?_
  have hFc := va_free (wc := [(h0, .inr (5, [ac, .ref wa, b0, .int 0])), (wa, .inl (k1, 4, .inl (zW)))]) hD hS hA [0, 1] rfl
  refine va_calli (va_runV (As := [.int a, .int v]) (rest := [.int 0, .ref o]) ⟨hx, hb, hml, hown, hts⟩ (c_curOk l dC dI s.heap.size t h0 wa k1 ac b0 a v hv1 hv2 hv3 hv4) (cwV 2 hts (zg_V kw_1016 kw_1017 kw_1018 kw_64 kw_1019) rfl rfl rfl (by decide +kernel) ⟨Nat.le_of_ble_eq_true rfl, Nat.le_of_ble_eq_true rfl⟩) ⟨zA_blind, va_recv hK hP (ci := 5) (q0 := 0) rfl rfl, zA_pre hP hD hS hK hQ hA [0, 1] rfl rfl (by decide) [0] rfl⟩ rfl rfl hl.1 rfl (lv_room (Nat.le_of_ble_eq_true rfl)) dL_setCurrency_5 ⟨zl_b rfl, zl_b rfl⟩) hS (fun q _ h => hFc q h) hFc (fun r_1 u t9 H1 locs ht hvm hw hB hz1 hk1 hS => ?_)
  obtain ⟨hP1, hK1, hD1⟩ := hB
  rw [ht] at hP1
  have hK1 := va_K.moved hvm.symm hK1
  obtain ⟨hP, hD⟩ := va_join (wr := [(o, .inl (ko, 1, .inr (.inl (fo))))]) (w1 := []) hP hD [0, 1] [2] rfl rfl (by decide) (by decide) hk1 hFc hP1 hD1
  have hK := (hK.sub (tys' := [(k1, .int), (ko, .long)]) [0, 1] rfl).app hK1
  generalize H1 = H at hP hS ⊢
  have hP : va_P (dC, dI) zc [(o, .inl (ko, 1, .inr (.inl (fo))))] H := hP
  have hD : va_D A [(o, .inl (ko, 1, .inr (.inl (fo))))] := hD
  have hK : va_K (dC, dI) zc [(k1, .int), (ko, .long)] s := hK
  have hw : (zW a.toNatClampNeg) = r_1 := hw.symm
  subst hw
  refine lv_i2l (v := ((zW a.toNatClampNeg) : Int32).toInt64) hx hb dL_setCurrency_8 rfl ?_
  refine va_last hx hb hK hP hD hS 0 1 rfl rfl (by unfold vp_in; decide) dL_setCurrency_9 (fun H locs hP hD hS => ?_)
  have hP : va_P (dC, dI) zc [(o, .inl (ko, 1, .inr (.inl (vp_updL (fo) (0 : Int32).toNatClampNeg ((((zW a.toNatClampNeg) : Int32).toInt64))))))] H := hP
  have hD : va_D A [(o, .inl (ko, 1, .inr (.inl (vp_updL (fo) (0 : Int32).toNatClampNeg ((((zW a.toNatClampNeg) : Int32).toInt64))))))] := hD
  refine lv_goto (tgt := 17) hx hb dL_setCurrency_10 (by decide) ?_
  refine lv_iconst (v := 0) hx hb dL_setCurrency_17 (by decide) ?_
  have hP : va_P (dC, dI) zc [(o, .inl (ko, 1, .inr (.inl (vp_updL fo 0 ((zW a.toNatClampNeg)).toInt64))))] H := hP
  have hD : va_D A [(o, .inl (ko, 1, .inr (.inl (vp_updL fo 0 ((zW a.toNatClampNeg)).toInt64))))] := hD
  have hP9 := hP.sub (ws' := [(o, .inl (ko, 1, .inr (.inl (vp_updL fo 0 ((zW a.toNatClampNeg)).toInt64))))]) [0] rfl
  have hD9 := hD.sub (ws' := [(o, .inl (ko, 1, .inr (.inl (vp_updL fo 0 ((zW a.toNatClampNeg)).toInt64))))]) [0] (by decide) rfl
  have hK9 := hK.sub (tys' := []) [] rfl
  refine vx_ret ?_
  exact W.iret hx hb hr (fun t ht hW => ⟨⟨_, (), rfl, rfl, by rw [ht]; exact hP9, va_K.moved hW.alike hK9, hD9⟩, hS.F ht⟩) hS.2.2 dL_setCurrency_18
set_option maxHeartbeats 4000000 in
set_option maxRecDepth 100000 in
/-- pass in the law: 1 -/
theorem lo_passBad (l : Launch) (hst : l.stackTraces = false) (dC : Nat → ClassId) (dI : Nat → Nat → Nat) (sz t : Nat) (h0 ac : Nat) (w0 b0 : Value) (o : Nat) (a : Int32) (hv9 : a < 1 ∨ 30 < a) : vx_Met l yL_pass ws_L_pass ({ frames := 8, cells := 1, slots := 6, locals := 146 }) (zA dC dI [(h0, .inr (5, [.ref ac, w0, b0, .int 0])), (ac, .inr (0, [.int 0, .ref t, .int 0]))] [] sz t [.ref h0, .int a, .ref o]) (va_Qi (fun r (_ : Unit) => r = 1) (fun _ _ => True) (fun q => sz ≤ q)) (vx_X (fun _ : Unit => False) (fun _ _ _ => True) (fun _ => False)) 1 6 (fun q => sz ≤ q) := by
  refine vx_ofWH (cc := cL_pass) (maxL := 4) (ret := (some .int)) (hh := [(0, 9, 12, 13), (0, 9, 15, 15)]) (by decide) rfl ?_
  intro p e s m args below meth c s₁ B hml hv
  obtain ⟨rfl, hsz, hP, hK, hD0, hQ⟩ := hv
  have hx := B.exec
  have hb := B.bytes
  have hr := B.returns
  have hts : ∀ w ∈ zG, w.before _ s = true := fun w h => atoms_spec (ws := ws_L_pass) B.pre w (List.mem_cons_of_mem _ h)
  have htab : c.exceptionTable.toList = tableOf [(0, 9, 12, 13), (0, 9, 15, 15)] := vx_table (x := yL_pass) B (atoms_spec (ws := ws_L_pass) B.pre _ List.mem_cons_self)
  have hown : s.vm.findClass RL = some m.cls := findClass_of_methodNamed B.named
  have hlocks := B.notSynchronized
  subst hsz
  have hD := hD0.self (sz := s.heap.size)
  generalize hAe : va_A [(h0, .inr (5, [.ref ac, w0, b0, .int 0])), (ac, .inr (0, [.int 0, .ref t, .int 0]))] s.heap.size = A at hD hQ
  have hA : ∀ q : Nat, s.heap.size ≤ q → A q := fun q h => by rw [← hAe]; exact Or.inr h
  have hS : va_S A s.heap s.heap [] := va_S.rf
  have hSn : va_S (fun q => s.heap.size ≤ q) s.heap s.heap [] := va_S.rf
  have hP : va_P (dC, dI) zc [(h0, .inr (5, [.ref ac, w0, b0, .int 0])), (ac, .inr (0, [.int 0, .ref t, .int 0]))] s.heap := hP
  have hl := lv_entry ([.ref h0, .int a, .ref o]) (n := 4) (Nat.le_of_ble_eq_true rfl)
  rw [lg_entry_eq]
  generalize (lg_sl ([.ref h0, .int a, .ref o]) ++ List.replicate (4 - (lg_sl ([.ref h0, .int a, .ref o])).length) Slot.unset).toArray = ls at hl ⊢
  have hl : lv_has ls 4 [(0, .ref h0), (1, .int a), (2, .ref o)] := hl
  refine lv_aload_n hx hb dL_pass_0 rfl (lv_at hl 2 rfl) ?_
  refine lv_iconst (v := 0) hx hb dL_pass_1 (by decide) ?_
  refine lv_aload_n hx hb dL_pass_2 rfl (lv_at hl 0 rfl) ?_
  refine lv_iload_n hx hb dL_pass_3 rfl (lv_at hl 1 rfl) ?_
  refine vx_calli (vx_runV (As := [.int a]) (rest := [.int 0, .ref o]) ⟨hx, hb, hml, hown, hts⟩ (c_passBad l hst dC dI s.heap.size t h0 ac w0 b0 a hv9) (cwV 1 hts (zg_V kw_1136 kw_1137 kw_1138 kw_64 kw_1139) rfl rfl rfl (by decide +kernel) ⟨Nat.le_of_ble_eq_true rfl, Nat.le_of_ble_eq_true rfl⟩) ⟨zA_blind, va_recv hK hP (ci := 5) (q0 := 0) rfl rfl, zA_pre hP hD hS hK hQ hA [0, 1] rfl rfl (by decide) [] rfl⟩ rfl rfl hl.1 rfl (lv_room (Nat.le_of_ble_eq_true rfl)) dL_pass_4 ⟨zl_b rfl, zl_b rfl⟩) hSn (fun q _ h => h.elim) (fun q h => Nat.le_trans (Nat.le_refl _) h) (fun q _ h => Nat.le_trans (Nat.le_refl _) h) (fun E ce q9 u t9 H1 locs1 ht hvm hp9 hE hz1 hk1 hS1 hc1 hv1 hcl1 => ?_) (fun r u t9 H1 locs1 ht hvm hw hB hz1 hk1 hS1 => hw.elim)
  have hE : E = "java/lang/IllegalArgumentException" := hE
  subst hE
  refine vx_catch (own := RL) (name := "java/lang/IllegalArgumentException") hown [] _ _ htab (fun z hz => absurd hz List.not_mem_nil) rfl (by decide) (hts _ kw_425) (va_Nw.use rfl (zT_kA hQ.1)) hc1 hv1 hcl1 ?_
  refine W.eq (g2 := F0 m 12 ls [.ref q9]) rfl ?_
  generalize H1 = H at hS1 ⊢
  refine W.widen (k := 1) (n := 6) (zl_b rfl) (zl_b rfl) ?_
  refine lv_astore_n (lv' := [(3, .ref q9), (0, .ref h0), (1, .int a), (2, .ref o)]) hx hb dL_pass_12 rfl hl (by decide) rfl (fun ls hl => ?_)
  refine lv_iconst (v := 1) hx hb dL_pass_13 (by decide) ?_
  refine vx_ret ?_
  exact W.iret hx hb hr (fun t ht hW => ⟨⟨_, (), rfl, rfl, trivial⟩, zS_F hS1 ht⟩) hS1.2.2 dL_pass_14
set_option maxHeartbeats 4000000 in
set_option maxRecDepth 100000 in
/-- pass in the law: 0 -/
theorem lo_passOk (l : Launch) (hst : l.stackTraces = false) (dC : Nat → ClassId) (dI : Nat → Nat → Nat) (sz t : Nat) (h0 ac : Nat) (w0 b0 : Value) (a : Int32) (hv1 : ¬ a < 1) (hv2 : ¬ 30 < a) (o : Nat) (ko : ClassId) (fo : Nat → Int64) : vx_Met l yL_pass ws_L_pass ({ frames := 3, cells := 0, slots := 0, locals := 59 }) (zA dC dI [(h0, .inr (5, [.ref ac, w0, b0, .int 0])), (ac, .inr (0, [.int 0, .ref t, .int 0])), (o, .inl (ko, 1, .inr (.inl (fo))))] [(ko, .long)] sz t [.ref h0, .int a, .ref o]) (va_Qi (fun r (_ : Unit) => r = 0) (fun _ t9 => zB dC dI (va_A [(h0, .inr (5, [.ref ac, w0, b0, .int 0])), (ac, .inr (0, [.int 0, .ref t, .int 0])), (o, .inl (ko, 1, .inr (.inl (fo))))] sz) [(o, .inl (ko, 1, .inr (.inl (vp_updL fo 0 ((a : Int32)).toInt64))))] [] t9) (va_A [(h0, .inr (5, [.ref ac, w0, b0, .int 0])), (ac, .inr (0, [.int 0, .ref t, .int 0])), (o, .inl (ko, 1, .inr (.inl (fo))))] sz)) (vx_X (fun _ : Unit => False) (fun _ _ _ => True) (fun _ => False)) 0 0 (va_A [(h0, .inr (5, [.ref ac, w0, b0, .int 0])), (ac, .inr (0, [.int 0, .ref t, .int 0])), (o, .inl (ko, 1, .inr (.inl (fo))))] sz) := by
  refine vx_ofWH (cc := cL_pass) (maxL := 4) (ret := (some .int)) (hh := [(0, 9, 12, 13), (0, 9, 15, 15)]) (by decide) rfl ?_
  intro p e s m args below meth c s₁ B hml hv
  obtain ⟨rfl, hsz, hP, hK, hD0, hQ⟩ := hv
  have hx := B.exec
  have hb := B.bytes
  have hr := B.returns
  have hts : ∀ w ∈ zG, w.before _ s = true := fun w h => atoms_spec (ws := ws_L_pass) B.pre w (List.mem_cons_of_mem _ h)
  have htab : c.exceptionTable.toList = tableOf [(0, 9, 12, 13), (0, 9, 15, 15)] := vx_table (x := yL_pass) B (atoms_spec (ws := ws_L_pass) B.pre _ List.mem_cons_self)
  have hown : s.vm.findClass RL = some m.cls := findClass_of_methodNamed B.named
  have hlocks := B.notSynchronized
  subst hsz
  have hD := hD0.self (sz := s.heap.size)
  generalize hAe : va_A [(h0, .inr (5, [.ref ac, w0, b0, .int 0])), (ac, .inr (0, [.int 0, .ref t, .int 0])), (o, .inl (ko, 1, .inr (.inl (fo))))] s.heap.size = A at hD hQ ⊢
  have hA : ∀ q : Nat, s.heap.size ≤ q → A q := fun q h => by rw [← hAe]; exact Or.inr h
  have hS : va_S A s.heap s.heap [] := va_S.rf
  have hSn : va_S (fun q => s.heap.size ≤ q) s.heap s.heap [] := va_S.rf
  have hP : va_P (dC, dI) zc [(h0, .inr (5, [.ref ac, w0, b0, .int 0])), (ac, .inr (0, [.int 0, .ref t, .int 0])), (o, .inl (ko, 1, .inr (.inl (fo))))] s.heap := hP
  have hl := lv_entry ([.ref h0, .int a, .ref o]) (n := 4) (Nat.le_of_ble_eq_true rfl)
  rw [lg_entry_eq]
  generalize (lg_sl ([.ref h0, .int a, .ref o]) ++ List.replicate (4 - (lg_sl ([.ref h0, .int a, .ref o])).length) Slot.unset).toArray = ls at hl ⊢
  have hl : lv_has ls 4 [(0, .ref h0), (1, .int a), (2, .ref o)] := hl
  refine lv_aload_n hx hb dL_pass_0 rfl (lv_at hl 2 rfl) ?_
  refine lv_iconst (v := 0) hx hb dL_pass_1 (by decide) ?_
  refine lv_aload_n hx hb dL_pass_2 rfl (lv_at hl 0 rfl) ?_
  refine lv_iload_n hx hb dL_pass_3 rfl (lv_at hl 1 rfl) ?_
  have hFc := va_free (wc := [(h0, .inr (5, [.ref ac, w0, b0, .int 0])), (ac, .inr (0, [.int 0, .ref t, .int 0]))]) hD hS hA [0, 1] rfl
  refine va_calli (va_runV (As := [.int a]) (rest := [.int 0, .ref o]) ⟨hx, hb, hml, hown, hts⟩ (c_passOk l dC dI s.heap.size t h0 ac w0 b0 a hv1 hv2) (cwV 1 hts (zg_V kw_1136 kw_1137 kw_1138 kw_64 kw_1139) rfl rfl rfl (by decide +kernel) ⟨Nat.le_of_ble_eq_true rfl, Nat.le_of_ble_eq_true rfl⟩) ⟨zA_blind, va_recv hK hP (ci := 5) (q0 := 0) rfl rfl, zA_pre hP hD hS hK hQ hA [0, 1] rfl rfl (by decide) [] rfl⟩ rfl rfl hl.1 rfl (lv_room (Nat.le_of_ble_eq_true rfl)) dL_pass_4 ⟨zl_b rfl, zl_b rfl⟩) hS (fun q _ h => hFc q h) hFc (fun r_1 u t9 H1 locs ht hvm hw hB hz1 hk1 hS => ?_)
  obtain ⟨hP1, hK1, hD1⟩ := hB
  rw [ht] at hP1
  have hK1 := va_K.moved hvm.symm hK1
  obtain ⟨hP, hD⟩ := va_join (wr := [(o, .inl (ko, 1, .inr (.inl (fo))))]) (w1 := []) hP hD [0, 1] [2] rfl rfl (by decide) (by decide) hk1 hFc hP1 hD1
  have hK := (hK.sub (tys' := [(ko, .long)]) [0] rfl).app hK1
  generalize H1 = H at hP hS ⊢
  have hP : va_P (dC, dI) zc [(o, .inl (ko, 1, .inr (.inl (fo))))] H := hP
  have hD : va_D A [(o, .inl (ko, 1, .inr (.inl (fo))))] := hD
  have hK : va_K (dC, dI) zc [(ko, .long)] s := hK
  have hw : (a : Int32) = r_1 := hw.symm
  subst hw
  refine lv_i2l (v := ((a : Int32) : Int32).toInt64) hx hb dL_pass_7 rfl ?_
  refine va_last hx hb hK hP hD hS 0 0 rfl rfl (by unfold vp_in; decide) dL_pass_8 (fun H locs hP hD hS => ?_)
  have hP : va_P (dC, dI) zc [(o, .inl (ko, 1, .inr (.inl (vp_updL (fo) (0 : Int32).toNatClampNeg ((((a : Int32) : Int32).toInt64))))))] H := hP
  have hD : va_D A [(o, .inl (ko, 1, .inr (.inl (vp_updL (fo) (0 : Int32).toNatClampNeg ((((a : Int32) : Int32).toInt64))))))] := hD
  refine lv_goto (tgt := 18) hx hb dL_pass_9 (by decide) ?_
  refine lv_iconst (v := 0) hx hb dL_pass_18 (by decide) ?_
  have hP : va_P (dC, dI) zc [(o, .inl (ko, 1, .inr (.inl (vp_updL fo 0 ((a : Int32)).toInt64))))] H := hP
  have hD : va_D A [(o, .inl (ko, 1, .inr (.inl (vp_updL fo 0 ((a : Int32)).toInt64))))] := hD
  have hP9 := hP.sub (ws' := [(o, .inl (ko, 1, .inr (.inl (vp_updL fo 0 ((a : Int32)).toInt64))))]) [0] rfl
  have hD9 := hD.sub (ws' := [(o, .inl (ko, 1, .inr (.inl (vp_updL fo 0 ((a : Int32)).toInt64))))]) [0] (by decide) rfl
  have hK9 := hK.sub (tys' := []) [] rfl
  refine vx_ret ?_
  exact W.iret hx hb hr (fun t ht hW => ⟨⟨_, (), rfl, rfl, by rw [ht]; exact hP9, va_K.moved hW.alike hK9, hD9⟩, hS.F ht⟩) hS.2.2 dL_pass_19
set_option maxHeartbeats 4000000 in
set_option maxRecDepth 100000 in
/-- missedShare in the law: 1 -/
theorem lo_missedShare (l : Launch) (hst : l.stackTraces = false) (dC : Nat → ClassId) (dI : Nat → Nat → Nat) (sz t : Nat) (h0 ac : Nat) (w0 b0 : Value) (o : Nat) : vx_Met l yL_missedShare ws_L_missedShare ({ frames := 7, cells := 1, slots := 6, locals := 123 }) (zA dC dI [(h0, .inr (5, [.ref ac, w0, b0, .int 0])), (ac, .inr (0, [.int 0, .ref t, .int 0]))] [] sz t [.ref h0, .ref o]) (va_Qi (fun r (_ : Unit) => r = 1) (fun _ _ => True) (fun q => sz ≤ q)) (vx_X (fun _ : Unit => False) (fun _ _ _ => True) (fun _ => False)) 1 6 (fun q => sz ≤ q) := by
  refine vx_ofWH (cc := cL_missedShare) (maxL := 3) (ret := (some .int)) (hh := [(0, 8, 11, 148)]) (by decide) rfl ?_
  intro p e s m args below meth c s₁ B hml hv
  obtain ⟨rfl, hsz, hP, hK, hD0, hQ⟩ := hv
  have hx := B.exec
  have hb := B.bytes
  have hr := B.returns
  have hts : ∀ w ∈ zG, w.before _ s = true := fun w h => atoms_spec (ws := ws_L_missedShare) B.pre w (List.mem_cons_of_mem _ h)
  have htab : c.exceptionTable.toList = tableOf [(0, 8, 11, 148)] := vx_table (x := yL_missedShare) B (atoms_spec (ws := ws_L_missedShare) B.pre _ List.mem_cons_self)
  have hown : s.vm.findClass RL = some m.cls := findClass_of_methodNamed B.named
  have hlocks := B.notSynchronized
  subst hsz
  have hD := hD0.self (sz := s.heap.size)
  generalize hAe : va_A [(h0, .inr (5, [.ref ac, w0, b0, .int 0])), (ac, .inr (0, [.int 0, .ref t, .int 0]))] s.heap.size = A at hD hQ
  have hA : ∀ q : Nat, s.heap.size ≤ q → A q := fun q h => by rw [← hAe]; exact Or.inr h
  have hS : va_S A s.heap s.heap [] := va_S.rf
  have hSn : va_S (fun q => s.heap.size ≤ q) s.heap s.heap [] := va_S.rf
  have hP : va_P (dC, dI) zc [(h0, .inr (5, [.ref ac, w0, b0, .int 0])), (ac, .inr (0, [.int 0, .ref t, .int 0]))] s.heap := hP
  have hl := lv_entry ([.ref h0, .ref o]) (n := 3) (Nat.le_of_ble_eq_true rfl)
  rw [lg_entry_eq]
  generalize (lg_sl ([.ref h0, .ref o]) ++ List.replicate (3 - (lg_sl ([.ref h0, .ref o])).length) Slot.unset).toArray = ls at hl ⊢
  have hl : lv_has ls 3 [(0, .ref h0), (1, .ref o)] := hl
  refine lv_aload_n hx hb dL_missedShare_0 rfl (lv_at hl 1 rfl) ?_
  refine lv_iconst (v := 0) hx hb dL_missedShare_1 (by decide) ?_
  refine lv_aload_n hx hb dL_missedShare_2 rfl (lv_at hl 0 rfl) ?_
  refine vx_callf (vx_runV (As := []) (rest := [.int 0, .ref o]) ⟨hx, hb, hml, hown, hts⟩ (c_missedShare l hst dC dI s.heap.size t h0 ac w0 b0) (cwV 0 hts (zg_V kw_1328 kw_1329 kw_1330 kw_64 kw_1331) rfl rfl rfl (by decide +kernel) ⟨Nat.le_of_ble_eq_true rfl, Nat.le_of_ble_eq_true rfl⟩) ⟨zA_blind, va_recv hK hP (ci := 5) (q0 := 0) rfl rfl, zA_pre hP hD hS hK hQ hA [0, 1] rfl rfl (by decide) [] rfl⟩ rfl rfl hl.1 rfl (lv_room (Nat.le_of_ble_eq_true rfl)) dL_missedShare_3 ⟨zl_b rfl, zl_b rfl⟩) hSn (fun q _ h => h.elim) (fun q h => Nat.le_trans (Nat.le_refl _) h) (fun q _ h => Nat.le_trans (Nat.le_refl _) h) (fun E ce q9 u t9 H1 locs1 ht hvm hp9 hE hz1 hk1 hS1 hc1 hv1 hcl1 => ?_) (fun r u t9 H1 locs1 ht hvm hw hB hz1 hk1 hS1 => hw.elim)
  have hE : E = "java/lang/ArithmeticException" := hE
  subst hE
  refine vx_catch (own := RL) (name := "java/lang/ArithmeticException") hown [] _ _ htab (fun z hz => absurd hz List.not_mem_nil) rfl (by decide) (hts _ kw_1314) (va_Nw.use rfl (zT_kR hQ.1)) hc1 hv1 hcl1 ?_
  refine W.eq (g2 := F0 m 11 ls [.ref q9]) rfl ?_
  generalize H1 = H at hS1 ⊢
  refine W.widen (k := 1) (n := 6) (zl_b rfl) (zl_b rfl) ?_
  refine lv_astore_n (lv' := [(2, .ref q9), (0, .ref h0), (1, .ref o)]) hx hb dL_missedShare_11 rfl hl (by decide) rfl (fun ls hl => ?_)
  refine lv_iconst (v := 1) hx hb dL_missedShare_12 (by decide) ?_
  refine vx_ret ?_
  exact W.iret hx hb hr (fun t ht hW => ⟨⟨_, (), rfl, rfl, trivial⟩, zS_F hS1 ht⟩) hS1.2.2 dL_missedShare_13
set_option maxHeartbeats 4000000 in
set_option maxRecDepth 100000 in
/-- meanOwed in the law: 1 -/
theorem lo_meanOwed (l : Launch) (hst : l.stackTraces = false) (dC : Nat → ClassId) (dI : Nat → Nat → Nat) (sz t : Nat) (h0 ac : Nat) (w0 b0 : Value) (o : Nat) : vx_Met l yL_meanOwed ws_L_meanOwed ({ frames := 7, cells := 1, slots := 6, locals := 123 }) (zA dC dI [(h0, .inr (5, [.ref ac, w0, b0, .int 0])), (ac, .inr (0, [.int 0, .ref t, .int 0]))] [] sz t [.ref h0, .ref o]) (va_Qi (fun r (_ : Unit) => r = 1) (fun _ _ => True) (fun q => sz ≤ q)) (vx_X (fun _ : Unit => False) (fun _ _ _ => True) (fun _ => False)) 1 6 (fun q => sz ≤ q) := by
  refine vx_ofWH (cc := cL_meanOwed) (maxL := 3) (ret := (some .int)) (hh := [(0, 7, 10, 148)]) (by decide) rfl ?_
  intro p e s m args below meth c s₁ B hml hv
  obtain ⟨rfl, hsz, hP, hK, hD0, hQ⟩ := hv
  have hx := B.exec
  have hb := B.bytes
  have hr := B.returns
  have hts : ∀ w ∈ zG, w.before _ s = true := fun w h => atoms_spec (ws := ws_L_meanOwed) B.pre w (List.mem_cons_of_mem _ h)
  have htab : c.exceptionTable.toList = tableOf [(0, 7, 10, 148)] := vx_table (x := yL_meanOwed) B (atoms_spec (ws := ws_L_meanOwed) B.pre _ List.mem_cons_self)
  have hown : s.vm.findClass RL = some m.cls := findClass_of_methodNamed B.named
  have hlocks := B.notSynchronized
  subst hsz
  have hD := hD0.self (sz := s.heap.size)
  generalize hAe : va_A [(h0, .inr (5, [.ref ac, w0, b0, .int 0])), (ac, .inr (0, [.int 0, .ref t, .int 0]))] s.heap.size = A at hD hQ
  have hA : ∀ q : Nat, s.heap.size ≤ q → A q := fun q h => by rw [← hAe]; exact Or.inr h
  have hS : va_S A s.heap s.heap [] := va_S.rf
  have hSn : va_S (fun q => s.heap.size ≤ q) s.heap s.heap [] := va_S.rf
  have hP : va_P (dC, dI) zc [(h0, .inr (5, [.ref ac, w0, b0, .int 0])), (ac, .inr (0, [.int 0, .ref t, .int 0]))] s.heap := hP
  have hl := lv_entry ([.ref h0, .ref o]) (n := 3) (Nat.le_of_ble_eq_true rfl)
  rw [lg_entry_eq]
  generalize (lg_sl ([.ref h0, .ref o]) ++ List.replicate (3 - (lg_sl ([.ref h0, .ref o])).length) Slot.unset).toArray = ls at hl ⊢
  have hl : lv_has ls 3 [(0, .ref h0), (1, .ref o)] := hl
  refine lv_aload_n hx hb dL_meanOwed_0 rfl (lv_at hl 1 rfl) ?_
  refine lv_iconst (v := 0) hx hb dL_meanOwed_1 (by decide) ?_
  refine lv_aload_n hx hb dL_meanOwed_2 rfl (lv_at hl 0 rfl) ?_
  refine vx_calld (vx_runV (As := []) (rest := [.int 0, .ref o]) ⟨hx, hb, hml, hown, hts⟩ (c_meanOwed l hst dC dI s.heap.size t h0 ac w0 b0) (cwV 0 hts (zg_V kw_1340 kw_1341 kw_1342 kw_64 kw_1343) rfl rfl rfl (by decide +kernel) ⟨Nat.le_of_ble_eq_true rfl, Nat.le_of_ble_eq_true rfl⟩) ⟨zA_blind, va_recv hK hP (ci := 5) (q0 := 0) rfl rfl, zA_pre hP hD hS hK hQ hA [0, 1] rfl rfl (by decide) [] rfl⟩ rfl rfl hl.1 rfl (lv_room (Nat.le_of_ble_eq_true rfl)) dL_meanOwed_3 ⟨zl_b rfl, zl_b rfl⟩) hSn (fun q _ h => h.elim) (fun q h => Nat.le_trans (Nat.le_refl _) h) (fun q _ h => Nat.le_trans (Nat.le_refl _) h) (fun E ce q9 u t9 H1 locs1 ht hvm hp9 hE hz1 hk1 hS1 hc1 hv1 hcl1 => ?_) (fun r u t9 H1 locs1 ht hvm hw hB hz1 hk1 hS1 => hw.elim)
  have hE : E = "java/lang/ArithmeticException" := hE
  subst hE
  refine vx_catch (own := RL) (name := "java/lang/ArithmeticException") hown [] _ _ htab (fun z hz => absurd hz List.not_mem_nil) rfl (by decide) (hts _ kw_1314) (va_Nw.use rfl (zT_kR hQ.1)) hc1 hv1 hcl1 ?_
  refine W.eq (g2 := F0 m 10 ls [.ref q9]) rfl ?_
  generalize H1 = H at hS1 ⊢
  refine W.widen (k := 1) (n := 6) (zl_b rfl) (zl_b rfl) ?_
  refine lv_astore_n (lv' := [(2, .ref q9), (0, .ref h0), (1, .ref o)]) hx hb dL_meanOwed_10 rfl hl (by decide) rfl (fun ls hl => ?_)
  refine lv_iconst (v := 1) hx hb dL_meanOwed_11 (by decide) ?_
  refine vx_ret ?_
  exact W.iret hx hb hr (fun t ht hW => ⟨⟨_, (), rfl, rfl, trivial⟩, zS_F hS1 ht⟩) hS1.2.2 dL_meanOwed_12
