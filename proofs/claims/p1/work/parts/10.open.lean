set_option maxHeartbeats 4000000 in
set_option maxRecDepth 100000 in
/-- checkRange: in range -/
theorem c_ckOk (l : Launch) (dC : Nat → ClassId) (dI : Nat → Nat → Nat) (sz t : Nat) (v lo hi : Int32) (hv1 : ¬ v < lo) (hv2 : ¬ hi < v) : Met l yX4_checkRange ws_X4_checkRange ({ frames := 1, cells := 0, slots := 0, locals := 12 }) (zA dC dI [] [] sz t [.int v, .int lo, .int hi]) (va_Sv (fun _ => True)) 0 0 (fun _ => False) := by
  refine Met.ofW (cc := cX4_checkRange) (maxL := 3) (ret := none) (by decide) rfl ?_
  intro p e s m args below meth c s₁ B hml hv
  obtain ⟨rfl, hsz, hP, hK, hD0, hQ⟩ := hv
  have hx := B.exec
  have hb := B.bytes
  have hr := B.returns
  have hts : ∀ w ∈ zG, w.before _ s = true := fun w h => atoms_spec (ws := ws_X4_checkRange) B.pre w (List.mem_cons_of_mem _ h)
  have hown : s.vm.findClass RX4 = some m.cls := findClass_of_methodNamed B.named
  have hlocks := B.notSynchronized
  subst hsz
  have hD := hD0.self (sz := s.heap.size)
  generalize hAe : va_A [] s.heap.size = A at hD hQ
  have hA : ∀ q : Nat, s.heap.size ≤ q → A q := fun q h => by rw [← hAe]; exact Or.inr h
  have hS : va_S A s.heap s.heap [] := va_S.rf
  have hP : va_P (dC, dI) zc [] s.heap := hP
  have hl := lv_entry ([.int v, .int lo, .int hi]) (n := 3) (Nat.le_of_ble_eq_true rfl)
  rw [lg_entry_eq]
  generalize (lg_sl ([.int v, .int lo, .int hi]) ++ List.replicate (3 - (lg_sl ([.int v, .int lo, .int hi])).length) Slot.unset).toArray = ls at hl ⊢
  have hl : lv_has ls 3 [(0, .int v), (1, .int lo), (2, .int hi)] := hl
  refine lv_iload_n hx hb dX4_checkRange_0 rfl (lv_at hl 0 rfl) ?_
  refine lv_iload_n hx hb dX4_checkRange_1 rfl (lv_at hl 1 rfl) ?_
  refine lv_icmp_lt (tgt := 10) hx hb dX4_checkRange_2 (by decide) (fun c_1 => absurd c_1 hv1) (fun c_1 => ?_)
  refine lv_iload_n hx hb dX4_checkRange_5 rfl (lv_at hl 0 rfl) ?_
  refine lv_iload_n hx hb dX4_checkRange_6 rfl (lv_at hl 2 rfl) ?_
  refine lv_icmp_le (tgt := 18) hx hb dX4_checkRange_7 (by decide) (fun c_2 => ?_) (fun c_2 => absurd (zi_le hv2) c_2)
  exact W.vret hx hb hr (fun t ht hW => ⟨rfl, trivial, ht⟩) (fun q hq => absurd hq List.not_mem_nil) dX4_checkRange_18
set_option maxHeartbeats 4000000 in
set_option maxRecDepth 100000 in
/-- checkRange: out of range -/
theorem c_ckBad (l : Launch) (hst : l.stackTraces = false) (dC : Nat → ClassId) (dI : Nat → Nat → Nat) (sz t : Nat) (v lo hi : Int32) (hv9 : v < lo ∨ hi < v) : vx_Met l yX4_checkRange ws_X4_checkRange ({ frames := 6, cells := 1, slots := 6, locals := 99 }) (zA dC dI [] [] sz t [.int v, .int lo, .int hi]) (va_Qv (fun (_ : Unit) => False) (fun _ _ => True) (fun _ => False)) (vx_X (fun _ : Unit => True) (fun E _ _ => E = "java/lang/IllegalArgumentException") (fun q => sz ≤ q)) 1 6 (fun q => sz ≤ q) := by
  refine vx_ofW (cc := cX4_checkRange) (maxL := 3) (ret := none) (by decide) rfl ?_
  intro p e s m args below meth c s₁ B hml htab hv
  obtain ⟨rfl, hsz, hP, hK, hD0, hQ⟩ := hv
  have hx := B.exec
  have hb := B.bytes
  have hr := B.returns
  have hts : ∀ w ∈ zG, w.before _ s = true := fun w h => atoms_spec (ws := ws_X4_checkRange) B.pre w (List.mem_cons_of_mem _ h)
  have hown : s.vm.findClass RX4 = some m.cls := findClass_of_methodNamed B.named
  have hlocks := B.notSynchronized
  subst hsz
  have hD := hD0.self (sz := s.heap.size)
  generalize hAe : va_A [] s.heap.size = A at hD hQ
  have hA : ∀ q : Nat, s.heap.size ≤ q → A q := fun q h => by rw [← hAe]; exact Or.inr h
  have hS : va_S A s.heap s.heap [] := va_S.rf
  have hSn : va_S (fun q => s.heap.size ≤ q) s.heap s.heap [] := va_S.rf
  have hP : va_P (dC, dI) zc [] s.heap := hP
  have hl := lv_entry ([.int v, .int lo, .int hi]) (n := 3) (Nat.le_of_ble_eq_true rfl)
  rw [lg_entry_eq]
  generalize (lg_sl ([.int v, .int lo, .int hi]) ++ List.replicate (3 - (lg_sl ([.int v, .int lo, .int hi])).length) Slot.unset).toArray = ls at hl ⊢
  have hl : lv_has ls 3 [(0, .int v), (1, .int lo), (2, .int hi)] := hl
  refine lv_iload_n hx hb dX4_checkRange_0 rfl (lv_at hl 0 rfl) ?_
  refine lv_iload_n hx hb dX4_checkRange_1 rfl (lv_at hl 1 rfl) ?_
  refine lv_icmp_lt (tgt := 10) hx hb dX4_checkRange_2 (by decide) (fun c_1 => ?_) (fun c_1 => ?_)
  · exact vx_throw0 (own := RX4) (cls := "java/lang/IllegalArgumentException") (names := ["java/lang/RuntimeException", "java/lang/Exception"]) (A := fun q => s.heap.size ≤ q) hx hb hst hown (by decide +kernel) (by decide +kernel) (hts _ kw_435) (hts _ kw_74) (zK_hat za_X4_257 hts (zT_kA hQ.1) hQ.1) (List.forall_mem_cons.mpr ⟨rfl, List.forall_mem_cons.mpr ⟨rfl, fun w h => (za_X4_257 w h).2⟩⟩) (vx_Zq.narrow hQ.2.1 hA) (vx_Zq.narrow hQ.2.2.1 hA) hSn (by rw [hml]; exact hl.1) dX4_checkRange_10 dX4_checkRange_13 dX4_checkRange_14 dX4_checkRange_17 (fun x hx => (htab x hx).elim) (zl_b rfl) (zl_b rfl) (zl_b rfl) (zl_b rfl) hlocks (fun t hvm hz hk => ⟨(), trivial, rfl, hz, fun q h _ => hk q h⟩) (fun q hq => absurd hq List.not_mem_nil) (zl_b rfl) (zl_b rfl)
  · refine lv_iload_n hx hb dX4_checkRange_5 rfl (lv_at hl 0 rfl) ?_
    refine lv_iload_n hx hb dX4_checkRange_6 rfl (lv_at hl 2 rfl) ?_
    refine lv_icmp_le (tgt := 18) hx hb dX4_checkRange_7 (by decide) (fun c_2 => absurd c_2 (zi_nle (hv9.resolve_left c_1))) (fun c_2 => ?_)
    exact vx_throw0 (own := RX4) (cls := "java/lang/IllegalArgumentException") (names := ["java/lang/RuntimeException", "java/lang/Exception"]) (A := fun q => s.heap.size ≤ q) hx hb hst hown (by decide +kernel) (by decide +kernel) (hts _ kw_435) (hts _ kw_74) (zK_hat za_X4_257 hts (zT_kA hQ.1) hQ.1) (List.forall_mem_cons.mpr ⟨rfl, List.forall_mem_cons.mpr ⟨rfl, fun w h => (za_X4_257 w h).2⟩⟩) (vx_Zq.narrow hQ.2.1 hA) (vx_Zq.narrow hQ.2.2.1 hA) hSn (by rw [hml]; exact hl.1) dX4_checkRange_10 dX4_checkRange_13 dX4_checkRange_14 dX4_checkRange_17 (fun x hx => (htab x hx).elim) (zl_b rfl) (zl_b rfl) (zl_b rfl) (zl_b rfl) hlocks (fun t hvm hz hk => ⟨(), trivial, rfl, hz, fun q h _ => hk q h⟩) (fun q hq => absurd hq List.not_mem_nil) (zl_b rfl) (zl_b rfl)
set_option maxHeartbeats 4000000 in
set_option maxRecDepth 100000 in
/-- grow(1) of the empty row -/
theorem c_growI (l : Launch) (dC : Nat → ClassId) (dI : Nat → Nat → Nat) (sz t : Nat) (h0 : Nat) (m0 : Int32) : Met l yJx4a65c_grow_92f84 ws_Jx4a65c_grow_92f84 ({ frames := 2, cells := 1, slots := 10, locals := 60 }) (zA dC dI [(h0, .inr (0, [.int m0, .ref t, .int 0]))] [] sz t [.ref h0, .int 1]) (va_Qr (fun _ : Unit => True) (fun _ ra t9 => ∃ k1 : ClassId, zB dC dI (va_A [(h0, .inr (0, [.int m0, .ref t, .int 0]))] sz) [(h0, .inr (0, [.int m0, .ref ra, .int 0])), (ra, .inl (k1, 10, .inr (.inr (.inr (.inr (fun _ => none))))))] [(k1, .object "java/lang/Object")] t9) (va_A [(h0, .inr (0, [.int m0, .ref t, .int 0]))] sz)) 1 10 (va_A [(h0, .inr (0, [.int m0, .ref t, .int 0]))] sz) := by
  refine Met.ofW (cc := cJx4a65c_grow_92f84) (maxL := 4) (ret := (some (.array (.object "java/lang/Object")))) (by decide) rfl ?_
  intro p e s m args below meth c s₁ B hml hv
  obtain ⟨rfl, hsz, hP, hK, hD0, hQ⟩ := hv
  have hx := B.exec
  have hb := B.bytes
  have hr := B.returns
  have hts : ∀ w ∈ zG, w.before _ s = true := fun w h => atoms_spec (ws := ws_Jx4a65c_grow_92f84) B.pre w (List.mem_cons_of_mem _ h)
  have hown : s.vm.findClass RJx4a65c = some m.cls := findClass_of_methodNamed B.named
  have hlocks := B.notSynchronized
  subst hsz
  have hD := hD0.self (sz := s.heap.size)
  generalize hAe : va_A [(h0, .inr (0, [.int m0, .ref t, .int 0]))] s.heap.size = A at hD hQ ⊢
  have hA : ∀ q : Nat, s.heap.size ≤ q → A q := fun q h => by rw [← hAe]; exact Or.inr h
  have hS : va_S A s.heap s.heap [] := va_S.rf
  have hP : va_P (dC, dI) zc [(h0, .inr (0, [.int m0, .ref t, .int 0]))] s.heap := hP
  have hl := lv_entry ([.ref h0, .int 1]) (n := 4) (Nat.le_of_ble_eq_true rfl)
  rw [lg_entry_eq]
  generalize (lg_sl ([.ref h0, .int 1]) ++ List.replicate (4 - (lg_sl ([.ref h0, .int 1])).length) Slot.unset).toArray = ls at hl ⊢
  have hl : lv_has ls 4 [(0, .ref h0), (1, .int 1)] := hl
  refine lv_aload_n hx hb dJx4a65c_grow_92f84_0 rfl (lv_at hl 0 rfl) ?_
  refine va_get (D := (dC, dI)) (ci := 0) (v := .ref t) (C := RJx4a65c) (T := TJx4a65c) (N := 3) hx hb hts iJx4a65c hown hK hP 0 rfl rfl 1 (by decide) (hts _ kw_125) (fun _ h9 => h9) rfl dJx4a65c_grow_92f84_1 ?_
  refine va_tlen (v := 0) hx hb hQ.2.2.2.2 hS rfl dJx4a65c_grow_92f84_4 ?_
  refine lv_istore_n (lv' := [(2, .int 0), (0, .ref h0), (1, .int 1)]) hx hb dJx4a65c_grow_92f84_5 rfl hl (by decide) rfl (fun ls hl => ?_)
  refine lv_iload_n hx hb dJx4a65c_grow_92f84_6 rfl (lv_at hl 0 rfl) ?_
  refine lv_if_gt (tgt := 20) hx hb dJx4a65c_grow_92f84_7 (by decide) (fun c_1 => absurd c_1 (by decide)) (fun c_1 => ?_)
  refine lv_aload_n hx hb dJx4a65c_grow_92f84_10 rfl (lv_at hl 1 rfl) ?_
  refine va_get (D := (dC, dI)) (ci := 0) (v := .ref t) (C := RJx4a65c) (T := TJx4a65c) (N := 3) hx hb hts iJx4a65c hown hK hP 0 rfl rfl 1 (by decide) (hts _ kw_125) (fun _ h9 => h9) rfl dJx4a65c_grow_92f84_11 ?_
  refine va_gets hx hb hQ.2.2.2.1 hS hown (hts _ kw_123) (fun _ h9 => h9) dJx4a65c_grow_92f84_14 ?_
  refine lv_acmp_eq (rx := some t) (ry := some t) (tgt := 45) hx hb dJx4a65c_grow_92f84_17 (by decide) (fun _ => ?_) (fun c => absurd rfl c)
  refine lv_aload_n hx hb dJx4a65c_grow_92f84_45 rfl (lv_at hl 1 rfl) ?_
  refine lv_bipush (v := 10) hx hb dJx4a65c_grow_92f84_46 (by decide) ?_
  refine lv_iload_n hx hb dJx4a65c_grow_92f84_48 rfl (lv_at hl 2 rfl) ?_
  refine va_mmax hx hb (by rw [hml]; exact hl.1.symm) hown (hts _ kw_626) (hts _ kw_388) (hts _ kw_78) (hts _ kw_389) (zl_b rfl) (zl_b rfl) (zl_b rfl) (zl_b rfl) dJx4a65c_grow_92f84_49 ?_
  refine lv_topi (fun x_2 e_x_2 => ?_)
  obtain rfl : x_2 = 10 := by rw [e_x_2]; decide
  refine va_newq hx hb hown (hts _ kw_627) (zT_aoO hQ.1) hK hP hD hS hA (by decide) rfl (by decide) (zl_b rfl) (zl_b rfl) dJx4a65c_grow_92f84_52 (fun q_3 k_4 H hK hP hD hS => ?_)
  have hP : va_P (dC, dI) zc [(h0, .inr (0, [.int m0, .ref t, .int 0])), (q_3, .inl (k_4, 10, .inr (.inr (.inr (.inr (fun _ => none))))))] H := hP
  have hD : va_D A [(h0, .inr (0, [.int m0, .ref t, .int 0])), (q_3, .inl (k_4, 10, .inr (.inr (.inr (.inr (fun _ => none))))))] := hD
  have hK : va_K (dC, dI) zc [(k_4, .object "java/lang/Object")] s := hK
  refine W.widen (k := 1) (n := 10) (zl_b rfl) (zl_b rfl) ?_
  refine lv_dup_x1 hx hb dJx4a65c_grow_92f84_55 rfl rfl ?_
  refine va_put (D := (dC, dI)) (ci := 0) (v := .ref q_3) (ty := .array (.object "java/lang/Object")) (C := RJx4a65c) (T := TJx4a65c) (N := 3) hx hb hts iJx4a65c tyJx4a65c tyJx4a65c_ok nmJx4a65c hown hK hP hD hS 0 rfl rfl 1 (by decide) (hts _ kw_125) (fun _ h9 => h9) rfl (by decide +kernel) rfl rfl (Nat.le_of_ble_eq_true rfl) dJx4a65c_grow_92f84_56 (fun H locs hP hD hS => ?_)
  have hP : va_P (dC, dI) zc [(h0, .inr (0, [.int m0, .ref q_3, .int 0])), (q_3, .inl (k_4, 10, .inr (.inr (.inr (.inr (fun _ => none))))))] H := hP
  have hD : va_D A [(h0, .inr (0, [.int m0, .ref q_3, .int 0])), (q_3, .inl (k_4, 10, .inr (.inr (.inr (.inr (fun _ => none))))))] := hD
  have hP9 := hP.sub (ws' := [(h0, .inr (0, [.int m0, .ref q_3, .int 0])), (q_3, .inl (k_4, 10, .inr (.inr (.inr (.inr (fun _ => none))))))]) [0, 1] rfl
  have hD9 := hD.sub (ws' := [(h0, .inr (0, [.int m0, .ref q_3, .int 0])), (q_3, .inl (k_4, 10, .inr (.inr (.inr (.inr (fun _ => none))))))]) [0, 1] (by decide) rfl
  have hK9 := hK.sub (tys' := [(k_4, .object "java/lang/Object")]) [0] rfl
  exact W.aret (v := .ref q_3) hx hb hr (by first | exact Or.inl ⟨_, rfl⟩ | exact Or.inr ⟨_, rfl⟩) (Or.inr ⟨_, rfl⟩) (fun t ht hW => ⟨⟨(), _, rfl, trivial, k_4, by rw [ht]; exact hP9, va_K.moved hW.alike hK9, hD9⟩, hS.F ht⟩) hS.2.2 dJx4a65c_grow_92f84_59
set_option maxHeartbeats 4000000 in
set_option maxRecDepth 100000 in
/-- grow() of the empty row -/
theorem c_grow (l : Launch) (dC : Nat → ClassId) (dI : Nat → Nat → Nat) (sz t : Nat) (h0 : Nat) (m0 : Int32) : Met l yJx4a65c_grow_d5877 ws_Jx4a65c_grow_d5877 ({ frames := 3, cells := 1, slots := 10, locals := 83 }) (zA dC dI [(h0, .inr (0, [.int m0, .ref t, .int 0]))] [] sz t [.ref h0]) (va_Qr (fun _ : Unit => True) (fun _ ra t9 => ∃ k1 : ClassId, zB dC dI (va_A [(h0, .inr (0, [.int m0, .ref t, .int 0]))] sz) [(h0, .inr (0, [.int m0, .ref ra, .int 0])), (ra, .inl (k1, 10, .inr (.inr (.inr (.inr (fun _ => none))))))] [(k1, .object "java/lang/Object")] t9) (va_A [(h0, .inr (0, [.int m0, .ref t, .int 0]))] sz)) 1 10 (va_A [(h0, .inr (0, [.int m0, .ref t, .int 0]))] sz) := by
  refine Met.ofW (cc := cJx4a65c_grow_d5877) (maxL := 1) (ret := (some (.array (.object "java/lang/Object")))) (by decide) rfl ?_
  intro p e s m args below meth c s₁ B hml hv
  obtain ⟨rfl, hsz, hP, hK, hD0, hQ⟩ := hv
  have hx := B.exec
  have hb := B.bytes
  have hr := B.returns
  have hts : ∀ w ∈ zG, w.before _ s = true := fun w h => atoms_spec (ws := ws_Jx4a65c_grow_d5877) B.pre w (List.mem_cons_of_mem _ h)
  have hown : s.vm.findClass RJx4a65c = some m.cls := findClass_of_methodNamed B.named
  have hlocks := B.notSynchronized
  subst hsz
  have hD := hD0.self (sz := s.heap.size)
  generalize hAe : va_A [(h0, .inr (0, [.int m0, .ref t, .int 0]))] s.heap.size = A at hD hQ ⊢
  have hA : ∀ q : Nat, s.heap.size ≤ q → A q := fun q h => by rw [← hAe]; exact Or.inr h
  have hS : va_S A s.heap s.heap [] := va_S.rf
  have hP : va_P (dC, dI) zc [(h0, .inr (0, [.int m0, .ref t, .int 0]))] s.heap := hP
  have hl := lv_entry ([.ref h0]) (n := 1) (Nat.le_of_ble_eq_true rfl)
  rw [lg_entry_eq]
  generalize (lg_sl ([.ref h0]) ++ List.replicate (1 - (lg_sl ([.ref h0])).length) Slot.unset).toArray = ls at hl ⊢
  have hl : lv_has ls 1 [(0, .ref h0)] := hl
  refine lv_aload_n hx hb dJx4a65c_grow_d5877_0 rfl (lv_at hl 0 rfl) ?_
  refine lv_aload_n hx hb dJx4a65c_grow_d5877_1 rfl (lv_at hl 0 rfl) ?_
  refine va_get (D := (dC, dI)) (ci := 0) (v := .int 0) (C := RJx4a65c) (T := TJx4a65c) (N := 3) hx hb hts iJx4a65c hown hK hP 0 rfl rfl 2 (by decide) (hts _ kw_128) (fun _ h9 => h9) rfl dJx4a65c_grow_d5877_2 ?_
  refine lv_iconst (v := 1) hx hb dJx4a65c_grow_d5877_5 (by decide) ?_
  refine lv_iadd hx hb dJx4a65c_grow_d5877_6 ?_
  refine lv_topi (fun x_1 e_x_1 => ?_)
  obtain rfl : x_1 = 1 := by rw [e_x_1]; decide
  have hFc := va_free (wc := [(h0, .inr (0, [.int m0, .ref t, .int 0]))]) hD hS hA [0] rfl
  refine va_callr (va_runV (As := [.int 1]) (rest := []) ⟨hx, hb, hml, hown, hts⟩ (c_growI l dC dI s.heap.size t h0 m0) (cwV 1 hts (zg_V kw_574 kw_576 kw_29 kw_67 kw_577) rfl rfl rfl (by decide +kernel) ⟨Nat.le_of_ble_eq_true rfl, Nat.le_of_ble_eq_true rfl⟩) ⟨zA_blind, va_recv hK hP (ci := 0) (q0 := 0) rfl rfl, zA_pre hP hD hS hK hQ hA [0] rfl rfl (by decide) [] rfl⟩ rfl rfl hl.1 rfl (lv_room (Nat.le_of_ble_eq_true rfl)) dJx4a65c_grow_d5877_7 ⟨zl_b rfl, zl_b rfl⟩) hS (fun q _ h => hFc q h) hFc (fun u ra t9 H1 locs ht hvm hw hB hz1 hk1 hS => ?_)
  obtain ⟨k1, hP1, hK1, hD1⟩ := hB
  rw [ht] at hP1
  have hK1 := va_K.moved hvm.symm hK1
  obtain ⟨hP, hD⟩ := va_join (wr := []) (w1 := [(h0, .inr (0, [.int m0, .ref ra, .int 0])), (ra, .inl (k1, 10, .inr (.inr (.inr (.inr (fun _ => none))))))]) hP hD [0] [] rfl rfl (by decide) (by decide) hk1 hFc hP1 hD1
  have hK := (hK.sub (tys' := []) [] rfl).app hK1
  generalize H1 = H at hP hS ⊢
  have hP : va_P (dC, dI) zc [(h0, .inr (0, [.int m0, .ref ra, .int 0])), (ra, .inl (k1, 10, .inr (.inr (.inr (.inr (fun _ => none))))))] H := hP
  have hD : va_D A [(h0, .inr (0, [.int m0, .ref ra, .int 0])), (ra, .inl (k1, 10, .inr (.inr (.inr (.inr (fun _ => none))))))] := hD
  have hK : va_K (dC, dI) zc [(k1, .object "java/lang/Object")] s := hK
  refine W.widen (k := 1) (n := 10) (zl_b rfl) (zl_b rfl) ?_
  have hP9 := hP.sub (ws' := [(h0, .inr (0, [.int m0, .ref ra, .int 0])), (ra, .inl (k1, 10, .inr (.inr (.inr (.inr (fun _ => none))))))]) [0, 1] rfl
  have hD9 := hD.sub (ws' := [(h0, .inr (0, [.int m0, .ref ra, .int 0])), (ra, .inl (k1, 10, .inr (.inr (.inr (.inr (fun _ => none))))))]) [0, 1] (by decide) rfl
  have hK9 := hK.sub (tys' := [(k1, .object "java/lang/Object")]) [0] rfl
  exact W.aret (v := .ref ra) hx hb hr (by first | exact Or.inl ⟨_, rfl⟩ | exact Or.inr ⟨_, rfl⟩) (Or.inr ⟨_, rfl⟩) (fun t ht hW => ⟨⟨(), _, rfl, trivial, k1, by rw [ht]; exact hP9, va_K.moved hW.alike hK9, hD9⟩, hS.F ht⟩) hS.2.2 dJx4a65c_grow_d5877_10
set_option maxHeartbeats 4000000 in
set_option maxRecDepth 100000 in
/-- add(e, elementData, 0) of the empty row -/
theorem c_add3A (l : Launch) (dC : Nat → ClassId) (dI : Nat → Nat → Nat) (sz t : Nat) (h0 e9 : Nat) (m0 : Int32) (fs : List Value) : Met l yJx4a65c_add_72be8 ws_Jx4a65c_add_72be8 ({ frames := 4, cells := 1, slots := 10, locals := 103 }) (zA dC dI [(h0, .inr (0, [.int m0, .ref t, .int 0])), (e9, .inr (2, fs))] [] sz t [.ref h0, .ref e9, .ref t, .int 0]) (va_Qv (fun _ : Unit => True) (fun _ t9 => ∃ (ra : Nat) (k1 : ClassId), zB dC dI (va_A [(h0, .inr (0, [.int m0, .ref t, .int 0])), (e9, .inr (2, fs))] sz) [(h0, .inr (0, [.int m0, .ref ra, .int 1])), (e9, .inr (2, fs)), (ra, .inl (k1, 10, .inr (.inr (.inr (.inr (zE e9))))))] [(k1, .object "java/lang/Object")] t9) (va_A [(h0, .inr (0, [.int m0, .ref t, .int 0])), (e9, .inr (2, fs))] sz)) 1 10 (va_A [(h0, .inr (0, [.int m0, .ref t, .int 0])), (e9, .inr (2, fs))] sz) := by
  refine Met.ofW (cc := cJx4a65c_add_72be8) (maxL := 4) (ret := none) (by decide) rfl ?_
  intro p e s m args below meth c s₁ B hml hv
  obtain ⟨rfl, hsz, hP, hK, hD0, hQ⟩ := hv
  have hx := B.exec
  have hb := B.bytes
  have hr := B.returns
  have hts : ∀ w ∈ zG, w.before _ s = true := fun w h => atoms_spec (ws := ws_Jx4a65c_add_72be8) B.pre w (List.mem_cons_of_mem _ h)
  have hown : s.vm.findClass RJx4a65c = some m.cls := findClass_of_methodNamed B.named
  have hlocks := B.notSynchronized
  subst hsz
  have hD := hD0.self (sz := s.heap.size)
  generalize hAe : va_A [(h0, .inr (0, [.int m0, .ref t, .int 0])), (e9, .inr (2, fs))] s.heap.size = A at hD hQ ⊢
  have hA : ∀ q : Nat, s.heap.size ≤ q → A q := fun q h => by rw [← hAe]; exact Or.inr h
  have hS : va_S A s.heap s.heap [] := va_S.rf
  have hP : va_P (dC, dI) zc [(h0, .inr (0, [.int m0, .ref t, .int 0])), (e9, .inr (2, fs))] s.heap := hP
  have hl := lv_entry ([.ref h0, .ref e9, .ref t, .int 0]) (n := 4) (Nat.le_of_ble_eq_true rfl)
  rw [lg_entry_eq]
  generalize (lg_sl ([.ref h0, .ref e9, .ref t, .int 0]) ++ List.replicate (4 - (lg_sl ([.ref h0, .ref e9, .ref t, .int 0])).length) Slot.unset).toArray = ls at hl ⊢
  have hl : lv_has ls 4 [(0, .ref h0), (1, .ref e9), (2, .ref t), (3, .int 0)] := hl
  refine lv_iload_n hx hb dJx4a65c_add_72be8_0 rfl (lv_at hl 3 rfl) ?_
  refine lv_aload_n hx hb dJx4a65c_add_72be8_1 rfl (lv_at hl 2 rfl) ?_
  refine va_tlen (v := 0) hx hb hQ.2.2.2.2 hS rfl dJx4a65c_add_72be8_2 ?_
  refine lv_icmp_ne (tgt := 11) hx hb dJx4a65c_add_72be8_3 (by decide) (fun c_1 => absurd c_1 (by decide)) (fun c_1 => ?_)
  refine lv_aload_n hx hb dJx4a65c_add_72be8_6 rfl (lv_at hl 0 rfl) ?_
  have hFc := va_free (wc := [(h0, .inr (0, [.int m0, .ref t, .int 0]))]) hD hS hA [0] rfl
  refine va_callr (va_runV (As := []) (rest := []) ⟨hx, hb, hml, hown, hts⟩ (c_grow l dC dI s.heap.size t h0 m0) (cwV 0 hts (zg_V kw_570 kw_572 kw_28 kw_67 kw_573) rfl rfl rfl (by decide +kernel) ⟨Nat.le_of_ble_eq_true rfl, Nat.le_of_ble_eq_true rfl⟩) ⟨zA_blind, va_recv hK hP (ci := 0) (q0 := 0) rfl rfl, zA_pre hP hD hS hK hQ hA [0] rfl rfl (by decide) [] rfl⟩ rfl rfl hl.1 rfl (lv_room (Nat.le_of_ble_eq_true rfl)) dJx4a65c_add_72be8_7 ⟨zl_b rfl, zl_b rfl⟩) hS (fun q _ h => hFc q h) hFc (fun u ra t9 H1 locs ht hvm hw hB hz1 hk1 hS => ?_)
  obtain ⟨k1, hP1, hK1, hD1⟩ := hB
  rw [ht] at hP1
  have hK1 := va_K.moved hvm.symm hK1
  obtain ⟨hP, hD⟩ := va_join (wr := [(e9, .inr (2, fs))]) (w1 := [(h0, .inr (0, [.int m0, .ref ra, .int 0])), (ra, .inl (k1, 10, .inr (.inr (.inr (.inr (fun _ => none))))))]) hP hD [0] [1] rfl rfl (by decide) (by decide) hk1 hFc hP1 hD1
  have hK := (hK.sub (tys' := []) [] rfl).app hK1
  generalize H1 = H at hP hS ⊢
  have hP : va_P (dC, dI) zc [(e9, .inr (2, fs)), (h0, .inr (0, [.int m0, .ref ra, .int 0])), (ra, .inl (k1, 10, .inr (.inr (.inr (.inr (fun _ => none))))))] H := hP
  have hD : va_D A [(e9, .inr (2, fs)), (h0, .inr (0, [.int m0, .ref ra, .int 0])), (ra, .inl (k1, 10, .inr (.inr (.inr (.inr (fun _ => none))))))] := hD
  have hK : va_K (dC, dI) zc [(k1, .object "java/lang/Object")] s := hK
  refine W.widen (k := 1) (n := 10) (zl_b rfl) (zl_b rfl) ?_
  refine lv_astore_n (lv' := [(2, .ref ra), (0, .ref h0), (1, .ref e9), (3, .int 0)]) hx hb dJx4a65c_add_72be8_10 rfl hl (by decide) rfl (fun ls hl => ?_)
  refine lv_aload_n hx hb dJx4a65c_add_72be8_11 rfl (lv_at hl 0 rfl) ?_
  refine lv_iload_n hx hb dJx4a65c_add_72be8_12 rfl (lv_at hl 3 rfl) ?_
  refine lv_aload_n hx hb dJx4a65c_add_72be8_13 rfl (lv_at hl 2 rfl) ?_
  refine va_astqO hx hb hK hP hD hS 2 0 0 2 rfl rfl (zT_caX0 hQ.1) rfl rfl (by unfold vp_in; decide) dJx4a65c_add_72be8_14 (fun H locs hP hD hS => ?_)
  have hP : va_P (dC, dI) zc [(e9, .inr (2, fs)), (h0, .inr (0, [.int m0, .ref ra, .int 0])), (ra, .inl (k1, 10, .inr (.inr (.inr (.inr (va_up (fun _ => none) (0 : Int32).toNatClampNeg (some e9)))))))] H := hP
  have hD : va_D A [(e9, .inr (2, fs)), (h0, .inr (0, [.int m0, .ref ra, .int 0])), (ra, .inl (k1, 10, .inr (.inr (.inr (.inr (va_up (fun _ => none) (0 : Int32).toNatClampNeg (some e9)))))))] := hD
  refine lv_aload_n hx hb dJx4a65c_add_72be8_15 rfl (lv_at hl 1 rfl) ?_
  refine lv_iload_n hx hb dJx4a65c_add_72be8_16 rfl (lv_at hl 3 rfl) ?_
  refine lv_iconst (v := 1) hx hb dJx4a65c_add_72be8_17 (by decide) ?_
  refine lv_iadd hx hb dJx4a65c_add_72be8_18 ?_
  refine lv_topi (fun x_2 e_x_2 => ?_)
  obtain rfl : x_2 = 1 := by rw [e_x_2]; decide
  refine va_put (D := (dC, dI)) (ci := 0) (v := .int 1) (ty := .int) (C := RJx4a65c) (T := TJx4a65c) (N := 3) hx hb hts iJx4a65c tyJx4a65c tyJx4a65c_ok nmJx4a65c hown hK hP hD hS 1 rfl rfl 2 (by decide) (hts _ kw_128) (fun _ h9 => h9) rfl (by decide +kernel) rfl rfl (Nat.le_of_ble_eq_true rfl) dJx4a65c_add_72be8_19 (fun H locs hP hD hS => ?_)
  have hP : va_P (dC, dI) zc [(e9, .inr (2, fs)), (h0, .inr (0, [.int m0, .ref ra, .int 1])), (ra, .inl (k1, 10, .inr (.inr (.inr (.inr (va_up (fun _ => none) (0 : Int32).toNatClampNeg (some e9)))))))] H := hP
  have hD : va_D A [(e9, .inr (2, fs)), (h0, .inr (0, [.int m0, .ref ra, .int 1])), (ra, .inl (k1, 10, .inr (.inr (.inr (.inr (va_up (fun _ => none) (0 : Int32).toNatClampNeg (some e9)))))))] := hD
  have hP : va_P (dC, dI) zc [(e9, .inr (2, fs)), (h0, .inr (0, [.int m0, .ref ra, .int 1])), (ra, .inl (k1, 10, .inr (.inr (.inr (.inr (zE e9))))))] H := hP
  have hD : va_D A [(e9, .inr (2, fs)), (h0, .inr (0, [.int m0, .ref ra, .int 1])), (ra, .inl (k1, 10, .inr (.inr (.inr (.inr (zE e9))))))] := hD
  have hP9 := hP.sub (ws' := [(h0, .inr (0, [.int m0, .ref ra, .int 1])), (e9, .inr (2, fs)), (ra, .inl (k1, 10, .inr (.inr (.inr (.inr (zE e9))))))]) [1, 0, 2] rfl
  have hD9 := hD.sub (ws' := [(h0, .inr (0, [.int m0, .ref ra, .int 1])), (e9, .inr (2, fs)), (ra, .inl (k1, 10, .inr (.inr (.inr (.inr (zE e9))))))]) [1, 0, 2] (by decide) rfl
  have hK9 := hK.sub (tys' := [(k1, .object "java/lang/Object")]) [0] rfl
  exact W.vret hx hb hr (fun t ht hW => ⟨⟨(), rfl, trivial, ra, k1, by rw [ht]; exact hP9, va_K.moved hW.alike hK9, hD9⟩, hS.F ht⟩) hS.2.2 dJx4a65c_add_72be8_22
set_option maxHeartbeats 4000000 in
set_option maxRecDepth 100000 in
/-- add(e) of a fresh list -/
theorem c_addA (l : Launch) (dC : Nat → ClassId) (dI : Nat → Nat → Nat) (sz t : Nat) (h0 e9 : Nat) (fs : List Value) : Met l yJx4a65c_add_9ea2d ws_Jx4a65c_add_9ea2d ({ frames := 5, cells := 1, slots := 10, locals := 126 }) (zA dC dI [(h0, .inr (0, [.int 0, .ref t, .int 0])), (e9, .inr (2, fs))] [] sz t [.ref h0, .ref e9]) (va_Qi (fun r (_ : Unit) => r = 1) (fun _ t9 => ∃ (ra : Nat) (k1 : ClassId), zB dC dI (va_A [(h0, .inr (0, [.int 0, .ref t, .int 0])), (e9, .inr (2, fs))] sz) [(h0, .inr (0, [.int 1, .ref ra, .int 1])), (e9, .inr (2, fs)), (ra, .inl (k1, 10, .inr (.inr (.inr (.inr (zE e9))))))] [(k1, .object "java/lang/Object")] t9) (va_A [(h0, .inr (0, [.int 0, .ref t, .int 0])), (e9, .inr (2, fs))] sz)) 1 10 (va_A [(h0, .inr (0, [.int 0, .ref t, .int 0])), (e9, .inr (2, fs))] sz) := by
  refine Met.ofW (cc := cJx4a65c_add_9ea2d) (maxL := 2) (ret := (some .boolean)) (by decide) rfl ?_
  intro p e s m args below meth c s₁ B hml hv
  obtain ⟨rfl, hsz, hP, hK, hD0, hQ⟩ := hv
  have hx := B.exec
  have hb := B.bytes
  have hr := B.returns
  have hts : ∀ w ∈ zG, w.before _ s = true := fun w h => atoms_spec (ws := ws_Jx4a65c_add_9ea2d) B.pre w (List.mem_cons_of_mem _ h)
  have hown : s.vm.findClass RJx4a65c = some m.cls := findClass_of_methodNamed B.named
  have hlocks := B.notSynchronized
  subst hsz
  have hD := hD0.self (sz := s.heap.size)
  generalize hAe : va_A [(h0, .inr (0, [.int 0, .ref t, .int 0])), (e9, .inr (2, fs))] s.heap.size = A at hD hQ ⊢
  have hA : ∀ q : Nat, s.heap.size ≤ q → A q := fun q h => by rw [← hAe]; exact Or.inr h
  have hS : va_S A s.heap s.heap [] := va_S.rf
  have hP : va_P (dC, dI) zc [(h0, .inr (0, [.int 0, .ref t, .int 0])), (e9, .inr (2, fs))] s.heap := hP
  have hl := lv_entry ([.ref h0, .ref e9]) (n := 2) (Nat.le_of_ble_eq_true rfl)
  rw [lg_entry_eq]
  generalize (lg_sl ([.ref h0, .ref e9]) ++ List.replicate (2 - (lg_sl ([.ref h0, .ref e9])).length) Slot.unset).toArray = ls at hl ⊢
  have hl : lv_has ls 2 [(0, .ref h0), (1, .ref e9)] := hl
  refine lv_aload_n hx hb dJx4a65c_add_9ea2d_0 rfl (lv_at hl 0 rfl) ?_
  refine lv_dup hx hb dJx4a65c_add_9ea2d_1 rfl ?_
  refine va_get (D := (dC, dI)) (ci := 0) (v := .int 0) (C := RJx4a65c) (T := TJx4a65c) (N := 3) hx hb hts iJx4a65c hown hK hP 0 rfl rfl 0 (by decide) (hts _ kw_132) (fun x h9 => u_same (hts _ kw_131) x h9) rfl dJx4a65c_add_9ea2d_2 ?_
  refine lv_iconst (v := 1) hx hb dJx4a65c_add_9ea2d_5 (by decide) ?_
  refine lv_iadd hx hb dJx4a65c_add_9ea2d_6 ?_
  refine lv_topi (fun x_1 e_x_1 => ?_)
  obtain rfl : x_1 = 1 := by rw [e_x_1]; decide
  refine va_put (D := (dC, dI)) (ci := 0) (v := .int 1) (ty := .int) (C := RJx4a65c) (T := TJx4a65c) (N := 3) hx hb hts iJx4a65c tyJx4a65c tyJx4a65c_ok nmJx4a65c hown hK hP hD hS 0 rfl rfl 0 (by decide) (hts _ kw_132) (fun x h9 => u_same (hts _ kw_131) x h9) rfl (by decide +kernel) rfl rfl (Nat.le_of_ble_eq_true rfl) dJx4a65c_add_9ea2d_7 (fun H locs hP hD hS => ?_)
  have hP : va_P (dC, dI) zc [(h0, .inr (0, [.int 1, .ref t, .int 0])), (e9, .inr (2, fs))] H := hP
  have hD : va_D A [(h0, .inr (0, [.int 1, .ref t, .int 0])), (e9, .inr (2, fs))] := hD
  refine lv_aload_n hx hb dJx4a65c_add_9ea2d_10 rfl (lv_at hl 0 rfl) ?_
  refine lv_aload_n hx hb dJx4a65c_add_9ea2d_11 rfl (lv_at hl 1 rfl) ?_
  refine lv_aload_n hx hb dJx4a65c_add_9ea2d_12 rfl (lv_at hl 0 rfl) ?_
  refine va_get (D := (dC, dI)) (ci := 0) (v := .ref t) (C := RJx4a65c) (T := TJx4a65c) (N := 3) hx hb hts iJx4a65c hown hK hP 0 rfl rfl 1 (by decide) (hts _ kw_125) (fun _ h9 => h9) rfl dJx4a65c_add_9ea2d_13 ?_
  refine lv_aload_n hx hb dJx4a65c_add_9ea2d_16 rfl (lv_at hl 0 rfl) ?_
  refine va_get (D := (dC, dI)) (ci := 0) (v := .int 0) (C := RJx4a65c) (T := TJx4a65c) (N := 3) hx hb hts iJx4a65c hown hK hP 0 rfl rfl 2 (by decide) (hts _ kw_128) (fun _ h9 => h9) rfl dJx4a65c_add_9ea2d_17 ?_
  have hFc := va_free (wc := [(h0, .inr (0, [.int 1, .ref t, .int 0])), (e9, .inr (2, fs))]) hD hS hA [0, 1] rfl
  refine va_callv (va_runV (As := [.ref e9, .ref t, .int 0]) (rest := []) ⟨hx, hb, hml, hown, hts⟩ (c_add3A l dC dI H.size t h0 e9 1 fs) (cwV 3 hts (zg_V kw_566 kw_568 kw_27 kw_67 kw_569) rfl rfl rfl (by decide +kernel) ⟨Nat.le_of_ble_eq_true rfl, Nat.le_of_ble_eq_true rfl⟩) ⟨zA_blind, va_recv hK hP (ci := 0) (q0 := 0) rfl rfl, zA_pre hP hD hS hK hQ hA [0, 1] rfl rfl (by decide) [] rfl⟩ rfl rfl hl.1 rfl (lv_room (Nat.le_of_ble_eq_true rfl)) dJx4a65c_add_9ea2d_20 ⟨zl_b rfl, zl_b rfl⟩) hS (fun q _ h => hFc q h) hFc (fun u t9 H1 locs ht hvm hw hB hz1 hk1 hS => ?_)
  obtain ⟨ra, k1, hP1, hK1, hD1⟩ := hB
  rw [ht] at hP1
  have hK1 := va_K.moved hvm.symm hK1
  obtain ⟨hP, hD⟩ := va_join (wr := []) (w1 := [(h0, .inr (0, [.int 1, .ref ra, .int 1])), (e9, .inr (2, fs)), (ra, .inl (k1, 10, .inr (.inr (.inr (.inr (zE e9))))))]) hP hD [0, 1] [] rfl rfl (by decide) (by decide) hk1 hFc hP1 hD1
  have hK := (hK.sub (tys' := []) [] rfl).app hK1
  generalize H1 = H at hP hS ⊢
  have hP : va_P (dC, dI) zc [(h0, .inr (0, [.int 1, .ref ra, .int 1])), (e9, .inr (2, fs)), (ra, .inl (k1, 10, .inr (.inr (.inr (.inr (zE e9))))))] H := hP
  have hD : va_D A [(h0, .inr (0, [.int 1, .ref ra, .int 1])), (e9, .inr (2, fs)), (ra, .inl (k1, 10, .inr (.inr (.inr (.inr (zE e9))))))] := hD
  have hK : va_K (dC, dI) zc [(k1, .object "java/lang/Object")] s := hK
  refine W.widen (k := 1) (n := 10) (zl_b rfl) (zl_b rfl) ?_
  refine lv_iconst (v := 1) hx hb dJx4a65c_add_9ea2d_23 (by decide) ?_
  have hP9 := hP.sub (ws' := [(h0, .inr (0, [.int 1, .ref ra, .int 1])), (e9, .inr (2, fs)), (ra, .inl (k1, 10, .inr (.inr (.inr (.inr (zE e9))))))]) [0, 1, 2] rfl
  have hD9 := hD.sub (ws' := [(h0, .inr (0, [.int 1, .ref ra, .int 1])), (e9, .inr (2, fs)), (ra, .inl (k1, 10, .inr (.inr (.inr (.inr (zE e9))))))]) [0, 1, 2] (by decide) rfl
  have hK9 := hK.sub (tys' := [(k1, .object "java/lang/Object")]) [0] rfl
  exact W.zret (ty := .boolean) hx hb hr rfl (fun t ht hW => ⟨⟨_, (), rfl, rfl, ra, k1, by rw [ht]; exact hP9, va_K.moved hW.alike hK9, hD9⟩, hS.F ht⟩) hS.2.2 dJx4a65c_add_9ea2d_24
set_option maxHeartbeats 4000000 in
set_option maxRecDepth 100000 in
/-- add(e, elementData, 0) of the empty row -/
theorem c_add3M (l : Launch) (dC : Nat → ClassId) (dI : Nat → Nat → Nat) (sz t : Nat) (h0 e9 : Nat) (m0 : Int32) (fs : List Value) : Met l yJx4a65c_add_72be8 ws_Jx4a65c_add_72be8 ({ frames := 4, cells := 1, slots := 10, locals := 103 }) (zA dC dI [(h0, .inr (0, [.int m0, .ref t, .int 0])), (e9, .inr (6, fs))] [] sz t [.ref h0, .ref e9, .ref t, .int 0]) (va_Qv (fun _ : Unit => True) (fun _ t9 => ∃ (ra : Nat) (k1 : ClassId), zB dC dI (va_A [(h0, .inr (0, [.int m0, .ref t, .int 0])), (e9, .inr (6, fs))] sz) [(h0, .inr (0, [.int m0, .ref ra, .int 1])), (e9, .inr (6, fs)), (ra, .inl (k1, 10, .inr (.inr (.inr (.inr (zE e9))))))] [(k1, .object "java/lang/Object")] t9) (va_A [(h0, .inr (0, [.int m0, .ref t, .int 0])), (e9, .inr (6, fs))] sz)) 1 10 (va_A [(h0, .inr (0, [.int m0, .ref t, .int 0])), (e9, .inr (6, fs))] sz) := by
  refine Met.ofW (cc := cJx4a65c_add_72be8) (maxL := 4) (ret := none) (by decide) rfl ?_
  intro p e s m args below meth c s₁ B hml hv
  obtain ⟨rfl, hsz, hP, hK, hD0, hQ⟩ := hv
  have hx := B.exec
  have hb := B.bytes
  have hr := B.returns
  have hts : ∀ w ∈ zG, w.before _ s = true := fun w h => atoms_spec (ws := ws_Jx4a65c_add_72be8) B.pre w (List.mem_cons_of_mem _ h)
  have hown : s.vm.findClass RJx4a65c = some m.cls := findClass_of_methodNamed B.named
  have hlocks := B.notSynchronized
  subst hsz
  have hD := hD0.self (sz := s.heap.size)
  generalize hAe : va_A [(h0, .inr (0, [.int m0, .ref t, .int 0])), (e9, .inr (6, fs))] s.heap.size = A at hD hQ ⊢
  have hA : ∀ q : Nat, s.heap.size ≤ q → A q := fun q h => by rw [← hAe]; exact Or.inr h
  have hS : va_S A s.heap s.heap [] := va_S.rf
  have hP : va_P (dC, dI) zc [(h0, .inr (0, [.int m0, .ref t, .int 0])), (e9, .inr (6, fs))] s.heap := hP
  have hl := lv_entry ([.ref h0, .ref e9, .ref t, .int 0]) (n := 4) (Nat.le_of_ble_eq_true rfl)
  rw [lg_entry_eq]
  generalize (lg_sl ([.ref h0, .ref e9, .ref t, .int 0]) ++ List.replicate (4 - (lg_sl ([.ref h0, .ref e9, .ref t, .int 0])).length) Slot.unset).toArray = ls at hl ⊢
  have hl : lv_has ls 4 [(0, .ref h0), (1, .ref e9), (2, .ref t), (3, .int 0)] := hl
  refine lv_iload_n hx hb dJx4a65c_add_72be8_0 rfl (lv_at hl 3 rfl) ?_
  refine lv_aload_n hx hb dJx4a65c_add_72be8_1 rfl (lv_at hl 2 rfl) ?_
  refine va_tlen (v := 0) hx hb hQ.2.2.2.2 hS rfl dJx4a65c_add_72be8_2 ?_
  refine lv_icmp_ne (tgt := 11) hx hb dJx4a65c_add_72be8_3 (by decide) (fun c_1 => absurd c_1 (by decide)) (fun c_1 => ?_)
  refine lv_aload_n hx hb dJx4a65c_add_72be8_6 rfl (lv_at hl 0 rfl) ?_
  have hFc := va_free (wc := [(h0, .inr (0, [.int m0, .ref t, .int 0]))]) hD hS hA [0] rfl
  refine va_callr (va_runV (As := []) (rest := []) ⟨hx, hb, hml, hown, hts⟩ (c_grow l dC dI s.heap.size t h0 m0) (cwV 0 hts (zg_V kw_570 kw_572 kw_28 kw_67 kw_573) rfl rfl rfl (by decide +kernel) ⟨Nat.le_of_ble_eq_true rfl, Nat.le_of_ble_eq_true rfl⟩) ⟨zA_blind, va_recv hK hP (ci := 0) (q0 := 0) rfl rfl, zA_pre hP hD hS hK hQ hA [0] rfl rfl (by decide) [] rfl⟩ rfl rfl hl.1 rfl (lv_room (Nat.le_of_ble_eq_true rfl)) dJx4a65c_add_72be8_7 ⟨zl_b rfl, zl_b rfl⟩) hS (fun q _ h => hFc q h) hFc (fun u ra t9 H1 locs ht hvm hw hB hz1 hk1 hS => ?_)
  obtain ⟨k1, hP1, hK1, hD1⟩ := hB
  rw [ht] at hP1
  have hK1 := va_K.moved hvm.symm hK1
  obtain ⟨hP, hD⟩ := va_join (wr := [(e9, .inr (6, fs))]) (w1 := [(h0, .inr (0, [.int m0, .ref ra, .int 0])), (ra, .inl (k1, 10, .inr (.inr (.inr (.inr (fun _ => none))))))]) hP hD [0] [1] rfl rfl (by decide) (by decide) hk1 hFc hP1 hD1
  have hK := (hK.sub (tys' := []) [] rfl).app hK1
  generalize H1 = H at hP hS ⊢
  have hP : va_P (dC, dI) zc [(e9, .inr (6, fs)), (h0, .inr (0, [.int m0, .ref ra, .int 0])), (ra, .inl (k1, 10, .inr (.inr (.inr (.inr (fun _ => none))))))] H := hP
  have hD : va_D A [(e9, .inr (6, fs)), (h0, .inr (0, [.int m0, .ref ra, .int 0])), (ra, .inl (k1, 10, .inr (.inr (.inr (.inr (fun _ => none))))))] := hD
  have hK : va_K (dC, dI) zc [(k1, .object "java/lang/Object")] s := hK
  refine W.widen (k := 1) (n := 10) (zl_b rfl) (zl_b rfl) ?_
  refine lv_astore_n (lv' := [(2, .ref ra), (0, .ref h0), (1, .ref e9), (3, .int 0)]) hx hb dJx4a65c_add_72be8_10 rfl hl (by decide) rfl (fun ls hl => ?_)
  refine lv_aload_n hx hb dJx4a65c_add_72be8_11 rfl (lv_at hl 0 rfl) ?_
  refine lv_iload_n hx hb dJx4a65c_add_72be8_12 rfl (lv_at hl 3 rfl) ?_
  refine lv_aload_n hx hb dJx4a65c_add_72be8_13 rfl (lv_at hl 2 rfl) ?_
  refine va_astqO hx hb hK hP hD hS 2 0 0 6 rfl rfl (zT_caX5 hQ.1) rfl rfl (by unfold vp_in; decide) dJx4a65c_add_72be8_14 (fun H locs hP hD hS => ?_)
  have hP : va_P (dC, dI) zc [(e9, .inr (6, fs)), (h0, .inr (0, [.int m0, .ref ra, .int 0])), (ra, .inl (k1, 10, .inr (.inr (.inr (.inr (va_up (fun _ => none) (0 : Int32).toNatClampNeg (some e9)))))))] H := hP
  have hD : va_D A [(e9, .inr (6, fs)), (h0, .inr (0, [.int m0, .ref ra, .int 0])), (ra, .inl (k1, 10, .inr (.inr (.inr (.inr (va_up (fun _ => none) (0 : Int32).toNatClampNeg (some e9)))))))] := hD
  refine lv_aload_n hx hb dJx4a65c_add_72be8_15 rfl (lv_at hl 1 rfl) ?_
  refine lv_iload_n hx hb dJx4a65c_add_72be8_16 rfl (lv_at hl 3 rfl) ?_
  refine lv_iconst (v := 1) hx hb dJx4a65c_add_72be8_17 (by decide) ?_
  refine lv_iadd hx hb dJx4a65c_add_72be8_18 ?_
  refine lv_topi (fun x_2 e_x_2 => ?_)
  obtain rfl : x_2 = 1 := by rw [e_x_2]; decide
  refine va_put (D := (dC, dI)) (ci := 0) (v := .int 1) (ty := .int) (C := RJx4a65c) (T := TJx4a65c) (N := 3) hx hb hts iJx4a65c tyJx4a65c tyJx4a65c_ok nmJx4a65c hown hK hP hD hS 1 rfl rfl 2 (by decide) (hts _ kw_128) (fun _ h9 => h9) rfl (by decide +kernel) rfl rfl (Nat.le_of_ble_eq_true rfl) dJx4a65c_add_72be8_19 (fun H locs hP hD hS => ?_)
  have hP : va_P (dC, dI) zc [(e9, .inr (6, fs)), (h0, .inr (0, [.int m0, .ref ra, .int 1])), (ra, .inl (k1, 10, .inr (.inr (.inr (.inr (va_up (fun _ => none) (0 : Int32).toNatClampNeg (some e9)))))))] H := hP
  have hD : va_D A [(e9, .inr (6, fs)), (h0, .inr (0, [.int m0, .ref ra, .int 1])), (ra, .inl (k1, 10, .inr (.inr (.inr (.inr (va_up (fun _ => none) (0 : Int32).toNatClampNeg (some e9)))))))] := hD
  have hP : va_P (dC, dI) zc [(e9, .inr (6, fs)), (h0, .inr (0, [.int m0, .ref ra, .int 1])), (ra, .inl (k1, 10, .inr (.inr (.inr (.inr (zE e9))))))] H := hP
  have hD : va_D A [(e9, .inr (6, fs)), (h0, .inr (0, [.int m0, .ref ra, .int 1])), (ra, .inl (k1, 10, .inr (.inr (.inr (.inr (zE e9))))))] := hD
  have hP9 := hP.sub (ws' := [(h0, .inr (0, [.int m0, .ref ra, .int 1])), (e9, .inr (6, fs)), (ra, .inl (k1, 10, .inr (.inr (.inr (.inr (zE e9))))))]) [1, 0, 2] rfl
  have hD9 := hD.sub (ws' := [(h0, .inr (0, [.int m0, .ref ra, .int 1])), (e9, .inr (6, fs)), (ra, .inl (k1, 10, .inr (.inr (.inr (.inr (zE e9))))))]) [1, 0, 2] (by decide) rfl
  have hK9 := hK.sub (tys' := [(k1, .object "java/lang/Object")]) [0] rfl
  exact W.vret hx hb hr (fun t ht hW => ⟨⟨(), rfl, trivial, ra, k1, by rw [ht]; exact hP9, va_K.moved hW.alike hK9, hD9⟩, hS.F ht⟩) hS.2.2 dJx4a65c_add_72be8_22
set_option maxHeartbeats 4000000 in
set_option maxRecDepth 100000 in
/-- add(e) of a fresh list -/
theorem c_addM (l : Launch) (dC : Nat → ClassId) (dI : Nat → Nat → Nat) (sz t : Nat) (h0 e9 : Nat) (fs : List Value) : Met l yJx4a65c_add_9ea2d ws_Jx4a65c_add_9ea2d ({ frames := 5, cells := 1, slots := 10, locals := 126 }) (zA dC dI [(h0, .inr (0, [.int 0, .ref t, .int 0])), (e9, .inr (6, fs))] [] sz t [.ref h0, .ref e9]) (va_Qi (fun r (_ : Unit) => r = 1) (fun _ t9 => ∃ (ra : Nat) (k1 : ClassId), zB dC dI (va_A [(h0, .inr (0, [.int 0, .ref t, .int 0])), (e9, .inr (6, fs))] sz) [(h0, .inr (0, [.int 1, .ref ra, .int 1])), (e9, .inr (6, fs)), (ra, .inl (k1, 10, .inr (.inr (.inr (.inr (zE e9))))))] [(k1, .object "java/lang/Object")] t9) (va_A [(h0, .inr (0, [.int 0, .ref t, .int 0])), (e9, .inr (6, fs))] sz)) 1 10 (va_A [(h0, .inr (0, [.int 0, .ref t, .int 0])), (e9, .inr (6, fs))] sz) := by
  refine Met.ofW (cc := cJx4a65c_add_9ea2d) (maxL := 2) (ret := (some .boolean)) (by decide) rfl ?_
  intro p e s m args below meth c s₁ B hml hv
  obtain ⟨rfl, hsz, hP, hK, hD0, hQ⟩ := hv
  have hx := B.exec
  have hb := B.bytes
  have hr := B.returns
  have hts : ∀ w ∈ zG, w.before _ s = true := fun w h => atoms_spec (ws := ws_Jx4a65c_add_9ea2d) B.pre w (List.mem_cons_of_mem _ h)
  have hown : s.vm.findClass RJx4a65c = some m.cls := findClass_of_methodNamed B.named
  have hlocks := B.notSynchronized
  subst hsz
  have hD := hD0.self (sz := s.heap.size)
  generalize hAe : va_A [(h0, .inr (0, [.int 0, .ref t, .int 0])), (e9, .inr (6, fs))] s.heap.size = A at hD hQ ⊢
  have hA : ∀ q : Nat, s.heap.size ≤ q → A q := fun q h => by rw [← hAe]; exact Or.inr h
  have hS : va_S A s.heap s.heap [] := va_S.rf
  have hP : va_P (dC, dI) zc [(h0, .inr (0, [.int 0, .ref t, .int 0])), (e9, .inr (6, fs))] s.heap := hP
  have hl := lv_entry ([.ref h0, .ref e9]) (n := 2) (Nat.le_of_ble_eq_true rfl)
  rw [lg_entry_eq]
  generalize (lg_sl ([.ref h0, .ref e9]) ++ List.replicate (2 - (lg_sl ([.ref h0, .ref e9])).length) Slot.unset).toArray = ls at hl ⊢
  have hl : lv_has ls 2 [(0, .ref h0), (1, .ref e9)] := hl
  refine lv_aload_n hx hb dJx4a65c_add_9ea2d_0 rfl (lv_at hl 0 rfl) ?_
  refine lv_dup hx hb dJx4a65c_add_9ea2d_1 rfl ?_
  refine va_get (D := (dC, dI)) (ci := 0) (v := .int 0) (C := RJx4a65c) (T := TJx4a65c) (N := 3) hx hb hts iJx4a65c hown hK hP 0 rfl rfl 0 (by decide) (hts _ kw_132) (fun x h9 => u_same (hts _ kw_131) x h9) rfl dJx4a65c_add_9ea2d_2 ?_
  refine lv_iconst (v := 1) hx hb dJx4a65c_add_9ea2d_5 (by decide) ?_
  refine lv_iadd hx hb dJx4a65c_add_9ea2d_6 ?_
  refine lv_topi (fun x_1 e_x_1 => ?_)
  obtain rfl : x_1 = 1 := by rw [e_x_1]; decide
  refine va_put (D := (dC, dI)) (ci := 0) (v := .int 1) (ty := .int) (C := RJx4a65c) (T := TJx4a65c) (N := 3) hx hb hts iJx4a65c tyJx4a65c tyJx4a65c_ok nmJx4a65c hown hK hP hD hS 0 rfl rfl 0 (by decide) (hts _ kw_132) (fun x h9 => u_same (hts _ kw_131) x h9) rfl (by decide +kernel) rfl rfl (Nat.le_of_ble_eq_true rfl) dJx4a65c_add_9ea2d_7 (fun H locs hP hD hS => ?_)
  have hP : va_P (dC, dI) zc [(h0, .inr (0, [.int 1, .ref t, .int 0])), (e9, .inr (6, fs))] H := hP
  have hD : va_D A [(h0, .inr (0, [.int 1, .ref t, .int 0])), (e9, .inr (6, fs))] := hD
  refine lv_aload_n hx hb dJx4a65c_add_9ea2d_10 rfl (lv_at hl 0 rfl) ?_
  refine lv_aload_n hx hb dJx4a65c_add_9ea2d_11 rfl (lv_at hl 1 rfl) ?_
  refine lv_aload_n hx hb dJx4a65c_add_9ea2d_12 rfl (lv_at hl 0 rfl) ?_
  refine va_get (D := (dC, dI)) (ci := 0) (v := .ref t) (C := RJx4a65c) (T := TJx4a65c) (N := 3) hx hb hts iJx4a65c hown hK hP 0 rfl rfl 1 (by decide) (hts _ kw_125) (fun _ h9 => h9) rfl dJx4a65c_add_9ea2d_13 ?_
  refine lv_aload_n hx hb dJx4a65c_add_9ea2d_16 rfl (lv_at hl 0 rfl) ?_
  refine va_get (D := (dC, dI)) (ci := 0) (v := .int 0) (C := RJx4a65c) (T := TJx4a65c) (N := 3) hx hb hts iJx4a65c hown hK hP 0 rfl rfl 2 (by decide) (hts _ kw_128) (fun _ h9 => h9) rfl dJx4a65c_add_9ea2d_17 ?_
  have hFc := va_free (wc := [(h0, .inr (0, [.int 1, .ref t, .int 0])), (e9, .inr (6, fs))]) hD hS hA [0, 1] rfl
  refine va_callv (va_runV (As := [.ref e9, .ref t, .int 0]) (rest := []) ⟨hx, hb, hml, hown, hts⟩ (c_add3M l dC dI H.size t h0 e9 1 fs) (cwV 3 hts (zg_V kw_566 kw_568 kw_27 kw_67 kw_569) rfl rfl rfl (by decide +kernel) ⟨Nat.le_of_ble_eq_true rfl, Nat.le_of_ble_eq_true rfl⟩) ⟨zA_blind, va_recv hK hP (ci := 0) (q0 := 0) rfl rfl, zA_pre hP hD hS hK hQ hA [0, 1] rfl rfl (by decide) [] rfl⟩ rfl rfl hl.1 rfl (lv_room (Nat.le_of_ble_eq_true rfl)) dJx4a65c_add_9ea2d_20 ⟨zl_b rfl, zl_b rfl⟩) hS (fun q _ h => hFc q h) hFc (fun u t9 H1 locs ht hvm hw hB hz1 hk1 hS => ?_)
  obtain ⟨ra, k1, hP1, hK1, hD1⟩ := hB
  rw [ht] at hP1
  have hK1 := va_K.moved hvm.symm hK1
  obtain ⟨hP, hD⟩ := va_join (wr := []) (w1 := [(h0, .inr (0, [.int 1, .ref ra, .int 1])), (e9, .inr (6, fs)), (ra, .inl (k1, 10, .inr (.inr (.inr (.inr (zE e9))))))]) hP hD [0, 1] [] rfl rfl (by decide) (by decide) hk1 hFc hP1 hD1
  have hK := (hK.sub (tys' := []) [] rfl).app hK1
  generalize H1 = H at hP hS ⊢
  have hP : va_P (dC, dI) zc [(h0, .inr (0, [.int 1, .ref ra, .int 1])), (e9, .inr (6, fs)), (ra, .inl (k1, 10, .inr (.inr (.inr (.inr (zE e9))))))] H := hP
  have hD : va_D A [(h0, .inr (0, [.int 1, .ref ra, .int 1])), (e9, .inr (6, fs)), (ra, .inl (k1, 10, .inr (.inr (.inr (.inr (zE e9))))))] := hD
  have hK : va_K (dC, dI) zc [(k1, .object "java/lang/Object")] s := hK
  refine W.widen (k := 1) (n := 10) (zl_b rfl) (zl_b rfl) ?_
  refine lv_iconst (v := 1) hx hb dJx4a65c_add_9ea2d_23 (by decide) ?_
  have hP9 := hP.sub (ws' := [(h0, .inr (0, [.int 1, .ref ra, .int 1])), (e9, .inr (6, fs)), (ra, .inl (k1, 10, .inr (.inr (.inr (.inr (zE e9))))))]) [0, 1, 2] rfl
  have hD9 := hD.sub (ws' := [(h0, .inr (0, [.int 1, .ref ra, .int 1])), (e9, .inr (6, fs)), (ra, .inl (k1, 10, .inr (.inr (.inr (.inr (zE e9))))))]) [0, 1, 2] (by decide) rfl
  have hK9 := hK.sub (tys' := [(k1, .object "java/lang/Object")]) [0] rfl
  exact W.zret (ty := .boolean) hx hb hr rfl (fun t ht hW => ⟨⟨_, (), rfl, rfl, ra, k1, by rw [ht]; exact hP9, va_K.moved hW.alike hK9, hD9⟩, hS.F ht⟩) hS.2.2 dJx4a65c_add_9ea2d_24
set_option maxHeartbeats 4000000 in
set_option maxRecDepth 100000 in
/-- Preconditions.checkIndex(0, 1, null) -/
theorem c_pre (l : Launch) (dC : Nat → ClassId) (dI : Nat → Nat → Nat) (sz t : Nat) : Met l yJ3_checkIndex_8e157 ws_J3_checkIndex_8e157 ({ frames := 1, cells := 0, slots := 0, locals := 12 }) (zA dC dI [] [] sz t [.int 0, .int 1, .null]) (vp_Si (fun r => r = 0)) 0 0 (fun _ => False) := by
  refine Met.ofW (cc := cJ3_checkIndex_8e157) (maxL := 3) (ret := (some .int)) (by decide) rfl ?_
  intro p e s m args below meth c s₁ B hml hv
  obtain ⟨rfl, hsz, hP, hK, hD0, hQ⟩ := hv
  have hx := B.exec
  have hb := B.bytes
  have hr := B.returns
  have hts : ∀ w ∈ zG, w.before _ s = true := fun w h => atoms_spec (ws := ws_J3_checkIndex_8e157) B.pre w (List.mem_cons_of_mem _ h)
  have hown : s.vm.findClass RJ3 = some m.cls := findClass_of_methodNamed B.named
  have hlocks := B.notSynchronized
  subst hsz
  have hD := hD0.self (sz := s.heap.size)
  generalize hAe : va_A [] s.heap.size = A at hD hQ
  have hA : ∀ q : Nat, s.heap.size ≤ q → A q := fun q h => by rw [← hAe]; exact Or.inr h
  have hS : va_S A s.heap s.heap [] := va_S.rf
  have hP : va_P (dC, dI) zc [] s.heap := hP
  have hl := lv_entry ([.int 0, .int 1, .null]) (n := 3) (Nat.le_of_ble_eq_true rfl)
  rw [lg_entry_eq]
  generalize (lg_sl ([.int 0, .int 1, .null]) ++ List.replicate (3 - (lg_sl ([.int 0, .int 1, .null])).length) Slot.unset).toArray = ls at hl ⊢
  have hl : lv_has ls 3 [(0, .int 0), (1, .int 1), (2, .null)] := hl
  refine lv_iload_n hx hb dJ3_checkIndex_8e157_0 rfl (lv_at hl 0 rfl) ?_
  refine lv_if_lt (tgt := 9) hx hb dJ3_checkIndex_8e157_1 (by decide) (fun c_1 => absurd c_1 (by decide)) (fun c_1 => ?_)
  refine lv_iload_n hx hb dJ3_checkIndex_8e157_4 rfl (lv_at hl 0 rfl) ?_
  refine lv_iload_n hx hb dJ3_checkIndex_8e157_5 rfl (lv_at hl 1 rfl) ?_
  refine lv_icmp_lt (tgt := 16) hx hb dJ3_checkIndex_8e157_6 (by decide) (fun c_2 => ?_) (fun c_2 => absurd c_2 (by decide))
  refine lv_iload_n hx hb dJ3_checkIndex_8e157_16 rfl (lv_at hl 0 rfl) ?_
  exact W.iret hx hb hr (fun t ht hW => ⟨_, rfl, rfl, ht⟩) (fun q hq => absurd hq List.not_mem_nil) dJ3_checkIndex_8e157_17
set_option maxHeartbeats 4000000 in
set_option maxRecDepth 100000 in
/-- Objects.checkIndex(0, 1) -/
theorem c_chk (l : Launch) (dC : Nat → ClassId) (dI : Nat → Nat → Nat) (sz t : Nat) : Met l yJ15_checkIndex_7cf53 ws_J15_checkIndex_7cf53 ({ frames := 2, cells := 0, slots := 0, locals := 34 }) (zA dC dI [] [] sz t [.int 0, .int 1]) (vp_Si (fun r => r = 0)) 0 0 (fun _ => False) := by
  refine Met.ofW (cc := cJ15_checkIndex_7cf53) (maxL := 2) (ret := (some .int)) (by decide) rfl ?_
  intro p e s m args below meth c s₁ B hml hv
  obtain ⟨rfl, hsz, hP, hK, hD0, hQ⟩ := hv
  have hx := B.exec
  have hb := B.bytes
  have hr := B.returns
  have hts : ∀ w ∈ zG, w.before _ s = true := fun w h => atoms_spec (ws := ws_J15_checkIndex_7cf53) B.pre w (List.mem_cons_of_mem _ h)
  have hown : s.vm.findClass RJ15 = some m.cls := findClass_of_methodNamed B.named
  have hlocks := B.notSynchronized
  subst hsz
  have hD := hD0.self (sz := s.heap.size)
  generalize hAe : va_A [] s.heap.size = A at hD hQ
  have hA : ∀ q : Nat, s.heap.size ≤ q → A q := fun q h => by rw [← hAe]; exact Or.inr h
  have hS : va_S A s.heap s.heap [] := va_S.rf
  have hP : va_P (dC, dI) zc [] s.heap := hP
  have hl := lv_entry ([.int 0, .int 1]) (n := 2) (Nat.le_of_ble_eq_true rfl)
  rw [lg_entry_eq]
  generalize (lg_sl ([.int 0, .int 1]) ++ List.replicate (2 - (lg_sl ([.int 0, .int 1])).length) Slot.unset).toArray = ls at hl ⊢
  have hl : lv_has ls 2 [(0, .int 0), (1, .int 1)] := hl
  refine lv_iload_n hx hb dJ15_checkIndex_7cf53_0 rfl (lv_at hl 0 rfl) ?_
  refine lv_iload_n hx hb dJ15_checkIndex_7cf53_1 rfl (lv_at hl 1 rfl) ?_
  refine lv_null hx hb dJ15_checkIndex_7cf53_2 ?_
  refine vp_callSi (W.runS (As := [.int 0, .int 1, .null]) (rest := []) ⟨hx, hb, hml, hown, hts⟩ (c_pre l dC dI s.heap.size t) (va_cwS 3 hts (zg_S kw_268 kw_269 kw_83 kw_270) rfl rfl rfl (by decide +kernel) ⟨Nat.le_of_ble_eq_true rfl, Nat.le_of_ble_eq_true rfl⟩) ⟨zA_blind, zA_pre hP hD hS hK hQ hA [] rfl rfl (by decide) [] rfl⟩ rfl rfl hl.1 rfl (lv_room (Nat.le_of_ble_eq_true rfl)) dJ15_checkIndex_7cf53_3 ⟨zl_b rfl, zl_b rfl⟩) (fun r hr => ?_)
  subst hr
  exact W.iret hx hb hr (fun t ht hW => ⟨_, rfl, rfl, ht⟩) (fun q hq => absurd hq List.not_mem_nil) dJ15_checkIndex_7cf53_6
set_option maxHeartbeats 4000000 in
set_option maxRecDepth 100000 in
/-- elementData(0) -/
theorem c_eld (l : Launch) (dC : Nat → ClassId) (dI : Nat → Nat → Nat) (sz t : Nat) (h0 ra e9 : Nat) (k1 : ClassId) : Met l yJx4a65c_elementData_915e3 ws_Jx4a65c_elementData_915e3 ({ frames := 1, cells := 0, slots := 0, locals := 12 }) (zA dC dI [(h0, .inr (0, [.int 1, .ref ra, .int 1])), (ra, .inl (k1, 10, .inr (.inr (.inr (.inr (zE e9))))))] [(k1, .object "java/lang/Object")] sz t [.ref h0, .int 0]) (va_Sq (fun r => r = some e9)) 0 0 (fun _ => False) := by
  refine Met.ofW (cc := cJx4a65c_elementData_915e3) (maxL := 2) (ret := (some (.object "java/lang/Object"))) (by decide) rfl ?_
  intro p e s m args below meth c s₁ B hml hv
  obtain ⟨rfl, hsz, hP, hK, hD0, hQ⟩ := hv
  have hx := B.exec
  have hb := B.bytes
  have hr := B.returns
  have hts : ∀ w ∈ zG, w.before _ s = true := fun w h => atoms_spec (ws := ws_Jx4a65c_elementData_915e3) B.pre w (List.mem_cons_of_mem _ h)
  have hown : s.vm.findClass RJx4a65c = some m.cls := findClass_of_methodNamed B.named
  have hlocks := B.notSynchronized
  subst hsz
  have hD := hD0.self (sz := s.heap.size)
  generalize hAe : va_A [(h0, .inr (0, [.int 1, .ref ra, .int 1])), (ra, .inl (k1, 10, .inr (.inr (.inr (.inr (zE e9))))))] s.heap.size = A at hD hQ
  have hA : ∀ q : Nat, s.heap.size ≤ q → A q := fun q h => by rw [← hAe]; exact Or.inr h
  have hS : va_S A s.heap s.heap [] := va_S.rf
  have hP : va_P (dC, dI) zc [(h0, .inr (0, [.int 1, .ref ra, .int 1])), (ra, .inl (k1, 10, .inr (.inr (.inr (.inr (zE e9))))))] s.heap := hP
  have hl := lv_entry ([.ref h0, .int 0]) (n := 2) (Nat.le_of_ble_eq_true rfl)
  rw [lg_entry_eq]
  generalize (lg_sl ([.ref h0, .int 0]) ++ List.replicate (2 - (lg_sl ([.ref h0, .int 0])).length) Slot.unset).toArray = ls at hl ⊢
  have hl : lv_has ls 2 [(0, .ref h0), (1, .int 0)] := hl
  refine lv_aload_n hx hb dJx4a65c_elementData_915e3_0 rfl (lv_at hl 0 rfl) ?_
  refine va_get (D := (dC, dI)) (ci := 0) (v := .ref ra) (C := RJx4a65c) (T := TJx4a65c) (N := 3) hx hb hts iJx4a65c hown hK hP 0 rfl rfl 1 (by decide) (hts _ kw_125) (fun _ h9 => h9) rfl dJx4a65c_elementData_915e3_1 ?_
  refine lv_iload_n hx hb dJx4a65c_elementData_915e3_4 rfl (lv_at hl 1 rfl) ?_
  refine va_aldq hx hb hK hP 1 0 rfl rfl (by unfold vp_in; decide) dJx4a65c_elementData_915e3_5 ?_
  refine W.eq (g2 := F0 m 6 ls [.ref e9]) rfl ?_
  exact W.aret (v := .ref e9) hx hb hr (by first | exact Or.inl ⟨_, rfl⟩ | exact Or.inr ⟨_, rfl⟩) (Or.inr ⟨_, rfl⟩) (fun t ht hW => ⟨some _, rfl, rfl, ht⟩) (fun q hq => absurd hq List.not_mem_nil) dJx4a65c_elementData_915e3_6
set_option maxHeartbeats 4000000 in
set_option maxRecDepth 100000 in
/-- get(0) -/
theorem c_get0 (l : Launch) (dC : Nat → ClassId) (dI : Nat → Nat → Nat) (sz t : Nat) (h0 ra e9 : Nat) (k1 : ClassId) : Met l yJx4a65c_get_915e3 ws_Jx4a65c_get_915e3 ({ frames := 3, cells := 0, slots := 0, locals := 55 }) (zA dC dI [(h0, .inr (0, [.int 1, .ref ra, .int 1])), (ra, .inl (k1, 10, .inr (.inr (.inr (.inr (zE e9))))))] [(k1, .object "java/lang/Object")] sz t [.ref h0, .int 0]) (va_Sq (fun r => r = some e9)) 0 0 (fun _ => False) := by
  refine Met.ofW (cc := cJx4a65c_get_915e3) (maxL := 2) (ret := (some (.object "java/lang/Object"))) (by decide) rfl ?_
  intro p e s m args below meth c s₁ B hml hv
  obtain ⟨rfl, hsz, hP, hK, hD0, hQ⟩ := hv
  have hx := B.exec
  have hb := B.bytes
  have hr := B.returns
  have hts : ∀ w ∈ zG, w.before _ s = true := fun w h => atoms_spec (ws := ws_Jx4a65c_get_915e3) B.pre w (List.mem_cons_of_mem _ h)
  have hown : s.vm.findClass RJx4a65c = some m.cls := findClass_of_methodNamed B.named
  have hlocks := B.notSynchronized
  subst hsz
  have hD := hD0.self (sz := s.heap.size)
  generalize hAe : va_A [(h0, .inr (0, [.int 1, .ref ra, .int 1])), (ra, .inl (k1, 10, .inr (.inr (.inr (.inr (zE e9))))))] s.heap.size = A at hD hQ
  have hA : ∀ q : Nat, s.heap.size ≤ q → A q := fun q h => by rw [← hAe]; exact Or.inr h
  have hS : va_S A s.heap s.heap [] := va_S.rf
  have hP : va_P (dC, dI) zc [(h0, .inr (0, [.int 1, .ref ra, .int 1])), (ra, .inl (k1, 10, .inr (.inr (.inr (.inr (zE e9))))))] s.heap := hP
  have hl := lv_entry ([.ref h0, .int 0]) (n := 2) (Nat.le_of_ble_eq_true rfl)
  rw [lg_entry_eq]
  generalize (lg_sl ([.ref h0, .int 0]) ++ List.replicate (2 - (lg_sl ([.ref h0, .int 0])).length) Slot.unset).toArray = ls at hl ⊢
  have hl : lv_has ls 2 [(0, .ref h0), (1, .int 0)] := hl
  refine lv_iload_n hx hb dJx4a65c_get_915e3_0 rfl (lv_at hl 1 rfl) ?_
  refine lv_aload_n hx hb dJx4a65c_get_915e3_1 rfl (lv_at hl 0 rfl) ?_
  refine va_get (D := (dC, dI)) (ci := 0) (v := .int 1) (C := RJx4a65c) (T := TJx4a65c) (N := 3) hx hb hts iJx4a65c hown hK hP 0 rfl rfl 2 (by decide) (hts _ kw_128) (fun _ h9 => h9) rfl dJx4a65c_get_915e3_2 ?_
  refine vp_callSi (W.runS (As := [.int 0, .int 1]) (rest := []) ⟨hx, hb, hml, hown, hts⟩ (c_chk l dC dI s.heap.size t) (va_cwS 2 hts (zg_S kw_265 kw_266 kw_82 kw_267) rfl rfl rfl (by decide +kernel) ⟨Nat.le_of_ble_eq_true rfl, Nat.le_of_ble_eq_true rfl⟩) ⟨zA_blind, zA_pre hP hD hS hK hQ hA [] rfl rfl (by decide) [] rfl⟩ rfl rfl hl.1 rfl (lv_room (Nat.le_of_ble_eq_true rfl)) dJx4a65c_get_915e3_5 ⟨zl_b rfl, zl_b rfl⟩) (fun r hr => ?_)
  subst hr
  refine lv_pop hx hb dJx4a65c_get_915e3_8 rfl ?_
  refine lv_aload_n hx hb dJx4a65c_get_915e3_9 rfl (lv_at hl 0 rfl) ?_
  refine lv_iload_n hx hb dJx4a65c_get_915e3_10 rfl (lv_at hl 1 rfl) ?_
  refine va_csq (W.runV (As := [.int 0]) (rest := []) ⟨hx, hb, hml, hown, hts⟩ (c_eld l dC dI s.heap.size t h0 ra e9 k1) (cwV 1 hts (zg_V kw_271 kw_272 kw_273 kw_67 kw_274) rfl rfl rfl (by decide +kernel) ⟨Nat.le_of_ble_eq_true rfl, Nat.le_of_ble_eq_true rfl⟩) ⟨zA_blind, va_recv hK hP (ci := 0) (q0 := 0) rfl rfl, zA_pre hP hD hS hK hQ hA [0, 1] rfl rfl (by decide) [0] rfl⟩ rfl rfl hl.1 rfl (lv_room (Nat.le_of_ble_eq_true rfl)) dJx4a65c_get_915e3_11 ⟨zl_b rfl, zl_b rfl⟩) (fun r hr => ?_)
  subst hr
  refine W.eq (g2 := F0 m 14 ls [.ref e9]) rfl ?_
  exact W.aret (v := .ref e9) hx hb hr (by first | exact Or.inl ⟨_, rfl⟩ | exact Or.inr ⟨_, rfl⟩) (Or.inr ⟨_, rfl⟩) (fun t ht hW => ⟨some _, rfl, rfl, ht⟩) (fun q hq => absurd hq List.not_mem_nil) dJx4a65c_get_915e3_14
set_option maxHeartbeats 4000000 in
set_option maxRecDepth 100000 in
/-- Account(limit, firstCycle): what its books hold is not told -/
theorem c_Acc_init (l : Launch) (dC : Nat → ClassId) (dI : Nat → Nat → Nat) (sz t : Nat) (h0 : Nat) (lim fc : Int32) : Met l yX0_init ws_X0_init ({ frames := 4, cells := 22, slots := 122, locals := 72 }) (zA dC dI [(h0, .inr (2, [.null, .null, .null, .int 0, .null, .null, .int 0, .int 0, .int 0]))] [] sz t [.ref h0, .int lim, .int fc]) (va_Qv (fun _ : Unit => True) (fun _ t9 => ∃ (q1 q2 q3 q4 q5 : Nat), zB dC dI (va_A [(h0, .inr (2, [.null, .null, .null, .int 0, .null, .null, .int 0, .int 0, .int 0]))] sz) [(h0, .inr (2, [.ref q1, .ref q2, .ref q3, .int fc, .ref q4, .ref q5, .int lim, .int 0, .int 1]))] [] t9) (va_A [(h0, .inr (2, [.null, .null, .null, .int 0, .null, .null, .int 0, .int 0, .int 0]))] sz)) 22 122 (va_A [(h0, .inr (2, [.null, .null, .null, .int 0, .null, .null, .int 0, .int 0, .int 0]))] sz) := by
  refine Met.ofW (cc := cX0_init) (maxL := 3) (ret := none) (by decide) rfl ?_
  intro p e s m args below meth c s₁ B hml hv
  obtain ⟨rfl, hsz, hP, hK, hD0, hQ⟩ := hv
  have hx := B.exec
  have hb := B.bytes
  have hr := B.returns
  have hts : ∀ w ∈ zG, w.before _ s = true := fun w h => atoms_spec (ws := ws_X0_init) B.pre w (List.mem_cons_of_mem _ h)
  have hown : s.vm.findClass RX0 = some m.cls := findClass_of_methodNamed B.named
  have hlocks := B.notSynchronized
  have hin : meth.name = "<init>" := (name_of_methodNamed B.named B.method).1
  subst hsz
  have hD := hD0.self (sz := s.heap.size)
  generalize hAe : va_A [(h0, .inr (2, [.null, .null, .null, .int 0, .null, .null, .int 0, .int 0, .int 0]))] s.heap.size = A at hD hQ ⊢
  have hA : ∀ q : Nat, s.heap.size ≤ q → A q := fun q h => by rw [← hAe]; exact Or.inr h
  have hS : va_S A s.heap s.heap [] := va_S.rf
  have hP : va_P (dC, dI) zc [(h0, .inr (2, [.null, .null, .null, .int 0, .null, .null, .int 0, .int 0, .int 0]))] s.heap := hP
  have hl := lv_entry ([.ref h0, .int lim, .int fc]) (n := 3) (Nat.le_of_ble_eq_true rfl)
  rw [lg_entry_eq]
  generalize (lg_sl ([.ref h0, .int lim, .int fc]) ++ List.replicate (3 - (lg_sl ([.ref h0, .int lim, .int fc])).length) Slot.unset).toArray = ls at hl ⊢
  have hl : lv_has ls 3 [(0, .ref h0), (1, .int lim), (2, .int fc)] := hl
  refine lv_aload_n hx hb dX0_init_0 rfl (lv_at hl 0 rfl) ?_
  refine W.objInit hx hb hown (hts _ kw_521) (hts _ kw_109) (hts _ kw_110) rfl (by rw [hml]; exact hl.1) rfl dX0_init_1 (Nat.le_of_ble_eq_true rfl) (Nat.le_of_ble_eq_true rfl) ?_
  refine W.eq (g2 := F0 m 4 ls []) rfl ?_
  refine lv_aload_n hx hb dX0_init_4 rfl (lv_at hl 0 rfl) ?_
  refine lv_iload_n hx hb dX0_init_5 rfl (lv_at hl 1 rfl) ?_
  refine va_put (D := (dC, dI)) (ci := 2) (v := .int lim) (ty := .int) (C := RX0) (T := TX0) (N := 9) hx hb hts iX0 tyX0 tyX0_ok nmX0 hown hK hP hD hS 0 rfl rfl 6 (by decide) (hts _ kw_538) (fun _ h9 => h9) rfl (by decide +kernel) rfl rfl (Nat.le_of_ble_eq_true rfl) dX0_init_6 (fun H locs hP hD hS => ?_)
  have hP : va_P (dC, dI) zc [(h0, .inr (2, [.null, .null, .null, .int 0, .null, .null, .int lim, .int 0, .int 0]))] H := hP
  have hD : va_D A [(h0, .inr (2, [.null, .null, .null, .int 0, .null, .null, .int lim, .int 0, .int 0]))] := hD
  refine lv_aload_n hx hb dX0_init_9 rfl (lv_at hl 0 rfl) ?_
  refine lv_iload_n hx hb dX0_init_10 rfl (lv_at hl 2 rfl) ?_
  refine va_putF (D := (dC, dI)) (ci := 2) (v := .int fc) (ty := .int) (C := RX0) (T := TX0) (N := 9) hx hb hts iX0 tyX0 tyX0_ok nmX0 hown hK hP hD hS 0 rfl rfl 3 (by decide) (hts _ kw_532) (fun _ h9 => h9) rfl hin rfl (by decide +kernel) rfl rfl (Nat.le_of_ble_eq_true rfl) dX0_init_11 (fun H locs hP hD hS => ?_)
  have hP : va_P (dC, dI) zc [(h0, .inr (2, [.null, .null, .null, .int fc, .null, .null, .int lim, .int 0, .int 0]))] H := hP
  have hD : va_D A [(h0, .inr (2, [.null, .null, .null, .int fc, .null, .null, .int lim, .int 0, .int 0]))] := hD
  refine lv_aload_n hx hb dX0_init_14 rfl (lv_at hl 0 rfl) ?_
  refine va_new (ci := 0) (fs := [.int 0, .null, .int 0]) (C := RJx4a65c) (T := TJx4a65c) (N := 3) hx hb hts iJx4a65c tyJx4a65c tyJx4a65c_ok hown (hts _ kw_522) (hts _ kw_112) (hts _ kw_67) hK hP hD hS hA rfl z_dfJx4a65c (zl_b rfl) (zl_b rfl) dX0_init_15 (fun q_1 H hP hD hS => ?_)
  have hP : va_P (dC, dI) zc [(h0, .inr (2, [.null, .null, .null, .int fc, .null, .null, .int lim, .int 0, .int 0])), (q_1, .inr (0, [.int 0, .null, .int 0]))] H := hP
  have hD : va_D A [(h0, .inr (2, [.null, .null, .null, .int fc, .null, .null, .int lim, .int 0, .int 0])), (q_1, .inr (0, [.int 0, .null, .int 0]))] := hD
  refine W.widen (k := 1) (n := 3) (zl_b rfl) (zl_b rfl) ?_
  refine lv_dup hx hb dX0_init_18 rfl ?_
  have hFc := va_free (wc := [(q_1, .inr (0, [.int 0, .null, .int 0]))]) hD hS hA [1] rfl
  refine va_callv (va_runI (As := []) (rest := [.ref q_1, .ref h0]) ⟨hx, hb, hml, hown, hts⟩ (c_AL_init l dC dI H.size t q_1) (cwI 0 hts (zg_c kw_115) rfl rfl rfl (hts _ kw_67) (hts _ kw_523) (hts _ kw_114) rfl (by decide +kernel) ⟨Nat.le_of_ble_eq_true rfl, Nat.le_of_ble_eq_true rfl⟩) ⟨zA_blind, zA_pre hP hD hS hK hQ hA [1] rfl rfl (by decide) [] rfl⟩ rfl rfl hl.1 rfl (lv_room (Nat.le_of_ble_eq_true rfl)) dX0_init_19 ⟨zl_b rfl, zl_b rfl⟩) hS (fun q _ h => hFc q h) hFc (fun u t9 H1 locs ht hvm hw hB hz1 hk1 hS => ?_)
  obtain ⟨hP1, hK1, hD1⟩ := hB
  rw [ht] at hP1
  have hK1 := va_K.moved hvm.symm hK1
  obtain ⟨hP, hD⟩ := va_join (wr := [(h0, .inr (2, [.null, .null, .null, .int fc, .null, .null, .int lim, .int 0, .int 0]))]) (w1 := [(q_1, .inr (0, [.int 0, .ref t, .int 0]))]) hP hD [1] [0] rfl rfl (by decide) (by decide) hk1 hFc hP1 hD1
  have hK := (hK.sub (tys' := []) [] rfl).app hK1
  generalize H1 = H at hP hS ⊢
  have hP : va_P (dC, dI) zc [(h0, .inr (2, [.null, .null, .null, .int fc, .null, .null, .int lim, .int 0, .int 0])), (q_1, .inr (0, [.int 0, .ref t, .int 0]))] H := hP
  have hD : va_D A [(h0, .inr (2, [.null, .null, .null, .int fc, .null, .null, .int lim, .int 0, .int 0])), (q_1, .inr (0, [.int 0, .ref t, .int 0]))] := hD
  have hK : va_K (dC, dI) zc [] s := hK
  refine va_putF (D := (dC, dI)) (ci := 2) (v := .ref q_1) (ty := .object "java/util/ArrayList") (C := RX0) (T := TX0) (N := 9) hx hb hts iX0 tyX0 tyX0_ok nmX0 hown hK hP hD hS 0 rfl rfl 0 (by decide) (hts _ kw_526) (fun _ h9 => h9) rfl hin rfl (by decide +kernel) rfl rfl (Nat.le_of_ble_eq_true rfl) dX0_init_22 (fun H locs hP hD hS => ?_)
  have hP : va_P (dC, dI) zc [(h0, .inr (2, [.ref q_1, .null, .null, .int fc, .null, .null, .int lim, .int 0, .int 0])), (q_1, .inr (0, [.int 0, .ref t, .int 0]))] H := hP
  have hD : va_D A [(h0, .inr (2, [.ref q_1, .null, .null, .int fc, .null, .null, .int lim, .int 0, .int 0])), (q_1, .inr (0, [.int 0, .ref t, .int 0]))] := hD
  refine lv_aload_n hx hb dX0_init_25 rfl (lv_at hl 0 rfl) ?_
  refine va_new (ci := 0) (fs := [.int 0, .null, .int 0]) (C := RJx4a65c) (T := TJx4a65c) (N := 3) hx hb hts iJx4a65c tyJx4a65c tyJx4a65c_ok hown (hts _ kw_522) (hts _ kw_112) (hts _ kw_67) hK hP hD hS hA rfl z_dfJx4a65c (zl_b rfl) (zl_b rfl) dX0_init_26 (fun q_2 H hP hD hS => ?_)
  have hP : va_P (dC, dI) zc [(h0, .inr (2, [.ref q_1, .null, .null, .int fc, .null, .null, .int lim, .int 0, .int 0])), (q_1, .inr (0, [.int 0, .ref t, .int 0])), (q_2, .inr (0, [.int 0, .null, .int 0]))] H := hP
  have hD : va_D A [(h0, .inr (2, [.ref q_1, .null, .null, .int fc, .null, .null, .int lim, .int 0, .int 0])), (q_1, .inr (0, [.int 0, .ref t, .int 0])), (q_2, .inr (0, [.int 0, .null, .int 0]))] := hD
  refine W.widen (k := 2) (n := 6) (zl_b rfl) (zl_b rfl) ?_
  refine lv_dup hx hb dX0_init_29 rfl ?_
  have hFc := va_free (wc := [(q_2, .inr (0, [.int 0, .null, .int 0]))]) hD hS hA [2] rfl
  refine va_callv (va_runI (As := []) (rest := [.ref q_2, .ref h0]) ⟨hx, hb, hml, hown, hts⟩ (c_AL_init l dC dI H.size t q_2) (cwI 0 hts (zg_c kw_115) rfl rfl rfl (hts _ kw_67) (hts _ kw_523) (hts _ kw_114) rfl (by decide +kernel) ⟨Nat.le_of_ble_eq_true rfl, Nat.le_of_ble_eq_true rfl⟩) ⟨zA_blind, zA_pre hP hD hS hK hQ hA [2] rfl rfl (by decide) [] rfl⟩ rfl rfl hl.1 rfl (lv_room (Nat.le_of_ble_eq_true rfl)) dX0_init_30 ⟨zl_b rfl, zl_b rfl⟩) hS (fun q _ h => hFc q h) hFc (fun u t9 H1 locs ht hvm hw hB hz1 hk1 hS => ?_)
  obtain ⟨hP1, hK1, hD1⟩ := hB
  rw [ht] at hP1
  have hK1 := va_K.moved hvm.symm hK1
  obtain ⟨hP, hD⟩ := va_join (wr := [(h0, .inr (2, [.ref q_1, .null, .null, .int fc, .null, .null, .int lim, .int 0, .int 0])), (q_1, .inr (0, [.int 0, .ref t, .int 0]))]) (w1 := [(q_2, .inr (0, [.int 0, .ref t, .int 0]))]) hP hD [2] [0, 1] rfl rfl (by decide) (by decide) hk1 hFc hP1 hD1
  have hK := (hK.sub (tys' := []) [] rfl).app hK1
  generalize H1 = H at hP hS ⊢
  have hP : va_P (dC, dI) zc [(h0, .inr (2, [.ref q_1, .null, .null, .int fc, .null, .null, .int lim, .int 0, .int 0])), (q_1, .inr (0, [.int 0, .ref t, .int 0])), (q_2, .inr (0, [.int 0, .ref t, .int 0]))] H := hP
  have hD : va_D A [(h0, .inr (2, [.ref q_1, .null, .null, .int fc, .null, .null, .int lim, .int 0, .int 0])), (q_1, .inr (0, [.int 0, .ref t, .int 0])), (q_2, .inr (0, [.int 0, .ref t, .int 0]))] := hD
  have hK : va_K (dC, dI) zc [] s := hK
  refine va_putF (D := (dC, dI)) (ci := 2) (v := .ref q_2) (ty := .object "java/util/ArrayList") (C := RX0) (T := TX0) (N := 9) hx hb hts iX0 tyX0 tyX0_ok nmX0 hown hK hP hD hS 0 rfl rfl 1 (by decide) (hts _ kw_528) (fun _ h9 => h9) rfl hin rfl (by decide +kernel) rfl rfl (Nat.le_of_ble_eq_true rfl) dX0_init_33 (fun H locs hP hD hS => ?_)
  have hP : va_P (dC, dI) zc [(h0, .inr (2, [.ref q_1, .ref q_2, .null, .int fc, .null, .null, .int lim, .int 0, .int 0])), (q_1, .inr (0, [.int 0, .ref t, .int 0])), (q_2, .inr (0, [.int 0, .ref t, .int 0]))] H := hP
  have hD : va_D A [(h0, .inr (2, [.ref q_1, .ref q_2, .null, .int fc, .null, .null, .int lim, .int 0, .int 0])), (q_1, .inr (0, [.int 0, .ref t, .int 0])), (q_2, .inr (0, [.int 0, .ref t, .int 0]))] := hD
  refine lv_aload_n hx hb dX0_init_36 rfl (lv_at hl 0 rfl) ?_
  refine va_new (ci := 0) (fs := [.int 0, .null, .int 0]) (C := RJx4a65c) (T := TJx4a65c) (N := 3) hx hb hts iJx4a65c tyJx4a65c tyJx4a65c_ok hown (hts _ kw_522) (hts _ kw_112) (hts _ kw_67) hK hP hD hS hA rfl z_dfJx4a65c (zl_b rfl) (zl_b rfl) dX0_init_37 (fun q_3 H hP hD hS => ?_)
  have hP : va_P (dC, dI) zc [(h0, .inr (2, [.ref q_1, .ref q_2, .null, .int fc, .null, .null, .int lim, .int 0, .int 0])), (q_1, .inr (0, [.int 0, .ref t, .int 0])), (q_2, .inr (0, [.int 0, .ref t, .int 0])), (q_3, .inr (0, [.int 0, .null, .int 0]))] H := hP
  have hD : va_D A [(h0, .inr (2, [.ref q_1, .ref q_2, .null, .int fc, .null, .null, .int lim, .int 0, .int 0])), (q_1, .inr (0, [.int 0, .ref t, .int 0])), (q_2, .inr (0, [.int 0, .ref t, .int 0])), (q_3, .inr (0, [.int 0, .null, .int 0]))] := hD
  refine W.widen (k := 3) (n := 9) (zl_b rfl) (zl_b rfl) ?_
  refine lv_dup hx hb dX0_init_40 rfl ?_
  have hFc := va_free (wc := [(q_3, .inr (0, [.int 0, .null, .int 0]))]) hD hS hA [3] rfl
  refine va_callv (va_runI (As := []) (rest := [.ref q_3, .ref h0]) ⟨hx, hb, hml, hown, hts⟩ (c_AL_init l dC dI H.size t q_3) (cwI 0 hts (zg_c kw_115) rfl rfl rfl (hts _ kw_67) (hts _ kw_523) (hts _ kw_114) rfl (by decide +kernel) ⟨Nat.le_of_ble_eq_true rfl, Nat.le_of_ble_eq_true rfl⟩) ⟨zA_blind, zA_pre hP hD hS hK hQ hA [3] rfl rfl (by decide) [] rfl⟩ rfl rfl hl.1 rfl (lv_room (Nat.le_of_ble_eq_true rfl)) dX0_init_41 ⟨zl_b rfl, zl_b rfl⟩) hS (fun q _ h => hFc q h) hFc (fun u t9 H1 locs ht hvm hw hB hz1 hk1 hS => ?_)
  obtain ⟨hP1, hK1, hD1⟩ := hB
  rw [ht] at hP1
  have hK1 := va_K.moved hvm.symm hK1
  obtain ⟨hP, hD⟩ := va_join (wr := [(h0, .inr (2, [.ref q_1, .ref q_2, .null, .int fc, .null, .null, .int lim, .int 0, .int 0])), (q_1, .inr (0, [.int 0, .ref t, .int 0])), (q_2, .inr (0, [.int 0, .ref t, .int 0]))]) (w1 := [(q_3, .inr (0, [.int 0, .ref t, .int 0]))]) hP hD [3] [0, 1, 2] rfl rfl (by decide) (by decide) hk1 hFc hP1 hD1
  have hK := (hK.sub (tys' := []) [] rfl).app hK1
  generalize H1 = H at hP hS ⊢
  have hP : va_P (dC, dI) zc [(h0, .inr (2, [.ref q_1, .ref q_2, .null, .int fc, .null, .null, .int lim, .int 0, .int 0])), (q_1, .inr (0, [.int 0, .ref t, .int 0])), (q_2, .inr (0, [.int 0, .ref t, .int 0])), (q_3, .inr (0, [.int 0, .ref t, .int 0]))] H := hP
  have hD : va_D A [(h0, .inr (2, [.ref q_1, .ref q_2, .null, .int fc, .null, .null, .int lim, .int 0, .int 0])), (q_1, .inr (0, [.int 0, .ref t, .int 0])), (q_2, .inr (0, [.int 0, .ref t, .int 0])), (q_3, .inr (0, [.int 0, .ref t, .int 0]))] := hD
  have hK : va_K (dC, dI) zc [] s := hK
  refine va_putF (D := (dC, dI)) (ci := 2) (v := .ref q_3) (ty := .object "java/util/ArrayList") (C := RX0) (T := TX0) (N := 9) hx hb hts iX0 tyX0 tyX0_ok nmX0 hown hK hP hD hS 0 rfl rfl 2 (by decide) (hts _ kw_530) (fun _ h9 => h9) rfl hin rfl (by decide +kernel) rfl rfl (Nat.le_of_ble_eq_true rfl) dX0_init_44 (fun H locs hP hD hS => ?_)
  have hP : va_P (dC, dI) zc [(h0, .inr (2, [.ref q_1, .ref q_2, .ref q_3, .int fc, .null, .null, .int lim, .int 0, .int 0])), (q_1, .inr (0, [.int 0, .ref t, .int 0])), (q_2, .inr (0, [.int 0, .ref t, .int 0])), (q_3, .inr (0, [.int 0, .ref t, .int 0]))] H := hP
  have hD : va_D A [(h0, .inr (2, [.ref q_1, .ref q_2, .ref q_3, .int fc, .null, .null, .int lim, .int 0, .int 0])), (q_1, .inr (0, [.int 0, .ref t, .int 0])), (q_2, .inr (0, [.int 0, .ref t, .int 0])), (q_3, .inr (0, [.int 0, .ref t, .int 0]))] := hD
  refine lv_aload_n hx hb dX0_init_47 rfl (lv_at hl 0 rfl) ?_
  refine lv_bipush (v := 12) hx hb dX0_init_48 (by decide) ?_
  refine va_newa (atype := .long) (ty := .long) (a0 := (12, .inr (.inl (fun _ => 0)))) hx hb (hts _ kw_180) rfl hK hP hD hS hA (fun _ => rfl) (by decide) rfl (by decide) (zl_b rfl) (zl_b rfl) dX0_init_50 (fun q_4 k_5 H hK hP hD hS => ?_)
  have hP : va_P (dC, dI) zc [(h0, .inr (2, [.ref q_1, .ref q_2, .ref q_3, .int fc, .null, .null, .int lim, .int 0, .int 0])), (q_1, .inr (0, [.int 0, .ref t, .int 0])), (q_2, .inr (0, [.int 0, .ref t, .int 0])), (q_3, .inr (0, [.int 0, .ref t, .int 0])), (q_4, .inl (k_5, 12, .inr (.inl (fun _ => 0))))] H := hP
  have hD : va_D A [(h0, .inr (2, [.ref q_1, .ref q_2, .ref q_3, .int fc, .null, .null, .int lim, .int 0, .int 0])), (q_1, .inr (0, [.int 0, .ref t, .int 0])), (q_2, .inr (0, [.int 0, .ref t, .int 0])), (q_3, .inr (0, [.int 0, .ref t, .int 0])), (q_4, .inl (k_5, 12, .inr (.inl (fun _ => 0))))] := hD
  have hK : va_K (dC, dI) zc [(k_5, .long)] s := hK
  refine W.widen (k := 4) (n := 21) (zl_b rfl) (zl_b rfl) ?_
  refine va_putF (D := (dC, dI)) (ci := 2) (v := .ref q_4) (ty := .array (.long)) (C := RX0) (T := TX0) (N := 9) hx hb hts iX0 tyX0 tyX0_ok nmX0 hown hK hP hD hS 0 rfl rfl 4 (by decide) (hts _ kw_534) (fun _ h9 => h9) rfl hin rfl (by decide +kernel) rfl rfl (Nat.le_of_ble_eq_true rfl) dX0_init_52 (fun H locs hP hD hS => ?_)
  have hP : va_P (dC, dI) zc [(h0, .inr (2, [.ref q_1, .ref q_2, .ref q_3, .int fc, .ref q_4, .null, .int lim, .int 0, .int 0])), (q_1, .inr (0, [.int 0, .ref t, .int 0])), (q_2, .inr (0, [.int 0, .ref t, .int 0])), (q_3, .inr (0, [.int 0, .ref t, .int 0])), (q_4, .inl (k_5, 12, .inr (.inl (fun _ => 0))))] H := hP
  have hD : va_D A [(h0, .inr (2, [.ref q_1, .ref q_2, .ref q_3, .int fc, .ref q_4, .null, .int lim, .int 0, .int 0])), (q_1, .inr (0, [.int 0, .ref t, .int 0])), (q_2, .inr (0, [.int 0, .ref t, .int 0])), (q_3, .inr (0, [.int 0, .ref t, .int 0])), (q_4, .inl (k_5, 12, .inr (.inl (fun _ => 0))))] := hD
  refine lv_aload_n hx hb dX0_init_55 rfl (lv_at hl 0 rfl) ?_
  refine va_new (ci := 3) (fs := [.null, .null, .null, .null, .null, .long 0, .int 0, .int 0, .int 0, .int 0, .long 0, .long 0, .long 0, .int 0, .int 0, .int 0, .int 0]) (C := RX1) (T := TX1) (N := 17) hx hb hts iX1 tyX1 tyX1_ok hown (hts _ kw_524) (hts _ kw_141) (hts _ kw_68) hK hP hD hS hA rfl z_dfX1 (zl_b rfl) (zl_b rfl) dX0_init_56 (fun q_6 H hP hD hS => ?_)
  have hP : va_P (dC, dI) zc [(h0, .inr (2, [.ref q_1, .ref q_2, .ref q_3, .int fc, .ref q_4, .null, .int lim, .int 0, .int 0])), (q_1, .inr (0, [.int 0, .ref t, .int 0])), (q_2, .inr (0, [.int 0, .ref t, .int 0])), (q_3, .inr (0, [.int 0, .ref t, .int 0])), (q_4, .inl (k_5, 12, .inr (.inl (fun _ => 0)))), (q_6, .inr (3, [.null, .null, .null, .null, .null, .long 0, .int 0, .int 0, .int 0, .int 0, .long 0, .long 0, .long 0, .int 0, .int 0, .int 0, .int 0]))] H := hP
  have hD : va_D A [(h0, .inr (2, [.ref q_1, .ref q_2, .ref q_3, .int fc, .ref q_4, .null, .int lim, .int 0, .int 0])), (q_1, .inr (0, [.int 0, .ref t, .int 0])), (q_2, .inr (0, [.int 0, .ref t, .int 0])), (q_3, .inr (0, [.int 0, .ref t, .int 0])), (q_4, .inl (k_5, 12, .inr (.inl (fun _ => 0)))), (q_6, .inr (3, [.null, .null, .null, .null, .null, .long 0, .int 0, .int 0, .int 0, .int 0, .long 0, .long 0, .long 0, .int 0, .int 0, .int 0, .int 0]))] := hD
  refine W.widen (k := 5) (n := 38) (zl_b rfl) (zl_b rfl) ?_
  refine lv_dup hx hb dX0_init_59 rfl ?_
  have hFc := va_free (wc := [(q_6, .inr (3, [.null, .null, .null, .null, .null, .long 0, .int 0, .int 0, .int 0, .int 0, .long 0, .long 0, .long 0, .int 0, .int 0, .int 0, .int 0]))]) hD hS hA [5] rfl
  refine va_callv (va_runIN (As := []) (rest := [.ref q_6, .ref h0]) ⟨hx, hb, hml, hown, hts⟩ (c_Bk_init l dC dI H.size t q_6) ⟨va_cnB 0 hts (zg_c kw_144) rfl rfl rfl (zT_nX0_37 hQ.1) (hts _ kw_68) (by decide +kernel) ⟨Nat.le_of_ble_eq_true rfl, Nat.le_of_ble_eq_true rfl⟩, rfl, (hts _ kw_143)⟩ ⟨zA_blind, zA_pre hP hD hS hK hQ hA [5] rfl rfl (by decide) [] rfl⟩ rfl rfl hl.1 rfl (lv_room (Nat.le_of_ble_eq_true rfl)) dX0_init_60 ⟨zl_b rfl, zl_b rfl⟩) hS (fun q _ h => hFc q h) hFc (fun u t9 H1 locs ht hvm hw hB hz1 hk1 hS => ?_)
  obtain ⟨hP1, hK1, hD1⟩ := hB
  rw [ht] at hP1
  have hK1 := va_K.moved hvm.symm hK1
  obtain ⟨hP, hD⟩ := va_join (wr := [(h0, .inr (2, [.ref q_1, .ref q_2, .ref q_3, .int fc, .ref q_4, .null, .int lim, .int 0, .int 0])), (q_1, .inr (0, [.int 0, .ref t, .int 0])), (q_2, .inr (0, [.int 0, .ref t, .int 0])), (q_3, .inr (0, [.int 0, .ref t, .int 0])), (q_4, .inl (k_5, 12, .inr (.inl (fun _ => 0))))]) (w1 := []) hP hD [5] [0, 1, 2, 3, 4] rfl rfl (by decide) (by decide) hk1 hFc hP1 hD1
  have hK := (hK.sub (tys' := [(k_5, .long)]) [0] rfl).app hK1
  generalize H1 = H at hP hS ⊢
  have hP : va_P (dC, dI) zc [(h0, .inr (2, [.ref q_1, .ref q_2, .ref q_3, .int fc, .ref q_4, .null, .int lim, .int 0, .int 0])), (q_1, .inr (0, [.int 0, .ref t, .int 0])), (q_2, .inr (0, [.int 0, .ref t, .int 0])), (q_3, .inr (0, [.int 0, .ref t, .int 0])), (q_4, .inl (k_5, 12, .inr (.inl (fun _ => 0))))] H := hP
  have hD : va_D A [(h0, .inr (2, [.ref q_1, .ref q_2, .ref q_3, .int fc, .ref q_4, .null, .int lim, .int 0, .int 0])), (q_1, .inr (0, [.int 0, .ref t, .int 0])), (q_2, .inr (0, [.int 0, .ref t, .int 0])), (q_3, .inr (0, [.int 0, .ref t, .int 0])), (q_4, .inl (k_5, 12, .inr (.inl (fun _ => 0))))] := hD
  have hK : va_K (dC, dI) zc [(k_5, .long)] s := hK
  refine W.widen (k := 22) (n := 122) (zl_b rfl) (zl_b rfl) ?_
  refine va_putF (D := (dC, dI)) (ci := 2) (v := .ref q_6) (ty := .object "StatementCycle$Books") (C := RX0) (T := TX0) (N := 9) hx hb hts iX0 tyX0 tyX0_ok nmX0 hown hK hP hD hS 0 rfl rfl 5 (by decide) (hts _ kw_536) (fun _ h9 => h9) rfl hin rfl (by decide +kernel) rfl rfl (Nat.le_of_ble_eq_true rfl) dX0_init_63 (fun H locs hP hD hS => ?_)
  have hP : va_P (dC, dI) zc [(h0, .inr (2, [.ref q_1, .ref q_2, .ref q_3, .int fc, .ref q_4, .ref q_6, .int lim, .int 0, .int 0])), (q_1, .inr (0, [.int 0, .ref t, .int 0])), (q_2, .inr (0, [.int 0, .ref t, .int 0])), (q_3, .inr (0, [.int 0, .ref t, .int 0])), (q_4, .inl (k_5, 12, .inr (.inl (fun _ => 0))))] H := hP
  have hD : va_D A [(h0, .inr (2, [.ref q_1, .ref q_2, .ref q_3, .int fc, .ref q_4, .ref q_6, .int lim, .int 0, .int 0])), (q_1, .inr (0, [.int 0, .ref t, .int 0])), (q_2, .inr (0, [.int 0, .ref t, .int 0])), (q_3, .inr (0, [.int 0, .ref t, .int 0])), (q_4, .inl (k_5, 12, .inr (.inl (fun _ => 0))))] := hD
  refine lv_aload_n hx hb dX0_init_66 rfl (lv_at hl 0 rfl) ?_
  refine lv_iconst (v := 1) hx hb dX0_init_67 (by decide) ?_
  refine va_put (D := (dC, dI)) (ci := 2) (v := .int 1) (ty := .boolean) (C := RX0) (T := TX0) (N := 9) hx hb hts iX0 tyX0 tyX0_ok nmX0 hown hK hP hD hS 0 rfl rfl 8 (by decide) (hts _ kw_541) (fun _ h9 => h9) rfl (by decide +kernel) rfl rfl (Nat.le_of_ble_eq_true rfl) dX0_init_68 (fun H locs hP hD hS => ?_)
  have hP : va_P (dC, dI) zc [(h0, .inr (2, [.ref q_1, .ref q_2, .ref q_3, .int fc, .ref q_4, .ref q_6, .int lim, .int 0, .int 1])), (q_1, .inr (0, [.int 0, .ref t, .int 0])), (q_2, .inr (0, [.int 0, .ref t, .int 0])), (q_3, .inr (0, [.int 0, .ref t, .int 0])), (q_4, .inl (k_5, 12, .inr (.inl (fun _ => 0))))] H := hP
  have hD : va_D A [(h0, .inr (2, [.ref q_1, .ref q_2, .ref q_3, .int fc, .ref q_4, .ref q_6, .int lim, .int 0, .int 1])), (q_1, .inr (0, [.int 0, .ref t, .int 0])), (q_2, .inr (0, [.int 0, .ref t, .int 0])), (q_3, .inr (0, [.int 0, .ref t, .int 0])), (q_4, .inl (k_5, 12, .inr (.inl (fun _ => 0))))] := hD
  have hP9 := hP.sub (ws' := [(h0, .inr (2, [.ref q_1, .ref q_2, .ref q_3, .int fc, .ref q_4, .ref q_6, .int lim, .int 0, .int 1]))]) [0] rfl
  have hD9 := hD.sub (ws' := [(h0, .inr (2, [.ref q_1, .ref q_2, .ref q_3, .int fc, .ref q_4, .ref q_6, .int lim, .int 0, .int 1]))]) [0] (by decide) rfl
  have hK9 := hK.sub (tys' := []) [] rfl
  exact W.vret hx hb hr (fun t ht hW => ⟨⟨(), rfl, trivial, q_1, q_2, q_3, q_4, q_6, by rw [ht]; exact hP9, va_K.moved hW.alike hK9, hD9⟩, hS.F ht⟩) hS.2.2 dX0_init_71
set_option maxHeartbeats 4000000 in
set_option maxRecDepth 100000 in
/-- Account() of the model -/
theorem c_MAcc_init (l : Launch) (dC : Nat → ClassId) (dI : Nat → Nat → Nat) (sz t : Nat) (h0 : Nat) : Met l yX5_init ws_X5_init ({ frames := 4, cells := 2, slots := 16, locals := 72 }) (zA dC dI [(h0, .inr (6, [.int 0, .int 0, .null, .null]))] [] sz t [.ref h0]) (va_Qv (fun _ : Unit => True) (fun _ t9 => ∃ (q1 q2 : Nat), zB dC dI (va_A [(h0, .inr (6, [.int 0, .int 0, .null, .null]))] sz) [(h0, .inr (6, [.int 0, .int 0, .ref q1, .ref q2]))] [] t9) (va_A [(h0, .inr (6, [.int 0, .int 0, .null, .null]))] sz)) 2 16 (va_A [(h0, .inr (6, [.int 0, .int 0, .null, .null]))] sz) := by
  refine Met.ofW (cc := cX5_init) (maxL := 1) (ret := none) (by decide) rfl ?_
  intro p e s m args below meth c s₁ B hml hv
  obtain ⟨rfl, hsz, hP, hK, hD0, hQ⟩ := hv
  have hx := B.exec
  have hb := B.bytes
  have hr := B.returns
  have hts : ∀ w ∈ zG, w.before _ s = true := fun w h => atoms_spec (ws := ws_X5_init) B.pre w (List.mem_cons_of_mem _ h)
  have hown : s.vm.findClass RX5 = some m.cls := findClass_of_methodNamed B.named
  have hlocks := B.notSynchronized
  have hin : meth.name = "<init>" := (name_of_methodNamed B.named B.method).1
  subst hsz
  have hD := hD0.self (sz := s.heap.size)
  generalize hAe : va_A [(h0, .inr (6, [.int 0, .int 0, .null, .null]))] s.heap.size = A at hD hQ ⊢
  have hA : ∀ q : Nat, s.heap.size ≤ q → A q := fun q h => by rw [← hAe]; exact Or.inr h
  have hS : va_S A s.heap s.heap [] := va_S.rf
  have hP : va_P (dC, dI) zc [(h0, .inr (6, [.int 0, .int 0, .null, .null]))] s.heap := hP
  have hl := lv_entry ([.ref h0]) (n := 1) (Nat.le_of_ble_eq_true rfl)
  rw [lg_entry_eq]
  generalize (lg_sl ([.ref h0]) ++ List.replicate (1 - (lg_sl ([.ref h0])).length) Slot.unset).toArray = ls at hl ⊢
  have hl : lv_has ls 1 [(0, .ref h0)] := hl
  refine lv_aload_n hx hb dX5_init_0 rfl (lv_at hl 0 rfl) ?_
  refine W.objInit hx hb hown (hts _ kw_1394) (hts _ kw_109) (hts _ kw_110) rfl (by rw [hml]; exact hl.1) rfl dX5_init_1 (Nat.le_of_ble_eq_true rfl) (Nat.le_of_ble_eq_true rfl) ?_
  refine W.eq (g2 := F0 m 4 ls []) rfl ?_
  refine lv_aload_n hx hb dX5_init_4 rfl (lv_at hl 0 rfl) ?_
  refine va_new (ci := 0) (fs := [.int 0, .null, .int 0]) (C := RJx4a65c) (T := TJx4a65c) (N := 3) hx hb hts iJx4a65c tyJx4a65c tyJx4a65c_ok hown (hts _ kw_1395) (hts _ kw_112) (hts _ kw_67) hK hP hD hS hA rfl z_dfJx4a65c (zl_b rfl) (zl_b rfl) dX5_init_5 (fun q_1 H hP hD hS => ?_)
  have hP : va_P (dC, dI) zc [(h0, .inr (6, [.int 0, .int 0, .null, .null])), (q_1, .inr (0, [.int 0, .null, .int 0]))] H := hP
  have hD : va_D A [(h0, .inr (6, [.int 0, .int 0, .null, .null])), (q_1, .inr (0, [.int 0, .null, .int 0]))] := hD
  refine W.widen (k := 1) (n := 3) (zl_b rfl) (zl_b rfl) ?_
  refine lv_dup hx hb dX5_init_8 rfl ?_
  have hFc := va_free (wc := [(q_1, .inr (0, [.int 0, .null, .int 0]))]) hD hS hA [1] rfl
  refine va_callv (va_runI (As := []) (rest := [.ref q_1, .ref h0]) ⟨hx, hb, hml, hown, hts⟩ (c_AL_init l dC dI H.size t q_1) (cwI 0 hts (zg_c kw_115) rfl rfl rfl (hts _ kw_67) (hts _ kw_1396) (hts _ kw_114) rfl (by decide +kernel) ⟨Nat.le_of_ble_eq_true rfl, Nat.le_of_ble_eq_true rfl⟩) ⟨zA_blind, zA_pre hP hD hS hK hQ hA [1] rfl rfl (by decide) [] rfl⟩ rfl rfl hl.1 rfl (lv_room (Nat.le_of_ble_eq_true rfl)) dX5_init_9 ⟨zl_b rfl, zl_b rfl⟩) hS (fun q _ h => hFc q h) hFc (fun u t9 H1 locs ht hvm hw hB hz1 hk1 hS => ?_)
  obtain ⟨hP1, hK1, hD1⟩ := hB
  rw [ht] at hP1
  have hK1 := va_K.moved hvm.symm hK1
  obtain ⟨hP, hD⟩ := va_join (wr := [(h0, .inr (6, [.int 0, .int 0, .null, .null]))]) (w1 := [(q_1, .inr (0, [.int 0, .ref t, .int 0]))]) hP hD [1] [0] rfl rfl (by decide) (by decide) hk1 hFc hP1 hD1
  have hK := (hK.sub (tys' := []) [] rfl).app hK1
  generalize H1 = H at hP hS ⊢
  have hP : va_P (dC, dI) zc [(h0, .inr (6, [.int 0, .int 0, .null, .null])), (q_1, .inr (0, [.int 0, .ref t, .int 0]))] H := hP
  have hD : va_D A [(h0, .inr (6, [.int 0, .int 0, .null, .null])), (q_1, .inr (0, [.int 0, .ref t, .int 0]))] := hD
  have hK : va_K (dC, dI) zc [] s := hK
  refine va_putF (D := (dC, dI)) (ci := 6) (v := .ref q_1) (ty := .object "java/util/List") (C := RX5) (T := TX5) (N := 4) hx hb hts iX5 tyX5 tyX5_ok nmX5 hown hK hP hD hS 0 rfl rfl 2 (by decide) (hts _ kw_1401) (fun _ h9 => h9) rfl hin rfl (by decide +kernel) rfl rfl (Nat.le_of_ble_eq_true rfl) dX5_init_12 (fun H locs hP hD hS => ?_)
  have hP : va_P (dC, dI) zc [(h0, .inr (6, [.int 0, .int 0, .ref q_1, .null])), (q_1, .inr (0, [.int 0, .ref t, .int 0]))] H := hP
  have hD : va_D A [(h0, .inr (6, [.int 0, .int 0, .ref q_1, .null])), (q_1, .inr (0, [.int 0, .ref t, .int 0]))] := hD
  refine lv_aload_n hx hb dX5_init_15 rfl (lv_at hl 0 rfl) ?_
  refine lv_bipush (v := 13) hx hb dX5_init_16 (by decide) ?_
  refine va_newq hx hb hown (hts _ kw_1397) (zT_aoL hQ.1) hK hP hD hS hA (by decide) rfl (by decide) (zl_b rfl) (zl_b rfl) dX5_init_18 (fun q_2 k_3 H hK hP hD hS => ?_)
  have hP : va_P (dC, dI) zc [(h0, .inr (6, [.int 0, .int 0, .ref q_1, .null])), (q_1, .inr (0, [.int 0, .ref t, .int 0])), (q_2, .inl (k_3, 13, .inr (.inr (.inr (.inr (fun _ => none))))))] H := hP
  have hD : va_D A [(h0, .inr (6, [.int 0, .int 0, .ref q_1, .null])), (q_1, .inr (0, [.int 0, .ref t, .int 0])), (q_2, .inl (k_3, 13, .inr (.inr (.inr (.inr (fun _ => none))))))] := hD
  have hK : va_K (dC, dI) zc [(k_3, .object "java/lang/Long")] s := hK
  refine W.widen (k := 2) (n := 16) (zl_b rfl) (zl_b rfl) ?_
  refine va_putF (D := (dC, dI)) (ci := 6) (v := .ref q_2) (ty := .array (.object "java/lang/Long")) (C := RX5) (T := TX5) (N := 4) hx hb hts iX5 tyX5 tyX5_ok nmX5 hown hK hP hD hS 0 rfl rfl 3 (by decide) (hts _ kw_1403) (fun _ h9 => h9) rfl hin rfl (by decide +kernel) rfl rfl (Nat.le_of_ble_eq_true rfl) dX5_init_21 (fun H locs hP hD hS => ?_)
  have hP : va_P (dC, dI) zc [(h0, .inr (6, [.int 0, .int 0, .ref q_1, .ref q_2])), (q_1, .inr (0, [.int 0, .ref t, .int 0])), (q_2, .inl (k_3, 13, .inr (.inr (.inr (.inr (fun _ => none))))))] H := hP
  have hD : va_D A [(h0, .inr (6, [.int 0, .int 0, .ref q_1, .ref q_2])), (q_1, .inr (0, [.int 0, .ref t, .int 0])), (q_2, .inl (k_3, 13, .inr (.inr (.inr (.inr (fun _ => none))))))] := hD
  have hP9 := hP.sub (ws' := [(h0, .inr (6, [.int 0, .int 0, .ref q_1, .ref q_2]))]) [0] rfl
  have hD9 := hD.sub (ws' := [(h0, .inr (6, [.int 0, .int 0, .ref q_1, .ref q_2]))]) [0] (by decide) rfl
  have hK9 := hK.sub (tys' := []) [] rfl
  exact W.vret hx hb hr (fun t ht hW => ⟨⟨(), rfl, trivial, q_1, q_2, by rw [ht]; exact hP9, va_K.moved hW.alike hK9, hD9⟩, hS.F ht⟩) hS.2.2 dX5_init_24
set_option maxHeartbeats 4000000 in
set_option maxRecDepth 100000 in
/-- open: no such limit -/
theorem c_openBad (l : Launch) (hst : l.stackTraces = false) (dC : Nat → ClassId) (dI : Nat → Nat → Nat) (sz t : Nat) (h0 ac : Nat) (w0 b0 : Value) (a : Int32) (hv9 : a < 0 ∨ 9999999 < a) : vx_Met l yX4_open ws_X4_open ({ frames := 7, cells := 1, slots := 6, locals := 121 }) (zA dC dI [(h0, .inr (5, [.ref ac, w0, b0, .int 0])), (ac, .inr (0, [.int 0, .ref t, .int 0]))] [] sz t [.ref h0, .int a]) (va_Qi (fun _ (_ : Unit) => False) (fun _ _ => True) (fun _ => False)) (vx_X (fun _ : Unit => True) (fun E _ _ => E = "java/lang/IllegalArgumentException") (fun q => sz ≤ q)) 1 6 (fun q => sz ≤ q) := by
  refine vx_ofW (cc := cX4_open) (maxL := 2) (ret := (some .int)) (by decide) rfl ?_
  intro p e s m args below meth c s₁ B hml htab hv
  obtain ⟨rfl, hsz, hP, hK, hD0, hQ⟩ := hv
  have hx := B.exec
  have hb := B.bytes
  have hr := B.returns
  have hts : ∀ w ∈ zG, w.before _ s = true := fun w h => atoms_spec (ws := ws_X4_open) B.pre w (List.mem_cons_of_mem _ h)
  have hown : s.vm.findClass RX4 = some m.cls := findClass_of_methodNamed B.named
  have hlocks := B.notSynchronized
  subst hsz
  have hD := hD0.self (sz := s.heap.size)
  generalize hAe : va_A [(h0, .inr (5, [.ref ac, w0, b0, .int 0])), (ac, .inr (0, [.int 0, .ref t, .int 0]))] s.heap.size = A at hD hQ
  have hA : ∀ q : Nat, s.heap.size ≤ q → A q := fun q h => by rw [← hAe]; exact Or.inr h
  have hS : va_S A s.heap s.heap [] := va_S.rf
  have hSn : va_S (fun q => s.heap.size ≤ q) s.heap s.heap [] := va_S.rf
  have hP : va_P (dC, dI) zc [(h0, .inr (5, [.ref ac, w0, b0, .int 0])), (ac, .inr (0, [.int 0, .ref t, .int 0]))] s.heap := hP
  have hl := lv_entry ([.ref h0, .int a]) (n := 2) (Nat.le_of_ble_eq_true rfl)
  rw [lg_entry_eq]
  generalize (lg_sl ([.ref h0, .int a]) ++ List.replicate (2 - (lg_sl ([.ref h0, .int a])).length) Slot.unset).toArray = ls at hl ⊢
  have hl : lv_has ls 2 [(0, .ref h0), (1, .int a)] := hl
  refine lv_iload_n hx hb dX4_open_0 rfl (lv_at hl 1 rfl) ?_
  refine lv_iconst (v := 0) hx hb dX4_open_1 (by decide) ?_
  refine lv_ldc hx hb hown (hts _ kw_431) dX4_open_2 ?_
  refine vx_callv (vx_runS (As := [.int a, .int 0, .int 9999999]) (rest := []) ⟨hx, hb, hml, hown, hts⟩ (c_ckBad l hst dC dI s.heap.size t a 0 9999999 hv9) (va_cwS 3 hts (zg_S kw_432 kw_433 kw_64 kw_434) rfl rfl rfl (by decide +kernel) ⟨Nat.le_of_ble_eq_true rfl, Nat.le_of_ble_eq_true rfl⟩) ⟨zA_blind, zA_pre hP hD hS hK hQ hA [] rfl rfl (by decide) [] rfl⟩ rfl rfl hl.1 rfl (lv_room (Nat.le_of_ble_eq_true rfl)) dX4_open_4 ⟨zl_b rfl, zl_b rfl⟩) hSn (fun q _ h => h.elim) (fun q h => Nat.le_trans (Nat.le_refl _) h) (fun q _ h => Nat.le_trans (Nat.le_refl _) h) (fun E ce q9 u t9 H1 locs1 ht hvm hp9 hE hz1 hk1 hS1 hc1 hv1 hcl1 => ?_) (fun u t9 H1 locs1 ht hvm hw hB hz1 hk1 hS1 => hw.elim)
  have hE : E = "java/lang/IllegalArgumentException" := hE
  subst hE
  refine vx_widen (k := 1) (n := 6) (zl_b rfl) (zl_b rfl) ?_
  exact vx_out (fun x hx => (htab x hx).elim) hlocks hc1 hv1 hcl1 (fun t ht hW => ⟨(), trivial, rfl, zS_F hS1 ht⟩) hS1.2.2 (zl_b rfl) (zl_b rfl)
set_option maxHeartbeats 4000000 in
set_option maxRecDepth 100000 in
/-- open: the first account -/
theorem c_openOk (l : Launch) (dC : Nat → ClassId) (dI : Nat → Nat → Nat) (sz t : Nat) (h0 ac : Nat) (w0 b0 : Value) (a : Int32) (hv1 : ¬ a < 0) (hv2 : ¬ 9999999 < a) : Met l yX4_open ws_X4_open ({ frames := 6, cells := 24, slots := 141, locals := 147 }) (zA dC dI [(h0, .inr (5, [.ref ac, w0, b0, .int 0])), (ac, .inr (0, [.int 0, .ref t, .int 0]))] [] sz t [.ref h0, .int a]) (va_Qi (fun r (_ : Unit) => r = 0) (fun _ t9 => zB dC dI (va_A [(h0, .inr (5, [.ref ac, w0, b0, .int 0])), (ac, .inr (0, [.int 0, .ref t, .int 0]))] sz) [] [] t9) (va_A [(h0, .inr (5, [.ref ac, w0, b0, .int 0])), (ac, .inr (0, [.int 0, .ref t, .int 0]))] sz)) 24 141 (va_A [(h0, .inr (5, [.ref ac, w0, b0, .int 0])), (ac, .inr (0, [.int 0, .ref t, .int 0]))] sz) := by
  refine Met.ofW (cc := cX4_open) (maxL := 2) (ret := (some .int)) (by decide) rfl ?_
  intro p e s m args below meth c s₁ B hml hv
  obtain ⟨rfl, hsz, hP, hK, hD0, hQ⟩ := hv
  have hx := B.exec
  have hb := B.bytes
  have hr := B.returns
  have hts : ∀ w ∈ zG, w.before _ s = true := fun w h => atoms_spec (ws := ws_X4_open) B.pre w (List.mem_cons_of_mem _ h)
  have hown : s.vm.findClass RX4 = some m.cls := findClass_of_methodNamed B.named
  have hlocks := B.notSynchronized
  subst hsz
  have hD := hD0.self (sz := s.heap.size)
  generalize hAe : va_A [(h0, .inr (5, [.ref ac, w0, b0, .int 0])), (ac, .inr (0, [.int 0, .ref t, .int 0]))] s.heap.size = A at hD hQ ⊢
  have hA : ∀ q : Nat, s.heap.size ≤ q → A q := fun q h => by rw [← hAe]; exact Or.inr h
  have hS : va_S A s.heap s.heap [] := va_S.rf
  have hP : va_P (dC, dI) zc [(h0, .inr (5, [.ref ac, w0, b0, .int 0])), (ac, .inr (0, [.int 0, .ref t, .int 0]))] s.heap := hP
  have hl := lv_entry ([.ref h0, .int a]) (n := 2) (Nat.le_of_ble_eq_true rfl)
  rw [lg_entry_eq]
  generalize (lg_sl ([.ref h0, .int a]) ++ List.replicate (2 - (lg_sl ([.ref h0, .int a])).length) Slot.unset).toArray = ls at hl ⊢
  have hl : lv_has ls 2 [(0, .ref h0), (1, .int a)] := hl
  refine lv_iload_n hx hb dX4_open_0 rfl (lv_at hl 1 rfl) ?_
  refine lv_iconst (v := 0) hx hb dX4_open_1 (by decide) ?_
  refine lv_ldc hx hb hown (hts _ kw_431) dX4_open_2 ?_
  refine va_csv (W.runS (As := [.int a, .int 0, .int 9999999]) (rest := []) ⟨hx, hb, hml, hown, hts⟩ (c_ckOk l dC dI s.heap.size t a 0 9999999 hv1 hv2) (va_cwS 3 hts (zg_S kw_432 kw_433 kw_64 kw_434) rfl rfl rfl (by decide +kernel) ⟨Nat.le_of_ble_eq_true rfl, Nat.le_of_ble_eq_true rfl⟩) ⟨zA_blind, zA_pre hP hD hS hK hQ hA [] rfl rfl (by decide) [] rfl⟩ rfl rfl hl.1 rfl (lv_room (Nat.le_of_ble_eq_true rfl)) dX4_open_4 ⟨zl_b rfl, zl_b rfl⟩) (fun _ => ?_)
  refine lv_aload_n hx hb dX4_open_7 rfl (lv_at hl 0 rfl) ?_
  refine va_get (D := (dC, dI)) (ci := 5) (v := .ref ac) (C := RX4) (T := TX4) (N := 4) hx hb hts iX4 hown hK hP 0 rfl rfl 0 (by decide) (hts _ kw_240) (fun _ h9 => h9) rfl dX4_open_8 ?_
  refine vp_callSi (W.runV (As := []) (rest := []) ⟨hx, hb, hml, hown, hts⟩ (c_AL_size l dC dI s.heap.size t ac 0 (.ref t) 0) (cwV 0 hts (zg_V kw_257 kw_258 kw_259 kw_67 kw_260) rfl rfl rfl (by decide +kernel) ⟨Nat.le_of_ble_eq_true rfl, Nat.le_of_ble_eq_true rfl⟩) ⟨zA_blind, va_recv hK hP (ci := 0) (q0 := 1) rfl rfl, zA_pre hP hD hS hK hQ hA [1] rfl rfl (by decide) [] rfl⟩ rfl rfl hl.1 rfl (lv_room (Nat.le_of_ble_eq_true rfl)) dX4_open_11 ⟨zl_b rfl, zl_b rfl⟩) (fun r hr => ?_)
  subst hr
  refine lv_iconst (v := 4) hx hb dX4_open_14 (by decide) ?_
  refine lv_icmp_lt (tgt := 26) hx hb dX4_open_15 (by decide) (fun c_1 => ?_) (fun c_1 => absurd c_1 (by decide))
  refine lv_aload_n hx hb dX4_open_26 rfl (lv_at hl 0 rfl) ?_
  refine va_get (D := (dC, dI)) (ci := 5) (v := .ref ac) (C := RX4) (T := TX4) (N := 4) hx hb hts iX4 hown hK hP 0 rfl rfl 0 (by decide) (hts _ kw_240) (fun _ h9 => h9) rfl dX4_open_27 ?_
  refine va_new (ci := 2) (fs := [.null, .null, .null, .int 0, .null, .null, .int 0, .int 0, .int 0]) (C := RX0) (T := TX0) (N := 9) hx hb hts iX0 tyX0 tyX0_ok hown (hts _ kw_275) (hts _ kw_279) (hts _ kw_76) hK hP hD hS hA rfl z_dfX0 (zl_b rfl) (zl_b rfl) dX4_open_30 (fun q_2 H hP hD hS => ?_)
  have hP : va_P (dC, dI) zc [(h0, .inr (5, [.ref ac, w0, b0, .int 0])), (ac, .inr (0, [.int 0, .ref t, .int 0])), (q_2, .inr (2, [.null, .null, .null, .int 0, .null, .null, .int 0, .int 0, .int 0]))] H := hP
  have hD : va_D A [(h0, .inr (5, [.ref ac, w0, b0, .int 0])), (ac, .inr (0, [.int 0, .ref t, .int 0])), (q_2, .inr (2, [.null, .null, .null, .int 0, .null, .null, .int 0, .int 0, .int 0]))] := hD
  refine W.widen (k := 1) (n := 9) (zl_b rfl) (zl_b rfl) ?_
  refine lv_dup hx hb dX4_open_33 rfl ?_
  refine lv_iload_n hx hb dX4_open_34 rfl (lv_at hl 1 rfl) ?_
  refine lv_aload_n hx hb dX4_open_35 rfl (lv_at hl 0 rfl) ?_
  refine va_get (D := (dC, dI)) (ci := 5) (v := .int 0) (C := RX4) (T := TX4) (N := 4) hx hb hts iX4 hown hK hP 0 rfl rfl 3 (by decide) (hts _ kw_243) (fun _ h9 => h9) rfl dX4_open_36 ?_
  refine lv_bipush (v := 30) hx hb dX4_open_39 (by decide) ?_
  refine lv_idiv hx hb dX4_open_41 (by decide) ?_
  refine lv_topi (fun x_3 e_x_3 => ?_)
  obtain rfl : x_3 = 0 := by rw [e_x_3]; decide
  have hFc := va_free (wc := [(q_2, .inr (2, [.null, .null, .null, .int 0, .null, .null, .int 0, .int 0, .int 0]))]) hD hS hA [2] rfl
  refine va_callv (va_runIN (As := [.int a, .int 0]) (rest := [.ref q_2, .ref ac]) ⟨hx, hb, hml, hown, hts⟩ (c_Acc_init l dC dI H.size t q_2 a 0) ⟨va_cnB 2 hts (zg_c kw_520) rfl rfl rfl (zT_nX4_45 hQ.1) (hts _ kw_76) (by decide +kernel) ⟨Nat.le_of_ble_eq_true rfl, Nat.le_of_ble_eq_true rfl⟩, rfl, (hts _ kw_519)⟩ ⟨zA_blind, zA_pre hP hD hS hK hQ hA [2] rfl rfl (by decide) [] rfl⟩ rfl rfl hl.1 rfl (lv_room (Nat.le_of_ble_eq_true rfl)) dX4_open_42 ⟨zl_b rfl, zl_b rfl⟩) hS (fun q _ h => hFc q h) hFc (fun u t9 H1 locs ht hvm hw hB hz1 hk1 hS => ?_)
  obtain ⟨y1, y2, y3, y4, y5, hP1, hK1, hD1⟩ := hB
  rw [ht] at hP1
  have hK1 := va_K.moved hvm.symm hK1
  obtain ⟨hP, hD⟩ := va_join (wr := [(h0, .inr (5, [.ref ac, w0, b0, .int 0])), (ac, .inr (0, [.int 0, .ref t, .int 0]))]) (w1 := [(q_2, .inr (2, [.ref y1, .ref y2, .ref y3, .int 0, .ref y4, .ref y5, .int a, .int 0, .int 1]))]) hP hD [2] [0, 1] rfl rfl (by decide) (by decide) hk1 hFc hP1 hD1
  have hK := (hK.sub (tys' := []) [] rfl).app hK1
  generalize H1 = H at hP hS ⊢
  have hP : va_P (dC, dI) zc [(h0, .inr (5, [.ref ac, w0, b0, .int 0])), (ac, .inr (0, [.int 0, .ref t, .int 0])), (q_2, .inr (2, [.ref y1, .ref y2, .ref y3, .int 0, .ref y4, .ref y5, .int a, .int 0, .int 1]))] H := hP
  have hD : va_D A [(h0, .inr (5, [.ref ac, w0, b0, .int 0])), (ac, .inr (0, [.int 0, .ref t, .int 0])), (q_2, .inr (2, [.ref y1, .ref y2, .ref y3, .int 0, .ref y4, .ref y5, .int a, .int 0, .int 1]))] := hD
  have hK : va_K (dC, dI) zc [] s := hK
  refine W.widen (k := 23) (n := 131) (zl_b rfl) (zl_b rfl) ?_
  have hFc := va_free (wc := [(ac, .inr (0, [.int 0, .ref t, .int 0])), (q_2, .inr (2, [.ref y1, .ref y2, .ref y3, .int 0, .ref y4, .ref y5, .int a, .int 0, .int 1]))]) hD hS hA [1, 2] rfl
  refine va_calli (va_runV (As := [.ref q_2]) (rest := []) ⟨hx, hb, hml, hown, hts⟩ (c_addA l dC dI H.size t ac q_2 [.ref y1, .ref y2, .ref y3, .int 0, .ref y4, .ref y5, .int a, .int 0, .int 1]) (cwV 1 hts (zg_V kw_562 kw_563 kw_564 kw_67 kw_565) rfl rfl rfl (by decide +kernel) ⟨Nat.le_of_ble_eq_true rfl, Nat.le_of_ble_eq_true rfl⟩) ⟨zA_blind, va_recv hK hP (ci := 0) (q0 := 1) rfl rfl, zA_pre hP hD hS hK hQ hA [1, 2] rfl rfl (by decide) [] rfl⟩ rfl rfl hl.1 rfl (lv_room (Nat.le_of_ble_eq_true rfl)) dX4_open_45 ⟨zl_b rfl, zl_b rfl⟩) hS (fun q _ h => hFc q h) hFc (fun r_4 u t9 H1 locs ht hvm hw hB hz1 hk1 hS => ?_)
  obtain ⟨ra, k1, hP1, hK1, hD1⟩ := hB
  rw [ht] at hP1
  have hK1 := va_K.moved hvm.symm hK1
  obtain ⟨hP, hD⟩ := va_join (wr := [(h0, .inr (5, [.ref ac, w0, b0, .int 0]))]) (w1 := [(ac, .inr (0, [.int 1, .ref ra, .int 1])), (q_2, .inr (2, [.ref y1, .ref y2, .ref y3, .int 0, .ref y4, .ref y5, .int a, .int 0, .int 1])), (ra, .inl (k1, 10, .inr (.inr (.inr (.inr (zE q_2))))))]) hP hD [1, 2] [0] rfl rfl (by decide) (by decide) hk1 hFc hP1 hD1
  have hK := (hK.sub (tys' := []) [] rfl).app hK1
  generalize H1 = H at hP hS ⊢
  have hP : va_P (dC, dI) zc [(h0, .inr (5, [.ref ac, w0, b0, .int 0])), (ac, .inr (0, [.int 1, .ref ra, .int 1])), (q_2, .inr (2, [.ref y1, .ref y2, .ref y3, .int 0, .ref y4, .ref y5, .int a, .int 0, .int 1])), (ra, .inl (k1, 10, .inr (.inr (.inr (.inr (zE q_2))))))] H := hP
  have hD : va_D A [(h0, .inr (5, [.ref ac, w0, b0, .int 0])), (ac, .inr (0, [.int 1, .ref ra, .int 1])), (q_2, .inr (2, [.ref y1, .ref y2, .ref y3, .int 0, .ref y4, .ref y5, .int a, .int 0, .int 1])), (ra, .inl (k1, 10, .inr (.inr (.inr (.inr (zE q_2))))))] := hD
  have hK : va_K (dC, dI) zc [(k1, .object "java/lang/Object")] s := hK
  refine W.widen (k := 24) (n := 141) (zl_b rfl) (zl_b rfl) ?_
  have hw : 1 = r_4 := hw.symm
  subst hw
  refine lv_pop hx hb dX4_open_48 rfl ?_
  refine lv_aload_n hx hb dX4_open_49 rfl (lv_at hl 0 rfl) ?_
  refine va_get (D := (dC, dI)) (ci := 5) (v := .ref ac) (C := RX4) (T := TX4) (N := 4) hx hb hts iX4 hown hK hP 0 rfl rfl 0 (by decide) (hts _ kw_240) (fun _ h9 => h9) rfl dX4_open_50 ?_
  refine vp_callSi (W.runV (As := []) (rest := []) ⟨hx, hb, hml, hown, hts⟩ (c_AL_size l dC dI H.size t ac 1 (.ref ra) 1) (cwV 0 hts (zg_V kw_257 kw_258 kw_259 kw_67 kw_260) rfl rfl rfl (by decide +kernel) ⟨Nat.le_of_ble_eq_true rfl, Nat.le_of_ble_eq_true rfl⟩) ⟨zA_blind, va_recv hK hP (ci := 0) (q0 := 1) rfl rfl, zA_pre hP hD hS hK hQ hA [1] rfl rfl (by decide) [] rfl⟩ rfl rfl hl.1 rfl (lv_room (Nat.le_of_ble_eq_true rfl)) dX4_open_53 ⟨zl_b rfl, zl_b rfl⟩) (fun r hr => ?_)
  subst hr
  refine lv_iconst (v := 1) hx hb dX4_open_56 (by decide) ?_
  refine lv_isub hx hb dX4_open_57 ?_
  refine lv_topi (fun x_5 e_x_5 => ?_)
  obtain rfl : x_5 = 0 := by rw [e_x_5]; decide
  have hP9 := hP.sub (ws' := []) [] rfl
  have hD9 := hD.sub (ws' := []) [] (by decide) rfl
  have hK9 := hK.sub (tys' := []) [] rfl
  exact W.iret hx hb hr (fun t ht hW => ⟨⟨_, (), rfl, rfl, by rw [ht]; exact hP9, va_K.moved hW.alike hK9, hD9⟩, hS.F ht⟩) hS.2.2 dX4_open_58
set_option maxHeartbeats 4000000 in
set_option maxRecDepth 100000 in
/-- open of the model: no such limit -/
theorem m_openBad (l : Launch) (dC : Nat → ClassId) (dI : Nat → Nat → Nat) (sz t : Nat) (h0 ac : Nat) (cu : Value) (a : Int32) (hv9 : a < 0 ∨ 9999999 < a) : Met l yX8_open ws_X8_open ({ frames := 2, cells := 0, slots := 0, locals := 34 }) (zA dC dI [(h0, .inr (7, [.ref ac, cu, .int 0, .int 0])), (ac, .inr (0, [.int 0, .ref t, .int 0]))] [] sz t [.ref h0, .int a]) (va_Qi (fun r (_ : Unit) => True) (fun _ t9 => zB dC dI (va_A [(h0, .inr (7, [.ref ac, cu, .int 0, .int 0])), (ac, .inr (0, [.int 0, .ref t, .int 0]))] sz) [(h0, .inr (7, [.ref ac, cu, .int 0, .int 1])), (ac, .inr (0, [.int 0, .ref t, .int 0]))] [] t9) (va_A [(h0, .inr (7, [.ref ac, cu, .int 0, .int 0])), (ac, .inr (0, [.int 0, .ref t, .int 0]))] sz)) 0 0 (va_A [(h0, .inr (7, [.ref ac, cu, .int 0, .int 0])), (ac, .inr (0, [.int 0, .ref t, .int 0]))] sz) := by
  refine Met.ofW (cc := cX8_open) (maxL := 2) (ret := (some .int)) (by decide) rfl ?_
  intro p e s m args below meth c s₁ B hml hv
  obtain ⟨rfl, hsz, hP, hK, hD0, hQ⟩ := hv
  have hx := B.exec
  have hb := B.bytes
  have hr := B.returns
  have hts : ∀ w ∈ zG, w.before _ s = true := fun w h => atoms_spec (ws := ws_X8_open) B.pre w (List.mem_cons_of_mem _ h)
  have hown : s.vm.findClass RX8 = some m.cls := findClass_of_methodNamed B.named
  have hlocks := B.notSynchronized
  subst hsz
  have hD := hD0.self (sz := s.heap.size)
  generalize hAe : va_A [(h0, .inr (7, [.ref ac, cu, .int 0, .int 0])), (ac, .inr (0, [.int 0, .ref t, .int 0]))] s.heap.size = A at hD hQ ⊢
  have hA : ∀ q : Nat, s.heap.size ≤ q → A q := fun q h => by rw [← hAe]; exact Or.inr h
  have hS : va_S A s.heap s.heap [] := va_S.rf
  have hP : va_P (dC, dI) zc [(h0, .inr (7, [.ref ac, cu, .int 0, .int 0])), (ac, .inr (0, [.int 0, .ref t, .int 0]))] s.heap := hP
  have hl := lv_entry ([.ref h0, .int a]) (n := 2) (Nat.le_of_ble_eq_true rfl)
  rw [lg_entry_eq]
  generalize (lg_sl ([.ref h0, .int a]) ++ List.replicate (2 - (lg_sl ([.ref h0, .int a])).length) Slot.unset).toArray = ls at hl ⊢
  have hl : lv_has ls 2 [(0, .ref h0), (1, .int a)] := hl
  refine lv_aload_n hx hb dX8_open_0 rfl (lv_at hl 0 rfl) ?_
  refine lv_iload_n hx hb dX8_open_1 rfl (lv_at hl 1 rfl) ?_
  refine lv_iconst (v := 0) hx hb dX8_open_2 (by decide) ?_
  refine lv_ldc hx hb hown (hts _ kw_1373) dX8_open_3 ?_
  refine vp_callSi (W.runS (As := [.int a, .int 0, .int 9999999]) (rest := [.ref h0]) ⟨hx, hb, hml, hown, hts⟩ (c_isIn0 l dC dI s.heap.size t a 0 9999999 hv9) (va_cwS 3 hts (zg_S kw_1374 kw_1375 kw_70 kw_1376) rfl rfl rfl (by decide +kernel) ⟨Nat.le_of_ble_eq_true rfl, Nat.le_of_ble_eq_true rfl⟩) ⟨zA_blind, zA_pre hP hD hS hK hQ hA [] rfl rfl (by decide) [] rfl⟩ rfl rfl hl.1 rfl (lv_room (Nat.le_of_ble_eq_true rfl)) dX8_open_5 ⟨zl_b rfl, zl_b rfl⟩) (fun r hr => ?_)
  subst hr
  refine lv_iconst (v := 1) hx hb dX8_open_8 (by decide) ?_
  have hFc := va_free (wc := [(h0, .inr (7, [.ref ac, cu, .int 0, .int 0]))]) hD hS hA [0] rfl
  refine va_calli (va_runV (As := [.int 0, .int 1]) (rest := []) ⟨hx, hb, hml, hown, hts⟩ (c_no0 l dC dI s.heap.size t h0 (.ref ac) cu 0 0 1) (cwV 2 hts (zg_V kw_1377 kw_1379 kw_40 kw_70 kw_1380) rfl rfl rfl (by decide +kernel) ⟨Nat.le_of_ble_eq_true rfl, Nat.le_of_ble_eq_true rfl⟩) ⟨zA_blind, va_recv hK hP (ci := 7) (q0 := 0) rfl rfl, zA_pre hP hD hS hK hQ hA [0] rfl rfl (by decide) [] rfl⟩ rfl rfl hl.1 rfl (lv_room (Nat.le_of_ble_eq_true rfl)) dX8_open_9 ⟨zl_b rfl, zl_b rfl⟩) hS (fun q _ h => hFc q h) hFc (fun r_1 u t9 H1 locs ht hvm hw hB hz1 hk1 hS => ?_)
  obtain ⟨hP1, hK1, hD1⟩ := hB
  rw [ht] at hP1
  have hK1 := va_K.moved hvm.symm hK1
  obtain ⟨hP, hD⟩ := va_join (wr := [(ac, .inr (0, [.int 0, .ref t, .int 0]))]) (w1 := [(h0, .inr (7, [.ref ac, cu, .int 0, .int 1]))]) hP hD [0] [1] rfl rfl (by decide) (by decide) hk1 hFc hP1 hD1
  have hK := (hK.sub (tys' := []) [] rfl).app hK1
  generalize H1 = H at hP hS ⊢
  have hP : va_P (dC, dI) zc [(ac, .inr (0, [.int 0, .ref t, .int 0])), (h0, .inr (7, [.ref ac, cu, .int 0, .int 1]))] H := hP
  have hD : va_D A [(ac, .inr (0, [.int 0, .ref t, .int 0])), (h0, .inr (7, [.ref ac, cu, .int 0, .int 1]))] := hD
  have hK : va_K (dC, dI) zc [] s := hK
  have hw : 1 = r_1 := hw.symm
  subst hw
  refine lv_if_ne (tgt := 41) hx hb dX8_open_12 (by decide) (fun c_2 => ?_) (fun c_2 => absurd c_2 (by decide))
  refine lv_iconst (v := 0) hx hb dX8_open_41 (by decide) ?_
  have hP9 := hP.sub (ws' := [(h0, .inr (7, [.ref ac, cu, .int 0, .int 1])), (ac, .inr (0, [.int 0, .ref t, .int 0]))]) [1, 0] rfl
  have hD9 := hD.sub (ws' := [(h0, .inr (7, [.ref ac, cu, .int 0, .int 1])), (ac, .inr (0, [.int 0, .ref t, .int 0]))]) [1, 0] (by decide) rfl
  have hK9 := hK.sub (tys' := []) [] rfl
  exact W.iret hx hb hr (fun t ht hW => ⟨⟨_, (), rfl, trivial, by rw [ht]; exact hP9, va_K.moved hW.alike hK9, hD9⟩, hS.F ht⟩) hS.2.2 dX8_open_42
set_option maxHeartbeats 4000000 in
set_option maxRecDepth 100000 in
/-- open of the model: the first account -/
theorem m_openOk (l : Launch) (dC : Nat → ClassId) (dI : Nat → Nat → Nat) (sz t : Nat) (h0 ac : Nat) (cu : Value) (a : Int32) (hv1 : ¬ a < 0) (hv2 : ¬ 9999999 < a) : Met l yX8_open ws_X8_open ({ frames := 6, cells := 4, slots := 30, locals := 147 }) (zA dC dI [(h0, .inr (7, [.ref ac, cu, .int 0, .int 0])), (ac, .inr (0, [.int 0, .ref t, .int 0]))] [] sz t [.ref h0, .int a]) (va_Qi (fun r (_ : Unit) => r = 0) (fun _ t9 => zB dC dI (va_A [(h0, .inr (7, [.ref ac, cu, .int 0, .int 0])), (ac, .inr (0, [.int 0, .ref t, .int 0]))] sz) [(h0, .inr (7, [.ref ac, cu, .int 0, .int 0]))] [] t9) (va_A [(h0, .inr (7, [.ref ac, cu, .int 0, .int 0])), (ac, .inr (0, [.int 0, .ref t, .int 0]))] sz)) 4 30 (va_A [(h0, .inr (7, [.ref ac, cu, .int 0, .int 0])), (ac, .inr (0, [.int 0, .ref t, .int 0]))] sz) := by
  refine Met.ofW (cc := cX8_open) (maxL := 2) (ret := (some .int)) (by decide) rfl ?_
  intro p e s m args below meth c s₁ B hml hv
  obtain ⟨rfl, hsz, hP, hK, hD0, hQ⟩ := hv
  have hx := B.exec
  have hb := B.bytes
  have hr := B.returns
  have hts : ∀ w ∈ zG, w.before _ s = true := fun w h => atoms_spec (ws := ws_X8_open) B.pre w (List.mem_cons_of_mem _ h)
  have hown : s.vm.findClass RX8 = some m.cls := findClass_of_methodNamed B.named
  have hlocks := B.notSynchronized
  subst hsz
  have hD := hD0.self (sz := s.heap.size)
  generalize hAe : va_A [(h0, .inr (7, [.ref ac, cu, .int 0, .int 0])), (ac, .inr (0, [.int 0, .ref t, .int 0]))] s.heap.size = A at hD hQ ⊢
  have hA : ∀ q : Nat, s.heap.size ≤ q → A q := fun q h => by rw [← hAe]; exact Or.inr h
  have hS : va_S A s.heap s.heap [] := va_S.rf
  have hP : va_P (dC, dI) zc [(h0, .inr (7, [.ref ac, cu, .int 0, .int 0])), (ac, .inr (0, [.int 0, .ref t, .int 0]))] s.heap := hP
  have hl := lv_entry ([.ref h0, .int a]) (n := 2) (Nat.le_of_ble_eq_true rfl)
  rw [lg_entry_eq]
  generalize (lg_sl ([.ref h0, .int a]) ++ List.replicate (2 - (lg_sl ([.ref h0, .int a])).length) Slot.unset).toArray = ls at hl ⊢
  have hl : lv_has ls 2 [(0, .ref h0), (1, .int a)] := hl
  refine lv_aload_n hx hb dX8_open_0 rfl (lv_at hl 0 rfl) ?_
  refine lv_iload_n hx hb dX8_open_1 rfl (lv_at hl 1 rfl) ?_
  refine lv_iconst (v := 0) hx hb dX8_open_2 (by decide) ?_
  refine lv_ldc hx hb hown (hts _ kw_1373) dX8_open_3 ?_
  refine vp_callSi (W.runS (As := [.int a, .int 0, .int 9999999]) (rest := [.ref h0]) ⟨hx, hb, hml, hown, hts⟩ (c_isIn1 l dC dI s.heap.size t a 0 9999999 hv1 hv2) (va_cwS 3 hts (zg_S kw_1374 kw_1375 kw_70 kw_1376) rfl rfl rfl (by decide +kernel) ⟨Nat.le_of_ble_eq_true rfl, Nat.le_of_ble_eq_true rfl⟩) ⟨zA_blind, zA_pre hP hD hS hK hQ hA [] rfl rfl (by decide) [] rfl⟩ rfl rfl hl.1 rfl (lv_room (Nat.le_of_ble_eq_true rfl)) dX8_open_5 ⟨zl_b rfl, zl_b rfl⟩) (fun r hr => ?_)
  subst hr
  refine lv_iconst (v := 1) hx hb dX8_open_8 (by decide) ?_
  have hFc := va_free (wc := [(h0, .inr (7, [.ref ac, cu, .int 0, .int 0]))]) hD hS hA [0] rfl
  refine va_calli (va_runV (As := [.int 1, .int 1]) (rest := []) ⟨hx, hb, hml, hown, hts⟩ (c_no1 l dC dI s.heap.size t h0 (.ref ac) cu 0 0 1) (cwV 2 hts (zg_V kw_1377 kw_1379 kw_40 kw_70 kw_1380) rfl rfl rfl (by decide +kernel) ⟨Nat.le_of_ble_eq_true rfl, Nat.le_of_ble_eq_true rfl⟩) ⟨zA_blind, va_recv hK hP (ci := 7) (q0 := 0) rfl rfl, zA_pre hP hD hS hK hQ hA [0] rfl rfl (by decide) [] rfl⟩ rfl rfl hl.1 rfl (lv_room (Nat.le_of_ble_eq_true rfl)) dX8_open_9 ⟨zl_b rfl, zl_b rfl⟩) hS (fun q _ h => hFc q h) hFc (fun r_1 u t9 H1 locs ht hvm hw hB hz1 hk1 hS => ?_)
  obtain ⟨hP1, hK1, hD1⟩ := hB
  rw [ht] at hP1
  have hK1 := va_K.moved hvm.symm hK1
  obtain ⟨hP, hD⟩ := va_join (wr := [(ac, .inr (0, [.int 0, .ref t, .int 0]))]) (w1 := [(h0, .inr (7, [.ref ac, cu, .int 0, .int 0]))]) hP hD [0] [1] rfl rfl (by decide) (by decide) hk1 hFc hP1 hD1
  have hK := (hK.sub (tys' := []) [] rfl).app hK1
  generalize H1 = H at hP hS ⊢
  have hP : va_P (dC, dI) zc [(ac, .inr (0, [.int 0, .ref t, .int 0])), (h0, .inr (7, [.ref ac, cu, .int 0, .int 0]))] H := hP
  have hD : va_D A [(ac, .inr (0, [.int 0, .ref t, .int 0])), (h0, .inr (7, [.ref ac, cu, .int 0, .int 0]))] := hD
  have hK : va_K (dC, dI) zc [] s := hK
  have hw : 0 = r_1 := hw.symm
  subst hw
  refine lv_if_ne (tgt := 41) hx hb dX8_open_12 (by decide) (fun c_2 => absurd c_2 (by decide)) (fun c_2 => ?_)
  refine lv_aload_n hx hb dX8_open_15 rfl (lv_at hl 0 rfl) ?_
  refine lv_aload_n hx hb dX8_open_16 rfl (lv_at hl 0 rfl) ?_
  refine va_get (D := (dC, dI)) (ci := 7) (v := .ref ac) (C := RX8) (T := TX8) (N := 4) hx hb hts iX8 hown hK hP 1 rfl rfl 0 (by decide) (hts _ kw_1352) (fun _ h9 => h9) rfl dX8_open_17 ?_
  refine va_csFi (va_runF (As := []) (rest := [.ref h0]) ((hK.1 0 _ rfl).2) ⟨hx, hb, hml, hown, hts⟩ (c_AL_size l dC dI H.size t ac 0 (.ref t) 0) (va_cwF 0 hts (zg_F kw_1382 kw_1386 kw_258 kw_67 kw_260) rfl rfl rfl (zT_fsize hQ.1) (by decide +kernel) ⟨Nat.le_of_ble_eq_true rfl, Nat.le_of_ble_eq_true rfl⟩) ⟨zA_blind, va_recv hK hP (ci := 0) (q0 := 0) rfl rfl, zA_pre hP hD hS hK hQ hA [0] rfl rfl (by decide) [] rfl⟩ rfl rfl hl.1 rfl (lv_room (Nat.le_of_ble_eq_true rfl)) dX8_open_20 ⟨zl_b rfl, zl_b rfl⟩) (fun r hr => ?_)
  subst hr
  refine lv_iconst (v := 4) hx hb dX8_open_25 (by decide) ?_
  refine lv_icmp_ge (tgt := 33) hx hb dX8_open_26 (by decide) (fun c_3 => absurd c_3 (by decide)) (fun c_3 => ?_)
  refine lv_iconst (v := 1) hx hb dX8_open_29 (by decide) ?_
  refine lv_goto (tgt := 34) hx hb dX8_open_30 (by decide) ?_
  refine lv_iconst (v := 2) hx hb dX8_open_34 (by decide) ?_
  have hFc := va_free (wc := [(h0, .inr (7, [.ref ac, cu, .int 0, .int 0]))]) hD hS hA [1] rfl
  refine va_calli (va_runV (As := [.int 1, .int 2]) (rest := []) ⟨hx, hb, hml, hown, hts⟩ (c_no1 l dC dI H.size t h0 (.ref ac) cu 0 0 2) (cwV 2 hts (zg_V kw_1377 kw_1379 kw_40 kw_70 kw_1380) rfl rfl rfl (by decide +kernel) ⟨Nat.le_of_ble_eq_true rfl, Nat.le_of_ble_eq_true rfl⟩) ⟨zA_blind, va_recv hK hP (ci := 7) (q0 := 1) rfl rfl, zA_pre hP hD hS hK hQ hA [1] rfl rfl (by decide) [] rfl⟩ rfl rfl hl.1 rfl (lv_room (Nat.le_of_ble_eq_true rfl)) dX8_open_35 ⟨zl_b rfl, zl_b rfl⟩) hS (fun q _ h => hFc q h) hFc (fun r_4 u t9 H1 locs ht hvm hw hB hz1 hk1 hS => ?_)
  obtain ⟨hP1, hK1, hD1⟩ := hB
  rw [ht] at hP1
  have hK1 := va_K.moved hvm.symm hK1
  obtain ⟨hP, hD⟩ := va_join (wr := [(ac, .inr (0, [.int 0, .ref t, .int 0]))]) (w1 := [(h0, .inr (7, [.ref ac, cu, .int 0, .int 0]))]) hP hD [1] [0] rfl rfl (by decide) (by decide) hk1 hFc hP1 hD1
  have hK := (hK.sub (tys' := []) [] rfl).app hK1
  generalize H1 = H at hP hS ⊢
  have hP : va_P (dC, dI) zc [(ac, .inr (0, [.int 0, .ref t, .int 0])), (h0, .inr (7, [.ref ac, cu, .int 0, .int 0]))] H := hP
  have hD : va_D A [(ac, .inr (0, [.int 0, .ref t, .int 0])), (h0, .inr (7, [.ref ac, cu, .int 0, .int 0]))] := hD
  have hK : va_K (dC, dI) zc [] s := hK
  have hw : 0 = r_4 := hw.symm
  subst hw
  refine lv_if_eq (tgt := 43) hx hb dX8_open_38 (by decide) (fun c_5 => ?_) (fun c_5 => absurd c_5 (by decide))
  refine lv_aload_n hx hb dX8_open_43 rfl (lv_at hl 0 rfl) ?_
  refine va_get (D := (dC, dI)) (ci := 7) (v := .ref ac) (C := RX8) (T := TX8) (N := 4) hx hb hts iX8 hown hK hP 1 rfl rfl 0 (by decide) (hts _ kw_1352) (fun _ h9 => h9) rfl dX8_open_44 ?_
  refine va_new (ci := 6) (fs := [.int 0, .int 0, .null, .null]) (C := RX5) (T := TX5) (N := 4) hx hb hts iX5 tyX5 tyX5_ok hown (hts _ kw_1389) (hts _ kw_1390) (hts _ kw_81) hK hP hD hS hA rfl z_dfX5 (zl_b rfl) (zl_b rfl) dX8_open_47 (fun q_6 H hP hD hS => ?_)
  have hP : va_P (dC, dI) zc [(ac, .inr (0, [.int 0, .ref t, .int 0])), (h0, .inr (7, [.ref ac, cu, .int 0, .int 0])), (q_6, .inr (6, [.int 0, .int 0, .null, .null]))] H := hP
  have hD : va_D A [(ac, .inr (0, [.int 0, .ref t, .int 0])), (h0, .inr (7, [.ref ac, cu, .int 0, .int 0])), (q_6, .inr (6, [.int 0, .int 0, .null, .null]))] := hD
  refine W.widen (k := 1) (n := 4) (zl_b rfl) (zl_b rfl) ?_
  refine lv_dup hx hb dX8_open_50 rfl ?_
  have hFc := va_free (wc := [(q_6, .inr (6, [.int 0, .int 0, .null, .null]))]) hD hS hA [2] rfl
  refine va_callv (va_runIN (As := []) (rest := [.ref q_6, .ref ac]) ⟨hx, hb, hml, hown, hts⟩ (c_MAcc_init l dC dI H.size t q_6) ⟨va_cnB 0 hts (zg_c kw_1393) rfl rfl rfl (zT_nX8_74 hQ.1) (hts _ kw_81) (by decide +kernel) ⟨Nat.le_of_ble_eq_true rfl, Nat.le_of_ble_eq_true rfl⟩, rfl, (hts _ kw_1392)⟩ ⟨zA_blind, zA_pre hP hD hS hK hQ hA [2] rfl rfl (by decide) [] rfl⟩ rfl rfl hl.1 rfl (lv_room (Nat.le_of_ble_eq_true rfl)) dX8_open_51 ⟨zl_b rfl, zl_b rfl⟩) hS (fun q _ h => hFc q h) hFc (fun u t9 H1 locs ht hvm hw hB hz1 hk1 hS => ?_)
  obtain ⟨y1, y2, hP1, hK1, hD1⟩ := hB
  rw [ht] at hP1
  have hK1 := va_K.moved hvm.symm hK1
  obtain ⟨hP, hD⟩ := va_join (wr := [(ac, .inr (0, [.int 0, .ref t, .int 0])), (h0, .inr (7, [.ref ac, cu, .int 0, .int 0]))]) (w1 := [(q_6, .inr (6, [.int 0, .int 0, .ref y1, .ref y2]))]) hP hD [2] [0, 1] rfl rfl (by decide) (by decide) hk1 hFc hP1 hD1
  have hK := (hK.sub (tys' := []) [] rfl).app hK1
  generalize H1 = H at hP hS ⊢
  have hP : va_P (dC, dI) zc [(ac, .inr (0, [.int 0, .ref t, .int 0])), (h0, .inr (7, [.ref ac, cu, .int 0, .int 0])), (q_6, .inr (6, [.int 0, .int 0, .ref y1, .ref y2]))] H := hP
  have hD : va_D A [(ac, .inr (0, [.int 0, .ref t, .int 0])), (h0, .inr (7, [.ref ac, cu, .int 0, .int 0])), (q_6, .inr (6, [.int 0, .int 0, .ref y1, .ref y2]))] := hD
  have hK : va_K (dC, dI) zc [] s := hK
  refine W.widen (k := 3) (n := 20) (zl_b rfl) (zl_b rfl) ?_
  have hFc := va_free (wc := [(ac, .inr (0, [.int 0, .ref t, .int 0])), (q_6, .inr (6, [.int 0, .int 0, .ref y1, .ref y2]))]) hD hS hA [0, 2] rfl
  refine va_callFi (va_runF (As := [.ref q_6]) (rest := []) ((hK.1 0 _ rfl).2) ⟨hx, hb, hml, hown, hts⟩ (c_addM l dC dI H.size t ac q_6 [.int 0, .int 0, .ref y1, .ref y2]) (va_cwF 1 hts (zg_F kw_1415 kw_1418 kw_563 kw_67 kw_565) rfl rfl rfl (zT_fadd hQ.1) (by decide +kernel) ⟨Nat.le_of_ble_eq_true rfl, Nat.le_of_ble_eq_true rfl⟩) ⟨zA_blind, va_recv hK hP (ci := 0) (q0 := 0) rfl rfl, zA_pre hP hD hS hK hQ hA [0, 2] rfl rfl (by decide) [] rfl⟩ rfl rfl hl.1 rfl (lv_room (Nat.le_of_ble_eq_true rfl)) dX8_open_54 ⟨zl_b rfl, zl_b rfl⟩) hS (fun q _ h => hFc q h) hFc (fun r_7 u t9 H1 locs ht hvm hw hB hz1 hk1 hS => ?_)
  obtain ⟨ra, k1, hP1, hK1, hD1⟩ := hB
  rw [ht] at hP1
  have hK1 := va_K.moved hvm.symm hK1
  obtain ⟨hP, hD⟩ := va_join (wr := [(h0, .inr (7, [.ref ac, cu, .int 0, .int 0]))]) (w1 := [(ac, .inr (0, [.int 1, .ref ra, .int 1])), (q_6, .inr (6, [.int 0, .int 0, .ref y1, .ref y2])), (ra, .inl (k1, 10, .inr (.inr (.inr (.inr (zE q_6))))))]) hP hD [0, 2] [1] rfl rfl (by decide) (by decide) hk1 hFc hP1 hD1
  have hK := (hK.sub (tys' := []) [] rfl).app hK1
  generalize H1 = H at hP hS ⊢
  have hP : va_P (dC, dI) zc [(h0, .inr (7, [.ref ac, cu, .int 0, .int 0])), (ac, .inr (0, [.int 1, .ref ra, .int 1])), (q_6, .inr (6, [.int 0, .int 0, .ref y1, .ref y2])), (ra, .inl (k1, 10, .inr (.inr (.inr (.inr (zE q_6))))))] H := hP
  have hD : va_D A [(h0, .inr (7, [.ref ac, cu, .int 0, .int 0])), (ac, .inr (0, [.int 1, .ref ra, .int 1])), (q_6, .inr (6, [.int 0, .int 0, .ref y1, .ref y2])), (ra, .inl (k1, 10, .inr (.inr (.inr (.inr (zE q_6))))))] := hD
  have hK : va_K (dC, dI) zc [(k1, .object "java/lang/Object")] s := hK
  refine W.widen (k := 4) (n := 30) (zl_b rfl) (zl_b rfl) ?_
  have hw : 1 = r_7 := hw.symm
  subst hw
  refine lv_pop hx hb dX8_open_59 rfl ?_
  refine lv_aload_n hx hb dX8_open_60 rfl (lv_at hl 0 rfl) ?_
  refine va_get (D := (dC, dI)) (ci := 7) (v := .ref ac) (C := RX8) (T := TX8) (N := 4) hx hb hts iX8 hown hK hP 0 rfl rfl 0 (by decide) (hts _ kw_1352) (fun _ h9 => h9) rfl dX8_open_61 ?_
  refine lv_aload_n hx hb dX8_open_64 rfl (lv_at hl 0 rfl) ?_
  refine va_get (D := (dC, dI)) (ci := 7) (v := .ref ac) (C := RX8) (T := TX8) (N := 4) hx hb hts iX8 hown hK hP 0 rfl rfl 0 (by decide) (hts _ kw_1352) (fun _ h9 => h9) rfl dX8_open_65 ?_
  refine va_csFi (va_runF (As := []) (rest := [.ref ac]) ((hK.1 0 _ rfl).2) ⟨hx, hb, hml, hown, hts⟩ (c_AL_size l dC dI H.size t ac 1 (.ref ra) 1) (va_cwF 0 hts (zg_F kw_1382 kw_1386 kw_258 kw_67 kw_260) rfl rfl rfl (zT_fsize hQ.1) (by decide +kernel) ⟨Nat.le_of_ble_eq_true rfl, Nat.le_of_ble_eq_true rfl⟩) ⟨zA_blind, va_recv hK hP (ci := 0) (q0 := 1) rfl rfl, zA_pre hP hD hS hK hQ hA [1] rfl rfl (by decide) [] rfl⟩ rfl rfl hl.1 rfl (lv_room (Nat.le_of_ble_eq_true rfl)) dX8_open_68 ⟨zl_b rfl, zl_b rfl⟩) (fun r hr => ?_)
  subst hr
  refine lv_iconst (v := 1) hx hb dX8_open_73 (by decide) ?_
  refine lv_isub hx hb dX8_open_74 ?_
  refine lv_topi (fun x_8 e_x_8 => ?_)
  obtain rfl : x_8 = 0 := by rw [e_x_8]; decide
  refine va_csFq (va_runF (As := [.int 0]) (rest := []) ((hK.1 0 _ rfl).2) ⟨hx, hb, hml, hown, hts⟩ (c_get0 l dC dI H.size t ac ra q_6 k1) (va_cwF 1 hts (zg_F kw_1422 kw_1425 kw_262 kw_67 kw_264) rfl rfl rfl (zT_fget hQ.1) (by decide +kernel) ⟨Nat.le_of_ble_eq_true rfl, Nat.le_of_ble_eq_true rfl⟩) ⟨zA_blind, va_recv hK hP (ci := 0) (q0 := 1) rfl rfl, zA_pre hP hD hS hK hQ hA [1, 3] rfl rfl (by decide) [0] rfl⟩ rfl rfl hl.1 rfl (lv_room (Nat.le_of_ble_eq_true rfl)) dX8_open_75 ⟨zl_b rfl, zl_b rfl⟩) (fun r hr => ?_)
  subst hr
  refine W.eq (g2 := F0 m 80 ls [.ref q_6]) rfl ?_
  refine va_castS hx hb hown (hts _ kw_1389) (hK.1 6 _ rfl).2 (va_recv hK hP (ci := 6) (q0 := 2) rfl rfl) dX8_open_80 ?_
  refine lv_iload_n hx hb dX8_open_83 rfl (lv_at hl 1 rfl) ?_
  refine va_put (D := (dC, dI)) (ci := 6) (v := .int a) (ty := .int) (C := RX5) (T := TX5) (N := 4) hx hb hts iX5 tyX5 tyX5_ok nmX5 hown hK hP hD hS 2 rfl rfl 0 (by decide) (hts _ kw_1399) (fun _ h9 => h9) rfl (by decide +kernel) rfl rfl (Nat.le_of_ble_eq_true rfl) dX8_open_84 (fun H locs hP hD hS => ?_)
  have hP : va_P (dC, dI) zc [(h0, .inr (7, [.ref ac, cu, .int 0, .int 0])), (ac, .inr (0, [.int 1, .ref ra, .int 1])), (q_6, .inr (6, [.int a, .int 0, .ref y1, .ref y2])), (ra, .inl (k1, 10, .inr (.inr (.inr (.inr (zE q_6))))))] H := hP
  have hD : va_D A [(h0, .inr (7, [.ref ac, cu, .int 0, .int 0])), (ac, .inr (0, [.int 1, .ref ra, .int 1])), (q_6, .inr (6, [.int a, .int 0, .ref y1, .ref y2])), (ra, .inl (k1, 10, .inr (.inr (.inr (.inr (zE q_6))))))] := hD
  refine lv_aload_n hx hb dX8_open_87 rfl (lv_at hl 0 rfl) ?_
  refine va_get (D := (dC, dI)) (ci := 7) (v := .ref ac) (C := RX8) (T := TX8) (N := 4) hx hb hts iX8 hown hK hP 0 rfl rfl 0 (by decide) (hts _ kw_1352) (fun _ h9 => h9) rfl dX8_open_88 ?_
  refine va_csFi (va_runF (As := []) (rest := []) ((hK.1 0 _ rfl).2) ⟨hx, hb, hml, hown, hts⟩ (c_AL_size l dC dI H.size t ac 1 (.ref ra) 1) (va_cwF 0 hts (zg_F kw_1382 kw_1386 kw_258 kw_67 kw_260) rfl rfl rfl (zT_fsize hQ.1) (by decide +kernel) ⟨Nat.le_of_ble_eq_true rfl, Nat.le_of_ble_eq_true rfl⟩) ⟨zA_blind, va_recv hK hP (ci := 0) (q0 := 1) rfl rfl, zA_pre hP hD hS hK hQ hA [1] rfl rfl (by decide) [] rfl⟩ rfl rfl hl.1 rfl (lv_room (Nat.le_of_ble_eq_true rfl)) dX8_open_91 ⟨zl_b rfl, zl_b rfl⟩) (fun r hr => ?_)
  subst hr
  refine lv_iconst (v := 1) hx hb dX8_open_96 (by decide) ?_
  refine lv_isub hx hb dX8_open_97 ?_
  refine lv_topi (fun x_9 e_x_9 => ?_)
  obtain rfl : x_9 = 0 := by rw [e_x_9]; decide
  have hP9 := hP.sub (ws' := [(h0, .inr (7, [.ref ac, cu, .int 0, .int 0]))]) [0] rfl
  have hD9 := hD.sub (ws' := [(h0, .inr (7, [.ref ac, cu, .int 0, .int 0]))]) [0] (by decide) rfl
  have hK9 := hK.sub (tys' := []) [] rfl
  exact W.iret hx hb hr (fun t ht hW => ⟨⟨_, (), rfl, rfl, by rw [ht]; exact hP9, va_K.moved hW.alike hK9, hD9⟩, hS.F ht⟩) hS.2.2 dX8_open_98
