set_option maxHeartbeats 4000000 in
set_option maxRecDepth 100000 in
/-- Books(): what it holds is not told -/
theorem c_Bk_init (l : Launch) (dC : Nat → ClassId) (dI : Nat → Nat → Nat) (sz t : Nat) (h0 : Nat) : Met l yX1_init ws_X1_init ({ frames := 2, cells := 17, slots := 84, locals := 32 }) (zA dC dI [(h0, .inr (3, [.null, .null, .null, .null, .null, .long 0, .int 0, .int 0, .int 0, .int 0, .long 0, .long 0, .long 0, .int 0, .int 0, .int 0, .int 0]))] [] sz t [.ref h0]) (va_Qv (fun _ : Unit => True) (fun _ t9 => zB dC dI (va_A [(h0, .inr (3, [.null, .null, .null, .null, .null, .long 0, .int 0, .int 0, .int 0, .int 0, .long 0, .long 0, .long 0, .int 0, .int 0, .int 0, .int 0]))] sz) [] [] t9) (va_A [(h0, .inr (3, [.null, .null, .null, .null, .null, .long 0, .int 0, .int 0, .int 0, .int 0, .long 0, .long 0, .long 0, .int 0, .int 0, .int 0, .int 0]))] sz)) 17 84 (va_A [(h0, .inr (3, [.null, .null, .null, .null, .null, .long 0, .int 0, .int 0, .int 0, .int 0, .long 0, .long 0, .long 0, .int 0, .int 0, .int 0, .int 0]))] sz) := by
  refine Met.ofW (cc := cX1_init) (maxL := 2) (ret := none) (by decide) rfl ?_
  intro p e s m args below meth c s₁ B hml hv
  obtain ⟨rfl, hsz, hP, hK, hD0, hQ⟩ := hv
  have hx := B.exec
  have hb := B.bytes
  have hr := B.returns
  have hts : ∀ w ∈ zG, w.before _ s = true := fun w h => atoms_spec (ws := ws_X1_init) B.pre w (List.mem_cons_of_mem _ h)
  have hown : s.vm.findClass RX1 = some m.cls := findClass_of_methodNamed B.named
  have hlocks := B.notSynchronized
  have hin : meth.name = "<init>" := (name_of_methodNamed B.named B.method).1
  subst hsz
  have hD := hD0.self (sz := s.heap.size)
  generalize hAe : va_A [(h0, .inr (3, [.null, .null, .null, .null, .null, .long 0, .int 0, .int 0, .int 0, .int 0, .long 0, .long 0, .long 0, .int 0, .int 0, .int 0, .int 0]))] s.heap.size = A at hD hQ ⊢
  have hA : ∀ q : Nat, s.heap.size ≤ q → A q := fun q h => by rw [← hAe]; exact Or.inr h
  have hS : va_S A s.heap s.heap [] := va_S.rf
  have hP : va_P (dC, dI) zc [(h0, .inr (3, [.null, .null, .null, .null, .null, .long 0, .int 0, .int 0, .int 0, .int 0, .long 0, .long 0, .long 0, .int 0, .int 0, .int 0, .int 0]))] s.heap := hP
  have hl := lv_entry ([.ref h0]) (n := 2) (Nat.le_of_ble_eq_true rfl)
  rw [lg_entry_eq]
  generalize (lg_sl ([.ref h0]) ++ List.replicate (2 - (lg_sl ([.ref h0])).length) Slot.unset).toArray = ls at hl ⊢
  have hl : lv_has ls 2 [(0, .ref h0)] := hl
  refine lv_aload_n hx hb dX1_init_0 rfl (lv_at hl 0 rfl) ?_
  refine W.objInit hx hb hown (hts _ kw_145) (hts _ kw_109) (hts _ kw_110) rfl (by rw [hml]; exact hl.1) rfl dX1_init_1 (Nat.le_of_ble_eq_true rfl) (Nat.le_of_ble_eq_true rfl) ?_
  refine W.eq (g2 := F0 m 4 ls []) rfl ?_
  refine lv_aload_n hx hb dX1_init_4 rfl (lv_at hl 0 rfl) ?_
  refine lv_iconst (v := 3) hx hb dX1_init_5 (by decide) ?_
  refine va_newa (atype := .long) (ty := .long) (a0 := (3, .inr (.inl (fun _ => 0)))) hx hb (hts _ kw_180) rfl hK hP hD hS hA (fun _ => rfl) (by decide) rfl (by decide) (zl_b rfl) (zl_b rfl) dX1_init_6 (fun q_1 k_2 H hK hP hD hS => ?_)
  have hP : va_P (dC, dI) zc [(h0, .inr (3, [.null, .null, .null, .null, .null, .long 0, .int 0, .int 0, .int 0, .int 0, .long 0, .long 0, .long 0, .int 0, .int 0, .int 0, .int 0])), (q_1, .inl (k_2, 3, .inr (.inl (fun _ => 0))))] H := hP
  have hD : va_D A [(h0, .inr (3, [.null, .null, .null, .null, .null, .long 0, .int 0, .int 0, .int 0, .int 0, .long 0, .long 0, .long 0, .int 0, .int 0, .int 0, .int 0])), (q_1, .inl (k_2, 3, .inr (.inl (fun _ => 0))))] := hD
  have hK : va_K (dC, dI) zc [(k_2, .long)] s := hK
  refine W.widen (k := 1) (n := 3) (zl_b rfl) (zl_b rfl) ?_
  refine va_putF (D := (dC, dI)) (ci := 3) (v := .ref q_1) (ty := .array (.long)) (C := RX1) (T := TX1) (N := 17) hx hb hts iX1 tyX1 tyX1_ok nmX1 hown hK hP hD hS 0 rfl rfl 0 (by decide) (hts _ kw_181) (fun _ h9 => h9) rfl hin rfl (by decide +kernel) rfl rfl (Nat.le_of_ble_eq_true rfl) dX1_init_8 (fun H locs hP hD hS => ?_)
  have hP : va_P (dC, dI) zc [(h0, .inr (3, [.ref q_1, .null, .null, .null, .null, .long 0, .int 0, .int 0, .int 0, .int 0, .long 0, .long 0, .long 0, .int 0, .int 0, .int 0, .int 0])), (q_1, .inl (k_2, 3, .inr (.inl (fun _ => 0))))] H := hP
  have hD : va_D A [(h0, .inr (3, [.ref q_1, .null, .null, .null, .null, .long 0, .int 0, .int 0, .int 0, .int 0, .long 0, .long 0, .long 0, .int 0, .int 0, .int 0, .int 0])), (q_1, .inl (k_2, 3, .inr (.inl (fun _ => 0))))] := hD
  refine lv_aload_n hx hb dX1_init_11 rfl (lv_at hl 0 rfl) ?_
  refine lv_iconst (v := 3) hx hb dX1_init_12 (by decide) ?_
  refine va_newa (atype := .long) (ty := .long) (a0 := (3, .inr (.inl (fun _ => 0)))) hx hb (hts _ kw_180) rfl hK hP hD hS hA (fun _ => rfl) (by decide) rfl (by decide) (zl_b rfl) (zl_b rfl) dX1_init_13 (fun q_3 k_4 H hK hP hD hS => ?_)
  have hP : va_P (dC, dI) zc [(h0, .inr (3, [.ref q_1, .null, .null, .null, .null, .long 0, .int 0, .int 0, .int 0, .int 0, .long 0, .long 0, .long 0, .int 0, .int 0, .int 0, .int 0])), (q_1, .inl (k_2, 3, .inr (.inl (fun _ => 0)))), (q_3, .inl (k_4, 3, .inr (.inl (fun _ => 0))))] H := hP
  have hD : va_D A [(h0, .inr (3, [.ref q_1, .null, .null, .null, .null, .long 0, .int 0, .int 0, .int 0, .int 0, .long 0, .long 0, .long 0, .int 0, .int 0, .int 0, .int 0])), (q_1, .inl (k_2, 3, .inr (.inl (fun _ => 0)))), (q_3, .inl (k_4, 3, .inr (.inl (fun _ => 0))))] := hD
  have hK : va_K (dC, dI) zc [(k_2, .long), (k_4, .long)] s := hK
  refine W.widen (k := 2) (n := 6) (zl_b rfl) (zl_b rfl) ?_
  refine va_putF (D := (dC, dI)) (ci := 3) (v := .ref q_3) (ty := .array (.long)) (C := RX1) (T := TX1) (N := 17) hx hb hts iX1 tyX1 tyX1_ok nmX1 hown hK hP hD hS 0 rfl rfl 1 (by decide) (hts _ kw_183) (fun _ h9 => h9) rfl hin rfl (by decide +kernel) rfl rfl (Nat.le_of_ble_eq_true rfl) dX1_init_15 (fun H locs hP hD hS => ?_)
  have hP : va_P (dC, dI) zc [(h0, .inr (3, [.ref q_1, .ref q_3, .null, .null, .null, .long 0, .int 0, .int 0, .int 0, .int 0, .long 0, .long 0, .long 0, .int 0, .int 0, .int 0, .int 0])), (q_1, .inl (k_2, 3, .inr (.inl (fun _ => 0)))), (q_3, .inl (k_4, 3, .inr (.inl (fun _ => 0))))] H := hP
  have hD : va_D A [(h0, .inr (3, [.ref q_1, .ref q_3, .null, .null, .null, .long 0, .int 0, .int 0, .int 0, .int 0, .long 0, .long 0, .long 0, .int 0, .int 0, .int 0, .int 0])), (q_1, .inl (k_2, 3, .inr (.inl (fun _ => 0)))), (q_3, .inl (k_4, 3, .inr (.inl (fun _ => 0))))] := hD
  refine lv_aload_n hx hb dX1_init_18 rfl (lv_at hl 0 rfl) ?_
  refine lv_iconst (v := 3) hx hb dX1_init_19 (by decide) ?_
  refine va_newa (atype := .int) (ty := .int) (a0 := (3, .inl (fun _ => 0))) hx hb (hts _ kw_179) rfl hK hP hD hS hA (fun _ => rfl) (by decide) rfl (by decide) (zl_b rfl) (zl_b rfl) dX1_init_20 (fun q_5 k_6 H hK hP hD hS => ?_)
  have hP : va_P (dC, dI) zc [(h0, .inr (3, [.ref q_1, .ref q_3, .null, .null, .null, .long 0, .int 0, .int 0, .int 0, .int 0, .long 0, .long 0, .long 0, .int 0, .int 0, .int 0, .int 0])), (q_1, .inl (k_2, 3, .inr (.inl (fun _ => 0)))), (q_3, .inl (k_4, 3, .inr (.inl (fun _ => 0)))), (q_5, .inl (k_6, 3, .inl (fun _ => 0)))] H := hP
  have hD : va_D A [(h0, .inr (3, [.ref q_1, .ref q_3, .null, .null, .null, .long 0, .int 0, .int 0, .int 0, .int 0, .long 0, .long 0, .long 0, .int 0, .int 0, .int 0, .int 0])), (q_1, .inl (k_2, 3, .inr (.inl (fun _ => 0)))), (q_3, .inl (k_4, 3, .inr (.inl (fun _ => 0)))), (q_5, .inl (k_6, 3, .inl (fun _ => 0)))] := hD
  have hK : va_K (dC, dI) zc [(k_2, .long), (k_4, .long), (k_6, .int)] s := hK
  refine W.widen (k := 3) (n := 9) (zl_b rfl) (zl_b rfl) ?_
  refine va_putF (D := (dC, dI)) (ci := 3) (v := .ref q_5) (ty := .array (.int)) (C := RX1) (T := TX1) (N := 17) hx hb hts iX1 tyX1 tyX1_ok nmX1 hown hK hP hD hS 0 rfl rfl 2 (by decide) (hts _ kw_184) (fun _ h9 => h9) rfl hin rfl (by decide +kernel) rfl rfl (Nat.le_of_ble_eq_true rfl) dX1_init_22 (fun H locs hP hD hS => ?_)
  have hP : va_P (dC, dI) zc [(h0, .inr (3, [.ref q_1, .ref q_3, .ref q_5, .null, .null, .long 0, .int 0, .int 0, .int 0, .int 0, .long 0, .long 0, .long 0, .int 0, .int 0, .int 0, .int 0])), (q_1, .inl (k_2, 3, .inr (.inl (fun _ => 0)))), (q_3, .inl (k_4, 3, .inr (.inl (fun _ => 0)))), (q_5, .inl (k_6, 3, .inl (fun _ => 0)))] H := hP
  have hD : va_D A [(h0, .inr (3, [.ref q_1, .ref q_3, .ref q_5, .null, .null, .long 0, .int 0, .int 0, .int 0, .int 0, .long 0, .long 0, .long 0, .int 0, .int 0, .int 0, .int 0])), (q_1, .inl (k_2, 3, .inr (.inl (fun _ => 0)))), (q_3, .inl (k_4, 3, .inr (.inl (fun _ => 0)))), (q_5, .inl (k_6, 3, .inl (fun _ => 0)))] := hD
  refine lv_aload_n hx hb dX1_init_25 rfl (lv_at hl 0 rfl) ?_
  refine lv_iconst (v := 3) hx hb dX1_init_26 (by decide) ?_
  refine va_newa (atype := .int) (ty := .int) (a0 := (3, .inl (fun _ => 0))) hx hb (hts _ kw_179) rfl hK hP hD hS hA (fun _ => rfl) (by decide) rfl (by decide) (zl_b rfl) (zl_b rfl) dX1_init_27 (fun q_7 k_8 H hK hP hD hS => ?_)
  have hP : va_P (dC, dI) zc [(h0, .inr (3, [.ref q_1, .ref q_3, .ref q_5, .null, .null, .long 0, .int 0, .int 0, .int 0, .int 0, .long 0, .long 0, .long 0, .int 0, .int 0, .int 0, .int 0])), (q_1, .inl (k_2, 3, .inr (.inl (fun _ => 0)))), (q_3, .inl (k_4, 3, .inr (.inl (fun _ => 0)))), (q_5, .inl (k_6, 3, .inl (fun _ => 0))), (q_7, .inl (k_8, 3, .inl (fun _ => 0)))] H := hP
  have hD : va_D A [(h0, .inr (3, [.ref q_1, .ref q_3, .ref q_5, .null, .null, .long 0, .int 0, .int 0, .int 0, .int 0, .long 0, .long 0, .long 0, .int 0, .int 0, .int 0, .int 0])), (q_1, .inl (k_2, 3, .inr (.inl (fun _ => 0)))), (q_3, .inl (k_4, 3, .inr (.inl (fun _ => 0)))), (q_5, .inl (k_6, 3, .inl (fun _ => 0))), (q_7, .inl (k_8, 3, .inl (fun _ => 0)))] := hD
  have hK : va_K (dC, dI) zc [(k_2, .long), (k_4, .long), (k_6, .int), (k_8, .int)] s := hK
  refine W.widen (k := 4) (n := 12) (zl_b rfl) (zl_b rfl) ?_
  refine va_putF (D := (dC, dI)) (ci := 3) (v := .ref q_7) (ty := .array (.int)) (C := RX1) (T := TX1) (N := 17) hx hb hts iX1 tyX1 tyX1_ok nmX1 hown hK hP hD hS 0 rfl rfl 3 (by decide) (hts _ kw_185) (fun _ h9 => h9) rfl hin rfl (by decide +kernel) rfl rfl (Nat.le_of_ble_eq_true rfl) dX1_init_29 (fun H locs hP hD hS => ?_)
  have hP : va_P (dC, dI) zc [(h0, .inr (3, [.ref q_1, .ref q_3, .ref q_5, .ref q_7, .null, .long 0, .int 0, .int 0, .int 0, .int 0, .long 0, .long 0, .long 0, .int 0, .int 0, .int 0, .int 0])), (q_1, .inl (k_2, 3, .inr (.inl (fun _ => 0)))), (q_3, .inl (k_4, 3, .inr (.inl (fun _ => 0)))), (q_5, .inl (k_6, 3, .inl (fun _ => 0))), (q_7, .inl (k_8, 3, .inl (fun _ => 0)))] H := hP
  have hD : va_D A [(h0, .inr (3, [.ref q_1, .ref q_3, .ref q_5, .ref q_7, .null, .long 0, .int 0, .int 0, .int 0, .int 0, .long 0, .long 0, .long 0, .int 0, .int 0, .int 0, .int 0])), (q_1, .inl (k_2, 3, .inr (.inl (fun _ => 0)))), (q_3, .inl (k_4, 3, .inr (.inl (fun _ => 0)))), (q_5, .inl (k_6, 3, .inl (fun _ => 0))), (q_7, .inl (k_8, 3, .inl (fun _ => 0)))] := hD
  refine lv_aload_n hx hb dX1_init_32 rfl (lv_at hl 0 rfl) ?_
  refine lv_bipush (v := 12) hx hb dX1_init_33 (by decide) ?_
  refine va_newq hx hb hown (hts _ kw_146) (zT_aoS hQ.1) hK hP hD hS hA (by decide) rfl (by decide) (zl_b rfl) (zl_b rfl) dX1_init_35 (fun q_9 k_10 H hK hP hD hS => ?_)
  have hP : va_P (dC, dI) zc [(h0, .inr (3, [.ref q_1, .ref q_3, .ref q_5, .ref q_7, .null, .long 0, .int 0, .int 0, .int 0, .int 0, .long 0, .long 0, .long 0, .int 0, .int 0, .int 0, .int 0])), (q_1, .inl (k_2, 3, .inr (.inl (fun _ => 0)))), (q_3, .inl (k_4, 3, .inr (.inl (fun _ => 0)))), (q_5, .inl (k_6, 3, .inl (fun _ => 0))), (q_7, .inl (k_8, 3, .inl (fun _ => 0))), (q_9, .inl (k_10, 12, .inr (.inr (.inr (.inr (fun _ => none))))))] H := hP
  have hD : va_D A [(h0, .inr (3, [.ref q_1, .ref q_3, .ref q_5, .ref q_7, .null, .long 0, .int 0, .int 0, .int 0, .int 0, .long 0, .long 0, .long 0, .int 0, .int 0, .int 0, .int 0])), (q_1, .inl (k_2, 3, .inr (.inl (fun _ => 0)))), (q_3, .inl (k_4, 3, .inr (.inl (fun _ => 0)))), (q_5, .inl (k_6, 3, .inl (fun _ => 0))), (q_7, .inl (k_8, 3, .inl (fun _ => 0))), (q_9, .inl (k_10, 12, .inr (.inr (.inr (.inr (fun _ => none))))))] := hD
  have hK : va_K (dC, dI) zc [(k_2, .long), (k_4, .long), (k_6, .int), (k_8, .int), (k_10, .object "StatementCycle$Statement")] s := hK
  refine W.widen (k := 5) (n := 24) (zl_b rfl) (zl_b rfl) ?_
  refine va_putF (D := (dC, dI)) (ci := 3) (v := .ref q_9) (ty := .array (.object "StatementCycle$Statement")) (C := RX1) (T := TX1) (N := 17) hx hb hts iX1 tyX1 tyX1_ok nmX1 hown hK hP hD hS 0 rfl rfl 4 (by decide) (hts _ kw_186) (fun _ h9 => h9) rfl hin rfl (by decide +kernel) rfl rfl (Nat.le_of_ble_eq_true rfl) dX1_init_38 (fun H locs hP hD hS => ?_)
  have hP : va_P (dC, dI) zc [(h0, .inr (3, [.ref q_1, .ref q_3, .ref q_5, .ref q_7, .ref q_9, .long 0, .int 0, .int 0, .int 0, .int 0, .long 0, .long 0, .long 0, .int 0, .int 0, .int 0, .int 0])), (q_1, .inl (k_2, 3, .inr (.inl (fun _ => 0)))), (q_3, .inl (k_4, 3, .inr (.inl (fun _ => 0)))), (q_5, .inl (k_6, 3, .inl (fun _ => 0))), (q_7, .inl (k_8, 3, .inl (fun _ => 0))), (q_9, .inl (k_10, 12, .inr (.inr (.inr (.inr (fun _ => none))))))] H := hP
  have hD : va_D A [(h0, .inr (3, [.ref q_1, .ref q_3, .ref q_5, .ref q_7, .ref q_9, .long 0, .int 0, .int 0, .int 0, .int 0, .long 0, .long 0, .long 0, .int 0, .int 0, .int 0, .int 0])), (q_1, .inl (k_2, 3, .inr (.inl (fun _ => 0)))), (q_3, .inl (k_4, 3, .inr (.inl (fun _ => 0)))), (q_5, .inl (k_6, 3, .inl (fun _ => 0))), (q_7, .inl (k_8, 3, .inl (fun _ => 0))), (q_9, .inl (k_10, 12, .inr (.inr (.inr (.inr (fun _ => none))))))] := hD
  have hP : va_P (dC, dI) zc [(h0, .inr (3, [.ref q_1, .ref q_3, .ref q_5, .ref q_7, .ref q_9, .long 0, .int 0, .int 0, .int 0, .int 0, .long 0, .long 0, .long 0, .int 0, .int 0, .int 0, .int 0])), (q_9, .inl (k_10, 12, .inr (.inr (.inr (.inr (fun _ => none))))))] H := hP.sub [0, 5] rfl
  have hD : va_D A [(h0, .inr (3, [.ref q_1, .ref q_3, .ref q_5, .ref q_7, .ref q_9, .long 0, .int 0, .int 0, .int 0, .int 0, .long 0, .long 0, .long 0, .int 0, .int 0, .int 0, .int 0])), (q_9, .inl (k_10, 12, .inr (.inr (.inr (.inr (fun _ => none))))))] := hD.sub [0, 5] (by decide) rfl
  refine lv_iconst (v := 0) hx hb dX1_init_41 (by decide) ?_
  refine lv_istore_n (lv' := [(1, .int 0), (0, .ref h0)]) hx hb dX1_init_42 rfl hl (by decide) rfl (fun ls hl => ?_)
  refine lv_iload_n hx hb dX1_init_43 rfl (lv_at hl 0 rfl) ?_
  refine lv_bipush (v := 12) hx hb dX1_init_44 (by decide) ?_
  refine lv_icmp_ge (tgt := 68) hx hb dX1_init_46 (by decide) (fun c_11 => absurd c_11 (by decide)) (fun c_11 => ?_)
  refine lv_aload_n hx hb dX1_init_49 rfl (lv_at hl 1 rfl) ?_
  refine va_get (D := (dC, dI)) (ci := 3) (v := .ref q_9) (C := RX1) (T := TX1) (N := 17) hx hb hts iX1 hown hK hP 0 rfl rfl 4 (by decide) (hts _ kw_186) (fun _ h9 => h9) rfl dX1_init_50 ?_
  refine lv_iload_n hx hb dX1_init_53 rfl (lv_at hl 0 rfl) ?_
  refine va_new (ci := 4) (fs := [.long 0, .long 0, .long 0, .int 0, .int 0]) (C := RX3) (T := TX3) (N := 5) hx hb hts iX3 tyX3 tyX3_ok hown (hts _ kw_146) (hts _ kw_148) (hts _ kw_69) hK hP hD hS hA rfl z_dfX3 (zl_b rfl) (zl_b rfl) dX1_init_54 (fun q_12 H hP hD hS => ?_)
  have hP : va_P (dC, dI) zc [(h0, .inr (3, [.ref q_1, .ref q_3, .ref q_5, .ref q_7, .ref q_9, .long 0, .int 0, .int 0, .int 0, .int 0, .long 0, .long 0, .long 0, .int 0, .int 0, .int 0, .int 0])), (q_9, .inl (k_10, 12, .inr (.inr (.inr (.inr (fun _ => none)))))), (q_12, .inr (4, [.long 0, .long 0, .long 0, .int 0, .int 0]))] H := hP
  have hD : va_D A [(h0, .inr (3, [.ref q_1, .ref q_3, .ref q_5, .ref q_7, .ref q_9, .long 0, .int 0, .int 0, .int 0, .int 0, .long 0, .long 0, .long 0, .int 0, .int 0, .int 0, .int 0])), (q_9, .inl (k_10, 12, .inr (.inr (.inr (.inr (fun _ => none)))))), (q_12, .inr (4, [.long 0, .long 0, .long 0, .int 0, .int 0]))] := hD
  refine W.widen (k := 6) (n := 29) (zl_b rfl) (zl_b rfl) ?_
  refine lv_dup hx hb dX1_init_57 rfl ?_
  have hFc := va_free (wc := [(q_12, .inr (4, [.long 0, .long 0, .long 0, .int 0, .int 0]))]) hD hS hA [2] rfl
  refine va_callv (va_runIN (As := []) (rest := [.ref q_12, .int 0, .ref q_9]) ⟨hx, hb, hml, hown, hts⟩ (c_St_init l dC dI H.size t q_12) ⟨va_cnB 0 hts (zg_c kw_151) rfl rfl rfl (zT_nX1_31 hQ.1) (hts _ kw_69) (by decide +kernel) ⟨Nat.le_of_ble_eq_true rfl, Nat.le_of_ble_eq_true rfl⟩, rfl, (hts _ kw_150)⟩ ⟨zA_blind, zA_pre hP hD hS hK hQ hA [2] rfl rfl (by decide) [] rfl⟩ rfl rfl hl.1 rfl (lv_room (Nat.le_of_ble_eq_true rfl)) dX1_init_58 ⟨zl_b rfl, zl_b rfl⟩) hS (fun q _ h => hFc q h) hFc (fun u t9 H1 locs ht hvm hw hB hz1 hk1 hS => ?_)
  obtain ⟨hP1, hK1, hD1⟩ := hB
  rw [ht] at hP1
  have hK1 := va_K.moved hvm.symm hK1
  obtain ⟨hP, hD⟩ := va_join (wr := [(h0, .inr (3, [.ref q_1, .ref q_3, .ref q_5, .ref q_7, .ref q_9, .long 0, .int 0, .int 0, .int 0, .int 0, .long 0, .long 0, .long 0, .int 0, .int 0, .int 0, .int 0])), (q_9, .inl (k_10, 12, .inr (.inr (.inr (.inr (fun _ => none))))))]) (w1 := [(q_12, .inr (4, [.long 0, .long 0, .long 0, .int 0, .int 0]))]) hP hD [2] [0, 1] rfl rfl (by decide) (by decide) hk1 hFc hP1 hD1
  have hK := (hK.sub (tys' := [(k_2, .long), (k_4, .long), (k_6, .int), (k_8, .int), (k_10, .object "StatementCycle$Statement")]) [0, 1, 2, 3, 4] rfl).app hK1
  generalize H1 = H at hP hS ⊢
  have hP : va_P (dC, dI) zc [(h0, .inr (3, [.ref q_1, .ref q_3, .ref q_5, .ref q_7, .ref q_9, .long 0, .int 0, .int 0, .int 0, .int 0, .long 0, .long 0, .long 0, .int 0, .int 0, .int 0, .int 0])), (q_9, .inl (k_10, 12, .inr (.inr (.inr (.inr (fun _ => none)))))), (q_12, .inr (4, [.long 0, .long 0, .long 0, .int 0, .int 0]))] H := hP
  have hD : va_D A [(h0, .inr (3, [.ref q_1, .ref q_3, .ref q_5, .ref q_7, .ref q_9, .long 0, .int 0, .int 0, .int 0, .int 0, .long 0, .long 0, .long 0, .int 0, .int 0, .int 0, .int 0])), (q_9, .inl (k_10, 12, .inr (.inr (.inr (.inr (fun _ => none)))))), (q_12, .inr (4, [.long 0, .long 0, .long 0, .int 0, .int 0]))] := hD
  have hK : va_K (dC, dI) zc [(k_2, .long), (k_4, .long), (k_6, .int), (k_8, .int), (k_10, .object "StatementCycle$Statement")] s := hK
  refine va_astq hx hb hK hP hD hS 1 4 2 4 rfl rfl rfl rfl (by unfold vp_in; decide) dX1_init_61 (fun H locs hP hD hS => ?_)
  have hP : va_P (dC, dI) zc [(h0, .inr (3, [.ref q_1, .ref q_3, .ref q_5, .ref q_7, .ref q_9, .long 0, .int 0, .int 0, .int 0, .int 0, .long 0, .long 0, .long 0, .int 0, .int 0, .int 0, .int 0])), (q_9, .inl (k_10, 12, .inr (.inr (.inr (.inr (va_up (fun _ => none) (0 : Int32).toNatClampNeg (some q_12))))))), (q_12, .inr (4, [.long 0, .long 0, .long 0, .int 0, .int 0]))] H := hP
  have hD : va_D A [(h0, .inr (3, [.ref q_1, .ref q_3, .ref q_5, .ref q_7, .ref q_9, .long 0, .int 0, .int 0, .int 0, .int 0, .long 0, .long 0, .long 0, .int 0, .int 0, .int 0, .int 0])), (q_9, .inl (k_10, 12, .inr (.inr (.inr (.inr (va_up (fun _ => none) (0 : Int32).toNatClampNeg (some q_12))))))), (q_12, .inr (4, [.long 0, .long 0, .long 0, .int 0, .int 0]))] := hD
  have hP : va_P (dC, dI) zc [(h0, .inr (3, [.ref q_1, .ref q_3, .ref q_5, .ref q_7, .ref q_9, .long 0, .int 0, .int 0, .int 0, .int 0, .long 0, .long 0, .long 0, .int 0, .int 0, .int 0, .int 0])), (q_9, .inl (k_10, 12, .inr (.inr (.inr (.inr (va_up (fun _ => none) (0 : Int32).toNatClampNeg (some q_12)))))))] H := hP.sub [0, 1] rfl
  have hD : va_D A [(h0, .inr (3, [.ref q_1, .ref q_3, .ref q_5, .ref q_7, .ref q_9, .long 0, .int 0, .int 0, .int 0, .int 0, .long 0, .long 0, .long 0, .int 0, .int 0, .int 0, .int 0])), (q_9, .inl (k_10, 12, .inr (.inr (.inr (.inr (va_up (fun _ => none) (0 : Int32).toNatClampNeg (some q_12)))))))] := hD.sub [0, 1] (by decide) rfl
  refine lv_iinc (v := 1) (lv' := [(1, .int 1), (0, .ref h0)]) hx hb dX1_init_62 hl (k := 0) rfl (by decide) (by decide) rfl (fun ls hl => ?_)
  refine lv_goto (tgt := 43) hx hb dX1_init_65 (by decide) ?_
  refine lv_iload_n hx hb dX1_init_43 rfl (lv_at hl 0 rfl) ?_
  refine lv_bipush (v := 12) hx hb dX1_init_44 (by decide) ?_
  refine lv_icmp_ge (tgt := 68) hx hb dX1_init_46 (by decide) (fun c_13 => absurd c_13 (by decide)) (fun c_13 => ?_)
  refine lv_aload_n hx hb dX1_init_49 rfl (lv_at hl 1 rfl) ?_
  refine va_get (D := (dC, dI)) (ci := 3) (v := .ref q_9) (C := RX1) (T := TX1) (N := 17) hx hb hts iX1 hown hK hP 0 rfl rfl 4 (by decide) (hts _ kw_186) (fun _ h9 => h9) rfl dX1_init_50 ?_
  refine lv_iload_n hx hb dX1_init_53 rfl (lv_at hl 0 rfl) ?_
  refine va_new (ci := 4) (fs := [.long 0, .long 0, .long 0, .int 0, .int 0]) (C := RX3) (T := TX3) (N := 5) hx hb hts iX3 tyX3 tyX3_ok hown (hts _ kw_146) (hts _ kw_148) (hts _ kw_69) hK hP hD hS hA rfl z_dfX3 (zl_b rfl) (zl_b rfl) dX1_init_54 (fun q_14 H hP hD hS => ?_)
  have hP : va_P (dC, dI) zc [(h0, .inr (3, [.ref q_1, .ref q_3, .ref q_5, .ref q_7, .ref q_9, .long 0, .int 0, .int 0, .int 0, .int 0, .long 0, .long 0, .long 0, .int 0, .int 0, .int 0, .int 0])), (q_9, .inl (k_10, 12, .inr (.inr (.inr (.inr (va_up (fun _ => none) (0 : Int32).toNatClampNeg (some q_12))))))), (q_14, .inr (4, [.long 0, .long 0, .long 0, .int 0, .int 0]))] H := hP
  have hD : va_D A [(h0, .inr (3, [.ref q_1, .ref q_3, .ref q_5, .ref q_7, .ref q_9, .long 0, .int 0, .int 0, .int 0, .int 0, .long 0, .long 0, .long 0, .int 0, .int 0, .int 0, .int 0])), (q_9, .inl (k_10, 12, .inr (.inr (.inr (.inr (va_up (fun _ => none) (0 : Int32).toNatClampNeg (some q_12))))))), (q_14, .inr (4, [.long 0, .long 0, .long 0, .int 0, .int 0]))] := hD
  refine W.widen (k := 7) (n := 34) (zl_b rfl) (zl_b rfl) ?_
  refine lv_dup hx hb dX1_init_57 rfl ?_
  have hFc := va_free (wc := [(q_14, .inr (4, [.long 0, .long 0, .long 0, .int 0, .int 0]))]) hD hS hA [2] rfl
  refine va_callv (va_runIN (As := []) (rest := [.ref q_14, .int 1, .ref q_9]) ⟨hx, hb, hml, hown, hts⟩ (c_St_init l dC dI H.size t q_14) ⟨va_cnB 0 hts (zg_c kw_151) rfl rfl rfl (zT_nX1_31 hQ.1) (hts _ kw_69) (by decide +kernel) ⟨Nat.le_of_ble_eq_true rfl, Nat.le_of_ble_eq_true rfl⟩, rfl, (hts _ kw_150)⟩ ⟨zA_blind, zA_pre hP hD hS hK hQ hA [2] rfl rfl (by decide) [] rfl⟩ rfl rfl hl.1 rfl (lv_room (Nat.le_of_ble_eq_true rfl)) dX1_init_58 ⟨zl_b rfl, zl_b rfl⟩) hS (fun q _ h => hFc q h) hFc (fun u t9 H1 locs ht hvm hw hB hz1 hk1 hS => ?_)
  obtain ⟨hP1, hK1, hD1⟩ := hB
  rw [ht] at hP1
  have hK1 := va_K.moved hvm.symm hK1
  obtain ⟨hP, hD⟩ := va_join (wr := [(h0, .inr (3, [.ref q_1, .ref q_3, .ref q_5, .ref q_7, .ref q_9, .long 0, .int 0, .int 0, .int 0, .int 0, .long 0, .long 0, .long 0, .int 0, .int 0, .int 0, .int 0])), (q_9, .inl (k_10, 12, .inr (.inr (.inr (.inr (va_up (fun _ => none) (0 : Int32).toNatClampNeg (some q_12)))))))]) (w1 := [(q_14, .inr (4, [.long 0, .long 0, .long 0, .int 0, .int 0]))]) hP hD [2] [0, 1] rfl rfl (by decide) (by decide) hk1 hFc hP1 hD1
  have hK := (hK.sub (tys' := [(k_2, .long), (k_4, .long), (k_6, .int), (k_8, .int), (k_10, .object "StatementCycle$Statement")]) [0, 1, 2, 3, 4] rfl).app hK1
  generalize H1 = H at hP hS ⊢
  have hP : va_P (dC, dI) zc [(h0, .inr (3, [.ref q_1, .ref q_3, .ref q_5, .ref q_7, .ref q_9, .long 0, .int 0, .int 0, .int 0, .int 0, .long 0, .long 0, .long 0, .int 0, .int 0, .int 0, .int 0])), (q_9, .inl (k_10, 12, .inr (.inr (.inr (.inr (va_up (fun _ => none) (0 : Int32).toNatClampNeg (some q_12))))))), (q_14, .inr (4, [.long 0, .long 0, .long 0, .int 0, .int 0]))] H := hP
  have hD : va_D A [(h0, .inr (3, [.ref q_1, .ref q_3, .ref q_5, .ref q_7, .ref q_9, .long 0, .int 0, .int 0, .int 0, .int 0, .long 0, .long 0, .long 0, .int 0, .int 0, .int 0, .int 0])), (q_9, .inl (k_10, 12, .inr (.inr (.inr (.inr (va_up (fun _ => none) (0 : Int32).toNatClampNeg (some q_12))))))), (q_14, .inr (4, [.long 0, .long 0, .long 0, .int 0, .int 0]))] := hD
  have hK : va_K (dC, dI) zc [(k_2, .long), (k_4, .long), (k_6, .int), (k_8, .int), (k_10, .object "StatementCycle$Statement")] s := hK
  refine va_astq hx hb hK hP hD hS 1 4 2 4 rfl rfl rfl rfl (by unfold vp_in; decide) dX1_init_61 (fun H locs hP hD hS => ?_)
  have hP : va_P (dC, dI) zc [(h0, .inr (3, [.ref q_1, .ref q_3, .ref q_5, .ref q_7, .ref q_9, .long 0, .int 0, .int 0, .int 0, .int 0, .long 0, .long 0, .long 0, .int 0, .int 0, .int 0, .int 0])), (q_9, .inl (k_10, 12, .inr (.inr (.inr (.inr (va_up (va_up (fun _ => none) (0 : Int32).toNatClampNeg (some q_12)) (1 : Int32).toNatClampNeg (some q_14))))))), (q_14, .inr (4, [.long 0, .long 0, .long 0, .int 0, .int 0]))] H := hP
  have hD : va_D A [(h0, .inr (3, [.ref q_1, .ref q_3, .ref q_5, .ref q_7, .ref q_9, .long 0, .int 0, .int 0, .int 0, .int 0, .long 0, .long 0, .long 0, .int 0, .int 0, .int 0, .int 0])), (q_9, .inl (k_10, 12, .inr (.inr (.inr (.inr (va_up (va_up (fun _ => none) (0 : Int32).toNatClampNeg (some q_12)) (1 : Int32).toNatClampNeg (some q_14))))))), (q_14, .inr (4, [.long 0, .long 0, .long 0, .int 0, .int 0]))] := hD
  have hP : va_P (dC, dI) zc [(h0, .inr (3, [.ref q_1, .ref q_3, .ref q_5, .ref q_7, .ref q_9, .long 0, .int 0, .int 0, .int 0, .int 0, .long 0, .long 0, .long 0, .int 0, .int 0, .int 0, .int 0])), (q_9, .inl (k_10, 12, .inr (.inr (.inr (.inr (va_up (va_up (fun _ => none) (0 : Int32).toNatClampNeg (some q_12)) (1 : Int32).toNatClampNeg (some q_14)))))))] H := hP.sub [0, 1] rfl
  have hD : va_D A [(h0, .inr (3, [.ref q_1, .ref q_3, .ref q_5, .ref q_7, .ref q_9, .long 0, .int 0, .int 0, .int 0, .int 0, .long 0, .long 0, .long 0, .int 0, .int 0, .int 0, .int 0])), (q_9, .inl (k_10, 12, .inr (.inr (.inr (.inr (va_up (va_up (fun _ => none) (0 : Int32).toNatClampNeg (some q_12)) (1 : Int32).toNatClampNeg (some q_14)))))))] := hD.sub [0, 1] (by decide) rfl
  refine lv_iinc (v := 2) (lv' := [(1, .int 2), (0, .ref h0)]) hx hb dX1_init_62 hl (k := 0) rfl (by decide) (by decide) rfl (fun ls hl => ?_)
  refine lv_goto (tgt := 43) hx hb dX1_init_65 (by decide) ?_
  refine lv_iload_n hx hb dX1_init_43 rfl (lv_at hl 0 rfl) ?_
  refine lv_bipush (v := 12) hx hb dX1_init_44 (by decide) ?_
  refine lv_icmp_ge (tgt := 68) hx hb dX1_init_46 (by decide) (fun c_15 => absurd c_15 (by decide)) (fun c_15 => ?_)
  refine lv_aload_n hx hb dX1_init_49 rfl (lv_at hl 1 rfl) ?_
  refine va_get (D := (dC, dI)) (ci := 3) (v := .ref q_9) (C := RX1) (T := TX1) (N := 17) hx hb hts iX1 hown hK hP 0 rfl rfl 4 (by decide) (hts _ kw_186) (fun _ h9 => h9) rfl dX1_init_50 ?_
  refine lv_iload_n hx hb dX1_init_53 rfl (lv_at hl 0 rfl) ?_
  refine va_new (ci := 4) (fs := [.long 0, .long 0, .long 0, .int 0, .int 0]) (C := RX3) (T := TX3) (N := 5) hx hb hts iX3 tyX3 tyX3_ok hown (hts _ kw_146) (hts _ kw_148) (hts _ kw_69) hK hP hD hS hA rfl z_dfX3 (zl_b rfl) (zl_b rfl) dX1_init_54 (fun q_16 H hP hD hS => ?_)
  have hP : va_P (dC, dI) zc [(h0, .inr (3, [.ref q_1, .ref q_3, .ref q_5, .ref q_7, .ref q_9, .long 0, .int 0, .int 0, .int 0, .int 0, .long 0, .long 0, .long 0, .int 0, .int 0, .int 0, .int 0])), (q_9, .inl (k_10, 12, .inr (.inr (.inr (.inr (va_up (va_up (fun _ => none) (0 : Int32).toNatClampNeg (some q_12)) (1 : Int32).toNatClampNeg (some q_14))))))), (q_16, .inr (4, [.long 0, .long 0, .long 0, .int 0, .int 0]))] H := hP
  have hD : va_D A [(h0, .inr (3, [.ref q_1, .ref q_3, .ref q_5, .ref q_7, .ref q_9, .long 0, .int 0, .int 0, .int 0, .int 0, .long 0, .long 0, .long 0, .int 0, .int 0, .int 0, .int 0])), (q_9, .inl (k_10, 12, .inr (.inr (.inr (.inr (va_up (va_up (fun _ => none) (0 : Int32).toNatClampNeg (some q_12)) (1 : Int32).toNatClampNeg (some q_14))))))), (q_16, .inr (4, [.long 0, .long 0, .long 0, .int 0, .int 0]))] := hD
  refine W.widen (k := 8) (n := 39) (zl_b rfl) (zl_b rfl) ?_
  refine lv_dup hx hb dX1_init_57 rfl ?_
  have hFc := va_free (wc := [(q_16, .inr (4, [.long 0, .long 0, .long 0, .int 0, .int 0]))]) hD hS hA [2] rfl
  refine va_callv (va_runIN (As := []) (rest := [.ref q_16, .int 2, .ref q_9]) ⟨hx, hb, hml, hown, hts⟩ (c_St_init l dC dI H.size t q_16) ⟨va_cnB 0 hts (zg_c kw_151) rfl rfl rfl (zT_nX1_31 hQ.1) (hts _ kw_69) (by decide +kernel) ⟨Nat.le_of_ble_eq_true rfl, Nat.le_of_ble_eq_true rfl⟩, rfl, (hts _ kw_150)⟩ ⟨zA_blind, zA_pre hP hD hS hK hQ hA [2] rfl rfl (by decide) [] rfl⟩ rfl rfl hl.1 rfl (lv_room (Nat.le_of_ble_eq_true rfl)) dX1_init_58 ⟨zl_b rfl, zl_b rfl⟩) hS (fun q _ h => hFc q h) hFc (fun u t9 H1 locs ht hvm hw hB hz1 hk1 hS => ?_)
  obtain ⟨hP1, hK1, hD1⟩ := hB
  rw [ht] at hP1
  have hK1 := va_K.moved hvm.symm hK1
  obtain ⟨hP, hD⟩ := va_join (wr := [(h0, .inr (3, [.ref q_1, .ref q_3, .ref q_5, .ref q_7, .ref q_9, .long 0, .int 0, .int 0, .int 0, .int 0, .long 0, .long 0, .long 0, .int 0, .int 0, .int 0, .int 0])), (q_9, .inl (k_10, 12, .inr (.inr (.inr (.inr (va_up (va_up (fun _ => none) (0 : Int32).toNatClampNeg (some q_12)) (1 : Int32).toNatClampNeg (some q_14)))))))]) (w1 := [(q_16, .inr (4, [.long 0, .long 0, .long 0, .int 0, .int 0]))]) hP hD [2] [0, 1] rfl rfl (by decide) (by decide) hk1 hFc hP1 hD1
  have hK := (hK.sub (tys' := [(k_2, .long), (k_4, .long), (k_6, .int), (k_8, .int), (k_10, .object "StatementCycle$Statement")]) [0, 1, 2, 3, 4] rfl).app hK1
  generalize H1 = H at hP hS ⊢
  have hP : va_P (dC, dI) zc [(h0, .inr (3, [.ref q_1, .ref q_3, .ref q_5, .ref q_7, .ref q_9, .long 0, .int 0, .int 0, .int 0, .int 0, .long 0, .long 0, .long 0, .int 0, .int 0, .int 0, .int 0])), (q_9, .inl (k_10, 12, .inr (.inr (.inr (.inr (va_up (va_up (fun _ => none) (0 : Int32).toNatClampNeg (some q_12)) (1 : Int32).toNatClampNeg (some q_14))))))), (q_16, .inr (4, [.long 0, .long 0, .long 0, .int 0, .int 0]))] H := hP
  have hD : va_D A [(h0, .inr (3, [.ref q_1, .ref q_3, .ref q_5, .ref q_7, .ref q_9, .long 0, .int 0, .int 0, .int 0, .int 0, .long 0, .long 0, .long 0, .int 0, .int 0, .int 0, .int 0])), (q_9, .inl (k_10, 12, .inr (.inr (.inr (.inr (va_up (va_up (fun _ => none) (0 : Int32).toNatClampNeg (some q_12)) (1 : Int32).toNatClampNeg (some q_14))))))), (q_16, .inr (4, [.long 0, .long 0, .long 0, .int 0, .int 0]))] := hD
  have hK : va_K (dC, dI) zc [(k_2, .long), (k_4, .long), (k_6, .int), (k_8, .int), (k_10, .object "StatementCycle$Statement")] s := hK
  refine va_astq hx hb hK hP hD hS 1 4 2 4 rfl rfl rfl rfl (by unfold vp_in; decide) dX1_init_61 (fun H locs hP hD hS => ?_)
  have hP : va_P (dC, dI) zc [(h0, .inr (3, [.ref q_1, .ref q_3, .ref q_5, .ref q_7, .ref q_9, .long 0, .int 0, .int 0, .int 0, .int 0, .long 0, .long 0, .long 0, .int 0, .int 0, .int 0, .int 0])), (q_9, .inl (k_10, 12, .inr (.inr (.inr (.inr (va_up (va_up (va_up (fun _ => none) (0 : Int32).toNatClampNeg (some q_12)) (1 : Int32).toNatClampNeg (some q_14)) (2 : Int32).toNatClampNeg (some q_16))))))), (q_16, .inr (4, [.long 0, .long 0, .long 0, .int 0, .int 0]))] H := hP
  have hD : va_D A [(h0, .inr (3, [.ref q_1, .ref q_3, .ref q_5, .ref q_7, .ref q_9, .long 0, .int 0, .int 0, .int 0, .int 0, .long 0, .long 0, .long 0, .int 0, .int 0, .int 0, .int 0])), (q_9, .inl (k_10, 12, .inr (.inr (.inr (.inr (va_up (va_up (va_up (fun _ => none) (0 : Int32).toNatClampNeg (some q_12)) (1 : Int32).toNatClampNeg (some q_14)) (2 : Int32).toNatClampNeg (some q_16))))))), (q_16, .inr (4, [.long 0, .long 0, .long 0, .int 0, .int 0]))] := hD
  have hP : va_P (dC, dI) zc [(h0, .inr (3, [.ref q_1, .ref q_3, .ref q_5, .ref q_7, .ref q_9, .long 0, .int 0, .int 0, .int 0, .int 0, .long 0, .long 0, .long 0, .int 0, .int 0, .int 0, .int 0])), (q_9, .inl (k_10, 12, .inr (.inr (.inr (.inr (va_up (va_up (va_up (fun _ => none) (0 : Int32).toNatClampNeg (some q_12)) (1 : Int32).toNatClampNeg (some q_14)) (2 : Int32).toNatClampNeg (some q_16)))))))] H := hP.sub [0, 1] rfl
  have hD : va_D A [(h0, .inr (3, [.ref q_1, .ref q_3, .ref q_5, .ref q_7, .ref q_9, .long 0, .int 0, .int 0, .int 0, .int 0, .long 0, .long 0, .long 0, .int 0, .int 0, .int 0, .int 0])), (q_9, .inl (k_10, 12, .inr (.inr (.inr (.inr (va_up (va_up (va_up (fun _ => none) (0 : Int32).toNatClampNeg (some q_12)) (1 : Int32).toNatClampNeg (some q_14)) (2 : Int32).toNatClampNeg (some q_16)))))))] := hD.sub [0, 1] (by decide) rfl
  refine lv_iinc (v := 3) (lv' := [(1, .int 3), (0, .ref h0)]) hx hb dX1_init_62 hl (k := 0) rfl (by decide) (by decide) rfl (fun ls hl => ?_)
  refine lv_goto (tgt := 43) hx hb dX1_init_65 (by decide) ?_
  refine lv_iload_n hx hb dX1_init_43 rfl (lv_at hl 0 rfl) ?_
  refine lv_bipush (v := 12) hx hb dX1_init_44 (by decide) ?_
  refine lv_icmp_ge (tgt := 68) hx hb dX1_init_46 (by decide) (fun c_17 => absurd c_17 (by decide)) (fun c_17 => ?_)
  refine lv_aload_n hx hb dX1_init_49 rfl (lv_at hl 1 rfl) ?_
  refine va_get (D := (dC, dI)) (ci := 3) (v := .ref q_9) (C := RX1) (T := TX1) (N := 17) hx hb hts iX1 hown hK hP 0 rfl rfl 4 (by decide) (hts _ kw_186) (fun _ h9 => h9) rfl dX1_init_50 ?_
  refine lv_iload_n hx hb dX1_init_53 rfl (lv_at hl 0 rfl) ?_
  refine va_new (ci := 4) (fs := [.long 0, .long 0, .long 0, .int 0, .int 0]) (C := RX3) (T := TX3) (N := 5) hx hb hts iX3 tyX3 tyX3_ok hown (hts _ kw_146) (hts _ kw_148) (hts _ kw_69) hK hP hD hS hA rfl z_dfX3 (zl_b rfl) (zl_b rfl) dX1_init_54 (fun q_18 H hP hD hS => ?_)
  have hP : va_P (dC, dI) zc [(h0, .inr (3, [.ref q_1, .ref q_3, .ref q_5, .ref q_7, .ref q_9, .long 0, .int 0, .int 0, .int 0, .int 0, .long 0, .long 0, .long 0, .int 0, .int 0, .int 0, .int 0])), (q_9, .inl (k_10, 12, .inr (.inr (.inr (.inr (va_up (va_up (va_up (fun _ => none) (0 : Int32).toNatClampNeg (some q_12)) (1 : Int32).toNatClampNeg (some q_14)) (2 : Int32).toNatClampNeg (some q_16))))))), (q_18, .inr (4, [.long 0, .long 0, .long 0, .int 0, .int 0]))] H := hP
  have hD : va_D A [(h0, .inr (3, [.ref q_1, .ref q_3, .ref q_5, .ref q_7, .ref q_9, .long 0, .int 0, .int 0, .int 0, .int 0, .long 0, .long 0, .long 0, .int 0, .int 0, .int 0, .int 0])), (q_9, .inl (k_10, 12, .inr (.inr (.inr (.inr (va_up (va_up (va_up (fun _ => none) (0 : Int32).toNatClampNeg (some q_12)) (1 : Int32).toNatClampNeg (some q_14)) (2 : Int32).toNatClampNeg (some q_16))))))), (q_18, .inr (4, [.long 0, .long 0, .long 0, .int 0, .int 0]))] := hD
  refine W.widen (k := 9) (n := 44) (zl_b rfl) (zl_b rfl) ?_
  refine lv_dup hx hb dX1_init_57 rfl ?_
  have hFc := va_free (wc := [(q_18, .inr (4, [.long 0, .long 0, .long 0, .int 0, .int 0]))]) hD hS hA [2] rfl
  refine va_callv (va_runIN (As := []) (rest := [.ref q_18, .int 3, .ref q_9]) ⟨hx, hb, hml, hown, hts⟩ (c_St_init l dC dI H.size t q_18) ⟨va_cnB 0 hts (zg_c kw_151) rfl rfl rfl (zT_nX1_31 hQ.1) (hts _ kw_69) (by decide +kernel) ⟨Nat.le_of_ble_eq_true rfl, Nat.le_of_ble_eq_true rfl⟩, rfl, (hts _ kw_150)⟩ ⟨zA_blind, zA_pre hP hD hS hK hQ hA [2] rfl rfl (by decide) [] rfl⟩ rfl rfl hl.1 rfl (lv_room (Nat.le_of_ble_eq_true rfl)) dX1_init_58 ⟨zl_b rfl, zl_b rfl⟩) hS (fun q _ h => hFc q h) hFc (fun u t9 H1 locs ht hvm hw hB hz1 hk1 hS => ?_)
  obtain ⟨hP1, hK1, hD1⟩ := hB
  rw [ht] at hP1
  have hK1 := va_K.moved hvm.symm hK1
  obtain ⟨hP, hD⟩ := va_join (wr := [(h0, .inr (3, [.ref q_1, .ref q_3, .ref q_5, .ref q_7, .ref q_9, .long 0, .int 0, .int 0, .int 0, .int 0, .long 0, .long 0, .long 0, .int 0, .int 0, .int 0, .int 0])), (q_9, .inl (k_10, 12, .inr (.inr (.inr (.inr (va_up (va_up (va_up (fun _ => none) (0 : Int32).toNatClampNeg (some q_12)) (1 : Int32).toNatClampNeg (some q_14)) (2 : Int32).toNatClampNeg (some q_16)))))))]) (w1 := [(q_18, .inr (4, [.long 0, .long 0, .long 0, .int 0, .int 0]))]) hP hD [2] [0, 1] rfl rfl (by decide) (by decide) hk1 hFc hP1 hD1
  have hK := (hK.sub (tys' := [(k_2, .long), (k_4, .long), (k_6, .int), (k_8, .int), (k_10, .object "StatementCycle$Statement")]) [0, 1, 2, 3, 4] rfl).app hK1
  generalize H1 = H at hP hS ⊢
  have hP : va_P (dC, dI) zc [(h0, .inr (3, [.ref q_1, .ref q_3, .ref q_5, .ref q_7, .ref q_9, .long 0, .int 0, .int 0, .int 0, .int 0, .long 0, .long 0, .long 0, .int 0, .int 0, .int 0, .int 0])), (q_9, .inl (k_10, 12, .inr (.inr (.inr (.inr (va_up (va_up (va_up (fun _ => none) (0 : Int32).toNatClampNeg (some q_12)) (1 : Int32).toNatClampNeg (some q_14)) (2 : Int32).toNatClampNeg (some q_16))))))), (q_18, .inr (4, [.long 0, .long 0, .long 0, .int 0, .int 0]))] H := hP
  have hD : va_D A [(h0, .inr (3, [.ref q_1, .ref q_3, .ref q_5, .ref q_7, .ref q_9, .long 0, .int 0, .int 0, .int 0, .int 0, .long 0, .long 0, .long 0, .int 0, .int 0, .int 0, .int 0])), (q_9, .inl (k_10, 12, .inr (.inr (.inr (.inr (va_up (va_up (va_up (fun _ => none) (0 : Int32).toNatClampNeg (some q_12)) (1 : Int32).toNatClampNeg (some q_14)) (2 : Int32).toNatClampNeg (some q_16))))))), (q_18, .inr (4, [.long 0, .long 0, .long 0, .int 0, .int 0]))] := hD
  have hK : va_K (dC, dI) zc [(k_2, .long), (k_4, .long), (k_6, .int), (k_8, .int), (k_10, .object "StatementCycle$Statement")] s := hK
  refine va_astq hx hb hK hP hD hS 1 4 2 4 rfl rfl rfl rfl (by unfold vp_in; decide) dX1_init_61 (fun H locs hP hD hS => ?_)
  have hP : va_P (dC, dI) zc [(h0, .inr (3, [.ref q_1, .ref q_3, .ref q_5, .ref q_7, .ref q_9, .long 0, .int 0, .int 0, .int 0, .int 0, .long 0, .long 0, .long 0, .int 0, .int 0, .int 0, .int 0])), (q_9, .inl (k_10, 12, .inr (.inr (.inr (.inr (va_up (va_up (va_up (va_up (fun _ => none) (0 : Int32).toNatClampNeg (some q_12)) (1 : Int32).toNatClampNeg (some q_14)) (2 : Int32).toNatClampNeg (some q_16)) (3 : Int32).toNatClampNeg (some q_18))))))), (q_18, .inr (4, [.long 0, .long 0, .long 0, .int 0, .int 0]))] H := hP
  have hD : va_D A [(h0, .inr (3, [.ref q_1, .ref q_3, .ref q_5, .ref q_7, .ref q_9, .long 0, .int 0, .int 0, .int 0, .int 0, .long 0, .long 0, .long 0, .int 0, .int 0, .int 0, .int 0])), (q_9, .inl (k_10, 12, .inr (.inr (.inr (.inr (va_up (va_up (va_up (va_up (fun _ => none) (0 : Int32).toNatClampNeg (some q_12)) (1 : Int32).toNatClampNeg (some q_14)) (2 : Int32).toNatClampNeg (some q_16)) (3 : Int32).toNatClampNeg (some q_18))))))), (q_18, .inr (4, [.long 0, .long 0, .long 0, .int 0, .int 0]))] := hD
  have hP : va_P (dC, dI) zc [(h0, .inr (3, [.ref q_1, .ref q_3, .ref q_5, .ref q_7, .ref q_9, .long 0, .int 0, .int 0, .int 0, .int 0, .long 0, .long 0, .long 0, .int 0, .int 0, .int 0, .int 0])), (q_9, .inl (k_10, 12, .inr (.inr (.inr (.inr (va_up (va_up (va_up (va_up (fun _ => none) (0 : Int32).toNatClampNeg (some q_12)) (1 : Int32).toNatClampNeg (some q_14)) (2 : Int32).toNatClampNeg (some q_16)) (3 : Int32).toNatClampNeg (some q_18)))))))] H := hP.sub [0, 1] rfl
  have hD : va_D A [(h0, .inr (3, [.ref q_1, .ref q_3, .ref q_5, .ref q_7, .ref q_9, .long 0, .int 0, .int 0, .int 0, .int 0, .long 0, .long 0, .long 0, .int 0, .int 0, .int 0, .int 0])), (q_9, .inl (k_10, 12, .inr (.inr (.inr (.inr (va_up (va_up (va_up (va_up (fun _ => none) (0 : Int32).toNatClampNeg (some q_12)) (1 : Int32).toNatClampNeg (some q_14)) (2 : Int32).toNatClampNeg (some q_16)) (3 : Int32).toNatClampNeg (some q_18)))))))] := hD.sub [0, 1] (by decide) rfl
  refine lv_iinc (v := 4) (lv' := [(1, .int 4), (0, .ref h0)]) hx hb dX1_init_62 hl (k := 0) rfl (by decide) (by decide) rfl (fun ls hl => ?_)
  refine lv_goto (tgt := 43) hx hb dX1_init_65 (by decide) ?_
  refine lv_iload_n hx hb dX1_init_43 rfl (lv_at hl 0 rfl) ?_
  refine lv_bipush (v := 12) hx hb dX1_init_44 (by decide) ?_
  refine lv_icmp_ge (tgt := 68) hx hb dX1_init_46 (by decide) (fun c_19 => absurd c_19 (by decide)) (fun c_19 => ?_)
  refine lv_aload_n hx hb dX1_init_49 rfl (lv_at hl 1 rfl) ?_
  refine va_get (D := (dC, dI)) (ci := 3) (v := .ref q_9) (C := RX1) (T := TX1) (N := 17) hx hb hts iX1 hown hK hP 0 rfl rfl 4 (by decide) (hts _ kw_186) (fun _ h9 => h9) rfl dX1_init_50 ?_
  refine lv_iload_n hx hb dX1_init_53 rfl (lv_at hl 0 rfl) ?_
  refine va_new (ci := 4) (fs := [.long 0, .long 0, .long 0, .int 0, .int 0]) (C := RX3) (T := TX3) (N := 5) hx hb hts iX3 tyX3 tyX3_ok hown (hts _ kw_146) (hts _ kw_148) (hts _ kw_69) hK hP hD hS hA rfl z_dfX3 (zl_b rfl) (zl_b rfl) dX1_init_54 (fun q_20 H hP hD hS => ?_)
  have hP : va_P (dC, dI) zc [(h0, .inr (3, [.ref q_1, .ref q_3, .ref q_5, .ref q_7, .ref q_9, .long 0, .int 0, .int 0, .int 0, .int 0, .long 0, .long 0, .long 0, .int 0, .int 0, .int 0, .int 0])), (q_9, .inl (k_10, 12, .inr (.inr (.inr (.inr (va_up (va_up (va_up (va_up (fun _ => none) (0 : Int32).toNatClampNeg (some q_12)) (1 : Int32).toNatClampNeg (some q_14)) (2 : Int32).toNatClampNeg (some q_16)) (3 : Int32).toNatClampNeg (some q_18))))))), (q_20, .inr (4, [.long 0, .long 0, .long 0, .int 0, .int 0]))] H := hP
  have hD : va_D A [(h0, .inr (3, [.ref q_1, .ref q_3, .ref q_5, .ref q_7, .ref q_9, .long 0, .int 0, .int 0, .int 0, .int 0, .long 0, .long 0, .long 0, .int 0, .int 0, .int 0, .int 0])), (q_9, .inl (k_10, 12, .inr (.inr (.inr (.inr (va_up (va_up (va_up (va_up (fun _ => none) (0 : Int32).toNatClampNeg (some q_12)) (1 : Int32).toNatClampNeg (some q_14)) (2 : Int32).toNatClampNeg (some q_16)) (3 : Int32).toNatClampNeg (some q_18))))))), (q_20, .inr (4, [.long 0, .long 0, .long 0, .int 0, .int 0]))] := hD
  refine W.widen (k := 10) (n := 49) (zl_b rfl) (zl_b rfl) ?_
  refine lv_dup hx hb dX1_init_57 rfl ?_
  have hFc := va_free (wc := [(q_20, .inr (4, [.long 0, .long 0, .long 0, .int 0, .int 0]))]) hD hS hA [2] rfl
  refine va_callv (va_runIN (As := []) (rest := [.ref q_20, .int 4, .ref q_9]) ⟨hx, hb, hml, hown, hts⟩ (c_St_init l dC dI H.size t q_20) ⟨va_cnB 0 hts (zg_c kw_151) rfl rfl rfl (zT_nX1_31 hQ.1) (hts _ kw_69) (by decide +kernel) ⟨Nat.le_of_ble_eq_true rfl, Nat.le_of_ble_eq_true rfl⟩, rfl, (hts _ kw_150)⟩ ⟨zA_blind, zA_pre hP hD hS hK hQ hA [2] rfl rfl (by decide) [] rfl⟩ rfl rfl hl.1 rfl (lv_room (Nat.le_of_ble_eq_true rfl)) dX1_init_58 ⟨zl_b rfl, zl_b rfl⟩) hS (fun q _ h => hFc q h) hFc (fun u t9 H1 locs ht hvm hw hB hz1 hk1 hS => ?_)
  obtain ⟨hP1, hK1, hD1⟩ := hB
  rw [ht] at hP1
  have hK1 := va_K.moved hvm.symm hK1
  obtain ⟨hP, hD⟩ := va_join (wr := [(h0, .inr (3, [.ref q_1, .ref q_3, .ref q_5, .ref q_7, .ref q_9, .long 0, .int 0, .int 0, .int 0, .int 0, .long 0, .long 0, .long 0, .int 0, .int 0, .int 0, .int 0])), (q_9, .inl (k_10, 12, .inr (.inr (.inr (.inr (va_up (va_up (va_up (va_up (fun _ => none) (0 : Int32).toNatClampNeg (some q_12)) (1 : Int32).toNatClampNeg (some q_14)) (2 : Int32).toNatClampNeg (some q_16)) (3 : Int32).toNatClampNeg (some q_18)))))))]) (w1 := [(q_20, .inr (4, [.long 0, .long 0, .long 0, .int 0, .int 0]))]) hP hD [2] [0, 1] rfl rfl (by decide) (by decide) hk1 hFc hP1 hD1
  have hK := (hK.sub (tys' := [(k_2, .long), (k_4, .long), (k_6, .int), (k_8, .int), (k_10, .object "StatementCycle$Statement")]) [0, 1, 2, 3, 4] rfl).app hK1
  generalize H1 = H at hP hS ⊢
  have hP : va_P (dC, dI) zc [(h0, .inr (3, [.ref q_1, .ref q_3, .ref q_5, .ref q_7, .ref q_9, .long 0, .int 0, .int 0, .int 0, .int 0, .long 0, .long 0, .long 0, .int 0, .int 0, .int 0, .int 0])), (q_9, .inl (k_10, 12, .inr (.inr (.inr (.inr (va_up (va_up (va_up (va_up (fun _ => none) (0 : Int32).toNatClampNeg (some q_12)) (1 : Int32).toNatClampNeg (some q_14)) (2 : Int32).toNatClampNeg (some q_16)) (3 : Int32).toNatClampNeg (some q_18))))))), (q_20, .inr (4, [.long 0, .long 0, .long 0, .int 0, .int 0]))] H := hP
  have hD : va_D A [(h0, .inr (3, [.ref q_1, .ref q_3, .ref q_5, .ref q_7, .ref q_9, .long 0, .int 0, .int 0, .int 0, .int 0, .long 0, .long 0, .long 0, .int 0, .int 0, .int 0, .int 0])), (q_9, .inl (k_10, 12, .inr (.inr (.inr (.inr (va_up (va_up (va_up (va_up (fun _ => none) (0 : Int32).toNatClampNeg (some q_12)) (1 : Int32).toNatClampNeg (some q_14)) (2 : Int32).toNatClampNeg (some q_16)) (3 : Int32).toNatClampNeg (some q_18))))))), (q_20, .inr (4, [.long 0, .long 0, .long 0, .int 0, .int 0]))] := hD
  have hK : va_K (dC, dI) zc [(k_2, .long), (k_4, .long), (k_6, .int), (k_8, .int), (k_10, .object "StatementCycle$Statement")] s := hK
  refine va_astq hx hb hK hP hD hS 1 4 2 4 rfl rfl rfl rfl (by unfold vp_in; decide) dX1_init_61 (fun H locs hP hD hS => ?_)
  have hP : va_P (dC, dI) zc [(h0, .inr (3, [.ref q_1, .ref q_3, .ref q_5, .ref q_7, .ref q_9, .long 0, .int 0, .int 0, .int 0, .int 0, .long 0, .long 0, .long 0, .int 0, .int 0, .int 0, .int 0])), (q_9, .inl (k_10, 12, .inr (.inr (.inr (.inr (va_up (va_up (va_up (va_up (va_up (fun _ => none) (0 : Int32).toNatClampNeg (some q_12)) (1 : Int32).toNatClampNeg (some q_14)) (2 : Int32).toNatClampNeg (some q_16)) (3 : Int32).toNatClampNeg (some q_18)) (4 : Int32).toNatClampNeg (some q_20))))))), (q_20, .inr (4, [.long 0, .long 0, .long 0, .int 0, .int 0]))] H := hP
  have hD : va_D A [(h0, .inr (3, [.ref q_1, .ref q_3, .ref q_5, .ref q_7, .ref q_9, .long 0, .int 0, .int 0, .int 0, .int 0, .long 0, .long 0, .long 0, .int 0, .int 0, .int 0, .int 0])), (q_9, .inl (k_10, 12, .inr (.inr (.inr (.inr (va_up (va_up (va_up (va_up (va_up (fun _ => none) (0 : Int32).toNatClampNeg (some q_12)) (1 : Int32).toNatClampNeg (some q_14)) (2 : Int32).toNatClampNeg (some q_16)) (3 : Int32).toNatClampNeg (some q_18)) (4 : Int32).toNatClampNeg (some q_20))))))), (q_20, .inr (4, [.long 0, .long 0, .long 0, .int 0, .int 0]))] := hD
  have hP : va_P (dC, dI) zc [(h0, .inr (3, [.ref q_1, .ref q_3, .ref q_5, .ref q_7, .ref q_9, .long 0, .int 0, .int 0, .int 0, .int 0, .long 0, .long 0, .long 0, .int 0, .int 0, .int 0, .int 0])), (q_9, .inl (k_10, 12, .inr (.inr (.inr (.inr (va_up (va_up (va_up (va_up (va_up (fun _ => none) (0 : Int32).toNatClampNeg (some q_12)) (1 : Int32).toNatClampNeg (some q_14)) (2 : Int32).toNatClampNeg (some q_16)) (3 : Int32).toNatClampNeg (some q_18)) (4 : Int32).toNatClampNeg (some q_20)))))))] H := hP.sub [0, 1] rfl
  have hD : va_D A [(h0, .inr (3, [.ref q_1, .ref q_3, .ref q_5, .ref q_7, .ref q_9, .long 0, .int 0, .int 0, .int 0, .int 0, .long 0, .long 0, .long 0, .int 0, .int 0, .int 0, .int 0])), (q_9, .inl (k_10, 12, .inr (.inr (.inr (.inr (va_up (va_up (va_up (va_up (va_up (fun _ => none) (0 : Int32).toNatClampNeg (some q_12)) (1 : Int32).toNatClampNeg (some q_14)) (2 : Int32).toNatClampNeg (some q_16)) (3 : Int32).toNatClampNeg (some q_18)) (4 : Int32).toNatClampNeg (some q_20)))))))] := hD.sub [0, 1] (by decide) rfl
  refine lv_iinc (v := 5) (lv' := [(1, .int 5), (0, .ref h0)]) hx hb dX1_init_62 hl (k := 0) rfl (by decide) (by decide) rfl (fun ls hl => ?_)
  refine lv_goto (tgt := 43) hx hb dX1_init_65 (by decide) ?_
  refine lv_iload_n hx hb dX1_init_43 rfl (lv_at hl 0 rfl) ?_
  refine lv_bipush (v := 12) hx hb dX1_init_44 (by decide) ?_
  refine lv_icmp_ge (tgt := 68) hx hb dX1_init_46 (by decide) (fun c_21 => absurd c_21 (by decide)) (fun c_21 => ?_)
  refine lv_aload_n hx hb dX1_init_49 rfl (lv_at hl 1 rfl) ?_
  refine va_get (D := (dC, dI)) (ci := 3) (v := .ref q_9) (C := RX1) (T := TX1) (N := 17) hx hb hts iX1 hown hK hP 0 rfl rfl 4 (by decide) (hts _ kw_186) (fun _ h9 => h9) rfl dX1_init_50 ?_
  refine lv_iload_n hx hb dX1_init_53 rfl (lv_at hl 0 rfl) ?_
  refine va_new (ci := 4) (fs := [.long 0, .long 0, .long 0, .int 0, .int 0]) (C := RX3) (T := TX3) (N := 5) hx hb hts iX3 tyX3 tyX3_ok hown (hts _ kw_146) (hts _ kw_148) (hts _ kw_69) hK hP hD hS hA rfl z_dfX3 (zl_b rfl) (zl_b rfl) dX1_init_54 (fun q_22 H hP hD hS => ?_)
  have hP : va_P (dC, dI) zc [(h0, .inr (3, [.ref q_1, .ref q_3, .ref q_5, .ref q_7, .ref q_9, .long 0, .int 0, .int 0, .int 0, .int 0, .long 0, .long 0, .long 0, .int 0, .int 0, .int 0, .int 0])), (q_9, .inl (k_10, 12, .inr (.inr (.inr (.inr (va_up (va_up (va_up (va_up (va_up (fun _ => none) (0 : Int32).toNatClampNeg (some q_12)) (1 : Int32).toNatClampNeg (some q_14)) (2 : Int32).toNatClampNeg (some q_16)) (3 : Int32).toNatClampNeg (some q_18)) (4 : Int32).toNatClampNeg (some q_20))))))), (q_22, .inr (4, [.long 0, .long 0, .long 0, .int 0, .int 0]))] H := hP
  have hD : va_D A [(h0, .inr (3, [.ref q_1, .ref q_3, .ref q_5, .ref q_7, .ref q_9, .long 0, .int 0, .int 0, .int 0, .int 0, .long 0, .long 0, .long 0, .int 0, .int 0, .int 0, .int 0])), (q_9, .inl (k_10, 12, .inr (.inr (.inr (.inr (va_up (va_up (va_up (va_up (va_up (fun _ => none) (0 : Int32).toNatClampNeg (some q_12)) (1 : Int32).toNatClampNeg (some q_14)) (2 : Int32).toNatClampNeg (some q_16)) (3 : Int32).toNatClampNeg (some q_18)) (4 : Int32).toNatClampNeg (some q_20))))))), (q_22, .inr (4, [.long 0, .long 0, .long 0, .int 0, .int 0]))] := hD
  refine W.widen (k := 11) (n := 54) (zl_b rfl) (zl_b rfl) ?_
  refine lv_dup hx hb dX1_init_57 rfl ?_
  have hFc := va_free (wc := [(q_22, .inr (4, [.long 0, .long 0, .long 0, .int 0, .int 0]))]) hD hS hA [2] rfl
  refine va_callv (va_runIN (As := []) (rest := [.ref q_22, .int 5, .ref q_9]) ⟨hx, hb, hml, hown, hts⟩ (c_St_init l dC dI H.size t q_22) ⟨va_cnB 0 hts (zg_c kw_151) rfl rfl rfl (zT_nX1_31 hQ.1) (hts _ kw_69) (by decide +kernel) ⟨Nat.le_of_ble_eq_true rfl, Nat.le_of_ble_eq_true rfl⟩, rfl, (hts _ kw_150)⟩ ⟨zA_blind, zA_pre hP hD hS hK hQ hA [2] rfl rfl (by decide) [] rfl⟩ rfl rfl hl.1 rfl (lv_room (Nat.le_of_ble_eq_true rfl)) dX1_init_58 ⟨zl_b rfl, zl_b rfl⟩) hS (fun q _ h => hFc q h) hFc (fun u t9 H1 locs ht hvm hw hB hz1 hk1 hS => ?_)
  obtain ⟨hP1, hK1, hD1⟩ := hB
  rw [ht] at hP1
  have hK1 := va_K.moved hvm.symm hK1
  obtain ⟨hP, hD⟩ := va_join (wr := [(h0, .inr (3, [.ref q_1, .ref q_3, .ref q_5, .ref q_7, .ref q_9, .long 0, .int 0, .int 0, .int 0, .int 0, .long 0, .long 0, .long 0, .int 0, .int 0, .int 0, .int 0])), (q_9, .inl (k_10, 12, .inr (.inr (.inr (.inr (va_up (va_up (va_up (va_up (va_up (fun _ => none) (0 : Int32).toNatClampNeg (some q_12)) (1 : Int32).toNatClampNeg (some q_14)) (2 : Int32).toNatClampNeg (some q_16)) (3 : Int32).toNatClampNeg (some q_18)) (4 : Int32).toNatClampNeg (some q_20)))))))]) (w1 := [(q_22, .inr (4, [.long 0, .long 0, .long 0, .int 0, .int 0]))]) hP hD [2] [0, 1] rfl rfl (by decide) (by decide) hk1 hFc hP1 hD1
  have hK := (hK.sub (tys' := [(k_2, .long), (k_4, .long), (k_6, .int), (k_8, .int), (k_10, .object "StatementCycle$Statement")]) [0, 1, 2, 3, 4] rfl).app hK1
  generalize H1 = H at hP hS ⊢
  have hP : va_P (dC, dI) zc [(h0, .inr (3, [.ref q_1, .ref q_3, .ref q_5, .ref q_7, .ref q_9, .long 0, .int 0, .int 0, .int 0, .int 0, .long 0, .long 0, .long 0, .int 0, .int 0, .int 0, .int 0])), (q_9, .inl (k_10, 12, .inr (.inr (.inr (.inr (va_up (va_up (va_up (va_up (va_up (fun _ => none) (0 : Int32).toNatClampNeg (some q_12)) (1 : Int32).toNatClampNeg (some q_14)) (2 : Int32).toNatClampNeg (some q_16)) (3 : Int32).toNatClampNeg (some q_18)) (4 : Int32).toNatClampNeg (some q_20))))))), (q_22, .inr (4, [.long 0, .long 0, .long 0, .int 0, .int 0]))] H := hP
  have hD : va_D A [(h0, .inr (3, [.ref q_1, .ref q_3, .ref q_5, .ref q_7, .ref q_9, .long 0, .int 0, .int 0, .int 0, .int 0, .long 0, .long 0, .long 0, .int 0, .int 0, .int 0, .int 0])), (q_9, .inl (k_10, 12, .inr (.inr (.inr (.inr (va_up (va_up (va_up (va_up (va_up (fun _ => none) (0 : Int32).toNatClampNeg (some q_12)) (1 : Int32).toNatClampNeg (some q_14)) (2 : Int32).toNatClampNeg (some q_16)) (3 : Int32).toNatClampNeg (some q_18)) (4 : Int32).toNatClampNeg (some q_20))))))), (q_22, .inr (4, [.long 0, .long 0, .long 0, .int 0, .int 0]))] := hD
  have hK : va_K (dC, dI) zc [(k_2, .long), (k_4, .long), (k_6, .int), (k_8, .int), (k_10, .object "StatementCycle$Statement")] s := hK
  refine va_astq hx hb hK hP hD hS 1 4 2 4 rfl rfl rfl rfl (by unfold vp_in; decide) dX1_init_61 (fun H locs hP hD hS => ?_)
  have hP : va_P (dC, dI) zc [(h0, .inr (3, [.ref q_1, .ref q_3, .ref q_5, .ref q_7, .ref q_9, .long 0, .int 0, .int 0, .int 0, .int 0, .long 0, .long 0, .long 0, .int 0, .int 0, .int 0, .int 0])), (q_9, .inl (k_10, 12, .inr (.inr (.inr (.inr (va_up (va_up (va_up (va_up (va_up (va_up (fun _ => none) (0 : Int32).toNatClampNeg (some q_12)) (1 : Int32).toNatClampNeg (some q_14)) (2 : Int32).toNatClampNeg (some q_16)) (3 : Int32).toNatClampNeg (some q_18)) (4 : Int32).toNatClampNeg (some q_20)) (5 : Int32).toNatClampNeg (some q_22))))))), (q_22, .inr (4, [.long 0, .long 0, .long 0, .int 0, .int 0]))] H := hP
  have hD : va_D A [(h0, .inr (3, [.ref q_1, .ref q_3, .ref q_5, .ref q_7, .ref q_9, .long 0, .int 0, .int 0, .int 0, .int 0, .long 0, .long 0, .long 0, .int 0, .int 0, .int 0, .int 0])), (q_9, .inl (k_10, 12, .inr (.inr (.inr (.inr (va_up (va_up (va_up (va_up (va_up (va_up (fun _ => none) (0 : Int32).toNatClampNeg (some q_12)) (1 : Int32).toNatClampNeg (some q_14)) (2 : Int32).toNatClampNeg (some q_16)) (3 : Int32).toNatClampNeg (some q_18)) (4 : Int32).toNatClampNeg (some q_20)) (5 : Int32).toNatClampNeg (some q_22))))))), (q_22, .inr (4, [.long 0, .long 0, .long 0, .int 0, .int 0]))] := hD
  have hP : va_P (dC, dI) zc [(h0, .inr (3, [.ref q_1, .ref q_3, .ref q_5, .ref q_7, .ref q_9, .long 0, .int 0, .int 0, .int 0, .int 0, .long 0, .long 0, .long 0, .int 0, .int 0, .int 0, .int 0])), (q_9, .inl (k_10, 12, .inr (.inr (.inr (.inr (va_up (va_up (va_up (va_up (va_up (va_up (fun _ => none) (0 : Int32).toNatClampNeg (some q_12)) (1 : Int32).toNatClampNeg (some q_14)) (2 : Int32).toNatClampNeg (some q_16)) (3 : Int32).toNatClampNeg (some q_18)) (4 : Int32).toNatClampNeg (some q_20)) (5 : Int32).toNatClampNeg (some q_22)))))))] H := hP.sub [0, 1] rfl
  have hD : va_D A [(h0, .inr (3, [.ref q_1, .ref q_3, .ref q_5, .ref q_7, .ref q_9, .long 0, .int 0, .int 0, .int 0, .int 0, .long 0, .long 0, .long 0, .int 0, .int 0, .int 0, .int 0])), (q_9, .inl (k_10, 12, .inr (.inr (.inr (.inr (va_up (va_up (va_up (va_up (va_up (va_up (fun _ => none) (0 : Int32).toNatClampNeg (some q_12)) (1 : Int32).toNatClampNeg (some q_14)) (2 : Int32).toNatClampNeg (some q_16)) (3 : Int32).toNatClampNeg (some q_18)) (4 : Int32).toNatClampNeg (some q_20)) (5 : Int32).toNatClampNeg (some q_22)))))))] := hD.sub [0, 1] (by decide) rfl
  refine lv_iinc (v := 6) (lv' := [(1, .int 6), (0, .ref h0)]) hx hb dX1_init_62 hl (k := 0) rfl (by decide) (by decide) rfl (fun ls hl => ?_)
  refine lv_goto (tgt := 43) hx hb dX1_init_65 (by decide) ?_
  refine lv_iload_n hx hb dX1_init_43 rfl (lv_at hl 0 rfl) ?_
  refine lv_bipush (v := 12) hx hb dX1_init_44 (by decide) ?_
  refine lv_icmp_ge (tgt := 68) hx hb dX1_init_46 (by decide) (fun c_23 => absurd c_23 (by decide)) (fun c_23 => ?_)
  refine lv_aload_n hx hb dX1_init_49 rfl (lv_at hl 1 rfl) ?_
  refine va_get (D := (dC, dI)) (ci := 3) (v := .ref q_9) (C := RX1) (T := TX1) (N := 17) hx hb hts iX1 hown hK hP 0 rfl rfl 4 (by decide) (hts _ kw_186) (fun _ h9 => h9) rfl dX1_init_50 ?_
  refine lv_iload_n hx hb dX1_init_53 rfl (lv_at hl 0 rfl) ?_
  refine va_new (ci := 4) (fs := [.long 0, .long 0, .long 0, .int 0, .int 0]) (C := RX3) (T := TX3) (N := 5) hx hb hts iX3 tyX3 tyX3_ok hown (hts _ kw_146) (hts _ kw_148) (hts _ kw_69) hK hP hD hS hA rfl z_dfX3 (zl_b rfl) (zl_b rfl) dX1_init_54 (fun q_24 H hP hD hS => ?_)
  have hP : va_P (dC, dI) zc [(h0, .inr (3, [.ref q_1, .ref q_3, .ref q_5, .ref q_7, .ref q_9, .long 0, .int 0, .int 0, .int 0, .int 0, .long 0, .long 0, .long 0, .int 0, .int 0, .int 0, .int 0])), (q_9, .inl (k_10, 12, .inr (.inr (.inr (.inr (va_up (va_up (va_up (va_up (va_up (va_up (fun _ => none) (0 : Int32).toNatClampNeg (some q_12)) (1 : Int32).toNatClampNeg (some q_14)) (2 : Int32).toNatClampNeg (some q_16)) (3 : Int32).toNatClampNeg (some q_18)) (4 : Int32).toNatClampNeg (some q_20)) (5 : Int32).toNatClampNeg (some q_22))))))), (q_24, .inr (4, [.long 0, .long 0, .long 0, .int 0, .int 0]))] H := hP
  have hD : va_D A [(h0, .inr (3, [.ref q_1, .ref q_3, .ref q_5, .ref q_7, .ref q_9, .long 0, .int 0, .int 0, .int 0, .int 0, .long 0, .long 0, .long 0, .int 0, .int 0, .int 0, .int 0])), (q_9, .inl (k_10, 12, .inr (.inr (.inr (.inr (va_up (va_up (va_up (va_up (va_up (va_up (fun _ => none) (0 : Int32).toNatClampNeg (some q_12)) (1 : Int32).toNatClampNeg (some q_14)) (2 : Int32).toNatClampNeg (some q_16)) (3 : Int32).toNatClampNeg (some q_18)) (4 : Int32).toNatClampNeg (some q_20)) (5 : Int32).toNatClampNeg (some q_22))))))), (q_24, .inr (4, [.long 0, .long 0, .long 0, .int 0, .int 0]))] := hD
  refine W.widen (k := 12) (n := 59) (zl_b rfl) (zl_b rfl) ?_
  refine lv_dup hx hb dX1_init_57 rfl ?_
  have hFc := va_free (wc := [(q_24, .inr (4, [.long 0, .long 0, .long 0, .int 0, .int 0]))]) hD hS hA [2] rfl
  refine va_callv (va_runIN (As := []) (rest := [.ref q_24, .int 6, .ref q_9]) ⟨hx, hb, hml, hown, hts⟩ (c_St_init l dC dI H.size t q_24) ⟨va_cnB 0 hts (zg_c kw_151) rfl rfl rfl (zT_nX1_31 hQ.1) (hts _ kw_69) (by decide +kernel) ⟨Nat.le_of_ble_eq_true rfl, Nat.le_of_ble_eq_true rfl⟩, rfl, (hts _ kw_150)⟩ ⟨zA_blind, zA_pre hP hD hS hK hQ hA [2] rfl rfl (by decide) [] rfl⟩ rfl rfl hl.1 rfl (lv_room (Nat.le_of_ble_eq_true rfl)) dX1_init_58 ⟨zl_b rfl, zl_b rfl⟩) hS (fun q _ h => hFc q h) hFc (fun u t9 H1 locs ht hvm hw hB hz1 hk1 hS => ?_)
  obtain ⟨hP1, hK1, hD1⟩ := hB
  rw [ht] at hP1
  have hK1 := va_K.moved hvm.symm hK1
  obtain ⟨hP, hD⟩ := va_join (wr := [(h0, .inr (3, [.ref q_1, .ref q_3, .ref q_5, .ref q_7, .ref q_9, .long 0, .int 0, .int 0, .int 0, .int 0, .long 0, .long 0, .long 0, .int 0, .int 0, .int 0, .int 0])), (q_9, .inl (k_10, 12, .inr (.inr (.inr (.inr (va_up (va_up (va_up (va_up (va_up (va_up (fun _ => none) (0 : Int32).toNatClampNeg (some q_12)) (1 : Int32).toNatClampNeg (some q_14)) (2 : Int32).toNatClampNeg (some q_16)) (3 : Int32).toNatClampNeg (some q_18)) (4 : Int32).toNatClampNeg (some q_20)) (5 : Int32).toNatClampNeg (some q_22)))))))]) (w1 := [(q_24, .inr (4, [.long 0, .long 0, .long 0, .int 0, .int 0]))]) hP hD [2] [0, 1] rfl rfl (by decide) (by decide) hk1 hFc hP1 hD1
  have hK := (hK.sub (tys' := [(k_2, .long), (k_4, .long), (k_6, .int), (k_8, .int), (k_10, .object "StatementCycle$Statement")]) [0, 1, 2, 3, 4] rfl).app hK1
  generalize H1 = H at hP hS ⊢
  have hP : va_P (dC, dI) zc [(h0, .inr (3, [.ref q_1, .ref q_3, .ref q_5, .ref q_7, .ref q_9, .long 0, .int 0, .int 0, .int 0, .int 0, .long 0, .long 0, .long 0, .int 0, .int 0, .int 0, .int 0])), (q_9, .inl (k_10, 12, .inr (.inr (.inr (.inr (va_up (va_up (va_up (va_up (va_up (va_up (fun _ => none) (0 : Int32).toNatClampNeg (some q_12)) (1 : Int32).toNatClampNeg (some q_14)) (2 : Int32).toNatClampNeg (some q_16)) (3 : Int32).toNatClampNeg (some q_18)) (4 : Int32).toNatClampNeg (some q_20)) (5 : Int32).toNatClampNeg (some q_22))))))), (q_24, .inr (4, [.long 0, .long 0, .long 0, .int 0, .int 0]))] H := hP
  have hD : va_D A [(h0, .inr (3, [.ref q_1, .ref q_3, .ref q_5, .ref q_7, .ref q_9, .long 0, .int 0, .int 0, .int 0, .int 0, .long 0, .long 0, .long 0, .int 0, .int 0, .int 0, .int 0])), (q_9, .inl (k_10, 12, .inr (.inr (.inr (.inr (va_up (va_up (va_up (va_up (va_up (va_up (fun _ => none) (0 : Int32).toNatClampNeg (some q_12)) (1 : Int32).toNatClampNeg (some q_14)) (2 : Int32).toNatClampNeg (some q_16)) (3 : Int32).toNatClampNeg (some q_18)) (4 : Int32).toNatClampNeg (some q_20)) (5 : Int32).toNatClampNeg (some q_22))))))), (q_24, .inr (4, [.long 0, .long 0, .long 0, .int 0, .int 0]))] := hD
  have hK : va_K (dC, dI) zc [(k_2, .long), (k_4, .long), (k_6, .int), (k_8, .int), (k_10, .object "StatementCycle$Statement")] s := hK
  refine va_astq hx hb hK hP hD hS 1 4 2 4 rfl rfl rfl rfl (by unfold vp_in; decide) dX1_init_61 (fun H locs hP hD hS => ?_)
  have hP : va_P (dC, dI) zc [(h0, .inr (3, [.ref q_1, .ref q_3, .ref q_5, .ref q_7, .ref q_9, .long 0, .int 0, .int 0, .int 0, .int 0, .long 0, .long 0, .long 0, .int 0, .int 0, .int 0, .int 0])), (q_9, .inl (k_10, 12, .inr (.inr (.inr (.inr (va_up (va_up (va_up (va_up (va_up (va_up (va_up (fun _ => none) (0 : Int32).toNatClampNeg (some q_12)) (1 : Int32).toNatClampNeg (some q_14)) (2 : Int32).toNatClampNeg (some q_16)) (3 : Int32).toNatClampNeg (some q_18)) (4 : Int32).toNatClampNeg (some q_20)) (5 : Int32).toNatClampNeg (some q_22)) (6 : Int32).toNatClampNeg (some q_24))))))), (q_24, .inr (4, [.long 0, .long 0, .long 0, .int 0, .int 0]))] H := hP
  have hD : va_D A [(h0, .inr (3, [.ref q_1, .ref q_3, .ref q_5, .ref q_7, .ref q_9, .long 0, .int 0, .int 0, .int 0, .int 0, .long 0, .long 0, .long 0, .int 0, .int 0, .int 0, .int 0])), (q_9, .inl (k_10, 12, .inr (.inr (.inr (.inr (va_up (va_up (va_up (va_up (va_up (va_up (va_up (fun _ => none) (0 : Int32).toNatClampNeg (some q_12)) (1 : Int32).toNatClampNeg (some q_14)) (2 : Int32).toNatClampNeg (some q_16)) (3 : Int32).toNatClampNeg (some q_18)) (4 : Int32).toNatClampNeg (some q_20)) (5 : Int32).toNatClampNeg (some q_22)) (6 : Int32).toNatClampNeg (some q_24))))))), (q_24, .inr (4, [.long 0, .long 0, .long 0, .int 0, .int 0]))] := hD
  have hP : va_P (dC, dI) zc [(h0, .inr (3, [.ref q_1, .ref q_3, .ref q_5, .ref q_7, .ref q_9, .long 0, .int 0, .int 0, .int 0, .int 0, .long 0, .long 0, .long 0, .int 0, .int 0, .int 0, .int 0])), (q_9, .inl (k_10, 12, .inr (.inr (.inr (.inr (va_up (va_up (va_up (va_up (va_up (va_up (va_up (fun _ => none) (0 : Int32).toNatClampNeg (some q_12)) (1 : Int32).toNatClampNeg (some q_14)) (2 : Int32).toNatClampNeg (some q_16)) (3 : Int32).toNatClampNeg (some q_18)) (4 : Int32).toNatClampNeg (some q_20)) (5 : Int32).toNatClampNeg (some q_22)) (6 : Int32).toNatClampNeg (some q_24)))))))] H := hP.sub [0, 1] rfl
  have hD : va_D A [(h0, .inr (3, [.ref q_1, .ref q_3, .ref q_5, .ref q_7, .ref q_9, .long 0, .int 0, .int 0, .int 0, .int 0, .long 0, .long 0, .long 0, .int 0, .int 0, .int 0, .int 0])), (q_9, .inl (k_10, 12, .inr (.inr (.inr (.inr (va_up (va_up (va_up (va_up (va_up (va_up (va_up (fun _ => none) (0 : Int32).toNatClampNeg (some q_12)) (1 : Int32).toNatClampNeg (some q_14)) (2 : Int32).toNatClampNeg (some q_16)) (3 : Int32).toNatClampNeg (some q_18)) (4 : Int32).toNatClampNeg (some q_20)) (5 : Int32).toNatClampNeg (some q_22)) (6 : Int32).toNatClampNeg (some q_24)))))))] := hD.sub [0, 1] (by decide) rfl
  refine lv_iinc (v := 7) (lv' := [(1, .int 7), (0, .ref h0)]) hx hb dX1_init_62 hl (k := 0) rfl (by decide) (by decide) rfl (fun ls hl => ?_)
  refine lv_goto (tgt := 43) hx hb dX1_init_65 (by decide) ?_
  refine lv_iload_n hx hb dX1_init_43 rfl (lv_at hl 0 rfl) ?_
  refine lv_bipush (v := 12) hx hb dX1_init_44 (by decide) ?_
  refine lv_icmp_ge (tgt := 68) hx hb dX1_init_46 (by decide) (fun c_25 => absurd c_25 (by decide)) (fun c_25 => ?_)
  refine lv_aload_n hx hb dX1_init_49 rfl (lv_at hl 1 rfl) ?_
  refine va_get (D := (dC, dI)) (ci := 3) (v := .ref q_9) (C := RX1) (T := TX1) (N := 17) hx hb hts iX1 hown hK hP 0 rfl rfl 4 (by decide) (hts _ kw_186) (fun _ h9 => h9) rfl dX1_init_50 ?_
  refine lv_iload_n hx hb dX1_init_53 rfl (lv_at hl 0 rfl) ?_
  refine va_new (ci := 4) (fs := [.long 0, .long 0, .long 0, .int 0, .int 0]) (C := RX3) (T := TX3) (N := 5) hx hb hts iX3 tyX3 tyX3_ok hown (hts _ kw_146) (hts _ kw_148) (hts _ kw_69) hK hP hD hS hA rfl z_dfX3 (zl_b rfl) (zl_b rfl) dX1_init_54 (fun q_26 H hP hD hS => ?_)
  have hP : va_P (dC, dI) zc [(h0, .inr (3, [.ref q_1, .ref q_3, .ref q_5, .ref q_7, .ref q_9, .long 0, .int 0, .int 0, .int 0, .int 0, .long 0, .long 0, .long 0, .int 0, .int 0, .int 0, .int 0])), (q_9, .inl (k_10, 12, .inr (.inr (.inr (.inr (va_up (va_up (va_up (va_up (va_up (va_up (va_up (fun _ => none) (0 : Int32).toNatClampNeg (some q_12)) (1 : Int32).toNatClampNeg (some q_14)) (2 : Int32).toNatClampNeg (some q_16)) (3 : Int32).toNatClampNeg (some q_18)) (4 : Int32).toNatClampNeg (some q_20)) (5 : Int32).toNatClampNeg (some q_22)) (6 : Int32).toNatClampNeg (some q_24))))))), (q_26, .inr (4, [.long 0, .long 0, .long 0, .int 0, .int 0]))] H := hP
  have hD : va_D A [(h0, .inr (3, [.ref q_1, .ref q_3, .ref q_5, .ref q_7, .ref q_9, .long 0, .int 0, .int 0, .int 0, .int 0, .long 0, .long 0, .long 0, .int 0, .int 0, .int 0, .int 0])), (q_9, .inl (k_10, 12, .inr (.inr (.inr (.inr (va_up (va_up (va_up (va_up (va_up (va_up (va_up (fun _ => none) (0 : Int32).toNatClampNeg (some q_12)) (1 : Int32).toNatClampNeg (some q_14)) (2 : Int32).toNatClampNeg (some q_16)) (3 : Int32).toNatClampNeg (some q_18)) (4 : Int32).toNatClampNeg (some q_20)) (5 : Int32).toNatClampNeg (some q_22)) (6 : Int32).toNatClampNeg (some q_24))))))), (q_26, .inr (4, [.long 0, .long 0, .long 0, .int 0, .int 0]))] := hD
  refine W.widen (k := 13) (n := 64) (zl_b rfl) (zl_b rfl) ?_
  refine lv_dup hx hb dX1_init_57 rfl ?_
  have hFc := va_free (wc := [(q_26, .inr (4, [.long 0, .long 0, .long 0, .int 0, .int 0]))]) hD hS hA [2] rfl
  refine va_callv (va_runIN (As := []) (rest := [.ref q_26, .int 7, .ref q_9]) ⟨hx, hb, hml, hown, hts⟩ (c_St_init l dC dI H.size t q_26) ⟨va_cnB 0 hts (zg_c kw_151) rfl rfl rfl (zT_nX1_31 hQ.1) (hts _ kw_69) (by decide +kernel) ⟨Nat.le_of_ble_eq_true rfl, Nat.le_of_ble_eq_true rfl⟩, rfl, (hts _ kw_150)⟩ ⟨zA_blind, zA_pre hP hD hS hK hQ hA [2] rfl rfl (by decide) [] rfl⟩ rfl rfl hl.1 rfl (lv_room (Nat.le_of_ble_eq_true rfl)) dX1_init_58 ⟨zl_b rfl, zl_b rfl⟩) hS (fun q _ h => hFc q h) hFc (fun u t9 H1 locs ht hvm hw hB hz1 hk1 hS => ?_)
  obtain ⟨hP1, hK1, hD1⟩ := hB
  rw [ht] at hP1
  have hK1 := va_K.moved hvm.symm hK1
  obtain ⟨hP, hD⟩ := va_join (wr := [(h0, .inr (3, [.ref q_1, .ref q_3, .ref q_5, .ref q_7, .ref q_9, .long 0, .int 0, .int 0, .int 0, .int 0, .long 0, .long 0, .long 0, .int 0, .int 0, .int 0, .int 0])), (q_9, .inl (k_10, 12, .inr (.inr (.inr (.inr (va_up (va_up (va_up (va_up (va_up (va_up (va_up (fun _ => none) (0 : Int32).toNatClampNeg (some q_12)) (1 : Int32).toNatClampNeg (some q_14)) (2 : Int32).toNatClampNeg (some q_16)) (3 : Int32).toNatClampNeg (some q_18)) (4 : Int32).toNatClampNeg (some q_20)) (5 : Int32).toNatClampNeg (some q_22)) (6 : Int32).toNatClampNeg (some q_24)))))))]) (w1 := [(q_26, .inr (4, [.long 0, .long 0, .long 0, .int 0, .int 0]))]) hP hD [2] [0, 1] rfl rfl (by decide) (by decide) hk1 hFc hP1 hD1
  have hK := (hK.sub (tys' := [(k_2, .long), (k_4, .long), (k_6, .int), (k_8, .int), (k_10, .object "StatementCycle$Statement")]) [0, 1, 2, 3, 4] rfl).app hK1
  generalize H1 = H at hP hS ⊢
  have hP : va_P (dC, dI) zc [(h0, .inr (3, [.ref q_1, .ref q_3, .ref q_5, .ref q_7, .ref q_9, .long 0, .int 0, .int 0, .int 0, .int 0, .long 0, .long 0, .long 0, .int 0, .int 0, .int 0, .int 0])), (q_9, .inl (k_10, 12, .inr (.inr (.inr (.inr (va_up (va_up (va_up (va_up (va_up (va_up (va_up (fun _ => none) (0 : Int32).toNatClampNeg (some q_12)) (1 : Int32).toNatClampNeg (some q_14)) (2 : Int32).toNatClampNeg (some q_16)) (3 : Int32).toNatClampNeg (some q_18)) (4 : Int32).toNatClampNeg (some q_20)) (5 : Int32).toNatClampNeg (some q_22)) (6 : Int32).toNatClampNeg (some q_24))))))), (q_26, .inr (4, [.long 0, .long 0, .long 0, .int 0, .int 0]))] H := hP
  have hD : va_D A [(h0, .inr (3, [.ref q_1, .ref q_3, .ref q_5, .ref q_7, .ref q_9, .long 0, .int 0, .int 0, .int 0, .int 0, .long 0, .long 0, .long 0, .int 0, .int 0, .int 0, .int 0])), (q_9, .inl (k_10, 12, .inr (.inr (.inr (.inr (va_up (va_up (va_up (va_up (va_up (va_up (va_up (fun _ => none) (0 : Int32).toNatClampNeg (some q_12)) (1 : Int32).toNatClampNeg (some q_14)) (2 : Int32).toNatClampNeg (some q_16)) (3 : Int32).toNatClampNeg (some q_18)) (4 : Int32).toNatClampNeg (some q_20)) (5 : Int32).toNatClampNeg (some q_22)) (6 : Int32).toNatClampNeg (some q_24))))))), (q_26, .inr (4, [.long 0, .long 0, .long 0, .int 0, .int 0]))] := hD
  have hK : va_K (dC, dI) zc [(k_2, .long), (k_4, .long), (k_6, .int), (k_8, .int), (k_10, .object "StatementCycle$Statement")] s := hK
  refine va_astq hx hb hK hP hD hS 1 4 2 4 rfl rfl rfl rfl (by unfold vp_in; decide) dX1_init_61 (fun H locs hP hD hS => ?_)
  have hP : va_P (dC, dI) zc [(h0, .inr (3, [.ref q_1, .ref q_3, .ref q_5, .ref q_7, .ref q_9, .long 0, .int 0, .int 0, .int 0, .int 0, .long 0, .long 0, .long 0, .int 0, .int 0, .int 0, .int 0])), (q_9, .inl (k_10, 12, .inr (.inr (.inr (.inr (va_up (va_up (va_up (va_up (va_up (va_up (va_up (va_up (fun _ => none) (0 : Int32).toNatClampNeg (some q_12)) (1 : Int32).toNatClampNeg (some q_14)) (2 : Int32).toNatClampNeg (some q_16)) (3 : Int32).toNatClampNeg (some q_18)) (4 : Int32).toNatClampNeg (some q_20)) (5 : Int32).toNatClampNeg (some q_22)) (6 : Int32).toNatClampNeg (some q_24)) (7 : Int32).toNatClampNeg (some q_26))))))), (q_26, .inr (4, [.long 0, .long 0, .long 0, .int 0, .int 0]))] H := hP
  have hD : va_D A [(h0, .inr (3, [.ref q_1, .ref q_3, .ref q_5, .ref q_7, .ref q_9, .long 0, .int 0, .int 0, .int 0, .int 0, .long 0, .long 0, .long 0, .int 0, .int 0, .int 0, .int 0])), (q_9, .inl (k_10, 12, .inr (.inr (.inr (.inr (va_up (va_up (va_up (va_up (va_up (va_up (va_up (va_up (fun _ => none) (0 : Int32).toNatClampNeg (some q_12)) (1 : Int32).toNatClampNeg (some q_14)) (2 : Int32).toNatClampNeg (some q_16)) (3 : Int32).toNatClampNeg (some q_18)) (4 : Int32).toNatClampNeg (some q_20)) (5 : Int32).toNatClampNeg (some q_22)) (6 : Int32).toNatClampNeg (some q_24)) (7 : Int32).toNatClampNeg (some q_26))))))), (q_26, .inr (4, [.long 0, .long 0, .long 0, .int 0, .int 0]))] := hD
  have hP : va_P (dC, dI) zc [(h0, .inr (3, [.ref q_1, .ref q_3, .ref q_5, .ref q_7, .ref q_9, .long 0, .int 0, .int 0, .int 0, .int 0, .long 0, .long 0, .long 0, .int 0, .int 0, .int 0, .int 0])), (q_9, .inl (k_10, 12, .inr (.inr (.inr (.inr (va_up (va_up (va_up (va_up (va_up (va_up (va_up (va_up (fun _ => none) (0 : Int32).toNatClampNeg (some q_12)) (1 : Int32).toNatClampNeg (some q_14)) (2 : Int32).toNatClampNeg (some q_16)) (3 : Int32).toNatClampNeg (some q_18)) (4 : Int32).toNatClampNeg (some q_20)) (5 : Int32).toNatClampNeg (some q_22)) (6 : Int32).toNatClampNeg (some q_24)) (7 : Int32).toNatClampNeg (some q_26)))))))] H := hP.sub [0, 1] rfl
  have hD : va_D A [(h0, .inr (3, [.ref q_1, .ref q_3, .ref q_5, .ref q_7, .ref q_9, .long 0, .int 0, .int 0, .int 0, .int 0, .long 0, .long 0, .long 0, .int 0, .int 0, .int 0, .int 0])), (q_9, .inl (k_10, 12, .inr (.inr (.inr (.inr (va_up (va_up (va_up (va_up (va_up (va_up (va_up (va_up (fun _ => none) (0 : Int32).toNatClampNeg (some q_12)) (1 : Int32).toNatClampNeg (some q_14)) (2 : Int32).toNatClampNeg (some q_16)) (3 : Int32).toNatClampNeg (some q_18)) (4 : Int32).toNatClampNeg (some q_20)) (5 : Int32).toNatClampNeg (some q_22)) (6 : Int32).toNatClampNeg (some q_24)) (7 : Int32).toNatClampNeg (some q_26)))))))] := hD.sub [0, 1] (by decide) rfl
  refine lv_iinc (v := 8) (lv' := [(1, .int 8), (0, .ref h0)]) hx hb dX1_init_62 hl (k := 0) rfl (by decide) (by decide) rfl (fun ls hl => ?_)
  refine lv_goto (tgt := 43) hx hb dX1_init_65 (by decide) ?_
  refine lv_iload_n hx hb dX1_init_43 rfl (lv_at hl 0 rfl) ?_
  refine lv_bipush (v := 12) hx hb dX1_init_44 (by decide) ?_
  refine lv_icmp_ge (tgt := 68) hx hb dX1_init_46 (by decide) (fun c_27 => absurd c_27 (by decide)) (fun c_27 => ?_)
  refine lv_aload_n hx hb dX1_init_49 rfl (lv_at hl 1 rfl) ?_
  refine va_get (D := (dC, dI)) (ci := 3) (v := .ref q_9) (C := RX1) (T := TX1) (N := 17) hx hb hts iX1 hown hK hP 0 rfl rfl 4 (by decide) (hts _ kw_186) (fun _ h9 => h9) rfl dX1_init_50 ?_
  refine lv_iload_n hx hb dX1_init_53 rfl (lv_at hl 0 rfl) ?_
  refine va_new (ci := 4) (fs := [.long 0, .long 0, .long 0, .int 0, .int 0]) (C := RX3) (T := TX3) (N := 5) hx hb hts iX3 tyX3 tyX3_ok hown (hts _ kw_146) (hts _ kw_148) (hts _ kw_69) hK hP hD hS hA rfl z_dfX3 (zl_b rfl) (zl_b rfl) dX1_init_54 (fun q_28 H hP hD hS => ?_)
  have hP : va_P (dC, dI) zc [(h0, .inr (3, [.ref q_1, .ref q_3, .ref q_5, .ref q_7, .ref q_9, .long 0, .int 0, .int 0, .int 0, .int 0, .long 0, .long 0, .long 0, .int 0, .int 0, .int 0, .int 0])), (q_9, .inl (k_10, 12, .inr (.inr (.inr (.inr (va_up (va_up (va_up (va_up (va_up (va_up (va_up (va_up (fun _ => none) (0 : Int32).toNatClampNeg (some q_12)) (1 : Int32).toNatClampNeg (some q_14)) (2 : Int32).toNatClampNeg (some q_16)) (3 : Int32).toNatClampNeg (some q_18)) (4 : Int32).toNatClampNeg (some q_20)) (5 : Int32).toNatClampNeg (some q_22)) (6 : Int32).toNatClampNeg (some q_24)) (7 : Int32).toNatClampNeg (some q_26))))))), (q_28, .inr (4, [.long 0, .long 0, .long 0, .int 0, .int 0]))] H := hP
  have hD : va_D A [(h0, .inr (3, [.ref q_1, .ref q_3, .ref q_5, .ref q_7, .ref q_9, .long 0, .int 0, .int 0, .int 0, .int 0, .long 0, .long 0, .long 0, .int 0, .int 0, .int 0, .int 0])), (q_9, .inl (k_10, 12, .inr (.inr (.inr (.inr (va_up (va_up (va_up (va_up (va_up (va_up (va_up (va_up (fun _ => none) (0 : Int32).toNatClampNeg (some q_12)) (1 : Int32).toNatClampNeg (some q_14)) (2 : Int32).toNatClampNeg (some q_16)) (3 : Int32).toNatClampNeg (some q_18)) (4 : Int32).toNatClampNeg (some q_20)) (5 : Int32).toNatClampNeg (some q_22)) (6 : Int32).toNatClampNeg (some q_24)) (7 : Int32).toNatClampNeg (some q_26))))))), (q_28, .inr (4, [.long 0, .long 0, .long 0, .int 0, .int 0]))] := hD
  refine W.widen (k := 14) (n := 69) (zl_b rfl) (zl_b rfl) ?_
  refine lv_dup hx hb dX1_init_57 rfl ?_
  have hFc := va_free (wc := [(q_28, .inr (4, [.long 0, .long 0, .long 0, .int 0, .int 0]))]) hD hS hA [2] rfl
  refine va_callv (va_runIN (As := []) (rest := [.ref q_28, .int 8, .ref q_9]) ⟨hx, hb, hml, hown, hts⟩ (c_St_init l dC dI H.size t q_28) ⟨va_cnB 0 hts (zg_c kw_151) rfl rfl rfl (zT_nX1_31 hQ.1) (hts _ kw_69) (by decide +kernel) ⟨Nat.le_of_ble_eq_true rfl, Nat.le_of_ble_eq_true rfl⟩, rfl, (hts _ kw_150)⟩ ⟨zA_blind, zA_pre hP hD hS hK hQ hA [2] rfl rfl (by decide) [] rfl⟩ rfl rfl hl.1 rfl (lv_room (Nat.le_of_ble_eq_true rfl)) dX1_init_58 ⟨zl_b rfl, zl_b rfl⟩) hS (fun q _ h => hFc q h) hFc (fun u t9 H1 locs ht hvm hw hB hz1 hk1 hS => ?_)
  obtain ⟨hP1, hK1, hD1⟩ := hB
  rw [ht] at hP1
  have hK1 := va_K.moved hvm.symm hK1
  obtain ⟨hP, hD⟩ := va_join (wr := [(h0, .inr (3, [.ref q_1, .ref q_3, .ref q_5, .ref q_7, .ref q_9, .long 0, .int 0, .int 0, .int 0, .int 0, .long 0, .long 0, .long 0, .int 0, .int 0, .int 0, .int 0])), (q_9, .inl (k_10, 12, .inr (.inr (.inr (.inr (va_up (va_up (va_up (va_up (va_up (va_up (va_up (va_up (fun _ => none) (0 : Int32).toNatClampNeg (some q_12)) (1 : Int32).toNatClampNeg (some q_14)) (2 : Int32).toNatClampNeg (some q_16)) (3 : Int32).toNatClampNeg (some q_18)) (4 : Int32).toNatClampNeg (some q_20)) (5 : Int32).toNatClampNeg (some q_22)) (6 : Int32).toNatClampNeg (some q_24)) (7 : Int32).toNatClampNeg (some q_26)))))))]) (w1 := [(q_28, .inr (4, [.long 0, .long 0, .long 0, .int 0, .int 0]))]) hP hD [2] [0, 1] rfl rfl (by decide) (by decide) hk1 hFc hP1 hD1
  have hK := (hK.sub (tys' := [(k_2, .long), (k_4, .long), (k_6, .int), (k_8, .int), (k_10, .object "StatementCycle$Statement")]) [0, 1, 2, 3, 4] rfl).app hK1
  generalize H1 = H at hP hS ⊢
  have hP : va_P (dC, dI) zc [(h0, .inr (3, [.ref q_1, .ref q_3, .ref q_5, .ref q_7, .ref q_9, .long 0, .int 0, .int 0, .int 0, .int 0, .long 0, .long 0, .long 0, .int 0, .int 0, .int 0, .int 0])), (q_9, .inl (k_10, 12, .inr (.inr (.inr (.inr (va_up (va_up (va_up (va_up (va_up (va_up (va_up (va_up (fun _ => none) (0 : Int32).toNatClampNeg (some q_12)) (1 : Int32).toNatClampNeg (some q_14)) (2 : Int32).toNatClampNeg (some q_16)) (3 : Int32).toNatClampNeg (some q_18)) (4 : Int32).toNatClampNeg (some q_20)) (5 : Int32).toNatClampNeg (some q_22)) (6 : Int32).toNatClampNeg (some q_24)) (7 : Int32).toNatClampNeg (some q_26))))))), (q_28, .inr (4, [.long 0, .long 0, .long 0, .int 0, .int 0]))] H := hP
  have hD : va_D A [(h0, .inr (3, [.ref q_1, .ref q_3, .ref q_5, .ref q_7, .ref q_9, .long 0, .int 0, .int 0, .int 0, .int 0, .long 0, .long 0, .long 0, .int 0, .int 0, .int 0, .int 0])), (q_9, .inl (k_10, 12, .inr (.inr (.inr (.inr (va_up (va_up (va_up (va_up (va_up (va_up (va_up (va_up (fun _ => none) (0 : Int32).toNatClampNeg (some q_12)) (1 : Int32).toNatClampNeg (some q_14)) (2 : Int32).toNatClampNeg (some q_16)) (3 : Int32).toNatClampNeg (some q_18)) (4 : Int32).toNatClampNeg (some q_20)) (5 : Int32).toNatClampNeg (some q_22)) (6 : Int32).toNatClampNeg (some q_24)) (7 : Int32).toNatClampNeg (some q_26))))))), (q_28, .inr (4, [.long 0, .long 0, .long 0, .int 0, .int 0]))] := hD
  have hK : va_K (dC, dI) zc [(k_2, .long), (k_4, .long), (k_6, .int), (k_8, .int), (k_10, .object "StatementCycle$Statement")] s := hK
  refine va_astq hx hb hK hP hD hS 1 4 2 4 rfl rfl rfl rfl (by unfold vp_in; decide) dX1_init_61 (fun H locs hP hD hS => ?_)
  have hP : va_P (dC, dI) zc [(h0, .inr (3, [.ref q_1, .ref q_3, .ref q_5, .ref q_7, .ref q_9, .long 0, .int 0, .int 0, .int 0, .int 0, .long 0, .long 0, .long 0, .int 0, .int 0, .int 0, .int 0])), (q_9, .inl (k_10, 12, .inr (.inr (.inr (.inr (va_up (va_up (va_up (va_up (va_up (va_up (va_up (va_up (va_up (fun _ => none) (0 : Int32).toNatClampNeg (some q_12)) (1 : Int32).toNatClampNeg (some q_14)) (2 : Int32).toNatClampNeg (some q_16)) (3 : Int32).toNatClampNeg (some q_18)) (4 : Int32).toNatClampNeg (some q_20)) (5 : Int32).toNatClampNeg (some q_22)) (6 : Int32).toNatClampNeg (some q_24)) (7 : Int32).toNatClampNeg (some q_26)) (8 : Int32).toNatClampNeg (some q_28))))))), (q_28, .inr (4, [.long 0, .long 0, .long 0, .int 0, .int 0]))] H := hP
  have hD : va_D A [(h0, .inr (3, [.ref q_1, .ref q_3, .ref q_5, .ref q_7, .ref q_9, .long 0, .int 0, .int 0, .int 0, .int 0, .long 0, .long 0, .long 0, .int 0, .int 0, .int 0, .int 0])), (q_9, .inl (k_10, 12, .inr (.inr (.inr (.inr (va_up (va_up (va_up (va_up (va_up (va_up (va_up (va_up (va_up (fun _ => none) (0 : Int32).toNatClampNeg (some q_12)) (1 : Int32).toNatClampNeg (some q_14)) (2 : Int32).toNatClampNeg (some q_16)) (3 : Int32).toNatClampNeg (some q_18)) (4 : Int32).toNatClampNeg (some q_20)) (5 : Int32).toNatClampNeg (some q_22)) (6 : Int32).toNatClampNeg (some q_24)) (7 : Int32).toNatClampNeg (some q_26)) (8 : Int32).toNatClampNeg (some q_28))))))), (q_28, .inr (4, [.long 0, .long 0, .long 0, .int 0, .int 0]))] := hD
  have hP : va_P (dC, dI) zc [(h0, .inr (3, [.ref q_1, .ref q_3, .ref q_5, .ref q_7, .ref q_9, .long 0, .int 0, .int 0, .int 0, .int 0, .long 0, .long 0, .long 0, .int 0, .int 0, .int 0, .int 0])), (q_9, .inl (k_10, 12, .inr (.inr (.inr (.inr (va_up (va_up (va_up (va_up (va_up (va_up (va_up (va_up (va_up (fun _ => none) (0 : Int32).toNatClampNeg (some q_12)) (1 : Int32).toNatClampNeg (some q_14)) (2 : Int32).toNatClampNeg (some q_16)) (3 : Int32).toNatClampNeg (some q_18)) (4 : Int32).toNatClampNeg (some q_20)) (5 : Int32).toNatClampNeg (some q_22)) (6 : Int32).toNatClampNeg (some q_24)) (7 : Int32).toNatClampNeg (some q_26)) (8 : Int32).toNatClampNeg (some q_28)))))))] H := hP.sub [0, 1] rfl
  have hD : va_D A [(h0, .inr (3, [.ref q_1, .ref q_3, .ref q_5, .ref q_7, .ref q_9, .long 0, .int 0, .int 0, .int 0, .int 0, .long 0, .long 0, .long 0, .int 0, .int 0, .int 0, .int 0])), (q_9, .inl (k_10, 12, .inr (.inr (.inr (.inr (va_up (va_up (va_up (va_up (va_up (va_up (va_up (va_up (va_up (fun _ => none) (0 : Int32).toNatClampNeg (some q_12)) (1 : Int32).toNatClampNeg (some q_14)) (2 : Int32).toNatClampNeg (some q_16)) (3 : Int32).toNatClampNeg (some q_18)) (4 : Int32).toNatClampNeg (some q_20)) (5 : Int32).toNatClampNeg (some q_22)) (6 : Int32).toNatClampNeg (some q_24)) (7 : Int32).toNatClampNeg (some q_26)) (8 : Int32).toNatClampNeg (some q_28)))))))] := hD.sub [0, 1] (by decide) rfl
  refine lv_iinc (v := 9) (lv' := [(1, .int 9), (0, .ref h0)]) hx hb dX1_init_62 hl (k := 0) rfl (by decide) (by decide) rfl (fun ls hl => ?_)
  refine lv_goto (tgt := 43) hx hb dX1_init_65 (by decide) ?_
  refine lv_iload_n hx hb dX1_init_43 rfl (lv_at hl 0 rfl) ?_
  refine lv_bipush (v := 12) hx hb dX1_init_44 (by decide) ?_
  refine lv_icmp_ge (tgt := 68) hx hb dX1_init_46 (by decide) (fun c_29 => absurd c_29 (by decide)) (fun c_29 => ?_)
  refine lv_aload_n hx hb dX1_init_49 rfl (lv_at hl 1 rfl) ?_
  refine va_get (D := (dC, dI)) (ci := 3) (v := .ref q_9) (C := RX1) (T := TX1) (N := 17) hx hb hts iX1 hown hK hP 0 rfl rfl 4 (by decide) (hts _ kw_186) (fun _ h9 => h9) rfl dX1_init_50 ?_
  refine lv_iload_n hx hb dX1_init_53 rfl (lv_at hl 0 rfl) ?_
  refine va_new (ci := 4) (fs := [.long 0, .long 0, .long 0, .int 0, .int 0]) (C := RX3) (T := TX3) (N := 5) hx hb hts iX3 tyX3 tyX3_ok hown (hts _ kw_146) (hts _ kw_148) (hts _ kw_69) hK hP hD hS hA rfl z_dfX3 (zl_b rfl) (zl_b rfl) dX1_init_54 (fun q_30 H hP hD hS => ?_)
  have hP : va_P (dC, dI) zc [(h0, .inr (3, [.ref q_1, .ref q_3, .ref q_5, .ref q_7, .ref q_9, .long 0, .int 0, .int 0, .int 0, .int 0, .long 0, .long 0, .long 0, .int 0, .int 0, .int 0, .int 0])), (q_9, .inl (k_10, 12, .inr (.inr (.inr (.inr (va_up (va_up (va_up (va_up (va_up (va_up (va_up (va_up (va_up (fun _ => none) (0 : Int32).toNatClampNeg (some q_12)) (1 : Int32).toNatClampNeg (some q_14)) (2 : Int32).toNatClampNeg (some q_16)) (3 : Int32).toNatClampNeg (some q_18)) (4 : Int32).toNatClampNeg (some q_20)) (5 : Int32).toNatClampNeg (some q_22)) (6 : Int32).toNatClampNeg (some q_24)) (7 : Int32).toNatClampNeg (some q_26)) (8 : Int32).toNatClampNeg (some q_28))))))), (q_30, .inr (4, [.long 0, .long 0, .long 0, .int 0, .int 0]))] H := hP
  have hD : va_D A [(h0, .inr (3, [.ref q_1, .ref q_3, .ref q_5, .ref q_7, .ref q_9, .long 0, .int 0, .int 0, .int 0, .int 0, .long 0, .long 0, .long 0, .int 0, .int 0, .int 0, .int 0])), (q_9, .inl (k_10, 12, .inr (.inr (.inr (.inr (va_up (va_up (va_up (va_up (va_up (va_up (va_up (va_up (va_up (fun _ => none) (0 : Int32).toNatClampNeg (some q_12)) (1 : Int32).toNatClampNeg (some q_14)) (2 : Int32).toNatClampNeg (some q_16)) (3 : Int32).toNatClampNeg (some q_18)) (4 : Int32).toNatClampNeg (some q_20)) (5 : Int32).toNatClampNeg (some q_22)) (6 : Int32).toNatClampNeg (some q_24)) (7 : Int32).toNatClampNeg (some q_26)) (8 : Int32).toNatClampNeg (some q_28))))))), (q_30, .inr (4, [.long 0, .long 0, .long 0, .int 0, .int 0]))] := hD
  refine W.widen (k := 15) (n := 74) (zl_b rfl) (zl_b rfl) ?_
  refine lv_dup hx hb dX1_init_57 rfl ?_
  have hFc := va_free (wc := [(q_30, .inr (4, [.long 0, .long 0, .long 0, .int 0, .int 0]))]) hD hS hA [2] rfl
  refine va_callv (va_runIN (As := []) (rest := [.ref q_30, .int 9, .ref q_9]) ⟨hx, hb, hml, hown, hts⟩ (c_St_init l dC dI H.size t q_30) ⟨va_cnB 0 hts (zg_c kw_151) rfl rfl rfl (zT_nX1_31 hQ.1) (hts _ kw_69) (by decide +kernel) ⟨Nat.le_of_ble_eq_true rfl, Nat.le_of_ble_eq_true rfl⟩, rfl, (hts _ kw_150)⟩ ⟨zA_blind, zA_pre hP hD hS hK hQ hA [2] rfl rfl (by decide) [] rfl⟩ rfl rfl hl.1 rfl (lv_room (Nat.le_of_ble_eq_true rfl)) dX1_init_58 ⟨zl_b rfl, zl_b rfl⟩) hS (fun q _ h => hFc q h) hFc (fun u t9 H1 locs ht hvm hw hB hz1 hk1 hS => ?_)
  obtain ⟨hP1, hK1, hD1⟩ := hB
  rw [ht] at hP1
  have hK1 := va_K.moved hvm.symm hK1
  obtain ⟨hP, hD⟩ := va_join (wr := [(h0, .inr (3, [.ref q_1, .ref q_3, .ref q_5, .ref q_7, .ref q_9, .long 0, .int 0, .int 0, .int 0, .int 0, .long 0, .long 0, .long 0, .int 0, .int 0, .int 0, .int 0])), (q_9, .inl (k_10, 12, .inr (.inr (.inr (.inr (va_up (va_up (va_up (va_up (va_up (va_up (va_up (va_up (va_up (fun _ => none) (0 : Int32).toNatClampNeg (some q_12)) (1 : Int32).toNatClampNeg (some q_14)) (2 : Int32).toNatClampNeg (some q_16)) (3 : Int32).toNatClampNeg (some q_18)) (4 : Int32).toNatClampNeg (some q_20)) (5 : Int32).toNatClampNeg (some q_22)) (6 : Int32).toNatClampNeg (some q_24)) (7 : Int32).toNatClampNeg (some q_26)) (8 : Int32).toNatClampNeg (some q_28)))))))]) (w1 := [(q_30, .inr (4, [.long 0, .long 0, .long 0, .int 0, .int 0]))]) hP hD [2] [0, 1] rfl rfl (by decide) (by decide) hk1 hFc hP1 hD1
  have hK := (hK.sub (tys' := [(k_2, .long), (k_4, .long), (k_6, .int), (k_8, .int), (k_10, .object "StatementCycle$Statement")]) [0, 1, 2, 3, 4] rfl).app hK1
  generalize H1 = H at hP hS ⊢
  have hP : va_P (dC, dI) zc [(h0, .inr (3, [.ref q_1, .ref q_3, .ref q_5, .ref q_7, .ref q_9, .long 0, .int 0, .int 0, .int 0, .int 0, .long 0, .long 0, .long 0, .int 0, .int 0, .int 0, .int 0])), (q_9, .inl (k_10, 12, .inr (.inr (.inr (.inr (va_up (va_up (va_up (va_up (va_up (va_up (va_up (va_up (va_up (fun _ => none) (0 : Int32).toNatClampNeg (some q_12)) (1 : Int32).toNatClampNeg (some q_14)) (2 : Int32).toNatClampNeg (some q_16)) (3 : Int32).toNatClampNeg (some q_18)) (4 : Int32).toNatClampNeg (some q_20)) (5 : Int32).toNatClampNeg (some q_22)) (6 : Int32).toNatClampNeg (some q_24)) (7 : Int32).toNatClampNeg (some q_26)) (8 : Int32).toNatClampNeg (some q_28))))))), (q_30, .inr (4, [.long 0, .long 0, .long 0, .int 0, .int 0]))] H := hP
  have hD : va_D A [(h0, .inr (3, [.ref q_1, .ref q_3, .ref q_5, .ref q_7, .ref q_9, .long 0, .int 0, .int 0, .int 0, .int 0, .long 0, .long 0, .long 0, .int 0, .int 0, .int 0, .int 0])), (q_9, .inl (k_10, 12, .inr (.inr (.inr (.inr (va_up (va_up (va_up (va_up (va_up (va_up (va_up (va_up (va_up (fun _ => none) (0 : Int32).toNatClampNeg (some q_12)) (1 : Int32).toNatClampNeg (some q_14)) (2 : Int32).toNatClampNeg (some q_16)) (3 : Int32).toNatClampNeg (some q_18)) (4 : Int32).toNatClampNeg (some q_20)) (5 : Int32).toNatClampNeg (some q_22)) (6 : Int32).toNatClampNeg (some q_24)) (7 : Int32).toNatClampNeg (some q_26)) (8 : Int32).toNatClampNeg (some q_28))))))), (q_30, .inr (4, [.long 0, .long 0, .long 0, .int 0, .int 0]))] := hD
  have hK : va_K (dC, dI) zc [(k_2, .long), (k_4, .long), (k_6, .int), (k_8, .int), (k_10, .object "StatementCycle$Statement")] s := hK
  refine va_astq hx hb hK hP hD hS 1 4 2 4 rfl rfl rfl rfl (by unfold vp_in; decide) dX1_init_61 (fun H locs hP hD hS => ?_)
  have hP : va_P (dC, dI) zc [(h0, .inr (3, [.ref q_1, .ref q_3, .ref q_5, .ref q_7, .ref q_9, .long 0, .int 0, .int 0, .int 0, .int 0, .long 0, .long 0, .long 0, .int 0, .int 0, .int 0, .int 0])), (q_9, .inl (k_10, 12, .inr (.inr (.inr (.inr (va_up (va_up (va_up (va_up (va_up (va_up (va_up (va_up (va_up (va_up (fun _ => none) (0 : Int32).toNatClampNeg (some q_12)) (1 : Int32).toNatClampNeg (some q_14)) (2 : Int32).toNatClampNeg (some q_16)) (3 : Int32).toNatClampNeg (some q_18)) (4 : Int32).toNatClampNeg (some q_20)) (5 : Int32).toNatClampNeg (some q_22)) (6 : Int32).toNatClampNeg (some q_24)) (7 : Int32).toNatClampNeg (some q_26)) (8 : Int32).toNatClampNeg (some q_28)) (9 : Int32).toNatClampNeg (some q_30))))))), (q_30, .inr (4, [.long 0, .long 0, .long 0, .int 0, .int 0]))] H := hP
  have hD : va_D A [(h0, .inr (3, [.ref q_1, .ref q_3, .ref q_5, .ref q_7, .ref q_9, .long 0, .int 0, .int 0, .int 0, .int 0, .long 0, .long 0, .long 0, .int 0, .int 0, .int 0, .int 0])), (q_9, .inl (k_10, 12, .inr (.inr (.inr (.inr (va_up (va_up (va_up (va_up (va_up (va_up (va_up (va_up (va_up (va_up (fun _ => none) (0 : Int32).toNatClampNeg (some q_12)) (1 : Int32).toNatClampNeg (some q_14)) (2 : Int32).toNatClampNeg (some q_16)) (3 : Int32).toNatClampNeg (some q_18)) (4 : Int32).toNatClampNeg (some q_20)) (5 : Int32).toNatClampNeg (some q_22)) (6 : Int32).toNatClampNeg (some q_24)) (7 : Int32).toNatClampNeg (some q_26)) (8 : Int32).toNatClampNeg (some q_28)) (9 : Int32).toNatClampNeg (some q_30))))))), (q_30, .inr (4, [.long 0, .long 0, .long 0, .int 0, .int 0]))] := hD
  have hP : va_P (dC, dI) zc [(h0, .inr (3, [.ref q_1, .ref q_3, .ref q_5, .ref q_7, .ref q_9, .long 0, .int 0, .int 0, .int 0, .int 0, .long 0, .long 0, .long 0, .int 0, .int 0, .int 0, .int 0])), (q_9, .inl (k_10, 12, .inr (.inr (.inr (.inr (va_up (va_up (va_up (va_up (va_up (va_up (va_up (va_up (va_up (va_up (fun _ => none) (0 : Int32).toNatClampNeg (some q_12)) (1 : Int32).toNatClampNeg (some q_14)) (2 : Int32).toNatClampNeg (some q_16)) (3 : Int32).toNatClampNeg (some q_18)) (4 : Int32).toNatClampNeg (some q_20)) (5 : Int32).toNatClampNeg (some q_22)) (6 : Int32).toNatClampNeg (some q_24)) (7 : Int32).toNatClampNeg (some q_26)) (8 : Int32).toNatClampNeg (some q_28)) (9 : Int32).toNatClampNeg (some q_30)))))))] H := hP.sub [0, 1] rfl
  have hD : va_D A [(h0, .inr (3, [.ref q_1, .ref q_3, .ref q_5, .ref q_7, .ref q_9, .long 0, .int 0, .int 0, .int 0, .int 0, .long 0, .long 0, .long 0, .int 0, .int 0, .int 0, .int 0])), (q_9, .inl (k_10, 12, .inr (.inr (.inr (.inr (va_up (va_up (va_up (va_up (va_up (va_up (va_up (va_up (va_up (va_up (fun _ => none) (0 : Int32).toNatClampNeg (some q_12)) (1 : Int32).toNatClampNeg (some q_14)) (2 : Int32).toNatClampNeg (some q_16)) (3 : Int32).toNatClampNeg (some q_18)) (4 : Int32).toNatClampNeg (some q_20)) (5 : Int32).toNatClampNeg (some q_22)) (6 : Int32).toNatClampNeg (some q_24)) (7 : Int32).toNatClampNeg (some q_26)) (8 : Int32).toNatClampNeg (some q_28)) (9 : Int32).toNatClampNeg (some q_30)))))))] := hD.sub [0, 1] (by decide) rfl
  refine lv_iinc (v := 10) (lv' := [(1, .int 10), (0, .ref h0)]) hx hb dX1_init_62 hl (k := 0) rfl (by decide) (by decide) rfl (fun ls hl => ?_)
  refine lv_goto (tgt := 43) hx hb dX1_init_65 (by decide) ?_
  refine lv_iload_n hx hb dX1_init_43 rfl (lv_at hl 0 rfl) ?_
  refine lv_bipush (v := 12) hx hb dX1_init_44 (by decide) ?_
  refine lv_icmp_ge (tgt := 68) hx hb dX1_init_46 (by decide) (fun c_31 => absurd c_31 (by decide)) (fun c_31 => ?_)
  refine lv_aload_n hx hb dX1_init_49 rfl (lv_at hl 1 rfl) ?_
  refine va_get (D := (dC, dI)) (ci := 3) (v := .ref q_9) (C := RX1) (T := TX1) (N := 17) hx hb hts iX1 hown hK hP 0 rfl rfl 4 (by decide) (hts _ kw_186) (fun _ h9 => h9) rfl dX1_init_50 ?_
  refine lv_iload_n hx hb dX1_init_53 rfl (lv_at hl 0 rfl) ?_
  refine va_new (ci := 4) (fs := [.long 0, .long 0, .long 0, .int 0, .int 0]) (C := RX3) (T := TX3) (N := 5) hx hb hts iX3 tyX3 tyX3_ok hown (hts _ kw_146) (hts _ kw_148) (hts _ kw_69) hK hP hD hS hA rfl z_dfX3 (zl_b rfl) (zl_b rfl) dX1_init_54 (fun q_32 H hP hD hS => ?_)
  have hP : va_P (dC, dI) zc [(h0, .inr (3, [.ref q_1, .ref q_3, .ref q_5, .ref q_7, .ref q_9, .long 0, .int 0, .int 0, .int 0, .int 0, .long 0, .long 0, .long 0, .int 0, .int 0, .int 0, .int 0])), (q_9, .inl (k_10, 12, .inr (.inr (.inr (.inr (va_up (va_up (va_up (va_up (va_up (va_up (va_up (va_up (va_up (va_up (fun _ => none) (0 : Int32).toNatClampNeg (some q_12)) (1 : Int32).toNatClampNeg (some q_14)) (2 : Int32).toNatClampNeg (some q_16)) (3 : Int32).toNatClampNeg (some q_18)) (4 : Int32).toNatClampNeg (some q_20)) (5 : Int32).toNatClampNeg (some q_22)) (6 : Int32).toNatClampNeg (some q_24)) (7 : Int32).toNatClampNeg (some q_26)) (8 : Int32).toNatClampNeg (some q_28)) (9 : Int32).toNatClampNeg (some q_30))))))), (q_32, .inr (4, [.long 0, .long 0, .long 0, .int 0, .int 0]))] H := hP
  have hD : va_D A [(h0, .inr (3, [.ref q_1, .ref q_3, .ref q_5, .ref q_7, .ref q_9, .long 0, .int 0, .int 0, .int 0, .int 0, .long 0, .long 0, .long 0, .int 0, .int 0, .int 0, .int 0])), (q_9, .inl (k_10, 12, .inr (.inr (.inr (.inr (va_up (va_up (va_up (va_up (va_up (va_up (va_up (va_up (va_up (va_up (fun _ => none) (0 : Int32).toNatClampNeg (some q_12)) (1 : Int32).toNatClampNeg (some q_14)) (2 : Int32).toNatClampNeg (some q_16)) (3 : Int32).toNatClampNeg (some q_18)) (4 : Int32).toNatClampNeg (some q_20)) (5 : Int32).toNatClampNeg (some q_22)) (6 : Int32).toNatClampNeg (some q_24)) (7 : Int32).toNatClampNeg (some q_26)) (8 : Int32).toNatClampNeg (some q_28)) (9 : Int32).toNatClampNeg (some q_30))))))), (q_32, .inr (4, [.long 0, .long 0, .long 0, .int 0, .int 0]))] := hD
  refine W.widen (k := 16) (n := 79) (zl_b rfl) (zl_b rfl) ?_
  refine lv_dup hx hb dX1_init_57 rfl ?_
  have hFc := va_free (wc := [(q_32, .inr (4, [.long 0, .long 0, .long 0, .int 0, .int 0]))]) hD hS hA [2] rfl
  refine va_callv (va_runIN (As := []) (rest := [.ref q_32, .int 10, .ref q_9]) ⟨hx, hb, hml, hown, hts⟩ (c_St_init l dC dI H.size t q_32) ⟨va_cnB 0 hts (zg_c kw_151) rfl rfl rfl (zT_nX1_31 hQ.1) (hts _ kw_69) (by decide +kernel) ⟨Nat.le_of_ble_eq_true rfl, Nat.le_of_ble_eq_true rfl⟩, rfl, (hts _ kw_150)⟩ ⟨zA_blind, zA_pre hP hD hS hK hQ hA [2] rfl rfl (by decide) [] rfl⟩ rfl rfl hl.1 rfl (lv_room (Nat.le_of_ble_eq_true rfl)) dX1_init_58 ⟨zl_b rfl, zl_b rfl⟩) hS (fun q _ h => hFc q h) hFc (fun u t9 H1 locs ht hvm hw hB hz1 hk1 hS => ?_)
  obtain ⟨hP1, hK1, hD1⟩ := hB
  rw [ht] at hP1
  have hK1 := va_K.moved hvm.symm hK1
  obtain ⟨hP, hD⟩ := va_join (wr := [(h0, .inr (3, [.ref q_1, .ref q_3, .ref q_5, .ref q_7, .ref q_9, .long 0, .int 0, .int 0, .int 0, .int 0, .long 0, .long 0, .long 0, .int 0, .int 0, .int 0, .int 0])), (q_9, .inl (k_10, 12, .inr (.inr (.inr (.inr (va_up (va_up (va_up (va_up (va_up (va_up (va_up (va_up (va_up (va_up (fun _ => none) (0 : Int32).toNatClampNeg (some q_12)) (1 : Int32).toNatClampNeg (some q_14)) (2 : Int32).toNatClampNeg (some q_16)) (3 : Int32).toNatClampNeg (some q_18)) (4 : Int32).toNatClampNeg (some q_20)) (5 : Int32).toNatClampNeg (some q_22)) (6 : Int32).toNatClampNeg (some q_24)) (7 : Int32).toNatClampNeg (some q_26)) (8 : Int32).toNatClampNeg (some q_28)) (9 : Int32).toNatClampNeg (some q_30)))))))]) (w1 := [(q_32, .inr (4, [.long 0, .long 0, .long 0, .int 0, .int 0]))]) hP hD [2] [0, 1] rfl rfl (by decide) (by decide) hk1 hFc hP1 hD1
  have hK := (hK.sub (tys' := [(k_2, .long), (k_4, .long), (k_6, .int), (k_8, .int), (k_10, .object "StatementCycle$Statement")]) [0, 1, 2, 3, 4] rfl).app hK1
  generalize H1 = H at hP hS ⊢
  have hP : va_P (dC, dI) zc [(h0, .inr (3, [.ref q_1, .ref q_3, .ref q_5, .ref q_7, .ref q_9, .long 0, .int 0, .int 0, .int 0, .int 0, .long 0, .long 0, .long 0, .int 0, .int 0, .int 0, .int 0])), (q_9, .inl (k_10, 12, .inr (.inr (.inr (.inr (va_up (va_up (va_up (va_up (va_up (va_up (va_up (va_up (va_up (va_up (fun _ => none) (0 : Int32).toNatClampNeg (some q_12)) (1 : Int32).toNatClampNeg (some q_14)) (2 : Int32).toNatClampNeg (some q_16)) (3 : Int32).toNatClampNeg (some q_18)) (4 : Int32).toNatClampNeg (some q_20)) (5 : Int32).toNatClampNeg (some q_22)) (6 : Int32).toNatClampNeg (some q_24)) (7 : Int32).toNatClampNeg (some q_26)) (8 : Int32).toNatClampNeg (some q_28)) (9 : Int32).toNatClampNeg (some q_30))))))), (q_32, .inr (4, [.long 0, .long 0, .long 0, .int 0, .int 0]))] H := hP
  have hD : va_D A [(h0, .inr (3, [.ref q_1, .ref q_3, .ref q_5, .ref q_7, .ref q_9, .long 0, .int 0, .int 0, .int 0, .int 0, .long 0, .long 0, .long 0, .int 0, .int 0, .int 0, .int 0])), (q_9, .inl (k_10, 12, .inr (.inr (.inr (.inr (va_up (va_up (va_up (va_up (va_up (va_up (va_up (va_up (va_up (va_up (fun _ => none) (0 : Int32).toNatClampNeg (some q_12)) (1 : Int32).toNatClampNeg (some q_14)) (2 : Int32).toNatClampNeg (some q_16)) (3 : Int32).toNatClampNeg (some q_18)) (4 : Int32).toNatClampNeg (some q_20)) (5 : Int32).toNatClampNeg (some q_22)) (6 : Int32).toNatClampNeg (some q_24)) (7 : Int32).toNatClampNeg (some q_26)) (8 : Int32).toNatClampNeg (some q_28)) (9 : Int32).toNatClampNeg (some q_30))))))), (q_32, .inr (4, [.long 0, .long 0, .long 0, .int 0, .int 0]))] := hD
  have hK : va_K (dC, dI) zc [(k_2, .long), (k_4, .long), (k_6, .int), (k_8, .int), (k_10, .object "StatementCycle$Statement")] s := hK
  refine va_astq hx hb hK hP hD hS 1 4 2 4 rfl rfl rfl rfl (by unfold vp_in; decide) dX1_init_61 (fun H locs hP hD hS => ?_)
  have hP : va_P (dC, dI) zc [(h0, .inr (3, [.ref q_1, .ref q_3, .ref q_5, .ref q_7, .ref q_9, .long 0, .int 0, .int 0, .int 0, .int 0, .long 0, .long 0, .long 0, .int 0, .int 0, .int 0, .int 0])), (q_9, .inl (k_10, 12, .inr (.inr (.inr (.inr (va_up (va_up (va_up (va_up (va_up (va_up (va_up (va_up (va_up (va_up (va_up (fun _ => none) (0 : Int32).toNatClampNeg (some q_12)) (1 : Int32).toNatClampNeg (some q_14)) (2 : Int32).toNatClampNeg (some q_16)) (3 : Int32).toNatClampNeg (some q_18)) (4 : Int32).toNatClampNeg (some q_20)) (5 : Int32).toNatClampNeg (some q_22)) (6 : Int32).toNatClampNeg (some q_24)) (7 : Int32).toNatClampNeg (some q_26)) (8 : Int32).toNatClampNeg (some q_28)) (9 : Int32).toNatClampNeg (some q_30)) (10 : Int32).toNatClampNeg (some q_32))))))), (q_32, .inr (4, [.long 0, .long 0, .long 0, .int 0, .int 0]))] H := hP
  have hD : va_D A [(h0, .inr (3, [.ref q_1, .ref q_3, .ref q_5, .ref q_7, .ref q_9, .long 0, .int 0, .int 0, .int 0, .int 0, .long 0, .long 0, .long 0, .int 0, .int 0, .int 0, .int 0])), (q_9, .inl (k_10, 12, .inr (.inr (.inr (.inr (va_up (va_up (va_up (va_up (va_up (va_up (va_up (va_up (va_up (va_up (va_up (fun _ => none) (0 : Int32).toNatClampNeg (some q_12)) (1 : Int32).toNatClampNeg (some q_14)) (2 : Int32).toNatClampNeg (some q_16)) (3 : Int32).toNatClampNeg (some q_18)) (4 : Int32).toNatClampNeg (some q_20)) (5 : Int32).toNatClampNeg (some q_22)) (6 : Int32).toNatClampNeg (some q_24)) (7 : Int32).toNatClampNeg (some q_26)) (8 : Int32).toNatClampNeg (some q_28)) (9 : Int32).toNatClampNeg (some q_30)) (10 : Int32).toNatClampNeg (some q_32))))))), (q_32, .inr (4, [.long 0, .long 0, .long 0, .int 0, .int 0]))] := hD
  have hP : va_P (dC, dI) zc [(h0, .inr (3, [.ref q_1, .ref q_3, .ref q_5, .ref q_7, .ref q_9, .long 0, .int 0, .int 0, .int 0, .int 0, .long 0, .long 0, .long 0, .int 0, .int 0, .int 0, .int 0])), (q_9, .inl (k_10, 12, .inr (.inr (.inr (.inr (va_up (va_up (va_up (va_up (va_up (va_up (va_up (va_up (va_up (va_up (va_up (fun _ => none) (0 : Int32).toNatClampNeg (some q_12)) (1 : Int32).toNatClampNeg (some q_14)) (2 : Int32).toNatClampNeg (some q_16)) (3 : Int32).toNatClampNeg (some q_18)) (4 : Int32).toNatClampNeg (some q_20)) (5 : Int32).toNatClampNeg (some q_22)) (6 : Int32).toNatClampNeg (some q_24)) (7 : Int32).toNatClampNeg (some q_26)) (8 : Int32).toNatClampNeg (some q_28)) (9 : Int32).toNatClampNeg (some q_30)) (10 : Int32).toNatClampNeg (some q_32)))))))] H := hP.sub [0, 1] rfl
  have hD : va_D A [(h0, .inr (3, [.ref q_1, .ref q_3, .ref q_5, .ref q_7, .ref q_9, .long 0, .int 0, .int 0, .int 0, .int 0, .long 0, .long 0, .long 0, .int 0, .int 0, .int 0, .int 0])), (q_9, .inl (k_10, 12, .inr (.inr (.inr (.inr (va_up (va_up (va_up (va_up (va_up (va_up (va_up (va_up (va_up (va_up (va_up (fun _ => none) (0 : Int32).toNatClampNeg (some q_12)) (1 : Int32).toNatClampNeg (some q_14)) (2 : Int32).toNatClampNeg (some q_16)) (3 : Int32).toNatClampNeg (some q_18)) (4 : Int32).toNatClampNeg (some q_20)) (5 : Int32).toNatClampNeg (some q_22)) (6 : Int32).toNatClampNeg (some q_24)) (7 : Int32).toNatClampNeg (some q_26)) (8 : Int32).toNatClampNeg (some q_28)) (9 : Int32).toNatClampNeg (some q_30)) (10 : Int32).toNatClampNeg (some q_32)))))))] := hD.sub [0, 1] (by decide) rfl
  refine lv_iinc (v := 11) (lv' := [(1, .int 11), (0, .ref h0)]) hx hb dX1_init_62 hl (k := 0) rfl (by decide) (by decide) rfl (fun ls hl => ?_)
  refine lv_goto (tgt := 43) hx hb dX1_init_65 (by decide) ?_
  refine lv_iload_n hx hb dX1_init_43 rfl (lv_at hl 0 rfl) ?_
  refine lv_bipush (v := 12) hx hb dX1_init_44 (by decide) ?_
  refine lv_icmp_ge (tgt := 68) hx hb dX1_init_46 (by decide) (fun c_33 => absurd c_33 (by decide)) (fun c_33 => ?_)
  refine lv_aload_n hx hb dX1_init_49 rfl (lv_at hl 1 rfl) ?_
  refine va_get (D := (dC, dI)) (ci := 3) (v := .ref q_9) (C := RX1) (T := TX1) (N := 17) hx hb hts iX1 hown hK hP 0 rfl rfl 4 (by decide) (hts _ kw_186) (fun _ h9 => h9) rfl dX1_init_50 ?_
  refine lv_iload_n hx hb dX1_init_53 rfl (lv_at hl 0 rfl) ?_
  refine va_new (ci := 4) (fs := [.long 0, .long 0, .long 0, .int 0, .int 0]) (C := RX3) (T := TX3) (N := 5) hx hb hts iX3 tyX3 tyX3_ok hown (hts _ kw_146) (hts _ kw_148) (hts _ kw_69) hK hP hD hS hA rfl z_dfX3 (zl_b rfl) (zl_b rfl) dX1_init_54 (fun q_34 H hP hD hS => ?_)
  have hP : va_P (dC, dI) zc [(h0, .inr (3, [.ref q_1, .ref q_3, .ref q_5, .ref q_7, .ref q_9, .long 0, .int 0, .int 0, .int 0, .int 0, .long 0, .long 0, .long 0, .int 0, .int 0, .int 0, .int 0])), (q_9, .inl (k_10, 12, .inr (.inr (.inr (.inr (va_up (va_up (va_up (va_up (va_up (va_up (va_up (va_up (va_up (va_up (va_up (fun _ => none) (0 : Int32).toNatClampNeg (some q_12)) (1 : Int32).toNatClampNeg (some q_14)) (2 : Int32).toNatClampNeg (some q_16)) (3 : Int32).toNatClampNeg (some q_18)) (4 : Int32).toNatClampNeg (some q_20)) (5 : Int32).toNatClampNeg (some q_22)) (6 : Int32).toNatClampNeg (some q_24)) (7 : Int32).toNatClampNeg (some q_26)) (8 : Int32).toNatClampNeg (some q_28)) (9 : Int32).toNatClampNeg (some q_30)) (10 : Int32).toNatClampNeg (some q_32))))))), (q_34, .inr (4, [.long 0, .long 0, .long 0, .int 0, .int 0]))] H := hP
  have hD : va_D A [(h0, .inr (3, [.ref q_1, .ref q_3, .ref q_5, .ref q_7, .ref q_9, .long 0, .int 0, .int 0, .int 0, .int 0, .long 0, .long 0, .long 0, .int 0, .int 0, .int 0, .int 0])), (q_9, .inl (k_10, 12, .inr (.inr (.inr (.inr (va_up (va_up (va_up (va_up (va_up (va_up (va_up (va_up (va_up (va_up (va_up (fun _ => none) (0 : Int32).toNatClampNeg (some q_12)) (1 : Int32).toNatClampNeg (some q_14)) (2 : Int32).toNatClampNeg (some q_16)) (3 : Int32).toNatClampNeg (some q_18)) (4 : Int32).toNatClampNeg (some q_20)) (5 : Int32).toNatClampNeg (some q_22)) (6 : Int32).toNatClampNeg (some q_24)) (7 : Int32).toNatClampNeg (some q_26)) (8 : Int32).toNatClampNeg (some q_28)) (9 : Int32).toNatClampNeg (some q_30)) (10 : Int32).toNatClampNeg (some q_32))))))), (q_34, .inr (4, [.long 0, .long 0, .long 0, .int 0, .int 0]))] := hD
  refine W.widen (k := 17) (n := 84) (zl_b rfl) (zl_b rfl) ?_
  refine lv_dup hx hb dX1_init_57 rfl ?_
  have hFc := va_free (wc := [(q_34, .inr (4, [.long 0, .long 0, .long 0, .int 0, .int 0]))]) hD hS hA [2] rfl
  refine va_callv (va_runIN (As := []) (rest := [.ref q_34, .int 11, .ref q_9]) ⟨hx, hb, hml, hown, hts⟩ (c_St_init l dC dI H.size t q_34) ⟨va_cnB 0 hts (zg_c kw_151) rfl rfl rfl (zT_nX1_31 hQ.1) (hts _ kw_69) (by decide +kernel) ⟨Nat.le_of_ble_eq_true rfl, Nat.le_of_ble_eq_true rfl⟩, rfl, (hts _ kw_150)⟩ ⟨zA_blind, zA_pre hP hD hS hK hQ hA [2] rfl rfl (by decide) [] rfl⟩ rfl rfl hl.1 rfl (lv_room (Nat.le_of_ble_eq_true rfl)) dX1_init_58 ⟨zl_b rfl, zl_b rfl⟩) hS (fun q _ h => hFc q h) hFc (fun u t9 H1 locs ht hvm hw hB hz1 hk1 hS => ?_)
  obtain ⟨hP1, hK1, hD1⟩ := hB
  rw [ht] at hP1
  have hK1 := va_K.moved hvm.symm hK1
  obtain ⟨hP, hD⟩ := va_join (wr := [(h0, .inr (3, [.ref q_1, .ref q_3, .ref q_5, .ref q_7, .ref q_9, .long 0, .int 0, .int 0, .int 0, .int 0, .long 0, .long 0, .long 0, .int 0, .int 0, .int 0, .int 0])), (q_9, .inl (k_10, 12, .inr (.inr (.inr (.inr (va_up (va_up (va_up (va_up (va_up (va_up (va_up (va_up (va_up (va_up (va_up (fun _ => none) (0 : Int32).toNatClampNeg (some q_12)) (1 : Int32).toNatClampNeg (some q_14)) (2 : Int32).toNatClampNeg (some q_16)) (3 : Int32).toNatClampNeg (some q_18)) (4 : Int32).toNatClampNeg (some q_20)) (5 : Int32).toNatClampNeg (some q_22)) (6 : Int32).toNatClampNeg (some q_24)) (7 : Int32).toNatClampNeg (some q_26)) (8 : Int32).toNatClampNeg (some q_28)) (9 : Int32).toNatClampNeg (some q_30)) (10 : Int32).toNatClampNeg (some q_32)))))))]) (w1 := [(q_34, .inr (4, [.long 0, .long 0, .long 0, .int 0, .int 0]))]) hP hD [2] [0, 1] rfl rfl (by decide) (by decide) hk1 hFc hP1 hD1
  have hK := (hK.sub (tys' := [(k_2, .long), (k_4, .long), (k_6, .int), (k_8, .int), (k_10, .object "StatementCycle$Statement")]) [0, 1, 2, 3, 4] rfl).app hK1
  generalize H1 = H at hP hS ⊢
  have hP : va_P (dC, dI) zc [(h0, .inr (3, [.ref q_1, .ref q_3, .ref q_5, .ref q_7, .ref q_9, .long 0, .int 0, .int 0, .int 0, .int 0, .long 0, .long 0, .long 0, .int 0, .int 0, .int 0, .int 0])), (q_9, .inl (k_10, 12, .inr (.inr (.inr (.inr (va_up (va_up (va_up (va_up (va_up (va_up (va_up (va_up (va_up (va_up (va_up (fun _ => none) (0 : Int32).toNatClampNeg (some q_12)) (1 : Int32).toNatClampNeg (some q_14)) (2 : Int32).toNatClampNeg (some q_16)) (3 : Int32).toNatClampNeg (some q_18)) (4 : Int32).toNatClampNeg (some q_20)) (5 : Int32).toNatClampNeg (some q_22)) (6 : Int32).toNatClampNeg (some q_24)) (7 : Int32).toNatClampNeg (some q_26)) (8 : Int32).toNatClampNeg (some q_28)) (9 : Int32).toNatClampNeg (some q_30)) (10 : Int32).toNatClampNeg (some q_32))))))), (q_34, .inr (4, [.long 0, .long 0, .long 0, .int 0, .int 0]))] H := hP
  have hD : va_D A [(h0, .inr (3, [.ref q_1, .ref q_3, .ref q_5, .ref q_7, .ref q_9, .long 0, .int 0, .int 0, .int 0, .int 0, .long 0, .long 0, .long 0, .int 0, .int 0, .int 0, .int 0])), (q_9, .inl (k_10, 12, .inr (.inr (.inr (.inr (va_up (va_up (va_up (va_up (va_up (va_up (va_up (va_up (va_up (va_up (va_up (fun _ => none) (0 : Int32).toNatClampNeg (some q_12)) (1 : Int32).toNatClampNeg (some q_14)) (2 : Int32).toNatClampNeg (some q_16)) (3 : Int32).toNatClampNeg (some q_18)) (4 : Int32).toNatClampNeg (some q_20)) (5 : Int32).toNatClampNeg (some q_22)) (6 : Int32).toNatClampNeg (some q_24)) (7 : Int32).toNatClampNeg (some q_26)) (8 : Int32).toNatClampNeg (some q_28)) (9 : Int32).toNatClampNeg (some q_30)) (10 : Int32).toNatClampNeg (some q_32))))))), (q_34, .inr (4, [.long 0, .long 0, .long 0, .int 0, .int 0]))] := hD
  have hK : va_K (dC, dI) zc [(k_2, .long), (k_4, .long), (k_6, .int), (k_8, .int), (k_10, .object "StatementCycle$Statement")] s := hK
  refine va_astq hx hb hK hP hD hS 1 4 2 4 rfl rfl rfl rfl (by unfold vp_in; decide) dX1_init_61 (fun H locs hP hD hS => ?_)
  have hP : va_P (dC, dI) zc [(h0, .inr (3, [.ref q_1, .ref q_3, .ref q_5, .ref q_7, .ref q_9, .long 0, .int 0, .int 0, .int 0, .int 0, .long 0, .long 0, .long 0, .int 0, .int 0, .int 0, .int 0])), (q_9, .inl (k_10, 12, .inr (.inr (.inr (.inr (va_up (va_up (va_up (va_up (va_up (va_up (va_up (va_up (va_up (va_up (va_up (va_up (fun _ => none) (0 : Int32).toNatClampNeg (some q_12)) (1 : Int32).toNatClampNeg (some q_14)) (2 : Int32).toNatClampNeg (some q_16)) (3 : Int32).toNatClampNeg (some q_18)) (4 : Int32).toNatClampNeg (some q_20)) (5 : Int32).toNatClampNeg (some q_22)) (6 : Int32).toNatClampNeg (some q_24)) (7 : Int32).toNatClampNeg (some q_26)) (8 : Int32).toNatClampNeg (some q_28)) (9 : Int32).toNatClampNeg (some q_30)) (10 : Int32).toNatClampNeg (some q_32)) (11 : Int32).toNatClampNeg (some q_34))))))), (q_34, .inr (4, [.long 0, .long 0, .long 0, .int 0, .int 0]))] H := hP
  have hD : va_D A [(h0, .inr (3, [.ref q_1, .ref q_3, .ref q_5, .ref q_7, .ref q_9, .long 0, .int 0, .int 0, .int 0, .int 0, .long 0, .long 0, .long 0, .int 0, .int 0, .int 0, .int 0])), (q_9, .inl (k_10, 12, .inr (.inr (.inr (.inr (va_up (va_up (va_up (va_up (va_up (va_up (va_up (va_up (va_up (va_up (va_up (va_up (fun _ => none) (0 : Int32).toNatClampNeg (some q_12)) (1 : Int32).toNatClampNeg (some q_14)) (2 : Int32).toNatClampNeg (some q_16)) (3 : Int32).toNatClampNeg (some q_18)) (4 : Int32).toNatClampNeg (some q_20)) (5 : Int32).toNatClampNeg (some q_22)) (6 : Int32).toNatClampNeg (some q_24)) (7 : Int32).toNatClampNeg (some q_26)) (8 : Int32).toNatClampNeg (some q_28)) (9 : Int32).toNatClampNeg (some q_30)) (10 : Int32).toNatClampNeg (some q_32)) (11 : Int32).toNatClampNeg (some q_34))))))), (q_34, .inr (4, [.long 0, .long 0, .long 0, .int 0, .int 0]))] := hD
  have hP : va_P (dC, dI) zc [(h0, .inr (3, [.ref q_1, .ref q_3, .ref q_5, .ref q_7, .ref q_9, .long 0, .int 0, .int 0, .int 0, .int 0, .long 0, .long 0, .long 0, .int 0, .int 0, .int 0, .int 0])), (q_9, .inl (k_10, 12, .inr (.inr (.inr (.inr (va_up (va_up (va_up (va_up (va_up (va_up (va_up (va_up (va_up (va_up (va_up (va_up (fun _ => none) (0 : Int32).toNatClampNeg (some q_12)) (1 : Int32).toNatClampNeg (some q_14)) (2 : Int32).toNatClampNeg (some q_16)) (3 : Int32).toNatClampNeg (some q_18)) (4 : Int32).toNatClampNeg (some q_20)) (5 : Int32).toNatClampNeg (some q_22)) (6 : Int32).toNatClampNeg (some q_24)) (7 : Int32).toNatClampNeg (some q_26)) (8 : Int32).toNatClampNeg (some q_28)) (9 : Int32).toNatClampNeg (some q_30)) (10 : Int32).toNatClampNeg (some q_32)) (11 : Int32).toNatClampNeg (some q_34)))))))] H := hP.sub [0, 1] rfl
  have hD : va_D A [(h0, .inr (3, [.ref q_1, .ref q_3, .ref q_5, .ref q_7, .ref q_9, .long 0, .int 0, .int 0, .int 0, .int 0, .long 0, .long 0, .long 0, .int 0, .int 0, .int 0, .int 0])), (q_9, .inl (k_10, 12, .inr (.inr (.inr (.inr (va_up (va_up (va_up (va_up (va_up (va_up (va_up (va_up (va_up (va_up (va_up (va_up (fun _ => none) (0 : Int32).toNatClampNeg (some q_12)) (1 : Int32).toNatClampNeg (some q_14)) (2 : Int32).toNatClampNeg (some q_16)) (3 : Int32).toNatClampNeg (some q_18)) (4 : Int32).toNatClampNeg (some q_20)) (5 : Int32).toNatClampNeg (some q_22)) (6 : Int32).toNatClampNeg (some q_24)) (7 : Int32).toNatClampNeg (some q_26)) (8 : Int32).toNatClampNeg (some q_28)) (9 : Int32).toNatClampNeg (some q_30)) (10 : Int32).toNatClampNeg (some q_32)) (11 : Int32).toNatClampNeg (some q_34)))))))] := hD.sub [0, 1] (by decide) rfl
  refine lv_iinc (v := 12) (lv' := [(1, .int 12), (0, .ref h0)]) hx hb dX1_init_62 hl (k := 0) rfl (by decide) (by decide) rfl (fun ls hl => ?_)
  refine lv_goto (tgt := 43) hx hb dX1_init_65 (by decide) ?_
  refine lv_iload_n hx hb dX1_init_43 rfl (lv_at hl 0 rfl) ?_
  refine lv_bipush (v := 12) hx hb dX1_init_44 (by decide) ?_
  refine lv_icmp_ge (tgt := 68) hx hb dX1_init_46 (by decide) (fun c_35 => ?_) (fun c_35 => absurd c_35 (by decide))
  have hP9 := hP.sub (ws' := []) [] rfl
  have hD9 := hD.sub (ws' := []) [] (by decide) rfl
  have hK9 := hK.sub (tys' := []) [] rfl
  exact W.vret hx hb hr (fun t ht hW => ⟨⟨(), rfl, trivial, by rw [ht]; exact hP9, va_K.moved hW.alike hK9, hD9⟩, hS.F ht⟩) hS.2.2 dX1_init_68
set_option maxHeartbeats 4000000 in
set_option maxRecDepth 100000 in
/-- StatementCycle() -/
theorem c_SC_init (l : Launch) (dC : Nat → ClassId) (dI : Nat → Nat → Nat) (sz t : Nat) (h0 : Nat) : Met l yX4_init ws_X4_init ({ frames := 4, cells := 20, slots := 108, locals := 72 }) (zA dC dI [(h0, .inr (5, [.null, .null, .null, .int 0]))] [] sz t [.ref h0]) (va_Qv (fun _ : Unit => True) (fun _ t9 => ∃ (q1 q2 q3 : Nat) (k1 : ClassId), zB dC dI (va_A [(h0, .inr (5, [.null, .null, .null, .int 0]))] sz) [(h0, .inr (5, [.ref q1, .ref q2, .ref q3, .int 0])), (q1, .inr (0, [.int 0, .ref t, .int 0])), (q2, .inl (k1, 4, .inl (zW)))] [(k1, .int)] t9) (va_A [(h0, .inr (5, [.null, .null, .null, .int 0]))] sz)) 20 108 (va_A [(h0, .inr (5, [.null, .null, .null, .int 0]))] sz) := by
  refine Met.ofW (cc := cX4_init) (maxL := 1) (ret := none) (by decide) rfl ?_
  intro p e s m args below meth c s₁ B hml hv
  obtain ⟨rfl, hsz, hP, hK, hD0, hQ⟩ := hv
  have hx := B.exec
  have hb := B.bytes
  have hr := B.returns
  have hts : ∀ w ∈ zG, w.before _ s = true := fun w h => atoms_spec (ws := ws_X4_init) B.pre w (List.mem_cons_of_mem _ h)
  have hown : s.vm.findClass RX4 = some m.cls := findClass_of_methodNamed B.named
  have hlocks := B.notSynchronized
  have hin : meth.name = "<init>" := (name_of_methodNamed B.named B.method).1
  subst hsz
  have hD := hD0.self (sz := s.heap.size)
  generalize hAe : va_A [(h0, .inr (5, [.null, .null, .null, .int 0]))] s.heap.size = A at hD hQ ⊢
  have hA : ∀ q : Nat, s.heap.size ≤ q → A q := fun q h => by rw [← hAe]; exact Or.inr h
  have hS : va_S A s.heap s.heap [] := va_S.rf
  have hP : va_P (dC, dI) zc [(h0, .inr (5, [.null, .null, .null, .int 0]))] s.heap := hP
  have hl := lv_entry ([.ref h0]) (n := 1) (Nat.le_of_ble_eq_true rfl)
  rw [lg_entry_eq]
  generalize (lg_sl ([.ref h0]) ++ List.replicate (1 - (lg_sl ([.ref h0])).length) Slot.unset).toArray = ls at hl ⊢
  have hl : lv_has ls 1 [(0, .ref h0)] := hl
  refine lv_aload_n hx hb dX4_init_0 rfl (lv_at hl 0 rfl) ?_
  refine W.objInit hx hb hown (hts _ kw_108) (hts _ kw_109) (hts _ kw_110) rfl (by rw [hml]; exact hl.1) rfl dX4_init_1 (Nat.le_of_ble_eq_true rfl) (Nat.le_of_ble_eq_true rfl) ?_
  refine W.eq (g2 := F0 m 4 ls []) rfl ?_
  refine lv_aload_n hx hb dX4_init_4 rfl (lv_at hl 0 rfl) ?_
  refine va_new (ci := 0) (fs := [.int 0, .null, .int 0]) (C := RJx4a65c) (T := TJx4a65c) (N := 3) hx hb hts iJx4a65c tyJx4a65c tyJx4a65c_ok hown (hts _ kw_111) (hts _ kw_112) (hts _ kw_67) hK hP hD hS hA rfl z_dfJx4a65c (zl_b rfl) (zl_b rfl) dX4_init_5 (fun q_1 H hP hD hS => ?_)
  have hP : va_P (dC, dI) zc [(h0, .inr (5, [.null, .null, .null, .int 0])), (q_1, .inr (0, [.int 0, .null, .int 0]))] H := hP
  have hD : va_D A [(h0, .inr (5, [.null, .null, .null, .int 0])), (q_1, .inr (0, [.int 0, .null, .int 0]))] := hD
  refine W.widen (k := 1) (n := 3) (zl_b rfl) (zl_b rfl) ?_
  refine lv_dup hx hb dX4_init_8 rfl ?_
  have hFc := va_free (wc := [(q_1, .inr (0, [.int 0, .null, .int 0]))]) hD hS hA [1] rfl
  refine va_callv (va_runI (As := []) (rest := [.ref q_1, .ref h0]) ⟨hx, hb, hml, hown, hts⟩ (c_AL_init l dC dI H.size t q_1) (cwI 0 hts (zg_c kw_115) rfl rfl rfl (hts _ kw_67) (hts _ kw_113) (hts _ kw_114) rfl (by decide +kernel) ⟨Nat.le_of_ble_eq_true rfl, Nat.le_of_ble_eq_true rfl⟩) ⟨zA_blind, zA_pre hP hD hS hK hQ hA [1] rfl rfl (by decide) [] rfl⟩ rfl rfl hl.1 rfl (lv_room (Nat.le_of_ble_eq_true rfl)) dX4_init_9 ⟨zl_b rfl, zl_b rfl⟩) hS (fun q _ h => hFc q h) hFc (fun u t9 H1 locs ht hvm hw hB hz1 hk1 hS => ?_)
  obtain ⟨hP1, hK1, hD1⟩ := hB
  rw [ht] at hP1
  have hK1 := va_K.moved hvm.symm hK1
  obtain ⟨hP, hD⟩ := va_join (wr := [(h0, .inr (5, [.null, .null, .null, .int 0]))]) (w1 := [(q_1, .inr (0, [.int 0, .ref t, .int 0]))]) hP hD [1] [0] rfl rfl (by decide) (by decide) hk1 hFc hP1 hD1
  have hK := (hK.sub (tys' := []) [] rfl).app hK1
  generalize H1 = H at hP hS ⊢
  have hP : va_P (dC, dI) zc [(h0, .inr (5, [.null, .null, .null, .int 0])), (q_1, .inr (0, [.int 0, .ref t, .int 0]))] H := hP
  have hD : va_D A [(h0, .inr (5, [.null, .null, .null, .int 0])), (q_1, .inr (0, [.int 0, .ref t, .int 0]))] := hD
  have hK : va_K (dC, dI) zc [] s := hK
  refine va_putF (D := (dC, dI)) (ci := 5) (v := .ref q_1) (ty := .object "java/util/ArrayList") (C := RX4) (T := TX4) (N := 4) hx hb hts iX4 tyX4 tyX4_ok nmX4 hown hK hP hD hS 0 rfl rfl 0 (by decide) (hts _ kw_240) (fun _ h9 => h9) rfl hin rfl (by decide +kernel) rfl rfl (Nat.le_of_ble_eq_true rfl) dX4_init_12 (fun H locs hP hD hS => ?_)
  have hP : va_P (dC, dI) zc [(h0, .inr (5, [.ref q_1, .null, .null, .int 0])), (q_1, .inr (0, [.int 0, .ref t, .int 0]))] H := hP
  have hD : va_D A [(h0, .inr (5, [.ref q_1, .null, .null, .int 0])), (q_1, .inr (0, [.int 0, .ref t, .int 0]))] := hD
  refine lv_aload_n hx hb dX4_init_15 rfl (lv_at hl 0 rfl) ?_
  refine lv_iconst (v := 4) hx hb dX4_init_16 (by decide) ?_
  refine va_newa (atype := .int) (ty := .int) (a0 := (4, .inl (fun _ => 0))) hx hb (hts _ kw_179) rfl hK hP hD hS hA (fun _ => rfl) (by decide) rfl (by decide) (zl_b rfl) (zl_b rfl) dX4_init_17 (fun q_2 k_3 H hK hP hD hS => ?_)
  have hP : va_P (dC, dI) zc [(h0, .inr (5, [.ref q_1, .null, .null, .int 0])), (q_1, .inr (0, [.int 0, .ref t, .int 0])), (q_2, .inl (k_3, 4, .inl (fun _ => 0)))] H := hP
  have hD : va_D A [(h0, .inr (5, [.ref q_1, .null, .null, .int 0])), (q_1, .inr (0, [.int 0, .ref t, .int 0])), (q_2, .inl (k_3, 4, .inl (fun _ => 0)))] := hD
  have hK : va_K (dC, dI) zc [(k_3, .int)] s := hK
  refine W.widen (k := 2) (n := 7) (zl_b rfl) (zl_b rfl) ?_
  refine lv_dup hx hb dX4_init_19 rfl ?_
  refine lv_iconst (v := 0) hx hb dX4_init_20 (by decide) ?_
  refine lv_sipush (v := 1000) hx hb dX4_init_21 (by decide) ?_
  refine va_iast hx hb hK hP hD hS 2 0 rfl rfl (by unfold vp_in; decide) dX4_init_24 (fun H locs hP hD hS => ?_)
  have hP : va_P (dC, dI) zc [(h0, .inr (5, [.ref q_1, .null, .null, .int 0])), (q_1, .inr (0, [.int 0, .ref t, .int 0])), (q_2, .inl (k_3, 4, .inl (upd (fun _ => 0) (0 : Int32).toNatClampNeg 1000)))] H := hP
  have hD : va_D A [(h0, .inr (5, [.ref q_1, .null, .null, .int 0])), (q_1, .inr (0, [.int 0, .ref t, .int 0])), (q_2, .inl (k_3, 4, .inl (upd (fun _ => 0) (0 : Int32).toNatClampNeg 1000)))] := hD
  refine lv_dup hx hb dX4_init_25 rfl ?_
  refine lv_iconst (v := 1) hx hb dX4_init_26 (by decide) ?_
  refine lv_sipush (v := 1000) hx hb dX4_init_27 (by decide) ?_
  refine va_iast hx hb hK hP hD hS 2 0 rfl rfl (by unfold vp_in; decide) dX4_init_30 (fun H locs hP hD hS => ?_)
  have hP : va_P (dC, dI) zc [(h0, .inr (5, [.ref q_1, .null, .null, .int 0])), (q_1, .inr (0, [.int 0, .ref t, .int 0])), (q_2, .inl (k_3, 4, .inl (upd (upd (fun _ => 0) (0 : Int32).toNatClampNeg 1000) (1 : Int32).toNatClampNeg 1000)))] H := hP
  have hD : va_D A [(h0, .inr (5, [.ref q_1, .null, .null, .int 0])), (q_1, .inr (0, [.int 0, .ref t, .int 0])), (q_2, .inl (k_3, 4, .inl (upd (upd (fun _ => 0) (0 : Int32).toNatClampNeg 1000) (1 : Int32).toNatClampNeg 1000)))] := hD
  refine lv_dup hx hb dX4_init_31 rfl ?_
  refine lv_iconst (v := 2) hx hb dX4_init_32 (by decide) ?_
  refine lv_sipush (v := 1000) hx hb dX4_init_33 (by decide) ?_
  refine va_iast hx hb hK hP hD hS 2 0 rfl rfl (by unfold vp_in; decide) dX4_init_36 (fun H locs hP hD hS => ?_)
  have hP : va_P (dC, dI) zc [(h0, .inr (5, [.ref q_1, .null, .null, .int 0])), (q_1, .inr (0, [.int 0, .ref t, .int 0])), (q_2, .inl (k_3, 4, .inl (upd (upd (upd (fun _ => 0) (0 : Int32).toNatClampNeg 1000) (1 : Int32).toNatClampNeg 1000) (2 : Int32).toNatClampNeg 1000)))] H := hP
  have hD : va_D A [(h0, .inr (5, [.ref q_1, .null, .null, .int 0])), (q_1, .inr (0, [.int 0, .ref t, .int 0])), (q_2, .inl (k_3, 4, .inl (upd (upd (upd (fun _ => 0) (0 : Int32).toNatClampNeg 1000) (1 : Int32).toNatClampNeg 1000) (2 : Int32).toNatClampNeg 1000)))] := hD
  refine lv_dup hx hb dX4_init_37 rfl ?_
  refine lv_iconst (v := 3) hx hb dX4_init_38 (by decide) ?_
  refine lv_sipush (v := 1000) hx hb dX4_init_39 (by decide) ?_
  refine va_iast hx hb hK hP hD hS 2 0 rfl rfl (by unfold vp_in; decide) dX4_init_42 (fun H locs hP hD hS => ?_)
  have hP : va_P (dC, dI) zc [(h0, .inr (5, [.ref q_1, .null, .null, .int 0])), (q_1, .inr (0, [.int 0, .ref t, .int 0])), (q_2, .inl (k_3, 4, .inl (upd (upd (upd (upd (fun _ => 0) (0 : Int32).toNatClampNeg 1000) (1 : Int32).toNatClampNeg 1000) (2 : Int32).toNatClampNeg 1000) (3 : Int32).toNatClampNeg 1000)))] H := hP
  have hD : va_D A [(h0, .inr (5, [.ref q_1, .null, .null, .int 0])), (q_1, .inr (0, [.int 0, .ref t, .int 0])), (q_2, .inl (k_3, 4, .inl (upd (upd (upd (upd (fun _ => 0) (0 : Int32).toNatClampNeg 1000) (1 : Int32).toNatClampNeg 1000) (2 : Int32).toNatClampNeg 1000) (3 : Int32).toNatClampNeg 1000)))] := hD
  refine va_putF (D := (dC, dI)) (ci := 5) (v := .ref q_2) (ty := .array (.int)) (C := RX4) (T := TX4) (N := 4) hx hb hts iX4 tyX4 tyX4_ok nmX4 hown hK hP hD hS 0 rfl rfl 1 (by decide) (hts _ kw_241) (fun _ h9 => h9) rfl hin rfl (by decide +kernel) rfl rfl (Nat.le_of_ble_eq_true rfl) dX4_init_43 (fun H locs hP hD hS => ?_)
  have hP : va_P (dC, dI) zc [(h0, .inr (5, [.ref q_1, .ref q_2, .null, .int 0])), (q_1, .inr (0, [.int 0, .ref t, .int 0])), (q_2, .inl (k_3, 4, .inl (upd (upd (upd (upd (fun _ => 0) (0 : Int32).toNatClampNeg 1000) (1 : Int32).toNatClampNeg 1000) (2 : Int32).toNatClampNeg 1000) (3 : Int32).toNatClampNeg 1000)))] H := hP
  have hD : va_D A [(h0, .inr (5, [.ref q_1, .ref q_2, .null, .int 0])), (q_1, .inr (0, [.int 0, .ref t, .int 0])), (q_2, .inl (k_3, 4, .inl (upd (upd (upd (upd (fun _ => 0) (0 : Int32).toNatClampNeg 1000) (1 : Int32).toNatClampNeg 1000) (2 : Int32).toNatClampNeg 1000) (3 : Int32).toNatClampNeg 1000)))] := hD
  refine lv_aload_n hx hb dX4_init_46 rfl (lv_at hl 0 rfl) ?_
  refine va_new (ci := 3) (fs := [.null, .null, .null, .null, .null, .long 0, .int 0, .int 0, .int 0, .int 0, .long 0, .long 0, .long 0, .int 0, .int 0, .int 0, .int 0]) (C := RX1) (T := TX1) (N := 17) hx hb hts iX1 tyX1 tyX1_ok hown (hts _ kw_140) (hts _ kw_141) (hts _ kw_68) hK hP hD hS hA rfl z_dfX1 (zl_b rfl) (zl_b rfl) dX4_init_47 (fun q_4 H hP hD hS => ?_)
  have hP : va_P (dC, dI) zc [(h0, .inr (5, [.ref q_1, .ref q_2, .null, .int 0])), (q_1, .inr (0, [.int 0, .ref t, .int 0])), (q_2, .inl (k_3, 4, .inl (upd (upd (upd (upd (fun _ => 0) (0 : Int32).toNatClampNeg 1000) (1 : Int32).toNatClampNeg 1000) (2 : Int32).toNatClampNeg 1000) (3 : Int32).toNatClampNeg 1000))), (q_4, .inr (3, [.null, .null, .null, .null, .null, .long 0, .int 0, .int 0, .int 0, .int 0, .long 0, .long 0, .long 0, .int 0, .int 0, .int 0, .int 0]))] H := hP
  have hD : va_D A [(h0, .inr (5, [.ref q_1, .ref q_2, .null, .int 0])), (q_1, .inr (0, [.int 0, .ref t, .int 0])), (q_2, .inl (k_3, 4, .inl (upd (upd (upd (upd (fun _ => 0) (0 : Int32).toNatClampNeg 1000) (1 : Int32).toNatClampNeg 1000) (2 : Int32).toNatClampNeg 1000) (3 : Int32).toNatClampNeg 1000))), (q_4, .inr (3, [.null, .null, .null, .null, .null, .long 0, .int 0, .int 0, .int 0, .int 0, .long 0, .long 0, .long 0, .int 0, .int 0, .int 0, .int 0]))] := hD
  refine W.widen (k := 3) (n := 24) (zl_b rfl) (zl_b rfl) ?_
  refine lv_dup hx hb dX4_init_50 rfl ?_
  have hFc := va_free (wc := [(q_4, .inr (3, [.null, .null, .null, .null, .null, .long 0, .int 0, .int 0, .int 0, .int 0, .long 0, .long 0, .long 0, .int 0, .int 0, .int 0, .int 0]))]) hD hS hA [3] rfl
  refine va_callv (va_runIN (As := []) (rest := [.ref q_4, .ref h0]) ⟨hx, hb, hml, hown, hts⟩ (c_Bk_init l dC dI H.size t q_4) ⟨va_cnB 0 hts (zg_c kw_144) rfl rfl rfl (zT_nX4_22 hQ.1) (hts _ kw_68) (by decide +kernel) ⟨Nat.le_of_ble_eq_true rfl, Nat.le_of_ble_eq_true rfl⟩, rfl, (hts _ kw_143)⟩ ⟨zA_blind, zA_pre hP hD hS hK hQ hA [3] rfl rfl (by decide) [] rfl⟩ rfl rfl hl.1 rfl (lv_room (Nat.le_of_ble_eq_true rfl)) dX4_init_51 ⟨zl_b rfl, zl_b rfl⟩) hS (fun q _ h => hFc q h) hFc (fun u t9 H1 locs ht hvm hw hB hz1 hk1 hS => ?_)
  obtain ⟨hP1, hK1, hD1⟩ := hB
  rw [ht] at hP1
  have hK1 := va_K.moved hvm.symm hK1
  obtain ⟨hP, hD⟩ := va_join (wr := [(h0, .inr (5, [.ref q_1, .ref q_2, .null, .int 0])), (q_1, .inr (0, [.int 0, .ref t, .int 0])), (q_2, .inl (k_3, 4, .inl (upd (upd (upd (upd (fun _ => 0) (0 : Int32).toNatClampNeg 1000) (1 : Int32).toNatClampNeg 1000) (2 : Int32).toNatClampNeg 1000) (3 : Int32).toNatClampNeg 1000)))]) (w1 := []) hP hD [3] [0, 1, 2] rfl rfl (by decide) (by decide) hk1 hFc hP1 hD1
  have hK := (hK.sub (tys' := [(k_3, .int)]) [0] rfl).app hK1
  generalize H1 = H at hP hS ⊢
  have hP : va_P (dC, dI) zc [(h0, .inr (5, [.ref q_1, .ref q_2, .null, .int 0])), (q_1, .inr (0, [.int 0, .ref t, .int 0])), (q_2, .inl (k_3, 4, .inl (upd (upd (upd (upd (fun _ => 0) (0 : Int32).toNatClampNeg 1000) (1 : Int32).toNatClampNeg 1000) (2 : Int32).toNatClampNeg 1000) (3 : Int32).toNatClampNeg 1000)))] H := hP
  have hD : va_D A [(h0, .inr (5, [.ref q_1, .ref q_2, .null, .int 0])), (q_1, .inr (0, [.int 0, .ref t, .int 0])), (q_2, .inl (k_3, 4, .inl (upd (upd (upd (upd (fun _ => 0) (0 : Int32).toNatClampNeg 1000) (1 : Int32).toNatClampNeg 1000) (2 : Int32).toNatClampNeg 1000) (3 : Int32).toNatClampNeg 1000)))] := hD
  have hK : va_K (dC, dI) zc [(k_3, .int)] s := hK
  refine W.widen (k := 20) (n := 108) (zl_b rfl) (zl_b rfl) ?_
  refine va_putF (D := (dC, dI)) (ci := 5) (v := .ref q_4) (ty := .object "StatementCycle$Books") (C := RX4) (T := TX4) (N := 4) hx hb hts iX4 tyX4 tyX4_ok nmX4 hown hK hP hD hS 0 rfl rfl 2 (by decide) (hts _ kw_242) (fun _ h9 => h9) rfl hin rfl (by decide +kernel) rfl rfl (Nat.le_of_ble_eq_true rfl) dX4_init_54 (fun H locs hP hD hS => ?_)
  have hP : va_P (dC, dI) zc [(h0, .inr (5, [.ref q_1, .ref q_2, .ref q_4, .int 0])), (q_1, .inr (0, [.int 0, .ref t, .int 0])), (q_2, .inl (k_3, 4, .inl (upd (upd (upd (upd (fun _ => 0) (0 : Int32).toNatClampNeg 1000) (1 : Int32).toNatClampNeg 1000) (2 : Int32).toNatClampNeg 1000) (3 : Int32).toNatClampNeg 1000)))] H := hP
  have hD : va_D A [(h0, .inr (5, [.ref q_1, .ref q_2, .ref q_4, .int 0])), (q_1, .inr (0, [.int 0, .ref t, .int 0])), (q_2, .inl (k_3, 4, .inl (upd (upd (upd (upd (fun _ => 0) (0 : Int32).toNatClampNeg 1000) (1 : Int32).toNatClampNeg 1000) (2 : Int32).toNatClampNeg 1000) (3 : Int32).toNatClampNeg 1000)))] := hD
  have hP : va_P (dC, dI) zc [(h0, .inr (5, [.ref q_1, .ref q_2, .ref q_4, .int 0])), (q_1, .inr (0, [.int 0, .ref t, .int 0])), (q_2, .inl (k_3, 4, .inl (zW)))] H := hP
  have hD : va_D A [(h0, .inr (5, [.ref q_1, .ref q_2, .ref q_4, .int 0])), (q_1, .inr (0, [.int 0, .ref t, .int 0])), (q_2, .inl (k_3, 4, .inl (zW)))] := hD
  have hP9 := hP.sub (ws' := [(h0, .inr (5, [.ref q_1, .ref q_2, .ref q_4, .int 0])), (q_1, .inr (0, [.int 0, .ref t, .int 0])), (q_2, .inl (k_3, 4, .inl (zW)))]) [0, 1, 2] rfl
  have hD9 := hD.sub (ws' := [(h0, .inr (5, [.ref q_1, .ref q_2, .ref q_4, .int 0])), (q_1, .inr (0, [.int 0, .ref t, .int 0])), (q_2, .inl (k_3, 4, .inl (zW)))]) [0, 1, 2] (by decide) rfl
  have hK9 := hK.sub (tys' := [(k_3, .int)]) [0] rfl
  exact W.vret hx hb hr (fun t ht hW => ⟨⟨(), rfl, trivial, q_1, q_2, q_4, k_3, by rw [ht]; exact hP9, va_K.moved hW.alike hK9, hD9⟩, hS.F ht⟩) hS.2.2 dX4_init_57
set_option maxHeartbeats 4000000 in
set_option maxRecDepth 100000 in
/-- StatementCycleModel() -/
theorem c_Md_init (l : Launch) (dC : Nat → ClassId) (dI : Nat → Nat → Nat) (sz t : Nat) (h0 : Nat) : Met l yX8_init ws_X8_init ({ frames := 4, cells := 2, slots := 7, locals := 72 }) (zA dC dI [(h0, .inr (7, [.null, .null, .int 0, .int 0]))] [] sz t [.ref h0]) (va_Qv (fun _ : Unit => True) (fun _ t9 => ∃ (q1 q2 : Nat) (k1 : ClassId), zB dC dI (va_A [(h0, .inr (7, [.null, .null, .int 0, .int 0]))] sz) [(h0, .inr (7, [.ref q1, .ref q2, .int 0, .int 0])), (q1, .inr (0, [.int 0, .ref t, .int 0])), (q2, .inl (k1, 4, .inl (zW)))] [(k1, .int)] t9) (va_A [(h0, .inr (7, [.null, .null, .int 0, .int 0]))] sz)) 2 7 (va_A [(h0, .inr (7, [.null, .null, .int 0, .int 0]))] sz) := by
  refine Met.ofW (cc := cX8_init) (maxL := 1) (ret := none) (by decide) rfl ?_
  intro p e s m args below meth c s₁ B hml hv
  obtain ⟨rfl, hsz, hP, hK, hD0, hQ⟩ := hv
  have hx := B.exec
  have hb := B.bytes
  have hr := B.returns
  have hts : ∀ w ∈ zG, w.before _ s = true := fun w h => atoms_spec (ws := ws_X8_init) B.pre w (List.mem_cons_of_mem _ h)
  have hown : s.vm.findClass RX8 = some m.cls := findClass_of_methodNamed B.named
  have hlocks := B.notSynchronized
  have hin : meth.name = "<init>" := (name_of_methodNamed B.named B.method).1
  subst hsz
  have hD := hD0.self (sz := s.heap.size)
  generalize hAe : va_A [(h0, .inr (7, [.null, .null, .int 0, .int 0]))] s.heap.size = A at hD hQ ⊢
  have hA : ∀ q : Nat, s.heap.size ≤ q → A q := fun q h => by rw [← hAe]; exact Or.inr h
  have hS : va_S A s.heap s.heap [] := va_S.rf
  have hP : va_P (dC, dI) zc [(h0, .inr (7, [.null, .null, .int 0, .int 0]))] s.heap := hP
  have hl := lv_entry ([.ref h0]) (n := 1) (Nat.le_of_ble_eq_true rfl)
  rw [lg_entry_eq]
  generalize (lg_sl ([.ref h0]) ++ List.replicate (1 - (lg_sl ([.ref h0])).length) Slot.unset).toArray = ls at hl ⊢
  have hl : lv_has ls 1 [(0, .ref h0)] := hl
  refine lv_aload_n hx hb dX8_init_0 rfl (lv_at hl 0 rfl) ?_
  refine W.objInit hx hb hown (hts _ kw_1349) (hts _ kw_109) (hts _ kw_110) rfl (by rw [hml]; exact hl.1) rfl dX8_init_1 (Nat.le_of_ble_eq_true rfl) (Nat.le_of_ble_eq_true rfl) ?_
  refine W.eq (g2 := F0 m 4 ls []) rfl ?_
  refine lv_aload_n hx hb dX8_init_4 rfl (lv_at hl 0 rfl) ?_
  refine va_new (ci := 0) (fs := [.int 0, .null, .int 0]) (C := RJx4a65c) (T := TJx4a65c) (N := 3) hx hb hts iJx4a65c tyJx4a65c tyJx4a65c_ok hown (hts _ kw_1350) (hts _ kw_112) (hts _ kw_67) hK hP hD hS hA rfl z_dfJx4a65c (zl_b rfl) (zl_b rfl) dX8_init_5 (fun q_1 H hP hD hS => ?_)
  have hP : va_P (dC, dI) zc [(h0, .inr (7, [.null, .null, .int 0, .int 0])), (q_1, .inr (0, [.int 0, .null, .int 0]))] H := hP
  have hD : va_D A [(h0, .inr (7, [.null, .null, .int 0, .int 0])), (q_1, .inr (0, [.int 0, .null, .int 0]))] := hD
  refine W.widen (k := 1) (n := 3) (zl_b rfl) (zl_b rfl) ?_
  refine lv_dup hx hb dX8_init_8 rfl ?_
  have hFc := va_free (wc := [(q_1, .inr (0, [.int 0, .null, .int 0]))]) hD hS hA [1] rfl
  refine va_callv (va_runI (As := []) (rest := [.ref q_1, .ref h0]) ⟨hx, hb, hml, hown, hts⟩ (c_AL_init l dC dI H.size t q_1) (cwI 0 hts (zg_c kw_115) rfl rfl rfl (hts _ kw_67) (hts _ kw_1351) (hts _ kw_114) rfl (by decide +kernel) ⟨Nat.le_of_ble_eq_true rfl, Nat.le_of_ble_eq_true rfl⟩) ⟨zA_blind, zA_pre hP hD hS hK hQ hA [1] rfl rfl (by decide) [] rfl⟩ rfl rfl hl.1 rfl (lv_room (Nat.le_of_ble_eq_true rfl)) dX8_init_9 ⟨zl_b rfl, zl_b rfl⟩) hS (fun q _ h => hFc q h) hFc (fun u t9 H1 locs ht hvm hw hB hz1 hk1 hS => ?_)
  obtain ⟨hP1, hK1, hD1⟩ := hB
  rw [ht] at hP1
  have hK1 := va_K.moved hvm.symm hK1
  obtain ⟨hP, hD⟩ := va_join (wr := [(h0, .inr (7, [.null, .null, .int 0, .int 0]))]) (w1 := [(q_1, .inr (0, [.int 0, .ref t, .int 0]))]) hP hD [1] [0] rfl rfl (by decide) (by decide) hk1 hFc hP1 hD1
  have hK := (hK.sub (tys' := []) [] rfl).app hK1
  generalize H1 = H at hP hS ⊢
  have hP : va_P (dC, dI) zc [(h0, .inr (7, [.null, .null, .int 0, .int 0])), (q_1, .inr (0, [.int 0, .ref t, .int 0]))] H := hP
  have hD : va_D A [(h0, .inr (7, [.null, .null, .int 0, .int 0])), (q_1, .inr (0, [.int 0, .ref t, .int 0]))] := hD
  have hK : va_K (dC, dI) zc [] s := hK
  refine va_putF (D := (dC, dI)) (ci := 7) (v := .ref q_1) (ty := .object "java/util/List") (C := RX8) (T := TX8) (N := 4) hx hb hts iX8 tyX8 tyX8_ok nmX8 hown hK hP hD hS 0 rfl rfl 0 (by decide) (hts _ kw_1352) (fun _ h9 => h9) rfl hin rfl (by decide +kernel) rfl rfl (Nat.le_of_ble_eq_true rfl) dX8_init_12 (fun H locs hP hD hS => ?_)
  have hP : va_P (dC, dI) zc [(h0, .inr (7, [.ref q_1, .null, .int 0, .int 0])), (q_1, .inr (0, [.int 0, .ref t, .int 0]))] H := hP
  have hD : va_D A [(h0, .inr (7, [.ref q_1, .null, .int 0, .int 0])), (q_1, .inr (0, [.int 0, .ref t, .int 0]))] := hD
  refine lv_aload_n hx hb dX8_init_15 rfl (lv_at hl 0 rfl) ?_
  refine lv_iconst (v := 4) hx hb dX8_init_16 (by decide) ?_
  refine va_newa (atype := .int) (ty := .int) (a0 := (4, .inl (fun _ => 0))) hx hb (hts _ kw_179) rfl hK hP hD hS hA (fun _ => rfl) (by decide) rfl (by decide) (zl_b rfl) (zl_b rfl) dX8_init_17 (fun q_2 k_3 H hK hP hD hS => ?_)
  have hP : va_P (dC, dI) zc [(h0, .inr (7, [.ref q_1, .null, .int 0, .int 0])), (q_1, .inr (0, [.int 0, .ref t, .int 0])), (q_2, .inl (k_3, 4, .inl (fun _ => 0)))] H := hP
  have hD : va_D A [(h0, .inr (7, [.ref q_1, .null, .int 0, .int 0])), (q_1, .inr (0, [.int 0, .ref t, .int 0])), (q_2, .inl (k_3, 4, .inl (fun _ => 0)))] := hD
  have hK : va_K (dC, dI) zc [(k_3, .int)] s := hK
  refine W.widen (k := 2) (n := 7) (zl_b rfl) (zl_b rfl) ?_
  refine lv_dup hx hb dX8_init_19 rfl ?_
  refine lv_iconst (v := 0) hx hb dX8_init_20 (by decide) ?_
  refine lv_sipush (v := 1000) hx hb dX8_init_21 (by decide) ?_
  refine va_iast hx hb hK hP hD hS 2 0 rfl rfl (by unfold vp_in; decide) dX8_init_24 (fun H locs hP hD hS => ?_)
  have hP : va_P (dC, dI) zc [(h0, .inr (7, [.ref q_1, .null, .int 0, .int 0])), (q_1, .inr (0, [.int 0, .ref t, .int 0])), (q_2, .inl (k_3, 4, .inl (upd (fun _ => 0) (0 : Int32).toNatClampNeg 1000)))] H := hP
  have hD : va_D A [(h0, .inr (7, [.ref q_1, .null, .int 0, .int 0])), (q_1, .inr (0, [.int 0, .ref t, .int 0])), (q_2, .inl (k_3, 4, .inl (upd (fun _ => 0) (0 : Int32).toNatClampNeg 1000)))] := hD
  refine lv_dup hx hb dX8_init_25 rfl ?_
  refine lv_iconst (v := 1) hx hb dX8_init_26 (by decide) ?_
  refine lv_sipush (v := 1000) hx hb dX8_init_27 (by decide) ?_
  refine va_iast hx hb hK hP hD hS 2 0 rfl rfl (by unfold vp_in; decide) dX8_init_30 (fun H locs hP hD hS => ?_)
  have hP : va_P (dC, dI) zc [(h0, .inr (7, [.ref q_1, .null, .int 0, .int 0])), (q_1, .inr (0, [.int 0, .ref t, .int 0])), (q_2, .inl (k_3, 4, .inl (upd (upd (fun _ => 0) (0 : Int32).toNatClampNeg 1000) (1 : Int32).toNatClampNeg 1000)))] H := hP
  have hD : va_D A [(h0, .inr (7, [.ref q_1, .null, .int 0, .int 0])), (q_1, .inr (0, [.int 0, .ref t, .int 0])), (q_2, .inl (k_3, 4, .inl (upd (upd (fun _ => 0) (0 : Int32).toNatClampNeg 1000) (1 : Int32).toNatClampNeg 1000)))] := hD
  refine lv_dup hx hb dX8_init_31 rfl ?_
  refine lv_iconst (v := 2) hx hb dX8_init_32 (by decide) ?_
  refine lv_sipush (v := 1000) hx hb dX8_init_33 (by decide) ?_
  refine va_iast hx hb hK hP hD hS 2 0 rfl rfl (by unfold vp_in; decide) dX8_init_36 (fun H locs hP hD hS => ?_)
  have hP : va_P (dC, dI) zc [(h0, .inr (7, [.ref q_1, .null, .int 0, .int 0])), (q_1, .inr (0, [.int 0, .ref t, .int 0])), (q_2, .inl (k_3, 4, .inl (upd (upd (upd (fun _ => 0) (0 : Int32).toNatClampNeg 1000) (1 : Int32).toNatClampNeg 1000) (2 : Int32).toNatClampNeg 1000)))] H := hP
  have hD : va_D A [(h0, .inr (7, [.ref q_1, .null, .int 0, .int 0])), (q_1, .inr (0, [.int 0, .ref t, .int 0])), (q_2, .inl (k_3, 4, .inl (upd (upd (upd (fun _ => 0) (0 : Int32).toNatClampNeg 1000) (1 : Int32).toNatClampNeg 1000) (2 : Int32).toNatClampNeg 1000)))] := hD
  refine lv_dup hx hb dX8_init_37 rfl ?_
  refine lv_iconst (v := 3) hx hb dX8_init_38 (by decide) ?_
  refine lv_sipush (v := 1000) hx hb dX8_init_39 (by decide) ?_
  refine va_iast hx hb hK hP hD hS 2 0 rfl rfl (by unfold vp_in; decide) dX8_init_42 (fun H locs hP hD hS => ?_)
  have hP : va_P (dC, dI) zc [(h0, .inr (7, [.ref q_1, .null, .int 0, .int 0])), (q_1, .inr (0, [.int 0, .ref t, .int 0])), (q_2, .inl (k_3, 4, .inl (upd (upd (upd (upd (fun _ => 0) (0 : Int32).toNatClampNeg 1000) (1 : Int32).toNatClampNeg 1000) (2 : Int32).toNatClampNeg 1000) (3 : Int32).toNatClampNeg 1000)))] H := hP
  have hD : va_D A [(h0, .inr (7, [.ref q_1, .null, .int 0, .int 0])), (q_1, .inr (0, [.int 0, .ref t, .int 0])), (q_2, .inl (k_3, 4, .inl (upd (upd (upd (upd (fun _ => 0) (0 : Int32).toNatClampNeg 1000) (1 : Int32).toNatClampNeg 1000) (2 : Int32).toNatClampNeg 1000) (3 : Int32).toNatClampNeg 1000)))] := hD
  refine va_putF (D := (dC, dI)) (ci := 7) (v := .ref q_2) (ty := .array (.int)) (C := RX8) (T := TX8) (N := 4) hx hb hts iX8 tyX8 tyX8_ok nmX8 hown hK hP hD hS 0 rfl rfl 1 (by decide) (hts _ kw_1353) (fun _ h9 => h9) rfl hin rfl (by decide +kernel) rfl rfl (Nat.le_of_ble_eq_true rfl) dX8_init_43 (fun H locs hP hD hS => ?_)
  have hP : va_P (dC, dI) zc [(h0, .inr (7, [.ref q_1, .ref q_2, .int 0, .int 0])), (q_1, .inr (0, [.int 0, .ref t, .int 0])), (q_2, .inl (k_3, 4, .inl (upd (upd (upd (upd (fun _ => 0) (0 : Int32).toNatClampNeg 1000) (1 : Int32).toNatClampNeg 1000) (2 : Int32).toNatClampNeg 1000) (3 : Int32).toNatClampNeg 1000)))] H := hP
  have hD : va_D A [(h0, .inr (7, [.ref q_1, .ref q_2, .int 0, .int 0])), (q_1, .inr (0, [.int 0, .ref t, .int 0])), (q_2, .inl (k_3, 4, .inl (upd (upd (upd (upd (fun _ => 0) (0 : Int32).toNatClampNeg 1000) (1 : Int32).toNatClampNeg 1000) (2 : Int32).toNatClampNeg 1000) (3 : Int32).toNatClampNeg 1000)))] := hD
  have hP : va_P (dC, dI) zc [(h0, .inr (7, [.ref q_1, .ref q_2, .int 0, .int 0])), (q_1, .inr (0, [.int 0, .ref t, .int 0])), (q_2, .inl (k_3, 4, .inl (zW)))] H := hP
  have hD : va_D A [(h0, .inr (7, [.ref q_1, .ref q_2, .int 0, .int 0])), (q_1, .inr (0, [.int 0, .ref t, .int 0])), (q_2, .inl (k_3, 4, .inl (zW)))] := hD
  have hP9 := hP.sub (ws' := [(h0, .inr (7, [.ref q_1, .ref q_2, .int 0, .int 0])), (q_1, .inr (0, [.int 0, .ref t, .int 0])), (q_2, .inl (k_3, 4, .inl (zW)))]) [0, 1, 2] rfl
  have hD9 := hD.sub (ws' := [(h0, .inr (7, [.ref q_1, .ref q_2, .int 0, .int 0])), (q_1, .inr (0, [.int 0, .ref t, .int 0])), (q_2, .inl (k_3, 4, .inl (zW)))]) [0, 1, 2] (by decide) rfl
  have hK9 := hK.sub (tys' := [(k_3, .int)]) [0] rfl
  exact W.vret hx hb hr (fun t ht hW => ⟨⟨(), rfl, trivial, q_1, q_2, k_3, by rw [ht]; exact hP9, va_K.moved hW.alike hK9, hD9⟩, hS.F ht⟩) hS.2.2 dX8_init_46
set_option maxHeartbeats 4000000 in
set_option maxRecDepth 100000 in
/-- isIn: no -/
theorem c_isIn0 (l : Launch) (dC : Nat → ClassId) (dI : Nat → Nat → Nat) (sz t : Nat) (v lo hi : Int32) (hv9 : v < lo ∨ hi < v) : Met l yX8_isIn ws_X8_isIn ({ frames := 1, cells := 0, slots := 0, locals := 12 }) (zA dC dI [] [] sz t [.int v, .int lo, .int hi]) (vp_Si (fun r => r = 0)) 0 0 (fun _ => False) := by
  refine Met.ofW (cc := cX8_isIn) (maxL := 3) (ret := (some .boolean)) (by decide) rfl ?_
  intro p e s m args below meth c s₁ B hml hv
  obtain ⟨rfl, hsz, hP, hK, hD0, hQ⟩ := hv
  have hx := B.exec
  have hb := B.bytes
  have hr := B.returns
  have hts : ∀ w ∈ zG, w.before _ s = true := fun w h => atoms_spec (ws := ws_X8_isIn) B.pre w (List.mem_cons_of_mem _ h)
  have hown : s.vm.findClass RX8 = some m.cls := findClass_of_methodNamed B.named
  have hlocks := B.notSynchronized
  subst hsz
  have hD := hD0.self (sz := s.heap.size)
  generalize hAe : va_A [] s.heap.size = A at hD hQ
  have hA : ∀ q : Nat, s.heap.size ≤ q → A q := fun q h => by rw [← hAe]; exact Or.inr h
  have hS : va_S A s.heap s.heap [] := va_S.rf
  have hP : va_P (dC, dI) zc [] s.heap := hP
  have hl := lv_entry ([.int v, .int lo, .int hi]) (n := 3) (Nat.le_of_ble_eq_true rfl)
  rw [lg_entry_eq]
  generalize (lg_sl ([.int v, .int lo, .int hi]) ++ List.replicate (3 - (lg_sl ([.int v, .int lo, .int hi])).length) Slot.unset).toArray = ls at hl ⊢
  have hl : lv_has ls 3 [(0, .int v), (1, .int lo), (2, .int hi)] := hl
  refine lv_iload_n hx hb dX8_isIn_0 rfl (lv_at hl 0 rfl) ?_
  refine lv_iload_n hx hb dX8_isIn_1 rfl (lv_at hl 1 rfl) ?_
  refine lv_icmp_lt (tgt := 14) hx hb dX8_isIn_2 (by decide) (fun c_1 => ?_) (fun c_1 => ?_)
  · refine lv_iconst (v := 0) hx hb dX8_isIn_14 (by decide) ?_
    exact W.zret (ty := .boolean) hx hb hr rfl (fun t ht hW => ⟨_, rfl, rfl, ht⟩) (fun q hq => absurd hq List.not_mem_nil) dX8_isIn_15
  · refine lv_iload_n hx hb dX8_isIn_5 rfl (lv_at hl 0 rfl) ?_
    refine lv_iload_n hx hb dX8_isIn_6 rfl (lv_at hl 2 rfl) ?_
    refine lv_icmp_gt (tgt := 14) hx hb dX8_isIn_7 (by decide) (fun c_2 => ?_) (fun c_2 => absurd hv9 (fun z => z.elim c_1 c_2))
    refine lv_iconst (v := 0) hx hb dX8_isIn_14 (by decide) ?_
    exact W.zret (ty := .boolean) hx hb hr rfl (fun t ht hW => ⟨_, rfl, rfl, ht⟩) (fun q hq => absurd hq List.not_mem_nil) dX8_isIn_15
set_option maxHeartbeats 4000000 in
set_option maxRecDepth 100000 in
/-- isIn: yes -/
theorem c_isIn1 (l : Launch) (dC : Nat → ClassId) (dI : Nat → Nat → Nat) (sz t : Nat) (v lo hi : Int32) (hv1 : ¬ v < lo) (hv2 : ¬ hi < v) : Met l yX8_isIn ws_X8_isIn ({ frames := 1, cells := 0, slots := 0, locals := 12 }) (zA dC dI [] [] sz t [.int v, .int lo, .int hi]) (vp_Si (fun r => r = 1)) 0 0 (fun _ => False) := by
  refine Met.ofW (cc := cX8_isIn) (maxL := 3) (ret := (some .boolean)) (by decide) rfl ?_
  intro p e s m args below meth c s₁ B hml hv
  obtain ⟨rfl, hsz, hP, hK, hD0, hQ⟩ := hv
  have hx := B.exec
  have hb := B.bytes
  have hr := B.returns
  have hts : ∀ w ∈ zG, w.before _ s = true := fun w h => atoms_spec (ws := ws_X8_isIn) B.pre w (List.mem_cons_of_mem _ h)
  have hown : s.vm.findClass RX8 = some m.cls := findClass_of_methodNamed B.named
  have hlocks := B.notSynchronized
  subst hsz
  have hD := hD0.self (sz := s.heap.size)
  generalize hAe : va_A [] s.heap.size = A at hD hQ
  have hA : ∀ q : Nat, s.heap.size ≤ q → A q := fun q h => by rw [← hAe]; exact Or.inr h
  have hS : va_S A s.heap s.heap [] := va_S.rf
  have hP : va_P (dC, dI) zc [] s.heap := hP
  have hl := lv_entry ([.int v, .int lo, .int hi]) (n := 3) (Nat.le_of_ble_eq_true rfl)
  rw [lg_entry_eq]
  generalize (lg_sl ([.int v, .int lo, .int hi]) ++ List.replicate (3 - (lg_sl ([.int v, .int lo, .int hi])).length) Slot.unset).toArray = ls at hl ⊢
  have hl : lv_has ls 3 [(0, .int v), (1, .int lo), (2, .int hi)] := hl
  refine lv_iload_n hx hb dX8_isIn_0 rfl (lv_at hl 0 rfl) ?_
  refine lv_iload_n hx hb dX8_isIn_1 rfl (lv_at hl 1 rfl) ?_
  refine lv_icmp_lt (tgt := 14) hx hb dX8_isIn_2 (by decide) (fun c_1 => absurd c_1 hv1) (fun c_1 => ?_)
  refine lv_iload_n hx hb dX8_isIn_5 rfl (lv_at hl 0 rfl) ?_
  refine lv_iload_n hx hb dX8_isIn_6 rfl (lv_at hl 2 rfl) ?_
  refine lv_icmp_gt (tgt := 14) hx hb dX8_isIn_7 (by decide) (fun c_2 => absurd c_2 hv2) (fun c_2 => ?_)
  refine lv_iconst (v := 1) hx hb dX8_isIn_10 (by decide) ?_
  refine lv_goto (tgt := 15) hx hb dX8_isIn_11 (by decide) ?_
  exact W.zret (ty := .boolean) hx hb hr rfl (fun t ht hW => ⟨_, rfl, rfl, ht⟩) (fun q hq => absurd hq List.not_mem_nil) dX8_isIn_15
set_option maxHeartbeats 4000000 in
set_option maxRecDepth 100000 in
/-- isAccount: there is none -/
theorem c_isAccount (l : Launch) (dC : Nat → ClassId) (dI : Nat → Nat → Nat) (sz t : Nat) (h0 ac : Nat) (cu : Value) (dd th a : Int32) (ed : Value) : Met l yX8_isAccount ws_X8_isAccount ({ frames := 2, cells := 0, slots := 0, locals := 34 }) (zA dC dI [(h0, .inr (7, [.ref ac, cu, .int dd, .int th])), (ac, .inr (0, [.int 0, ed, .int 0]))] [] sz t [.ref h0, .int a]) (vp_Si (fun r => r = 0)) 0 0 (fun _ => False) := by
  refine Met.ofW (cc := cX8_isAccount) (maxL := 2) (ret := (some .boolean)) (by decide) rfl ?_
  intro p e s m args below meth c s₁ B hml hv
  obtain ⟨rfl, hsz, hP, hK, hD0, hQ⟩ := hv
  have hx := B.exec
  have hb := B.bytes
  have hr := B.returns
  have hts : ∀ w ∈ zG, w.before _ s = true := fun w h => atoms_spec (ws := ws_X8_isAccount) B.pre w (List.mem_cons_of_mem _ h)
  have hown : s.vm.findClass RX8 = some m.cls := findClass_of_methodNamed B.named
  have hlocks := B.notSynchronized
  subst hsz
  have hD := hD0.self (sz := s.heap.size)
  generalize hAe : va_A [(h0, .inr (7, [.ref ac, cu, .int dd, .int th])), (ac, .inr (0, [.int 0, ed, .int 0]))] s.heap.size = A at hD hQ
  have hA : ∀ q : Nat, s.heap.size ≤ q → A q := fun q h => by rw [← hAe]; exact Or.inr h
  have hS : va_S A s.heap s.heap [] := va_S.rf
  have hP : va_P (dC, dI) zc [(h0, .inr (7, [.ref ac, cu, .int dd, .int th])), (ac, .inr (0, [.int 0, ed, .int 0]))] s.heap := hP
  have hl := lv_entry ([.ref h0, .int a]) (n := 2) (Nat.le_of_ble_eq_true rfl)
  rw [lg_entry_eq]
  generalize (lg_sl ([.ref h0, .int a]) ++ List.replicate (2 - (lg_sl ([.ref h0, .int a])).length) Slot.unset).toArray = ls at hl ⊢
  have hl : lv_has ls 2 [(0, .ref h0), (1, .int a)] := hl
  refine lv_iload_n hx hb dX8_isAccount_0 rfl (lv_at hl 1 rfl) ?_
  refine lv_iconst (v := 0) hx hb dX8_isAccount_1 (by decide) ?_
  refine lv_aload_n hx hb dX8_isAccount_2 rfl (lv_at hl 0 rfl) ?_
  refine va_get (D := (dC, dI)) (ci := 7) (v := .ref ac) (C := RX8) (T := TX8) (N := 4) hx hb hts iX8 hown hK hP 0 rfl rfl 0 (by decide) (hts _ kw_1352) (fun _ h9 => h9) rfl dX8_isAccount_3 ?_
  refine va_csFi (va_runF (As := []) (rest := [.int 0, .int a]) ((hK.1 0 _ rfl).2) ⟨hx, hb, hml, hown, hts⟩ (c_AL_size l dC dI s.heap.size t ac 0 ed 0) (va_cwF 0 hts (zg_F kw_1382 kw_1386 kw_258 kw_67 kw_260) rfl rfl rfl (zT_fsize hQ.1) (by decide +kernel) ⟨Nat.le_of_ble_eq_true rfl, Nat.le_of_ble_eq_true rfl⟩) ⟨zA_blind, va_recv hK hP (ci := 0) (q0 := 1) rfl rfl, zA_pre hP hD hS hK hQ hA [1] rfl rfl (by decide) [] rfl⟩ rfl rfl hl.1 rfl (lv_room (Nat.le_of_ble_eq_true rfl)) dX8_isAccount_6 ⟨zl_b rfl, zl_b rfl⟩) (fun r hr => ?_)
  subst hr
  refine lv_iconst (v := 1) hx hb dX8_isAccount_11 (by decide) ?_
  refine lv_isub hx hb dX8_isAccount_12 ?_
  refine lv_topi (fun x_1 e_x_1 => ?_)
  obtain rfl : x_1 = (-1) := by rw [e_x_1]; decide
  refine vp_callSi (W.runS (As := [.int a, .int 0, .int (-1)]) (rest := []) ⟨hx, hb, hml, hown, hts⟩ (c_isIn0 l dC dI s.heap.size t a 0 (-1) (zi_none a)) (va_cwS 3 hts (zg_S kw_1374 kw_1375 kw_70 kw_1376) rfl rfl rfl (by decide +kernel) ⟨Nat.le_of_ble_eq_true rfl, Nat.le_of_ble_eq_true rfl⟩) ⟨zA_blind, zA_pre hP hD hS hK hQ hA [] rfl rfl (by decide) [] rfl⟩ rfl rfl hl.1 rfl (lv_room (Nat.le_of_ble_eq_true rfl)) dX8_isAccount_13 ⟨zl_b rfl, zl_b rfl⟩) (fun r hr => ?_)
  subst hr
  exact W.zret (ty := .boolean) hx hb hr rfl (fun t ht hW => ⟨_, rfl, rfl, ht⟩) (fun q hq => absurd hq List.not_mem_nil) dX8_isAccount_16
set_option maxHeartbeats 4000000 in
set_option maxRecDepth 100000 in
/-- isEvent: there is none -/
theorem c_isEvent (l : Launch) (dC : Nat → ClassId) (dI : Nat → Nat → Nat) (sz t : Nat) (h0 ac : Nat) (cu : Value) (dd th a e9 : Int32) (ed : Value) : Met l yX8_isEvent ws_X8_isEvent ({ frames := 3, cells := 0, slots := 0, locals := 55 }) (zA dC dI [(h0, .inr (7, [.ref ac, cu, .int dd, .int th])), (ac, .inr (0, [.int 0, ed, .int 0]))] [] sz t [.ref h0, .int a, .int e9]) (vp_Si (fun r => r = 0)) 0 0 (fun _ => False) := by
  refine Met.ofW (cc := cX8_isEvent) (maxL := 3) (ret := (some .boolean)) (by decide) rfl ?_
  intro p e s m args below meth c s₁ B hml hv
  obtain ⟨rfl, hsz, hP, hK, hD0, hQ⟩ := hv
  have hx := B.exec
  have hb := B.bytes
  have hr := B.returns
  have hts : ∀ w ∈ zG, w.before _ s = true := fun w h => atoms_spec (ws := ws_X8_isEvent) B.pre w (List.mem_cons_of_mem _ h)
  have hown : s.vm.findClass RX8 = some m.cls := findClass_of_methodNamed B.named
  have hlocks := B.notSynchronized
  subst hsz
  have hD := hD0.self (sz := s.heap.size)
  generalize hAe : va_A [(h0, .inr (7, [.ref ac, cu, .int dd, .int th])), (ac, .inr (0, [.int 0, ed, .int 0]))] s.heap.size = A at hD hQ
  have hA : ∀ q : Nat, s.heap.size ≤ q → A q := fun q h => by rw [← hAe]; exact Or.inr h
  have hS : va_S A s.heap s.heap [] := va_S.rf
  have hP : va_P (dC, dI) zc [(h0, .inr (7, [.ref ac, cu, .int dd, .int th])), (ac, .inr (0, [.int 0, ed, .int 0]))] s.heap := hP
  have hl := lv_entry ([.ref h0, .int a, .int e9]) (n := 3) (Nat.le_of_ble_eq_true rfl)
  rw [lg_entry_eq]
  generalize (lg_sl ([.ref h0, .int a, .int e9]) ++ List.replicate (3 - (lg_sl ([.ref h0, .int a, .int e9])).length) Slot.unset).toArray = ls at hl ⊢
  have hl : lv_has ls 3 [(0, .ref h0), (1, .int a), (2, .int e9)] := hl
  refine lv_aload_n hx hb dX8_isEvent_0 rfl (lv_at hl 0 rfl) ?_
  refine lv_iload_n hx hb dX8_isEvent_1 rfl (lv_at hl 1 rfl) ?_
  refine vp_callSi (W.runV (As := [.int a]) (rest := []) ⟨hx, hb, hml, hown, hts⟩ (c_isAccount l dC dI s.heap.size t h0 ac cu dd th a ed) (cwV 1 hts (zg_V kw_1432 kw_1434 kw_41 kw_70 kw_1435) rfl rfl rfl (by decide +kernel) ⟨Nat.le_of_ble_eq_true rfl, Nat.le_of_ble_eq_true rfl⟩) ⟨zA_blind, va_recv hK hP (ci := 7) (q0 := 0) rfl rfl, zA_pre hP hD hS hK hQ hA [0, 1] rfl rfl (by decide) [] rfl⟩ rfl rfl hl.1 rfl (lv_room (Nat.le_of_ble_eq_true rfl)) dX8_isEvent_2 ⟨zl_b rfl, zl_b rfl⟩) (fun r hr => ?_)
  subst hr
  refine lv_if_eq (tgt := 43) hx hb dX8_isEvent_5 (by decide) (fun c_1 => ?_) (fun c_1 => absurd c_1 (by decide))
  refine lv_iconst (v := 0) hx hb dX8_isEvent_43 (by decide) ?_
  exact W.zret (ty := .boolean) hx hb hr rfl (fun t ht hW => ⟨_, rfl, rfl, ht⟩) (fun q hq => absurd hq List.not_mem_nil) dX8_isEvent_44
set_option maxHeartbeats 4000000 in
set_option maxRecDepth 100000 in
/-- thrown() -/
theorem c_thrown (l : Launch) (dC : Nat → ClassId) (dI : Nat → Nat → Nat) (sz t : Nat) (h0 : Nat) (ac cu : Value) (dd th : Int32) : Met l yX8_thrown ws_X8_thrown ({ frames := 1, cells := 0, slots := 0, locals := 12 }) (zA dC dI [(h0, .inr (7, [ac, cu, .int dd, .int th]))] [] sz t [.ref h0]) (vp_Si (fun r => r = th)) 0 0 (fun _ => False) := by
  refine Met.ofW (cc := cX8_thrown) (maxL := 1) (ret := (some .int)) (by decide) rfl ?_
  intro p e s m args below meth c s₁ B hml hv
  obtain ⟨rfl, hsz, hP, hK, hD0, hQ⟩ := hv
  have hx := B.exec
  have hb := B.bytes
  have hr := B.returns
  have hts : ∀ w ∈ zG, w.before _ s = true := fun w h => atoms_spec (ws := ws_X8_thrown) B.pre w (List.mem_cons_of_mem _ h)
  have hown : s.vm.findClass RX8 = some m.cls := findClass_of_methodNamed B.named
  have hlocks := B.notSynchronized
  subst hsz
  have hD := hD0.self (sz := s.heap.size)
  generalize hAe : va_A [(h0, .inr (7, [ac, cu, .int dd, .int th]))] s.heap.size = A at hD hQ
  have hA : ∀ q : Nat, s.heap.size ≤ q → A q := fun q h => by rw [← hAe]; exact Or.inr h
  have hS : va_S A s.heap s.heap [] := va_S.rf
  have hP : va_P (dC, dI) zc [(h0, .inr (7, [ac, cu, .int dd, .int th]))] s.heap := hP
  have hl := lv_entry ([.ref h0]) (n := 1) (Nat.le_of_ble_eq_true rfl)
  rw [lg_entry_eq]
  generalize (lg_sl ([.ref h0]) ++ List.replicate (1 - (lg_sl ([.ref h0])).length) Slot.unset).toArray = ls at hl ⊢
  have hl : lv_has ls 1 [(0, .ref h0)] := hl
  refine lv_aload_n hx hb dX8_thrown_0 rfl (lv_at hl 0 rfl) ?_
  refine va_get (D := (dC, dI)) (ci := 7) (v := .int th) (C := RX8) (T := TX8) (N := 4) hx hb hts iX8 hown hK hP 0 rfl rfl 3 (by decide) (hts _ kw_1355) (fun _ h9 => h9) rfl dX8_thrown_1 ?_
  exact W.iret hx hb hr (fun t ht hW => ⟨_, rfl, rfl, ht⟩) (fun q hq => absurd hq List.not_mem_nil) dX8_thrown_4
set_option maxHeartbeats 4000000 in
set_option maxRecDepth 100000 in
/-- no(false, ..) -/
theorem c_no0 (l : Launch) (dC : Nat → ClassId) (dI : Nat → Nat → Nat) (sz t : Nat) (h0 : Nat) (ac cu : Value) (dd th pl : Int32) : Met l yX8_no ws_X8_no ({ frames := 1, cells := 0, slots := 0, locals := 12 }) (zA dC dI [(h0, .inr (7, [ac, cu, .int dd, .int th]))] [] sz t [.ref h0, .int 0, .int pl]) (va_Qi (fun r (_ : Unit) => r = 1) (fun _ t9 => zB dC dI (va_A [(h0, .inr (7, [ac, cu, .int dd, .int th]))] sz) [(h0, .inr (7, [ac, cu, .int dd, .int pl]))] [] t9) (va_A [(h0, .inr (7, [ac, cu, .int dd, .int th]))] sz)) 0 0 (va_A [(h0, .inr (7, [ac, cu, .int dd, .int th]))] sz) := by
  refine Met.ofW (cc := cX8_no) (maxL := 3) (ret := (some .boolean)) (by decide) rfl ?_
  intro p e s m args below meth c s₁ B hml hv
  obtain ⟨rfl, hsz, hP, hK, hD0, hQ⟩ := hv
  have hx := B.exec
  have hb := B.bytes
  have hr := B.returns
  have hts : ∀ w ∈ zG, w.before _ s = true := fun w h => atoms_spec (ws := ws_X8_no) B.pre w (List.mem_cons_of_mem _ h)
  have hown : s.vm.findClass RX8 = some m.cls := findClass_of_methodNamed B.named
  have hlocks := B.notSynchronized
  subst hsz
  have hD := hD0.self (sz := s.heap.size)
  generalize hAe : va_A [(h0, .inr (7, [ac, cu, .int dd, .int th]))] s.heap.size = A at hD hQ ⊢
  have hA : ∀ q : Nat, s.heap.size ≤ q → A q := fun q h => by rw [← hAe]; exact Or.inr h
  have hS : va_S A s.heap s.heap [] := va_S.rf
  have hP : va_P (dC, dI) zc [(h0, .inr (7, [ac, cu, .int dd, .int th]))] s.heap := hP
  have hl := lv_entry ([.ref h0, .int 0, .int pl]) (n := 3) (Nat.le_of_ble_eq_true rfl)
  rw [lg_entry_eq]
  generalize (lg_sl ([.ref h0, .int 0, .int pl]) ++ List.replicate (3 - (lg_sl ([.ref h0, .int 0, .int pl])).length) Slot.unset).toArray = ls at hl ⊢
  have hl : lv_has ls 3 [(0, .ref h0), (1, .int 0), (2, .int pl)] := hl
  refine lv_aload_n hx hb dX8_no_0 rfl (lv_at hl 0 rfl) ?_
  refine lv_iload_n hx hb dX8_no_1 rfl (lv_at hl 1 rfl) ?_
  refine lv_if_eq (tgt := 9) hx hb dX8_no_2 (by decide) (fun c_1 => ?_) (fun c_1 => absurd c_1 (by decide))
  refine lv_iload_n hx hb dX8_no_9 rfl (lv_at hl 2 rfl) ?_
  refine va_put (D := (dC, dI)) (ci := 7) (v := .int pl) (ty := .int) (C := RX8) (T := TX8) (N := 4) hx hb hts iX8 tyX8 tyX8_ok nmX8 hown hK hP hD hS 0 rfl rfl 3 (by decide) (hts _ kw_1355) (fun _ h9 => h9) rfl (by decide +kernel) rfl rfl (Nat.le_of_ble_eq_true rfl) dX8_no_10 (fun H locs hP hD hS => ?_)
  have hP : va_P (dC, dI) zc [(h0, .inr (7, [ac, cu, .int dd, .int pl]))] H := hP
  have hD : va_D A [(h0, .inr (7, [ac, cu, .int dd, .int pl]))] := hD
  refine lv_iload_n hx hb dX8_no_13 rfl (lv_at hl 1 rfl) ?_
  refine lv_if_ne (tgt := 21) hx hb dX8_no_14 (by decide) (fun c_2 => absurd c_2 (by decide)) (fun c_2 => ?_)
  refine lv_iconst (v := 1) hx hb dX8_no_17 (by decide) ?_
  refine lv_goto (tgt := 22) hx hb dX8_no_18 (by decide) ?_
  have hP9 := hP.sub (ws' := [(h0, .inr (7, [ac, cu, .int dd, .int pl]))]) [0] rfl
  have hD9 := hD.sub (ws' := [(h0, .inr (7, [ac, cu, .int dd, .int pl]))]) [0] (by decide) rfl
  have hK9 := hK.sub (tys' := []) [] rfl
  exact W.zret (ty := .boolean) hx hb hr rfl (fun t ht hW => ⟨⟨_, (), rfl, rfl, by rw [ht]; exact hP9, va_K.moved hW.alike hK9, hD9⟩, hS.F ht⟩) hS.2.2 dX8_no_22
set_option maxHeartbeats 4000000 in
set_option maxRecDepth 100000 in
/-- no(true, ..) -/
theorem c_no1 (l : Launch) (dC : Nat → ClassId) (dI : Nat → Nat → Nat) (sz t : Nat) (h0 : Nat) (ac cu : Value) (dd th pl : Int32) : Met l yX8_no ws_X8_no ({ frames := 1, cells := 0, slots := 0, locals := 12 }) (zA dC dI [(h0, .inr (7, [ac, cu, .int dd, .int th]))] [] sz t [.ref h0, .int 1, .int pl]) (va_Qi (fun r (_ : Unit) => r = 0) (fun _ t9 => zB dC dI (va_A [(h0, .inr (7, [ac, cu, .int dd, .int th]))] sz) [(h0, .inr (7, [ac, cu, .int dd, .int 0]))] [] t9) (va_A [(h0, .inr (7, [ac, cu, .int dd, .int th]))] sz)) 0 0 (va_A [(h0, .inr (7, [ac, cu, .int dd, .int th]))] sz) := by
  refine Met.ofW (cc := cX8_no) (maxL := 3) (ret := (some .boolean)) (by decide) rfl ?_
  intro p e s m args below meth c s₁ B hml hv
  obtain ⟨rfl, hsz, hP, hK, hD0, hQ⟩ := hv
  have hx := B.exec
  have hb := B.bytes
  have hr := B.returns
  have hts : ∀ w ∈ zG, w.before _ s = true := fun w h => atoms_spec (ws := ws_X8_no) B.pre w (List.mem_cons_of_mem _ h)
  have hown : s.vm.findClass RX8 = some m.cls := findClass_of_methodNamed B.named
  have hlocks := B.notSynchronized
  subst hsz
  have hD := hD0.self (sz := s.heap.size)
  generalize hAe : va_A [(h0, .inr (7, [ac, cu, .int dd, .int th]))] s.heap.size = A at hD hQ ⊢
  have hA : ∀ q : Nat, s.heap.size ≤ q → A q := fun q h => by rw [← hAe]; exact Or.inr h
  have hS : va_S A s.heap s.heap [] := va_S.rf
  have hP : va_P (dC, dI) zc [(h0, .inr (7, [ac, cu, .int dd, .int th]))] s.heap := hP
  have hl := lv_entry ([.ref h0, .int 1, .int pl]) (n := 3) (Nat.le_of_ble_eq_true rfl)
  rw [lg_entry_eq]
  generalize (lg_sl ([.ref h0, .int 1, .int pl]) ++ List.replicate (3 - (lg_sl ([.ref h0, .int 1, .int pl])).length) Slot.unset).toArray = ls at hl ⊢
  have hl : lv_has ls 3 [(0, .ref h0), (1, .int 1), (2, .int pl)] := hl
  refine lv_aload_n hx hb dX8_no_0 rfl (lv_at hl 0 rfl) ?_
  refine lv_iload_n hx hb dX8_no_1 rfl (lv_at hl 1 rfl) ?_
  refine lv_if_eq (tgt := 9) hx hb dX8_no_2 (by decide) (fun c_1 => absurd c_1 (by decide)) (fun c_1 => ?_)
  refine lv_iconst (v := 0) hx hb dX8_no_5 (by decide) ?_
  refine lv_goto (tgt := 10) hx hb dX8_no_6 (by decide) ?_
  refine va_put (D := (dC, dI)) (ci := 7) (v := .int 0) (ty := .int) (C := RX8) (T := TX8) (N := 4) hx hb hts iX8 tyX8 tyX8_ok nmX8 hown hK hP hD hS 0 rfl rfl 3 (by decide) (hts _ kw_1355) (fun _ h9 => h9) rfl (by decide +kernel) rfl rfl (Nat.le_of_ble_eq_true rfl) dX8_no_10 (fun H locs hP hD hS => ?_)
  have hP : va_P (dC, dI) zc [(h0, .inr (7, [ac, cu, .int dd, .int 0]))] H := hP
  have hD : va_D A [(h0, .inr (7, [ac, cu, .int dd, .int 0]))] := hD
  refine lv_iload_n hx hb dX8_no_13 rfl (lv_at hl 1 rfl) ?_
  refine lv_if_ne (tgt := 21) hx hb dX8_no_14 (by decide) (fun c_2 => ?_) (fun c_2 => absurd c_2 (by decide))
  refine lv_iconst (v := 0) hx hb dX8_no_21 (by decide) ?_
  have hP9 := hP.sub (ws' := [(h0, .inr (7, [ac, cu, .int dd, .int 0]))]) [0] rfl
  have hD9 := hD.sub (ws' := [(h0, .inr (7, [ac, cu, .int dd, .int 0]))]) [0] (by decide) rfl
  have hK9 := hK.sub (tys' := []) [] rfl
  exact W.zret (ty := .boolean) hx hb hr rfl (fun t ht hW => ⟨⟨_, (), rfl, rfl, by rw [ht]; exact hP9, va_K.moved hW.alike hK9, hD9⟩, hS.F ht⟩) hS.2.2 dX8_no_22
