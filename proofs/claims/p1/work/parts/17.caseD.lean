set_option maxHeartbeats 4000000 in
set_option maxRecDepth 100000 in
/-- the law on sum -/
theorem law_c34 {p : Program} {e : Env} {s : State} {m : MethodId} {below : List Frame} {meth : Method} {c : Code} {b : Nat} {xs : Nat → Int32} (l : Launch) (hst : l.stackTraces = false) (C0 : lw_At p s m meth c b 5 xs) {dC : Nat → ClassId} {dI : Nat → Nat → Nat} {t x0 xa xw xb m0 ma mw o od : Nat} {k1 k2 k3 : ClassId} (H : Heap) (locs : List Loc) (hK : va_K (dC, dI) zc [(k1, .int), (k2, .int), (k3, .long)] s) (hQ : zQ t (fun q : Nat => s.heap.size ≤ q) s s.heap) (hP : va_P (dC, dI) zc [(x0, .inr (5, [.ref xa, .ref xw, .ref xb, .int 0])), (xa, .inr (0, [.int 0, .ref t, .int 0])), (xw, .inl (k1, 4, .inl (zW))), (m0, .inr (7, [.ref ma, .ref mw, .int 0, .int 0])), (ma, .inr (0, [.int 0, .ref t, .int 0])), (mw, .inl (k2, 4, .inl (zW))), (o, .inl (k3, 1, .inr (.inl (fun _ => 0))))] H) (hD : va_D (fun q : Nat => s.heap.size ≤ q) [(x0, .inr (5, [.ref xa, .ref xw, .ref xb, .int 0])), (xa, .inr (0, [.int 0, .ref t, .int 0])), (xw, .inl (k1, 4, .inl (zW))), (m0, .inr (7, [.ref ma, .ref mw, .int 0, .int 0])), (ma, .inr (0, [.int 0, .ref t, .int 0])), (mw, .inl (k2, 4, .inl (zW))), (o, .inl (k3, 1, .inr (.inl (fun _ => 0))))]) (hS : va_S (fun q : Nat => s.heap.size ≤ q) s.heap H locs) (ls : Array Slot) (hl : lv_has ls 9 [(5, .int 0), (4, .ref od), (3, .ref o), (2, .ref m0), (1, .ref x0), (0, .ref b)]) : W p l e room_1 s m #[Value.ref b] below meth c H locs 26 125 (lw_Z below #[Value.ref b] s) (F0 m 2564 ls []) := by
  obtain ⟨hx, hb, hr, hml, hown, hts0, hX, hbl, hlocks, hgv⟩ := id C0
  have hts : ∀ w ∈ zG, w.before #[Value.ref b] s = true := fun w h => hts0 w (zg_tbl h)
  have hA : ∀ q : Nat, s.heap.size ≤ q → (fun q : Nat => s.heap.size ≤ q) q := fun _ h => h
  have hbA : ¬ (fun q : Nat => s.heap.size ≤ q) b := Nat.not_le.mpr hbl
  refine lv_aload_n hx hb dL_law_2564 rfl (lv_at hl 4 rfl) ?_
  refine lv_aload_n hx hb dL_law_2565 rfl (lv_at hl 5 rfl) ?_
  refine lv_iload hx hb dL_law_2566 (lv_at hl 0 rfl) ?_
  refine lv_iconst (v := 1) hx hb dL_law_2568 (by decide) ?_
  refine lv_iadd hx hb dL_law_2569 ?_
  refine va_sld hx hb hX hbl hbA hS (by unfold vp_in; decide) dL_law_2570 ?_
  refine lv_topi (fun v_1 e_v_1 => ?_)
  refine lv_aload_n hx hb dL_law_2571 rfl (lv_at hl 5 rfl) ?_
  refine lv_iload hx hb dL_law_2572 (lv_at hl 0 rfl) ?_
  refine lv_iconst (v := 2) hx hb dL_law_2574 (by decide) ?_
  refine lv_iadd hx hb dL_law_2575 ?_
  refine va_sld hx hb hX hbl hbA hS (by unfold vp_in; decide) dL_law_2576 ?_
  refine lv_topi (fun v_2 e_v_2 => ?_)
  refine lv_aload_n hx hb dL_law_2577 rfl (lv_at hl 2 rfl) ?_
  refine vx_calli (vx_runSX (As := [.ref x0, .int v_1, .int v_2, .ref o]) (rest := []) ⟨hx, hb, hml, hown, hts⟩ (lx_sum l hst dC dI H.size t x0 xa o (.ref xw) (.ref xb) 0 (.ref t) v_1 v_2) (vx_cwSW 4 hts (zg_S kw_1284 kw_1285 kw_63 kw_1286) rfl rfl rfl (by decide +kernel) ⟨Nat.le_of_ble_eq_true rfl, Nat.le_of_ble_eq_true rfl⟩) ⟨zA_blind, zA_pre hP hD hS hK hQ hA [0, 1] rfl rfl (by decide) [] rfl⟩ rfl rfl hl.1 rfl (lv_room (Nat.le_of_ble_eq_true rfl)) dL_law_2578 ⟨zl_b rfl, zl_b rfl⟩) hS (fun q _ h => hA q (Nat.le_trans (hS.1) h)) (fun q h => hA q (Nat.le_trans (hS.1) h)) (fun q _ h => h.elim) (fun E ce q9 u t9 H1 locs1 ht hvm hp9 hE hz1 hk1 hS1 hc1 hv1 hcl1 => hp9.elim) (fun r_3 u t9 H1 locs ht hvm hw hB hz1 hk1 hS => ?_)
  have hw : r_3 = 1 := hw
  subst hw
  have hP := zP_new hP hk1
  generalize H1 = H at hP hS ⊢
  have hP : va_P (dC, dI) zc [(x0, .inr (5, [.ref xa, .ref xw, .ref xb, .int 0])), (xa, .inr (0, [.int 0, .ref t, .int 0])), (xw, .inl (k1, 4, .inl (zW))), (m0, .inr (7, [.ref ma, .ref mw, .int 0, .int 0])), (ma, .inr (0, [.int 0, .ref t, .int 0])), (mw, .inl (k2, 4, .inl (zW))), (o, .inl (k3, 1, .inr (.inl (fun _ => 0))))] H := hP
  have hD : va_D (fun q : Nat => s.heap.size ≤ q) [(x0, .inr (5, [.ref xa, .ref xw, .ref xb, .int 0])), (xa, .inr (0, [.int 0, .ref t, .int 0])), (xw, .inl (k1, 4, .inl (zW))), (m0, .inr (7, [.ref ma, .ref mw, .int 0, .int 0])), (ma, .inr (0, [.int 0, .ref t, .int 0])), (mw, .inl (k2, 4, .inl (zW))), (o, .inl (k3, 1, .inr (.inl (fun _ => 0))))] := hD
  refine W.widen (k := 27) (n := 131) (zl_b rfl) (zl_b rfl) ?_
  refine lv_istore (lv' := [(6, .int 1), (5, .int 0), (4, .ref od), (3, .ref o), (2, .ref m0), (1, .ref x0), (0, .ref b)]) hx hb dL_law_2581 hl (by decide) rfl (fun ls hl => ?_)
  refine lv_aload_n hx hb dL_law_2583 rfl (lv_at hl 4 rfl) ?_
  refine lv_aload_n hx hb dL_law_2584 rfl (lv_at hl 6 rfl) ?_
  refine lv_iload hx hb dL_law_2585 (lv_at hl 1 rfl) ?_
  refine lv_iconst (v := 1) hx hb dL_law_2587 (by decide) ?_
  refine lv_iadd hx hb dL_law_2588 ?_
  refine va_sld hx hb hX hbl hbA hS (by unfold vp_in; decide) dL_law_2589 ?_
  refine lv_topi (fun v_4 e_v_4 => ?_)
  have s_5 : v_1 = v_4 := by rw [e_v_1, e_v_4]
  subst s_5
  refine lv_aload_n hx hb dL_law_2590 rfl (lv_at hl 6 rfl) ?_
  refine lv_iload hx hb dL_law_2591 (lv_at hl 1 rfl) ?_
  refine lv_iconst (v := 2) hx hb dL_law_2593 (by decide) ?_
  refine lv_iadd hx hb dL_law_2594 ?_
  refine va_sld hx hb hX hbl hbA hS (by unfold vp_in; decide) dL_law_2595 ?_
  refine lv_topi (fun v_6 e_v_6 => ?_)
  have s_7 : v_2 = v_6 := by rw [e_v_2, e_v_6]
  subst s_7
  have hFc := va_free (wc := [(m0, .inr (7, [.ref ma, .ref mw, .int 0, .int 0])), (ma, .inr (0, [.int 0, .ref t, .int 0]))]) hD hS hA [3, 4] rfl
  refine va_calli (va_runV (As := [.int v_1, .int v_2]) (rest := []) ⟨hx, hb, hml, hown, hts⟩ (m_sum l dC dI H.size t m0 ma (.ref mw) 0 0 (.ref t) v_1 v_2) (cwV 2 hts (zg_V kw_1954 kw_1955 kw_1956 kw_70 kw_1957) rfl rfl rfl (by decide +kernel) ⟨Nat.le_of_ble_eq_true rfl, Nat.le_of_ble_eq_true rfl⟩) ⟨zA_blind, va_recv hK hP (ci := 7) (q0 := 3) rfl rfl, zA_pre hP hD hS hK hQ hA [3, 4] rfl rfl (by decide) [] rfl⟩ rfl rfl hl.1 rfl (lv_room (Nat.le_of_ble_eq_true rfl)) dL_law_2596 ⟨zl_b rfl, zl_b rfl⟩) hS (fun q _ h => hFc q h) hFc (fun r_8 u t9 H1 locs ht hvm hw hB hz1 hk1 hS => ?_)
  obtain ⟨hP1, hK1, hD1⟩ := hB
  rw [ht] at hP1
  have hK1 := va_K.moved hvm.symm hK1
  obtain ⟨hP, hD⟩ := va_join (wr := [(x0, .inr (5, [.ref xa, .ref xw, .ref xb, .int 0])), (xa, .inr (0, [.int 0, .ref t, .int 0])), (xw, .inl (k1, 4, .inl (zW))), (mw, .inl (k2, 4, .inl (zW))), (o, .inl (k3, 1, .inr (.inl (fun _ => 0))))]) (w1 := [(m0, .inr (7, [.ref ma, .ref mw, .int 0, .int 1])), (ma, .inr (0, [.int 0, .ref t, .int 0]))]) hP hD [3, 4] [0, 1, 2, 5, 6] rfl rfl (by decide) (by decide) hk1 hFc hP1 hD1
  have hK := (hK.sub (tys' := [(k1, .int), (k2, .int), (k3, .long)]) [0, 1, 2] rfl).app hK1
  generalize H1 = H at hP hS ⊢
  have hP : va_P (dC, dI) zc [(x0, .inr (5, [.ref xa, .ref xw, .ref xb, .int 0])), (xa, .inr (0, [.int 0, .ref t, .int 0])), (xw, .inl (k1, 4, .inl (zW))), (mw, .inl (k2, 4, .inl (zW))), (o, .inl (k3, 1, .inr (.inl (fun _ => 0)))), (m0, .inr (7, [.ref ma, .ref mw, .int 0, .int 1])), (ma, .inr (0, [.int 0, .ref t, .int 0]))] H := hP
  have hD : va_D (fun q : Nat => s.heap.size ≤ q) [(x0, .inr (5, [.ref xa, .ref xw, .ref xb, .int 0])), (xa, .inr (0, [.int 0, .ref t, .int 0])), (xw, .inl (k1, 4, .inl (zW))), (mw, .inl (k2, 4, .inl (zW))), (o, .inl (k3, 1, .inr (.inl (fun _ => 0)))), (m0, .inr (7, [.ref ma, .ref mw, .int 0, .int 1])), (ma, .inr (0, [.int 0, .ref t, .int 0]))] := hD
  have hK : va_K (dC, dI) zc [(k1, .int), (k2, .int), (k3, .long)] s := hK
  refine lv_istore (lv' := [(7, .int r_8), (6, .int 1), (5, .int 0), (4, .ref od), (3, .ref o), (2, .ref m0), (1, .ref x0), (0, .ref b)]) hx hb dL_law_2599 hl (by decide) rfl (fun ls hl => ?_)
  refine lv_aload_n hx hb dL_law_2601 rfl (lv_at hl 5 rfl) ?_
  refine vp_callSi (W.runV (As := []) (rest := []) ⟨hx, hb, hml, hown, hts⟩ (c_thrown l dC dI H.size t m0 (.ref ma) (.ref mw) 0 1) (cwV 0 hts (zg_V kw_1365 kw_1366 kw_1367 kw_70 kw_1368) rfl rfl rfl (by decide +kernel) ⟨Nat.le_of_ble_eq_true rfl, Nat.le_of_ble_eq_true rfl⟩) ⟨zA_blind, va_recv hK hP (ci := 7) (q0 := 5) rfl rfl, zA_pre hP hD hS hK hQ hA [5] rfl rfl (by decide) [] rfl⟩ rfl rfl hl.1 rfl (lv_room (Nat.le_of_ble_eq_true rfl)) dL_law_2602 ⟨zl_b rfl, zl_b rfl⟩) (fun r hr => ?_)
  subst hr
  refine lv_iload hx hb dL_law_2605 (lv_at hl 1 rfl) ?_
  refine lv_icmp_eq (tgt := 2612) hx hb dL_law_2607 (by decide) (fun c_9 => ?_) (fun c_9 => absurd c_9 (by decide))
  refine lv_iload hx hb dL_law_2612 (lv_at hl 1 rfl) ?_
  refine lv_if_ne (tgt := 2629) hx hb dL_law_2614 (by decide) (fun c_10 => ?_) (fun c_10 => absurd c_10 (by decide))
  refine lv_goto (tgt := 2981) hx hb dL_law_2629 (by decide) ?_
  exact law_tail l C0 _ _ (zl_b rfl) (zl_b rfl) _ _ hS ls (lv_sub hl [7, 2] rfl)
set_option maxHeartbeats 4000000 in
set_option maxRecDepth 100000 in
/-- the law on why -/
theorem law_c35 {p : Program} {e : Env} {s : State} {m : MethodId} {below : List Frame} {meth : Method} {c : Code} {b : Nat} {xs : Nat → Int32} (l : Launch) (hst : l.stackTraces = false) (C0 : lw_At p s m meth c b 5 xs) {dC : Nat → ClassId} {dI : Nat → Nat → Nat} {t x0 xa xw xb m0 ma mw o od : Nat} {k1 k2 k3 : ClassId} (H : Heap) (locs : List Loc) (hK : va_K (dC, dI) zc [(k1, .int), (k2, .int), (k3, .long)] s) (hQ : zQ t (fun q : Nat => s.heap.size ≤ q) s s.heap) (hP : va_P (dC, dI) zc [(x0, .inr (5, [.ref xa, .ref xw, .ref xb, .int 0])), (xa, .inr (0, [.int 0, .ref t, .int 0])), (xw, .inl (k1, 4, .inl (zW))), (m0, .inr (7, [.ref ma, .ref mw, .int 0, .int 0])), (ma, .inr (0, [.int 0, .ref t, .int 0])), (mw, .inl (k2, 4, .inl (zW))), (o, .inl (k3, 1, .inr (.inl (fun _ => 0))))] H) (hD : va_D (fun q : Nat => s.heap.size ≤ q) [(x0, .inr (5, [.ref xa, .ref xw, .ref xb, .int 0])), (xa, .inr (0, [.int 0, .ref t, .int 0])), (xw, .inl (k1, 4, .inl (zW))), (m0, .inr (7, [.ref ma, .ref mw, .int 0, .int 0])), (ma, .inr (0, [.int 0, .ref t, .int 0])), (mw, .inl (k2, 4, .inl (zW))), (o, .inl (k3, 1, .inr (.inl (fun _ => 0))))]) (hS : va_S (fun q : Nat => s.heap.size ≤ q) s.heap H locs) (ls : Array Slot) (hl : lv_has ls 9 [(5, .int 0), (4, .ref od), (3, .ref o), (2, .ref m0), (1, .ref x0), (0, .ref b)]) : W p l e room_1 s m #[Value.ref b] below meth c H locs 26 125 (lw_Z below #[Value.ref b] s) (F0 m 2632 ls []) := by
  obtain ⟨hx, hb, hr, hml, hown, hts0, hX, hbl, hlocks, hgv⟩ := id C0
  have hts : ∀ w ∈ zG, w.before #[Value.ref b] s = true := fun w h => hts0 w (zg_tbl h)
  have hA : ∀ q : Nat, s.heap.size ≤ q → (fun q : Nat => s.heap.size ≤ q) q := fun _ h => h
  have hbA : ¬ (fun q : Nat => s.heap.size ≤ q) b := Nat.not_le.mpr hbl
  refine lv_aload_n hx hb dL_law_2632 rfl (lv_at hl 4 rfl) ?_
  refine lv_aload_n hx hb dL_law_2633 rfl (lv_at hl 5 rfl) ?_
  refine lv_iload hx hb dL_law_2634 (lv_at hl 0 rfl) ?_
  refine lv_iconst (v := 1) hx hb dL_law_2636 (by decide) ?_
  refine lv_iadd hx hb dL_law_2637 ?_
  refine va_sld hx hb hX hbl hbA hS (by unfold vp_in; decide) dL_law_2638 ?_
  refine lv_topi (fun v_1 e_v_1 => ?_)
  refine lv_aload_n hx hb dL_law_2639 rfl (lv_at hl 5 rfl) ?_
  refine lv_iload hx hb dL_law_2640 (lv_at hl 0 rfl) ?_
  refine lv_iconst (v := 2) hx hb dL_law_2642 (by decide) ?_
  refine lv_iadd hx hb dL_law_2643 ?_
  refine va_sld hx hb hX hbl hbA hS (by unfold vp_in; decide) dL_law_2644 ?_
  refine lv_topi (fun v_2 e_v_2 => ?_)
  refine lv_i2c hx hb dL_law_2645 rfl ?_
  refine lv_topi (fun ch_3 e_ch_3 => ?_)
  refine lv_aload_n hx hb dL_law_2646 rfl (lv_at hl 5 rfl) ?_
  refine lv_iload hx hb dL_law_2647 (lv_at hl 0 rfl) ?_
  refine lv_iconst (v := 3) hx hb dL_law_2649 (by decide) ?_
  refine lv_iadd hx hb dL_law_2650 ?_
  refine va_sld hx hb hX hbl hbA hS (by unfold vp_in; decide) dL_law_2651 ?_
  refine lv_topi (fun v_4 e_v_4 => ?_)
  refine lv_aload_n hx hb dL_law_2652 rfl (lv_at hl 2 rfl) ?_
  refine vx_calli (vx_runSX (As := [.ref x0, .int v_1, .int ch_3, .int v_4, .ref o]) (rest := []) ⟨hx, hb, hml, hown, hts⟩ (lx_why l hst dC dI H.size t x0 xa o (.ref xw) (.ref xb) 0 (.ref t) v_1 ch_3 v_4) (vx_cwSW 5 hts (zg_S kw_1291 kw_1292 kw_63 kw_1293) rfl rfl rfl (by decide +kernel) ⟨Nat.le_of_ble_eq_true rfl, Nat.le_of_ble_eq_true rfl⟩) ⟨zA_blind, zA_pre hP hD hS hK hQ hA [0, 1] rfl rfl (by decide) [] rfl⟩ rfl rfl hl.1 rfl (lv_room (Nat.le_of_ble_eq_true rfl)) dL_law_2653 ⟨zl_b rfl, zl_b rfl⟩) hS (fun q _ h => hA q (Nat.le_trans (hS.1) h)) (fun q h => hA q (Nat.le_trans (hS.1) h)) (fun q _ h => h.elim) (fun E ce q9 u t9 H1 locs1 ht hvm hp9 hE hz1 hk1 hS1 hc1 hv1 hcl1 => hp9.elim) (fun r_5 u t9 H1 locs ht hvm hw hB hz1 hk1 hS => ?_)
  have hw : r_5 = 1 := hw
  subst hw
  have hP := zP_new hP hk1
  generalize H1 = H at hP hS ⊢
  have hP : va_P (dC, dI) zc [(x0, .inr (5, [.ref xa, .ref xw, .ref xb, .int 0])), (xa, .inr (0, [.int 0, .ref t, .int 0])), (xw, .inl (k1, 4, .inl (zW))), (m0, .inr (7, [.ref ma, .ref mw, .int 0, .int 0])), (ma, .inr (0, [.int 0, .ref t, .int 0])), (mw, .inl (k2, 4, .inl (zW))), (o, .inl (k3, 1, .inr (.inl (fun _ => 0))))] H := hP
  have hD : va_D (fun q : Nat => s.heap.size ≤ q) [(x0, .inr (5, [.ref xa, .ref xw, .ref xb, .int 0])), (xa, .inr (0, [.int 0, .ref t, .int 0])), (xw, .inl (k1, 4, .inl (zW))), (m0, .inr (7, [.ref ma, .ref mw, .int 0, .int 0])), (ma, .inr (0, [.int 0, .ref t, .int 0])), (mw, .inl (k2, 4, .inl (zW))), (o, .inl (k3, 1, .inr (.inl (fun _ => 0))))] := hD
  refine W.widen (k := 27) (n := 131) (zl_b rfl) (zl_b rfl) ?_
  refine lv_istore (lv' := [(6, .int 1), (5, .int 0), (4, .ref od), (3, .ref o), (2, .ref m0), (1, .ref x0), (0, .ref b)]) hx hb dL_law_2656 hl (by decide) rfl (fun ls hl => ?_)
  refine lv_aload_n hx hb dL_law_2658 rfl (lv_at hl 4 rfl) ?_
  refine lv_aload_n hx hb dL_law_2659 rfl (lv_at hl 6 rfl) ?_
  refine lv_iload hx hb dL_law_2660 (lv_at hl 1 rfl) ?_
  refine lv_iconst (v := 1) hx hb dL_law_2662 (by decide) ?_
  refine lv_iadd hx hb dL_law_2663 ?_
  refine va_sld hx hb hX hbl hbA hS (by unfold vp_in; decide) dL_law_2664 ?_
  refine lv_topi (fun v_6 e_v_6 => ?_)
  have s_7 : v_1 = v_6 := by rw [e_v_1, e_v_6]
  subst s_7
  refine lv_aload_n hx hb dL_law_2665 rfl (lv_at hl 6 rfl) ?_
  refine lv_iload hx hb dL_law_2666 (lv_at hl 1 rfl) ?_
  refine lv_iconst (v := 2) hx hb dL_law_2668 (by decide) ?_
  refine lv_iadd hx hb dL_law_2669 ?_
  refine va_sld hx hb hX hbl hbA hS (by unfold vp_in; decide) dL_law_2670 ?_
  refine lv_topi (fun v_8 e_v_8 => ?_)
  have s_9 : v_2 = v_8 := by rw [e_v_2, e_v_8]
  subst s_9
  refine lv_i2c hx hb dL_law_2671 rfl ?_
  refine lv_topi (fun ch_10 e_ch_10 => ?_)
  refine lv_aload_n hx hb dL_law_2672 rfl (lv_at hl 6 rfl) ?_
  refine lv_iload hx hb dL_law_2673 (lv_at hl 1 rfl) ?_
  refine lv_iconst (v := 3) hx hb dL_law_2675 (by decide) ?_
  refine lv_iadd hx hb dL_law_2676 ?_
  refine va_sld hx hb hX hbl hbA hS (by unfold vp_in; decide) dL_law_2677 ?_
  refine lv_topi (fun v_11 e_v_11 => ?_)
  have s_12 : v_4 = v_11 := by rw [e_v_4, e_v_11]
  subst s_12
  have hFc := va_free (wc := [(m0, .inr (7, [.ref ma, .ref mw, .int 0, .int 0])), (ma, .inr (0, [.int 0, .ref t, .int 0]))]) hD hS hA [3, 4] rfl
  refine va_calli (va_runV (As := [.int v_1, .int ch_10, .int v_4]) (rest := []) ⟨hx, hb, hml, hown, hts⟩ (m_why l dC dI H.size t m0 ma (.ref mw) 0 0 (.ref t) v_1 ch_10 v_4) (cwV 3 hts (zg_V kw_1958 kw_1959 kw_1960 kw_70 kw_1961) rfl rfl rfl (by decide +kernel) ⟨Nat.le_of_ble_eq_true rfl, Nat.le_of_ble_eq_true rfl⟩) ⟨zA_blind, va_recv hK hP (ci := 7) (q0 := 3) rfl rfl, zA_pre hP hD hS hK hQ hA [3, 4] rfl rfl (by decide) [] rfl⟩ rfl rfl hl.1 rfl (lv_room (Nat.le_of_ble_eq_true rfl)) dL_law_2678 ⟨zl_b rfl, zl_b rfl⟩) hS (fun q _ h => hFc q h) hFc (fun r_13 u t9 H1 locs ht hvm hw hB hz1 hk1 hS => ?_)
  obtain ⟨hP1, hK1, hD1⟩ := hB
  rw [ht] at hP1
  have hK1 := va_K.moved hvm.symm hK1
  obtain ⟨hP, hD⟩ := va_join (wr := [(x0, .inr (5, [.ref xa, .ref xw, .ref xb, .int 0])), (xa, .inr (0, [.int 0, .ref t, .int 0])), (xw, .inl (k1, 4, .inl (zW))), (mw, .inl (k2, 4, .inl (zW))), (o, .inl (k3, 1, .inr (.inl (fun _ => 0))))]) (w1 := [(m0, .inr (7, [.ref ma, .ref mw, .int 0, .int 1])), (ma, .inr (0, [.int 0, .ref t, .int 0]))]) hP hD [3, 4] [0, 1, 2, 5, 6] rfl rfl (by decide) (by decide) hk1 hFc hP1 hD1
  have hK := (hK.sub (tys' := [(k1, .int), (k2, .int), (k3, .long)]) [0, 1, 2] rfl).app hK1
  generalize H1 = H at hP hS ⊢
  have hP : va_P (dC, dI) zc [(x0, .inr (5, [.ref xa, .ref xw, .ref xb, .int 0])), (xa, .inr (0, [.int 0, .ref t, .int 0])), (xw, .inl (k1, 4, .inl (zW))), (mw, .inl (k2, 4, .inl (zW))), (o, .inl (k3, 1, .inr (.inl (fun _ => 0)))), (m0, .inr (7, [.ref ma, .ref mw, .int 0, .int 1])), (ma, .inr (0, [.int 0, .ref t, .int 0]))] H := hP
  have hD : va_D (fun q : Nat => s.heap.size ≤ q) [(x0, .inr (5, [.ref xa, .ref xw, .ref xb, .int 0])), (xa, .inr (0, [.int 0, .ref t, .int 0])), (xw, .inl (k1, 4, .inl (zW))), (mw, .inl (k2, 4, .inl (zW))), (o, .inl (k3, 1, .inr (.inl (fun _ => 0)))), (m0, .inr (7, [.ref ma, .ref mw, .int 0, .int 1])), (ma, .inr (0, [.int 0, .ref t, .int 0]))] := hD
  have hK : va_K (dC, dI) zc [(k1, .int), (k2, .int), (k3, .long)] s := hK
  refine lv_istore (lv' := [(7, .int r_13), (6, .int 1), (5, .int 0), (4, .ref od), (3, .ref o), (2, .ref m0), (1, .ref x0), (0, .ref b)]) hx hb dL_law_2681 hl (by decide) rfl (fun ls hl => ?_)
  refine lv_aload_n hx hb dL_law_2683 rfl (lv_at hl 5 rfl) ?_
  refine vp_callSi (W.runV (As := []) (rest := []) ⟨hx, hb, hml, hown, hts⟩ (c_thrown l dC dI H.size t m0 (.ref ma) (.ref mw) 0 1) (cwV 0 hts (zg_V kw_1365 kw_1366 kw_1367 kw_70 kw_1368) rfl rfl rfl (by decide +kernel) ⟨Nat.le_of_ble_eq_true rfl, Nat.le_of_ble_eq_true rfl⟩) ⟨zA_blind, va_recv hK hP (ci := 7) (q0 := 5) rfl rfl, zA_pre hP hD hS hK hQ hA [5] rfl rfl (by decide) [] rfl⟩ rfl rfl hl.1 rfl (lv_room (Nat.le_of_ble_eq_true rfl)) dL_law_2684 ⟨zl_b rfl, zl_b rfl⟩) (fun r hr => ?_)
  subst hr
  refine lv_iload hx hb dL_law_2687 (lv_at hl 1 rfl) ?_
  refine lv_icmp_eq (tgt := 2694) hx hb dL_law_2689 (by decide) (fun c_14 => ?_) (fun c_14 => absurd c_14 (by decide))
  refine lv_iload hx hb dL_law_2694 (lv_at hl 1 rfl) ?_
  refine lv_if_ne (tgt := 2711) hx hb dL_law_2696 (by decide) (fun c_15 => ?_) (fun c_15 => absurd c_15 (by decide))
  refine lv_goto (tgt := 2981) hx hb dL_law_2711 (by decide) ?_
  exact law_tail l C0 _ _ (zl_b rfl) (zl_b rfl) _ _ hS ls (lv_sub hl [7, 2] rfl)
set_option maxHeartbeats 4000000 in
set_option maxRecDepth 100000 in
/-- the law on reasons -/
theorem law_c36 {p : Program} {e : Env} {s : State} {m : MethodId} {below : List Frame} {meth : Method} {c : Code} {b : Nat} {xs : Nat → Int32} (l : Launch) (hst : l.stackTraces = false) (C0 : lw_At p s m meth c b 5 xs) {dC : Nat → ClassId} {dI : Nat → Nat → Nat} {t x0 xa xw xb m0 ma mw o od : Nat} {k1 k2 k3 : ClassId} (H : Heap) (locs : List Loc) (hK : va_K (dC, dI) zc [(k1, .int), (k2, .int), (k3, .long)] s) (hQ : zQ t (fun q : Nat => s.heap.size ≤ q) s s.heap) (hP : va_P (dC, dI) zc [(x0, .inr (5, [.ref xa, .ref xw, .ref xb, .int 0])), (xa, .inr (0, [.int 0, .ref t, .int 0])), (xw, .inl (k1, 4, .inl (zW))), (m0, .inr (7, [.ref ma, .ref mw, .int 0, .int 0])), (ma, .inr (0, [.int 0, .ref t, .int 0])), (mw, .inl (k2, 4, .inl (zW))), (o, .inl (k3, 1, .inr (.inl (fun _ => 0))))] H) (hD : va_D (fun q : Nat => s.heap.size ≤ q) [(x0, .inr (5, [.ref xa, .ref xw, .ref xb, .int 0])), (xa, .inr (0, [.int 0, .ref t, .int 0])), (xw, .inl (k1, 4, .inl (zW))), (m0, .inr (7, [.ref ma, .ref mw, .int 0, .int 0])), (ma, .inr (0, [.int 0, .ref t, .int 0])), (mw, .inl (k2, 4, .inl (zW))), (o, .inl (k3, 1, .inr (.inl (fun _ => 0))))]) (hS : va_S (fun q : Nat => s.heap.size ≤ q) s.heap H locs) (ls : Array Slot) (hl : lv_has ls 9 [(5, .int 0), (4, .ref od), (3, .ref o), (2, .ref m0), (1, .ref x0), (0, .ref b)]) : W p l e room_1 s m #[Value.ref b] below meth c H locs 26 125 (lw_Z below #[Value.ref b] s) (F0 m 2714 ls []) := by
  obtain ⟨hx, hb, hr, hml, hown, hts0, hX, hbl, hlocks, hgv⟩ := id C0
  have hts : ∀ w ∈ zG, w.before #[Value.ref b] s = true := fun w h => hts0 w (zg_tbl h)
  have hA : ∀ q : Nat, s.heap.size ≤ q → (fun q : Nat => s.heap.size ≤ q) q := fun _ h => h
  have hbA : ¬ (fun q : Nat => s.heap.size ≤ q) b := Nat.not_le.mpr hbl
  refine lv_aload_n hx hb dL_law_2714 rfl (lv_at hl 4 rfl) ?_
  refine lv_aload_n hx hb dL_law_2715 rfl (lv_at hl 5 rfl) ?_
  refine lv_iload hx hb dL_law_2716 (lv_at hl 0 rfl) ?_
  refine lv_iconst (v := 1) hx hb dL_law_2718 (by decide) ?_
  refine lv_iadd hx hb dL_law_2719 ?_
  refine va_sld hx hb hX hbl hbA hS (by unfold vp_in; decide) dL_law_2720 ?_
  refine lv_topi (fun v_1 e_v_1 => ?_)
  refine lv_aload_n hx hb dL_law_2721 rfl (lv_at hl 5 rfl) ?_
  refine lv_iload hx hb dL_law_2722 (lv_at hl 0 rfl) ?_
  refine lv_iconst (v := 2) hx hb dL_law_2724 (by decide) ?_
  refine lv_iadd hx hb dL_law_2725 ?_
  refine va_sld hx hb hX hbl hbA hS (by unfold vp_in; decide) dL_law_2726 ?_
  refine lv_topi (fun v_2 e_v_2 => ?_)
  refine lv_i2c hx hb dL_law_2727 rfl ?_
  refine lv_topi (fun ch_3 e_ch_3 => ?_)
  refine lv_aload_n hx hb dL_law_2728 rfl (lv_at hl 5 rfl) ?_
  refine lv_iload hx hb dL_law_2729 (lv_at hl 0 rfl) ?_
  refine lv_iconst (v := 3) hx hb dL_law_2731 (by decide) ?_
  refine lv_iadd hx hb dL_law_2732 ?_
  refine va_sld hx hb hX hbl hbA hS (by unfold vp_in; decide) dL_law_2733 ?_
  refine lv_topi (fun v_4 e_v_4 => ?_)
  refine lv_aload_n hx hb dL_law_2734 rfl (lv_at hl 2 rfl) ?_
  refine vx_calli (vx_runSX (As := [.ref x0, .int v_1, .int ch_3, .int v_4, .ref o]) (rest := []) ⟨hx, hb, hml, hown, hts⟩ (lx_reasons l hst dC dI H.size t x0 xa o (.ref xw) (.ref xb) 0 (.ref t) v_1 ch_3 v_4) (vx_cwSW 5 hts (zg_S kw_1298 kw_1299 kw_63 kw_1300) rfl rfl rfl (by decide +kernel) ⟨Nat.le_of_ble_eq_true rfl, Nat.le_of_ble_eq_true rfl⟩) ⟨zA_blind, zA_pre hP hD hS hK hQ hA [0, 1] rfl rfl (by decide) [] rfl⟩ rfl rfl hl.1 rfl (lv_room (Nat.le_of_ble_eq_true rfl)) dL_law_2735 ⟨zl_b rfl, zl_b rfl⟩) hS (fun q _ h => hA q (Nat.le_trans (hS.1) h)) (fun q h => hA q (Nat.le_trans (hS.1) h)) (fun q _ h => h.elim) (fun E ce q9 u t9 H1 locs1 ht hvm hp9 hE hz1 hk1 hS1 hc1 hv1 hcl1 => hp9.elim) (fun r_5 u t9 H1 locs ht hvm hw hB hz1 hk1 hS => ?_)
  have hw : r_5 = 1 := hw
  subst hw
  have hP := zP_new hP hk1
  generalize H1 = H at hP hS ⊢
  have hP : va_P (dC, dI) zc [(x0, .inr (5, [.ref xa, .ref xw, .ref xb, .int 0])), (xa, .inr (0, [.int 0, .ref t, .int 0])), (xw, .inl (k1, 4, .inl (zW))), (m0, .inr (7, [.ref ma, .ref mw, .int 0, .int 0])), (ma, .inr (0, [.int 0, .ref t, .int 0])), (mw, .inl (k2, 4, .inl (zW))), (o, .inl (k3, 1, .inr (.inl (fun _ => 0))))] H := hP
  have hD : va_D (fun q : Nat => s.heap.size ≤ q) [(x0, .inr (5, [.ref xa, .ref xw, .ref xb, .int 0])), (xa, .inr (0, [.int 0, .ref t, .int 0])), (xw, .inl (k1, 4, .inl (zW))), (m0, .inr (7, [.ref ma, .ref mw, .int 0, .int 0])), (ma, .inr (0, [.int 0, .ref t, .int 0])), (mw, .inl (k2, 4, .inl (zW))), (o, .inl (k3, 1, .inr (.inl (fun _ => 0))))] := hD
  refine W.widen (k := 27) (n := 131) (zl_b rfl) (zl_b rfl) ?_
  refine lv_istore (lv' := [(6, .int 1), (5, .int 0), (4, .ref od), (3, .ref o), (2, .ref m0), (1, .ref x0), (0, .ref b)]) hx hb dL_law_2738 hl (by decide) rfl (fun ls hl => ?_)
  refine lv_aload_n hx hb dL_law_2740 rfl (lv_at hl 4 rfl) ?_
  refine lv_aload_n hx hb dL_law_2741 rfl (lv_at hl 6 rfl) ?_
  refine lv_iload hx hb dL_law_2742 (lv_at hl 1 rfl) ?_
  refine lv_iconst (v := 1) hx hb dL_law_2744 (by decide) ?_
  refine lv_iadd hx hb dL_law_2745 ?_
  refine va_sld hx hb hX hbl hbA hS (by unfold vp_in; decide) dL_law_2746 ?_
  refine lv_topi (fun v_6 e_v_6 => ?_)
  have s_7 : v_1 = v_6 := by rw [e_v_1, e_v_6]
  subst s_7
  refine lv_aload_n hx hb dL_law_2747 rfl (lv_at hl 6 rfl) ?_
  refine lv_iload hx hb dL_law_2748 (lv_at hl 1 rfl) ?_
  refine lv_iconst (v := 2) hx hb dL_law_2750 (by decide) ?_
  refine lv_iadd hx hb dL_law_2751 ?_
  refine va_sld hx hb hX hbl hbA hS (by unfold vp_in; decide) dL_law_2752 ?_
  refine lv_topi (fun v_8 e_v_8 => ?_)
  have s_9 : v_2 = v_8 := by rw [e_v_2, e_v_8]
  subst s_9
  refine lv_i2c hx hb dL_law_2753 rfl ?_
  refine lv_topi (fun ch_10 e_ch_10 => ?_)
  refine lv_aload_n hx hb dL_law_2754 rfl (lv_at hl 6 rfl) ?_
  refine lv_iload hx hb dL_law_2755 (lv_at hl 1 rfl) ?_
  refine lv_iconst (v := 3) hx hb dL_law_2757 (by decide) ?_
  refine lv_iadd hx hb dL_law_2758 ?_
  refine va_sld hx hb hX hbl hbA hS (by unfold vp_in; decide) dL_law_2759 ?_
  refine lv_topi (fun v_11 e_v_11 => ?_)
  have s_12 : v_4 = v_11 := by rw [e_v_4, e_v_11]
  subst s_12
  have hFc := va_free (wc := [(m0, .inr (7, [.ref ma, .ref mw, .int 0, .int 0])), (ma, .inr (0, [.int 0, .ref t, .int 0]))]) hD hS hA [3, 4] rfl
  refine va_calli (va_runV (As := [.int v_1, .int ch_10, .int v_4]) (rest := []) ⟨hx, hb, hml, hown, hts⟩ (m_reasons l dC dI H.size t m0 ma (.ref mw) 0 0 (.ref t) v_1 ch_10 v_4) (cwV 3 hts (zg_V kw_1981 kw_1982 kw_1983 kw_70 kw_1984) rfl rfl rfl (by decide +kernel) ⟨Nat.le_of_ble_eq_true rfl, Nat.le_of_ble_eq_true rfl⟩) ⟨zA_blind, va_recv hK hP (ci := 7) (q0 := 3) rfl rfl, zA_pre hP hD hS hK hQ hA [3, 4] rfl rfl (by decide) [] rfl⟩ rfl rfl hl.1 rfl (lv_room (Nat.le_of_ble_eq_true rfl)) dL_law_2760 ⟨zl_b rfl, zl_b rfl⟩) hS (fun q _ h => hFc q h) hFc (fun r_13 u t9 H1 locs ht hvm hw hB hz1 hk1 hS => ?_)
  obtain ⟨hP1, hK1, hD1⟩ := hB
  rw [ht] at hP1
  have hK1 := va_K.moved hvm.symm hK1
  obtain ⟨hP, hD⟩ := va_join (wr := [(x0, .inr (5, [.ref xa, .ref xw, .ref xb, .int 0])), (xa, .inr (0, [.int 0, .ref t, .int 0])), (xw, .inl (k1, 4, .inl (zW))), (mw, .inl (k2, 4, .inl (zW))), (o, .inl (k3, 1, .inr (.inl (fun _ => 0))))]) (w1 := [(m0, .inr (7, [.ref ma, .ref mw, .int 0, .int 1])), (ma, .inr (0, [.int 0, .ref t, .int 0]))]) hP hD [3, 4] [0, 1, 2, 5, 6] rfl rfl (by decide) (by decide) hk1 hFc hP1 hD1
  have hK := (hK.sub (tys' := [(k1, .int), (k2, .int), (k3, .long)]) [0, 1, 2] rfl).app hK1
  generalize H1 = H at hP hS ⊢
  have hP : va_P (dC, dI) zc [(x0, .inr (5, [.ref xa, .ref xw, .ref xb, .int 0])), (xa, .inr (0, [.int 0, .ref t, .int 0])), (xw, .inl (k1, 4, .inl (zW))), (mw, .inl (k2, 4, .inl (zW))), (o, .inl (k3, 1, .inr (.inl (fun _ => 0)))), (m0, .inr (7, [.ref ma, .ref mw, .int 0, .int 1])), (ma, .inr (0, [.int 0, .ref t, .int 0]))] H := hP
  have hD : va_D (fun q : Nat => s.heap.size ≤ q) [(x0, .inr (5, [.ref xa, .ref xw, .ref xb, .int 0])), (xa, .inr (0, [.int 0, .ref t, .int 0])), (xw, .inl (k1, 4, .inl (zW))), (mw, .inl (k2, 4, .inl (zW))), (o, .inl (k3, 1, .inr (.inl (fun _ => 0)))), (m0, .inr (7, [.ref ma, .ref mw, .int 0, .int 1])), (ma, .inr (0, [.int 0, .ref t, .int 0]))] := hD
  have hK : va_K (dC, dI) zc [(k1, .int), (k2, .int), (k3, .long)] s := hK
  refine lv_istore (lv' := [(7, .int r_13), (6, .int 1), (5, .int 0), (4, .ref od), (3, .ref o), (2, .ref m0), (1, .ref x0), (0, .ref b)]) hx hb dL_law_2763 hl (by decide) rfl (fun ls hl => ?_)
  refine lv_aload_n hx hb dL_law_2765 rfl (lv_at hl 5 rfl) ?_
  refine vp_callSi (W.runV (As := []) (rest := []) ⟨hx, hb, hml, hown, hts⟩ (c_thrown l dC dI H.size t m0 (.ref ma) (.ref mw) 0 1) (cwV 0 hts (zg_V kw_1365 kw_1366 kw_1367 kw_70 kw_1368) rfl rfl rfl (by decide +kernel) ⟨Nat.le_of_ble_eq_true rfl, Nat.le_of_ble_eq_true rfl⟩) ⟨zA_blind, va_recv hK hP (ci := 7) (q0 := 5) rfl rfl, zA_pre hP hD hS hK hQ hA [5] rfl rfl (by decide) [] rfl⟩ rfl rfl hl.1 rfl (lv_room (Nat.le_of_ble_eq_true rfl)) dL_law_2766 ⟨zl_b rfl, zl_b rfl⟩) (fun r hr => ?_)
  subst hr
  refine lv_iload hx hb dL_law_2769 (lv_at hl 1 rfl) ?_
  refine lv_icmp_eq (tgt := 2776) hx hb dL_law_2771 (by decide) (fun c_14 => ?_) (fun c_14 => absurd c_14 (by decide))
  refine lv_iload hx hb dL_law_2776 (lv_at hl 1 rfl) ?_
  refine lv_if_ne (tgt := 2793) hx hb dL_law_2778 (by decide) (fun c_15 => ?_) (fun c_15 => absurd c_15 (by decide))
  refine lv_goto (tgt := 2981) hx hb dL_law_2793 (by decide) ?_
  exact law_tail l C0 _ _ (zl_b rfl) (zl_b rfl) _ _ hS ls (lv_sub hl [7, 2] rfl)
set_option maxHeartbeats 4000000 in
set_option maxRecDepth 100000 in
/-- the law on collected -/
theorem law_c37 {p : Program} {e : Env} {s : State} {m : MethodId} {below : List Frame} {meth : Method} {c : Code} {b : Nat} {xs : Nat → Int32} (l : Launch) (hst : l.stackTraces = false) (C0 : lw_At p s m meth c b 5 xs) {dC : Nat → ClassId} {dI : Nat → Nat → Nat} {t x0 xa xw xb m0 ma mw o od : Nat} {k1 k2 k3 : ClassId} (H : Heap) (locs : List Loc) (hK : va_K (dC, dI) zc [(k1, .int), (k2, .int), (k3, .long)] s) (hQ : zQ t (fun q : Nat => s.heap.size ≤ q) s s.heap) (hP : va_P (dC, dI) zc [(x0, .inr (5, [.ref xa, .ref xw, .ref xb, .int 0])), (xa, .inr (0, [.int 0, .ref t, .int 0])), (xw, .inl (k1, 4, .inl (zW))), (m0, .inr (7, [.ref ma, .ref mw, .int 0, .int 0])), (ma, .inr (0, [.int 0, .ref t, .int 0])), (mw, .inl (k2, 4, .inl (zW))), (o, .inl (k3, 1, .inr (.inl (fun _ => 0))))] H) (hD : va_D (fun q : Nat => s.heap.size ≤ q) [(x0, .inr (5, [.ref xa, .ref xw, .ref xb, .int 0])), (xa, .inr (0, [.int 0, .ref t, .int 0])), (xw, .inl (k1, 4, .inl (zW))), (m0, .inr (7, [.ref ma, .ref mw, .int 0, .int 0])), (ma, .inr (0, [.int 0, .ref t, .int 0])), (mw, .inl (k2, 4, .inl (zW))), (o, .inl (k3, 1, .inr (.inl (fun _ => 0))))]) (hS : va_S (fun q : Nat => s.heap.size ≤ q) s.heap H locs) (ls : Array Slot) (hl : lv_has ls 9 [(5, .int 0), (4, .ref od), (3, .ref o), (2, .ref m0), (1, .ref x0), (0, .ref b)]) : W p l e room_1 s m #[Value.ref b] below meth c H locs 26 125 (lw_Z below #[Value.ref b] s) (F0 m 2796 ls []) := by
  obtain ⟨hx, hb, hr, hml, hown, hts0, hX, hbl, hlocks, hgv⟩ := id C0
  have hts : ∀ w ∈ zG, w.before #[Value.ref b] s = true := fun w h => hts0 w (zg_tbl h)
  have hA : ∀ q : Nat, s.heap.size ≤ q → (fun q : Nat => s.heap.size ≤ q) q := fun _ h => h
  have hbA : ¬ (fun q : Nat => s.heap.size ≤ q) b := Nat.not_le.mpr hbl
  refine lv_aload_n hx hb dL_law_2796 rfl (lv_at hl 4 rfl) ?_
  refine vp_callSl (W.runV (As := []) (rest := []) ⟨hx, hb, hml, hown, hts⟩ (c_collected l dC dI H.size t x0 xa (.ref xw) (.ref xb)) (cwV 0 hts (zg_V kw_253 kw_254 kw_255 kw_64 kw_256) rfl rfl rfl (by decide +kernel) ⟨Nat.le_of_ble_eq_true rfl, Nat.le_of_ble_eq_true rfl⟩) ⟨zA_blind, va_recv hK hP (ci := 5) (q0 := 0) rfl rfl, zA_pre hP hD hS hK hQ hA [0, 1] rfl rfl (by decide) [] rfl⟩ rfl rfl hl.1 rfl (lv_room (Nat.le_of_ble_eq_true rfl)) dL_law_2797 ⟨zl_b rfl, zl_b rfl⟩) (fun r hr => ?_)
  subst hr
  refine lv_aload_n hx hb dL_law_2800 rfl (lv_at hl 3 rfl) ?_
  have hFc := va_free (wc := [(m0, .inr (7, [.ref ma, .ref mw, .int 0, .int 0])), (ma, .inr (0, [.int 0, .ref t, .int 0]))]) hD hS hA [3, 4] rfl
  refine va_calll (va_runV (As := []) (rest := [.long 0]) ⟨hx, hb, hml, hown, hts⟩ (m_collected l dC dI H.size t m0 ma (.ref mw)) (cwV 0 hts (zg_V kw_1985 kw_1986 kw_1987 kw_70 kw_1988) rfl rfl rfl (by decide +kernel) ⟨Nat.le_of_ble_eq_true rfl, Nat.le_of_ble_eq_true rfl⟩) ⟨zA_blind, va_recv hK hP (ci := 7) (q0 := 3) rfl rfl, zA_pre hP hD hS hK hQ hA [3, 4] rfl rfl (by decide) [] rfl⟩ rfl rfl hl.1 rfl (lv_room (Nat.le_of_ble_eq_true rfl)) dL_law_2801 ⟨zl_b rfl, zl_b rfl⟩) hS (fun q _ h => hFc q h) hFc (fun r_1 u t9 H1 locs ht hvm hw hB hz1 hk1 hS => ?_)
  obtain ⟨hP1, hK1, hD1⟩ := hB
  rw [ht] at hP1
  have hK1 := va_K.moved hvm.symm hK1
  obtain ⟨hP, hD⟩ := va_join (wr := [(x0, .inr (5, [.ref xa, .ref xw, .ref xb, .int 0])), (xa, .inr (0, [.int 0, .ref t, .int 0])), (xw, .inl (k1, 4, .inl (zW))), (mw, .inl (k2, 4, .inl (zW))), (o, .inl (k3, 1, .inr (.inl (fun _ => 0))))]) (w1 := []) hP hD [3, 4] [0, 1, 2, 5, 6] rfl rfl (by decide) (by decide) hk1 hFc hP1 hD1
  have hK := (hK.sub (tys' := [(k1, .int), (k2, .int), (k3, .long)]) [0, 1, 2] rfl).app hK1
  generalize H1 = H at hP hS ⊢
  have hP : va_P (dC, dI) zc [(x0, .inr (5, [.ref xa, .ref xw, .ref xb, .int 0])), (xa, .inr (0, [.int 0, .ref t, .int 0])), (xw, .inl (k1, 4, .inl (zW))), (mw, .inl (k2, 4, .inl (zW))), (o, .inl (k3, 1, .inr (.inl (fun _ => 0))))] H := hP
  have hD : va_D (fun q : Nat => s.heap.size ≤ q) [(x0, .inr (5, [.ref xa, .ref xw, .ref xb, .int 0])), (xa, .inr (0, [.int 0, .ref t, .int 0])), (xw, .inl (k1, 4, .inl (zW))), (mw, .inl (k2, 4, .inl (zW))), (o, .inl (k3, 1, .inr (.inl (fun _ => 0))))] := hD
  have hK : va_K (dC, dI) zc [(k1, .int), (k2, .int), (k3, .long)] s := hK
  refine W.widen (k := 27) (n := 129) (zl_b rfl) (zl_b rfl) ?_
  have hw : 0 = r_1 := hw.symm
  subst hw
  refine W.lcmp hx hb dL_law_2804 ?_
  refine lv_if_eq (tgt := 2981) hx hb dL_law_2805 (by decide) (fun c_2 => ?_) (fun c_2 => absurd (zi_cmp _) c_2)
  exact law_tail l C0 _ _ (zl_b rfl) (zl_b rfl) _ _ hS ls (lv_sub hl [5, 0] rfl)
set_option maxHeartbeats 4000000 in
set_option maxRecDepth 100000 in
/-- the law on today -/
theorem law_c38 {p : Program} {e : Env} {s : State} {m : MethodId} {below : List Frame} {meth : Method} {c : Code} {b : Nat} {xs : Nat → Int32} (l : Launch) (hst : l.stackTraces = false) (C0 : lw_At p s m meth c b 5 xs) {dC : Nat → ClassId} {dI : Nat → Nat → Nat} {t x0 xa xw xb m0 ma mw o od : Nat} {k1 k2 k3 : ClassId} (H : Heap) (locs : List Loc) (hK : va_K (dC, dI) zc [(k1, .int), (k2, .int), (k3, .long)] s) (hQ : zQ t (fun q : Nat => s.heap.size ≤ q) s s.heap) (hP : va_P (dC, dI) zc [(x0, .inr (5, [.ref xa, .ref xw, .ref xb, .int 0])), (xa, .inr (0, [.int 0, .ref t, .int 0])), (xw, .inl (k1, 4, .inl (zW))), (m0, .inr (7, [.ref ma, .ref mw, .int 0, .int 0])), (ma, .inr (0, [.int 0, .ref t, .int 0])), (mw, .inl (k2, 4, .inl (zW))), (o, .inl (k3, 1, .inr (.inl (fun _ => 0))))] H) (hD : va_D (fun q : Nat => s.heap.size ≤ q) [(x0, .inr (5, [.ref xa, .ref xw, .ref xb, .int 0])), (xa, .inr (0, [.int 0, .ref t, .int 0])), (xw, .inl (k1, 4, .inl (zW))), (m0, .inr (7, [.ref ma, .ref mw, .int 0, .int 0])), (ma, .inr (0, [.int 0, .ref t, .int 0])), (mw, .inl (k2, 4, .inl (zW))), (o, .inl (k3, 1, .inr (.inl (fun _ => 0))))]) (hS : va_S (fun q : Nat => s.heap.size ≤ q) s.heap H locs) (ls : Array Slot) (hl : lv_has ls 9 [(5, .int 0), (4, .ref od), (3, .ref o), (2, .ref m0), (1, .ref x0), (0, .ref b)]) : W p l e room_1 s m #[Value.ref b] below meth c H locs 26 125 (lw_Z below #[Value.ref b] s) (F0 m 2810 ls []) := by
  obtain ⟨hx, hb, hr, hml, hown, hts0, hX, hbl, hlocks, hgv⟩ := id C0
  have hts : ∀ w ∈ zG, w.before #[Value.ref b] s = true := fun w h => hts0 w (zg_tbl h)
  have hA : ∀ q : Nat, s.heap.size ≤ q → (fun q : Nat => s.heap.size ≤ q) q := fun _ h => h
  have hbA : ¬ (fun q : Nat => s.heap.size ≤ q) b := Nat.not_le.mpr hbl
  refine lv_aload_n hx hb dL_law_2810 rfl (lv_at hl 4 rfl) ?_
  refine vp_callSi (W.runV (As := []) (rest := []) ⟨hx, hb, hml, hown, hts⟩ (c_today l dC dI H.size t x0 xa (.ref xw) (.ref xb)) (cwV 0 hts (zg_V kw_284 kw_285 kw_286 kw_64 kw_287) rfl rfl rfl (by decide +kernel) ⟨Nat.le_of_ble_eq_true rfl, Nat.le_of_ble_eq_true rfl⟩) ⟨zA_blind, va_recv hK hP (ci := 5) (q0 := 0) rfl rfl, zA_pre hP hD hS hK hQ hA [0, 1] rfl rfl (by decide) [] rfl⟩ rfl rfl hl.1 rfl (lv_room (Nat.le_of_ble_eq_true rfl)) dL_law_2811 ⟨zl_b rfl, zl_b rfl⟩) (fun r hr => ?_)
  subst hr
  refine lv_aload_n hx hb dL_law_2814 rfl (lv_at hl 3 rfl) ?_
  refine vp_callSi (W.runV (As := []) (rest := [.int 0]) ⟨hx, hb, hml, hown, hts⟩ (m_today l dC dI H.size t m0 ma (.ref mw)) (cwV 0 hts (zg_V kw_1989 kw_1990 kw_1991 kw_70 kw_1992) rfl rfl rfl (by decide +kernel) ⟨Nat.le_of_ble_eq_true rfl, Nat.le_of_ble_eq_true rfl⟩) ⟨zA_blind, va_recv hK hP (ci := 7) (q0 := 3) rfl rfl, zA_pre hP hD hS hK hQ hA [3, 4] rfl rfl (by decide) [] rfl⟩ rfl rfl hl.1 rfl (lv_room (Nat.le_of_ble_eq_true rfl)) dL_law_2815 ⟨zl_b rfl, zl_b rfl⟩) (fun r hr => ?_)
  subst hr
  refine lv_icmp_eq (tgt := 2981) hx hb dL_law_2818 (by decide) (fun c_1 => ?_) (fun c_1 => absurd c_1 (by decide))
  exact law_tail l C0 _ _ (zl_b rfl) (zl_b rfl) _ _ hS ls (lv_sub hl [5, 0] rfl)
set_option maxHeartbeats 4000000 in
set_option maxRecDepth 100000 in
/-- the law on checksum -/
theorem law_c39 {p : Program} {e : Env} {s : State} {m : MethodId} {below : List Frame} {meth : Method} {c : Code} {b : Nat} {xs : Nat → Int32} (l : Launch) (hst : l.stackTraces = false) (C0 : lw_At p s m meth c b 5 xs) {dC : Nat → ClassId} {dI : Nat → Nat → Nat} {t x0 xa xw xb m0 ma mw o od : Nat} {k1 k2 k3 : ClassId} (H : Heap) (locs : List Loc) (hK : va_K (dC, dI) zc [(k1, .int), (k2, .int), (k3, .long)] s) (hQ : zQ t (fun q : Nat => s.heap.size ≤ q) s s.heap) (hP : va_P (dC, dI) zc [(x0, .inr (5, [.ref xa, .ref xw, .ref xb, .int 0])), (xa, .inr (0, [.int 0, .ref t, .int 0])), (xw, .inl (k1, 4, .inl (zW))), (m0, .inr (7, [.ref ma, .ref mw, .int 0, .int 0])), (ma, .inr (0, [.int 0, .ref t, .int 0])), (mw, .inl (k2, 4, .inl (zW))), (o, .inl (k3, 1, .inr (.inl (fun _ => 0))))] H) (hD : va_D (fun q : Nat => s.heap.size ≤ q) [(x0, .inr (5, [.ref xa, .ref xw, .ref xb, .int 0])), (xa, .inr (0, [.int 0, .ref t, .int 0])), (xw, .inl (k1, 4, .inl (zW))), (m0, .inr (7, [.ref ma, .ref mw, .int 0, .int 0])), (ma, .inr (0, [.int 0, .ref t, .int 0])), (mw, .inl (k2, 4, .inl (zW))), (o, .inl (k3, 1, .inr (.inl (fun _ => 0))))]) (hS : va_S (fun q : Nat => s.heap.size ≤ q) s.heap H locs) (ls : Array Slot) (hl : lv_has ls 9 [(5, .int 0), (4, .ref od), (3, .ref o), (2, .ref m0), (1, .ref x0), (0, .ref b)]) : W p l e room_1 s m #[Value.ref b] below meth c H locs 26 125 (lw_Z below #[Value.ref b] s) (F0 m 2823 ls []) := by
  obtain ⟨hx, hb, hr, hml, hown, hts0, hX, hbl, hlocks, hgv⟩ := id C0
  have hts : ∀ w ∈ zG, w.before #[Value.ref b] s = true := fun w h => hts0 w (zg_tbl h)
  have hA : ∀ q : Nat, s.heap.size ≤ q → (fun q : Nat => s.heap.size ≤ q) q := fun _ h => h
  have hbA : ¬ (fun q : Nat => s.heap.size ≤ q) b := Nat.not_le.mpr hbl
  refine lv_aload_n hx hb dL_law_2823 rfl (lv_at hl 4 rfl) ?_
  refine vp_callSl (W.runV (As := []) (rest := []) ⟨hx, hb, hml, hown, hts⟩ (c_checksum l dC dI H.size t x0 xa (.ref xw) (.ref xb)) (cwV 0 hts (zg_V kw_288 kw_289 kw_290 kw_64 kw_291) rfl rfl rfl (by decide +kernel) ⟨Nat.le_of_ble_eq_true rfl, Nat.le_of_ble_eq_true rfl⟩) ⟨zA_blind, va_recv hK hP (ci := 5) (q0 := 0) rfl rfl, zA_pre hP hD hS hK hQ hA [0, 1] rfl rfl (by decide) [] rfl⟩ rfl rfl hl.1 rfl (lv_room (Nat.le_of_ble_eq_true rfl)) dL_law_2824 ⟨zl_b rfl, zl_b rfl⟩) (fun r hr => ?_)
  subst hr
  refine lv_aload_n hx hb dL_law_2827 rfl (lv_at hl 3 rfl) ?_
  refine vp_callSl (W.runV (As := []) (rest := [.long 217]) ⟨hx, hb, hml, hown, hts⟩ (m_checksum l dC dI H.size t m0 ma (.ref mw)) (cwV 0 hts (zg_V kw_1993 kw_1994 kw_1995 kw_70 kw_1996) rfl rfl rfl (by decide +kernel) ⟨Nat.le_of_ble_eq_true rfl, Nat.le_of_ble_eq_true rfl⟩) ⟨zA_blind, va_recv hK hP (ci := 7) (q0 := 3) rfl rfl, zA_pre hP hD hS hK hQ hA [3, 4] rfl rfl (by decide) [] rfl⟩ rfl rfl hl.1 rfl (lv_room (Nat.le_of_ble_eq_true rfl)) dL_law_2828 ⟨zl_b rfl, zl_b rfl⟩) (fun r hr => ?_)
  subst hr
  refine W.lcmp hx hb dL_law_2831 ?_
  refine lv_if_eq (tgt := 2981) hx hb dL_law_2832 (by decide) (fun c_1 => ?_) (fun c_1 => absurd (zi_cmp _) c_1)
  exact law_tail l C0 _ _ (zl_b rfl) (zl_b rfl) _ _ hS ls (lv_sub hl [5, 0] rfl)
set_option maxHeartbeats 4000000 in
set_option maxRecDepth 100000 in
/-- the law on missedShare -/
theorem law_c40 {p : Program} {e : Env} {s : State} {m : MethodId} {below : List Frame} {meth : Method} {c : Code} {b : Nat} {xs : Nat → Int32} (l : Launch) (hst : l.stackTraces = false) (C0 : lw_At p s m meth c b 5 xs) {dC : Nat → ClassId} {dI : Nat → Nat → Nat} {t x0 xa xw xb m0 ma mw o od : Nat} {k1 k2 k3 : ClassId} (H : Heap) (locs : List Loc) (hK : va_K (dC, dI) zc [(k1, .int), (k2, .int), (k3, .long)] s) (hQ : zQ t (fun q : Nat => s.heap.size ≤ q) s s.heap) (hP : va_P (dC, dI) zc [(x0, .inr (5, [.ref xa, .ref xw, .ref xb, .int 0])), (xa, .inr (0, [.int 0, .ref t, .int 0])), (xw, .inl (k1, 4, .inl (zW))), (m0, .inr (7, [.ref ma, .ref mw, .int 0, .int 0])), (ma, .inr (0, [.int 0, .ref t, .int 0])), (mw, .inl (k2, 4, .inl (zW))), (o, .inl (k3, 1, .inr (.inl (fun _ => 0))))] H) (hD : va_D (fun q : Nat => s.heap.size ≤ q) [(x0, .inr (5, [.ref xa, .ref xw, .ref xb, .int 0])), (xa, .inr (0, [.int 0, .ref t, .int 0])), (xw, .inl (k1, 4, .inl (zW))), (m0, .inr (7, [.ref ma, .ref mw, .int 0, .int 0])), (ma, .inr (0, [.int 0, .ref t, .int 0])), (mw, .inl (k2, 4, .inl (zW))), (o, .inl (k3, 1, .inr (.inl (fun _ => 0))))]) (hS : va_S (fun q : Nat => s.heap.size ≤ q) s.heap H locs) (ls : Array Slot) (hl : lv_has ls 9 [(5, .int 0), (4, .ref od), (3, .ref o), (2, .ref m0), (1, .ref x0), (0, .ref b)]) : W p l e room_1 s m #[Value.ref b] below meth c H locs 26 125 (lw_Z below #[Value.ref b] s) (F0 m 2837 ls []) := by
  obtain ⟨hx, hb, hr, hml, hown, hts0, hX, hbl, hlocks, hgv⟩ := id C0
  have hts : ∀ w ∈ zG, w.before #[Value.ref b] s = true := fun w h => hts0 w (zg_tbl h)
  have hA : ∀ q : Nat, s.heap.size ≤ q → (fun q : Nat => s.heap.size ≤ q) q := fun _ h => h
  have hbA : ¬ (fun q : Nat => s.heap.size ≤ q) b := Nat.not_le.mpr hbl
  refine lv_aload_n hx hb dL_law_2837 rfl (lv_at hl 4 rfl) ?_
  refine lv_aload hx hb dL_law_2838 (lv_at hl 1 rfl) ?_
  refine vx_calli (vx_runSX (As := [.ref x0, .ref od]) (rest := []) ⟨hx, hb, hml, hown, hts⟩ (lo_missedShare l hst dC dI H.size t x0 xa (.ref xw) (.ref xb) od) (vx_cwSW 2 hts (zg_S kw_1311 kw_1312 kw_63 kw_1313) rfl rfl rfl (by decide +kernel) ⟨Nat.le_of_ble_eq_true rfl, Nat.le_of_ble_eq_true rfl⟩) ⟨zA_blind, zA_pre hP hD hS hK hQ hA [0, 1] rfl rfl (by decide) [] rfl⟩ rfl rfl hl.1 rfl (lv_room (Nat.le_of_ble_eq_true rfl)) dL_law_2840 ⟨zl_b rfl, zl_b rfl⟩) hS (fun q _ h => hA q (Nat.le_trans (hS.1) h)) (fun q h => hA q (Nat.le_trans (hS.1) h)) (fun q _ h => h.elim) (fun E ce q9 u t9 H1 locs1 ht hvm hp9 hE hz1 hk1 hS1 hc1 hv1 hcl1 => hp9.elim) (fun r_1 u t9 H1 locs ht hvm hw hB hz1 hk1 hS => ?_)
  have hw : r_1 = 1 := hw
  subst hw
  have hP := zP_new hP hk1
  generalize H1 = H at hP hS ⊢
  have hP : va_P (dC, dI) zc [(x0, .inr (5, [.ref xa, .ref xw, .ref xb, .int 0])), (xa, .inr (0, [.int 0, .ref t, .int 0])), (xw, .inl (k1, 4, .inl (zW))), (m0, .inr (7, [.ref ma, .ref mw, .int 0, .int 0])), (ma, .inr (0, [.int 0, .ref t, .int 0])), (mw, .inl (k2, 4, .inl (zW))), (o, .inl (k3, 1, .inr (.inl (fun _ => 0))))] H := hP
  have hD : va_D (fun q : Nat => s.heap.size ≤ q) [(x0, .inr (5, [.ref xa, .ref xw, .ref xb, .int 0])), (xa, .inr (0, [.int 0, .ref t, .int 0])), (xw, .inl (k1, 4, .inl (zW))), (m0, .inr (7, [.ref ma, .ref mw, .int 0, .int 0])), (ma, .inr (0, [.int 0, .ref t, .int 0])), (mw, .inl (k2, 4, .inl (zW))), (o, .inl (k3, 1, .inr (.inl (fun _ => 0))))] := hD
  refine W.widen (k := 27) (n := 131) (zl_b rfl) (zl_b rfl) ?_
  refine lv_istore (lv' := [(6, .int 1), (5, .int 0), (4, .ref od), (3, .ref o), (2, .ref m0), (1, .ref x0), (0, .ref b)]) hx hb dL_law_2843 hl (by decide) rfl (fun ls hl => ?_)
  refine lv_aload_n hx hb dL_law_2845 rfl (lv_at hl 4 rfl) ?_
  have hFc := va_free (wc := [(m0, .inr (7, [.ref ma, .ref mw, .int 0, .int 0])), (ma, .inr (0, [.int 0, .ref t, .int 0]))]) hD hS hA [3, 4] rfl
  refine va_callf (va_runV (As := []) (rest := []) ⟨hx, hb, hml, hown, hts⟩ (m_missedShare l dC dI H.size t m0 ma (.ref mw)) (cwV 0 hts (zg_V kw_1999 kw_2000 kw_2001 kw_70 kw_2002) rfl rfl rfl (by decide +kernel) ⟨Nat.le_of_ble_eq_true rfl, Nat.le_of_ble_eq_true rfl⟩) ⟨zA_blind, va_recv hK hP (ci := 7) (q0 := 3) rfl rfl, zA_pre hP hD hS hK hQ hA [3, 4] rfl rfl (by decide) [] rfl⟩ rfl rfl hl.1 rfl (lv_room (Nat.le_of_ble_eq_true rfl)) dL_law_2846 ⟨zl_b rfl, zl_b rfl⟩) hS (fun q _ h => hFc q h) hFc (fun r_2 u t9 H1 locs ht hvm hw hB hz1 hk1 hS => ?_)
  obtain ⟨hP1, hK1, hD1⟩ := hB
  rw [ht] at hP1
  have hK1 := va_K.moved hvm.symm hK1
  obtain ⟨hP, hD⟩ := va_join (wr := [(x0, .inr (5, [.ref xa, .ref xw, .ref xb, .int 0])), (xa, .inr (0, [.int 0, .ref t, .int 0])), (xw, .inl (k1, 4, .inl (zW))), (mw, .inl (k2, 4, .inl (zW))), (o, .inl (k3, 1, .inr (.inl (fun _ => 0))))]) (w1 := [(m0, .inr (7, [.ref ma, .ref mw, .int 0, .int 1]))]) hP hD [3, 4] [0, 1, 2, 5, 6] rfl rfl (by decide) (by decide) hk1 hFc hP1 hD1
  have hK := (hK.sub (tys' := [(k1, .int), (k2, .int), (k3, .long)]) [0, 1, 2] rfl).app hK1
  generalize H1 = H at hP hS ⊢
  have hP : va_P (dC, dI) zc [(x0, .inr (5, [.ref xa, .ref xw, .ref xb, .int 0])), (xa, .inr (0, [.int 0, .ref t, .int 0])), (xw, .inl (k1, 4, .inl (zW))), (mw, .inl (k2, 4, .inl (zW))), (o, .inl (k3, 1, .inr (.inl (fun _ => 0)))), (m0, .inr (7, [.ref ma, .ref mw, .int 0, .int 1]))] H := hP
  have hD : va_D (fun q : Nat => s.heap.size ≤ q) [(x0, .inr (5, [.ref xa, .ref xw, .ref xb, .int 0])), (xa, .inr (0, [.int 0, .ref t, .int 0])), (xw, .inl (k1, 4, .inl (zW))), (mw, .inl (k2, 4, .inl (zW))), (o, .inl (k3, 1, .inr (.inl (fun _ => 0)))), (m0, .inr (7, [.ref ma, .ref mw, .int 0, .int 1]))] := hD
  have hK : va_K (dC, dI) zc [(k1, .int), (k2, .int), (k3, .long)] s := hK
  refine lv_fstore (lv' := [(7, .float r_2), (6, .int 1), (5, .int 0), (4, .ref od), (3, .ref o), (2, .ref m0), (1, .ref x0), (0, .ref b)]) hx hb dL_law_2849 hl (by decide) rfl (fun ls hl => ?_)
  refine lv_aload_n hx hb dL_law_2851 rfl (lv_at hl 5 rfl) ?_
  refine vp_callSi (W.runV (As := []) (rest := []) ⟨hx, hb, hml, hown, hts⟩ (c_thrown l dC dI H.size t m0 (.ref ma) (.ref mw) 0 1) (cwV 0 hts (zg_V kw_1365 kw_1366 kw_1367 kw_70 kw_1368) rfl rfl rfl (by decide +kernel) ⟨Nat.le_of_ble_eq_true rfl, Nat.le_of_ble_eq_true rfl⟩) ⟨zA_blind, va_recv hK hP (ci := 7) (q0 := 5) rfl rfl, zA_pre hP hD hS hK hQ hA [5] rfl rfl (by decide) [] rfl⟩ rfl rfl hl.1 rfl (lv_room (Nat.le_of_ble_eq_true rfl)) dL_law_2852 ⟨zl_b rfl, zl_b rfl⟩) (fun r hr => ?_)
  subst hr
  refine lv_iload hx hb dL_law_2855 (lv_at hl 1 rfl) ?_
  refine lv_icmp_eq (tgt := 2862) hx hb dL_law_2857 (by decide) (fun c_3 => ?_) (fun c_3 => absurd c_3 (by decide))
  refine lv_iload hx hb dL_law_2862 (lv_at hl 1 rfl) ?_
  refine lv_if_ne (tgt := 2900) hx hb dL_law_2864 (by decide) (fun c_4 => ?_) (fun c_4 => absurd c_4 (by decide))
  refine lv_goto (tgt := 2981) hx hb dL_law_2900 (by decide) ?_
  exact law_tail l C0 _ _ (zl_b rfl) (zl_b rfl) _ _ hS ls (lv_sub hl [7, 2] rfl)
set_option maxHeartbeats 4000000 in
set_option maxRecDepth 100000 in
/-- the law on meanOwed -/
theorem law_c41 {p : Program} {e : Env} {s : State} {m : MethodId} {below : List Frame} {meth : Method} {c : Code} {b : Nat} {xs : Nat → Int32} (l : Launch) (hst : l.stackTraces = false) (C0 : lw_At p s m meth c b 5 xs) {dC : Nat → ClassId} {dI : Nat → Nat → Nat} {t x0 xa xw xb m0 ma mw o od : Nat} {k1 k2 k3 : ClassId} (H : Heap) (locs : List Loc) (hK : va_K (dC, dI) zc [(k1, .int), (k2, .int), (k3, .long)] s) (hQ : zQ t (fun q : Nat => s.heap.size ≤ q) s s.heap) (hP : va_P (dC, dI) zc [(x0, .inr (5, [.ref xa, .ref xw, .ref xb, .int 0])), (xa, .inr (0, [.int 0, .ref t, .int 0])), (xw, .inl (k1, 4, .inl (zW))), (m0, .inr (7, [.ref ma, .ref mw, .int 0, .int 0])), (ma, .inr (0, [.int 0, .ref t, .int 0])), (mw, .inl (k2, 4, .inl (zW))), (o, .inl (k3, 1, .inr (.inl (fun _ => 0))))] H) (hD : va_D (fun q : Nat => s.heap.size ≤ q) [(x0, .inr (5, [.ref xa, .ref xw, .ref xb, .int 0])), (xa, .inr (0, [.int 0, .ref t, .int 0])), (xw, .inl (k1, 4, .inl (zW))), (m0, .inr (7, [.ref ma, .ref mw, .int 0, .int 0])), (ma, .inr (0, [.int 0, .ref t, .int 0])), (mw, .inl (k2, 4, .inl (zW))), (o, .inl (k3, 1, .inr (.inl (fun _ => 0))))]) (hS : va_S (fun q : Nat => s.heap.size ≤ q) s.heap H locs) (ls : Array Slot) (hl : lv_has ls 9 [(5, .int 0), (4, .ref od), (3, .ref o), (2, .ref m0), (1, .ref x0), (0, .ref b)]) : W p l e room_1 s m #[Value.ref b] below meth c H locs 26 125 (lw_Z below #[Value.ref b] s) (F0 m 2903 ls []) := by
  obtain ⟨hx, hb, hr, hml, hown, hts0, hX, hbl, hlocks, hgv⟩ := id C0
  have hts : ∀ w ∈ zG, w.before #[Value.ref b] s = true := fun w h => hts0 w (zg_tbl h)
  have hA : ∀ q : Nat, s.heap.size ≤ q → (fun q : Nat => s.heap.size ≤ q) q := fun _ h => h
  have hbA : ¬ (fun q : Nat => s.heap.size ≤ q) b := Nat.not_le.mpr hbl
  refine lv_aload_n hx hb dL_law_2903 rfl (lv_at hl 4 rfl) ?_
  refine lv_aload hx hb dL_law_2904 (lv_at hl 1 rfl) ?_
  refine vx_calli (vx_runSX (As := [.ref x0, .ref od]) (rest := []) ⟨hx, hb, hml, hown, hts⟩ (lo_meanOwed l hst dC dI H.size t x0 xa (.ref xw) (.ref xb) od) (vx_cwSW 2 hts (zg_S kw_1337 kw_1338 kw_63 kw_1339) rfl rfl rfl (by decide +kernel) ⟨Nat.le_of_ble_eq_true rfl, Nat.le_of_ble_eq_true rfl⟩) ⟨zA_blind, zA_pre hP hD hS hK hQ hA [0, 1] rfl rfl (by decide) [] rfl⟩ rfl rfl hl.1 rfl (lv_room (Nat.le_of_ble_eq_true rfl)) dL_law_2906 ⟨zl_b rfl, zl_b rfl⟩) hS (fun q _ h => hA q (Nat.le_trans (hS.1) h)) (fun q h => hA q (Nat.le_trans (hS.1) h)) (fun q _ h => h.elim) (fun E ce q9 u t9 H1 locs1 ht hvm hp9 hE hz1 hk1 hS1 hc1 hv1 hcl1 => hp9.elim) (fun r_1 u t9 H1 locs ht hvm hw hB hz1 hk1 hS => ?_)
  have hw : r_1 = 1 := hw
  subst hw
  have hP := zP_new hP hk1
  generalize H1 = H at hP hS ⊢
  have hP : va_P (dC, dI) zc [(x0, .inr (5, [.ref xa, .ref xw, .ref xb, .int 0])), (xa, .inr (0, [.int 0, .ref t, .int 0])), (xw, .inl (k1, 4, .inl (zW))), (m0, .inr (7, [.ref ma, .ref mw, .int 0, .int 0])), (ma, .inr (0, [.int 0, .ref t, .int 0])), (mw, .inl (k2, 4, .inl (zW))), (o, .inl (k3, 1, .inr (.inl (fun _ => 0))))] H := hP
  have hD : va_D (fun q : Nat => s.heap.size ≤ q) [(x0, .inr (5, [.ref xa, .ref xw, .ref xb, .int 0])), (xa, .inr (0, [.int 0, .ref t, .int 0])), (xw, .inl (k1, 4, .inl (zW))), (m0, .inr (7, [.ref ma, .ref mw, .int 0, .int 0])), (ma, .inr (0, [.int 0, .ref t, .int 0])), (mw, .inl (k2, 4, .inl (zW))), (o, .inl (k3, 1, .inr (.inl (fun _ => 0))))] := hD
  refine W.widen (k := 27) (n := 131) (zl_b rfl) (zl_b rfl) ?_
  refine lv_istore (lv' := [(6, .int 1), (5, .int 0), (4, .ref od), (3, .ref o), (2, .ref m0), (1, .ref x0), (0, .ref b)]) hx hb dL_law_2909 hl (by decide) rfl (fun ls hl => ?_)
  refine lv_aload_n hx hb dL_law_2911 rfl (lv_at hl 4 rfl) ?_
  have hFc := va_free (wc := [(m0, .inr (7, [.ref ma, .ref mw, .int 0, .int 0])), (ma, .inr (0, [.int 0, .ref t, .int 0]))]) hD hS hA [3, 4] rfl
  refine va_calld (va_runV (As := []) (rest := []) ⟨hx, hb, hml, hown, hts⟩ (m_meanOwed l dC dI H.size t m0 ma (.ref mw)) (cwV 0 hts (zg_V kw_2003 kw_2004 kw_2005 kw_70 kw_2006) rfl rfl rfl (by decide +kernel) ⟨Nat.le_of_ble_eq_true rfl, Nat.le_of_ble_eq_true rfl⟩) ⟨zA_blind, va_recv hK hP (ci := 7) (q0 := 3) rfl rfl, zA_pre hP hD hS hK hQ hA [3, 4] rfl rfl (by decide) [] rfl⟩ rfl rfl hl.1 rfl (lv_room (Nat.le_of_ble_eq_true rfl)) dL_law_2912 ⟨zl_b rfl, zl_b rfl⟩) hS (fun q _ h => hFc q h) hFc (fun r_2 u t9 H1 locs ht hvm hw hB hz1 hk1 hS => ?_)
  obtain ⟨hP1, hK1, hD1⟩ := hB
  rw [ht] at hP1
  have hK1 := va_K.moved hvm.symm hK1
  obtain ⟨hP, hD⟩ := va_join (wr := [(x0, .inr (5, [.ref xa, .ref xw, .ref xb, .int 0])), (xa, .inr (0, [.int 0, .ref t, .int 0])), (xw, .inl (k1, 4, .inl (zW))), (mw, .inl (k2, 4, .inl (zW))), (o, .inl (k3, 1, .inr (.inl (fun _ => 0))))]) (w1 := [(m0, .inr (7, [.ref ma, .ref mw, .int 0, .int 1]))]) hP hD [3, 4] [0, 1, 2, 5, 6] rfl rfl (by decide) (by decide) hk1 hFc hP1 hD1
  have hK := (hK.sub (tys' := [(k1, .int), (k2, .int), (k3, .long)]) [0, 1, 2] rfl).app hK1
  generalize H1 = H at hP hS ⊢
  have hP : va_P (dC, dI) zc [(x0, .inr (5, [.ref xa, .ref xw, .ref xb, .int 0])), (xa, .inr (0, [.int 0, .ref t, .int 0])), (xw, .inl (k1, 4, .inl (zW))), (mw, .inl (k2, 4, .inl (zW))), (o, .inl (k3, 1, .inr (.inl (fun _ => 0)))), (m0, .inr (7, [.ref ma, .ref mw, .int 0, .int 1]))] H := hP
  have hD : va_D (fun q : Nat => s.heap.size ≤ q) [(x0, .inr (5, [.ref xa, .ref xw, .ref xb, .int 0])), (xa, .inr (0, [.int 0, .ref t, .int 0])), (xw, .inl (k1, 4, .inl (zW))), (mw, .inl (k2, 4, .inl (zW))), (o, .inl (k3, 1, .inr (.inl (fun _ => 0)))), (m0, .inr (7, [.ref ma, .ref mw, .int 0, .int 1]))] := hD
  have hK : va_K (dC, dI) zc [(k1, .int), (k2, .int), (k3, .long)] s := hK
  refine lv_dstore (lv' := [(7, .double r_2), (6, .int 1), (5, .int 0), (4, .ref od), (3, .ref o), (2, .ref m0), (1, .ref x0), (0, .ref b)]) hx hb dL_law_2915 hl (by decide) rfl (fun ls hl => ?_)
  refine lv_aload_n hx hb dL_law_2917 rfl (lv_at hl 5 rfl) ?_
  refine vp_callSi (W.runV (As := []) (rest := []) ⟨hx, hb, hml, hown, hts⟩ (c_thrown l dC dI H.size t m0 (.ref ma) (.ref mw) 0 1) (cwV 0 hts (zg_V kw_1365 kw_1366 kw_1367 kw_70 kw_1368) rfl rfl rfl (by decide +kernel) ⟨Nat.le_of_ble_eq_true rfl, Nat.le_of_ble_eq_true rfl⟩) ⟨zA_blind, va_recv hK hP (ci := 7) (q0 := 5) rfl rfl, zA_pre hP hD hS hK hQ hA [5] rfl rfl (by decide) [] rfl⟩ rfl rfl hl.1 rfl (lv_room (Nat.le_of_ble_eq_true rfl)) dL_law_2918 ⟨zl_b rfl, zl_b rfl⟩) (fun r hr => ?_)
  subst hr
  refine lv_iload hx hb dL_law_2921 (lv_at hl 1 rfl) ?_
  refine lv_icmp_eq (tgt := 2928) hx hb dL_law_2923 (by decide) (fun c_3 => ?_) (fun c_3 => absurd c_3 (by decide))
  refine lv_iload hx hb dL_law_2928 (lv_at hl 1 rfl) ?_
  refine lv_if_ne (tgt := 2965) hx hb dL_law_2930 (by decide) (fun c_4 => ?_) (fun c_4 => absurd c_4 (by decide))
  refine lv_goto (tgt := 2981) hx hb dL_law_2965 (by decide) ?_
  exact law_tail l C0 _ _ (zl_b rfl) (zl_b rfl) _ _ hS ls (lv_sub hl [7, 2] rfl)
set_option maxHeartbeats 4000000 in
set_option maxRecDepth 100000 in
/-- the law on isSound -/
theorem law_c42 {p : Program} {e : Env} {s : State} {m : MethodId} {below : List Frame} {meth : Method} {c : Code} {b : Nat} {xs : Nat → Int32} (l : Launch) (hst : l.stackTraces = false) (C0 : lw_At p s m meth c b 5 xs) {dC : Nat → ClassId} {dI : Nat → Nat → Nat} {t x0 xa xw xb m0 ma mw o od : Nat} {k1 k2 k3 : ClassId} (H : Heap) (locs : List Loc) (hK : va_K (dC, dI) zc [(k1, .int), (k2, .int), (k3, .long)] s) (hQ : zQ t (fun q : Nat => s.heap.size ≤ q) s s.heap) (hP : va_P (dC, dI) zc [(x0, .inr (5, [.ref xa, .ref xw, .ref xb, .int 0])), (xa, .inr (0, [.int 0, .ref t, .int 0])), (xw, .inl (k1, 4, .inl (zW))), (m0, .inr (7, [.ref ma, .ref mw, .int 0, .int 0])), (ma, .inr (0, [.int 0, .ref t, .int 0])), (mw, .inl (k2, 4, .inl (zW))), (o, .inl (k3, 1, .inr (.inl (fun _ => 0))))] H) (hD : va_D (fun q : Nat => s.heap.size ≤ q) [(x0, .inr (5, [.ref xa, .ref xw, .ref xb, .int 0])), (xa, .inr (0, [.int 0, .ref t, .int 0])), (xw, .inl (k1, 4, .inl (zW))), (m0, .inr (7, [.ref ma, .ref mw, .int 0, .int 0])), (ma, .inr (0, [.int 0, .ref t, .int 0])), (mw, .inl (k2, 4, .inl (zW))), (o, .inl (k3, 1, .inr (.inl (fun _ => 0))))]) (hS : va_S (fun q : Nat => s.heap.size ≤ q) s.heap H locs) (ls : Array Slot) (hl : lv_has ls 9 [(5, .int 0), (4, .ref od), (3, .ref o), (2, .ref m0), (1, .ref x0), (0, .ref b)]) : W p l e room_1 s m #[Value.ref b] below meth c H locs 26 125 (lw_Z below #[Value.ref b] s) (F0 m 2968 ls []) := by
  obtain ⟨hx, hb, hr, hml, hown, hts0, hX, hbl, hlocks, hgv⟩ := id C0
  have hts : ∀ w ∈ zG, w.before #[Value.ref b] s = true := fun w h => hts0 w (zg_tbl h)
  have hA : ∀ q : Nat, s.heap.size ≤ q → (fun q : Nat => s.heap.size ≤ q) q := fun _ h => h
  have hbA : ¬ (fun q : Nat => s.heap.size ≤ q) b := Nat.not_le.mpr hbl
  refine lv_aload_n hx hb dL_law_2968 rfl (lv_at hl 4 rfl) ?_
  refine vp_callSi (W.runV (As := []) (rest := []) ⟨hx, hb, hml, hown, hts⟩ (c_isSound l dC dI H.size t x0 xa (.ref xw) (.ref xb)) (cwV 0 hts (zg_V kw_405 kw_406 kw_407 kw_64 kw_408) rfl rfl rfl (by decide +kernel) ⟨Nat.le_of_ble_eq_true rfl, Nat.le_of_ble_eq_true rfl⟩) ⟨zA_blind, va_recv hK hP (ci := 5) (q0 := 0) rfl rfl, zA_pre hP hD hS hK hQ hA [0, 1] rfl rfl (by decide) [] rfl⟩ rfl rfl hl.1 rfl (lv_room (Nat.le_of_ble_eq_true rfl)) dL_law_2969 ⟨zl_b rfl, zl_b rfl⟩) (fun r hr => ?_)
  subst hr
  refine lv_aload_n hx hb dL_law_2972 rfl (lv_at hl 3 rfl) ?_
  refine vp_callSi (W.runV (As := []) (rest := [.int 1]) ⟨hx, hb, hml, hown, hts⟩ (m_isSound l dC dI H.size t m0 ma (.ref mw)) (cwV 0 hts (zg_V kw_2016 kw_2017 kw_2018 kw_70 kw_2019) rfl rfl rfl (by decide +kernel) ⟨Nat.le_of_ble_eq_true rfl, Nat.le_of_ble_eq_true rfl⟩) ⟨zA_blind, va_recv hK hP (ci := 7) (q0 := 3) rfl rfl, zA_pre hP hD hS hK hQ hA [3, 4] rfl rfl (by decide) [] rfl⟩ rfl rfl hl.1 rfl (lv_room (Nat.le_of_ble_eq_true rfl)) dL_law_2973 ⟨zl_b rfl, zl_b rfl⟩) (fun r hr => ?_)
  subst hr
  refine lv_icmp_eq (tgt := 2981) hx hb dL_law_2976 (by decide) (fun c_1 => ?_) (fun c_1 => absurd c_1 (by decide))
  exact law_tail l C0 _ _ (zl_b rfl) (zl_b rfl) _ _ hS ls (lv_sub hl [5, 0] rfl)
