set_option maxHeartbeats 4000000 in
set_option maxRecDepth 100000 in
/-- the law on open -/
theorem law_c0 {p : Program} {e : Env} {s : State} {m : MethodId} {below : List Frame} {meth : Method} {c : Code} {b : Nat} {xs : Nat → Int32} (l : Launch) (hst : l.stackTraces = false) (C0 : lw_At p s m meth c b 5 xs) {dC : Nat → ClassId} {dI : Nat → Nat → Nat} {t x0 xa xw xb m0 ma mw o od : Nat} {k1 k2 k3 : ClassId} (H : Heap) (locs : List Loc) (hK : va_K (dC, dI) zc [(k1, .int), (k2, .int), (k3, .long)] s) (hQ : zQ t (fun q : Nat => s.heap.size ≤ q) s s.heap) (hP : va_P (dC, dI) zc [(x0, .inr (5, [.ref xa, .ref xw, .ref xb, .int 0])), (xa, .inr (0, [.int 0, .ref t, .int 0])), (xw, .inl (k1, 4, .inl (zW))), (m0, .inr (7, [.ref ma, .ref mw, .int 0, .int 0])), (ma, .inr (0, [.int 0, .ref t, .int 0])), (mw, .inl (k2, 4, .inl (zW))), (o, .inl (k3, 1, .inr (.inl (fun _ => 0))))] H) (hD : va_D (fun q : Nat => s.heap.size ≤ q) [(x0, .inr (5, [.ref xa, .ref xw, .ref xb, .int 0])), (xa, .inr (0, [.int 0, .ref t, .int 0])), (xw, .inl (k1, 4, .inl (zW))), (m0, .inr (7, [.ref ma, .ref mw, .int 0, .int 0])), (ma, .inr (0, [.int 0, .ref t, .int 0])), (mw, .inl (k2, 4, .inl (zW))), (o, .inl (k3, 1, .inr (.inl (fun _ => 0))))]) (hS : va_S (fun q : Nat => s.heap.size ≤ q) s.heap H locs) (ls : Array Slot) (hl : lv_has ls 9 [(5, .int 0), (4, .ref od), (3, .ref o), (2, .ref m0), (1, .ref x0), (0, .ref b)]) : W p l e room_1 s m #[Value.ref b] below meth c H locs 26 125 (lw_Z below #[Value.ref b] s) (F0 m 232 ls []) := by
  obtain ⟨hx, hb, hr, hml, hown, hts0, hX, hbl, hlocks, hgv⟩ := id C0
  have hts : ∀ w ∈ zG, w.before #[Value.ref b] s = true := fun w h => hts0 w (zg_tbl h)
  have hA : ∀ q : Nat, s.heap.size ≤ q → (fun q : Nat => s.heap.size ≤ q) q := fun _ h => h
  have hbA : ¬ (fun q : Nat => s.heap.size ≤ q) b := Nat.not_le.mpr hbl
  refine lv_aload_n hx hb dL_law_232 rfl (lv_at hl 4 rfl) ?_
  refine lv_aload_n hx hb dL_law_233 rfl (lv_at hl 5 rfl) ?_
  refine lv_iload hx hb dL_law_234 (lv_at hl 0 rfl) ?_
  refine lv_iconst (v := 1) hx hb dL_law_236 (by decide) ?_
  refine lv_iadd hx hb dL_law_237 ?_
  refine va_sld hx hb hX hbl hbA hS (by unfold vp_in; decide) dL_law_238 ?_
  refine lv_topi (fun v_1 e_v_1 => ?_)
  refine lv_aload_n hx hb dL_law_239 rfl (lv_at hl 2 rfl) ?_
  rcases zi_rng v_1 0 9999999 with hv9 | ⟨hv1, hv2⟩
  · refine vx_calli (vx_runSX (As := [.ref x0, .int v_1, .ref o]) (rest := []) ⟨hx, hb, hml, hown, hts⟩ (lo_openBad l hst dC dI H.size t x0 xa (.ref xw) (.ref xb) o v_1 hv9) (vx_cwSW 3 hts (zg_S kw_422 kw_423 kw_63 kw_424) rfl rfl rfl (by decide +kernel) ⟨Nat.le_of_ble_eq_true rfl, Nat.le_of_ble_eq_true rfl⟩) ⟨zA_blind, zA_pre hP hD hS hK hQ hA [0, 1] rfl rfl (by decide) [] rfl⟩ rfl rfl hl.1 rfl (lv_room (Nat.le_of_ble_eq_true rfl)) dL_law_240 ⟨zl_b rfl, zl_b rfl⟩) hS (fun q _ h => hA q (Nat.le_trans (hS.1) h)) (fun q h => hA q (Nat.le_trans (hS.1) h)) (fun q _ h => h.elim) (fun E ce q9 u t9 H1 locs1 ht hvm hp9 hE hz1 hk1 hS1 hc1 hv1 hcl1 => hp9.elim) (fun r_2 u t9 H1 locs ht hvm hw hB hz1 hk1 hS => ?_)
    have hw : r_2 = 1 := hw
    subst hw
    have hP := zP_new hP hk1
    generalize H1 = H at hP hS ⊢
    have hP : va_P (dC, dI) zc [(x0, .inr (5, [.ref xa, .ref xw, .ref xb, .int 0])), (xa, .inr (0, [.int 0, .ref t, .int 0])), (xw, .inl (k1, 4, .inl (zW))), (m0, .inr (7, [.ref ma, .ref mw, .int 0, .int 0])), (ma, .inr (0, [.int 0, .ref t, .int 0])), (mw, .inl (k2, 4, .inl (zW))), (o, .inl (k3, 1, .inr (.inl (fun _ => 0))))] H := hP
    have hD : va_D (fun q : Nat => s.heap.size ≤ q) [(x0, .inr (5, [.ref xa, .ref xw, .ref xb, .int 0])), (xa, .inr (0, [.int 0, .ref t, .int 0])), (xw, .inl (k1, 4, .inl (zW))), (m0, .inr (7, [.ref ma, .ref mw, .int 0, .int 0])), (ma, .inr (0, [.int 0, .ref t, .int 0])), (mw, .inl (k2, 4, .inl (zW))), (o, .inl (k3, 1, .inr (.inl (fun _ => 0))))] := hD
    refine W.widen (k := 27) (n := 131) (zl_b rfl) (zl_b rfl) ?_
    refine lv_istore (lv' := [(6, .int 1), (5, .int 0), (4, .ref od), (3, .ref o), (2, .ref m0), (1, .ref x0), (0, .ref b)]) hx hb dL_law_243 hl (by decide) rfl (fun ls hl => ?_)
    refine lv_aload_n hx hb dL_law_245 rfl (lv_at hl 4 rfl) ?_
    refine lv_aload_n hx hb dL_law_246 rfl (lv_at hl 6 rfl) ?_
    refine lv_iload hx hb dL_law_247 (lv_at hl 1 rfl) ?_
    refine lv_iconst (v := 1) hx hb dL_law_249 (by decide) ?_
    refine lv_iadd hx hb dL_law_250 ?_
    refine va_sld hx hb hX hbl hbA hS (by unfold vp_in; decide) dL_law_251 ?_
    refine lv_topi (fun v_3 e_v_3 => ?_)
    have s_4 : v_1 = v_3 := by rw [e_v_1, e_v_3]
    subst s_4
    have hFc := va_free (wc := [(m0, .inr (7, [.ref ma, .ref mw, .int 0, .int 0])), (ma, .inr (0, [.int 0, .ref t, .int 0]))]) hD hS hA [3, 4] rfl
    refine va_calli (va_runV (As := [.int v_1]) (rest := []) ⟨hx, hb, hml, hown, hts⟩ (m_openBad l dC dI H.size t m0 ma (.ref mw) v_1 hv9) (cwV 1 hts (zg_V kw_1369 kw_1370 kw_1371 kw_70 kw_1372) rfl rfl rfl (by decide +kernel) ⟨Nat.le_of_ble_eq_true rfl, Nat.le_of_ble_eq_true rfl⟩) ⟨zA_blind, va_recv hK hP (ci := 7) (q0 := 3) rfl rfl, zA_pre hP hD hS hK hQ hA [3, 4] rfl rfl (by decide) [] rfl⟩ rfl rfl hl.1 rfl (lv_room (Nat.le_of_ble_eq_true rfl)) dL_law_252 ⟨zl_b rfl, zl_b rfl⟩) hS (fun q _ h => hFc q h) hFc (fun r_5 u t9 H1 locs ht hvm hw hB hz1 hk1 hS => ?_)
    obtain ⟨hP1, hK1, hD1⟩ := hB
    rw [ht] at hP1
    have hK1 := va_K.moved hvm.symm hK1
    obtain ⟨hP, hD⟩ := va_join (wr := [(x0, .inr (5, [.ref xa, .ref xw, .ref xb, .int 0])), (xa, .inr (0, [.int 0, .ref t, .int 0])), (xw, .inl (k1, 4, .inl (zW))), (mw, .inl (k2, 4, .inl (zW))), (o, .inl (k3, 1, .inr (.inl (fun _ => 0))))]) (w1 := [(m0, .inr (7, [.ref ma, .ref mw, .int 0, .int 1])), (ma, .inr (0, [.int 0, .ref t, .int 0]))]) hP hD [3, 4] [0, 1, 2, 5, 6] rfl rfl (by decide) (by decide) hk1 hFc hP1 hD1
    have hK := (hK.sub (tys' := [(k1, .int), (k2, .int), (k3, .long)]) [0, 1, 2] rfl).app hK1
    generalize H1 = H at hP hS ⊢
    have hP : va_P (dC, dI) zc [(x0, .inr (5, [.ref xa, .ref xw, .ref xb, .int 0])), (xa, .inr (0, [.int 0, .ref t, .int 0])), (xw, .inl (k1, 4, .inl (zW))), (mw, .inl (k2, 4, .inl (zW))), (o, .inl (k3, 1, .inr (.inl (fun _ => 0)))), (m0, .inr (7, [.ref ma, .ref mw, .int 0, .int 1])), (ma, .inr (0, [.int 0, .ref t, .int 0]))] H := hP
    have hD : va_D (fun q : Nat => s.heap.size ≤ q) [(x0, .inr (5, [.ref xa, .ref xw, .ref xb, .int 0])), (xa, .inr (0, [.int 0, .ref t, .int 0])), (xw, .inl (k1, 4, .inl (zW))), (mw, .inl (k2, 4, .inl (zW))), (o, .inl (k3, 1, .inr (.inl (fun _ => 0)))), (m0, .inr (7, [.ref ma, .ref mw, .int 0, .int 1])), (ma, .inr (0, [.int 0, .ref t, .int 0]))] := hD
    have hK : va_K (dC, dI) zc [(k1, .int), (k2, .int), (k3, .long)] s := hK
    refine lv_istore (lv' := [(7, .int r_5), (6, .int 1), (5, .int 0), (4, .ref od), (3, .ref o), (2, .ref m0), (1, .ref x0), (0, .ref b)]) hx hb dL_law_255 hl (by decide) rfl (fun ls hl => ?_)
    refine lv_aload_n hx hb dL_law_257 rfl (lv_at hl 5 rfl) ?_
    refine vp_callSi (W.runV (As := []) (rest := []) ⟨hx, hb, hml, hown, hts⟩ (c_thrown l dC dI H.size t m0 (.ref ma) (.ref mw) 0 1) (cwV 0 hts (zg_V kw_1365 kw_1366 kw_1367 kw_70 kw_1368) rfl rfl rfl (by decide +kernel) ⟨Nat.le_of_ble_eq_true rfl, Nat.le_of_ble_eq_true rfl⟩) ⟨zA_blind, va_recv hK hP (ci := 7) (q0 := 5) rfl rfl, zA_pre hP hD hS hK hQ hA [5] rfl rfl (by decide) [] rfl⟩ rfl rfl hl.1 rfl (lv_room (Nat.le_of_ble_eq_true rfl)) dL_law_258 ⟨zl_b rfl, zl_b rfl⟩) (fun r hr => ?_)
    subst hr
    refine lv_iload hx hb dL_law_261 (lv_at hl 1 rfl) ?_
    refine lv_icmp_eq (tgt := 268) hx hb dL_law_263 (by decide) (fun c_6 => ?_) (fun c_6 => absurd c_6 (by decide))
    refine lv_iload hx hb dL_law_268 (lv_at hl 1 rfl) ?_
    refine lv_if_ne (tgt := 285) hx hb dL_law_270 (by decide) (fun c_7 => ?_) (fun c_7 => absurd c_7 (by decide))
    refine lv_goto (tgt := 2981) hx hb dL_law_285 (by decide) ?_
    exact law_tail l C0 _ _ (zl_b rfl) (zl_b rfl) _ _ hS ls (lv_sub hl [7, 2] rfl)
  · have hFc := va_free (wc := [(x0, .inr (5, [.ref xa, .ref xw, .ref xb, .int 0])), (xa, .inr (0, [.int 0, .ref t, .int 0])), (o, .inl (k3, 1, .inr (.inl (fun _ => 0))))]) hD hS hA [0, 1, 6] rfl
    refine vx_calli (vx_runSX (As := [.ref x0, .int v_1, .ref o]) (rest := []) ⟨hx, hb, hml, hown, hts⟩ (lo_openOk l hst dC dI H.size t x0 xa (.ref xw) (.ref xb) v_1 hv1 hv2 o k3 (fun _ => 0)) (vx_cwSW 3 hts (zg_S kw_422 kw_423 kw_63 kw_424) rfl rfl rfl (by decide +kernel) ⟨Nat.le_of_ble_eq_true rfl, Nat.le_of_ble_eq_true rfl⟩) ⟨zA_blind, zA_pre hP hD hS hK hQ hA [0, 1, 6] rfl rfl (by decide) [2] rfl⟩ rfl rfl hl.1 rfl (lv_room (Nat.le_of_ble_eq_true rfl)) dL_law_240 ⟨zl_b rfl, zl_b rfl⟩) hS (fun q _ h => hFc q h) hFc (fun q _ h => h.elim) (fun E ce q9 u t9 H1 locs1 ht hvm hp9 hE hz1 hk1 hS1 hc1 hv1 hcl1 => hp9.elim) (fun r_2 u t9 H1 locs ht hvm hw hB hz1 hk1 hS => ?_)
    have hw : r_2 = 0 := hw
    subst hw
    obtain ⟨hP1, hK1, hD1⟩ := hB
    rw [ht] at hP1
    obtain ⟨hP, hD⟩ := va_join (wr := [(xw, .inl (k1, 4, .inl (zW))), (m0, .inr (7, [.ref ma, .ref mw, .int 0, .int 0])), (ma, .inr (0, [.int 0, .ref t, .int 0])), (mw, .inl (k2, 4, .inl (zW)))]) (w1 := [(o, .inl (k3, 1, .inr (.inl (vp_updL (fun _ => 0) 0 ((0 : Int32)).toInt64))))]) hP hD [0, 1, 6] [2, 3, 4, 5] rfl rfl (by decide) (by decide) hk1 hFc hP1 hD1
    generalize H1 = H at hP hS ⊢
    have hP : va_P (dC, dI) zc [(xw, .inl (k1, 4, .inl (zW))), (m0, .inr (7, [.ref ma, .ref mw, .int 0, .int 0])), (ma, .inr (0, [.int 0, .ref t, .int 0])), (mw, .inl (k2, 4, .inl (zW))), (o, .inl (k3, 1, .inr (.inl (vp_updL (fun _ => 0) 0 ((0 : Int32)).toInt64))))] H := hP
    have hD : va_D (fun q : Nat => s.heap.size ≤ q) [(xw, .inl (k1, 4, .inl (zW))), (m0, .inr (7, [.ref ma, .ref mw, .int 0, .int 0])), (ma, .inr (0, [.int 0, .ref t, .int 0])), (mw, .inl (k2, 4, .inl (zW))), (o, .inl (k3, 1, .inr (.inl (vp_updL (fun _ => 0) 0 ((0 : Int32)).toInt64))))] := hD
    refine W.widen (k := 50) (n := 266) (zl_b rfl) (zl_b rfl) ?_
    refine lv_istore (lv' := [(6, .int 0), (5, .int 0), (4, .ref od), (3, .ref o), (2, .ref m0), (1, .ref x0), (0, .ref b)]) hx hb dL_law_243 hl (by decide) rfl (fun ls hl => ?_)
    refine lv_aload_n hx hb dL_law_245 rfl (lv_at hl 4 rfl) ?_
    refine lv_aload_n hx hb dL_law_246 rfl (lv_at hl 6 rfl) ?_
    refine lv_iload hx hb dL_law_247 (lv_at hl 1 rfl) ?_
    refine lv_iconst (v := 1) hx hb dL_law_249 (by decide) ?_
    refine lv_iadd hx hb dL_law_250 ?_
    refine va_sld hx hb hX hbl hbA hS (by unfold vp_in; decide) dL_law_251 ?_
    refine lv_topi (fun v_3 e_v_3 => ?_)
    have s_4 : v_1 = v_3 := by rw [e_v_1, e_v_3]
    subst s_4
    have hFc := va_free (wc := [(m0, .inr (7, [.ref ma, .ref mw, .int 0, .int 0])), (ma, .inr (0, [.int 0, .ref t, .int 0]))]) hD hS hA [1, 2] rfl
    refine va_calli (va_runV (As := [.int v_1]) (rest := []) ⟨hx, hb, hml, hown, hts⟩ (m_openOk l dC dI H.size t m0 ma (.ref mw) v_1 hv1 hv2) (cwV 1 hts (zg_V kw_1369 kw_1370 kw_1371 kw_70 kw_1372) rfl rfl rfl (by decide +kernel) ⟨Nat.le_of_ble_eq_true rfl, Nat.le_of_ble_eq_true rfl⟩) ⟨zA_blind, va_recv hK hP (ci := 7) (q0 := 1) rfl rfl, zA_pre hP hD hS hK hQ hA [1, 2] rfl rfl (by decide) [] rfl⟩ rfl rfl hl.1 rfl (lv_room (Nat.le_of_ble_eq_true rfl)) dL_law_252 ⟨zl_b rfl, zl_b rfl⟩) hS (fun q _ h => hFc q h) hFc (fun r_5 u t9 H1 locs ht hvm hw hB hz1 hk1 hS => ?_)
    obtain ⟨hP1, hK1, hD1⟩ := hB
    rw [ht] at hP1
    have hK1 := va_K.moved hvm.symm hK1
    obtain ⟨hP, hD⟩ := va_join (wr := [(xw, .inl (k1, 4, .inl (zW))), (mw, .inl (k2, 4, .inl (zW))), (o, .inl (k3, 1, .inr (.inl (vp_updL (fun _ => 0) 0 ((0 : Int32)).toInt64))))]) (w1 := [(m0, .inr (7, [.ref ma, .ref mw, .int 0, .int 0]))]) hP hD [1, 2] [0, 3, 4] rfl rfl (by decide) (by decide) hk1 hFc hP1 hD1
    have hK := (hK.sub (tys' := [(k1, .int), (k2, .int), (k3, .long)]) [0, 1, 2] rfl).app hK1
    generalize H1 = H at hP hS ⊢
    have hP : va_P (dC, dI) zc [(xw, .inl (k1, 4, .inl (zW))), (mw, .inl (k2, 4, .inl (zW))), (o, .inl (k3, 1, .inr (.inl (vp_updL (fun _ => 0) 0 ((0 : Int32)).toInt64)))), (m0, .inr (7, [.ref ma, .ref mw, .int 0, .int 0]))] H := hP
    have hD : va_D (fun q : Nat => s.heap.size ≤ q) [(xw, .inl (k1, 4, .inl (zW))), (mw, .inl (k2, 4, .inl (zW))), (o, .inl (k3, 1, .inr (.inl (vp_updL (fun _ => 0) 0 ((0 : Int32)).toInt64)))), (m0, .inr (7, [.ref ma, .ref mw, .int 0, .int 0]))] := hD
    have hK : va_K (dC, dI) zc [(k1, .int), (k2, .int), (k3, .long)] s := hK
    refine W.widen (k := 54) (n := 296) (zl_b rfl) (zl_b rfl) ?_
    have hw : (0 : Int32) = r_5 := hw.symm
    subst hw
    refine lv_istore (lv' := [(7, .int (0 : Int32)), (6, .int 0), (5, .int 0), (4, .ref od), (3, .ref o), (2, .ref m0), (1, .ref x0), (0, .ref b)]) hx hb dL_law_255 hl (by decide) rfl (fun ls hl => ?_)
    refine lv_aload_n hx hb dL_law_257 rfl (lv_at hl 5 rfl) ?_
    refine vp_callSi (W.runV (As := []) (rest := []) ⟨hx, hb, hml, hown, hts⟩ (c_thrown l dC dI H.size t m0 (.ref ma) (.ref mw) 0 0) (cwV 0 hts (zg_V kw_1365 kw_1366 kw_1367 kw_70 kw_1368) rfl rfl rfl (by decide +kernel) ⟨Nat.le_of_ble_eq_true rfl, Nat.le_of_ble_eq_true rfl⟩) ⟨zA_blind, va_recv hK hP (ci := 7) (q0 := 3) rfl rfl, zA_pre hP hD hS hK hQ hA [3] rfl rfl (by decide) [] rfl⟩ rfl rfl hl.1 rfl (lv_room (Nat.le_of_ble_eq_true rfl)) dL_law_258 ⟨zl_b rfl, zl_b rfl⟩) (fun r hr => ?_)
    subst hr
    refine lv_iload hx hb dL_law_261 (lv_at hl 1 rfl) ?_
    refine lv_icmp_eq (tgt := 268) hx hb dL_law_263 (by decide) (fun c_6 => ?_) (fun c_6 => absurd c_6 (by decide))
    refine lv_iload hx hb dL_law_268 (lv_at hl 1 rfl) ?_
    refine lv_if_ne (tgt := 285) hx hb dL_law_270 (by decide) (fun c_7 => absurd c_7 (by decide)) (fun c_7 => ?_)
    refine lv_aload_n hx hb dL_law_273 rfl (lv_at hl 4 rfl) ?_
    refine lv_iconst (v := 0) hx hb dL_law_274 (by decide) ?_
    refine va_lald hx hb hK hP 2 2 rfl rfl (by unfold vp_in; decide) dL_law_275 ?_
    refine lv_iload hx hb dL_law_276 (lv_at hl 0 rfl) ?_
    refine lv_i2l (v := ((0 : Int32) : Int32).toInt64) hx hb dL_law_278 rfl ?_
    refine W.lcmp hx hb dL_law_279 ?_
    refine lv_if_eq (tgt := 285) hx hb dL_law_280 (by decide) (fun c_8 => ?_) (fun c_8 => absurd (zi_cmpE rfl) c_8)
    refine lv_goto (tgt := 2981) hx hb dL_law_285 (by decide) ?_
    exact law_tail l C0 _ _ (zl_b rfl) (zl_b rfl) _ _ hS ls (lv_sub hl [7, 2] rfl)
set_option maxHeartbeats 4000000 in
set_option maxRecDepth 100000 in
/-- the law on setLimit -/
theorem law_c1 {p : Program} {e : Env} {s : State} {m : MethodId} {below : List Frame} {meth : Method} {c : Code} {b : Nat} {xs : Nat → Int32} (l : Launch) (hst : l.stackTraces = false) (C0 : lw_At p s m meth c b 5 xs) {dC : Nat → ClassId} {dI : Nat → Nat → Nat} {t x0 xa xw xb m0 ma mw o od : Nat} {k1 k2 k3 : ClassId} (H : Heap) (locs : List Loc) (hK : va_K (dC, dI) zc [(k1, .int), (k2, .int), (k3, .long)] s) (hQ : zQ t (fun q : Nat => s.heap.size ≤ q) s s.heap) (hP : va_P (dC, dI) zc [(x0, .inr (5, [.ref xa, .ref xw, .ref xb, .int 0])), (xa, .inr (0, [.int 0, .ref t, .int 0])), (xw, .inl (k1, 4, .inl (zW))), (m0, .inr (7, [.ref ma, .ref mw, .int 0, .int 0])), (ma, .inr (0, [.int 0, .ref t, .int 0])), (mw, .inl (k2, 4, .inl (zW))), (o, .inl (k3, 1, .inr (.inl (fun _ => 0))))] H) (hD : va_D (fun q : Nat => s.heap.size ≤ q) [(x0, .inr (5, [.ref xa, .ref xw, .ref xb, .int 0])), (xa, .inr (0, [.int 0, .ref t, .int 0])), (xw, .inl (k1, 4, .inl (zW))), (m0, .inr (7, [.ref ma, .ref mw, .int 0, .int 0])), (ma, .inr (0, [.int 0, .ref t, .int 0])), (mw, .inl (k2, 4, .inl (zW))), (o, .inl (k3, 1, .inr (.inl (fun _ => 0))))]) (hS : va_S (fun q : Nat => s.heap.size ≤ q) s.heap H locs) (ls : Array Slot) (hl : lv_has ls 9 [(5, .int 0), (4, .ref od), (3, .ref o), (2, .ref m0), (1, .ref x0), (0, .ref b)]) : W p l e room_1 s m #[Value.ref b] below meth c H locs 26 125 (lw_Z below #[Value.ref b] s) (F0 m 288 ls []) := by
  obtain ⟨hx, hb, hr, hml, hown, hts0, hX, hbl, hlocks, hgv⟩ := id C0
  have hts : ∀ w ∈ zG, w.before #[Value.ref b] s = true := fun w h => hts0 w (zg_tbl h)
  have hA : ∀ q : Nat, s.heap.size ≤ q → (fun q : Nat => s.heap.size ≤ q) q := fun _ h => h
  have hbA : ¬ (fun q : Nat => s.heap.size ≤ q) b := Nat.not_le.mpr hbl
  refine lv_aload_n hx hb dL_law_288 rfl (lv_at hl 4 rfl) ?_
  refine lv_aload_n hx hb dL_law_289 rfl (lv_at hl 5 rfl) ?_
  refine lv_iload hx hb dL_law_290 (lv_at hl 0 rfl) ?_
  refine lv_iconst (v := 1) hx hb dL_law_292 (by decide) ?_
  refine lv_iadd hx hb dL_law_293 ?_
  refine va_sld hx hb hX hbl hbA hS (by unfold vp_in; decide) dL_law_294 ?_
  refine lv_topi (fun v_1 e_v_1 => ?_)
  refine lv_aload_n hx hb dL_law_295 rfl (lv_at hl 5 rfl) ?_
  refine lv_iload hx hb dL_law_296 (lv_at hl 0 rfl) ?_
  refine lv_iconst (v := 2) hx hb dL_law_298 (by decide) ?_
  refine lv_iadd hx hb dL_law_299 ?_
  refine va_sld hx hb hX hbl hbA hS (by unfold vp_in; decide) dL_law_300 ?_
  refine lv_topi (fun v_2 e_v_2 => ?_)
  refine lv_aload_n hx hb dL_law_301 rfl (lv_at hl 2 rfl) ?_
  refine vx_calli (vx_runSX (As := [.ref x0, .int v_1, .int v_2, .ref o]) (rest := []) ⟨hx, hb, hml, hown, hts⟩ (lx_setLimit l hst dC dI H.size t x0 xa o (.ref xw) (.ref xb) 0 (.ref t) v_1 v_2) (vx_cwSW 4 hts (zg_S kw_628 kw_629 kw_63 kw_630) rfl rfl rfl (by decide +kernel) ⟨Nat.le_of_ble_eq_true rfl, Nat.le_of_ble_eq_true rfl⟩) ⟨zA_blind, zA_pre hP hD hS hK hQ hA [0, 1] rfl rfl (by decide) [] rfl⟩ rfl rfl hl.1 rfl (lv_room (Nat.le_of_ble_eq_true rfl)) dL_law_302 ⟨zl_b rfl, zl_b rfl⟩) hS (fun q _ h => hA q (Nat.le_trans (hS.1) h)) (fun q h => hA q (Nat.le_trans (hS.1) h)) (fun q _ h => h.elim) (fun E ce q9 u t9 H1 locs1 ht hvm hp9 hE hz1 hk1 hS1 hc1 hv1 hcl1 => hp9.elim) (fun r_3 u t9 H1 locs ht hvm hw hB hz1 hk1 hS => ?_)
  have hw : r_3 = 1 := hw
  subst hw
  have hP := zP_new hP hk1
  generalize H1 = H at hP hS ⊢
  have hP : va_P (dC, dI) zc [(x0, .inr (5, [.ref xa, .ref xw, .ref xb, .int 0])), (xa, .inr (0, [.int 0, .ref t, .int 0])), (xw, .inl (k1, 4, .inl (zW))), (m0, .inr (7, [.ref ma, .ref mw, .int 0, .int 0])), (ma, .inr (0, [.int 0, .ref t, .int 0])), (mw, .inl (k2, 4, .inl (zW))), (o, .inl (k3, 1, .inr (.inl (fun _ => 0))))] H := hP
  have hD : va_D (fun q : Nat => s.heap.size ≤ q) [(x0, .inr (5, [.ref xa, .ref xw, .ref xb, .int 0])), (xa, .inr (0, [.int 0, .ref t, .int 0])), (xw, .inl (k1, 4, .inl (zW))), (m0, .inr (7, [.ref ma, .ref mw, .int 0, .int 0])), (ma, .inr (0, [.int 0, .ref t, .int 0])), (mw, .inl (k2, 4, .inl (zW))), (o, .inl (k3, 1, .inr (.inl (fun _ => 0))))] := hD
  refine W.widen (k := 27) (n := 131) (zl_b rfl) (zl_b rfl) ?_
  refine lv_istore (lv' := [(6, .int 1), (5, .int 0), (4, .ref od), (3, .ref o), (2, .ref m0), (1, .ref x0), (0, .ref b)]) hx hb dL_law_305 hl (by decide) rfl (fun ls hl => ?_)
  refine lv_aload_n hx hb dL_law_307 rfl (lv_at hl 4 rfl) ?_
  refine lv_aload_n hx hb dL_law_308 rfl (lv_at hl 6 rfl) ?_
  refine lv_iload hx hb dL_law_309 (lv_at hl 1 rfl) ?_
  refine lv_iconst (v := 1) hx hb dL_law_311 (by decide) ?_
  refine lv_iadd hx hb dL_law_312 ?_
  refine va_sld hx hb hX hbl hbA hS (by unfold vp_in; decide) dL_law_313 ?_
  refine lv_topi (fun v_4 e_v_4 => ?_)
  have s_5 : v_1 = v_4 := by rw [e_v_1, e_v_4]
  subst s_5
  refine lv_aload_n hx hb dL_law_314 rfl (lv_at hl 6 rfl) ?_
  refine lv_iload hx hb dL_law_315 (lv_at hl 1 rfl) ?_
  refine lv_iconst (v := 2) hx hb dL_law_317 (by decide) ?_
  refine lv_iadd hx hb dL_law_318 ?_
  refine va_sld hx hb hX hbl hbA hS (by unfold vp_in; decide) dL_law_319 ?_
  refine lv_topi (fun v_6 e_v_6 => ?_)
  have s_7 : v_2 = v_6 := by rw [e_v_2, e_v_6]
  subst s_7
  have hFc := va_free (wc := [(m0, .inr (7, [.ref ma, .ref mw, .int 0, .int 0])), (ma, .inr (0, [.int 0, .ref t, .int 0]))]) hD hS hA [3, 4] rfl
  refine va_calli (va_runV (As := [.int v_1, .int v_2]) (rest := []) ⟨hx, hb, hml, hown, hts⟩ (m_setLimit l dC dI H.size t m0 ma (.ref mw) 0 0 (.ref t) v_1 v_2) (cwV 2 hts (zg_V kw_1428 kw_1429 kw_1430 kw_70 kw_1431) rfl rfl rfl (by decide +kernel) ⟨Nat.le_of_ble_eq_true rfl, Nat.le_of_ble_eq_true rfl⟩) ⟨zA_blind, va_recv hK hP (ci := 7) (q0 := 3) rfl rfl, zA_pre hP hD hS hK hQ hA [3, 4] rfl rfl (by decide) [] rfl⟩ rfl rfl hl.1 rfl (lv_room (Nat.le_of_ble_eq_true rfl)) dL_law_320 ⟨zl_b rfl, zl_b rfl⟩) hS (fun q _ h => hFc q h) hFc (fun r_8 u t9 H1 locs ht hvm hw hB hz1 hk1 hS => ?_)
  obtain ⟨hP1, hK1, hD1⟩ := hB
  rw [ht] at hP1
  have hK1 := va_K.moved hvm.symm hK1
  obtain ⟨hP, hD⟩ := va_join (wr := [(x0, .inr (5, [.ref xa, .ref xw, .ref xb, .int 0])), (xa, .inr (0, [.int 0, .ref t, .int 0])), (xw, .inl (k1, 4, .inl (zW))), (mw, .inl (k2, 4, .inl (zW))), (o, .inl (k3, 1, .inr (.inl (fun _ => 0))))]) (w1 := [(m0, .inr (7, [.ref ma, .ref mw, .int 0, .int 1])), (ma, .inr (0, [.int 0, .ref t, .int 0]))]) hP hD [3, 4] [0, 1, 2, 5, 6] rfl rfl (by decide) (by decide) hk1 hFc hP1 hD1
  have hK := (hK.sub (tys' := [(k1, .int), (k2, .int), (k3, .long)]) [0, 1, 2] rfl).app hK1
  generalize H1 = H at hP hS ⊢
  have hP : va_P (dC, dI) zc [(x0, .inr (5, [.ref xa, .ref xw, .ref xb, .int 0])), (xa, .inr (0, [.int 0, .ref t, .int 0])), (xw, .inl (k1, 4, .inl (zW))), (mw, .inl (k2, 4, .inl (zW))), (o, .inl (k3, 1, .inr (.inl (fun _ => 0)))), (m0, .inr (7, [.ref ma, .ref mw, .int 0, .int 1])), (ma, .inr (0, [.int 0, .ref t, .int 0]))] H := hP
  have hD : va_D (fun q : Nat => s.heap.size ≤ q) [(x0, .inr (5, [.ref xa, .ref xw, .ref xb, .int 0])), (xa, .inr (0, [.int 0, .ref t, .int 0])), (xw, .inl (k1, 4, .inl (zW))), (mw, .inl (k2, 4, .inl (zW))), (o, .inl (k3, 1, .inr (.inl (fun _ => 0)))), (m0, .inr (7, [.ref ma, .ref mw, .int 0, .int 1])), (ma, .inr (0, [.int 0, .ref t, .int 0]))] := hD
  have hK : va_K (dC, dI) zc [(k1, .int), (k2, .int), (k3, .long)] s := hK
  refine lv_istore (lv' := [(7, .int r_8), (6, .int 1), (5, .int 0), (4, .ref od), (3, .ref o), (2, .ref m0), (1, .ref x0), (0, .ref b)]) hx hb dL_law_323 hl (by decide) rfl (fun ls hl => ?_)
  refine lv_aload_n hx hb dL_law_325 rfl (lv_at hl 5 rfl) ?_
  refine vp_callSi (W.runV (As := []) (rest := []) ⟨hx, hb, hml, hown, hts⟩ (c_thrown l dC dI H.size t m0 (.ref ma) (.ref mw) 0 1) (cwV 0 hts (zg_V kw_1365 kw_1366 kw_1367 kw_70 kw_1368) rfl rfl rfl (by decide +kernel) ⟨Nat.le_of_ble_eq_true rfl, Nat.le_of_ble_eq_true rfl⟩) ⟨zA_blind, va_recv hK hP (ci := 7) (q0 := 5) rfl rfl, zA_pre hP hD hS hK hQ hA [5] rfl rfl (by decide) [] rfl⟩ rfl rfl hl.1 rfl (lv_room (Nat.le_of_ble_eq_true rfl)) dL_law_326 ⟨zl_b rfl, zl_b rfl⟩) (fun r hr => ?_)
  subst hr
  refine lv_iload hx hb dL_law_329 (lv_at hl 1 rfl) ?_
  refine lv_icmp_eq (tgt := 336) hx hb dL_law_331 (by decide) (fun c_9 => ?_) (fun c_9 => absurd c_9 (by decide))
  refine lv_iload hx hb dL_law_336 (lv_at hl 1 rfl) ?_
  refine lv_if_ne (tgt := 353) hx hb dL_law_338 (by decide) (fun c_10 => ?_) (fun c_10 => absurd c_10 (by decide))
  refine lv_goto (tgt := 2981) hx hb dL_law_353 (by decide) ?_
  exact law_tail l C0 _ _ (zl_b rfl) (zl_b rfl) _ _ hS ls (lv_sub hl [7, 2] rfl)
set_option maxHeartbeats 4000000 in
set_option maxRecDepth 100000 in
/-- the law on block -/
theorem law_c2 {p : Program} {e : Env} {s : State} {m : MethodId} {below : List Frame} {meth : Method} {c : Code} {b : Nat} {xs : Nat → Int32} (l : Launch) (hst : l.stackTraces = false) (C0 : lw_At p s m meth c b 5 xs) {dC : Nat → ClassId} {dI : Nat → Nat → Nat} {t x0 xa xw xb m0 ma mw o od : Nat} {k1 k2 k3 : ClassId} (H : Heap) (locs : List Loc) (hK : va_K (dC, dI) zc [(k1, .int), (k2, .int), (k3, .long)] s) (hQ : zQ t (fun q : Nat => s.heap.size ≤ q) s s.heap) (hP : va_P (dC, dI) zc [(x0, .inr (5, [.ref xa, .ref xw, .ref xb, .int 0])), (xa, .inr (0, [.int 0, .ref t, .int 0])), (xw, .inl (k1, 4, .inl (zW))), (m0, .inr (7, [.ref ma, .ref mw, .int 0, .int 0])), (ma, .inr (0, [.int 0, .ref t, .int 0])), (mw, .inl (k2, 4, .inl (zW))), (o, .inl (k3, 1, .inr (.inl (fun _ => 0))))] H) (hD : va_D (fun q : Nat => s.heap.size ≤ q) [(x0, .inr (5, [.ref xa, .ref xw, .ref xb, .int 0])), (xa, .inr (0, [.int 0, .ref t, .int 0])), (xw, .inl (k1, 4, .inl (zW))), (m0, .inr (7, [.ref ma, .ref mw, .int 0, .int 0])), (ma, .inr (0, [.int 0, .ref t, .int 0])), (mw, .inl (k2, 4, .inl (zW))), (o, .inl (k3, 1, .inr (.inl (fun _ => 0))))]) (hS : va_S (fun q : Nat => s.heap.size ≤ q) s.heap H locs) (ls : Array Slot) (hl : lv_has ls 9 [(5, .int 0), (4, .ref od), (3, .ref o), (2, .ref m0), (1, .ref x0), (0, .ref b)]) : W p l e room_1 s m #[Value.ref b] below meth c H locs 26 125 (lw_Z below #[Value.ref b] s) (F0 m 356 ls []) := by
  obtain ⟨hx, hb, hr, hml, hown, hts0, hX, hbl, hlocks, hgv⟩ := id C0
  have hts : ∀ w ∈ zG, w.before #[Value.ref b] s = true := fun w h => hts0 w (zg_tbl h)
  have hA : ∀ q : Nat, s.heap.size ≤ q → (fun q : Nat => s.heap.size ≤ q) q := fun _ h => h
  have hbA : ¬ (fun q : Nat => s.heap.size ≤ q) b := Nat.not_le.mpr hbl
  refine lv_aload_n hx hb dL_law_356 rfl (lv_at hl 4 rfl) ?_
  refine lv_aload_n hx hb dL_law_357 rfl (lv_at hl 5 rfl) ?_
  refine lv_iload hx hb dL_law_358 (lv_at hl 0 rfl) ?_
  refine lv_iconst (v := 1) hx hb dL_law_360 (by decide) ?_
  refine lv_iadd hx hb dL_law_361 ?_
  refine va_sld hx hb hX hbl hbA hS (by unfold vp_in; decide) dL_law_362 ?_
  refine lv_topi (fun v_1 e_v_1 => ?_)
  refine lv_aload_n hx hb dL_law_363 rfl (lv_at hl 5 rfl) ?_
  refine lv_iload hx hb dL_law_364 (lv_at hl 0 rfl) ?_
  refine lv_iconst (v := 2) hx hb dL_law_366 (by decide) ?_
  refine lv_iadd hx hb dL_law_367 ?_
  refine va_sld hx hb hX hbl hbA hS (by unfold vp_in; decide) dL_law_368 ?_
  refine lv_topi (fun v_2 e_v_2 => ?_)
  refine lv_if_eq (tgt := 376) hx hb dL_law_369 (by decide) (fun c_3 => ?_) (fun c_3 => ?_)
  · refine lv_iconst (v := 0) hx hb dL_law_376 (by decide) ?_
    refine lv_aload_n hx hb dL_law_377 rfl (lv_at hl 2 rfl) ?_
    refine vx_calli (vx_runSX (As := [.ref x0, .int v_1, .int 0, .ref o]) (rest := []) ⟨hx, hb, hml, hown, hts⟩ (lx_block l hst dC dI H.size t x0 xa o (.ref xw) (.ref xb) 0 (.ref t) v_1 0) (vx_cwSW 4 hts (zg_S kw_687 kw_688 kw_63 kw_689) rfl rfl rfl (by decide +kernel) ⟨Nat.le_of_ble_eq_true rfl, Nat.le_of_ble_eq_true rfl⟩) ⟨zA_blind, zA_pre hP hD hS hK hQ hA [0, 1] rfl rfl (by decide) [] rfl⟩ rfl rfl hl.1 rfl (lv_room (Nat.le_of_ble_eq_true rfl)) dL_law_378 ⟨zl_b rfl, zl_b rfl⟩) hS (fun q _ h => hA q (Nat.le_trans (hS.1) h)) (fun q h => hA q (Nat.le_trans (hS.1) h)) (fun q _ h => h.elim) (fun E ce q9 u t9 H1 locs1 ht hvm hp9 hE hz1 hk1 hS1 hc1 hv1 hcl1 => hp9.elim) (fun r_4 u t9 H1 locs ht hvm hw hB hz1 hk1 hS => ?_)
    have hw : r_4 = 1 := hw
    subst hw
    have hP := zP_new hP hk1
    generalize H1 = H at hP hS ⊢
    have hP : va_P (dC, dI) zc [(x0, .inr (5, [.ref xa, .ref xw, .ref xb, .int 0])), (xa, .inr (0, [.int 0, .ref t, .int 0])), (xw, .inl (k1, 4, .inl (zW))), (m0, .inr (7, [.ref ma, .ref mw, .int 0, .int 0])), (ma, .inr (0, [.int 0, .ref t, .int 0])), (mw, .inl (k2, 4, .inl (zW))), (o, .inl (k3, 1, .inr (.inl (fun _ => 0))))] H := hP
    have hD : va_D (fun q : Nat => s.heap.size ≤ q) [(x0, .inr (5, [.ref xa, .ref xw, .ref xb, .int 0])), (xa, .inr (0, [.int 0, .ref t, .int 0])), (xw, .inl (k1, 4, .inl (zW))), (m0, .inr (7, [.ref ma, .ref mw, .int 0, .int 0])), (ma, .inr (0, [.int 0, .ref t, .int 0])), (mw, .inl (k2, 4, .inl (zW))), (o, .inl (k3, 1, .inr (.inl (fun _ => 0))))] := hD
    refine W.widen (k := 27) (n := 131) (zl_b rfl) (zl_b rfl) ?_
    refine lv_istore (lv' := [(6, .int 1), (5, .int 0), (4, .ref od), (3, .ref o), (2, .ref m0), (1, .ref x0), (0, .ref b)]) hx hb dL_law_381 hl (by decide) rfl (fun ls hl => ?_)
    refine lv_aload_n hx hb dL_law_383 rfl (lv_at hl 4 rfl) ?_
    refine lv_aload_n hx hb dL_law_384 rfl (lv_at hl 6 rfl) ?_
    refine lv_iload hx hb dL_law_385 (lv_at hl 1 rfl) ?_
    refine lv_iconst (v := 1) hx hb dL_law_387 (by decide) ?_
    refine lv_iadd hx hb dL_law_388 ?_
    refine va_sld hx hb hX hbl hbA hS (by unfold vp_in; decide) dL_law_389 ?_
    refine lv_topi (fun v_5 e_v_5 => ?_)
    have s_6 : v_1 = v_5 := by rw [e_v_1, e_v_5]
    subst s_6
    refine lv_aload_n hx hb dL_law_390 rfl (lv_at hl 6 rfl) ?_
    refine lv_iload hx hb dL_law_391 (lv_at hl 1 rfl) ?_
    refine lv_iconst (v := 2) hx hb dL_law_393 (by decide) ?_
    refine lv_iadd hx hb dL_law_394 ?_
    refine va_sld hx hb hX hbl hbA hS (by unfold vp_in; decide) dL_law_395 ?_
    refine lv_topi (fun v_7 e_v_7 => ?_)
    have s_8 : v_2 = v_7 := by rw [e_v_2, e_v_7]
    subst s_8
    refine lv_if_eq (tgt := 403) hx hb dL_law_396 (by decide) (fun c_9 => ?_) (fun c_9 => ?_)
    · refine lv_iconst (v := 0) hx hb dL_law_403 (by decide) ?_
      have hFc := va_free (wc := [(m0, .inr (7, [.ref ma, .ref mw, .int 0, .int 0])), (ma, .inr (0, [.int 0, .ref t, .int 0]))]) hD hS hA [3, 4] rfl
      refine va_calli (va_runV (As := [.int v_1, .int 0]) (rest := []) ⟨hx, hb, hml, hown, hts⟩ (m_block l dC dI H.size t m0 ma (.ref mw) 0 0 (.ref t) v_1 0) (cwV 2 hts (zg_V kw_1436 kw_1437 kw_1438 kw_70 kw_1439) rfl rfl rfl (by decide +kernel) ⟨Nat.le_of_ble_eq_true rfl, Nat.le_of_ble_eq_true rfl⟩) ⟨zA_blind, va_recv hK hP (ci := 7) (q0 := 3) rfl rfl, zA_pre hP hD hS hK hQ hA [3, 4] rfl rfl (by decide) [] rfl⟩ rfl rfl hl.1 rfl (lv_room (Nat.le_of_ble_eq_true rfl)) dL_law_404 ⟨zl_b rfl, zl_b rfl⟩) hS (fun q _ h => hFc q h) hFc (fun r_10 u t9 H1 locs ht hvm hw hB hz1 hk1 hS => ?_)
      obtain ⟨hP1, hK1, hD1⟩ := hB
      rw [ht] at hP1
      have hK1 := va_K.moved hvm.symm hK1
      obtain ⟨hP, hD⟩ := va_join (wr := [(x0, .inr (5, [.ref xa, .ref xw, .ref xb, .int 0])), (xa, .inr (0, [.int 0, .ref t, .int 0])), (xw, .inl (k1, 4, .inl (zW))), (mw, .inl (k2, 4, .inl (zW))), (o, .inl (k3, 1, .inr (.inl (fun _ => 0))))]) (w1 := [(m0, .inr (7, [.ref ma, .ref mw, .int 0, .int 1])), (ma, .inr (0, [.int 0, .ref t, .int 0]))]) hP hD [3, 4] [0, 1, 2, 5, 6] rfl rfl (by decide) (by decide) hk1 hFc hP1 hD1
      have hK := (hK.sub (tys' := [(k1, .int), (k2, .int), (k3, .long)]) [0, 1, 2] rfl).app hK1
      generalize H1 = H at hP hS ⊢
      have hP : va_P (dC, dI) zc [(x0, .inr (5, [.ref xa, .ref xw, .ref xb, .int 0])), (xa, .inr (0, [.int 0, .ref t, .int 0])), (xw, .inl (k1, 4, .inl (zW))), (mw, .inl (k2, 4, .inl (zW))), (o, .inl (k3, 1, .inr (.inl (fun _ => 0)))), (m0, .inr (7, [.ref ma, .ref mw, .int 0, .int 1])), (ma, .inr (0, [.int 0, .ref t, .int 0]))] H := hP
      have hD : va_D (fun q : Nat => s.heap.size ≤ q) [(x0, .inr (5, [.ref xa, .ref xw, .ref xb, .int 0])), (xa, .inr (0, [.int 0, .ref t, .int 0])), (xw, .inl (k1, 4, .inl (zW))), (mw, .inl (k2, 4, .inl (zW))), (o, .inl (k3, 1, .inr (.inl (fun _ => 0)))), (m0, .inr (7, [.ref ma, .ref mw, .int 0, .int 1])), (ma, .inr (0, [.int 0, .ref t, .int 0]))] := hD
      have hK : va_K (dC, dI) zc [(k1, .int), (k2, .int), (k3, .long)] s := hK
      refine lv_istore (lv' := [(7, .int r_10), (6, .int 1), (5, .int 0), (4, .ref od), (3, .ref o), (2, .ref m0), (1, .ref x0), (0, .ref b)]) hx hb dL_law_407 hl (by decide) rfl (fun ls hl => ?_)
      refine lv_aload_n hx hb dL_law_409 rfl (lv_at hl 5 rfl) ?_
      refine vp_callSi (W.runV (As := []) (rest := []) ⟨hx, hb, hml, hown, hts⟩ (c_thrown l dC dI H.size t m0 (.ref ma) (.ref mw) 0 1) (cwV 0 hts (zg_V kw_1365 kw_1366 kw_1367 kw_70 kw_1368) rfl rfl rfl (by decide +kernel) ⟨Nat.le_of_ble_eq_true rfl, Nat.le_of_ble_eq_true rfl⟩) ⟨zA_blind, va_recv hK hP (ci := 7) (q0 := 5) rfl rfl, zA_pre hP hD hS hK hQ hA [5] rfl rfl (by decide) [] rfl⟩ rfl rfl hl.1 rfl (lv_room (Nat.le_of_ble_eq_true rfl)) dL_law_410 ⟨zl_b rfl, zl_b rfl⟩) (fun r hr => ?_)
      subst hr
      refine lv_iload hx hb dL_law_413 (lv_at hl 1 rfl) ?_
      refine lv_icmp_eq (tgt := 420) hx hb dL_law_415 (by decide) (fun c_11 => ?_) (fun c_11 => absurd c_11 (by decide))
      refine lv_iload hx hb dL_law_420 (lv_at hl 1 rfl) ?_
      refine lv_if_ne (tgt := 444) hx hb dL_law_422 (by decide) (fun c_12 => ?_) (fun c_12 => absurd c_12 (by decide))
      refine lv_goto (tgt := 2981) hx hb dL_law_444 (by decide) ?_
      exact law_tail l C0 _ _ (zl_b rfl) (zl_b rfl) _ _ hS ls (lv_sub hl [7, 2] rfl)
    · refine lv_iconst (v := 1) hx hb dL_law_399 (by decide) ?_
      refine lv_goto (tgt := 404) hx hb dL_law_400 (by decide) ?_
      have hFc := va_free (wc := [(m0, .inr (7, [.ref ma, .ref mw, .int 0, .int 0])), (ma, .inr (0, [.int 0, .ref t, .int 0]))]) hD hS hA [3, 4] rfl
      refine va_calli (va_runV (As := [.int v_1, .int 1]) (rest := []) ⟨hx, hb, hml, hown, hts⟩ (m_block l dC dI H.size t m0 ma (.ref mw) 0 0 (.ref t) v_1 1) (cwV 2 hts (zg_V kw_1436 kw_1437 kw_1438 kw_70 kw_1439) rfl rfl rfl (by decide +kernel) ⟨Nat.le_of_ble_eq_true rfl, Nat.le_of_ble_eq_true rfl⟩) ⟨zA_blind, va_recv hK hP (ci := 7) (q0 := 3) rfl rfl, zA_pre hP hD hS hK hQ hA [3, 4] rfl rfl (by decide) [] rfl⟩ rfl rfl hl.1 rfl (lv_room (Nat.le_of_ble_eq_true rfl)) dL_law_404 ⟨zl_b rfl, zl_b rfl⟩) hS (fun q _ h => hFc q h) hFc (fun r_13 u t9 H1 locs ht hvm hw hB hz1 hk1 hS => ?_)
      obtain ⟨hP1, hK1, hD1⟩ := hB
      rw [ht] at hP1
      have hK1 := va_K.moved hvm.symm hK1
      obtain ⟨hP, hD⟩ := va_join (wr := [(x0, .inr (5, [.ref xa, .ref xw, .ref xb, .int 0])), (xa, .inr (0, [.int 0, .ref t, .int 0])), (xw, .inl (k1, 4, .inl (zW))), (mw, .inl (k2, 4, .inl (zW))), (o, .inl (k3, 1, .inr (.inl (fun _ => 0))))]) (w1 := [(m0, .inr (7, [.ref ma, .ref mw, .int 0, .int 1])), (ma, .inr (0, [.int 0, .ref t, .int 0]))]) hP hD [3, 4] [0, 1, 2, 5, 6] rfl rfl (by decide) (by decide) hk1 hFc hP1 hD1
      have hK := (hK.sub (tys' := [(k1, .int), (k2, .int), (k3, .long)]) [0, 1, 2] rfl).app hK1
      generalize H1 = H at hP hS ⊢
      have hP : va_P (dC, dI) zc [(x0, .inr (5, [.ref xa, .ref xw, .ref xb, .int 0])), (xa, .inr (0, [.int 0, .ref t, .int 0])), (xw, .inl (k1, 4, .inl (zW))), (mw, .inl (k2, 4, .inl (zW))), (o, .inl (k3, 1, .inr (.inl (fun _ => 0)))), (m0, .inr (7, [.ref ma, .ref mw, .int 0, .int 1])), (ma, .inr (0, [.int 0, .ref t, .int 0]))] H := hP
      have hD : va_D (fun q : Nat => s.heap.size ≤ q) [(x0, .inr (5, [.ref xa, .ref xw, .ref xb, .int 0])), (xa, .inr (0, [.int 0, .ref t, .int 0])), (xw, .inl (k1, 4, .inl (zW))), (mw, .inl (k2, 4, .inl (zW))), (o, .inl (k3, 1, .inr (.inl (fun _ => 0)))), (m0, .inr (7, [.ref ma, .ref mw, .int 0, .int 1])), (ma, .inr (0, [.int 0, .ref t, .int 0]))] := hD
      have hK : va_K (dC, dI) zc [(k1, .int), (k2, .int), (k3, .long)] s := hK
      refine lv_istore (lv' := [(7, .int r_13), (6, .int 1), (5, .int 0), (4, .ref od), (3, .ref o), (2, .ref m0), (1, .ref x0), (0, .ref b)]) hx hb dL_law_407 hl (by decide) rfl (fun ls hl => ?_)
      refine lv_aload_n hx hb dL_law_409 rfl (lv_at hl 5 rfl) ?_
      refine vp_callSi (W.runV (As := []) (rest := []) ⟨hx, hb, hml, hown, hts⟩ (c_thrown l dC dI H.size t m0 (.ref ma) (.ref mw) 0 1) (cwV 0 hts (zg_V kw_1365 kw_1366 kw_1367 kw_70 kw_1368) rfl rfl rfl (by decide +kernel) ⟨Nat.le_of_ble_eq_true rfl, Nat.le_of_ble_eq_true rfl⟩) ⟨zA_blind, va_recv hK hP (ci := 7) (q0 := 5) rfl rfl, zA_pre hP hD hS hK hQ hA [5] rfl rfl (by decide) [] rfl⟩ rfl rfl hl.1 rfl (lv_room (Nat.le_of_ble_eq_true rfl)) dL_law_410 ⟨zl_b rfl, zl_b rfl⟩) (fun r hr => ?_)
      subst hr
      refine lv_iload hx hb dL_law_413 (lv_at hl 1 rfl) ?_
      refine lv_icmp_eq (tgt := 420) hx hb dL_law_415 (by decide) (fun c_14 => ?_) (fun c_14 => absurd c_14 (by decide))
      refine lv_iload hx hb dL_law_420 (lv_at hl 1 rfl) ?_
      refine lv_if_ne (tgt := 444) hx hb dL_law_422 (by decide) (fun c_15 => ?_) (fun c_15 => absurd c_15 (by decide))
      refine lv_goto (tgt := 2981) hx hb dL_law_444 (by decide) ?_
      exact law_tail l C0 _ _ (zl_b rfl) (zl_b rfl) _ _ hS ls (lv_sub hl [7, 2] rfl)
  · refine lv_iconst (v := 1) hx hb dL_law_372 (by decide) ?_
    refine lv_goto (tgt := 377) hx hb dL_law_373 (by decide) ?_
    refine lv_aload_n hx hb dL_law_377 rfl (lv_at hl 2 rfl) ?_
    refine vx_calli (vx_runSX (As := [.ref x0, .int v_1, .int 1, .ref o]) (rest := []) ⟨hx, hb, hml, hown, hts⟩ (lx_block l hst dC dI H.size t x0 xa o (.ref xw) (.ref xb) 0 (.ref t) v_1 1) (vx_cwSW 4 hts (zg_S kw_687 kw_688 kw_63 kw_689) rfl rfl rfl (by decide +kernel) ⟨Nat.le_of_ble_eq_true rfl, Nat.le_of_ble_eq_true rfl⟩) ⟨zA_blind, zA_pre hP hD hS hK hQ hA [0, 1] rfl rfl (by decide) [] rfl⟩ rfl rfl hl.1 rfl (lv_room (Nat.le_of_ble_eq_true rfl)) dL_law_378 ⟨zl_b rfl, zl_b rfl⟩) hS (fun q _ h => hA q (Nat.le_trans (hS.1) h)) (fun q h => hA q (Nat.le_trans (hS.1) h)) (fun q _ h => h.elim) (fun E ce q9 u t9 H1 locs1 ht hvm hp9 hE hz1 hk1 hS1 hc1 hv1 hcl1 => hp9.elim) (fun r_16 u t9 H1 locs ht hvm hw hB hz1 hk1 hS => ?_)
    have hw : r_16 = 1 := hw
    subst hw
    have hP := zP_new hP hk1
    generalize H1 = H at hP hS ⊢
    have hP : va_P (dC, dI) zc [(x0, .inr (5, [.ref xa, .ref xw, .ref xb, .int 0])), (xa, .inr (0, [.int 0, .ref t, .int 0])), (xw, .inl (k1, 4, .inl (zW))), (m0, .inr (7, [.ref ma, .ref mw, .int 0, .int 0])), (ma, .inr (0, [.int 0, .ref t, .int 0])), (mw, .inl (k2, 4, .inl (zW))), (o, .inl (k3, 1, .inr (.inl (fun _ => 0))))] H := hP
    have hD : va_D (fun q : Nat => s.heap.size ≤ q) [(x0, .inr (5, [.ref xa, .ref xw, .ref xb, .int 0])), (xa, .inr (0, [.int 0, .ref t, .int 0])), (xw, .inl (k1, 4, .inl (zW))), (m0, .inr (7, [.ref ma, .ref mw, .int 0, .int 0])), (ma, .inr (0, [.int 0, .ref t, .int 0])), (mw, .inl (k2, 4, .inl (zW))), (o, .inl (k3, 1, .inr (.inl (fun _ => 0))))] := hD
    refine W.widen (k := 27) (n := 131) (zl_b rfl) (zl_b rfl) ?_
    refine lv_istore (lv' := [(6, .int 1), (5, .int 0), (4, .ref od), (3, .ref o), (2, .ref m0), (1, .ref x0), (0, .ref b)]) hx hb dL_law_381 hl (by decide) rfl (fun ls hl => ?_)
    refine lv_aload_n hx hb dL_law_383 rfl (lv_at hl 4 rfl) ?_
    refine lv_aload_n hx hb dL_law_384 rfl (lv_at hl 6 rfl) ?_
    refine lv_iload hx hb dL_law_385 (lv_at hl 1 rfl) ?_
    refine lv_iconst (v := 1) hx hb dL_law_387 (by decide) ?_
    refine lv_iadd hx hb dL_law_388 ?_
    refine va_sld hx hb hX hbl hbA hS (by unfold vp_in; decide) dL_law_389 ?_
    refine lv_topi (fun v_17 e_v_17 => ?_)
    have s_18 : v_1 = v_17 := by rw [e_v_1, e_v_17]
    subst s_18
    refine lv_aload_n hx hb dL_law_390 rfl (lv_at hl 6 rfl) ?_
    refine lv_iload hx hb dL_law_391 (lv_at hl 1 rfl) ?_
    refine lv_iconst (v := 2) hx hb dL_law_393 (by decide) ?_
    refine lv_iadd hx hb dL_law_394 ?_
    refine va_sld hx hb hX hbl hbA hS (by unfold vp_in; decide) dL_law_395 ?_
    refine lv_topi (fun v_19 e_v_19 => ?_)
    have s_20 : v_2 = v_19 := by rw [e_v_2, e_v_19]
    subst s_20
    refine lv_if_eq (tgt := 403) hx hb dL_law_396 (by decide) (fun c_21 => ?_) (fun c_21 => ?_)
    · refine lv_iconst (v := 0) hx hb dL_law_403 (by decide) ?_
      have hFc := va_free (wc := [(m0, .inr (7, [.ref ma, .ref mw, .int 0, .int 0])), (ma, .inr (0, [.int 0, .ref t, .int 0]))]) hD hS hA [3, 4] rfl
      refine va_calli (va_runV (As := [.int v_1, .int 0]) (rest := []) ⟨hx, hb, hml, hown, hts⟩ (m_block l dC dI H.size t m0 ma (.ref mw) 0 0 (.ref t) v_1 0) (cwV 2 hts (zg_V kw_1436 kw_1437 kw_1438 kw_70 kw_1439) rfl rfl rfl (by decide +kernel) ⟨Nat.le_of_ble_eq_true rfl, Nat.le_of_ble_eq_true rfl⟩) ⟨zA_blind, va_recv hK hP (ci := 7) (q0 := 3) rfl rfl, zA_pre hP hD hS hK hQ hA [3, 4] rfl rfl (by decide) [] rfl⟩ rfl rfl hl.1 rfl (lv_room (Nat.le_of_ble_eq_true rfl)) dL_law_404 ⟨zl_b rfl, zl_b rfl⟩) hS (fun q _ h => hFc q h) hFc (fun r_22 u t9 H1 locs ht hvm hw hB hz1 hk1 hS => ?_)
      obtain ⟨hP1, hK1, hD1⟩ := hB
      rw [ht] at hP1
      have hK1 := va_K.moved hvm.symm hK1
      obtain ⟨hP, hD⟩ := va_join (wr := [(x0, .inr (5, [.ref xa, .ref xw, .ref xb, .int 0])), (xa, .inr (0, [.int 0, .ref t, .int 0])), (xw, .inl (k1, 4, .inl (zW))), (mw, .inl (k2, 4, .inl (zW))), (o, .inl (k3, 1, .inr (.inl (fun _ => 0))))]) (w1 := [(m0, .inr (7, [.ref ma, .ref mw, .int 0, .int 1])), (ma, .inr (0, [.int 0, .ref t, .int 0]))]) hP hD [3, 4] [0, 1, 2, 5, 6] rfl rfl (by decide) (by decide) hk1 hFc hP1 hD1
      have hK := (hK.sub (tys' := [(k1, .int), (k2, .int), (k3, .long)]) [0, 1, 2] rfl).app hK1
      generalize H1 = H at hP hS ⊢
      have hP : va_P (dC, dI) zc [(x0, .inr (5, [.ref xa, .ref xw, .ref xb, .int 0])), (xa, .inr (0, [.int 0, .ref t, .int 0])), (xw, .inl (k1, 4, .inl (zW))), (mw, .inl (k2, 4, .inl (zW))), (o, .inl (k3, 1, .inr (.inl (fun _ => 0)))), (m0, .inr (7, [.ref ma, .ref mw, .int 0, .int 1])), (ma, .inr (0, [.int 0, .ref t, .int 0]))] H := hP
      have hD : va_D (fun q : Nat => s.heap.size ≤ q) [(x0, .inr (5, [.ref xa, .ref xw, .ref xb, .int 0])), (xa, .inr (0, [.int 0, .ref t, .int 0])), (xw, .inl (k1, 4, .inl (zW))), (mw, .inl (k2, 4, .inl (zW))), (o, .inl (k3, 1, .inr (.inl (fun _ => 0)))), (m0, .inr (7, [.ref ma, .ref mw, .int 0, .int 1])), (ma, .inr (0, [.int 0, .ref t, .int 0]))] := hD
      have hK : va_K (dC, dI) zc [(k1, .int), (k2, .int), (k3, .long)] s := hK
      refine lv_istore (lv' := [(7, .int r_22), (6, .int 1), (5, .int 0), (4, .ref od), (3, .ref o), (2, .ref m0), (1, .ref x0), (0, .ref b)]) hx hb dL_law_407 hl (by decide) rfl (fun ls hl => ?_)
      refine lv_aload_n hx hb dL_law_409 rfl (lv_at hl 5 rfl) ?_
      refine vp_callSi (W.runV (As := []) (rest := []) ⟨hx, hb, hml, hown, hts⟩ (c_thrown l dC dI H.size t m0 (.ref ma) (.ref mw) 0 1) (cwV 0 hts (zg_V kw_1365 kw_1366 kw_1367 kw_70 kw_1368) rfl rfl rfl (by decide +kernel) ⟨Nat.le_of_ble_eq_true rfl, Nat.le_of_ble_eq_true rfl⟩) ⟨zA_blind, va_recv hK hP (ci := 7) (q0 := 5) rfl rfl, zA_pre hP hD hS hK hQ hA [5] rfl rfl (by decide) [] rfl⟩ rfl rfl hl.1 rfl (lv_room (Nat.le_of_ble_eq_true rfl)) dL_law_410 ⟨zl_b rfl, zl_b rfl⟩) (fun r hr => ?_)
      subst hr
      refine lv_iload hx hb dL_law_413 (lv_at hl 1 rfl) ?_
      refine lv_icmp_eq (tgt := 420) hx hb dL_law_415 (by decide) (fun c_23 => ?_) (fun c_23 => absurd c_23 (by decide))
      refine lv_iload hx hb dL_law_420 (lv_at hl 1 rfl) ?_
      refine lv_if_ne (tgt := 444) hx hb dL_law_422 (by decide) (fun c_24 => ?_) (fun c_24 => absurd c_24 (by decide))
      refine lv_goto (tgt := 2981) hx hb dL_law_444 (by decide) ?_
      exact law_tail l C0 _ _ (zl_b rfl) (zl_b rfl) _ _ hS ls (lv_sub hl [7, 2] rfl)
    · refine lv_iconst (v := 1) hx hb dL_law_399 (by decide) ?_
      refine lv_goto (tgt := 404) hx hb dL_law_400 (by decide) ?_
      have hFc := va_free (wc := [(m0, .inr (7, [.ref ma, .ref mw, .int 0, .int 0])), (ma, .inr (0, [.int 0, .ref t, .int 0]))]) hD hS hA [3, 4] rfl
      refine va_calli (va_runV (As := [.int v_1, .int 1]) (rest := []) ⟨hx, hb, hml, hown, hts⟩ (m_block l dC dI H.size t m0 ma (.ref mw) 0 0 (.ref t) v_1 1) (cwV 2 hts (zg_V kw_1436 kw_1437 kw_1438 kw_70 kw_1439) rfl rfl rfl (by decide +kernel) ⟨Nat.le_of_ble_eq_true rfl, Nat.le_of_ble_eq_true rfl⟩) ⟨zA_blind, va_recv hK hP (ci := 7) (q0 := 3) rfl rfl, zA_pre hP hD hS hK hQ hA [3, 4] rfl rfl (by decide) [] rfl⟩ rfl rfl hl.1 rfl (lv_room (Nat.le_of_ble_eq_true rfl)) dL_law_404 ⟨zl_b rfl, zl_b rfl⟩) hS (fun q _ h => hFc q h) hFc (fun r_25 u t9 H1 locs ht hvm hw hB hz1 hk1 hS => ?_)
      obtain ⟨hP1, hK1, hD1⟩ := hB
      rw [ht] at hP1
      have hK1 := va_K.moved hvm.symm hK1
      obtain ⟨hP, hD⟩ := va_join (wr := [(x0, .inr (5, [.ref xa, .ref xw, .ref xb, .int 0])), (xa, .inr (0, [.int 0, .ref t, .int 0])), (xw, .inl (k1, 4, .inl (zW))), (mw, .inl (k2, 4, .inl (zW))), (o, .inl (k3, 1, .inr (.inl (fun _ => 0))))]) (w1 := [(m0, .inr (7, [.ref ma, .ref mw, .int 0, .int 1])), (ma, .inr (0, [.int 0, .ref t, .int 0]))]) hP hD [3, 4] [0, 1, 2, 5, 6] rfl rfl (by decide) (by decide) hk1 hFc hP1 hD1
      have hK := (hK.sub (tys' := [(k1, .int), (k2, .int), (k3, .long)]) [0, 1, 2] rfl).app hK1
      generalize H1 = H at hP hS ⊢
      have hP : va_P (dC, dI) zc [(x0, .inr (5, [.ref xa, .ref xw, .ref xb, .int 0])), (xa, .inr (0, [.int 0, .ref t, .int 0])), (xw, .inl (k1, 4, .inl (zW))), (mw, .inl (k2, 4, .inl (zW))), (o, .inl (k3, 1, .inr (.inl (fun _ => 0)))), (m0, .inr (7, [.ref ma, .ref mw, .int 0, .int 1])), (ma, .inr (0, [.int 0, .ref t, .int 0]))] H := hP
      have hD : va_D (fun q : Nat => s.heap.size ≤ q) [(x0, .inr (5, [.ref xa, .ref xw, .ref xb, .int 0])), (xa, .inr (0, [.int 0, .ref t, .int 0])), (xw, .inl (k1, 4, .inl (zW))), (mw, .inl (k2, 4, .inl (zW))), (o, .inl (k3, 1, .inr (.inl (fun _ => 0)))), (m0, .inr (7, [.ref ma, .ref mw, .int 0, .int 1])), (ma, .inr (0, [.int 0, .ref t, .int 0]))] := hD
      have hK : va_K (dC, dI) zc [(k1, .int), (k2, .int), (k3, .long)] s := hK
      refine lv_istore (lv' := [(7, .int r_25), (6, .int 1), (5, .int 0), (4, .ref od), (3, .ref o), (2, .ref m0), (1, .ref x0), (0, .ref b)]) hx hb dL_law_407 hl (by decide) rfl (fun ls hl => ?_)
      refine lv_aload_n hx hb dL_law_409 rfl (lv_at hl 5 rfl) ?_
      refine vp_callSi (W.runV (As := []) (rest := []) ⟨hx, hb, hml, hown, hts⟩ (c_thrown l dC dI H.size t m0 (.ref ma) (.ref mw) 0 1) (cwV 0 hts (zg_V kw_1365 kw_1366 kw_1367 kw_70 kw_1368) rfl rfl rfl (by decide +kernel) ⟨Nat.le_of_ble_eq_true rfl, Nat.le_of_ble_eq_true rfl⟩) ⟨zA_blind, va_recv hK hP (ci := 7) (q0 := 5) rfl rfl, zA_pre hP hD hS hK hQ hA [5] rfl rfl (by decide) [] rfl⟩ rfl rfl hl.1 rfl (lv_room (Nat.le_of_ble_eq_true rfl)) dL_law_410 ⟨zl_b rfl, zl_b rfl⟩) (fun r hr => ?_)
      subst hr
      refine lv_iload hx hb dL_law_413 (lv_at hl 1 rfl) ?_
      refine lv_icmp_eq (tgt := 420) hx hb dL_law_415 (by decide) (fun c_26 => ?_) (fun c_26 => absurd c_26 (by decide))
      refine lv_iload hx hb dL_law_420 (lv_at hl 1 rfl) ?_
      refine lv_if_ne (tgt := 444) hx hb dL_law_422 (by decide) (fun c_27 => ?_) (fun c_27 => absurd c_27 (by decide))
      refine lv_goto (tgt := 2981) hx hb dL_law_444 (by decide) ?_
      exact law_tail l C0 _ _ (zl_b rfl) (zl_b rfl) _ _ hS ls (lv_sub hl [7, 2] rfl)
set_option maxHeartbeats 4000000 in
set_option maxRecDepth 100000 in
/-- the law on setRate -/
theorem law_c3 {p : Program} {e : Env} {s : State} {m : MethodId} {below : List Frame} {meth : Method} {c : Code} {b : Nat} {xs : Nat → Int32} (l : Launch) (hst : l.stackTraces = false) (C0 : lw_At p s m meth c b 5 xs) {dC : Nat → ClassId} {dI : Nat → Nat → Nat} {t x0 xa xw xb m0 ma mw o od : Nat} {k1 k2 k3 : ClassId} (H : Heap) (locs : List Loc) (hK : va_K (dC, dI) zc [(k1, .int), (k2, .int), (k3, .long)] s) (hQ : zQ t (fun q : Nat => s.heap.size ≤ q) s s.heap) (hP : va_P (dC, dI) zc [(x0, .inr (5, [.ref xa, .ref xw, .ref xb, .int 0])), (xa, .inr (0, [.int 0, .ref t, .int 0])), (xw, .inl (k1, 4, .inl (zW))), (m0, .inr (7, [.ref ma, .ref mw, .int 0, .int 0])), (ma, .inr (0, [.int 0, .ref t, .int 0])), (mw, .inl (k2, 4, .inl (zW))), (o, .inl (k3, 1, .inr (.inl (fun _ => 0))))] H) (hD : va_D (fun q : Nat => s.heap.size ≤ q) [(x0, .inr (5, [.ref xa, .ref xw, .ref xb, .int 0])), (xa, .inr (0, [.int 0, .ref t, .int 0])), (xw, .inl (k1, 4, .inl (zW))), (m0, .inr (7, [.ref ma, .ref mw, .int 0, .int 0])), (ma, .inr (0, [.int 0, .ref t, .int 0])), (mw, .inl (k2, 4, .inl (zW))), (o, .inl (k3, 1, .inr (.inl (fun _ => 0))))]) (hS : va_S (fun q : Nat => s.heap.size ≤ q) s.heap H locs) (ls : Array Slot) (hl : lv_has ls 9 [(5, .int 0), (4, .ref od), (3, .ref o), (2, .ref m0), (1, .ref x0), (0, .ref b)]) : W p l e room_1 s m #[Value.ref b] below meth c H locs 26 125 (lw_Z below #[Value.ref b] s) (F0 m 447 ls []) := by
  obtain ⟨hx, hb, hr, hml, hown, hts0, hX, hbl, hlocks, hgv⟩ := id C0
  have hts : ∀ w ∈ zG, w.before #[Value.ref b] s = true := fun w h => hts0 w (zg_tbl h)
  have hA : ∀ q : Nat, s.heap.size ≤ q → (fun q : Nat => s.heap.size ≤ q) q := fun _ h => h
  have hbA : ¬ (fun q : Nat => s.heap.size ≤ q) b := Nat.not_le.mpr hbl
  refine lv_aload_n hx hb dL_law_447 rfl (lv_at hl 4 rfl) ?_
  refine lv_aload_n hx hb dL_law_448 rfl (lv_at hl 5 rfl) ?_
  refine lv_iload hx hb dL_law_449 (lv_at hl 0 rfl) ?_
  refine lv_iconst (v := 1) hx hb dL_law_451 (by decide) ?_
  refine lv_iadd hx hb dL_law_452 ?_
  refine va_sld hx hb hX hbl hbA hS (by unfold vp_in; decide) dL_law_453 ?_
  refine lv_topi (fun v_1 e_v_1 => ?_)
  refine lv_aload_n hx hb dL_law_454 rfl (lv_at hl 5 rfl) ?_
  refine lv_iload hx hb dL_law_455 (lv_at hl 0 rfl) ?_
  refine lv_iconst (v := 2) hx hb dL_law_457 (by decide) ?_
  refine lv_iadd hx hb dL_law_458 ?_
  refine va_sld hx hb hX hbl hbA hS (by unfold vp_in; decide) dL_law_459 ?_
  refine lv_topi (fun v_2 e_v_2 => ?_)
  refine lv_i2c hx hb dL_law_460 rfl ?_
  refine lv_topi (fun ch_3 e_ch_3 => ?_)
  refine lv_aload_n hx hb dL_law_461 rfl (lv_at hl 5 rfl) ?_
  refine lv_iload hx hb dL_law_462 (lv_at hl 0 rfl) ?_
  refine lv_iconst (v := 3) hx hb dL_law_464 (by decide) ?_
  refine lv_iadd hx hb dL_law_465 ?_
  refine va_sld hx hb hX hbl hbA hS (by unfold vp_in; decide) dL_law_466 ?_
  refine lv_topi (fun v_4 e_v_4 => ?_)
  refine lv_aload_n hx hb dL_law_467 rfl (lv_at hl 2 rfl) ?_
  refine vx_calli (vx_runSX (As := [.ref x0, .int v_1, .int ch_3, .int v_4, .ref o]) (rest := []) ⟨hx, hb, hml, hown, hts⟩ (lx_setRate l hst dC dI H.size t x0 xa o (.ref xw) (.ref xb) 0 (.ref t) v_1 ch_3 v_4) (vx_cwSW 5 hts (zg_S kw_694 kw_695 kw_63 kw_696) rfl rfl rfl (by decide +kernel) ⟨Nat.le_of_ble_eq_true rfl, Nat.le_of_ble_eq_true rfl⟩) ⟨zA_blind, zA_pre hP hD hS hK hQ hA [0, 1] rfl rfl (by decide) [] rfl⟩ rfl rfl hl.1 rfl (lv_room (Nat.le_of_ble_eq_true rfl)) dL_law_468 ⟨zl_b rfl, zl_b rfl⟩) hS (fun q _ h => hA q (Nat.le_trans (hS.1) h)) (fun q h => hA q (Nat.le_trans (hS.1) h)) (fun q _ h => h.elim) (fun E ce q9 u t9 H1 locs1 ht hvm hp9 hE hz1 hk1 hS1 hc1 hv1 hcl1 => hp9.elim) (fun r_5 u t9 H1 locs ht hvm hw hB hz1 hk1 hS => ?_)
  have hw : r_5 = 1 := hw
  subst hw
  have hP := zP_new hP hk1
  generalize H1 = H at hP hS ⊢
  have hP : va_P (dC, dI) zc [(x0, .inr (5, [.ref xa, .ref xw, .ref xb, .int 0])), (xa, .inr (0, [.int 0, .ref t, .int 0])), (xw, .inl (k1, 4, .inl (zW))), (m0, .inr (7, [.ref ma, .ref mw, .int 0, .int 0])), (ma, .inr (0, [.int 0, .ref t, .int 0])), (mw, .inl (k2, 4, .inl (zW))), (o, .inl (k3, 1, .inr (.inl (fun _ => 0))))] H := hP
  have hD : va_D (fun q : Nat => s.heap.size ≤ q) [(x0, .inr (5, [.ref xa, .ref xw, .ref xb, .int 0])), (xa, .inr (0, [.int 0, .ref t, .int 0])), (xw, .inl (k1, 4, .inl (zW))), (m0, .inr (7, [.ref ma, .ref mw, .int 0, .int 0])), (ma, .inr (0, [.int 0, .ref t, .int 0])), (mw, .inl (k2, 4, .inl (zW))), (o, .inl (k3, 1, .inr (.inl (fun _ => 0))))] := hD
  refine W.widen (k := 27) (n := 131) (zl_b rfl) (zl_b rfl) ?_
  refine lv_istore (lv' := [(6, .int 1), (5, .int 0), (4, .ref od), (3, .ref o), (2, .ref m0), (1, .ref x0), (0, .ref b)]) hx hb dL_law_471 hl (by decide) rfl (fun ls hl => ?_)
  refine lv_aload_n hx hb dL_law_473 rfl (lv_at hl 4 rfl) ?_
  refine lv_aload_n hx hb dL_law_474 rfl (lv_at hl 6 rfl) ?_
  refine lv_iload hx hb dL_law_475 (lv_at hl 1 rfl) ?_
  refine lv_iconst (v := 1) hx hb dL_law_477 (by decide) ?_
  refine lv_iadd hx hb dL_law_478 ?_
  refine va_sld hx hb hX hbl hbA hS (by unfold vp_in; decide) dL_law_479 ?_
  refine lv_topi (fun v_6 e_v_6 => ?_)
  have s_7 : v_1 = v_6 := by rw [e_v_1, e_v_6]
  subst s_7
  refine lv_aload_n hx hb dL_law_480 rfl (lv_at hl 6 rfl) ?_
  refine lv_iload hx hb dL_law_481 (lv_at hl 1 rfl) ?_
  refine lv_iconst (v := 2) hx hb dL_law_483 (by decide) ?_
  refine lv_iadd hx hb dL_law_484 ?_
  refine va_sld hx hb hX hbl hbA hS (by unfold vp_in; decide) dL_law_485 ?_
  refine lv_topi (fun v_8 e_v_8 => ?_)
  have s_9 : v_2 = v_8 := by rw [e_v_2, e_v_8]
  subst s_9
  refine lv_i2c hx hb dL_law_486 rfl ?_
  refine lv_topi (fun ch_10 e_ch_10 => ?_)
  refine lv_aload_n hx hb dL_law_487 rfl (lv_at hl 6 rfl) ?_
  refine lv_iload hx hb dL_law_488 (lv_at hl 1 rfl) ?_
  refine lv_iconst (v := 3) hx hb dL_law_490 (by decide) ?_
  refine lv_iadd hx hb dL_law_491 ?_
  refine va_sld hx hb hX hbl hbA hS (by unfold vp_in; decide) dL_law_492 ?_
  refine lv_topi (fun v_11 e_v_11 => ?_)
  have s_12 : v_4 = v_11 := by rw [e_v_4, e_v_11]
  subst s_12
  have hFc := va_free (wc := [(m0, .inr (7, [.ref ma, .ref mw, .int 0, .int 0])), (ma, .inr (0, [.int 0, .ref t, .int 0]))]) hD hS hA [3, 4] rfl
  refine va_calli (va_runV (As := [.int v_1, .int ch_10, .int v_4]) (rest := []) ⟨hx, hb, hml, hown, hts⟩ (m_setRate l dC dI H.size t m0 ma (.ref mw) 0 0 (.ref t) v_1 ch_10 v_4) (cwV 3 hts (zg_V kw_1440 kw_1441 kw_1442 kw_70 kw_1443) rfl rfl rfl (by decide +kernel) ⟨Nat.le_of_ble_eq_true rfl, Nat.le_of_ble_eq_true rfl⟩) ⟨zA_blind, va_recv hK hP (ci := 7) (q0 := 3) rfl rfl, zA_pre hP hD hS hK hQ hA [3, 4] rfl rfl (by decide) [] rfl⟩ rfl rfl hl.1 rfl (lv_room (Nat.le_of_ble_eq_true rfl)) dL_law_493 ⟨zl_b rfl, zl_b rfl⟩) hS (fun q _ h => hFc q h) hFc (fun r_13 u t9 H1 locs ht hvm hw hB hz1 hk1 hS => ?_)
  obtain ⟨hP1, hK1, hD1⟩ := hB
  rw [ht] at hP1
  have hK1 := va_K.moved hvm.symm hK1
  obtain ⟨hP, hD⟩ := va_join (wr := [(x0, .inr (5, [.ref xa, .ref xw, .ref xb, .int 0])), (xa, .inr (0, [.int 0, .ref t, .int 0])), (xw, .inl (k1, 4, .inl (zW))), (mw, .inl (k2, 4, .inl (zW))), (o, .inl (k3, 1, .inr (.inl (fun _ => 0))))]) (w1 := [(m0, .inr (7, [.ref ma, .ref mw, .int 0, .int 1])), (ma, .inr (0, [.int 0, .ref t, .int 0]))]) hP hD [3, 4] [0, 1, 2, 5, 6] rfl rfl (by decide) (by decide) hk1 hFc hP1 hD1
  have hK := (hK.sub (tys' := [(k1, .int), (k2, .int), (k3, .long)]) [0, 1, 2] rfl).app hK1
  generalize H1 = H at hP hS ⊢
  have hP : va_P (dC, dI) zc [(x0, .inr (5, [.ref xa, .ref xw, .ref xb, .int 0])), (xa, .inr (0, [.int 0, .ref t, .int 0])), (xw, .inl (k1, 4, .inl (zW))), (mw, .inl (k2, 4, .inl (zW))), (o, .inl (k3, 1, .inr (.inl (fun _ => 0)))), (m0, .inr (7, [.ref ma, .ref mw, .int 0, .int 1])), (ma, .inr (0, [.int 0, .ref t, .int 0]))] H := hP
  have hD : va_D (fun q : Nat => s.heap.size ≤ q) [(x0, .inr (5, [.ref xa, .ref xw, .ref xb, .int 0])), (xa, .inr (0, [.int 0, .ref t, .int 0])), (xw, .inl (k1, 4, .inl (zW))), (mw, .inl (k2, 4, .inl (zW))), (o, .inl (k3, 1, .inr (.inl (fun _ => 0)))), (m0, .inr (7, [.ref ma, .ref mw, .int 0, .int 1])), (ma, .inr (0, [.int 0, .ref t, .int 0]))] := hD
  have hK : va_K (dC, dI) zc [(k1, .int), (k2, .int), (k3, .long)] s := hK
  refine lv_istore (lv' := [(7, .int r_13), (6, .int 1), (5, .int 0), (4, .ref od), (3, .ref o), (2, .ref m0), (1, .ref x0), (0, .ref b)]) hx hb dL_law_496 hl (by decide) rfl (fun ls hl => ?_)
  refine lv_aload_n hx hb dL_law_498 rfl (lv_at hl 5 rfl) ?_
  refine vp_callSi (W.runV (As := []) (rest := []) ⟨hx, hb, hml, hown, hts⟩ (c_thrown l dC dI H.size t m0 (.ref ma) (.ref mw) 0 1) (cwV 0 hts (zg_V kw_1365 kw_1366 kw_1367 kw_70 kw_1368) rfl rfl rfl (by decide +kernel) ⟨Nat.le_of_ble_eq_true rfl, Nat.le_of_ble_eq_true rfl⟩) ⟨zA_blind, va_recv hK hP (ci := 7) (q0 := 5) rfl rfl, zA_pre hP hD hS hK hQ hA [5] rfl rfl (by decide) [] rfl⟩ rfl rfl hl.1 rfl (lv_room (Nat.le_of_ble_eq_true rfl)) dL_law_499 ⟨zl_b rfl, zl_b rfl⟩) (fun r hr => ?_)
  subst hr
  refine lv_iload hx hb dL_law_502 (lv_at hl 1 rfl) ?_
  refine lv_icmp_eq (tgt := 509) hx hb dL_law_504 (by decide) (fun c_14 => ?_) (fun c_14 => absurd c_14 (by decide))
  refine lv_iload hx hb dL_law_509 (lv_at hl 1 rfl) ?_
  refine lv_if_ne (tgt := 526) hx hb dL_law_511 (by decide) (fun c_15 => ?_) (fun c_15 => absurd c_15 (by decide))
  refine lv_goto (tgt := 2981) hx hb dL_law_526 (by decide) ?_
  exact law_tail l C0 _ _ (zl_b rfl) (zl_b rfl) _ _ hS ls (lv_sub hl [7, 2] rfl)
set_option maxHeartbeats 4000000 in
set_option maxRecDepth 100000 in
/-- the law on promote -/
theorem law_c4 {p : Program} {e : Env} {s : State} {m : MethodId} {below : List Frame} {meth : Method} {c : Code} {b : Nat} {xs : Nat → Int32} (l : Launch) (hst : l.stackTraces = false) (C0 : lw_At p s m meth c b 5 xs) {dC : Nat → ClassId} {dI : Nat → Nat → Nat} {t x0 xa xw xb m0 ma mw o od : Nat} {k1 k2 k3 : ClassId} (H : Heap) (locs : List Loc) (hK : va_K (dC, dI) zc [(k1, .int), (k2, .int), (k3, .long)] s) (hQ : zQ t (fun q : Nat => s.heap.size ≤ q) s s.heap) (hP : va_P (dC, dI) zc [(x0, .inr (5, [.ref xa, .ref xw, .ref xb, .int 0])), (xa, .inr (0, [.int 0, .ref t, .int 0])), (xw, .inl (k1, 4, .inl (zW))), (m0, .inr (7, [.ref ma, .ref mw, .int 0, .int 0])), (ma, .inr (0, [.int 0, .ref t, .int 0])), (mw, .inl (k2, 4, .inl (zW))), (o, .inl (k3, 1, .inr (.inl (fun _ => 0))))] H) (hD : va_D (fun q : Nat => s.heap.size ≤ q) [(x0, .inr (5, [.ref xa, .ref xw, .ref xb, .int 0])), (xa, .inr (0, [.int 0, .ref t, .int 0])), (xw, .inl (k1, 4, .inl (zW))), (m0, .inr (7, [.ref ma, .ref mw, .int 0, .int 0])), (ma, .inr (0, [.int 0, .ref t, .int 0])), (mw, .inl (k2, 4, .inl (zW))), (o, .inl (k3, 1, .inr (.inl (fun _ => 0))))]) (hS : va_S (fun q : Nat => s.heap.size ≤ q) s.heap H locs) (ls : Array Slot) (hl : lv_has ls 9 [(5, .int 0), (4, .ref od), (3, .ref o), (2, .ref m0), (1, .ref x0), (0, .ref b)]) : W p l e room_1 s m #[Value.ref b] below meth c H locs 26 125 (lw_Z below #[Value.ref b] s) (F0 m 529 ls []) := by
  obtain ⟨hx, hb, hr, hml, hown, hts0, hX, hbl, hlocks, hgv⟩ := id C0
  have hts : ∀ w ∈ zG, w.before #[Value.ref b] s = true := fun w h => hts0 w (zg_tbl h)
  have hA : ∀ q : Nat, s.heap.size ≤ q → (fun q : Nat => s.heap.size ≤ q) q := fun _ h => h
  have hbA : ¬ (fun q : Nat => s.heap.size ≤ q) b := Nat.not_le.mpr hbl
  refine lv_aload_n hx hb dL_law_529 rfl (lv_at hl 4 rfl) ?_
  refine lv_aload_n hx hb dL_law_530 rfl (lv_at hl 5 rfl) ?_
  refine lv_iload hx hb dL_law_531 (lv_at hl 0 rfl) ?_
  refine lv_iconst (v := 1) hx hb dL_law_533 (by decide) ?_
  refine lv_iadd hx hb dL_law_534 ?_
  refine va_sld hx hb hX hbl hbA hS (by unfold vp_in; decide) dL_law_535 ?_
  refine lv_topi (fun v_1 e_v_1 => ?_)
  refine lv_aload_n hx hb dL_law_536 rfl (lv_at hl 5 rfl) ?_
  refine lv_iload hx hb dL_law_537 (lv_at hl 0 rfl) ?_
  refine lv_iconst (v := 2) hx hb dL_law_539 (by decide) ?_
  refine lv_iadd hx hb dL_law_540 ?_
  refine va_sld hx hb hX hbl hbA hS (by unfold vp_in; decide) dL_law_541 ?_
  refine lv_topi (fun v_2 e_v_2 => ?_)
  refine lv_aload_n hx hb dL_law_542 rfl (lv_at hl 5 rfl) ?_
  refine lv_iload hx hb dL_law_543 (lv_at hl 0 rfl) ?_
  refine lv_iconst (v := 3) hx hb dL_law_545 (by decide) ?_
  refine lv_iadd hx hb dL_law_546 ?_
  refine va_sld hx hb hX hbl hbA hS (by unfold vp_in; decide) dL_law_547 ?_
  refine lv_topi (fun v_3 e_v_3 => ?_)
  refine lv_aload_n hx hb dL_law_548 rfl (lv_at hl 2 rfl) ?_
  refine vx_calli (vx_runSX (As := [.ref x0, .int v_1, .int v_2, .int v_3, .ref o]) (rest := []) ⟨hx, hb, hml, hown, hts⟩ (lx_promote l hst dC dI H.size t x0 xa o (.ref xw) (.ref xb) 0 (.ref t) v_1 v_2 v_3) (vx_cwSW 5 hts (zg_S kw_1006 kw_1007 kw_63 kw_1008) rfl rfl rfl (by decide +kernel) ⟨Nat.le_of_ble_eq_true rfl, Nat.le_of_ble_eq_true rfl⟩) ⟨zA_blind, zA_pre hP hD hS hK hQ hA [0, 1] rfl rfl (by decide) [] rfl⟩ rfl rfl hl.1 rfl (lv_room (Nat.le_of_ble_eq_true rfl)) dL_law_549 ⟨zl_b rfl, zl_b rfl⟩) hS (fun q _ h => hA q (Nat.le_trans (hS.1) h)) (fun q h => hA q (Nat.le_trans (hS.1) h)) (fun q _ h => h.elim) (fun E ce q9 u t9 H1 locs1 ht hvm hp9 hE hz1 hk1 hS1 hc1 hv1 hcl1 => hp9.elim) (fun r_4 u t9 H1 locs ht hvm hw hB hz1 hk1 hS => ?_)
  have hw : r_4 = 1 := hw
  subst hw
  have hP := zP_new hP hk1
  generalize H1 = H at hP hS ⊢
  have hP : va_P (dC, dI) zc [(x0, .inr (5, [.ref xa, .ref xw, .ref xb, .int 0])), (xa, .inr (0, [.int 0, .ref t, .int 0])), (xw, .inl (k1, 4, .inl (zW))), (m0, .inr (7, [.ref ma, .ref mw, .int 0, .int 0])), (ma, .inr (0, [.int 0, .ref t, .int 0])), (mw, .inl (k2, 4, .inl (zW))), (o, .inl (k3, 1, .inr (.inl (fun _ => 0))))] H := hP
  have hD : va_D (fun q : Nat => s.heap.size ≤ q) [(x0, .inr (5, [.ref xa, .ref xw, .ref xb, .int 0])), (xa, .inr (0, [.int 0, .ref t, .int 0])), (xw, .inl (k1, 4, .inl (zW))), (m0, .inr (7, [.ref ma, .ref mw, .int 0, .int 0])), (ma, .inr (0, [.int 0, .ref t, .int 0])), (mw, .inl (k2, 4, .inl (zW))), (o, .inl (k3, 1, .inr (.inl (fun _ => 0))))] := hD
  refine W.widen (k := 27) (n := 131) (zl_b rfl) (zl_b rfl) ?_
  refine lv_istore (lv' := [(6, .int 1), (5, .int 0), (4, .ref od), (3, .ref o), (2, .ref m0), (1, .ref x0), (0, .ref b)]) hx hb dL_law_552 hl (by decide) rfl (fun ls hl => ?_)
  refine lv_aload_n hx hb dL_law_554 rfl (lv_at hl 4 rfl) ?_
  refine lv_aload_n hx hb dL_law_555 rfl (lv_at hl 6 rfl) ?_
  refine lv_iload hx hb dL_law_556 (lv_at hl 1 rfl) ?_
  refine lv_iconst (v := 1) hx hb dL_law_558 (by decide) ?_
  refine lv_iadd hx hb dL_law_559 ?_
  refine va_sld hx hb hX hbl hbA hS (by unfold vp_in; decide) dL_law_560 ?_
  refine lv_topi (fun v_5 e_v_5 => ?_)
  have s_6 : v_1 = v_5 := by rw [e_v_1, e_v_5]
  subst s_6
  refine lv_aload_n hx hb dL_law_561 rfl (lv_at hl 6 rfl) ?_
  refine lv_iload hx hb dL_law_562 (lv_at hl 1 rfl) ?_
  refine lv_iconst (v := 2) hx hb dL_law_564 (by decide) ?_
  refine lv_iadd hx hb dL_law_565 ?_
  refine va_sld hx hb hX hbl hbA hS (by unfold vp_in; decide) dL_law_566 ?_
  refine lv_topi (fun v_7 e_v_7 => ?_)
  have s_8 : v_2 = v_7 := by rw [e_v_2, e_v_7]
  subst s_8
  refine lv_aload_n hx hb dL_law_567 rfl (lv_at hl 6 rfl) ?_
  refine lv_iload hx hb dL_law_568 (lv_at hl 1 rfl) ?_
  refine lv_iconst (v := 3) hx hb dL_law_570 (by decide) ?_
  refine lv_iadd hx hb dL_law_571 ?_
  refine va_sld hx hb hX hbl hbA hS (by unfold vp_in; decide) dL_law_572 ?_
  refine lv_topi (fun v_9 e_v_9 => ?_)
  have s_10 : v_3 = v_9 := by rw [e_v_3, e_v_9]
  subst s_10
  have hFc := va_free (wc := [(m0, .inr (7, [.ref ma, .ref mw, .int 0, .int 0])), (ma, .inr (0, [.int 0, .ref t, .int 0]))]) hD hS hA [3, 4] rfl
  refine va_calli (va_runV (As := [.int v_1, .int v_2, .int v_3]) (rest := []) ⟨hx, hb, hml, hown, hts⟩ (m_promote l dC dI H.size t m0 ma (.ref mw) 0 0 (.ref t) v_1 v_2 v_3) (cwV 3 hts (zg_V kw_1552 kw_1553 kw_1554 kw_70 kw_1555) rfl rfl rfl (by decide +kernel) ⟨Nat.le_of_ble_eq_true rfl, Nat.le_of_ble_eq_true rfl⟩) ⟨zA_blind, va_recv hK hP (ci := 7) (q0 := 3) rfl rfl, zA_pre hP hD hS hK hQ hA [3, 4] rfl rfl (by decide) [] rfl⟩ rfl rfl hl.1 rfl (lv_room (Nat.le_of_ble_eq_true rfl)) dL_law_573 ⟨zl_b rfl, zl_b rfl⟩) hS (fun q _ h => hFc q h) hFc (fun r_11 u t9 H1 locs ht hvm hw hB hz1 hk1 hS => ?_)
  obtain ⟨hP1, hK1, hD1⟩ := hB
  rw [ht] at hP1
  have hK1 := va_K.moved hvm.symm hK1
  obtain ⟨hP, hD⟩ := va_join (wr := [(x0, .inr (5, [.ref xa, .ref xw, .ref xb, .int 0])), (xa, .inr (0, [.int 0, .ref t, .int 0])), (xw, .inl (k1, 4, .inl (zW))), (mw, .inl (k2, 4, .inl (zW))), (o, .inl (k3, 1, .inr (.inl (fun _ => 0))))]) (w1 := [(m0, .inr (7, [.ref ma, .ref mw, .int 0, .int 1])), (ma, .inr (0, [.int 0, .ref t, .int 0]))]) hP hD [3, 4] [0, 1, 2, 5, 6] rfl rfl (by decide) (by decide) hk1 hFc hP1 hD1
  have hK := (hK.sub (tys' := [(k1, .int), (k2, .int), (k3, .long)]) [0, 1, 2] rfl).app hK1
  generalize H1 = H at hP hS ⊢
  have hP : va_P (dC, dI) zc [(x0, .inr (5, [.ref xa, .ref xw, .ref xb, .int 0])), (xa, .inr (0, [.int 0, .ref t, .int 0])), (xw, .inl (k1, 4, .inl (zW))), (mw, .inl (k2, 4, .inl (zW))), (o, .inl (k3, 1, .inr (.inl (fun _ => 0)))), (m0, .inr (7, [.ref ma, .ref mw, .int 0, .int 1])), (ma, .inr (0, [.int 0, .ref t, .int 0]))] H := hP
  have hD : va_D (fun q : Nat => s.heap.size ≤ q) [(x0, .inr (5, [.ref xa, .ref xw, .ref xb, .int 0])), (xa, .inr (0, [.int 0, .ref t, .int 0])), (xw, .inl (k1, 4, .inl (zW))), (mw, .inl (k2, 4, .inl (zW))), (o, .inl (k3, 1, .inr (.inl (fun _ => 0)))), (m0, .inr (7, [.ref ma, .ref mw, .int 0, .int 1])), (ma, .inr (0, [.int 0, .ref t, .int 0]))] := hD
  have hK : va_K (dC, dI) zc [(k1, .int), (k2, .int), (k3, .long)] s := hK
  refine lv_istore (lv' := [(7, .int r_11), (6, .int 1), (5, .int 0), (4, .ref od), (3, .ref o), (2, .ref m0), (1, .ref x0), (0, .ref b)]) hx hb dL_law_576 hl (by decide) rfl (fun ls hl => ?_)
  refine lv_aload_n hx hb dL_law_578 rfl (lv_at hl 5 rfl) ?_
  refine vp_callSi (W.runV (As := []) (rest := []) ⟨hx, hb, hml, hown, hts⟩ (c_thrown l dC dI H.size t m0 (.ref ma) (.ref mw) 0 1) (cwV 0 hts (zg_V kw_1365 kw_1366 kw_1367 kw_70 kw_1368) rfl rfl rfl (by decide +kernel) ⟨Nat.le_of_ble_eq_true rfl, Nat.le_of_ble_eq_true rfl⟩) ⟨zA_blind, va_recv hK hP (ci := 7) (q0 := 5) rfl rfl, zA_pre hP hD hS hK hQ hA [5] rfl rfl (by decide) [] rfl⟩ rfl rfl hl.1 rfl (lv_room (Nat.le_of_ble_eq_true rfl)) dL_law_579 ⟨zl_b rfl, zl_b rfl⟩) (fun r hr => ?_)
  subst hr
  refine lv_iload hx hb dL_law_582 (lv_at hl 1 rfl) ?_
  refine lv_icmp_eq (tgt := 589) hx hb dL_law_584 (by decide) (fun c_12 => ?_) (fun c_12 => absurd c_12 (by decide))
  refine lv_iload hx hb dL_law_589 (lv_at hl 1 rfl) ?_
  refine lv_if_ne (tgt := 606) hx hb dL_law_591 (by decide) (fun c_13 => ?_) (fun c_13 => absurd c_13 (by decide))
  refine lv_goto (tgt := 2981) hx hb dL_law_606 (by decide) ?_
  exact law_tail l C0 _ _ (zl_b rfl) (zl_b rfl) _ _ hS ls (lv_sub hl [7, 2] rfl)
set_option maxHeartbeats 4000000 in
set_option maxRecDepth 100000 in
/-- the law on setCurrency -/
theorem law_c5 {p : Program} {e : Env} {s : State} {m : MethodId} {below : List Frame} {meth : Method} {c : Code} {b : Nat} {xs : Nat → Int32} (l : Launch) (hst : l.stackTraces = false) (C0 : lw_At p s m meth c b 5 xs) {dC : Nat → ClassId} {dI : Nat → Nat → Nat} {t x0 xa xw xb m0 ma mw o od : Nat} {k1 k2 k3 : ClassId} (H : Heap) (locs : List Loc) (hK : va_K (dC, dI) zc [(k1, .int), (k2, .int), (k3, .long)] s) (hQ : zQ t (fun q : Nat => s.heap.size ≤ q) s s.heap) (hP : va_P (dC, dI) zc [(x0, .inr (5, [.ref xa, .ref xw, .ref xb, .int 0])), (xa, .inr (0, [.int 0, .ref t, .int 0])), (xw, .inl (k1, 4, .inl (zW))), (m0, .inr (7, [.ref ma, .ref mw, .int 0, .int 0])), (ma, .inr (0, [.int 0, .ref t, .int 0])), (mw, .inl (k2, 4, .inl (zW))), (o, .inl (k3, 1, .inr (.inl (fun _ => 0))))] H) (hD : va_D (fun q : Nat => s.heap.size ≤ q) [(x0, .inr (5, [.ref xa, .ref xw, .ref xb, .int 0])), (xa, .inr (0, [.int 0, .ref t, .int 0])), (xw, .inl (k1, 4, .inl (zW))), (m0, .inr (7, [.ref ma, .ref mw, .int 0, .int 0])), (ma, .inr (0, [.int 0, .ref t, .int 0])), (mw, .inl (k2, 4, .inl (zW))), (o, .inl (k3, 1, .inr (.inl (fun _ => 0))))]) (hS : va_S (fun q : Nat => s.heap.size ≤ q) s.heap H locs) (ls : Array Slot) (hl : lv_has ls 9 [(5, .int 0), (4, .ref od), (3, .ref o), (2, .ref m0), (1, .ref x0), (0, .ref b)]) : W p l e room_1 s m #[Value.ref b] below meth c H locs 26 125 (lw_Z below #[Value.ref b] s) (F0 m 609 ls []) := by
  obtain ⟨hx, hb, hr, hml, hown, hts0, hX, hbl, hlocks, hgv⟩ := id C0
  have hts : ∀ w ∈ zG, w.before #[Value.ref b] s = true := fun w h => hts0 w (zg_tbl h)
  have hA : ∀ q : Nat, s.heap.size ≤ q → (fun q : Nat => s.heap.size ≤ q) q := fun _ h => h
  have hbA : ¬ (fun q : Nat => s.heap.size ≤ q) b := Nat.not_le.mpr hbl
  refine lv_aload_n hx hb dL_law_609 rfl (lv_at hl 4 rfl) ?_
  refine lv_aload_n hx hb dL_law_610 rfl (lv_at hl 5 rfl) ?_
  refine lv_iload hx hb dL_law_611 (lv_at hl 0 rfl) ?_
  refine lv_iconst (v := 1) hx hb dL_law_613 (by decide) ?_
  refine lv_iadd hx hb dL_law_614 ?_
  refine va_sld hx hb hX hbl hbA hS (by unfold vp_in; decide) dL_law_615 ?_
  refine lv_topi (fun v_1 e_v_1 => ?_)
  refine lv_aload_n hx hb dL_law_616 rfl (lv_at hl 5 rfl) ?_
  refine lv_iload hx hb dL_law_617 (lv_at hl 0 rfl) ?_
  refine lv_iconst (v := 2) hx hb dL_law_619 (by decide) ?_
  refine lv_iadd hx hb dL_law_620 ?_
  refine va_sld hx hb hX hbl hbA hS (by unfold vp_in; decide) dL_law_621 ?_
  refine lv_topi (fun v_2 e_v_2 => ?_)
  refine lv_aload_n hx hb dL_law_622 rfl (lv_at hl 2 rfl) ?_
  rcases zi_rng v_1 0 3 with hv9 | ⟨hv1, hv2⟩
  · refine vx_calli (vx_runSX (As := [.ref x0, .int v_1, .int v_2, .ref o]) (rest := []) ⟨hx, hb, hml, hown, hts⟩ (lo_curBad1 l hst dC dI H.size t x0 xw k1 (.ref xa) (.ref xb) v_1 v_2 o hv9) (vx_cwSW 4 hts (zg_S kw_1013 kw_1014 kw_63 kw_1015) rfl rfl rfl (by decide +kernel) ⟨Nat.le_of_ble_eq_true rfl, Nat.le_of_ble_eq_true rfl⟩) ⟨zA_blind, zA_pre hP hD hS hK hQ hA [0, 2] rfl rfl (by decide) [0] rfl⟩ rfl rfl hl.1 rfl (lv_room (Nat.le_of_ble_eq_true rfl)) dL_law_623 ⟨zl_b rfl, zl_b rfl⟩) hS (fun q _ h => hA q (Nat.le_trans (hS.1) h)) (fun q h => hA q (Nat.le_trans (hS.1) h)) (fun q _ h => h.elim) (fun E ce q9 u t9 H1 locs1 ht hvm hp9 hE hz1 hk1 hS1 hc1 hv1 hcl1 => hp9.elim) (fun r_3 u t9 H1 locs ht hvm hw hB hz1 hk1 hS => ?_)
    have hw : r_3 = 1 := hw
    subst hw
    have hP := zP_new hP hk1
    generalize H1 = H at hP hS ⊢
    have hP : va_P (dC, dI) zc [(x0, .inr (5, [.ref xa, .ref xw, .ref xb, .int 0])), (xa, .inr (0, [.int 0, .ref t, .int 0])), (xw, .inl (k1, 4, .inl (zW))), (m0, .inr (7, [.ref ma, .ref mw, .int 0, .int 0])), (ma, .inr (0, [.int 0, .ref t, .int 0])), (mw, .inl (k2, 4, .inl (zW))), (o, .inl (k3, 1, .inr (.inl (fun _ => 0))))] H := hP
    have hD : va_D (fun q : Nat => s.heap.size ≤ q) [(x0, .inr (5, [.ref xa, .ref xw, .ref xb, .int 0])), (xa, .inr (0, [.int 0, .ref t, .int 0])), (xw, .inl (k1, 4, .inl (zW))), (m0, .inr (7, [.ref ma, .ref mw, .int 0, .int 0])), (ma, .inr (0, [.int 0, .ref t, .int 0])), (mw, .inl (k2, 4, .inl (zW))), (o, .inl (k3, 1, .inr (.inl (fun _ => 0))))] := hD
    refine W.widen (k := 27) (n := 131) (zl_b rfl) (zl_b rfl) ?_
    refine lv_istore (lv' := [(6, .int 1), (5, .int 0), (4, .ref od), (3, .ref o), (2, .ref m0), (1, .ref x0), (0, .ref b)]) hx hb dL_law_626 hl (by decide) rfl (fun ls hl => ?_)
    refine lv_aload_n hx hb dL_law_628 rfl (lv_at hl 4 rfl) ?_
    refine lv_aload_n hx hb dL_law_629 rfl (lv_at hl 6 rfl) ?_
    refine lv_iload hx hb dL_law_630 (lv_at hl 1 rfl) ?_
    refine lv_iconst (v := 1) hx hb dL_law_632 (by decide) ?_
    refine lv_iadd hx hb dL_law_633 ?_
    refine va_sld hx hb hX hbl hbA hS (by unfold vp_in; decide) dL_law_634 ?_
    refine lv_topi (fun v_4 e_v_4 => ?_)
    have s_5 : v_1 = v_4 := by rw [e_v_1, e_v_4]
    subst s_5
    refine lv_aload_n hx hb dL_law_635 rfl (lv_at hl 6 rfl) ?_
    refine lv_iload hx hb dL_law_636 (lv_at hl 1 rfl) ?_
    refine lv_iconst (v := 2) hx hb dL_law_638 (by decide) ?_
    refine lv_iadd hx hb dL_law_639 ?_
    refine va_sld hx hb hX hbl hbA hS (by unfold vp_in; decide) dL_law_640 ?_
    refine lv_topi (fun v_6 e_v_6 => ?_)
    have s_7 : v_2 = v_6 := by rw [e_v_2, e_v_6]
    subst s_7
    have hFc := va_free (wc := [(m0, .inr (7, [.ref ma, .ref mw, .int 0, .int 0])), (mw, .inl (k2, 4, .inl (zW)))]) hD hS hA [3, 5] rfl
    refine va_calli (va_runV (As := [.int v_1, .int v_2]) (rest := []) ⟨hx, hb, hml, hown, hts⟩ (m_curBad1 l dC dI H.size t m0 mw k2 (.ref ma) v_1 v_2 hv9) (cwV 2 hts (zg_V kw_1556 kw_1557 kw_1558 kw_70 kw_1559) rfl rfl rfl (by decide +kernel) ⟨Nat.le_of_ble_eq_true rfl, Nat.le_of_ble_eq_true rfl⟩) ⟨zA_blind, va_recv hK hP (ci := 7) (q0 := 3) rfl rfl, zA_pre hP hD hS hK hQ hA [3, 5] rfl rfl (by decide) [1] rfl⟩ rfl rfl hl.1 rfl (lv_room (Nat.le_of_ble_eq_true rfl)) dL_law_641 ⟨zl_b rfl, zl_b rfl⟩) hS (fun q _ h => hFc q h) hFc (fun r_8 u t9 H1 locs ht hvm hw hB hz1 hk1 hS => ?_)
    obtain ⟨hP1, hK1, hD1⟩ := hB
    rw [ht] at hP1
    have hK1 := va_K.moved hvm.symm hK1
    obtain ⟨hP, hD⟩ := va_join (wr := [(x0, .inr (5, [.ref xa, .ref xw, .ref xb, .int 0])), (xa, .inr (0, [.int 0, .ref t, .int 0])), (xw, .inl (k1, 4, .inl (zW))), (ma, .inr (0, [.int 0, .ref t, .int 0])), (o, .inl (k3, 1, .inr (.inl (fun _ => 0))))]) (w1 := [(m0, .inr (7, [.ref ma, .ref mw, .int 0, .int 1]))]) hP hD [3, 5] [0, 1, 2, 4, 6] rfl rfl (by decide) (by decide) hk1 hFc hP1 hD1
    have hK := (hK.sub (tys' := [(k1, .int), (k2, .int), (k3, .long)]) [0, 1, 2] rfl).app hK1
    generalize H1 = H at hP hS ⊢
    have hP : va_P (dC, dI) zc [(x0, .inr (5, [.ref xa, .ref xw, .ref xb, .int 0])), (xa, .inr (0, [.int 0, .ref t, .int 0])), (xw, .inl (k1, 4, .inl (zW))), (ma, .inr (0, [.int 0, .ref t, .int 0])), (o, .inl (k3, 1, .inr (.inl (fun _ => 0)))), (m0, .inr (7, [.ref ma, .ref mw, .int 0, .int 1]))] H := hP
    have hD : va_D (fun q : Nat => s.heap.size ≤ q) [(x0, .inr (5, [.ref xa, .ref xw, .ref xb, .int 0])), (xa, .inr (0, [.int 0, .ref t, .int 0])), (xw, .inl (k1, 4, .inl (zW))), (ma, .inr (0, [.int 0, .ref t, .int 0])), (o, .inl (k3, 1, .inr (.inl (fun _ => 0)))), (m0, .inr (7, [.ref ma, .ref mw, .int 0, .int 1]))] := hD
    have hK : va_K (dC, dI) zc [(k1, .int), (k2, .int), (k3, .long)] s := hK
    refine lv_istore (lv' := [(7, .int r_8), (6, .int 1), (5, .int 0), (4, .ref od), (3, .ref o), (2, .ref m0), (1, .ref x0), (0, .ref b)]) hx hb dL_law_644 hl (by decide) rfl (fun ls hl => ?_)
    refine lv_aload_n hx hb dL_law_646 rfl (lv_at hl 5 rfl) ?_
    refine vp_callSi (W.runV (As := []) (rest := []) ⟨hx, hb, hml, hown, hts⟩ (c_thrown l dC dI H.size t m0 (.ref ma) (.ref mw) 0 1) (cwV 0 hts (zg_V kw_1365 kw_1366 kw_1367 kw_70 kw_1368) rfl rfl rfl (by decide +kernel) ⟨Nat.le_of_ble_eq_true rfl, Nat.le_of_ble_eq_true rfl⟩) ⟨zA_blind, va_recv hK hP (ci := 7) (q0 := 5) rfl rfl, zA_pre hP hD hS hK hQ hA [5] rfl rfl (by decide) [] rfl⟩ rfl rfl hl.1 rfl (lv_room (Nat.le_of_ble_eq_true rfl)) dL_law_647 ⟨zl_b rfl, zl_b rfl⟩) (fun r hr => ?_)
    subst hr
    refine lv_iload hx hb dL_law_650 (lv_at hl 1 rfl) ?_
    refine lv_icmp_eq (tgt := 657) hx hb dL_law_652 (by decide) (fun c_9 => ?_) (fun c_9 => absurd c_9 (by decide))
    refine lv_iload hx hb dL_law_657 (lv_at hl 1 rfl) ?_
    refine lv_if_ne (tgt := 674) hx hb dL_law_659 (by decide) (fun c_10 => ?_) (fun c_10 => absurd c_10 (by decide))
    refine lv_goto (tgt := 2981) hx hb dL_law_674 (by decide) ?_
    exact law_tail l C0 _ _ (zl_b rfl) (zl_b rfl) _ _ hS ls (lv_sub hl [7, 2] rfl)
  · rcases zi_rng v_2 1 99999 with hv9 | ⟨hv3, hv4⟩
    · refine vx_calli (vx_runSX (As := [.ref x0, .int v_1, .int v_2, .ref o]) (rest := []) ⟨hx, hb, hml, hown, hts⟩ (lo_curBad2 l hst dC dI H.size t x0 xw k1 (.ref xa) (.ref xb) v_1 v_2 o hv1 hv2 hv9) (vx_cwSW 4 hts (zg_S kw_1013 kw_1014 kw_63 kw_1015) rfl rfl rfl (by decide +kernel) ⟨Nat.le_of_ble_eq_true rfl, Nat.le_of_ble_eq_true rfl⟩) ⟨zA_blind, zA_pre hP hD hS hK hQ hA [0, 2] rfl rfl (by decide) [0] rfl⟩ rfl rfl hl.1 rfl (lv_room (Nat.le_of_ble_eq_true rfl)) dL_law_623 ⟨zl_b rfl, zl_b rfl⟩) hS (fun q _ h => hA q (Nat.le_trans (hS.1) h)) (fun q h => hA q (Nat.le_trans (hS.1) h)) (fun q _ h => h.elim) (fun E ce q9 u t9 H1 locs1 ht hvm hp9 hE hz1 hk1 hS1 hc1 hv1 hcl1 => hp9.elim) (fun r_3 u t9 H1 locs ht hvm hw hB hz1 hk1 hS => ?_)
      have hw : r_3 = 1 := hw
      subst hw
      have hP := zP_new hP hk1
      generalize H1 = H at hP hS ⊢
      have hP : va_P (dC, dI) zc [(x0, .inr (5, [.ref xa, .ref xw, .ref xb, .int 0])), (xa, .inr (0, [.int 0, .ref t, .int 0])), (xw, .inl (k1, 4, .inl (zW))), (m0, .inr (7, [.ref ma, .ref mw, .int 0, .int 0])), (ma, .inr (0, [.int 0, .ref t, .int 0])), (mw, .inl (k2, 4, .inl (zW))), (o, .inl (k3, 1, .inr (.inl (fun _ => 0))))] H := hP
      have hD : va_D (fun q : Nat => s.heap.size ≤ q) [(x0, .inr (5, [.ref xa, .ref xw, .ref xb, .int 0])), (xa, .inr (0, [.int 0, .ref t, .int 0])), (xw, .inl (k1, 4, .inl (zW))), (m0, .inr (7, [.ref ma, .ref mw, .int 0, .int 0])), (ma, .inr (0, [.int 0, .ref t, .int 0])), (mw, .inl (k2, 4, .inl (zW))), (o, .inl (k3, 1, .inr (.inl (fun _ => 0))))] := hD
      refine W.widen (k := 27) (n := 131) (zl_b rfl) (zl_b rfl) ?_
      refine lv_istore (lv' := [(6, .int 1), (5, .int 0), (4, .ref od), (3, .ref o), (2, .ref m0), (1, .ref x0), (0, .ref b)]) hx hb dL_law_626 hl (by decide) rfl (fun ls hl => ?_)
      refine lv_aload_n hx hb dL_law_628 rfl (lv_at hl 4 rfl) ?_
      refine lv_aload_n hx hb dL_law_629 rfl (lv_at hl 6 rfl) ?_
      refine lv_iload hx hb dL_law_630 (lv_at hl 1 rfl) ?_
      refine lv_iconst (v := 1) hx hb dL_law_632 (by decide) ?_
      refine lv_iadd hx hb dL_law_633 ?_
      refine va_sld hx hb hX hbl hbA hS (by unfold vp_in; decide) dL_law_634 ?_
      refine lv_topi (fun v_4 e_v_4 => ?_)
      have s_5 : v_1 = v_4 := by rw [e_v_1, e_v_4]
      subst s_5
      refine lv_aload_n hx hb dL_law_635 rfl (lv_at hl 6 rfl) ?_
      refine lv_iload hx hb dL_law_636 (lv_at hl 1 rfl) ?_
      refine lv_iconst (v := 2) hx hb dL_law_638 (by decide) ?_
      refine lv_iadd hx hb dL_law_639 ?_
      refine va_sld hx hb hX hbl hbA hS (by unfold vp_in; decide) dL_law_640 ?_
      refine lv_topi (fun v_6 e_v_6 => ?_)
      have s_7 : v_2 = v_6 := by rw [e_v_2, e_v_6]
      subst s_7
      have hFc := va_free (wc := [(m0, .inr (7, [.ref ma, .ref mw, .int 0, .int 0])), (mw, .inl (k2, 4, .inl (zW)))]) hD hS hA [3, 5] rfl
      refine va_calli (va_runV (As := [.int v_1, .int v_2]) (rest := []) ⟨hx, hb, hml, hown, hts⟩ (m_curBad2 l dC dI H.size t m0 mw k2 (.ref ma) v_1 v_2 hv1 hv2 hv9) (cwV 2 hts (zg_V kw_1556 kw_1557 kw_1558 kw_70 kw_1559) rfl rfl rfl (by decide +kernel) ⟨Nat.le_of_ble_eq_true rfl, Nat.le_of_ble_eq_true rfl⟩) ⟨zA_blind, va_recv hK hP (ci := 7) (q0 := 3) rfl rfl, zA_pre hP hD hS hK hQ hA [3, 5] rfl rfl (by decide) [1] rfl⟩ rfl rfl hl.1 rfl (lv_room (Nat.le_of_ble_eq_true rfl)) dL_law_641 ⟨zl_b rfl, zl_b rfl⟩) hS (fun q _ h => hFc q h) hFc (fun r_8 u t9 H1 locs ht hvm hw hB hz1 hk1 hS => ?_)
      obtain ⟨hP1, hK1, hD1⟩ := hB
      rw [ht] at hP1
      have hK1 := va_K.moved hvm.symm hK1
      obtain ⟨hP, hD⟩ := va_join (wr := [(x0, .inr (5, [.ref xa, .ref xw, .ref xb, .int 0])), (xa, .inr (0, [.int 0, .ref t, .int 0])), (xw, .inl (k1, 4, .inl (zW))), (ma, .inr (0, [.int 0, .ref t, .int 0])), (o, .inl (k3, 1, .inr (.inl (fun _ => 0))))]) (w1 := [(m0, .inr (7, [.ref ma, .ref mw, .int 0, .int 1]))]) hP hD [3, 5] [0, 1, 2, 4, 6] rfl rfl (by decide) (by decide) hk1 hFc hP1 hD1
      have hK := (hK.sub (tys' := [(k1, .int), (k2, .int), (k3, .long)]) [0, 1, 2] rfl).app hK1
      generalize H1 = H at hP hS ⊢
      have hP : va_P (dC, dI) zc [(x0, .inr (5, [.ref xa, .ref xw, .ref xb, .int 0])), (xa, .inr (0, [.int 0, .ref t, .int 0])), (xw, .inl (k1, 4, .inl (zW))), (ma, .inr (0, [.int 0, .ref t, .int 0])), (o, .inl (k3, 1, .inr (.inl (fun _ => 0)))), (m0, .inr (7, [.ref ma, .ref mw, .int 0, .int 1]))] H := hP
      have hD : va_D (fun q : Nat => s.heap.size ≤ q) [(x0, .inr (5, [.ref xa, .ref xw, .ref xb, .int 0])), (xa, .inr (0, [.int 0, .ref t, .int 0])), (xw, .inl (k1, 4, .inl (zW))), (ma, .inr (0, [.int 0, .ref t, .int 0])), (o, .inl (k3, 1, .inr (.inl (fun _ => 0)))), (m0, .inr (7, [.ref ma, .ref mw, .int 0, .int 1]))] := hD
      have hK : va_K (dC, dI) zc [(k1, .int), (k2, .int), (k3, .long)] s := hK
      refine lv_istore (lv' := [(7, .int r_8), (6, .int 1), (5, .int 0), (4, .ref od), (3, .ref o), (2, .ref m0), (1, .ref x0), (0, .ref b)]) hx hb dL_law_644 hl (by decide) rfl (fun ls hl => ?_)
      refine lv_aload_n hx hb dL_law_646 rfl (lv_at hl 5 rfl) ?_
      refine vp_callSi (W.runV (As := []) (rest := []) ⟨hx, hb, hml, hown, hts⟩ (c_thrown l dC dI H.size t m0 (.ref ma) (.ref mw) 0 1) (cwV 0 hts (zg_V kw_1365 kw_1366 kw_1367 kw_70 kw_1368) rfl rfl rfl (by decide +kernel) ⟨Nat.le_of_ble_eq_true rfl, Nat.le_of_ble_eq_true rfl⟩) ⟨zA_blind, va_recv hK hP (ci := 7) (q0 := 5) rfl rfl, zA_pre hP hD hS hK hQ hA [5] rfl rfl (by decide) [] rfl⟩ rfl rfl hl.1 rfl (lv_room (Nat.le_of_ble_eq_true rfl)) dL_law_647 ⟨zl_b rfl, zl_b rfl⟩) (fun r hr => ?_)
      subst hr
      refine lv_iload hx hb dL_law_650 (lv_at hl 1 rfl) ?_
      refine lv_icmp_eq (tgt := 657) hx hb dL_law_652 (by decide) (fun c_9 => ?_) (fun c_9 => absurd c_9 (by decide))
      refine lv_iload hx hb dL_law_657 (lv_at hl 1 rfl) ?_
      refine lv_if_ne (tgt := 674) hx hb dL_law_659 (by decide) (fun c_10 => ?_) (fun c_10 => absurd c_10 (by decide))
      refine lv_goto (tgt := 2981) hx hb dL_law_674 (by decide) ?_
      exact law_tail l C0 _ _ (zl_b rfl) (zl_b rfl) _ _ hS ls (lv_sub hl [7, 2] rfl)
    · have hFc := va_free (wc := [(x0, .inr (5, [.ref xa, .ref xw, .ref xb, .int 0])), (xw, .inl (k1, 4, .inl (zW))), (o, .inl (k3, 1, .inr (.inl (fun _ => 0))))]) hD hS hA [0, 2, 6] rfl
      refine vx_calli (vx_runSX (As := [.ref x0, .int v_1, .int v_2, .ref o]) (rest := []) ⟨hx, hb, hml, hown, hts⟩ (lo_curOk l hst dC dI H.size t x0 xw k1 (.ref xa) (.ref xb) v_1 v_2 hv1 hv2 hv3 hv4 o k3 (fun _ => 0)) (vx_cwSW 4 hts (zg_S kw_1013 kw_1014 kw_63 kw_1015) rfl rfl rfl (by decide +kernel) ⟨Nat.le_of_ble_eq_true rfl, Nat.le_of_ble_eq_true rfl⟩) ⟨zA_blind, zA_pre hP hD hS hK hQ hA [0, 2, 6] rfl rfl (by decide) [0, 2] rfl⟩ rfl rfl hl.1 rfl (lv_room (Nat.le_of_ble_eq_true rfl)) dL_law_623 ⟨zl_b rfl, zl_b rfl⟩) hS (fun q _ h => hFc q h) hFc (fun q _ h => h.elim) (fun E ce q9 u t9 H1 locs1 ht hvm hp9 hE hz1 hk1 hS1 hc1 hv1 hcl1 => hp9.elim) (fun r_3 u t9 H1 locs ht hvm hw hB hz1 hk1 hS => ?_)
      have hw : r_3 = 0 := hw
      subst hw
      obtain ⟨hP1, hK1, hD1⟩ := hB
      rw [ht] at hP1
      obtain ⟨hP, hD⟩ := va_join (wr := [(xa, .inr (0, [.int 0, .ref t, .int 0])), (m0, .inr (7, [.ref ma, .ref mw, .int 0, .int 0])), (ma, .inr (0, [.int 0, .ref t, .int 0])), (mw, .inl (k2, 4, .inl (zW)))]) (w1 := [(o, .inl (k3, 1, .inr (.inl (vp_updL (fun _ => 0) 0 ((zW v_1.toNatClampNeg)).toInt64))))]) hP hD [0, 2, 6] [1, 3, 4, 5] rfl rfl (by decide) (by decide) hk1 hFc hP1 hD1
      generalize H1 = H at hP hS ⊢
      have hP : va_P (dC, dI) zc [(xa, .inr (0, [.int 0, .ref t, .int 0])), (m0, .inr (7, [.ref ma, .ref mw, .int 0, .int 0])), (ma, .inr (0, [.int 0, .ref t, .int 0])), (mw, .inl (k2, 4, .inl (zW))), (o, .inl (k3, 1, .inr (.inl (vp_updL (fun _ => 0) 0 ((zW v_1.toNatClampNeg)).toInt64))))] H := hP
      have hD : va_D (fun q : Nat => s.heap.size ≤ q) [(xa, .inr (0, [.int 0, .ref t, .int 0])), (m0, .inr (7, [.ref ma, .ref mw, .int 0, .int 0])), (ma, .inr (0, [.int 0, .ref t, .int 0])), (mw, .inl (k2, 4, .inl (zW))), (o, .inl (k3, 1, .inr (.inl (vp_updL (fun _ => 0) 0 ((zW v_1.toNatClampNeg)).toInt64))))] := hD
      refine W.widen (k := 26) (n := 125) (zl_b rfl) (zl_b rfl) ?_
      refine lv_istore (lv' := [(6, .int 0), (5, .int 0), (4, .ref od), (3, .ref o), (2, .ref m0), (1, .ref x0), (0, .ref b)]) hx hb dL_law_626 hl (by decide) rfl (fun ls hl => ?_)
      refine lv_aload_n hx hb dL_law_628 rfl (lv_at hl 4 rfl) ?_
      refine lv_aload_n hx hb dL_law_629 rfl (lv_at hl 6 rfl) ?_
      refine lv_iload hx hb dL_law_630 (lv_at hl 1 rfl) ?_
      refine lv_iconst (v := 1) hx hb dL_law_632 (by decide) ?_
      refine lv_iadd hx hb dL_law_633 ?_
      refine va_sld hx hb hX hbl hbA hS (by unfold vp_in; decide) dL_law_634 ?_
      refine lv_topi (fun v_4 e_v_4 => ?_)
      have s_5 : v_1 = v_4 := by rw [e_v_1, e_v_4]
      subst s_5
      refine lv_aload_n hx hb dL_law_635 rfl (lv_at hl 6 rfl) ?_
      refine lv_iload hx hb dL_law_636 (lv_at hl 1 rfl) ?_
      refine lv_iconst (v := 2) hx hb dL_law_638 (by decide) ?_
      refine lv_iadd hx hb dL_law_639 ?_
      refine va_sld hx hb hX hbl hbA hS (by unfold vp_in; decide) dL_law_640 ?_
      refine lv_topi (fun v_6 e_v_6 => ?_)
      have s_7 : v_2 = v_6 := by rw [e_v_2, e_v_6]
      subst s_7
      have hFc := va_free (wc := [(m0, .inr (7, [.ref ma, .ref mw, .int 0, .int 0])), (mw, .inl (k2, 4, .inl (zW)))]) hD hS hA [1, 3] rfl
      refine va_calli (va_runV (As := [.int v_1, .int v_2]) (rest := []) ⟨hx, hb, hml, hown, hts⟩ (m_curOk l dC dI H.size t m0 mw k2 (.ref ma) v_1 v_2 hv1 hv2 hv3 hv4) (cwV 2 hts (zg_V kw_1556 kw_1557 kw_1558 kw_70 kw_1559) rfl rfl rfl (by decide +kernel) ⟨Nat.le_of_ble_eq_true rfl, Nat.le_of_ble_eq_true rfl⟩) ⟨zA_blind, va_recv hK hP (ci := 7) (q0 := 1) rfl rfl, zA_pre hP hD hS hK hQ hA [1, 3] rfl rfl (by decide) [1] rfl⟩ rfl rfl hl.1 rfl (lv_room (Nat.le_of_ble_eq_true rfl)) dL_law_641 ⟨zl_b rfl, zl_b rfl⟩) hS (fun q _ h => hFc q h) hFc (fun r_8 u t9 H1 locs ht hvm hw hB hz1 hk1 hS => ?_)
      obtain ⟨hP1, hK1, hD1⟩ := hB
      rw [ht] at hP1
      have hK1 := va_K.moved hvm.symm hK1
      obtain ⟨hP, hD⟩ := va_join (wr := [(xa, .inr (0, [.int 0, .ref t, .int 0])), (ma, .inr (0, [.int 0, .ref t, .int 0])), (o, .inl (k3, 1, .inr (.inl (vp_updL (fun _ => 0) 0 ((zW v_1.toNatClampNeg)).toInt64))))]) (w1 := [(m0, .inr (7, [.ref ma, .ref mw, .int 0, .int 0]))]) hP hD [1, 3] [0, 2, 4] rfl rfl (by decide) (by decide) hk1 hFc hP1 hD1
      have hK := (hK.sub (tys' := [(k1, .int), (k2, .int), (k3, .long)]) [0, 1, 2] rfl).app hK1
      generalize H1 = H at hP hS ⊢
      have hP : va_P (dC, dI) zc [(xa, .inr (0, [.int 0, .ref t, .int 0])), (ma, .inr (0, [.int 0, .ref t, .int 0])), (o, .inl (k3, 1, .inr (.inl (vp_updL (fun _ => 0) 0 ((zW v_1.toNatClampNeg)).toInt64)))), (m0, .inr (7, [.ref ma, .ref mw, .int 0, .int 0]))] H := hP
      have hD : va_D (fun q : Nat => s.heap.size ≤ q) [(xa, .inr (0, [.int 0, .ref t, .int 0])), (ma, .inr (0, [.int 0, .ref t, .int 0])), (o, .inl (k3, 1, .inr (.inl (vp_updL (fun _ => 0) 0 ((zW v_1.toNatClampNeg)).toInt64)))), (m0, .inr (7, [.ref ma, .ref mw, .int 0, .int 0]))] := hD
      have hK : va_K (dC, dI) zc [(k1, .int), (k2, .int), (k3, .long)] s := hK
      have hw : (zW v_1.toNatClampNeg) = r_8 := hw.symm
      subst hw
      refine lv_istore (lv' := [(7, .int (zW v_1.toNatClampNeg)), (6, .int 0), (5, .int 0), (4, .ref od), (3, .ref o), (2, .ref m0), (1, .ref x0), (0, .ref b)]) hx hb dL_law_644 hl (by decide) rfl (fun ls hl => ?_)
      refine lv_aload_n hx hb dL_law_646 rfl (lv_at hl 5 rfl) ?_
      refine vp_callSi (W.runV (As := []) (rest := []) ⟨hx, hb, hml, hown, hts⟩ (c_thrown l dC dI H.size t m0 (.ref ma) (.ref mw) 0 0) (cwV 0 hts (zg_V kw_1365 kw_1366 kw_1367 kw_70 kw_1368) rfl rfl rfl (by decide +kernel) ⟨Nat.le_of_ble_eq_true rfl, Nat.le_of_ble_eq_true rfl⟩) ⟨zA_blind, va_recv hK hP (ci := 7) (q0 := 3) rfl rfl, zA_pre hP hD hS hK hQ hA [3] rfl rfl (by decide) [] rfl⟩ rfl rfl hl.1 rfl (lv_room (Nat.le_of_ble_eq_true rfl)) dL_law_647 ⟨zl_b rfl, zl_b rfl⟩) (fun r hr => ?_)
      subst hr
      refine lv_iload hx hb dL_law_650 (lv_at hl 1 rfl) ?_
      refine lv_icmp_eq (tgt := 657) hx hb dL_law_652 (by decide) (fun c_9 => ?_) (fun c_9 => absurd c_9 (by decide))
      refine lv_iload hx hb dL_law_657 (lv_at hl 1 rfl) ?_
      refine lv_if_ne (tgt := 674) hx hb dL_law_659 (by decide) (fun c_10 => absurd c_10 (by decide)) (fun c_10 => ?_)
      refine lv_aload_n hx hb dL_law_662 rfl (lv_at hl 4 rfl) ?_
      refine lv_iconst (v := 0) hx hb dL_law_663 (by decide) ?_
      refine va_lald hx hb hK hP 2 2 rfl rfl (by unfold vp_in; decide) dL_law_664 ?_
      refine lv_iload hx hb dL_law_665 (lv_at hl 0 rfl) ?_
      refine lv_i2l (v := ((zW v_1.toNatClampNeg) : Int32).toInt64) hx hb dL_law_667 rfl ?_
      refine W.lcmp hx hb dL_law_668 ?_
      refine lv_if_eq (tgt := 674) hx hb dL_law_669 (by decide) (fun c_11 => ?_) (fun c_11 => absurd (zi_cmpE rfl) c_11)
      refine lv_goto (tgt := 2981) hx hb dL_law_674 (by decide) ?_
      exact law_tail l C0 _ _ (zl_b rfl) (zl_b rfl) _ _ hS ls (lv_sub hl [7, 2] rfl)
set_option maxHeartbeats 4000000 in
set_option maxRecDepth 100000 in
/-- the law on buy -/
theorem law_c6 {p : Program} {e : Env} {s : State} {m : MethodId} {below : List Frame} {meth : Method} {c : Code} {b : Nat} {xs : Nat → Int32} (l : Launch) (hst : l.stackTraces = false) (C0 : lw_At p s m meth c b 5 xs) {dC : Nat → ClassId} {dI : Nat → Nat → Nat} {t x0 xa xw xb m0 ma mw o od : Nat} {k1 k2 k3 : ClassId} (H : Heap) (locs : List Loc) (hK : va_K (dC, dI) zc [(k1, .int), (k2, .int), (k3, .long)] s) (hQ : zQ t (fun q : Nat => s.heap.size ≤ q) s s.heap) (hP : va_P (dC, dI) zc [(x0, .inr (5, [.ref xa, .ref xw, .ref xb, .int 0])), (xa, .inr (0, [.int 0, .ref t, .int 0])), (xw, .inl (k1, 4, .inl (zW))), (m0, .inr (7, [.ref ma, .ref mw, .int 0, .int 0])), (ma, .inr (0, [.int 0, .ref t, .int 0])), (mw, .inl (k2, 4, .inl (zW))), (o, .inl (k3, 1, .inr (.inl (fun _ => 0))))] H) (hD : va_D (fun q : Nat => s.heap.size ≤ q) [(x0, .inr (5, [.ref xa, .ref xw, .ref xb, .int 0])), (xa, .inr (0, [.int 0, .ref t, .int 0])), (xw, .inl (k1, 4, .inl (zW))), (m0, .inr (7, [.ref ma, .ref mw, .int 0, .int 0])), (ma, .inr (0, [.int 0, .ref t, .int 0])), (mw, .inl (k2, 4, .inl (zW))), (o, .inl (k3, 1, .inr (.inl (fun _ => 0))))]) (hS : va_S (fun q : Nat => s.heap.size ≤ q) s.heap H locs) (ls : Array Slot) (hl : lv_has ls 9 [(5, .int 0), (4, .ref od), (3, .ref o), (2, .ref m0), (1, .ref x0), (0, .ref b)]) : W p l e room_1 s m #[Value.ref b] below meth c H locs 26 125 (lw_Z below #[Value.ref b] s) (F0 m 677 ls []) := by
  obtain ⟨hx, hb, hr, hml, hown, hts0, hX, hbl, hlocks, hgv⟩ := id C0
  have hts : ∀ w ∈ zG, w.before #[Value.ref b] s = true := fun w h => hts0 w (zg_tbl h)
  have hA : ∀ q : Nat, s.heap.size ≤ q → (fun q : Nat => s.heap.size ≤ q) q := fun _ h => h
  have hbA : ¬ (fun q : Nat => s.heap.size ≤ q) b := Nat.not_le.mpr hbl
  refine lv_aload_n hx hb dL_law_677 rfl (lv_at hl 4 rfl) ?_
  refine lv_aload_n hx hb dL_law_678 rfl (lv_at hl 5 rfl) ?_
  refine lv_iload hx hb dL_law_679 (lv_at hl 0 rfl) ?_
  refine lv_iconst (v := 1) hx hb dL_law_681 (by decide) ?_
  refine lv_iadd hx hb dL_law_682 ?_
  refine va_sld hx hb hX hbl hbA hS (by unfold vp_in; decide) dL_law_683 ?_
  refine lv_topi (fun v_1 e_v_1 => ?_)
  refine lv_aload_n hx hb dL_law_684 rfl (lv_at hl 5 rfl) ?_
  refine lv_iload hx hb dL_law_685 (lv_at hl 0 rfl) ?_
  refine lv_iconst (v := 2) hx hb dL_law_687 (by decide) ?_
  refine lv_iadd hx hb dL_law_688 ?_
  refine va_sld hx hb hX hbl hbA hS (by unfold vp_in; decide) dL_law_689 ?_
  refine lv_topi (fun v_2 e_v_2 => ?_)
  refine lv_i2c hx hb dL_law_690 rfl ?_
  refine lv_topi (fun ch_3 e_ch_3 => ?_)
  refine lv_aload_n hx hb dL_law_691 rfl (lv_at hl 5 rfl) ?_
  refine lv_iload hx hb dL_law_692 (lv_at hl 0 rfl) ?_
  refine lv_iconst (v := 3) hx hb dL_law_694 (by decide) ?_
  refine lv_iadd hx hb dL_law_695 ?_
  refine va_sld hx hb hX hbl hbA hS (by unfold vp_in; decide) dL_law_696 ?_
  refine lv_topi (fun v_4 e_v_4 => ?_)
  refine lv_aload_n hx hb dL_law_697 rfl (lv_at hl 2 rfl) ?_
  refine vx_calli (vx_runSX (As := [.ref x0, .int v_1, .int ch_3, .int v_4, .ref o]) (rest := []) ⟨hx, hb, hml, hown, hts⟩ (lx_buy l hst dC dI H.size t x0 xa o (.ref xw) (.ref xb) 0 (.ref t) v_1 ch_3 v_4) (vx_cwSW 5 hts (zg_S kw_1021 kw_1022 kw_63 kw_1023) rfl rfl rfl (by decide +kernel) ⟨Nat.le_of_ble_eq_true rfl, Nat.le_of_ble_eq_true rfl⟩) ⟨zA_blind, zA_pre hP hD hS hK hQ hA [0, 1] rfl rfl (by decide) [] rfl⟩ rfl rfl hl.1 rfl (lv_room (Nat.le_of_ble_eq_true rfl)) dL_law_698 ⟨zl_b rfl, zl_b rfl⟩) hS (fun q _ h => hA q (Nat.le_trans (hS.1) h)) (fun q h => hA q (Nat.le_trans (hS.1) h)) (fun q _ h => h.elim) (fun E ce q9 u t9 H1 locs1 ht hvm hp9 hE hz1 hk1 hS1 hc1 hv1 hcl1 => hp9.elim) (fun r_5 u t9 H1 locs ht hvm hw hB hz1 hk1 hS => ?_)
  have hw : r_5 = 1 := hw
  subst hw
  have hP := zP_new hP hk1
  generalize H1 = H at hP hS ⊢
  have hP : va_P (dC, dI) zc [(x0, .inr (5, [.ref xa, .ref xw, .ref xb, .int 0])), (xa, .inr (0, [.int 0, .ref t, .int 0])), (xw, .inl (k1, 4, .inl (zW))), (m0, .inr (7, [.ref ma, .ref mw, .int 0, .int 0])), (ma, .inr (0, [.int 0, .ref t, .int 0])), (mw, .inl (k2, 4, .inl (zW))), (o, .inl (k3, 1, .inr (.inl (fun _ => 0))))] H := hP
  have hD : va_D (fun q : Nat => s.heap.size ≤ q) [(x0, .inr (5, [.ref xa, .ref xw, .ref xb, .int 0])), (xa, .inr (0, [.int 0, .ref t, .int 0])), (xw, .inl (k1, 4, .inl (zW))), (m0, .inr (7, [.ref ma, .ref mw, .int 0, .int 0])), (ma, .inr (0, [.int 0, .ref t, .int 0])), (mw, .inl (k2, 4, .inl (zW))), (o, .inl (k3, 1, .inr (.inl (fun _ => 0))))] := hD
  refine W.widen (k := 27) (n := 131) (zl_b rfl) (zl_b rfl) ?_
  refine lv_istore (lv' := [(6, .int 1), (5, .int 0), (4, .ref od), (3, .ref o), (2, .ref m0), (1, .ref x0), (0, .ref b)]) hx hb dL_law_701 hl (by decide) rfl (fun ls hl => ?_)
  refine lv_aload_n hx hb dL_law_703 rfl (lv_at hl 4 rfl) ?_
  refine lv_aload_n hx hb dL_law_704 rfl (lv_at hl 6 rfl) ?_
  refine lv_iload hx hb dL_law_705 (lv_at hl 1 rfl) ?_
  refine lv_iconst (v := 1) hx hb dL_law_707 (by decide) ?_
  refine lv_iadd hx hb dL_law_708 ?_
  refine va_sld hx hb hX hbl hbA hS (by unfold vp_in; decide) dL_law_709 ?_
  refine lv_topi (fun v_6 e_v_6 => ?_)
  have s_7 : v_1 = v_6 := by rw [e_v_1, e_v_6]
  subst s_7
  refine lv_aload_n hx hb dL_law_710 rfl (lv_at hl 6 rfl) ?_
  refine lv_iload hx hb dL_law_711 (lv_at hl 1 rfl) ?_
  refine lv_iconst (v := 2) hx hb dL_law_713 (by decide) ?_
  refine lv_iadd hx hb dL_law_714 ?_
  refine va_sld hx hb hX hbl hbA hS (by unfold vp_in; decide) dL_law_715 ?_
  refine lv_topi (fun v_8 e_v_8 => ?_)
  have s_9 : v_2 = v_8 := by rw [e_v_2, e_v_8]
  subst s_9
  refine lv_i2c hx hb dL_law_716 rfl ?_
  refine lv_topi (fun ch_10 e_ch_10 => ?_)
  refine lv_aload_n hx hb dL_law_717 rfl (lv_at hl 6 rfl) ?_
  refine lv_iload hx hb dL_law_718 (lv_at hl 1 rfl) ?_
  refine lv_iconst (v := 3) hx hb dL_law_720 (by decide) ?_
  refine lv_iadd hx hb dL_law_721 ?_
  refine va_sld hx hb hX hbl hbA hS (by unfold vp_in; decide) dL_law_722 ?_
  refine lv_topi (fun v_11 e_v_11 => ?_)
  have s_12 : v_4 = v_11 := by rw [e_v_4, e_v_11]
  subst s_12
  have hFc := va_free (wc := [(m0, .inr (7, [.ref ma, .ref mw, .int 0, .int 0])), (ma, .inr (0, [.int 0, .ref t, .int 0]))]) hD hS hA [3, 4] rfl
  refine va_calli (va_runV (As := [.int v_1, .int ch_10, .int v_4]) (rest := []) ⟨hx, hb, hml, hown, hts⟩ (m_buy l dC dI H.size t m0 ma (.ref mw) 0 0 (.ref t) v_1 ch_10 v_4) (cwV 3 hts (zg_V kw_1561 kw_1562 kw_1563 kw_70 kw_1564) rfl rfl rfl (by decide +kernel) ⟨Nat.le_of_ble_eq_true rfl, Nat.le_of_ble_eq_true rfl⟩) ⟨zA_blind, va_recv hK hP (ci := 7) (q0 := 3) rfl rfl, zA_pre hP hD hS hK hQ hA [3, 4] rfl rfl (by decide) [] rfl⟩ rfl rfl hl.1 rfl (lv_room (Nat.le_of_ble_eq_true rfl)) dL_law_723 ⟨zl_b rfl, zl_b rfl⟩) hS (fun q _ h => hFc q h) hFc (fun r_13 u t9 H1 locs ht hvm hw hB hz1 hk1 hS => ?_)
  obtain ⟨hP1, hK1, hD1⟩ := hB
  rw [ht] at hP1
  have hK1 := va_K.moved hvm.symm hK1
  obtain ⟨hP, hD⟩ := va_join (wr := [(x0, .inr (5, [.ref xa, .ref xw, .ref xb, .int 0])), (xa, .inr (0, [.int 0, .ref t, .int 0])), (xw, .inl (k1, 4, .inl (zW))), (mw, .inl (k2, 4, .inl (zW))), (o, .inl (k3, 1, .inr (.inl (fun _ => 0))))]) (w1 := [(m0, .inr (7, [.ref ma, .ref mw, .int 0, .int 1])), (ma, .inr (0, [.int 0, .ref t, .int 0]))]) hP hD [3, 4] [0, 1, 2, 5, 6] rfl rfl (by decide) (by decide) hk1 hFc hP1 hD1
  have hK := (hK.sub (tys' := [(k1, .int), (k2, .int), (k3, .long)]) [0, 1, 2] rfl).app hK1
  generalize H1 = H at hP hS ⊢
  have hP : va_P (dC, dI) zc [(x0, .inr (5, [.ref xa, .ref xw, .ref xb, .int 0])), (xa, .inr (0, [.int 0, .ref t, .int 0])), (xw, .inl (k1, 4, .inl (zW))), (mw, .inl (k2, 4, .inl (zW))), (o, .inl (k3, 1, .inr (.inl (fun _ => 0)))), (m0, .inr (7, [.ref ma, .ref mw, .int 0, .int 1])), (ma, .inr (0, [.int 0, .ref t, .int 0]))] H := hP
  have hD : va_D (fun q : Nat => s.heap.size ≤ q) [(x0, .inr (5, [.ref xa, .ref xw, .ref xb, .int 0])), (xa, .inr (0, [.int 0, .ref t, .int 0])), (xw, .inl (k1, 4, .inl (zW))), (mw, .inl (k2, 4, .inl (zW))), (o, .inl (k3, 1, .inr (.inl (fun _ => 0)))), (m0, .inr (7, [.ref ma, .ref mw, .int 0, .int 1])), (ma, .inr (0, [.int 0, .ref t, .int 0]))] := hD
  have hK : va_K (dC, dI) zc [(k1, .int), (k2, .int), (k3, .long)] s := hK
  refine lv_istore (lv' := [(7, .int r_13), (6, .int 1), (5, .int 0), (4, .ref od), (3, .ref o), (2, .ref m0), (1, .ref x0), (0, .ref b)]) hx hb dL_law_726 hl (by decide) rfl (fun ls hl => ?_)
  refine lv_aload_n hx hb dL_law_728 rfl (lv_at hl 5 rfl) ?_
  refine vp_callSi (W.runV (As := []) (rest := []) ⟨hx, hb, hml, hown, hts⟩ (c_thrown l dC dI H.size t m0 (.ref ma) (.ref mw) 0 1) (cwV 0 hts (zg_V kw_1365 kw_1366 kw_1367 kw_70 kw_1368) rfl rfl rfl (by decide +kernel) ⟨Nat.le_of_ble_eq_true rfl, Nat.le_of_ble_eq_true rfl⟩) ⟨zA_blind, va_recv hK hP (ci := 7) (q0 := 5) rfl rfl, zA_pre hP hD hS hK hQ hA [5] rfl rfl (by decide) [] rfl⟩ rfl rfl hl.1 rfl (lv_room (Nat.le_of_ble_eq_true rfl)) dL_law_729 ⟨zl_b rfl, zl_b rfl⟩) (fun r hr => ?_)
  subst hr
  refine lv_iload hx hb dL_law_732 (lv_at hl 1 rfl) ?_
  refine lv_icmp_eq (tgt := 739) hx hb dL_law_734 (by decide) (fun c_14 => ?_) (fun c_14 => absurd c_14 (by decide))
  refine lv_iload hx hb dL_law_739 (lv_at hl 1 rfl) ?_
  refine lv_if_ne (tgt := 756) hx hb dL_law_741 (by decide) (fun c_15 => ?_) (fun c_15 => absurd c_15 (by decide))
  refine lv_goto (tgt := 2981) hx hb dL_law_756 (by decide) ?_
  exact law_tail l C0 _ _ (zl_b rfl) (zl_b rfl) _ _ hS ls (lv_sub hl [7, 2] rfl)
set_option maxHeartbeats 4000000 in
set_option maxRecDepth 100000 in
/-- the law on buyOn -/
theorem law_c7 {p : Program} {e : Env} {s : State} {m : MethodId} {below : List Frame} {meth : Method} {c : Code} {b : Nat} {xs : Nat → Int32} (l : Launch) (hst : l.stackTraces = false) (C0 : lw_At p s m meth c b 5 xs) {dC : Nat → ClassId} {dI : Nat → Nat → Nat} {t x0 xa xw xb m0 ma mw o od : Nat} {k1 k2 k3 : ClassId} (H : Heap) (locs : List Loc) (hK : va_K (dC, dI) zc [(k1, .int), (k2, .int), (k3, .long)] s) (hQ : zQ t (fun q : Nat => s.heap.size ≤ q) s s.heap) (hP : va_P (dC, dI) zc [(x0, .inr (5, [.ref xa, .ref xw, .ref xb, .int 0])), (xa, .inr (0, [.int 0, .ref t, .int 0])), (xw, .inl (k1, 4, .inl (zW))), (m0, .inr (7, [.ref ma, .ref mw, .int 0, .int 0])), (ma, .inr (0, [.int 0, .ref t, .int 0])), (mw, .inl (k2, 4, .inl (zW))), (o, .inl (k3, 1, .inr (.inl (fun _ => 0))))] H) (hD : va_D (fun q : Nat => s.heap.size ≤ q) [(x0, .inr (5, [.ref xa, .ref xw, .ref xb, .int 0])), (xa, .inr (0, [.int 0, .ref t, .int 0])), (xw, .inl (k1, 4, .inl (zW))), (m0, .inr (7, [.ref ma, .ref mw, .int 0, .int 0])), (ma, .inr (0, [.int 0, .ref t, .int 0])), (mw, .inl (k2, 4, .inl (zW))), (o, .inl (k3, 1, .inr (.inl (fun _ => 0))))]) (hS : va_S (fun q : Nat => s.heap.size ≤ q) s.heap H locs) (ls : Array Slot) (hl : lv_has ls 9 [(5, .int 0), (4, .ref od), (3, .ref o), (2, .ref m0), (1, .ref x0), (0, .ref b)]) : W p l e room_1 s m #[Value.ref b] below meth c H locs 26 125 (lw_Z below #[Value.ref b] s) (F0 m 759 ls []) := by
  obtain ⟨hx, hb, hr, hml, hown, hts0, hX, hbl, hlocks, hgv⟩ := id C0
  have hts : ∀ w ∈ zG, w.before #[Value.ref b] s = true := fun w h => hts0 w (zg_tbl h)
  have hA : ∀ q : Nat, s.heap.size ≤ q → (fun q : Nat => s.heap.size ≤ q) q := fun _ h => h
  have hbA : ¬ (fun q : Nat => s.heap.size ≤ q) b := Nat.not_le.mpr hbl
  refine lv_aload_n hx hb dL_law_759 rfl (lv_at hl 4 rfl) ?_
  refine lv_aload_n hx hb dL_law_760 rfl (lv_at hl 5 rfl) ?_
  refine lv_iload hx hb dL_law_761 (lv_at hl 0 rfl) ?_
  refine lv_iconst (v := 1) hx hb dL_law_763 (by decide) ?_
  refine lv_iadd hx hb dL_law_764 ?_
  refine va_sld hx hb hX hbl hbA hS (by unfold vp_in; decide) dL_law_765 ?_
  refine lv_topi (fun v_1 e_v_1 => ?_)
  refine lv_aload_n hx hb dL_law_766 rfl (lv_at hl 5 rfl) ?_
  refine lv_iload hx hb dL_law_767 (lv_at hl 0 rfl) ?_
  refine lv_iconst (v := 2) hx hb dL_law_769 (by decide) ?_
  refine lv_iadd hx hb dL_law_770 ?_
  refine va_sld hx hb hX hbl hbA hS (by unfold vp_in; decide) dL_law_771 ?_
  refine lv_topi (fun v_2 e_v_2 => ?_)
  refine lv_i2c hx hb dL_law_772 rfl ?_
  refine lv_topi (fun ch_3 e_ch_3 => ?_)
  refine lv_aload_n hx hb dL_law_773 rfl (lv_at hl 5 rfl) ?_
  refine lv_iload hx hb dL_law_774 (lv_at hl 0 rfl) ?_
  refine lv_iconst (v := 3) hx hb dL_law_776 (by decide) ?_
  refine lv_iadd hx hb dL_law_777 ?_
  refine va_sld hx hb hX hbl hbA hS (by unfold vp_in; decide) dL_law_778 ?_
  refine lv_topi (fun v_4 e_v_4 => ?_)
  refine lv_aload_n hx hb dL_law_779 rfl (lv_at hl 5 rfl) ?_
  refine lv_iload hx hb dL_law_780 (lv_at hl 0 rfl) ?_
  refine lv_iconst (v := 4) hx hb dL_law_782 (by decide) ?_
  refine lv_iadd hx hb dL_law_783 ?_
  refine va_sld hx hb hX hbl hbA hS (by unfold vp_in; decide) dL_law_784 ?_
  refine lv_topi (fun v_5 e_v_5 => ?_)
  refine lv_aload_n hx hb dL_law_785 rfl (lv_at hl 2 rfl) ?_
  refine vx_calli (vx_runSX (As := [.ref x0, .int v_1, .int ch_3, .int v_4, .int v_5, .ref o]) (rest := []) ⟨hx, hb, hml, hown, hts⟩ (lx_buyOn l hst dC dI H.size t x0 xa o (.ref xw) (.ref xb) 0 (.ref t) v_1 ch_3 v_4 v_5) (vx_cwSW 6 hts (zg_S kw_1050 kw_1051 kw_63 kw_1052) rfl rfl rfl (by decide +kernel) ⟨Nat.le_of_ble_eq_true rfl, Nat.le_of_ble_eq_true rfl⟩) ⟨zA_blind, zA_pre hP hD hS hK hQ hA [0, 1] rfl rfl (by decide) [] rfl⟩ rfl rfl hl.1 rfl (lv_room (Nat.le_of_ble_eq_true rfl)) dL_law_786 ⟨zl_b rfl, zl_b rfl⟩) hS (fun q _ h => hA q (Nat.le_trans (hS.1) h)) (fun q h => hA q (Nat.le_trans (hS.1) h)) (fun q _ h => h.elim) (fun E ce q9 u t9 H1 locs1 ht hvm hp9 hE hz1 hk1 hS1 hc1 hv1 hcl1 => hp9.elim) (fun r_6 u t9 H1 locs ht hvm hw hB hz1 hk1 hS => ?_)
  have hw : r_6 = 1 := hw
  subst hw
  have hP := zP_new hP hk1
  generalize H1 = H at hP hS ⊢
  have hP : va_P (dC, dI) zc [(x0, .inr (5, [.ref xa, .ref xw, .ref xb, .int 0])), (xa, .inr (0, [.int 0, .ref t, .int 0])), (xw, .inl (k1, 4, .inl (zW))), (m0, .inr (7, [.ref ma, .ref mw, .int 0, .int 0])), (ma, .inr (0, [.int 0, .ref t, .int 0])), (mw, .inl (k2, 4, .inl (zW))), (o, .inl (k3, 1, .inr (.inl (fun _ => 0))))] H := hP
  have hD : va_D (fun q : Nat => s.heap.size ≤ q) [(x0, .inr (5, [.ref xa, .ref xw, .ref xb, .int 0])), (xa, .inr (0, [.int 0, .ref t, .int 0])), (xw, .inl (k1, 4, .inl (zW))), (m0, .inr (7, [.ref ma, .ref mw, .int 0, .int 0])), (ma, .inr (0, [.int 0, .ref t, .int 0])), (mw, .inl (k2, 4, .inl (zW))), (o, .inl (k3, 1, .inr (.inl (fun _ => 0))))] := hD
  refine W.widen (k := 27) (n := 131) (zl_b rfl) (zl_b rfl) ?_
  refine lv_istore (lv' := [(6, .int 1), (5, .int 0), (4, .ref od), (3, .ref o), (2, .ref m0), (1, .ref x0), (0, .ref b)]) hx hb dL_law_789 hl (by decide) rfl (fun ls hl => ?_)
  refine lv_aload_n hx hb dL_law_791 rfl (lv_at hl 4 rfl) ?_
  refine lv_aload_n hx hb dL_law_792 rfl (lv_at hl 6 rfl) ?_
  refine lv_iload hx hb dL_law_793 (lv_at hl 1 rfl) ?_
  refine lv_iconst (v := 1) hx hb dL_law_795 (by decide) ?_
  refine lv_iadd hx hb dL_law_796 ?_
  refine va_sld hx hb hX hbl hbA hS (by unfold vp_in; decide) dL_law_797 ?_
  refine lv_topi (fun v_7 e_v_7 => ?_)
  have s_8 : v_1 = v_7 := by rw [e_v_1, e_v_7]
  subst s_8
  refine lv_aload_n hx hb dL_law_798 rfl (lv_at hl 6 rfl) ?_
  refine lv_iload hx hb dL_law_799 (lv_at hl 1 rfl) ?_
  refine lv_iconst (v := 2) hx hb dL_law_801 (by decide) ?_
  refine lv_iadd hx hb dL_law_802 ?_
  refine va_sld hx hb hX hbl hbA hS (by unfold vp_in; decide) dL_law_803 ?_
  refine lv_topi (fun v_9 e_v_9 => ?_)
  have s_10 : v_2 = v_9 := by rw [e_v_2, e_v_9]
  subst s_10
  refine lv_i2c hx hb dL_law_804 rfl ?_
  refine lv_topi (fun ch_11 e_ch_11 => ?_)
  refine lv_aload_n hx hb dL_law_805 rfl (lv_at hl 6 rfl) ?_
  refine lv_iload hx hb dL_law_806 (lv_at hl 1 rfl) ?_
  refine lv_iconst (v := 3) hx hb dL_law_808 (by decide) ?_
  refine lv_iadd hx hb dL_law_809 ?_
  refine va_sld hx hb hX hbl hbA hS (by unfold vp_in; decide) dL_law_810 ?_
  refine lv_topi (fun v_12 e_v_12 => ?_)
  have s_13 : v_4 = v_12 := by rw [e_v_4, e_v_12]
  subst s_13
  refine lv_aload_n hx hb dL_law_811 rfl (lv_at hl 6 rfl) ?_
  refine lv_iload hx hb dL_law_812 (lv_at hl 1 rfl) ?_
  refine lv_iconst (v := 4) hx hb dL_law_814 (by decide) ?_
  refine lv_iadd hx hb dL_law_815 ?_
  refine va_sld hx hb hX hbl hbA hS (by unfold vp_in; decide) dL_law_816 ?_
  refine lv_topi (fun v_14 e_v_14 => ?_)
  have s_15 : v_5 = v_14 := by rw [e_v_5, e_v_14]
  subst s_15
  have hFc := va_free (wc := [(m0, .inr (7, [.ref ma, .ref mw, .int 0, .int 0])), (ma, .inr (0, [.int 0, .ref t, .int 0]))]) hD hS hA [3, 4] rfl
  refine va_calli (va_runV (As := [.int v_1, .int ch_11, .int v_4, .int v_5]) (rest := []) ⟨hx, hb, hml, hown, hts⟩ (m_buyOn l dC dI H.size t m0 ma (.ref mw) 0 0 (.ref t) v_1 ch_11 v_4 v_5) (cwV 4 hts (zg_V kw_1784 kw_1785 kw_1786 kw_70 kw_1787) rfl rfl rfl (by decide +kernel) ⟨Nat.le_of_ble_eq_true rfl, Nat.le_of_ble_eq_true rfl⟩) ⟨zA_blind, va_recv hK hP (ci := 7) (q0 := 3) rfl rfl, zA_pre hP hD hS hK hQ hA [3, 4] rfl rfl (by decide) [] rfl⟩ rfl rfl hl.1 rfl (lv_room (Nat.le_of_ble_eq_true rfl)) dL_law_817 ⟨zl_b rfl, zl_b rfl⟩) hS (fun q _ h => hFc q h) hFc (fun r_16 u t9 H1 locs ht hvm hw hB hz1 hk1 hS => ?_)
  obtain ⟨hP1, hK1, hD1⟩ := hB
  rw [ht] at hP1
  have hK1 := va_K.moved hvm.symm hK1
  obtain ⟨hP, hD⟩ := va_join (wr := [(x0, .inr (5, [.ref xa, .ref xw, .ref xb, .int 0])), (xa, .inr (0, [.int 0, .ref t, .int 0])), (xw, .inl (k1, 4, .inl (zW))), (mw, .inl (k2, 4, .inl (zW))), (o, .inl (k3, 1, .inr (.inl (fun _ => 0))))]) (w1 := [(m0, .inr (7, [.ref ma, .ref mw, .int 0, .int 1])), (ma, .inr (0, [.int 0, .ref t, .int 0]))]) hP hD [3, 4] [0, 1, 2, 5, 6] rfl rfl (by decide) (by decide) hk1 hFc hP1 hD1
  have hK := (hK.sub (tys' := [(k1, .int), (k2, .int), (k3, .long)]) [0, 1, 2] rfl).app hK1
  generalize H1 = H at hP hS ⊢
  have hP : va_P (dC, dI) zc [(x0, .inr (5, [.ref xa, .ref xw, .ref xb, .int 0])), (xa, .inr (0, [.int 0, .ref t, .int 0])), (xw, .inl (k1, 4, .inl (zW))), (mw, .inl (k2, 4, .inl (zW))), (o, .inl (k3, 1, .inr (.inl (fun _ => 0)))), (m0, .inr (7, [.ref ma, .ref mw, .int 0, .int 1])), (ma, .inr (0, [.int 0, .ref t, .int 0]))] H := hP
  have hD : va_D (fun q : Nat => s.heap.size ≤ q) [(x0, .inr (5, [.ref xa, .ref xw, .ref xb, .int 0])), (xa, .inr (0, [.int 0, .ref t, .int 0])), (xw, .inl (k1, 4, .inl (zW))), (mw, .inl (k2, 4, .inl (zW))), (o, .inl (k3, 1, .inr (.inl (fun _ => 0)))), (m0, .inr (7, [.ref ma, .ref mw, .int 0, .int 1])), (ma, .inr (0, [.int 0, .ref t, .int 0]))] := hD
  have hK : va_K (dC, dI) zc [(k1, .int), (k2, .int), (k3, .long)] s := hK
  refine lv_istore (lv' := [(7, .int r_16), (6, .int 1), (5, .int 0), (4, .ref od), (3, .ref o), (2, .ref m0), (1, .ref x0), (0, .ref b)]) hx hb dL_law_820 hl (by decide) rfl (fun ls hl => ?_)
  refine lv_aload_n hx hb dL_law_822 rfl (lv_at hl 5 rfl) ?_
  refine vp_callSi (W.runV (As := []) (rest := []) ⟨hx, hb, hml, hown, hts⟩ (c_thrown l dC dI H.size t m0 (.ref ma) (.ref mw) 0 1) (cwV 0 hts (zg_V kw_1365 kw_1366 kw_1367 kw_70 kw_1368) rfl rfl rfl (by decide +kernel) ⟨Nat.le_of_ble_eq_true rfl, Nat.le_of_ble_eq_true rfl⟩) ⟨zA_blind, va_recv hK hP (ci := 7) (q0 := 5) rfl rfl, zA_pre hP hD hS hK hQ hA [5] rfl rfl (by decide) [] rfl⟩ rfl rfl hl.1 rfl (lv_room (Nat.le_of_ble_eq_true rfl)) dL_law_823 ⟨zl_b rfl, zl_b rfl⟩) (fun r hr => ?_)
  subst hr
  refine lv_iload hx hb dL_law_826 (lv_at hl 1 rfl) ?_
  refine lv_icmp_eq (tgt := 833) hx hb dL_law_828 (by decide) (fun c_17 => ?_) (fun c_17 => absurd c_17 (by decide))
  refine lv_iload hx hb dL_law_833 (lv_at hl 1 rfl) ?_
  refine lv_if_ne (tgt := 850) hx hb dL_law_835 (by decide) (fun c_18 => ?_) (fun c_18 => absurd c_18 (by decide))
  refine lv_goto (tgt := 2981) hx hb dL_law_850 (by decide) ?_
  exact law_tail l C0 _ _ (zl_b rfl) (zl_b rfl) _ _ hS ls (lv_sub hl [7, 2] rfl)
set_option maxHeartbeats 4000000 in
set_option maxRecDepth 100000 in
/-- the law on abroad -/
theorem law_c8 {p : Program} {e : Env} {s : State} {m : MethodId} {below : List Frame} {meth : Method} {c : Code} {b : Nat} {xs : Nat → Int32} (l : Launch) (hst : l.stackTraces = false) (C0 : lw_At p s m meth c b 5 xs) {dC : Nat → ClassId} {dI : Nat → Nat → Nat} {t x0 xa xw xb m0 ma mw o od : Nat} {k1 k2 k3 : ClassId} (H : Heap) (locs : List Loc) (hK : va_K (dC, dI) zc [(k1, .int), (k2, .int), (k3, .long)] s) (hQ : zQ t (fun q : Nat => s.heap.size ≤ q) s s.heap) (hP : va_P (dC, dI) zc [(x0, .inr (5, [.ref xa, .ref xw, .ref xb, .int 0])), (xa, .inr (0, [.int 0, .ref t, .int 0])), (xw, .inl (k1, 4, .inl (zW))), (m0, .inr (7, [.ref ma, .ref mw, .int 0, .int 0])), (ma, .inr (0, [.int 0, .ref t, .int 0])), (mw, .inl (k2, 4, .inl (zW))), (o, .inl (k3, 1, .inr (.inl (fun _ => 0))))] H) (hD : va_D (fun q : Nat => s.heap.size ≤ q) [(x0, .inr (5, [.ref xa, .ref xw, .ref xb, .int 0])), (xa, .inr (0, [.int 0, .ref t, .int 0])), (xw, .inl (k1, 4, .inl (zW))), (m0, .inr (7, [.ref ma, .ref mw, .int 0, .int 0])), (ma, .inr (0, [.int 0, .ref t, .int 0])), (mw, .inl (k2, 4, .inl (zW))), (o, .inl (k3, 1, .inr (.inl (fun _ => 0))))]) (hS : va_S (fun q : Nat => s.heap.size ≤ q) s.heap H locs) (ls : Array Slot) (hl : lv_has ls 9 [(5, .int 0), (4, .ref od), (3, .ref o), (2, .ref m0), (1, .ref x0), (0, .ref b)]) : W p l e room_1 s m #[Value.ref b] below meth c H locs 26 125 (lw_Z below #[Value.ref b] s) (F0 m 853 ls []) := by
  obtain ⟨hx, hb, hr, hml, hown, hts0, hX, hbl, hlocks, hgv⟩ := id C0
  have hts : ∀ w ∈ zG, w.before #[Value.ref b] s = true := fun w h => hts0 w (zg_tbl h)
  have hA : ∀ q : Nat, s.heap.size ≤ q → (fun q : Nat => s.heap.size ≤ q) q := fun _ h => h
  have hbA : ¬ (fun q : Nat => s.heap.size ≤ q) b := Nat.not_le.mpr hbl
  refine lv_aload_n hx hb dL_law_853 rfl (lv_at hl 4 rfl) ?_
  refine lv_aload_n hx hb dL_law_854 rfl (lv_at hl 5 rfl) ?_
  refine lv_iload hx hb dL_law_855 (lv_at hl 0 rfl) ?_
  refine lv_iconst (v := 1) hx hb dL_law_857 (by decide) ?_
  refine lv_iadd hx hb dL_law_858 ?_
  refine va_sld hx hb hX hbl hbA hS (by unfold vp_in; decide) dL_law_859 ?_
  refine lv_topi (fun v_1 e_v_1 => ?_)
  refine lv_aload_n hx hb dL_law_860 rfl (lv_at hl 5 rfl) ?_
  refine lv_iload hx hb dL_law_861 (lv_at hl 0 rfl) ?_
  refine lv_iconst (v := 2) hx hb dL_law_863 (by decide) ?_
  refine lv_iadd hx hb dL_law_864 ?_
  refine va_sld hx hb hX hbl hbA hS (by unfold vp_in; decide) dL_law_865 ?_
  refine lv_topi (fun v_2 e_v_2 => ?_)
  refine lv_aload_n hx hb dL_law_866 rfl (lv_at hl 5 rfl) ?_
  refine lv_iload hx hb dL_law_867 (lv_at hl 0 rfl) ?_
  refine lv_iconst (v := 3) hx hb dL_law_869 (by decide) ?_
  refine lv_iadd hx hb dL_law_870 ?_
  refine va_sld hx hb hX hbl hbA hS (by unfold vp_in; decide) dL_law_871 ?_
  refine lv_topi (fun v_3 e_v_3 => ?_)
  refine lv_aload_n hx hb dL_law_872 rfl (lv_at hl 2 rfl) ?_
  refine vx_calli (vx_runSX (As := [.ref x0, .int v_1, .int v_2, .int v_3, .ref o]) (rest := []) ⟨hx, hb, hml, hown, hts⟩ (lx_abroad l hst dC dI H.size t x0 xa o (.ref xw) (.ref xb) 0 (.ref t) v_1 v_2 v_3) (vx_cwSW 5 hts (zg_S kw_1057 kw_1058 kw_63 kw_1059) rfl rfl rfl (by decide +kernel) ⟨Nat.le_of_ble_eq_true rfl, Nat.le_of_ble_eq_true rfl⟩) ⟨zA_blind, zA_pre hP hD hS hK hQ hA [0, 1] rfl rfl (by decide) [] rfl⟩ rfl rfl hl.1 rfl (lv_room (Nat.le_of_ble_eq_true rfl)) dL_law_873 ⟨zl_b rfl, zl_b rfl⟩) hS (fun q _ h => hA q (Nat.le_trans (hS.1) h)) (fun q h => hA q (Nat.le_trans (hS.1) h)) (fun q _ h => h.elim) (fun E ce q9 u t9 H1 locs1 ht hvm hp9 hE hz1 hk1 hS1 hc1 hv1 hcl1 => hp9.elim) (fun r_4 u t9 H1 locs ht hvm hw hB hz1 hk1 hS => ?_)
  have hw : r_4 = 1 := hw
  subst hw
  have hP := zP_new hP hk1
  generalize H1 = H at hP hS ⊢
  have hP : va_P (dC, dI) zc [(x0, .inr (5, [.ref xa, .ref xw, .ref xb, .int 0])), (xa, .inr (0, [.int 0, .ref t, .int 0])), (xw, .inl (k1, 4, .inl (zW))), (m0, .inr (7, [.ref ma, .ref mw, .int 0, .int 0])), (ma, .inr (0, [.int 0, .ref t, .int 0])), (mw, .inl (k2, 4, .inl (zW))), (o, .inl (k3, 1, .inr (.inl (fun _ => 0))))] H := hP
  have hD : va_D (fun q : Nat => s.heap.size ≤ q) [(x0, .inr (5, [.ref xa, .ref xw, .ref xb, .int 0])), (xa, .inr (0, [.int 0, .ref t, .int 0])), (xw, .inl (k1, 4, .inl (zW))), (m0, .inr (7, [.ref ma, .ref mw, .int 0, .int 0])), (ma, .inr (0, [.int 0, .ref t, .int 0])), (mw, .inl (k2, 4, .inl (zW))), (o, .inl (k3, 1, .inr (.inl (fun _ => 0))))] := hD
  refine W.widen (k := 27) (n := 131) (zl_b rfl) (zl_b rfl) ?_
  refine lv_istore (lv' := [(6, .int 1), (5, .int 0), (4, .ref od), (3, .ref o), (2, .ref m0), (1, .ref x0), (0, .ref b)]) hx hb dL_law_876 hl (by decide) rfl (fun ls hl => ?_)
  refine lv_aload_n hx hb dL_law_878 rfl (lv_at hl 4 rfl) ?_
  refine lv_aload_n hx hb dL_law_879 rfl (lv_at hl 6 rfl) ?_
  refine lv_iload hx hb dL_law_880 (lv_at hl 1 rfl) ?_
  refine lv_iconst (v := 1) hx hb dL_law_882 (by decide) ?_
  refine lv_iadd hx hb dL_law_883 ?_
  refine va_sld hx hb hX hbl hbA hS (by unfold vp_in; decide) dL_law_884 ?_
  refine lv_topi (fun v_5 e_v_5 => ?_)
  have s_6 : v_1 = v_5 := by rw [e_v_1, e_v_5]
  subst s_6
  refine lv_aload_n hx hb dL_law_885 rfl (lv_at hl 6 rfl) ?_
  refine lv_iload hx hb dL_law_886 (lv_at hl 1 rfl) ?_
  refine lv_iconst (v := 2) hx hb dL_law_888 (by decide) ?_
  refine lv_iadd hx hb dL_law_889 ?_
  refine va_sld hx hb hX hbl hbA hS (by unfold vp_in; decide) dL_law_890 ?_
  refine lv_topi (fun v_7 e_v_7 => ?_)
  have s_8 : v_2 = v_7 := by rw [e_v_2, e_v_7]
  subst s_8
  refine lv_aload_n hx hb dL_law_891 rfl (lv_at hl 6 rfl) ?_
  refine lv_iload hx hb dL_law_892 (lv_at hl 1 rfl) ?_
  refine lv_iconst (v := 3) hx hb dL_law_894 (by decide) ?_
  refine lv_iadd hx hb dL_law_895 ?_
  refine va_sld hx hb hX hbl hbA hS (by unfold vp_in; decide) dL_law_896 ?_
  refine lv_topi (fun v_9 e_v_9 => ?_)
  have s_10 : v_3 = v_9 := by rw [e_v_3, e_v_9]
  subst s_10
  have hFc := va_free (wc := [(m0, .inr (7, [.ref ma, .ref mw, .int 0, .int 0])), (ma, .inr (0, [.int 0, .ref t, .int 0]))]) hD hS hA [3, 4] rfl
  refine va_calli (va_runV (As := [.int v_1, .int v_2, .int v_3]) (rest := []) ⟨hx, hb, hml, hown, hts⟩ (m_abroad l dC dI H.size t m0 ma (.ref mw) 0 0 (.ref t) v_1 v_2 v_3) (cwV 3 hts (zg_V kw_1788 kw_1789 kw_1790 kw_70 kw_1791) rfl rfl rfl (by decide +kernel) ⟨Nat.le_of_ble_eq_true rfl, Nat.le_of_ble_eq_true rfl⟩) ⟨zA_blind, va_recv hK hP (ci := 7) (q0 := 3) rfl rfl, zA_pre hP hD hS hK hQ hA [3, 4] rfl rfl (by decide) [] rfl⟩ rfl rfl hl.1 rfl (lv_room (Nat.le_of_ble_eq_true rfl)) dL_law_897 ⟨zl_b rfl, zl_b rfl⟩) hS (fun q _ h => hFc q h) hFc (fun r_11 u t9 H1 locs ht hvm hw hB hz1 hk1 hS => ?_)
  obtain ⟨hP1, hK1, hD1⟩ := hB
  rw [ht] at hP1
  have hK1 := va_K.moved hvm.symm hK1
  obtain ⟨hP, hD⟩ := va_join (wr := [(x0, .inr (5, [.ref xa, .ref xw, .ref xb, .int 0])), (xa, .inr (0, [.int 0, .ref t, .int 0])), (xw, .inl (k1, 4, .inl (zW))), (mw, .inl (k2, 4, .inl (zW))), (o, .inl (k3, 1, .inr (.inl (fun _ => 0))))]) (w1 := [(m0, .inr (7, [.ref ma, .ref mw, .int 0, .int 1])), (ma, .inr (0, [.int 0, .ref t, .int 0]))]) hP hD [3, 4] [0, 1, 2, 5, 6] rfl rfl (by decide) (by decide) hk1 hFc hP1 hD1
  have hK := (hK.sub (tys' := [(k1, .int), (k2, .int), (k3, .long)]) [0, 1, 2] rfl).app hK1
  generalize H1 = H at hP hS ⊢
  have hP : va_P (dC, dI) zc [(x0, .inr (5, [.ref xa, .ref xw, .ref xb, .int 0])), (xa, .inr (0, [.int 0, .ref t, .int 0])), (xw, .inl (k1, 4, .inl (zW))), (mw, .inl (k2, 4, .inl (zW))), (o, .inl (k3, 1, .inr (.inl (fun _ => 0)))), (m0, .inr (7, [.ref ma, .ref mw, .int 0, .int 1])), (ma, .inr (0, [.int 0, .ref t, .int 0]))] H := hP
  have hD : va_D (fun q : Nat => s.heap.size ≤ q) [(x0, .inr (5, [.ref xa, .ref xw, .ref xb, .int 0])), (xa, .inr (0, [.int 0, .ref t, .int 0])), (xw, .inl (k1, 4, .inl (zW))), (mw, .inl (k2, 4, .inl (zW))), (o, .inl (k3, 1, .inr (.inl (fun _ => 0)))), (m0, .inr (7, [.ref ma, .ref mw, .int 0, .int 1])), (ma, .inr (0, [.int 0, .ref t, .int 0]))] := hD
  have hK : va_K (dC, dI) zc [(k1, .int), (k2, .int), (k3, .long)] s := hK
  refine lv_istore (lv' := [(7, .int r_11), (6, .int 1), (5, .int 0), (4, .ref od), (3, .ref o), (2, .ref m0), (1, .ref x0), (0, .ref b)]) hx hb dL_law_900 hl (by decide) rfl (fun ls hl => ?_)
  refine lv_aload_n hx hb dL_law_902 rfl (lv_at hl 5 rfl) ?_
  refine vp_callSi (W.runV (As := []) (rest := []) ⟨hx, hb, hml, hown, hts⟩ (c_thrown l dC dI H.size t m0 (.ref ma) (.ref mw) 0 1) (cwV 0 hts (zg_V kw_1365 kw_1366 kw_1367 kw_70 kw_1368) rfl rfl rfl (by decide +kernel) ⟨Nat.le_of_ble_eq_true rfl, Nat.le_of_ble_eq_true rfl⟩) ⟨zA_blind, va_recv hK hP (ci := 7) (q0 := 5) rfl rfl, zA_pre hP hD hS hK hQ hA [5] rfl rfl (by decide) [] rfl⟩ rfl rfl hl.1 rfl (lv_room (Nat.le_of_ble_eq_true rfl)) dL_law_903 ⟨zl_b rfl, zl_b rfl⟩) (fun r hr => ?_)
  subst hr
  refine lv_iload hx hb dL_law_906 (lv_at hl 1 rfl) ?_
  refine lv_icmp_eq (tgt := 913) hx hb dL_law_908 (by decide) (fun c_12 => ?_) (fun c_12 => absurd c_12 (by decide))
  refine lv_iload hx hb dL_law_913 (lv_at hl 1 rfl) ?_
  refine lv_if_ne (tgt := 930) hx hb dL_law_915 (by decide) (fun c_13 => ?_) (fun c_13 => absurd c_13 (by decide))
  refine lv_goto (tgt := 2981) hx hb dL_law_930 (by decide) ?_
  exact law_tail l C0 _ _ (zl_b rfl) (zl_b rfl) _ _ hS ls (lv_sub hl [7, 2] rfl)
set_option maxHeartbeats 4000000 in
set_option maxRecDepth 100000 in
/-- the law on pay -/
theorem law_c9 {p : Program} {e : Env} {s : State} {m : MethodId} {below : List Frame} {meth : Method} {c : Code} {b : Nat} {xs : Nat → Int32} (l : Launch) (hst : l.stackTraces = false) (C0 : lw_At p s m meth c b 5 xs) {dC : Nat → ClassId} {dI : Nat → Nat → Nat} {t x0 xa xw xb m0 ma mw o od : Nat} {k1 k2 k3 : ClassId} (H : Heap) (locs : List Loc) (hK : va_K (dC, dI) zc [(k1, .int), (k2, .int), (k3, .long)] s) (hQ : zQ t (fun q : Nat => s.heap.size ≤ q) s s.heap) (hP : va_P (dC, dI) zc [(x0, .inr (5, [.ref xa, .ref xw, .ref xb, .int 0])), (xa, .inr (0, [.int 0, .ref t, .int 0])), (xw, .inl (k1, 4, .inl (zW))), (m0, .inr (7, [.ref ma, .ref mw, .int 0, .int 0])), (ma, .inr (0, [.int 0, .ref t, .int 0])), (mw, .inl (k2, 4, .inl (zW))), (o, .inl (k3, 1, .inr (.inl (fun _ => 0))))] H) (hD : va_D (fun q : Nat => s.heap.size ≤ q) [(x0, .inr (5, [.ref xa, .ref xw, .ref xb, .int 0])), (xa, .inr (0, [.int 0, .ref t, .int 0])), (xw, .inl (k1, 4, .inl (zW))), (m0, .inr (7, [.ref ma, .ref mw, .int 0, .int 0])), (ma, .inr (0, [.int 0, .ref t, .int 0])), (mw, .inl (k2, 4, .inl (zW))), (o, .inl (k3, 1, .inr (.inl (fun _ => 0))))]) (hS : va_S (fun q : Nat => s.heap.size ≤ q) s.heap H locs) (ls : Array Slot) (hl : lv_has ls 9 [(5, .int 0), (4, .ref od), (3, .ref o), (2, .ref m0), (1, .ref x0), (0, .ref b)]) : W p l e room_1 s m #[Value.ref b] below meth c H locs 26 125 (lw_Z below #[Value.ref b] s) (F0 m 933 ls []) := by
  obtain ⟨hx, hb, hr, hml, hown, hts0, hX, hbl, hlocks, hgv⟩ := id C0
  have hts : ∀ w ∈ zG, w.before #[Value.ref b] s = true := fun w h => hts0 w (zg_tbl h)
  have hA : ∀ q : Nat, s.heap.size ≤ q → (fun q : Nat => s.heap.size ≤ q) q := fun _ h => h
  have hbA : ¬ (fun q : Nat => s.heap.size ≤ q) b := Nat.not_le.mpr hbl
  refine lv_aload_n hx hb dL_law_933 rfl (lv_at hl 4 rfl) ?_
  refine lv_aload_n hx hb dL_law_934 rfl (lv_at hl 5 rfl) ?_
  refine lv_iload hx hb dL_law_935 (lv_at hl 0 rfl) ?_
  refine lv_iconst (v := 1) hx hb dL_law_937 (by decide) ?_
  refine lv_iadd hx hb dL_law_938 ?_
  refine va_sld hx hb hX hbl hbA hS (by unfold vp_in; decide) dL_law_939 ?_
  refine lv_topi (fun v_1 e_v_1 => ?_)
  refine lv_aload_n hx hb dL_law_940 rfl (lv_at hl 5 rfl) ?_
  refine lv_iload hx hb dL_law_941 (lv_at hl 0 rfl) ?_
  refine lv_iconst (v := 2) hx hb dL_law_943 (by decide) ?_
  refine lv_iadd hx hb dL_law_944 ?_
  refine va_sld hx hb hX hbl hbA hS (by unfold vp_in; decide) dL_law_945 ?_
  refine lv_topi (fun v_2 e_v_2 => ?_)
  refine lv_aload_n hx hb dL_law_946 rfl (lv_at hl 2 rfl) ?_
  refine vx_calli (vx_runSX (As := [.ref x0, .int v_1, .int v_2, .ref o]) (rest := []) ⟨hx, hb, hml, hown, hts⟩ (lx_pay l hst dC dI H.size t x0 xa o (.ref xw) (.ref xb) 0 (.ref t) v_1 v_2) (vx_cwSW 4 hts (zg_S kw_1064 kw_1065 kw_63 kw_1066) rfl rfl rfl (by decide +kernel) ⟨Nat.le_of_ble_eq_true rfl, Nat.le_of_ble_eq_true rfl⟩) ⟨zA_blind, zA_pre hP hD hS hK hQ hA [0, 1] rfl rfl (by decide) [] rfl⟩ rfl rfl hl.1 rfl (lv_room (Nat.le_of_ble_eq_true rfl)) dL_law_947 ⟨zl_b rfl, zl_b rfl⟩) hS (fun q _ h => hA q (Nat.le_trans (hS.1) h)) (fun q h => hA q (Nat.le_trans (hS.1) h)) (fun q _ h => h.elim) (fun E ce q9 u t9 H1 locs1 ht hvm hp9 hE hz1 hk1 hS1 hc1 hv1 hcl1 => hp9.elim) (fun r_3 u t9 H1 locs ht hvm hw hB hz1 hk1 hS => ?_)
  have hw : r_3 = 1 := hw
  subst hw
  have hP := zP_new hP hk1
  generalize H1 = H at hP hS ⊢
  have hP : va_P (dC, dI) zc [(x0, .inr (5, [.ref xa, .ref xw, .ref xb, .int 0])), (xa, .inr (0, [.int 0, .ref t, .int 0])), (xw, .inl (k1, 4, .inl (zW))), (m0, .inr (7, [.ref ma, .ref mw, .int 0, .int 0])), (ma, .inr (0, [.int 0, .ref t, .int 0])), (mw, .inl (k2, 4, .inl (zW))), (o, .inl (k3, 1, .inr (.inl (fun _ => 0))))] H := hP
  have hD : va_D (fun q : Nat => s.heap.size ≤ q) [(x0, .inr (5, [.ref xa, .ref xw, .ref xb, .int 0])), (xa, .inr (0, [.int 0, .ref t, .int 0])), (xw, .inl (k1, 4, .inl (zW))), (m0, .inr (7, [.ref ma, .ref mw, .int 0, .int 0])), (ma, .inr (0, [.int 0, .ref t, .int 0])), (mw, .inl (k2, 4, .inl (zW))), (o, .inl (k3, 1, .inr (.inl (fun _ => 0))))] := hD
  refine W.widen (k := 27) (n := 131) (zl_b rfl) (zl_b rfl) ?_
  refine lv_istore (lv' := [(6, .int 1), (5, .int 0), (4, .ref od), (3, .ref o), (2, .ref m0), (1, .ref x0), (0, .ref b)]) hx hb dL_law_950 hl (by decide) rfl (fun ls hl => ?_)
  refine lv_aload_n hx hb dL_law_952 rfl (lv_at hl 4 rfl) ?_
  refine lv_aload_n hx hb dL_law_953 rfl (lv_at hl 6 rfl) ?_
  refine lv_iload hx hb dL_law_954 (lv_at hl 1 rfl) ?_
  refine lv_iconst (v := 1) hx hb dL_law_956 (by decide) ?_
  refine lv_iadd hx hb dL_law_957 ?_
  refine va_sld hx hb hX hbl hbA hS (by unfold vp_in; decide) dL_law_958 ?_
  refine lv_topi (fun v_4 e_v_4 => ?_)
  have s_5 : v_1 = v_4 := by rw [e_v_1, e_v_4]
  subst s_5
  refine lv_aload_n hx hb dL_law_959 rfl (lv_at hl 6 rfl) ?_
  refine lv_iload hx hb dL_law_960 (lv_at hl 1 rfl) ?_
  refine lv_iconst (v := 2) hx hb dL_law_962 (by decide) ?_
  refine lv_iadd hx hb dL_law_963 ?_
  refine va_sld hx hb hX hbl hbA hS (by unfold vp_in; decide) dL_law_964 ?_
  refine lv_topi (fun v_6 e_v_6 => ?_)
  have s_7 : v_2 = v_6 := by rw [e_v_2, e_v_6]
  subst s_7
  have hFc := va_free (wc := [(m0, .inr (7, [.ref ma, .ref mw, .int 0, .int 0])), (ma, .inr (0, [.int 0, .ref t, .int 0]))]) hD hS hA [3, 4] rfl
  refine va_calli (va_runV (As := [.int v_1, .int v_2]) (rest := []) ⟨hx, hb, hml, hown, hts⟩ (m_pay l dC dI H.size t m0 ma (.ref mw) 0 0 (.ref t) v_1 v_2) (cwV 2 hts (zg_V kw_1794 kw_1795 kw_1796 kw_70 kw_1797) rfl rfl rfl (by decide +kernel) ⟨Nat.le_of_ble_eq_true rfl, Nat.le_of_ble_eq_true rfl⟩) ⟨zA_blind, va_recv hK hP (ci := 7) (q0 := 3) rfl rfl, zA_pre hP hD hS hK hQ hA [3, 4] rfl rfl (by decide) [] rfl⟩ rfl rfl hl.1 rfl (lv_room (Nat.le_of_ble_eq_true rfl)) dL_law_965 ⟨zl_b rfl, zl_b rfl⟩) hS (fun q _ h => hFc q h) hFc (fun r_8 u t9 H1 locs ht hvm hw hB hz1 hk1 hS => ?_)
  obtain ⟨hP1, hK1, hD1⟩ := hB
  rw [ht] at hP1
  have hK1 := va_K.moved hvm.symm hK1
  obtain ⟨hP, hD⟩ := va_join (wr := [(x0, .inr (5, [.ref xa, .ref xw, .ref xb, .int 0])), (xa, .inr (0, [.int 0, .ref t, .int 0])), (xw, .inl (k1, 4, .inl (zW))), (mw, .inl (k2, 4, .inl (zW))), (o, .inl (k3, 1, .inr (.inl (fun _ => 0))))]) (w1 := [(m0, .inr (7, [.ref ma, .ref mw, .int 0, .int 1])), (ma, .inr (0, [.int 0, .ref t, .int 0]))]) hP hD [3, 4] [0, 1, 2, 5, 6] rfl rfl (by decide) (by decide) hk1 hFc hP1 hD1
  have hK := (hK.sub (tys' := [(k1, .int), (k2, .int), (k3, .long)]) [0, 1, 2] rfl).app hK1
  generalize H1 = H at hP hS ⊢
  have hP : va_P (dC, dI) zc [(x0, .inr (5, [.ref xa, .ref xw, .ref xb, .int 0])), (xa, .inr (0, [.int 0, .ref t, .int 0])), (xw, .inl (k1, 4, .inl (zW))), (mw, .inl (k2, 4, .inl (zW))), (o, .inl (k3, 1, .inr (.inl (fun _ => 0)))), (m0, .inr (7, [.ref ma, .ref mw, .int 0, .int 1])), (ma, .inr (0, [.int 0, .ref t, .int 0]))] H := hP
  have hD : va_D (fun q : Nat => s.heap.size ≤ q) [(x0, .inr (5, [.ref xa, .ref xw, .ref xb, .int 0])), (xa, .inr (0, [.int 0, .ref t, .int 0])), (xw, .inl (k1, 4, .inl (zW))), (mw, .inl (k2, 4, .inl (zW))), (o, .inl (k3, 1, .inr (.inl (fun _ => 0)))), (m0, .inr (7, [.ref ma, .ref mw, .int 0, .int 1])), (ma, .inr (0, [.int 0, .ref t, .int 0]))] := hD
  have hK : va_K (dC, dI) zc [(k1, .int), (k2, .int), (k3, .long)] s := hK
  refine lv_istore (lv' := [(7, .int r_8), (6, .int 1), (5, .int 0), (4, .ref od), (3, .ref o), (2, .ref m0), (1, .ref x0), (0, .ref b)]) hx hb dL_law_968 hl (by decide) rfl (fun ls hl => ?_)
  refine lv_aload_n hx hb dL_law_970 rfl (lv_at hl 5 rfl) ?_
  refine vp_callSi (W.runV (As := []) (rest := []) ⟨hx, hb, hml, hown, hts⟩ (c_thrown l dC dI H.size t m0 (.ref ma) (.ref mw) 0 1) (cwV 0 hts (zg_V kw_1365 kw_1366 kw_1367 kw_70 kw_1368) rfl rfl rfl (by decide +kernel) ⟨Nat.le_of_ble_eq_true rfl, Nat.le_of_ble_eq_true rfl⟩) ⟨zA_blind, va_recv hK hP (ci := 7) (q0 := 5) rfl rfl, zA_pre hP hD hS hK hQ hA [5] rfl rfl (by decide) [] rfl⟩ rfl rfl hl.1 rfl (lv_room (Nat.le_of_ble_eq_true rfl)) dL_law_971 ⟨zl_b rfl, zl_b rfl⟩) (fun r hr => ?_)
  subst hr
  refine lv_iload hx hb dL_law_974 (lv_at hl 1 rfl) ?_
  refine lv_icmp_eq (tgt := 981) hx hb dL_law_976 (by decide) (fun c_9 => ?_) (fun c_9 => absurd c_9 (by decide))
  refine lv_iload hx hb dL_law_981 (lv_at hl 1 rfl) ?_
  refine lv_if_ne (tgt := 998) hx hb dL_law_983 (by decide) (fun c_10 => ?_) (fun c_10 => absurd c_10 (by decide))
  refine lv_goto (tgt := 2981) hx hb dL_law_998 (by decide) ?_
  exact law_tail l C0 _ _ (zl_b rfl) (zl_b rfl) _ _ hS ls (lv_sub hl [7, 2] rfl)
set_option maxHeartbeats 4000000 in
set_option maxRecDepth 100000 in
/-- the law on returns -/
theorem law_c10 {p : Program} {e : Env} {s : State} {m : MethodId} {below : List Frame} {meth : Method} {c : Code} {b : Nat} {xs : Nat → Int32} (l : Launch) (hst : l.stackTraces = false) (C0 : lw_At p s m meth c b 5 xs) {dC : Nat → ClassId} {dI : Nat → Nat → Nat} {t x0 xa xw xb m0 ma mw o od : Nat} {k1 k2 k3 : ClassId} (H : Heap) (locs : List Loc) (hK : va_K (dC, dI) zc [(k1, .int), (k2, .int), (k3, .long)] s) (hQ : zQ t (fun q : Nat => s.heap.size ≤ q) s s.heap) (hP : va_P (dC, dI) zc [(x0, .inr (5, [.ref xa, .ref xw, .ref xb, .int 0])), (xa, .inr (0, [.int 0, .ref t, .int 0])), (xw, .inl (k1, 4, .inl (zW))), (m0, .inr (7, [.ref ma, .ref mw, .int 0, .int 0])), (ma, .inr (0, [.int 0, .ref t, .int 0])), (mw, .inl (k2, 4, .inl (zW))), (o, .inl (k3, 1, .inr (.inl (fun _ => 0))))] H) (hD : va_D (fun q : Nat => s.heap.size ≤ q) [(x0, .inr (5, [.ref xa, .ref xw, .ref xb, .int 0])), (xa, .inr (0, [.int 0, .ref t, .int 0])), (xw, .inl (k1, 4, .inl (zW))), (m0, .inr (7, [.ref ma, .ref mw, .int 0, .int 0])), (ma, .inr (0, [.int 0, .ref t, .int 0])), (mw, .inl (k2, 4, .inl (zW))), (o, .inl (k3, 1, .inr (.inl (fun _ => 0))))]) (hS : va_S (fun q : Nat => s.heap.size ≤ q) s.heap H locs) (ls : Array Slot) (hl : lv_has ls 9 [(5, .int 0), (4, .ref od), (3, .ref o), (2, .ref m0), (1, .ref x0), (0, .ref b)]) : W p l e room_1 s m #[Value.ref b] below meth c H locs 26 125 (lw_Z below #[Value.ref b] s) (F0 m 1001 ls []) := by
  obtain ⟨hx, hb, hr, hml, hown, hts0, hX, hbl, hlocks, hgv⟩ := id C0
  have hts : ∀ w ∈ zG, w.before #[Value.ref b] s = true := fun w h => hts0 w (zg_tbl h)
  have hA : ∀ q : Nat, s.heap.size ≤ q → (fun q : Nat => s.heap.size ≤ q) q := fun _ h => h
  have hbA : ¬ (fun q : Nat => s.heap.size ≤ q) b := Nat.not_le.mpr hbl
  refine lv_aload_n hx hb dL_law_1001 rfl (lv_at hl 4 rfl) ?_
  refine lv_aload_n hx hb dL_law_1002 rfl (lv_at hl 5 rfl) ?_
  refine lv_iload hx hb dL_law_1003 (lv_at hl 0 rfl) ?_
  refine lv_iconst (v := 1) hx hb dL_law_1005 (by decide) ?_
  refine lv_iadd hx hb dL_law_1006 ?_
  refine va_sld hx hb hX hbl hbA hS (by unfold vp_in; decide) dL_law_1007 ?_
  refine lv_topi (fun v_1 e_v_1 => ?_)
  refine lv_aload_n hx hb dL_law_1008 rfl (lv_at hl 5 rfl) ?_
  refine lv_iload hx hb dL_law_1009 (lv_at hl 0 rfl) ?_
  refine lv_iconst (v := 2) hx hb dL_law_1011 (by decide) ?_
  refine lv_iadd hx hb dL_law_1012 ?_
  refine va_sld hx hb hX hbl hbA hS (by unfold vp_in; decide) dL_law_1013 ?_
  refine lv_topi (fun v_2 e_v_2 => ?_)
  refine lv_aload_n hx hb dL_law_1014 rfl (lv_at hl 2 rfl) ?_
  refine vx_calli (vx_runSX (As := [.ref x0, .int v_1, .int v_2, .ref o]) (rest := []) ⟨hx, hb, hml, hown, hts⟩ (lx_returns l hst dC dI H.size t x0 xa o (.ref xw) (.ref xb) 0 (.ref t) v_1 v_2) (vx_cwSW 4 hts (zg_S kw_1071 kw_1072 kw_63 kw_1073) rfl rfl rfl (by decide +kernel) ⟨Nat.le_of_ble_eq_true rfl, Nat.le_of_ble_eq_true rfl⟩) ⟨zA_blind, zA_pre hP hD hS hK hQ hA [0, 1] rfl rfl (by decide) [] rfl⟩ rfl rfl hl.1 rfl (lv_room (Nat.le_of_ble_eq_true rfl)) dL_law_1015 ⟨zl_b rfl, zl_b rfl⟩) hS (fun q _ h => hA q (Nat.le_trans (hS.1) h)) (fun q h => hA q (Nat.le_trans (hS.1) h)) (fun q _ h => h.elim) (fun E ce q9 u t9 H1 locs1 ht hvm hp9 hE hz1 hk1 hS1 hc1 hv1 hcl1 => hp9.elim) (fun r_3 u t9 H1 locs ht hvm hw hB hz1 hk1 hS => ?_)
  have hw : r_3 = 1 := hw
  subst hw
  have hP := zP_new hP hk1
  generalize H1 = H at hP hS ⊢
  have hP : va_P (dC, dI) zc [(x0, .inr (5, [.ref xa, .ref xw, .ref xb, .int 0])), (xa, .inr (0, [.int 0, .ref t, .int 0])), (xw, .inl (k1, 4, .inl (zW))), (m0, .inr (7, [.ref ma, .ref mw, .int 0, .int 0])), (ma, .inr (0, [.int 0, .ref t, .int 0])), (mw, .inl (k2, 4, .inl (zW))), (o, .inl (k3, 1, .inr (.inl (fun _ => 0))))] H := hP
  have hD : va_D (fun q : Nat => s.heap.size ≤ q) [(x0, .inr (5, [.ref xa, .ref xw, .ref xb, .int 0])), (xa, .inr (0, [.int 0, .ref t, .int 0])), (xw, .inl (k1, 4, .inl (zW))), (m0, .inr (7, [.ref ma, .ref mw, .int 0, .int 0])), (ma, .inr (0, [.int 0, .ref t, .int 0])), (mw, .inl (k2, 4, .inl (zW))), (o, .inl (k3, 1, .inr (.inl (fun _ => 0))))] := hD
  refine W.widen (k := 27) (n := 131) (zl_b rfl) (zl_b rfl) ?_
  refine lv_istore (lv' := [(6, .int 1), (5, .int 0), (4, .ref od), (3, .ref o), (2, .ref m0), (1, .ref x0), (0, .ref b)]) hx hb dL_law_1018 hl (by decide) rfl (fun ls hl => ?_)
  refine lv_aload_n hx hb dL_law_1020 rfl (lv_at hl 4 rfl) ?_
  refine lv_aload_n hx hb dL_law_1021 rfl (lv_at hl 6 rfl) ?_
  refine lv_iload hx hb dL_law_1022 (lv_at hl 1 rfl) ?_
  refine lv_iconst (v := 1) hx hb dL_law_1024 (by decide) ?_
  refine lv_iadd hx hb dL_law_1025 ?_
  refine va_sld hx hb hX hbl hbA hS (by unfold vp_in; decide) dL_law_1026 ?_
  refine lv_topi (fun v_4 e_v_4 => ?_)
  have s_5 : v_1 = v_4 := by rw [e_v_1, e_v_4]
  subst s_5
  refine lv_aload_n hx hb dL_law_1027 rfl (lv_at hl 6 rfl) ?_
  refine lv_iload hx hb dL_law_1028 (lv_at hl 1 rfl) ?_
  refine lv_iconst (v := 2) hx hb dL_law_1030 (by decide) ?_
  refine lv_iadd hx hb dL_law_1031 ?_
  refine va_sld hx hb hX hbl hbA hS (by unfold vp_in; decide) dL_law_1032 ?_
  refine lv_topi (fun v_6 e_v_6 => ?_)
  have s_7 : v_2 = v_6 := by rw [e_v_2, e_v_6]
  subst s_7
  have hFc := va_free (wc := [(m0, .inr (7, [.ref ma, .ref mw, .int 0, .int 0])), (ma, .inr (0, [.int 0, .ref t, .int 0]))]) hD hS hA [3, 4] rfl
  refine va_calli (va_runV (As := [.int v_1, .int v_2]) (rest := []) ⟨hx, hb, hml, hown, hts⟩ (m_returns l dC dI H.size t m0 ma (.ref mw) 0 0 (.ref t) v_1 v_2) (cwV 2 hts (zg_V kw_1798 kw_1799 kw_1800 kw_70 kw_1801) rfl rfl rfl (by decide +kernel) ⟨Nat.le_of_ble_eq_true rfl, Nat.le_of_ble_eq_true rfl⟩) ⟨zA_blind, va_recv hK hP (ci := 7) (q0 := 3) rfl rfl, zA_pre hP hD hS hK hQ hA [3, 4] rfl rfl (by decide) [] rfl⟩ rfl rfl hl.1 rfl (lv_room (Nat.le_of_ble_eq_true rfl)) dL_law_1033 ⟨zl_b rfl, zl_b rfl⟩) hS (fun q _ h => hFc q h) hFc (fun r_8 u t9 H1 locs ht hvm hw hB hz1 hk1 hS => ?_)
  obtain ⟨hP1, hK1, hD1⟩ := hB
  rw [ht] at hP1
  have hK1 := va_K.moved hvm.symm hK1
  obtain ⟨hP, hD⟩ := va_join (wr := [(x0, .inr (5, [.ref xa, .ref xw, .ref xb, .int 0])), (xa, .inr (0, [.int 0, .ref t, .int 0])), (xw, .inl (k1, 4, .inl (zW))), (mw, .inl (k2, 4, .inl (zW))), (o, .inl (k3, 1, .inr (.inl (fun _ => 0))))]) (w1 := [(m0, .inr (7, [.ref ma, .ref mw, .int 0, .int 1])), (ma, .inr (0, [.int 0, .ref t, .int 0]))]) hP hD [3, 4] [0, 1, 2, 5, 6] rfl rfl (by decide) (by decide) hk1 hFc hP1 hD1
  have hK := (hK.sub (tys' := [(k1, .int), (k2, .int), (k3, .long)]) [0, 1, 2] rfl).app hK1
  generalize H1 = H at hP hS ⊢
  have hP : va_P (dC, dI) zc [(x0, .inr (5, [.ref xa, .ref xw, .ref xb, .int 0])), (xa, .inr (0, [.int 0, .ref t, .int 0])), (xw, .inl (k1, 4, .inl (zW))), (mw, .inl (k2, 4, .inl (zW))), (o, .inl (k3, 1, .inr (.inl (fun _ => 0)))), (m0, .inr (7, [.ref ma, .ref mw, .int 0, .int 1])), (ma, .inr (0, [.int 0, .ref t, .int 0]))] H := hP
  have hD : va_D (fun q : Nat => s.heap.size ≤ q) [(x0, .inr (5, [.ref xa, .ref xw, .ref xb, .int 0])), (xa, .inr (0, [.int 0, .ref t, .int 0])), (xw, .inl (k1, 4, .inl (zW))), (mw, .inl (k2, 4, .inl (zW))), (o, .inl (k3, 1, .inr (.inl (fun _ => 0)))), (m0, .inr (7, [.ref ma, .ref mw, .int 0, .int 1])), (ma, .inr (0, [.int 0, .ref t, .int 0]))] := hD
  have hK : va_K (dC, dI) zc [(k1, .int), (k2, .int), (k3, .long)] s := hK
  refine lv_istore (lv' := [(7, .int r_8), (6, .int 1), (5, .int 0), (4, .ref od), (3, .ref o), (2, .ref m0), (1, .ref x0), (0, .ref b)]) hx hb dL_law_1036 hl (by decide) rfl (fun ls hl => ?_)
  refine lv_aload_n hx hb dL_law_1038 rfl (lv_at hl 5 rfl) ?_
  refine vp_callSi (W.runV (As := []) (rest := []) ⟨hx, hb, hml, hown, hts⟩ (c_thrown l dC dI H.size t m0 (.ref ma) (.ref mw) 0 1) (cwV 0 hts (zg_V kw_1365 kw_1366 kw_1367 kw_70 kw_1368) rfl rfl rfl (by decide +kernel) ⟨Nat.le_of_ble_eq_true rfl, Nat.le_of_ble_eq_true rfl⟩) ⟨zA_blind, va_recv hK hP (ci := 7) (q0 := 5) rfl rfl, zA_pre hP hD hS hK hQ hA [5] rfl rfl (by decide) [] rfl⟩ rfl rfl hl.1 rfl (lv_room (Nat.le_of_ble_eq_true rfl)) dL_law_1039 ⟨zl_b rfl, zl_b rfl⟩) (fun r hr => ?_)
  subst hr
  refine lv_iload hx hb dL_law_1042 (lv_at hl 1 rfl) ?_
  refine lv_icmp_eq (tgt := 1049) hx hb dL_law_1044 (by decide) (fun c_9 => ?_) (fun c_9 => absurd c_9 (by decide))
  refine lv_iload hx hb dL_law_1049 (lv_at hl 1 rfl) ?_
  refine lv_if_ne (tgt := 1066) hx hb dL_law_1051 (by decide) (fun c_10 => ?_) (fun c_10 => absurd c_10 (by decide))
  refine lv_goto (tgt := 2981) hx hb dL_law_1066 (by decide) ?_
  exact law_tail l C0 _ _ (zl_b rfl) (zl_b rfl) _ _ hS ls (lv_sub hl [7, 2] rfl)
set_option maxHeartbeats 4000000 in
set_option maxRecDepth 100000 in
/-- the law on dispute -/
theorem law_c11 {p : Program} {e : Env} {s : State} {m : MethodId} {below : List Frame} {meth : Method} {c : Code} {b : Nat} {xs : Nat → Int32} (l : Launch) (hst : l.stackTraces = false) (C0 : lw_At p s m meth c b 5 xs) {dC : Nat → ClassId} {dI : Nat → Nat → Nat} {t x0 xa xw xb m0 ma mw o od : Nat} {k1 k2 k3 : ClassId} (H : Heap) (locs : List Loc) (hK : va_K (dC, dI) zc [(k1, .int), (k2, .int), (k3, .long)] s) (hQ : zQ t (fun q : Nat => s.heap.size ≤ q) s s.heap) (hP : va_P (dC, dI) zc [(x0, .inr (5, [.ref xa, .ref xw, .ref xb, .int 0])), (xa, .inr (0, [.int 0, .ref t, .int 0])), (xw, .inl (k1, 4, .inl (zW))), (m0, .inr (7, [.ref ma, .ref mw, .int 0, .int 0])), (ma, .inr (0, [.int 0, .ref t, .int 0])), (mw, .inl (k2, 4, .inl (zW))), (o, .inl (k3, 1, .inr (.inl (fun _ => 0))))] H) (hD : va_D (fun q : Nat => s.heap.size ≤ q) [(x0, .inr (5, [.ref xa, .ref xw, .ref xb, .int 0])), (xa, .inr (0, [.int 0, .ref t, .int 0])), (xw, .inl (k1, 4, .inl (zW))), (m0, .inr (7, [.ref ma, .ref mw, .int 0, .int 0])), (ma, .inr (0, [.int 0, .ref t, .int 0])), (mw, .inl (k2, 4, .inl (zW))), (o, .inl (k3, 1, .inr (.inl (fun _ => 0))))]) (hS : va_S (fun q : Nat => s.heap.size ≤ q) s.heap H locs) (ls : Array Slot) (hl : lv_has ls 9 [(5, .int 0), (4, .ref od), (3, .ref o), (2, .ref m0), (1, .ref x0), (0, .ref b)]) : W p l e room_1 s m #[Value.ref b] below meth c H locs 26 125 (lw_Z below #[Value.ref b] s) (F0 m 1069 ls []) := by
  obtain ⟨hx, hb, hr, hml, hown, hts0, hX, hbl, hlocks, hgv⟩ := id C0
  have hts : ∀ w ∈ zG, w.before #[Value.ref b] s = true := fun w h => hts0 w (zg_tbl h)
  have hA : ∀ q : Nat, s.heap.size ≤ q → (fun q : Nat => s.heap.size ≤ q) q := fun _ h => h
  have hbA : ¬ (fun q : Nat => s.heap.size ≤ q) b := Nat.not_le.mpr hbl
  refine lv_aload_n hx hb dL_law_1069 rfl (lv_at hl 4 rfl) ?_
  refine lv_aload_n hx hb dL_law_1070 rfl (lv_at hl 5 rfl) ?_
  refine lv_iload hx hb dL_law_1071 (lv_at hl 0 rfl) ?_
  refine lv_iconst (v := 1) hx hb dL_law_1073 (by decide) ?_
  refine lv_iadd hx hb dL_law_1074 ?_
  refine va_sld hx hb hX hbl hbA hS (by unfold vp_in; decide) dL_law_1075 ?_
  refine lv_topi (fun v_1 e_v_1 => ?_)
  refine lv_aload_n hx hb dL_law_1076 rfl (lv_at hl 5 rfl) ?_
  refine lv_iload hx hb dL_law_1077 (lv_at hl 0 rfl) ?_
  refine lv_iconst (v := 2) hx hb dL_law_1079 (by decide) ?_
  refine lv_iadd hx hb dL_law_1080 ?_
  refine va_sld hx hb hX hbl hbA hS (by unfold vp_in; decide) dL_law_1081 ?_
  refine lv_topi (fun v_2 e_v_2 => ?_)
  refine lv_aload_n hx hb dL_law_1082 rfl (lv_at hl 2 rfl) ?_
  refine vx_calli (vx_runSX (As := [.ref x0, .int v_1, .int v_2, .ref o]) (rest := []) ⟨hx, hb, hml, hown, hts⟩ (lx_dispute l hst dC dI H.size t x0 xa o (.ref xw) (.ref xb) 0 (.ref t) v_1 v_2) (vx_cwSW 4 hts (zg_S kw_1085 kw_1086 kw_63 kw_1087) rfl rfl rfl (by decide +kernel) ⟨Nat.le_of_ble_eq_true rfl, Nat.le_of_ble_eq_true rfl⟩) ⟨zA_blind, zA_pre hP hD hS hK hQ hA [0, 1] rfl rfl (by decide) [] rfl⟩ rfl rfl hl.1 rfl (lv_room (Nat.le_of_ble_eq_true rfl)) dL_law_1083 ⟨zl_b rfl, zl_b rfl⟩) hS (fun q _ h => hA q (Nat.le_trans (hS.1) h)) (fun q h => hA q (Nat.le_trans (hS.1) h)) (fun q _ h => h.elim) (fun E ce q9 u t9 H1 locs1 ht hvm hp9 hE hz1 hk1 hS1 hc1 hv1 hcl1 => hp9.elim) (fun r_3 u t9 H1 locs ht hvm hw hB hz1 hk1 hS => ?_)
  have hw : r_3 = 1 := hw
  subst hw
  have hP := zP_new hP hk1
  generalize H1 = H at hP hS ⊢
  have hP : va_P (dC, dI) zc [(x0, .inr (5, [.ref xa, .ref xw, .ref xb, .int 0])), (xa, .inr (0, [.int 0, .ref t, .int 0])), (xw, .inl (k1, 4, .inl (zW))), (m0, .inr (7, [.ref ma, .ref mw, .int 0, .int 0])), (ma, .inr (0, [.int 0, .ref t, .int 0])), (mw, .inl (k2, 4, .inl (zW))), (o, .inl (k3, 1, .inr (.inl (fun _ => 0))))] H := hP
  have hD : va_D (fun q : Nat => s.heap.size ≤ q) [(x0, .inr (5, [.ref xa, .ref xw, .ref xb, .int 0])), (xa, .inr (0, [.int 0, .ref t, .int 0])), (xw, .inl (k1, 4, .inl (zW))), (m0, .inr (7, [.ref ma, .ref mw, .int 0, .int 0])), (ma, .inr (0, [.int 0, .ref t, .int 0])), (mw, .inl (k2, 4, .inl (zW))), (o, .inl (k3, 1, .inr (.inl (fun _ => 0))))] := hD
  refine W.widen (k := 27) (n := 131) (zl_b rfl) (zl_b rfl) ?_
  refine lv_istore (lv' := [(6, .int 1), (5, .int 0), (4, .ref od), (3, .ref o), (2, .ref m0), (1, .ref x0), (0, .ref b)]) hx hb dL_law_1086 hl (by decide) rfl (fun ls hl => ?_)
  refine lv_aload_n hx hb dL_law_1088 rfl (lv_at hl 4 rfl) ?_
  refine lv_aload_n hx hb dL_law_1089 rfl (lv_at hl 6 rfl) ?_
  refine lv_iload hx hb dL_law_1090 (lv_at hl 1 rfl) ?_
  refine lv_iconst (v := 1) hx hb dL_law_1092 (by decide) ?_
  refine lv_iadd hx hb dL_law_1093 ?_
  refine va_sld hx hb hX hbl hbA hS (by unfold vp_in; decide) dL_law_1094 ?_
  refine lv_topi (fun v_4 e_v_4 => ?_)
  have s_5 : v_1 = v_4 := by rw [e_v_1, e_v_4]
  subst s_5
  refine lv_aload_n hx hb dL_law_1095 rfl (lv_at hl 6 rfl) ?_
  refine lv_iload hx hb dL_law_1096 (lv_at hl 1 rfl) ?_
  refine lv_iconst (v := 2) hx hb dL_law_1098 (by decide) ?_
  refine lv_iadd hx hb dL_law_1099 ?_
  refine va_sld hx hb hX hbl hbA hS (by unfold vp_in; decide) dL_law_1100 ?_
  refine lv_topi (fun v_6 e_v_6 => ?_)
  have s_7 : v_2 = v_6 := by rw [e_v_2, e_v_6]
  subst s_7
  have hFc := va_free (wc := [(m0, .inr (7, [.ref ma, .ref mw, .int 0, .int 0])), (ma, .inr (0, [.int 0, .ref t, .int 0]))]) hD hS hA [3, 4] rfl
  refine va_calli (va_runV (As := [.int v_1, .int v_2]) (rest := []) ⟨hx, hb, hml, hown, hts⟩ (m_dispute l dC dI H.size t m0 ma (.ref mw) 0 0 (.ref t) v_1 v_2) (cwV 2 hts (zg_V kw_1810 kw_1811 kw_1812 kw_70 kw_1813) rfl rfl rfl (by decide +kernel) ⟨Nat.le_of_ble_eq_true rfl, Nat.le_of_ble_eq_true rfl⟩) ⟨zA_blind, va_recv hK hP (ci := 7) (q0 := 3) rfl rfl, zA_pre hP hD hS hK hQ hA [3, 4] rfl rfl (by decide) [] rfl⟩ rfl rfl hl.1 rfl (lv_room (Nat.le_of_ble_eq_true rfl)) dL_law_1101 ⟨zl_b rfl, zl_b rfl⟩) hS (fun q _ h => hFc q h) hFc (fun r_8 u t9 H1 locs ht hvm hw hB hz1 hk1 hS => ?_)
  obtain ⟨hP1, hK1, hD1⟩ := hB
  rw [ht] at hP1
  have hK1 := va_K.moved hvm.symm hK1
  obtain ⟨hP, hD⟩ := va_join (wr := [(x0, .inr (5, [.ref xa, .ref xw, .ref xb, .int 0])), (xa, .inr (0, [.int 0, .ref t, .int 0])), (xw, .inl (k1, 4, .inl (zW))), (mw, .inl (k2, 4, .inl (zW))), (o, .inl (k3, 1, .inr (.inl (fun _ => 0))))]) (w1 := [(m0, .inr (7, [.ref ma, .ref mw, .int 0, .int 1])), (ma, .inr (0, [.int 0, .ref t, .int 0]))]) hP hD [3, 4] [0, 1, 2, 5, 6] rfl rfl (by decide) (by decide) hk1 hFc hP1 hD1
  have hK := (hK.sub (tys' := [(k1, .int), (k2, .int), (k3, .long)]) [0, 1, 2] rfl).app hK1
  generalize H1 = H at hP hS ⊢
  have hP : va_P (dC, dI) zc [(x0, .inr (5, [.ref xa, .ref xw, .ref xb, .int 0])), (xa, .inr (0, [.int 0, .ref t, .int 0])), (xw, .inl (k1, 4, .inl (zW))), (mw, .inl (k2, 4, .inl (zW))), (o, .inl (k3, 1, .inr (.inl (fun _ => 0)))), (m0, .inr (7, [.ref ma, .ref mw, .int 0, .int 1])), (ma, .inr (0, [.int 0, .ref t, .int 0]))] H := hP
  have hD : va_D (fun q : Nat => s.heap.size ≤ q) [(x0, .inr (5, [.ref xa, .ref xw, .ref xb, .int 0])), (xa, .inr (0, [.int 0, .ref t, .int 0])), (xw, .inl (k1, 4, .inl (zW))), (mw, .inl (k2, 4, .inl (zW))), (o, .inl (k3, 1, .inr (.inl (fun _ => 0)))), (m0, .inr (7, [.ref ma, .ref mw, .int 0, .int 1])), (ma, .inr (0, [.int 0, .ref t, .int 0]))] := hD
  have hK : va_K (dC, dI) zc [(k1, .int), (k2, .int), (k3, .long)] s := hK
  refine lv_istore (lv' := [(7, .int r_8), (6, .int 1), (5, .int 0), (4, .ref od), (3, .ref o), (2, .ref m0), (1, .ref x0), (0, .ref b)]) hx hb dL_law_1104 hl (by decide) rfl (fun ls hl => ?_)
  refine lv_aload_n hx hb dL_law_1106 rfl (lv_at hl 5 rfl) ?_
  refine vp_callSi (W.runV (As := []) (rest := []) ⟨hx, hb, hml, hown, hts⟩ (c_thrown l dC dI H.size t m0 (.ref ma) (.ref mw) 0 1) (cwV 0 hts (zg_V kw_1365 kw_1366 kw_1367 kw_70 kw_1368) rfl rfl rfl (by decide +kernel) ⟨Nat.le_of_ble_eq_true rfl, Nat.le_of_ble_eq_true rfl⟩) ⟨zA_blind, va_recv hK hP (ci := 7) (q0 := 5) rfl rfl, zA_pre hP hD hS hK hQ hA [5] rfl rfl (by decide) [] rfl⟩ rfl rfl hl.1 rfl (lv_room (Nat.le_of_ble_eq_true rfl)) dL_law_1107 ⟨zl_b rfl, zl_b rfl⟩) (fun r hr => ?_)
  subst hr
  refine lv_iload hx hb dL_law_1110 (lv_at hl 1 rfl) ?_
  refine lv_icmp_eq (tgt := 1117) hx hb dL_law_1112 (by decide) (fun c_9 => ?_) (fun c_9 => absurd c_9 (by decide))
  refine lv_iload hx hb dL_law_1117 (lv_at hl 1 rfl) ?_
  refine lv_if_ne (tgt := 1134) hx hb dL_law_1119 (by decide) (fun c_10 => ?_) (fun c_10 => absurd c_10 (by decide))
  refine lv_goto (tgt := 2981) hx hb dL_law_1134 (by decide) ?_
  exact law_tail l C0 _ _ (zl_b rfl) (zl_b rfl) _ _ hS ls (lv_sub hl [7, 2] rfl)
