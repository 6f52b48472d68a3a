set_option maxHeartbeats 4000000 in
set_option maxRecDepth 100000 in
/-- the law on interest -/
theorem law_c24 {p : Program} {e : Env} {s : State} {m : MethodId} {below : List Frame} {meth : Method} {c : Code} {b : Nat} {xs : Nat → Int32} (l : Launch) (hst : l.stackTraces = false) (C0 : lw_At p s m meth c b 5 xs) {dC : Nat → ClassId} {dI : Nat → Nat → Nat} {t x0 xa xw xb m0 ma mw o od : Nat} {k1 k2 k3 : ClassId} (H : Heap) (locs : List Loc) (hK : va_K (dC, dI) zc [(k1, .int), (k2, .int), (k3, .long)] s) (hQ : zQ t (fun q : Nat => s.heap.size ≤ q) s s.heap) (hP : va_P (dC, dI) zc [(x0, .inr (5, [.ref xa, .ref xw, .ref xb, .int 0])), (xa, .inr (0, [.int 0, .ref t, .int 0])), (xw, .inl (k1, 4, .inl (zW))), (m0, .inr (7, [.ref ma, .ref mw, .int 0, .int 0])), (ma, .inr (0, [.int 0, .ref t, .int 0])), (mw, .inl (k2, 4, .inl (zW))), (o, .inl (k3, 1, .inr (.inl (fun _ => 0))))] H) (hD : va_D (fun q : Nat => s.heap.size ≤ q) [(x0, .inr (5, [.ref xa, .ref xw, .ref xb, .int 0])), (xa, .inr (0, [.int 0, .ref t, .int 0])), (xw, .inl (k1, 4, .inl (zW))), (m0, .inr (7, [.ref ma, .ref mw, .int 0, .int 0])), (ma, .inr (0, [.int 0, .ref t, .int 0])), (mw, .inl (k2, 4, .inl (zW))), (o, .inl (k3, 1, .inr (.inl (fun _ => 0))))]) (hS : va_S (fun q : Nat => s.heap.size ≤ q) s.heap H locs) (ls : Array Slot) (hl : lv_has ls 9 [(5, .int 0), (4, .ref od), (3, .ref o), (2, .ref m0), (1, .ref x0), (0, .ref b)]) : W p l e room_1 s m #[Value.ref b] below meth c H locs 26 125 (lw_Z below #[Value.ref b] s) (F0 m 1926 ls []) := by
  obtain ⟨hx, hb, hr, hml, hown, hts0, hX, hbl, hlocks, hgv⟩ := id C0
  have hts : ∀ w ∈ zG, w.before #[Value.ref b] s = true := fun w h => hts0 w (zg_tbl h)
  have hA : ∀ q : Nat, s.heap.size ≤ q → (fun q : Nat => s.heap.size ≤ q) q := fun _ h => h
  have hbA : ¬ (fun q : Nat => s.heap.size ≤ q) b := Nat.not_le.mpr hbl
  refine lv_aload_n hx hb dL_law_1926 rfl (lv_at hl 4 rfl) ?_
  refine lv_aload_n hx hb dL_law_1927 rfl (lv_at hl 5 rfl) ?_
  refine lv_iload hx hb dL_law_1928 (lv_at hl 0 rfl) ?_
  refine lv_iconst (v := 1) hx hb dL_law_1930 (by decide) ?_
  refine lv_iadd hx hb dL_law_1931 ?_
  refine va_sld hx hb hX hbl hbA hS (by unfold vp_in; decide) dL_law_1932 ?_
  refine lv_topi (fun v_1 e_v_1 => ?_)
  refine lv_aload_n hx hb dL_law_1933 rfl (lv_at hl 5 rfl) ?_
  refine lv_iload hx hb dL_law_1934 (lv_at hl 0 rfl) ?_
  refine lv_iconst (v := 2) hx hb dL_law_1936 (by decide) ?_
  refine lv_iadd hx hb dL_law_1937 ?_
  refine va_sld hx hb hX hbl hbA hS (by unfold vp_in; decide) dL_law_1938 ?_
  refine lv_topi (fun v_2 e_v_2 => ?_)
  refine lv_aload_n hx hb dL_law_1939 rfl (lv_at hl 2 rfl) ?_
  refine vx_calli (vx_runSX (As := [.ref x0, .int v_1, .int v_2, .ref o]) (rest := []) ⟨hx, hb, hml, hown, hts⟩ (lx_interest l hst dC dI H.size t x0 xa o (.ref xw) (.ref xb) 0 (.ref t) v_1 v_2) (vx_cwSW 4 hts (zg_S kw_1213 kw_1214 kw_63 kw_1215) rfl rfl rfl (by decide +kernel) ⟨Nat.le_of_ble_eq_true rfl, Nat.le_of_ble_eq_true rfl⟩) ⟨zA_blind, zA_pre hP hD hS hK hQ hA [0, 1] rfl rfl (by decide) [] rfl⟩ rfl rfl hl.1 rfl (lv_room (Nat.le_of_ble_eq_true rfl)) dL_law_1940 ⟨zl_b rfl, zl_b rfl⟩) hS (fun q _ h => hA q (Nat.le_trans (hS.1) h)) (fun q h => hA q (Nat.le_trans (hS.1) h)) (fun q _ h => h.elim) (fun E ce q9 u t9 H1 locs1 ht hvm hp9 hE hz1 hk1 hS1 hc1 hv1 hcl1 => hp9.elim) (fun r_3 u t9 H1 locs ht hvm hw hB hz1 hk1 hS => ?_)
  have hw : r_3 = 1 := hw
  subst hw
  have hP := zP_new hP hk1
  generalize H1 = H at hP hS ⊢
  have hP : va_P (dC, dI) zc [(x0, .inr (5, [.ref xa, .ref xw, .ref xb, .int 0])), (xa, .inr (0, [.int 0, .ref t, .int 0])), (xw, .inl (k1, 4, .inl (zW))), (m0, .inr (7, [.ref ma, .ref mw, .int 0, .int 0])), (ma, .inr (0, [.int 0, .ref t, .int 0])), (mw, .inl (k2, 4, .inl (zW))), (o, .inl (k3, 1, .inr (.inl (fun _ => 0))))] H := hP
  have hD : va_D (fun q : Nat => s.heap.size ≤ q) [(x0, .inr (5, [.ref xa, .ref xw, .ref xb, .int 0])), (xa, .inr (0, [.int 0, .ref t, .int 0])), (xw, .inl (k1, 4, .inl (zW))), (m0, .inr (7, [.ref ma, .ref mw, .int 0, .int 0])), (ma, .inr (0, [.int 0, .ref t, .int 0])), (mw, .inl (k2, 4, .inl (zW))), (o, .inl (k3, 1, .inr (.inl (fun _ => 0))))] := hD
  refine W.widen (k := 27) (n := 131) (zl_b rfl) (zl_b rfl) ?_
  refine lv_istore (lv' := [(6, .int 1), (5, .int 0), (4, .ref od), (3, .ref o), (2, .ref m0), (1, .ref x0), (0, .ref b)]) hx hb dL_law_1943 hl (by decide) rfl (fun ls hl => ?_)
  refine lv_aload_n hx hb dL_law_1945 rfl (lv_at hl 4 rfl) ?_
  refine lv_aload_n hx hb dL_law_1946 rfl (lv_at hl 6 rfl) ?_
  refine lv_iload hx hb dL_law_1947 (lv_at hl 1 rfl) ?_
  refine lv_iconst (v := 1) hx hb dL_law_1949 (by decide) ?_
  refine lv_iadd hx hb dL_law_1950 ?_
  refine va_sld hx hb hX hbl hbA hS (by unfold vp_in; decide) dL_law_1951 ?_
  refine lv_topi (fun v_4 e_v_4 => ?_)
  have s_5 : v_1 = v_4 := by rw [e_v_1, e_v_4]
  subst s_5
  refine lv_aload_n hx hb dL_law_1952 rfl (lv_at hl 6 rfl) ?_
  refine lv_iload hx hb dL_law_1953 (lv_at hl 1 rfl) ?_
  refine lv_iconst (v := 2) hx hb dL_law_1955 (by decide) ?_
  refine lv_iadd hx hb dL_law_1956 ?_
  refine va_sld hx hb hX hbl hbA hS (by unfold vp_in; decide) dL_law_1957 ?_
  refine lv_topi (fun v_6 e_v_6 => ?_)
  have s_7 : v_2 = v_6 := by rw [e_v_2, e_v_6]
  subst s_7
  have hFc := va_free (wc := [(m0, .inr (7, [.ref ma, .ref mw, .int 0, .int 0])), (ma, .inr (0, [.int 0, .ref t, .int 0]))]) hD hS hA [3, 4] rfl
  refine va_calll (va_runV (As := [.int v_1, .int v_2]) (rest := []) ⟨hx, hb, hml, hown, hts⟩ (m_interest l dC dI H.size t m0 ma (.ref mw) 0 0 (.ref t) v_1 v_2) (cwV 2 hts (zg_V kw_1908 kw_1909 kw_1910 kw_70 kw_1911) rfl rfl rfl (by decide +kernel) ⟨Nat.le_of_ble_eq_true rfl, Nat.le_of_ble_eq_true rfl⟩) ⟨zA_blind, va_recv hK hP (ci := 7) (q0 := 3) rfl rfl, zA_pre hP hD hS hK hQ hA [3, 4] rfl rfl (by decide) [] rfl⟩ rfl rfl hl.1 rfl (lv_room (Nat.le_of_ble_eq_true rfl)) dL_law_1958 ⟨zl_b rfl, zl_b rfl⟩) hS (fun q _ h => hFc q h) hFc (fun r_8 u t9 H1 locs ht hvm hw hB hz1 hk1 hS => ?_)
  obtain ⟨hP1, hK1, hD1⟩ := hB
  rw [ht] at hP1
  have hK1 := va_K.moved hvm.symm hK1
  obtain ⟨hP, hD⟩ := va_join (wr := [(x0, .inr (5, [.ref xa, .ref xw, .ref xb, .int 0])), (xa, .inr (0, [.int 0, .ref t, .int 0])), (xw, .inl (k1, 4, .inl (zW))), (mw, .inl (k2, 4, .inl (zW))), (o, .inl (k3, 1, .inr (.inl (fun _ => 0))))]) (w1 := [(m0, .inr (7, [.ref ma, .ref mw, .int 0, .int 1])), (ma, .inr (0, [.int 0, .ref t, .int 0]))]) hP hD [3, 4] [0, 1, 2, 5, 6] rfl rfl (by decide) (by decide) hk1 hFc hP1 hD1
  have hK := (hK.sub (tys' := [(k1, .int), (k2, .int), (k3, .long)]) [0, 1, 2] rfl).app hK1
  generalize H1 = H at hP hS ⊢
  have hP : va_P (dC, dI) zc [(x0, .inr (5, [.ref xa, .ref xw, .ref xb, .int 0])), (xa, .inr (0, [.int 0, .ref t, .int 0])), (xw, .inl (k1, 4, .inl (zW))), (mw, .inl (k2, 4, .inl (zW))), (o, .inl (k3, 1, .inr (.inl (fun _ => 0)))), (m0, .inr (7, [.ref ma, .ref mw, .int 0, .int 1])), (ma, .inr (0, [.int 0, .ref t, .int 0]))] H := hP
  have hD : va_D (fun q : Nat => s.heap.size ≤ q) [(x0, .inr (5, [.ref xa, .ref xw, .ref xb, .int 0])), (xa, .inr (0, [.int 0, .ref t, .int 0])), (xw, .inl (k1, 4, .inl (zW))), (mw, .inl (k2, 4, .inl (zW))), (o, .inl (k3, 1, .inr (.inl (fun _ => 0)))), (m0, .inr (7, [.ref ma, .ref mw, .int 0, .int 1])), (ma, .inr (0, [.int 0, .ref t, .int 0]))] := hD
  have hK : va_K (dC, dI) zc [(k1, .int), (k2, .int), (k3, .long)] s := hK
  refine lv_lstore (lv' := [(7, .long r_8), (6, .int 1), (5, .int 0), (4, .ref od), (3, .ref o), (2, .ref m0), (1, .ref x0), (0, .ref b)]) hx hb dL_law_1961 hl (by decide) rfl (fun ls hl => ?_)
  refine lv_aload_n hx hb dL_law_1963 rfl (lv_at hl 5 rfl) ?_
  refine vp_callSi (W.runV (As := []) (rest := []) ⟨hx, hb, hml, hown, hts⟩ (c_thrown l dC dI H.size t m0 (.ref ma) (.ref mw) 0 1) (cwV 0 hts (zg_V kw_1365 kw_1366 kw_1367 kw_70 kw_1368) rfl rfl rfl (by decide +kernel) ⟨Nat.le_of_ble_eq_true rfl, Nat.le_of_ble_eq_true rfl⟩) ⟨zA_blind, va_recv hK hP (ci := 7) (q0 := 5) rfl rfl, zA_pre hP hD hS hK hQ hA [5] rfl rfl (by decide) [] rfl⟩ rfl rfl hl.1 rfl (lv_room (Nat.le_of_ble_eq_true rfl)) dL_law_1964 ⟨zl_b rfl, zl_b rfl⟩) (fun r hr => ?_)
  subst hr
  refine lv_iload hx hb dL_law_1967 (lv_at hl 1 rfl) ?_
  refine lv_icmp_eq (tgt := 1974) hx hb dL_law_1969 (by decide) (fun c_9 => ?_) (fun c_9 => absurd c_9 (by decide))
  refine lv_iload hx hb dL_law_1974 (lv_at hl 1 rfl) ?_
  refine lv_if_ne (tgt := 1990) hx hb dL_law_1976 (by decide) (fun c_10 => ?_) (fun c_10 => absurd c_10 (by decide))
  refine lv_goto (tgt := 2981) hx hb dL_law_1990 (by decide) ?_
  exact law_tail l C0 _ _ (zl_b rfl) (zl_b rfl) _ _ hS ls (lv_sub hl [7, 2] rfl)
set_option maxHeartbeats 4000000 in
set_option maxRecDepth 100000 in
/-- the law on hadGrace -/
theorem law_c25 {p : Program} {e : Env} {s : State} {m : MethodId} {below : List Frame} {meth : Method} {c : Code} {b : Nat} {xs : Nat → Int32} (l : Launch) (hst : l.stackTraces = false) (C0 : lw_At p s m meth c b 5 xs) {dC : Nat → ClassId} {dI : Nat → Nat → Nat} {t x0 xa xw xb m0 ma mw o od : Nat} {k1 k2 k3 : ClassId} (H : Heap) (locs : List Loc) (hK : va_K (dC, dI) zc [(k1, .int), (k2, .int), (k3, .long)] s) (hQ : zQ t (fun q : Nat => s.heap.size ≤ q) s s.heap) (hP : va_P (dC, dI) zc [(x0, .inr (5, [.ref xa, .ref xw, .ref xb, .int 0])), (xa, .inr (0, [.int 0, .ref t, .int 0])), (xw, .inl (k1, 4, .inl (zW))), (m0, .inr (7, [.ref ma, .ref mw, .int 0, .int 0])), (ma, .inr (0, [.int 0, .ref t, .int 0])), (mw, .inl (k2, 4, .inl (zW))), (o, .inl (k3, 1, .inr (.inl (fun _ => 0))))] H) (hD : va_D (fun q : Nat => s.heap.size ≤ q) [(x0, .inr (5, [.ref xa, .ref xw, .ref xb, .int 0])), (xa, .inr (0, [.int 0, .ref t, .int 0])), (xw, .inl (k1, 4, .inl (zW))), (m0, .inr (7, [.ref ma, .ref mw, .int 0, .int 0])), (ma, .inr (0, [.int 0, .ref t, .int 0])), (mw, .inl (k2, 4, .inl (zW))), (o, .inl (k3, 1, .inr (.inl (fun _ => 0))))]) (hS : va_S (fun q : Nat => s.heap.size ≤ q) s.heap H locs) (ls : Array Slot) (hl : lv_has ls 9 [(5, .int 0), (4, .ref od), (3, .ref o), (2, .ref m0), (1, .ref x0), (0, .ref b)]) : W p l e room_1 s m #[Value.ref b] below meth c H locs 26 125 (lw_Z below #[Value.ref b] s) (F0 m 1993 ls []) := by
  obtain ⟨hx, hb, hr, hml, hown, hts0, hX, hbl, hlocks, hgv⟩ := id C0
  have hts : ∀ w ∈ zG, w.before #[Value.ref b] s = true := fun w h => hts0 w (zg_tbl h)
  have hA : ∀ q : Nat, s.heap.size ≤ q → (fun q : Nat => s.heap.size ≤ q) q := fun _ h => h
  have hbA : ¬ (fun q : Nat => s.heap.size ≤ q) b := Nat.not_le.mpr hbl
  refine lv_aload_n hx hb dL_law_1993 rfl (lv_at hl 4 rfl) ?_
  refine lv_aload_n hx hb dL_law_1994 rfl (lv_at hl 5 rfl) ?_
  refine lv_iload hx hb dL_law_1995 (lv_at hl 0 rfl) ?_
  refine lv_iconst (v := 1) hx hb dL_law_1997 (by decide) ?_
  refine lv_iadd hx hb dL_law_1998 ?_
  refine va_sld hx hb hX hbl hbA hS (by unfold vp_in; decide) dL_law_1999 ?_
  refine lv_topi (fun v_1 e_v_1 => ?_)
  refine lv_aload_n hx hb dL_law_2000 rfl (lv_at hl 5 rfl) ?_
  refine lv_iload hx hb dL_law_2001 (lv_at hl 0 rfl) ?_
  refine lv_iconst (v := 2) hx hb dL_law_2003 (by decide) ?_
  refine lv_iadd hx hb dL_law_2004 ?_
  refine va_sld hx hb hX hbl hbA hS (by unfold vp_in; decide) dL_law_2005 ?_
  refine lv_topi (fun v_2 e_v_2 => ?_)
  refine lv_aload_n hx hb dL_law_2006 rfl (lv_at hl 2 rfl) ?_
  refine vx_calli (vx_runSX (As := [.ref x0, .int v_1, .int v_2, .ref o]) (rest := []) ⟨hx, hb, hml, hown, hts⟩ (lx_hadGrace l hst dC dI H.size t x0 xa o (.ref xw) (.ref xb) 0 (.ref t) v_1 v_2) (vx_cwSW 4 hts (zg_S kw_1220 kw_1221 kw_63 kw_1222) rfl rfl rfl (by decide +kernel) ⟨Nat.le_of_ble_eq_true rfl, Nat.le_of_ble_eq_true rfl⟩) ⟨zA_blind, zA_pre hP hD hS hK hQ hA [0, 1] rfl rfl (by decide) [] rfl⟩ rfl rfl hl.1 rfl (lv_room (Nat.le_of_ble_eq_true rfl)) dL_law_2007 ⟨zl_b rfl, zl_b rfl⟩) hS (fun q _ h => hA q (Nat.le_trans (hS.1) h)) (fun q h => hA q (Nat.le_trans (hS.1) h)) (fun q _ h => h.elim) (fun E ce q9 u t9 H1 locs1 ht hvm hp9 hE hz1 hk1 hS1 hc1 hv1 hcl1 => hp9.elim) (fun r_3 u t9 H1 locs ht hvm hw hB hz1 hk1 hS => ?_)
  have hw : r_3 = 1 := hw
  subst hw
  have hP := zP_new hP hk1
  generalize H1 = H at hP hS ⊢
  have hP : va_P (dC, dI) zc [(x0, .inr (5, [.ref xa, .ref xw, .ref xb, .int 0])), (xa, .inr (0, [.int 0, .ref t, .int 0])), (xw, .inl (k1, 4, .inl (zW))), (m0, .inr (7, [.ref ma, .ref mw, .int 0, .int 0])), (ma, .inr (0, [.int 0, .ref t, .int 0])), (mw, .inl (k2, 4, .inl (zW))), (o, .inl (k3, 1, .inr (.inl (fun _ => 0))))] H := hP
  have hD : va_D (fun q : Nat => s.heap.size ≤ q) [(x0, .inr (5, [.ref xa, .ref xw, .ref xb, .int 0])), (xa, .inr (0, [.int 0, .ref t, .int 0])), (xw, .inl (k1, 4, .inl (zW))), (m0, .inr (7, [.ref ma, .ref mw, .int 0, .int 0])), (ma, .inr (0, [.int 0, .ref t, .int 0])), (mw, .inl (k2, 4, .inl (zW))), (o, .inl (k3, 1, .inr (.inl (fun _ => 0))))] := hD
  refine W.widen (k := 27) (n := 131) (zl_b rfl) (zl_b rfl) ?_
  refine lv_istore (lv' := [(6, .int 1), (5, .int 0), (4, .ref od), (3, .ref o), (2, .ref m0), (1, .ref x0), (0, .ref b)]) hx hb dL_law_2010 hl (by decide) rfl (fun ls hl => ?_)
  refine lv_aload_n hx hb dL_law_2012 rfl (lv_at hl 4 rfl) ?_
  refine lv_aload_n hx hb dL_law_2013 rfl (lv_at hl 6 rfl) ?_
  refine lv_iload hx hb dL_law_2014 (lv_at hl 1 rfl) ?_
  refine lv_iconst (v := 1) hx hb dL_law_2016 (by decide) ?_
  refine lv_iadd hx hb dL_law_2017 ?_
  refine va_sld hx hb hX hbl hbA hS (by unfold vp_in; decide) dL_law_2018 ?_
  refine lv_topi (fun v_4 e_v_4 => ?_)
  have s_5 : v_1 = v_4 := by rw [e_v_1, e_v_4]
  subst s_5
  refine lv_aload_n hx hb dL_law_2019 rfl (lv_at hl 6 rfl) ?_
  refine lv_iload hx hb dL_law_2020 (lv_at hl 1 rfl) ?_
  refine lv_iconst (v := 2) hx hb dL_law_2022 (by decide) ?_
  refine lv_iadd hx hb dL_law_2023 ?_
  refine va_sld hx hb hX hbl hbA hS (by unfold vp_in; decide) dL_law_2024 ?_
  refine lv_topi (fun v_6 e_v_6 => ?_)
  have s_7 : v_2 = v_6 := by rw [e_v_2, e_v_6]
  subst s_7
  have hFc := va_free (wc := [(m0, .inr (7, [.ref ma, .ref mw, .int 0, .int 0])), (ma, .inr (0, [.int 0, .ref t, .int 0]))]) hD hS hA [3, 4] rfl
  refine va_calli (va_runV (As := [.int v_1, .int v_2]) (rest := []) ⟨hx, hb, hml, hown, hts⟩ (m_hadGrace l dC dI H.size t m0 ma (.ref mw) 0 0 (.ref t) v_1 v_2) (cwV 2 hts (zg_V kw_1912 kw_1913 kw_1914 kw_70 kw_1915) rfl rfl rfl (by decide +kernel) ⟨Nat.le_of_ble_eq_true rfl, Nat.le_of_ble_eq_true rfl⟩) ⟨zA_blind, va_recv hK hP (ci := 7) (q0 := 3) rfl rfl, zA_pre hP hD hS hK hQ hA [3, 4] rfl rfl (by decide) [] rfl⟩ rfl rfl hl.1 rfl (lv_room (Nat.le_of_ble_eq_true rfl)) dL_law_2025 ⟨zl_b rfl, zl_b rfl⟩) hS (fun q _ h => hFc q h) hFc (fun r_8 u t9 H1 locs ht hvm hw hB hz1 hk1 hS => ?_)
  obtain ⟨hP1, hK1, hD1⟩ := hB
  rw [ht] at hP1
  have hK1 := va_K.moved hvm.symm hK1
  obtain ⟨hP, hD⟩ := va_join (wr := [(x0, .inr (5, [.ref xa, .ref xw, .ref xb, .int 0])), (xa, .inr (0, [.int 0, .ref t, .int 0])), (xw, .inl (k1, 4, .inl (zW))), (mw, .inl (k2, 4, .inl (zW))), (o, .inl (k3, 1, .inr (.inl (fun _ => 0))))]) (w1 := [(m0, .inr (7, [.ref ma, .ref mw, .int 0, .int 1])), (ma, .inr (0, [.int 0, .ref t, .int 0]))]) hP hD [3, 4] [0, 1, 2, 5, 6] rfl rfl (by decide) (by decide) hk1 hFc hP1 hD1
  have hK := (hK.sub (tys' := [(k1, .int), (k2, .int), (k3, .long)]) [0, 1, 2] rfl).app hK1
  generalize H1 = H at hP hS ⊢
  have hP : va_P (dC, dI) zc [(x0, .inr (5, [.ref xa, .ref xw, .ref xb, .int 0])), (xa, .inr (0, [.int 0, .ref t, .int 0])), (xw, .inl (k1, 4, .inl (zW))), (mw, .inl (k2, 4, .inl (zW))), (o, .inl (k3, 1, .inr (.inl (fun _ => 0)))), (m0, .inr (7, [.ref ma, .ref mw, .int 0, .int 1])), (ma, .inr (0, [.int 0, .ref t, .int 0]))] H := hP
  have hD : va_D (fun q : Nat => s.heap.size ≤ q) [(x0, .inr (5, [.ref xa, .ref xw, .ref xb, .int 0])), (xa, .inr (0, [.int 0, .ref t, .int 0])), (xw, .inl (k1, 4, .inl (zW))), (mw, .inl (k2, 4, .inl (zW))), (o, .inl (k3, 1, .inr (.inl (fun _ => 0)))), (m0, .inr (7, [.ref ma, .ref mw, .int 0, .int 1])), (ma, .inr (0, [.int 0, .ref t, .int 0]))] := hD
  have hK : va_K (dC, dI) zc [(k1, .int), (k2, .int), (k3, .long)] s := hK
  refine lv_istore (lv' := [(7, .int r_8), (6, .int 1), (5, .int 0), (4, .ref od), (3, .ref o), (2, .ref m0), (1, .ref x0), (0, .ref b)]) hx hb dL_law_2028 hl (by decide) rfl (fun ls hl => ?_)
  refine lv_aload_n hx hb dL_law_2030 rfl (lv_at hl 5 rfl) ?_
  refine vp_callSi (W.runV (As := []) (rest := []) ⟨hx, hb, hml, hown, hts⟩ (c_thrown l dC dI H.size t m0 (.ref ma) (.ref mw) 0 1) (cwV 0 hts (zg_V kw_1365 kw_1366 kw_1367 kw_70 kw_1368) rfl rfl rfl (by decide +kernel) ⟨Nat.le_of_ble_eq_true rfl, Nat.le_of_ble_eq_true rfl⟩) ⟨zA_blind, va_recv hK hP (ci := 7) (q0 := 5) rfl rfl, zA_pre hP hD hS hK hQ hA [5] rfl rfl (by decide) [] rfl⟩ rfl rfl hl.1 rfl (lv_room (Nat.le_of_ble_eq_true rfl)) dL_law_2031 ⟨zl_b rfl, zl_b rfl⟩) (fun r hr => ?_)
  subst hr
  refine lv_iload hx hb dL_law_2034 (lv_at hl 1 rfl) ?_
  refine lv_icmp_eq (tgt := 2041) hx hb dL_law_2036 (by decide) (fun c_9 => ?_) (fun c_9 => absurd c_9 (by decide))
  refine lv_iload hx hb dL_law_2041 (lv_at hl 1 rfl) ?_
  refine lv_if_ne (tgt := 2065) hx hb dL_law_2043 (by decide) (fun c_10 => ?_) (fun c_10 => absurd c_10 (by decide))
  refine lv_goto (tgt := 2981) hx hb dL_law_2065 (by decide) ?_
  exact law_tail l C0 _ _ (zl_b rfl) (zl_b rfl) _ _ hS ls (lv_sub hl [7, 2] rfl)
set_option maxHeartbeats 4000000 in
set_option maxRecDepth 100000 in
/-- the law on paid -/
theorem law_c26 {p : Program} {e : Env} {s : State} {m : MethodId} {below : List Frame} {meth : Method} {c : Code} {b : Nat} {xs : Nat → Int32} (l : Launch) (hst : l.stackTraces = false) (C0 : lw_At p s m meth c b 5 xs) {dC : Nat → ClassId} {dI : Nat → Nat → Nat} {t x0 xa xw xb m0 ma mw o od : Nat} {k1 k2 k3 : ClassId} (H : Heap) (locs : List Loc) (hK : va_K (dC, dI) zc [(k1, .int), (k2, .int), (k3, .long)] s) (hQ : zQ t (fun q : Nat => s.heap.size ≤ q) s s.heap) (hP : va_P (dC, dI) zc [(x0, .inr (5, [.ref xa, .ref xw, .ref xb, .int 0])), (xa, .inr (0, [.int 0, .ref t, .int 0])), (xw, .inl (k1, 4, .inl (zW))), (m0, .inr (7, [.ref ma, .ref mw, .int 0, .int 0])), (ma, .inr (0, [.int 0, .ref t, .int 0])), (mw, .inl (k2, 4, .inl (zW))), (o, .inl (k3, 1, .inr (.inl (fun _ => 0))))] H) (hD : va_D (fun q : Nat => s.heap.size ≤ q) [(x0, .inr (5, [.ref xa, .ref xw, .ref xb, .int 0])), (xa, .inr (0, [.int 0, .ref t, .int 0])), (xw, .inl (k1, 4, .inl (zW))), (m0, .inr (7, [.ref ma, .ref mw, .int 0, .int 0])), (ma, .inr (0, [.int 0, .ref t, .int 0])), (mw, .inl (k2, 4, .inl (zW))), (o, .inl (k3, 1, .inr (.inl (fun _ => 0))))]) (hS : va_S (fun q : Nat => s.heap.size ≤ q) s.heap H locs) (ls : Array Slot) (hl : lv_has ls 9 [(5, .int 0), (4, .ref od), (3, .ref o), (2, .ref m0), (1, .ref x0), (0, .ref b)]) : W p l e room_1 s m #[Value.ref b] below meth c H locs 26 125 (lw_Z below #[Value.ref b] s) (F0 m 2068 ls []) := by
  obtain ⟨hx, hb, hr, hml, hown, hts0, hX, hbl, hlocks, hgv⟩ := id C0
  have hts : ∀ w ∈ zG, w.before #[Value.ref b] s = true := fun w h => hts0 w (zg_tbl h)
  have hA : ∀ q : Nat, s.heap.size ≤ q → (fun q : Nat => s.heap.size ≤ q) q := fun _ h => h
  have hbA : ¬ (fun q : Nat => s.heap.size ≤ q) b := Nat.not_le.mpr hbl
  refine lv_aload_n hx hb dL_law_2068 rfl (lv_at hl 4 rfl) ?_
  refine lv_aload_n hx hb dL_law_2069 rfl (lv_at hl 5 rfl) ?_
  refine lv_iload hx hb dL_law_2070 (lv_at hl 0 rfl) ?_
  refine lv_iconst (v := 1) hx hb dL_law_2072 (by decide) ?_
  refine lv_iadd hx hb dL_law_2073 ?_
  refine va_sld hx hb hX hbl hbA hS (by unfold vp_in; decide) dL_law_2074 ?_
  refine lv_topi (fun v_1 e_v_1 => ?_)
  refine lv_aload_n hx hb dL_law_2075 rfl (lv_at hl 5 rfl) ?_
  refine lv_iload hx hb dL_law_2076 (lv_at hl 0 rfl) ?_
  refine lv_iconst (v := 2) hx hb dL_law_2078 (by decide) ?_
  refine lv_iadd hx hb dL_law_2079 ?_
  refine va_sld hx hb hX hbl hbA hS (by unfold vp_in; decide) dL_law_2080 ?_
  refine lv_topi (fun v_2 e_v_2 => ?_)
  refine lv_aload_n hx hb dL_law_2081 rfl (lv_at hl 2 rfl) ?_
  refine vx_calli (vx_runSX (As := [.ref x0, .int v_1, .int v_2, .ref o]) (rest := []) ⟨hx, hb, hml, hown, hts⟩ (lx_paid l hst dC dI H.size t x0 xa o (.ref xw) (.ref xb) 0 (.ref t) v_1 v_2) (vx_cwSW 4 hts (zg_S kw_1227 kw_1228 kw_63 kw_1229) rfl rfl rfl (by decide +kernel) ⟨Nat.le_of_ble_eq_true rfl, Nat.le_of_ble_eq_true rfl⟩) ⟨zA_blind, zA_pre hP hD hS hK hQ hA [0, 1] rfl rfl (by decide) [] rfl⟩ rfl rfl hl.1 rfl (lv_room (Nat.le_of_ble_eq_true rfl)) dL_law_2082 ⟨zl_b rfl, zl_b rfl⟩) hS (fun q _ h => hA q (Nat.le_trans (hS.1) h)) (fun q h => hA q (Nat.le_trans (hS.1) h)) (fun q _ h => h.elim) (fun E ce q9 u t9 H1 locs1 ht hvm hp9 hE hz1 hk1 hS1 hc1 hv1 hcl1 => hp9.elim) (fun r_3 u t9 H1 locs ht hvm hw hB hz1 hk1 hS => ?_)
  have hw : r_3 = 1 := hw
  subst hw
  have hP := zP_new hP hk1
  generalize H1 = H at hP hS ⊢
  have hP : va_P (dC, dI) zc [(x0, .inr (5, [.ref xa, .ref xw, .ref xb, .int 0])), (xa, .inr (0, [.int 0, .ref t, .int 0])), (xw, .inl (k1, 4, .inl (zW))), (m0, .inr (7, [.ref ma, .ref mw, .int 0, .int 0])), (ma, .inr (0, [.int 0, .ref t, .int 0])), (mw, .inl (k2, 4, .inl (zW))), (o, .inl (k3, 1, .inr (.inl (fun _ => 0))))] H := hP
  have hD : va_D (fun q : Nat => s.heap.size ≤ q) [(x0, .inr (5, [.ref xa, .ref xw, .ref xb, .int 0])), (xa, .inr (0, [.int 0, .ref t, .int 0])), (xw, .inl (k1, 4, .inl (zW))), (m0, .inr (7, [.ref ma, .ref mw, .int 0, .int 0])), (ma, .inr (0, [.int 0, .ref t, .int 0])), (mw, .inl (k2, 4, .inl (zW))), (o, .inl (k3, 1, .inr (.inl (fun _ => 0))))] := hD
  refine W.widen (k := 27) (n := 131) (zl_b rfl) (zl_b rfl) ?_
  refine lv_istore (lv' := [(6, .int 1), (5, .int 0), (4, .ref od), (3, .ref o), (2, .ref m0), (1, .ref x0), (0, .ref b)]) hx hb dL_law_2085 hl (by decide) rfl (fun ls hl => ?_)
  refine lv_aload_n hx hb dL_law_2087 rfl (lv_at hl 4 rfl) ?_
  refine lv_aload_n hx hb dL_law_2088 rfl (lv_at hl 6 rfl) ?_
  refine lv_iload hx hb dL_law_2089 (lv_at hl 1 rfl) ?_
  refine lv_iconst (v := 1) hx hb dL_law_2091 (by decide) ?_
  refine lv_iadd hx hb dL_law_2092 ?_
  refine va_sld hx hb hX hbl hbA hS (by unfold vp_in; decide) dL_law_2093 ?_
  refine lv_topi (fun v_4 e_v_4 => ?_)
  have s_5 : v_1 = v_4 := by rw [e_v_1, e_v_4]
  subst s_5
  refine lv_aload_n hx hb dL_law_2094 rfl (lv_at hl 6 rfl) ?_
  refine lv_iload hx hb dL_law_2095 (lv_at hl 1 rfl) ?_
  refine lv_iconst (v := 2) hx hb dL_law_2097 (by decide) ?_
  refine lv_iadd hx hb dL_law_2098 ?_
  refine va_sld hx hb hX hbl hbA hS (by unfold vp_in; decide) dL_law_2099 ?_
  refine lv_topi (fun v_6 e_v_6 => ?_)
  have s_7 : v_2 = v_6 := by rw [e_v_2, e_v_6]
  subst s_7
  have hFc := va_free (wc := [(m0, .inr (7, [.ref ma, .ref mw, .int 0, .int 0])), (ma, .inr (0, [.int 0, .ref t, .int 0]))]) hD hS hA [3, 4] rfl
  refine va_calli (va_runV (As := [.int v_1, .int v_2]) (rest := []) ⟨hx, hb, hml, hown, hts⟩ (m_paid l dC dI H.size t m0 ma (.ref mw) 0 0 (.ref t) v_1 v_2) (cwV 2 hts (zg_V kw_1916 kw_1917 kw_1918 kw_70 kw_1919) rfl rfl rfl (by decide +kernel) ⟨Nat.le_of_ble_eq_true rfl, Nat.le_of_ble_eq_true rfl⟩) ⟨zA_blind, va_recv hK hP (ci := 7) (q0 := 3) rfl rfl, zA_pre hP hD hS hK hQ hA [3, 4] rfl rfl (by decide) [] rfl⟩ rfl rfl hl.1 rfl (lv_room (Nat.le_of_ble_eq_true rfl)) dL_law_2100 ⟨zl_b rfl, zl_b rfl⟩) hS (fun q _ h => hFc q h) hFc (fun r_8 u t9 H1 locs ht hvm hw hB hz1 hk1 hS => ?_)
  obtain ⟨hP1, hK1, hD1⟩ := hB
  rw [ht] at hP1
  have hK1 := va_K.moved hvm.symm hK1
  obtain ⟨hP, hD⟩ := va_join (wr := [(x0, .inr (5, [.ref xa, .ref xw, .ref xb, .int 0])), (xa, .inr (0, [.int 0, .ref t, .int 0])), (xw, .inl (k1, 4, .inl (zW))), (mw, .inl (k2, 4, .inl (zW))), (o, .inl (k3, 1, .inr (.inl (fun _ => 0))))]) (w1 := [(m0, .inr (7, [.ref ma, .ref mw, .int 0, .int 1])), (ma, .inr (0, [.int 0, .ref t, .int 0]))]) hP hD [3, 4] [0, 1, 2, 5, 6] rfl rfl (by decide) (by decide) hk1 hFc hP1 hD1
  have hK := (hK.sub (tys' := [(k1, .int), (k2, .int), (k3, .long)]) [0, 1, 2] rfl).app hK1
  generalize H1 = H at hP hS ⊢
  have hP : va_P (dC, dI) zc [(x0, .inr (5, [.ref xa, .ref xw, .ref xb, .int 0])), (xa, .inr (0, [.int 0, .ref t, .int 0])), (xw, .inl (k1, 4, .inl (zW))), (mw, .inl (k2, 4, .inl (zW))), (o, .inl (k3, 1, .inr (.inl (fun _ => 0)))), (m0, .inr (7, [.ref ma, .ref mw, .int 0, .int 1])), (ma, .inr (0, [.int 0, .ref t, .int 0]))] H := hP
  have hD : va_D (fun q : Nat => s.heap.size ≤ q) [(x0, .inr (5, [.ref xa, .ref xw, .ref xb, .int 0])), (xa, .inr (0, [.int 0, .ref t, .int 0])), (xw, .inl (k1, 4, .inl (zW))), (mw, .inl (k2, 4, .inl (zW))), (o, .inl (k3, 1, .inr (.inl (fun _ => 0)))), (m0, .inr (7, [.ref ma, .ref mw, .int 0, .int 1])), (ma, .inr (0, [.int 0, .ref t, .int 0]))] := hD
  have hK : va_K (dC, dI) zc [(k1, .int), (k2, .int), (k3, .long)] s := hK
  refine lv_istore (lv' := [(7, .int r_8), (6, .int 1), (5, .int 0), (4, .ref od), (3, .ref o), (2, .ref m0), (1, .ref x0), (0, .ref b)]) hx hb dL_law_2103 hl (by decide) rfl (fun ls hl => ?_)
  refine lv_aload_n hx hb dL_law_2105 rfl (lv_at hl 5 rfl) ?_
  refine vp_callSi (W.runV (As := []) (rest := []) ⟨hx, hb, hml, hown, hts⟩ (c_thrown l dC dI H.size t m0 (.ref ma) (.ref mw) 0 1) (cwV 0 hts (zg_V kw_1365 kw_1366 kw_1367 kw_70 kw_1368) rfl rfl rfl (by decide +kernel) ⟨Nat.le_of_ble_eq_true rfl, Nat.le_of_ble_eq_true rfl⟩) ⟨zA_blind, va_recv hK hP (ci := 7) (q0 := 5) rfl rfl, zA_pre hP hD hS hK hQ hA [5] rfl rfl (by decide) [] rfl⟩ rfl rfl hl.1 rfl (lv_room (Nat.le_of_ble_eq_true rfl)) dL_law_2106 ⟨zl_b rfl, zl_b rfl⟩) (fun r hr => ?_)
  subst hr
  refine lv_iload hx hb dL_law_2109 (lv_at hl 1 rfl) ?_
  refine lv_icmp_eq (tgt := 2116) hx hb dL_law_2111 (by decide) (fun c_9 => ?_) (fun c_9 => absurd c_9 (by decide))
  refine lv_iload hx hb dL_law_2116 (lv_at hl 1 rfl) ?_
  refine lv_if_ne (tgt := 2133) hx hb dL_law_2118 (by decide) (fun c_10 => ?_) (fun c_10 => absurd c_10 (by decide))
  refine lv_goto (tgt := 2981) hx hb dL_law_2133 (by decide) ?_
  exact law_tail l C0 _ _ (zl_b rfl) (zl_b rfl) _ _ hS ls (lv_sub hl [7, 2] rfl)
set_option maxHeartbeats 4000000 in
set_option maxRecDepth 100000 in
/-- the law on missing -/
theorem law_c27 {p : Program} {e : Env} {s : State} {m : MethodId} {below : List Frame} {meth : Method} {c : Code} {b : Nat} {xs : Nat → Int32} (l : Launch) (hst : l.stackTraces = false) (C0 : lw_At p s m meth c b 5 xs) {dC : Nat → ClassId} {dI : Nat → Nat → Nat} {t x0 xa xw xb m0 ma mw o od : Nat} {k1 k2 k3 : ClassId} (H : Heap) (locs : List Loc) (hK : va_K (dC, dI) zc [(k1, .int), (k2, .int), (k3, .long)] s) (hQ : zQ t (fun q : Nat => s.heap.size ≤ q) s s.heap) (hP : va_P (dC, dI) zc [(x0, .inr (5, [.ref xa, .ref xw, .ref xb, .int 0])), (xa, .inr (0, [.int 0, .ref t, .int 0])), (xw, .inl (k1, 4, .inl (zW))), (m0, .inr (7, [.ref ma, .ref mw, .int 0, .int 0])), (ma, .inr (0, [.int 0, .ref t, .int 0])), (mw, .inl (k2, 4, .inl (zW))), (o, .inl (k3, 1, .inr (.inl (fun _ => 0))))] H) (hD : va_D (fun q : Nat => s.heap.size ≤ q) [(x0, .inr (5, [.ref xa, .ref xw, .ref xb, .int 0])), (xa, .inr (0, [.int 0, .ref t, .int 0])), (xw, .inl (k1, 4, .inl (zW))), (m0, .inr (7, [.ref ma, .ref mw, .int 0, .int 0])), (ma, .inr (0, [.int 0, .ref t, .int 0])), (mw, .inl (k2, 4, .inl (zW))), (o, .inl (k3, 1, .inr (.inl (fun _ => 0))))]) (hS : va_S (fun q : Nat => s.heap.size ≤ q) s.heap H locs) (ls : Array Slot) (hl : lv_has ls 9 [(5, .int 0), (4, .ref od), (3, .ref o), (2, .ref m0), (1, .ref x0), (0, .ref b)]) : W p l e room_1 s m #[Value.ref b] below meth c H locs 26 125 (lw_Z below #[Value.ref b] s) (F0 m 2136 ls []) := by
  obtain ⟨hx, hb, hr, hml, hown, hts0, hX, hbl, hlocks, hgv⟩ := id C0
  have hts : ∀ w ∈ zG, w.before #[Value.ref b] s = true := fun w h => hts0 w (zg_tbl h)
  have hA : ∀ q : Nat, s.heap.size ≤ q → (fun q : Nat => s.heap.size ≤ q) q := fun _ h => h
  have hbA : ¬ (fun q : Nat => s.heap.size ≤ q) b := Nat.not_le.mpr hbl
  refine lv_aload_n hx hb dL_law_2136 rfl (lv_at hl 4 rfl) ?_
  refine lv_aload_n hx hb dL_law_2137 rfl (lv_at hl 5 rfl) ?_
  refine lv_iload hx hb dL_law_2138 (lv_at hl 0 rfl) ?_
  refine lv_iconst (v := 1) hx hb dL_law_2140 (by decide) ?_
  refine lv_iadd hx hb dL_law_2141 ?_
  refine va_sld hx hb hX hbl hbA hS (by unfold vp_in; decide) dL_law_2142 ?_
  refine lv_topi (fun v_1 e_v_1 => ?_)
  refine lv_aload_n hx hb dL_law_2143 rfl (lv_at hl 2 rfl) ?_
  refine vx_calli (vx_runSX (As := [.ref x0, .int v_1, .ref o]) (rest := []) ⟨hx, hb, hml, hown, hts⟩ (lx_missing l hst dC dI H.size t x0 xa o (.ref xw) (.ref xb) 0 (.ref t) v_1) (vx_cwSW 3 hts (zg_S kw_1234 kw_1235 kw_63 kw_1236) rfl rfl rfl (by decide +kernel) ⟨Nat.le_of_ble_eq_true rfl, Nat.le_of_ble_eq_true rfl⟩) ⟨zA_blind, zA_pre hP hD hS hK hQ hA [0, 1] rfl rfl (by decide) [] rfl⟩ rfl rfl hl.1 rfl (lv_room (Nat.le_of_ble_eq_true rfl)) dL_law_2144 ⟨zl_b rfl, zl_b rfl⟩) hS (fun q _ h => hA q (Nat.le_trans (hS.1) h)) (fun q h => hA q (Nat.le_trans (hS.1) h)) (fun q _ h => h.elim) (fun E ce q9 u t9 H1 locs1 ht hvm hp9 hE hz1 hk1 hS1 hc1 hv1 hcl1 => hp9.elim) (fun r_2 u t9 H1 locs ht hvm hw hB hz1 hk1 hS => ?_)
  have hw : r_2 = 1 := hw
  subst hw
  have hP := zP_new hP hk1
  generalize H1 = H at hP hS ⊢
  have hP : va_P (dC, dI) zc [(x0, .inr (5, [.ref xa, .ref xw, .ref xb, .int 0])), (xa, .inr (0, [.int 0, .ref t, .int 0])), (xw, .inl (k1, 4, .inl (zW))), (m0, .inr (7, [.ref ma, .ref mw, .int 0, .int 0])), (ma, .inr (0, [.int 0, .ref t, .int 0])), (mw, .inl (k2, 4, .inl (zW))), (o, .inl (k3, 1, .inr (.inl (fun _ => 0))))] H := hP
  have hD : va_D (fun q : Nat => s.heap.size ≤ q) [(x0, .inr (5, [.ref xa, .ref xw, .ref xb, .int 0])), (xa, .inr (0, [.int 0, .ref t, .int 0])), (xw, .inl (k1, 4, .inl (zW))), (m0, .inr (7, [.ref ma, .ref mw, .int 0, .int 0])), (ma, .inr (0, [.int 0, .ref t, .int 0])), (mw, .inl (k2, 4, .inl (zW))), (o, .inl (k3, 1, .inr (.inl (fun _ => 0))))] := hD
  refine W.widen (k := 27) (n := 131) (zl_b rfl) (zl_b rfl) ?_
  refine lv_istore (lv' := [(6, .int 1), (5, .int 0), (4, .ref od), (3, .ref o), (2, .ref m0), (1, .ref x0), (0, .ref b)]) hx hb dL_law_2147 hl (by decide) rfl (fun ls hl => ?_)
  refine lv_aload_n hx hb dL_law_2149 rfl (lv_at hl 4 rfl) ?_
  refine lv_aload_n hx hb dL_law_2150 rfl (lv_at hl 6 rfl) ?_
  refine lv_iload hx hb dL_law_2151 (lv_at hl 1 rfl) ?_
  refine lv_iconst (v := 1) hx hb dL_law_2153 (by decide) ?_
  refine lv_iadd hx hb dL_law_2154 ?_
  refine va_sld hx hb hX hbl hbA hS (by unfold vp_in; decide) dL_law_2155 ?_
  refine lv_topi (fun v_3 e_v_3 => ?_)
  have s_4 : v_1 = v_3 := by rw [e_v_1, e_v_3]
  subst s_4
  have hFc := va_free (wc := [(m0, .inr (7, [.ref ma, .ref mw, .int 0, .int 0])), (ma, .inr (0, [.int 0, .ref t, .int 0]))]) hD hS hA [3, 4] rfl
  refine va_calll (va_runV (As := [.int v_1]) (rest := []) ⟨hx, hb, hml, hown, hts⟩ (m_missing l dC dI H.size t m0 ma (.ref mw) 0 0 (.ref t) v_1) (cwV 1 hts (zg_V kw_1921 kw_1922 kw_1923 kw_70 kw_1924) rfl rfl rfl (by decide +kernel) ⟨Nat.le_of_ble_eq_true rfl, Nat.le_of_ble_eq_true rfl⟩) ⟨zA_blind, va_recv hK hP (ci := 7) (q0 := 3) rfl rfl, zA_pre hP hD hS hK hQ hA [3, 4] rfl rfl (by decide) [] rfl⟩ rfl rfl hl.1 rfl (lv_room (Nat.le_of_ble_eq_true rfl)) dL_law_2156 ⟨zl_b rfl, zl_b rfl⟩) hS (fun q _ h => hFc q h) hFc (fun r_5 u t9 H1 locs ht hvm hw hB hz1 hk1 hS => ?_)
  obtain ⟨hP1, hK1, hD1⟩ := hB
  rw [ht] at hP1
  have hK1 := va_K.moved hvm.symm hK1
  obtain ⟨hP, hD⟩ := va_join (wr := [(x0, .inr (5, [.ref xa, .ref xw, .ref xb, .int 0])), (xa, .inr (0, [.int 0, .ref t, .int 0])), (xw, .inl (k1, 4, .inl (zW))), (mw, .inl (k2, 4, .inl (zW))), (o, .inl (k3, 1, .inr (.inl (fun _ => 0))))]) (w1 := [(m0, .inr (7, [.ref ma, .ref mw, .int 0, .int 1])), (ma, .inr (0, [.int 0, .ref t, .int 0]))]) hP hD [3, 4] [0, 1, 2, 5, 6] rfl rfl (by decide) (by decide) hk1 hFc hP1 hD1
  have hK := (hK.sub (tys' := [(k1, .int), (k2, .int), (k3, .long)]) [0, 1, 2] rfl).app hK1
  generalize H1 = H at hP hS ⊢
  have hP : va_P (dC, dI) zc [(x0, .inr (5, [.ref xa, .ref xw, .ref xb, .int 0])), (xa, .inr (0, [.int 0, .ref t, .int 0])), (xw, .inl (k1, 4, .inl (zW))), (mw, .inl (k2, 4, .inl (zW))), (o, .inl (k3, 1, .inr (.inl (fun _ => 0)))), (m0, .inr (7, [.ref ma, .ref mw, .int 0, .int 1])), (ma, .inr (0, [.int 0, .ref t, .int 0]))] H := hP
  have hD : va_D (fun q : Nat => s.heap.size ≤ q) [(x0, .inr (5, [.ref xa, .ref xw, .ref xb, .int 0])), (xa, .inr (0, [.int 0, .ref t, .int 0])), (xw, .inl (k1, 4, .inl (zW))), (mw, .inl (k2, 4, .inl (zW))), (o, .inl (k3, 1, .inr (.inl (fun _ => 0)))), (m0, .inr (7, [.ref ma, .ref mw, .int 0, .int 1])), (ma, .inr (0, [.int 0, .ref t, .int 0]))] := hD
  have hK : va_K (dC, dI) zc [(k1, .int), (k2, .int), (k3, .long)] s := hK
  refine lv_lstore (lv' := [(7, .long r_5), (6, .int 1), (5, .int 0), (4, .ref od), (3, .ref o), (2, .ref m0), (1, .ref x0), (0, .ref b)]) hx hb dL_law_2159 hl (by decide) rfl (fun ls hl => ?_)
  refine lv_aload_n hx hb dL_law_2161 rfl (lv_at hl 5 rfl) ?_
  refine vp_callSi (W.runV (As := []) (rest := []) ⟨hx, hb, hml, hown, hts⟩ (c_thrown l dC dI H.size t m0 (.ref ma) (.ref mw) 0 1) (cwV 0 hts (zg_V kw_1365 kw_1366 kw_1367 kw_70 kw_1368) rfl rfl rfl (by decide +kernel) ⟨Nat.le_of_ble_eq_true rfl, Nat.le_of_ble_eq_true rfl⟩) ⟨zA_blind, va_recv hK hP (ci := 7) (q0 := 5) rfl rfl, zA_pre hP hD hS hK hQ hA [5] rfl rfl (by decide) [] rfl⟩ rfl rfl hl.1 rfl (lv_room (Nat.le_of_ble_eq_true rfl)) dL_law_2162 ⟨zl_b rfl, zl_b rfl⟩) (fun r hr => ?_)
  subst hr
  refine lv_iload hx hb dL_law_2165 (lv_at hl 1 rfl) ?_
  refine lv_icmp_eq (tgt := 2172) hx hb dL_law_2167 (by decide) (fun c_6 => ?_) (fun c_6 => absurd c_6 (by decide))
  refine lv_iload hx hb dL_law_2172 (lv_at hl 1 rfl) ?_
  refine lv_if_ne (tgt := 2188) hx hb dL_law_2174 (by decide) (fun c_7 => ?_) (fun c_7 => absurd c_7 (by decide))
  refine lv_goto (tgt := 2981) hx hb dL_law_2188 (by decide) ?_
  exact law_tail l C0 _ _ (zl_b rfl) (zl_b rfl) _ _ hS ls (lv_sub hl [7, 2] rfl)
set_option maxHeartbeats 4000000 in
set_option maxRecDepth 100000 in
/-- the law on missed -/
theorem law_c28 {p : Program} {e : Env} {s : State} {m : MethodId} {below : List Frame} {meth : Method} {c : Code} {b : Nat} {xs : Nat → Int32} (l : Launch) (hst : l.stackTraces = false) (C0 : lw_At p s m meth c b 5 xs) {dC : Nat → ClassId} {dI : Nat → Nat → Nat} {t x0 xa xw xb m0 ma mw o od : Nat} {k1 k2 k3 : ClassId} (H : Heap) (locs : List Loc) (hK : va_K (dC, dI) zc [(k1, .int), (k2, .int), (k3, .long)] s) (hQ : zQ t (fun q : Nat => s.heap.size ≤ q) s s.heap) (hP : va_P (dC, dI) zc [(x0, .inr (5, [.ref xa, .ref xw, .ref xb, .int 0])), (xa, .inr (0, [.int 0, .ref t, .int 0])), (xw, .inl (k1, 4, .inl (zW))), (m0, .inr (7, [.ref ma, .ref mw, .int 0, .int 0])), (ma, .inr (0, [.int 0, .ref t, .int 0])), (mw, .inl (k2, 4, .inl (zW))), (o, .inl (k3, 1, .inr (.inl (fun _ => 0))))] H) (hD : va_D (fun q : Nat => s.heap.size ≤ q) [(x0, .inr (5, [.ref xa, .ref xw, .ref xb, .int 0])), (xa, .inr (0, [.int 0, .ref t, .int 0])), (xw, .inl (k1, 4, .inl (zW))), (m0, .inr (7, [.ref ma, .ref mw, .int 0, .int 0])), (ma, .inr (0, [.int 0, .ref t, .int 0])), (mw, .inl (k2, 4, .inl (zW))), (o, .inl (k3, 1, .inr (.inl (fun _ => 0))))]) (hS : va_S (fun q : Nat => s.heap.size ≤ q) s.heap H locs) (ls : Array Slot) (hl : lv_has ls 9 [(5, .int 0), (4, .ref od), (3, .ref o), (2, .ref m0), (1, .ref x0), (0, .ref b)]) : W p l e room_1 s m #[Value.ref b] below meth c H locs 26 125 (lw_Z below #[Value.ref b] s) (F0 m 2191 ls []) := by
  obtain ⟨hx, hb, hr, hml, hown, hts0, hX, hbl, hlocks, hgv⟩ := id C0
  have hts : ∀ w ∈ zG, w.before #[Value.ref b] s = true := fun w h => hts0 w (zg_tbl h)
  have hA : ∀ q : Nat, s.heap.size ≤ q → (fun q : Nat => s.heap.size ≤ q) q := fun _ h => h
  have hbA : ¬ (fun q : Nat => s.heap.size ≤ q) b := Nat.not_le.mpr hbl
  refine lv_aload_n hx hb dL_law_2191 rfl (lv_at hl 4 rfl) ?_
  refine lv_aload_n hx hb dL_law_2192 rfl (lv_at hl 5 rfl) ?_
  refine lv_iload hx hb dL_law_2193 (lv_at hl 0 rfl) ?_
  refine lv_iconst (v := 1) hx hb dL_law_2195 (by decide) ?_
  refine lv_iadd hx hb dL_law_2196 ?_
  refine va_sld hx hb hX hbl hbA hS (by unfold vp_in; decide) dL_law_2197 ?_
  refine lv_topi (fun v_1 e_v_1 => ?_)
  refine lv_aload_n hx hb dL_law_2198 rfl (lv_at hl 2 rfl) ?_
  refine vx_calli (vx_runSX (As := [.ref x0, .int v_1, .ref o]) (rest := []) ⟨hx, hb, hml, hown, hts⟩ (lx_missed l hst dC dI H.size t x0 xa o (.ref xw) (.ref xb) 0 (.ref t) v_1) (vx_cwSW 3 hts (zg_S kw_1242 kw_1243 kw_63 kw_1244) rfl rfl rfl (by decide +kernel) ⟨Nat.le_of_ble_eq_true rfl, Nat.le_of_ble_eq_true rfl⟩) ⟨zA_blind, zA_pre hP hD hS hK hQ hA [0, 1] rfl rfl (by decide) [] rfl⟩ rfl rfl hl.1 rfl (lv_room (Nat.le_of_ble_eq_true rfl)) dL_law_2199 ⟨zl_b rfl, zl_b rfl⟩) hS (fun q _ h => hA q (Nat.le_trans (hS.1) h)) (fun q h => hA q (Nat.le_trans (hS.1) h)) (fun q _ h => h.elim) (fun E ce q9 u t9 H1 locs1 ht hvm hp9 hE hz1 hk1 hS1 hc1 hv1 hcl1 => hp9.elim) (fun r_2 u t9 H1 locs ht hvm hw hB hz1 hk1 hS => ?_)
  have hw : r_2 = 1 := hw
  subst hw
  have hP := zP_new hP hk1
  generalize H1 = H at hP hS ⊢
  have hP : va_P (dC, dI) zc [(x0, .inr (5, [.ref xa, .ref xw, .ref xb, .int 0])), (xa, .inr (0, [.int 0, .ref t, .int 0])), (xw, .inl (k1, 4, .inl (zW))), (m0, .inr (7, [.ref ma, .ref mw, .int 0, .int 0])), (ma, .inr (0, [.int 0, .ref t, .int 0])), (mw, .inl (k2, 4, .inl (zW))), (o, .inl (k3, 1, .inr (.inl (fun _ => 0))))] H := hP
  have hD : va_D (fun q : Nat => s.heap.size ≤ q) [(x0, .inr (5, [.ref xa, .ref xw, .ref xb, .int 0])), (xa, .inr (0, [.int 0, .ref t, .int 0])), (xw, .inl (k1, 4, .inl (zW))), (m0, .inr (7, [.ref ma, .ref mw, .int 0, .int 0])), (ma, .inr (0, [.int 0, .ref t, .int 0])), (mw, .inl (k2, 4, .inl (zW))), (o, .inl (k3, 1, .inr (.inl (fun _ => 0))))] := hD
  refine W.widen (k := 27) (n := 131) (zl_b rfl) (zl_b rfl) ?_
  refine lv_istore (lv' := [(6, .int 1), (5, .int 0), (4, .ref od), (3, .ref o), (2, .ref m0), (1, .ref x0), (0, .ref b)]) hx hb dL_law_2202 hl (by decide) rfl (fun ls hl => ?_)
  refine lv_aload_n hx hb dL_law_2204 rfl (lv_at hl 4 rfl) ?_
  refine lv_aload_n hx hb dL_law_2205 rfl (lv_at hl 6 rfl) ?_
  refine lv_iload hx hb dL_law_2206 (lv_at hl 1 rfl) ?_
  refine lv_iconst (v := 1) hx hb dL_law_2208 (by decide) ?_
  refine lv_iadd hx hb dL_law_2209 ?_
  refine va_sld hx hb hX hbl hbA hS (by unfold vp_in; decide) dL_law_2210 ?_
  refine lv_topi (fun v_3 e_v_3 => ?_)
  have s_4 : v_1 = v_3 := by rw [e_v_1, e_v_3]
  subst s_4
  have hFc := va_free (wc := [(m0, .inr (7, [.ref ma, .ref mw, .int 0, .int 0])), (ma, .inr (0, [.int 0, .ref t, .int 0]))]) hD hS hA [3, 4] rfl
  refine va_calli (va_runV (As := [.int v_1]) (rest := []) ⟨hx, hb, hml, hown, hts⟩ (m_missed l dC dI H.size t m0 ma (.ref mw) 0 0 (.ref t) v_1) (cwV 1 hts (zg_V kw_1926 kw_1927 kw_1928 kw_70 kw_1929) rfl rfl rfl (by decide +kernel) ⟨Nat.le_of_ble_eq_true rfl, Nat.le_of_ble_eq_true rfl⟩) ⟨zA_blind, va_recv hK hP (ci := 7) (q0 := 3) rfl rfl, zA_pre hP hD hS hK hQ hA [3, 4] rfl rfl (by decide) [] rfl⟩ rfl rfl hl.1 rfl (lv_room (Nat.le_of_ble_eq_true rfl)) dL_law_2211 ⟨zl_b rfl, zl_b rfl⟩) hS (fun q _ h => hFc q h) hFc (fun r_5 u t9 H1 locs ht hvm hw hB hz1 hk1 hS => ?_)
  obtain ⟨hP1, hK1, hD1⟩ := hB
  rw [ht] at hP1
  have hK1 := va_K.moved hvm.symm hK1
  obtain ⟨hP, hD⟩ := va_join (wr := [(x0, .inr (5, [.ref xa, .ref xw, .ref xb, .int 0])), (xa, .inr (0, [.int 0, .ref t, .int 0])), (xw, .inl (k1, 4, .inl (zW))), (mw, .inl (k2, 4, .inl (zW))), (o, .inl (k3, 1, .inr (.inl (fun _ => 0))))]) (w1 := [(m0, .inr (7, [.ref ma, .ref mw, .int 0, .int 1])), (ma, .inr (0, [.int 0, .ref t, .int 0]))]) hP hD [3, 4] [0, 1, 2, 5, 6] rfl rfl (by decide) (by decide) hk1 hFc hP1 hD1
  have hK := (hK.sub (tys' := [(k1, .int), (k2, .int), (k3, .long)]) [0, 1, 2] rfl).app hK1
  generalize H1 = H at hP hS ⊢
  have hP : va_P (dC, dI) zc [(x0, .inr (5, [.ref xa, .ref xw, .ref xb, .int 0])), (xa, .inr (0, [.int 0, .ref t, .int 0])), (xw, .inl (k1, 4, .inl (zW))), (mw, .inl (k2, 4, .inl (zW))), (o, .inl (k3, 1, .inr (.inl (fun _ => 0)))), (m0, .inr (7, [.ref ma, .ref mw, .int 0, .int 1])), (ma, .inr (0, [.int 0, .ref t, .int 0]))] H := hP
  have hD : va_D (fun q : Nat => s.heap.size ≤ q) [(x0, .inr (5, [.ref xa, .ref xw, .ref xb, .int 0])), (xa, .inr (0, [.int 0, .ref t, .int 0])), (xw, .inl (k1, 4, .inl (zW))), (mw, .inl (k2, 4, .inl (zW))), (o, .inl (k3, 1, .inr (.inl (fun _ => 0)))), (m0, .inr (7, [.ref ma, .ref mw, .int 0, .int 1])), (ma, .inr (0, [.int 0, .ref t, .int 0]))] := hD
  have hK : va_K (dC, dI) zc [(k1, .int), (k2, .int), (k3, .long)] s := hK
  refine lv_istore (lv' := [(7, .int r_5), (6, .int 1), (5, .int 0), (4, .ref od), (3, .ref o), (2, .ref m0), (1, .ref x0), (0, .ref b)]) hx hb dL_law_2214 hl (by decide) rfl (fun ls hl => ?_)
  refine lv_aload_n hx hb dL_law_2216 rfl (lv_at hl 5 rfl) ?_
  refine vp_callSi (W.runV (As := []) (rest := []) ⟨hx, hb, hml, hown, hts⟩ (c_thrown l dC dI H.size t m0 (.ref ma) (.ref mw) 0 1) (cwV 0 hts (zg_V kw_1365 kw_1366 kw_1367 kw_70 kw_1368) rfl rfl rfl (by decide +kernel) ⟨Nat.le_of_ble_eq_true rfl, Nat.le_of_ble_eq_true rfl⟩) ⟨zA_blind, va_recv hK hP (ci := 7) (q0 := 5) rfl rfl, zA_pre hP hD hS hK hQ hA [5] rfl rfl (by decide) [] rfl⟩ rfl rfl hl.1 rfl (lv_room (Nat.le_of_ble_eq_true rfl)) dL_law_2217 ⟨zl_b rfl, zl_b rfl⟩) (fun r hr => ?_)
  subst hr
  refine lv_iload hx hb dL_law_2220 (lv_at hl 1 rfl) ?_
  refine lv_icmp_eq (tgt := 2227) hx hb dL_law_2222 (by decide) (fun c_6 => ?_) (fun c_6 => absurd c_6 (by decide))
  refine lv_iload hx hb dL_law_2227 (lv_at hl 1 rfl) ?_
  refine lv_if_ne (tgt := 2244) hx hb dL_law_2229 (by decide) (fun c_7 => ?_) (fun c_7 => absurd c_7 (by decide))
  refine lv_goto (tgt := 2981) hx hb dL_law_2244 (by decide) ?_
  exact law_tail l C0 _ _ (zl_b rfl) (zl_b rfl) _ _ hS ls (lv_sub hl [7, 2] rfl)
set_option maxHeartbeats 4000000 in
set_option maxRecDepth 100000 in
/-- the law on isOff -/
theorem law_c29 {p : Program} {e : Env} {s : State} {m : MethodId} {below : List Frame} {meth : Method} {c : Code} {b : Nat} {xs : Nat → Int32} (l : Launch) (hst : l.stackTraces = false) (C0 : lw_At p s m meth c b 5 xs) {dC : Nat → ClassId} {dI : Nat → Nat → Nat} {t x0 xa xw xb m0 ma mw o od : Nat} {k1 k2 k3 : ClassId} (H : Heap) (locs : List Loc) (hK : va_K (dC, dI) zc [(k1, .int), (k2, .int), (k3, .long)] s) (hQ : zQ t (fun q : Nat => s.heap.size ≤ q) s s.heap) (hP : va_P (dC, dI) zc [(x0, .inr (5, [.ref xa, .ref xw, .ref xb, .int 0])), (xa, .inr (0, [.int 0, .ref t, .int 0])), (xw, .inl (k1, 4, .inl (zW))), (m0, .inr (7, [.ref ma, .ref mw, .int 0, .int 0])), (ma, .inr (0, [.int 0, .ref t, .int 0])), (mw, .inl (k2, 4, .inl (zW))), (o, .inl (k3, 1, .inr (.inl (fun _ => 0))))] H) (hD : va_D (fun q : Nat => s.heap.size ≤ q) [(x0, .inr (5, [.ref xa, .ref xw, .ref xb, .int 0])), (xa, .inr (0, [.int 0, .ref t, .int 0])), (xw, .inl (k1, 4, .inl (zW))), (m0, .inr (7, [.ref ma, .ref mw, .int 0, .int 0])), (ma, .inr (0, [.int 0, .ref t, .int 0])), (mw, .inl (k2, 4, .inl (zW))), (o, .inl (k3, 1, .inr (.inl (fun _ => 0))))]) (hS : va_S (fun q : Nat => s.heap.size ≤ q) s.heap H locs) (ls : Array Slot) (hl : lv_has ls 9 [(5, .int 0), (4, .ref od), (3, .ref o), (2, .ref m0), (1, .ref x0), (0, .ref b)]) : W p l e room_1 s m #[Value.ref b] below meth c H locs 26 125 (lw_Z below #[Value.ref b] s) (F0 m 2247 ls []) := by
  obtain ⟨hx, hb, hr, hml, hown, hts0, hX, hbl, hlocks, hgv⟩ := id C0
  have hts : ∀ w ∈ zG, w.before #[Value.ref b] s = true := fun w h => hts0 w (zg_tbl h)
  have hA : ∀ q : Nat, s.heap.size ≤ q → (fun q : Nat => s.heap.size ≤ q) q := fun _ h => h
  have hbA : ¬ (fun q : Nat => s.heap.size ≤ q) b := Nat.not_le.mpr hbl
  refine lv_aload_n hx hb dL_law_2247 rfl (lv_at hl 4 rfl) ?_
  refine lv_aload_n hx hb dL_law_2248 rfl (lv_at hl 5 rfl) ?_
  refine lv_iload hx hb dL_law_2249 (lv_at hl 0 rfl) ?_
  refine lv_iconst (v := 1) hx hb dL_law_2251 (by decide) ?_
  refine lv_iadd hx hb dL_law_2252 ?_
  refine va_sld hx hb hX hbl hbA hS (by unfold vp_in; decide) dL_law_2253 ?_
  refine lv_topi (fun v_1 e_v_1 => ?_)
  refine lv_aload_n hx hb dL_law_2254 rfl (lv_at hl 2 rfl) ?_
  refine vx_calli (vx_runSX (As := [.ref x0, .int v_1, .ref o]) (rest := []) ⟨hx, hb, hml, hown, hts⟩ (lx_isOff l hst dC dI H.size t x0 xa o (.ref xw) (.ref xb) 0 (.ref t) v_1) (vx_cwSW 3 hts (zg_S kw_1249 kw_1250 kw_63 kw_1251) rfl rfl rfl (by decide +kernel) ⟨Nat.le_of_ble_eq_true rfl, Nat.le_of_ble_eq_true rfl⟩) ⟨zA_blind, zA_pre hP hD hS hK hQ hA [0, 1] rfl rfl (by decide) [] rfl⟩ rfl rfl hl.1 rfl (lv_room (Nat.le_of_ble_eq_true rfl)) dL_law_2255 ⟨zl_b rfl, zl_b rfl⟩) hS (fun q _ h => hA q (Nat.le_trans (hS.1) h)) (fun q h => hA q (Nat.le_trans (hS.1) h)) (fun q _ h => h.elim) (fun E ce q9 u t9 H1 locs1 ht hvm hp9 hE hz1 hk1 hS1 hc1 hv1 hcl1 => hp9.elim) (fun r_2 u t9 H1 locs ht hvm hw hB hz1 hk1 hS => ?_)
  have hw : r_2 = 1 := hw
  subst hw
  have hP := zP_new hP hk1
  generalize H1 = H at hP hS ⊢
  have hP : va_P (dC, dI) zc [(x0, .inr (5, [.ref xa, .ref xw, .ref xb, .int 0])), (xa, .inr (0, [.int 0, .ref t, .int 0])), (xw, .inl (k1, 4, .inl (zW))), (m0, .inr (7, [.ref ma, .ref mw, .int 0, .int 0])), (ma, .inr (0, [.int 0, .ref t, .int 0])), (mw, .inl (k2, 4, .inl (zW))), (o, .inl (k3, 1, .inr (.inl (fun _ => 0))))] H := hP
  have hD : va_D (fun q : Nat => s.heap.size ≤ q) [(x0, .inr (5, [.ref xa, .ref xw, .ref xb, .int 0])), (xa, .inr (0, [.int 0, .ref t, .int 0])), (xw, .inl (k1, 4, .inl (zW))), (m0, .inr (7, [.ref ma, .ref mw, .int 0, .int 0])), (ma, .inr (0, [.int 0, .ref t, .int 0])), (mw, .inl (k2, 4, .inl (zW))), (o, .inl (k3, 1, .inr (.inl (fun _ => 0))))] := hD
  refine W.widen (k := 27) (n := 131) (zl_b rfl) (zl_b rfl) ?_
  refine lv_istore (lv' := [(6, .int 1), (5, .int 0), (4, .ref od), (3, .ref o), (2, .ref m0), (1, .ref x0), (0, .ref b)]) hx hb dL_law_2258 hl (by decide) rfl (fun ls hl => ?_)
  refine lv_aload_n hx hb dL_law_2260 rfl (lv_at hl 4 rfl) ?_
  refine lv_aload_n hx hb dL_law_2261 rfl (lv_at hl 6 rfl) ?_
  refine lv_iload hx hb dL_law_2262 (lv_at hl 1 rfl) ?_
  refine lv_iconst (v := 1) hx hb dL_law_2264 (by decide) ?_
  refine lv_iadd hx hb dL_law_2265 ?_
  refine va_sld hx hb hX hbl hbA hS (by unfold vp_in; decide) dL_law_2266 ?_
  refine lv_topi (fun v_3 e_v_3 => ?_)
  have s_4 : v_1 = v_3 := by rw [e_v_1, e_v_3]
  subst s_4
  have hFc := va_free (wc := [(m0, .inr (7, [.ref ma, .ref mw, .int 0, .int 0])), (ma, .inr (0, [.int 0, .ref t, .int 0]))]) hD hS hA [3, 4] rfl
  refine va_calli (va_runV (As := [.int v_1]) (rest := []) ⟨hx, hb, hml, hown, hts⟩ (m_isOff l dC dI H.size t m0 ma (.ref mw) 0 0 (.ref t) v_1) (cwV 1 hts (zg_V kw_1934 kw_1935 kw_1936 kw_70 kw_1937) rfl rfl rfl (by decide +kernel) ⟨Nat.le_of_ble_eq_true rfl, Nat.le_of_ble_eq_true rfl⟩) ⟨zA_blind, va_recv hK hP (ci := 7) (q0 := 3) rfl rfl, zA_pre hP hD hS hK hQ hA [3, 4] rfl rfl (by decide) [] rfl⟩ rfl rfl hl.1 rfl (lv_room (Nat.le_of_ble_eq_true rfl)) dL_law_2267 ⟨zl_b rfl, zl_b rfl⟩) hS (fun q _ h => hFc q h) hFc (fun r_5 u t9 H1 locs ht hvm hw hB hz1 hk1 hS => ?_)
  obtain ⟨hP1, hK1, hD1⟩ := hB
  rw [ht] at hP1
  have hK1 := va_K.moved hvm.symm hK1
  obtain ⟨hP, hD⟩ := va_join (wr := [(x0, .inr (5, [.ref xa, .ref xw, .ref xb, .int 0])), (xa, .inr (0, [.int 0, .ref t, .int 0])), (xw, .inl (k1, 4, .inl (zW))), (mw, .inl (k2, 4, .inl (zW))), (o, .inl (k3, 1, .inr (.inl (fun _ => 0))))]) (w1 := [(m0, .inr (7, [.ref ma, .ref mw, .int 0, .int 1])), (ma, .inr (0, [.int 0, .ref t, .int 0]))]) hP hD [3, 4] [0, 1, 2, 5, 6] rfl rfl (by decide) (by decide) hk1 hFc hP1 hD1
  have hK := (hK.sub (tys' := [(k1, .int), (k2, .int), (k3, .long)]) [0, 1, 2] rfl).app hK1
  generalize H1 = H at hP hS ⊢
  have hP : va_P (dC, dI) zc [(x0, .inr (5, [.ref xa, .ref xw, .ref xb, .int 0])), (xa, .inr (0, [.int 0, .ref t, .int 0])), (xw, .inl (k1, 4, .inl (zW))), (mw, .inl (k2, 4, .inl (zW))), (o, .inl (k3, 1, .inr (.inl (fun _ => 0)))), (m0, .inr (7, [.ref ma, .ref mw, .int 0, .int 1])), (ma, .inr (0, [.int 0, .ref t, .int 0]))] H := hP
  have hD : va_D (fun q : Nat => s.heap.size ≤ q) [(x0, .inr (5, [.ref xa, .ref xw, .ref xb, .int 0])), (xa, .inr (0, [.int 0, .ref t, .int 0])), (xw, .inl (k1, 4, .inl (zW))), (mw, .inl (k2, 4, .inl (zW))), (o, .inl (k3, 1, .inr (.inl (fun _ => 0)))), (m0, .inr (7, [.ref ma, .ref mw, .int 0, .int 1])), (ma, .inr (0, [.int 0, .ref t, .int 0]))] := hD
  have hK : va_K (dC, dI) zc [(k1, .int), (k2, .int), (k3, .long)] s := hK
  refine lv_istore (lv' := [(7, .int r_5), (6, .int 1), (5, .int 0), (4, .ref od), (3, .ref o), (2, .ref m0), (1, .ref x0), (0, .ref b)]) hx hb dL_law_2270 hl (by decide) rfl (fun ls hl => ?_)
  refine lv_aload_n hx hb dL_law_2272 rfl (lv_at hl 5 rfl) ?_
  refine vp_callSi (W.runV (As := []) (rest := []) ⟨hx, hb, hml, hown, hts⟩ (c_thrown l dC dI H.size t m0 (.ref ma) (.ref mw) 0 1) (cwV 0 hts (zg_V kw_1365 kw_1366 kw_1367 kw_70 kw_1368) rfl rfl rfl (by decide +kernel) ⟨Nat.le_of_ble_eq_true rfl, Nat.le_of_ble_eq_true rfl⟩) ⟨zA_blind, va_recv hK hP (ci := 7) (q0 := 5) rfl rfl, zA_pre hP hD hS hK hQ hA [5] rfl rfl (by decide) [] rfl⟩ rfl rfl hl.1 rfl (lv_room (Nat.le_of_ble_eq_true rfl)) dL_law_2273 ⟨zl_b rfl, zl_b rfl⟩) (fun r hr => ?_)
  subst hr
  refine lv_iload hx hb dL_law_2276 (lv_at hl 1 rfl) ?_
  refine lv_icmp_eq (tgt := 2283) hx hb dL_law_2278 (by decide) (fun c_6 => ?_) (fun c_6 => absurd c_6 (by decide))
  refine lv_iload hx hb dL_law_2283 (lv_at hl 1 rfl) ?_
  refine lv_if_ne (tgt := 2307) hx hb dL_law_2285 (by decide) (fun c_7 => ?_) (fun c_7 => absurd c_7 (by decide))
  refine lv_goto (tgt := 2981) hx hb dL_law_2307 (by decide) ?_
  exact law_tail l C0 _ _ (zl_b rfl) (zl_b rfl) _ _ hS ls (lv_sub hl [7, 2] rfl)
set_option maxHeartbeats 4000000 in
set_option maxRecDepth 100000 in
/-- the law on points -/
theorem law_c30 {p : Program} {e : Env} {s : State} {m : MethodId} {below : List Frame} {meth : Method} {c : Code} {b : Nat} {xs : Nat → Int32} (l : Launch) (hst : l.stackTraces = false) (C0 : lw_At p s m meth c b 5 xs) {dC : Nat → ClassId} {dI : Nat → Nat → Nat} {t x0 xa xw xb m0 ma mw o od : Nat} {k1 k2 k3 : ClassId} (H : Heap) (locs : List Loc) (hK : va_K (dC, dI) zc [(k1, .int), (k2, .int), (k3, .long)] s) (hQ : zQ t (fun q : Nat => s.heap.size ≤ q) s s.heap) (hP : va_P (dC, dI) zc [(x0, .inr (5, [.ref xa, .ref xw, .ref xb, .int 0])), (xa, .inr (0, [.int 0, .ref t, .int 0])), (xw, .inl (k1, 4, .inl (zW))), (m0, .inr (7, [.ref ma, .ref mw, .int 0, .int 0])), (ma, .inr (0, [.int 0, .ref t, .int 0])), (mw, .inl (k2, 4, .inl (zW))), (o, .inl (k3, 1, .inr (.inl (fun _ => 0))))] H) (hD : va_D (fun q : Nat => s.heap.size ≤ q) [(x0, .inr (5, [.ref xa, .ref xw, .ref xb, .int 0])), (xa, .inr (0, [.int 0, .ref t, .int 0])), (xw, .inl (k1, 4, .inl (zW))), (m0, .inr (7, [.ref ma, .ref mw, .int 0, .int 0])), (ma, .inr (0, [.int 0, .ref t, .int 0])), (mw, .inl (k2, 4, .inl (zW))), (o, .inl (k3, 1, .inr (.inl (fun _ => 0))))]) (hS : va_S (fun q : Nat => s.heap.size ≤ q) s.heap H locs) (ls : Array Slot) (hl : lv_has ls 9 [(5, .int 0), (4, .ref od), (3, .ref o), (2, .ref m0), (1, .ref x0), (0, .ref b)]) : W p l e room_1 s m #[Value.ref b] below meth c H locs 26 125 (lw_Z below #[Value.ref b] s) (F0 m 2310 ls []) := by
  obtain ⟨hx, hb, hr, hml, hown, hts0, hX, hbl, hlocks, hgv⟩ := id C0
  have hts : ∀ w ∈ zG, w.before #[Value.ref b] s = true := fun w h => hts0 w (zg_tbl h)
  have hA : ∀ q : Nat, s.heap.size ≤ q → (fun q : Nat => s.heap.size ≤ q) q := fun _ h => h
  have hbA : ¬ (fun q : Nat => s.heap.size ≤ q) b := Nat.not_le.mpr hbl
  refine lv_aload_n hx hb dL_law_2310 rfl (lv_at hl 4 rfl) ?_
  refine lv_aload_n hx hb dL_law_2311 rfl (lv_at hl 5 rfl) ?_
  refine lv_iload hx hb dL_law_2312 (lv_at hl 0 rfl) ?_
  refine lv_iconst (v := 1) hx hb dL_law_2314 (by decide) ?_
  refine lv_iadd hx hb dL_law_2315 ?_
  refine va_sld hx hb hX hbl hbA hS (by unfold vp_in; decide) dL_law_2316 ?_
  refine lv_topi (fun v_1 e_v_1 => ?_)
  refine lv_aload_n hx hb dL_law_2317 rfl (lv_at hl 2 rfl) ?_
  refine vx_calli (vx_runSX (As := [.ref x0, .int v_1, .ref o]) (rest := []) ⟨hx, hb, hml, hown, hts⟩ (lx_points l hst dC dI H.size t x0 xa o (.ref xw) (.ref xb) 0 (.ref t) v_1) (vx_cwSW 3 hts (zg_S kw_1256 kw_1257 kw_63 kw_1258) rfl rfl rfl (by decide +kernel) ⟨Nat.le_of_ble_eq_true rfl, Nat.le_of_ble_eq_true rfl⟩) ⟨zA_blind, zA_pre hP hD hS hK hQ hA [0, 1] rfl rfl (by decide) [] rfl⟩ rfl rfl hl.1 rfl (lv_room (Nat.le_of_ble_eq_true rfl)) dL_law_2318 ⟨zl_b rfl, zl_b rfl⟩) hS (fun q _ h => hA q (Nat.le_trans (hS.1) h)) (fun q h => hA q (Nat.le_trans (hS.1) h)) (fun q _ h => h.elim) (fun E ce q9 u t9 H1 locs1 ht hvm hp9 hE hz1 hk1 hS1 hc1 hv1 hcl1 => hp9.elim) (fun r_2 u t9 H1 locs ht hvm hw hB hz1 hk1 hS => ?_)
  have hw : r_2 = 1 := hw
  subst hw
  have hP := zP_new hP hk1
  generalize H1 = H at hP hS ⊢
  have hP : va_P (dC, dI) zc [(x0, .inr (5, [.ref xa, .ref xw, .ref xb, .int 0])), (xa, .inr (0, [.int 0, .ref t, .int 0])), (xw, .inl (k1, 4, .inl (zW))), (m0, .inr (7, [.ref ma, .ref mw, .int 0, .int 0])), (ma, .inr (0, [.int 0, .ref t, .int 0])), (mw, .inl (k2, 4, .inl (zW))), (o, .inl (k3, 1, .inr (.inl (fun _ => 0))))] H := hP
  have hD : va_D (fun q : Nat => s.heap.size ≤ q) [(x0, .inr (5, [.ref xa, .ref xw, .ref xb, .int 0])), (xa, .inr (0, [.int 0, .ref t, .int 0])), (xw, .inl (k1, 4, .inl (zW))), (m0, .inr (7, [.ref ma, .ref mw, .int 0, .int 0])), (ma, .inr (0, [.int 0, .ref t, .int 0])), (mw, .inl (k2, 4, .inl (zW))), (o, .inl (k3, 1, .inr (.inl (fun _ => 0))))] := hD
  refine W.widen (k := 27) (n := 131) (zl_b rfl) (zl_b rfl) ?_
  refine lv_istore (lv' := [(6, .int 1), (5, .int 0), (4, .ref od), (3, .ref o), (2, .ref m0), (1, .ref x0), (0, .ref b)]) hx hb dL_law_2321 hl (by decide) rfl (fun ls hl => ?_)
  refine lv_aload_n hx hb dL_law_2323 rfl (lv_at hl 4 rfl) ?_
  refine lv_aload_n hx hb dL_law_2324 rfl (lv_at hl 6 rfl) ?_
  refine lv_iload hx hb dL_law_2325 (lv_at hl 1 rfl) ?_
  refine lv_iconst (v := 1) hx hb dL_law_2327 (by decide) ?_
  refine lv_iadd hx hb dL_law_2328 ?_
  refine va_sld hx hb hX hbl hbA hS (by unfold vp_in; decide) dL_law_2329 ?_
  refine lv_topi (fun v_3 e_v_3 => ?_)
  have s_4 : v_1 = v_3 := by rw [e_v_1, e_v_3]
  subst s_4
  have hFc := va_free (wc := [(m0, .inr (7, [.ref ma, .ref mw, .int 0, .int 0])), (ma, .inr (0, [.int 0, .ref t, .int 0]))]) hD hS hA [3, 4] rfl
  refine va_calll (va_runV (As := [.int v_1]) (rest := []) ⟨hx, hb, hml, hown, hts⟩ (m_points l dC dI H.size t m0 ma (.ref mw) 0 0 (.ref t) v_1) (cwV 1 hts (zg_V kw_1938 kw_1939 kw_1940 kw_70 kw_1941) rfl rfl rfl (by decide +kernel) ⟨Nat.le_of_ble_eq_true rfl, Nat.le_of_ble_eq_true rfl⟩) ⟨zA_blind, va_recv hK hP (ci := 7) (q0 := 3) rfl rfl, zA_pre hP hD hS hK hQ hA [3, 4] rfl rfl (by decide) [] rfl⟩ rfl rfl hl.1 rfl (lv_room (Nat.le_of_ble_eq_true rfl)) dL_law_2330 ⟨zl_b rfl, zl_b rfl⟩) hS (fun q _ h => hFc q h) hFc (fun r_5 u t9 H1 locs ht hvm hw hB hz1 hk1 hS => ?_)
  obtain ⟨hP1, hK1, hD1⟩ := hB
  rw [ht] at hP1
  have hK1 := va_K.moved hvm.symm hK1
  obtain ⟨hP, hD⟩ := va_join (wr := [(x0, .inr (5, [.ref xa, .ref xw, .ref xb, .int 0])), (xa, .inr (0, [.int 0, .ref t, .int 0])), (xw, .inl (k1, 4, .inl (zW))), (mw, .inl (k2, 4, .inl (zW))), (o, .inl (k3, 1, .inr (.inl (fun _ => 0))))]) (w1 := [(m0, .inr (7, [.ref ma, .ref mw, .int 0, .int 1])), (ma, .inr (0, [.int 0, .ref t, .int 0]))]) hP hD [3, 4] [0, 1, 2, 5, 6] rfl rfl (by decide) (by decide) hk1 hFc hP1 hD1
  have hK := (hK.sub (tys' := [(k1, .int), (k2, .int), (k3, .long)]) [0, 1, 2] rfl).app hK1
  generalize H1 = H at hP hS ⊢
  have hP : va_P (dC, dI) zc [(x0, .inr (5, [.ref xa, .ref xw, .ref xb, .int 0])), (xa, .inr (0, [.int 0, .ref t, .int 0])), (xw, .inl (k1, 4, .inl (zW))), (mw, .inl (k2, 4, .inl (zW))), (o, .inl (k3, 1, .inr (.inl (fun _ => 0)))), (m0, .inr (7, [.ref ma, .ref mw, .int 0, .int 1])), (ma, .inr (0, [.int 0, .ref t, .int 0]))] H := hP
  have hD : va_D (fun q : Nat => s.heap.size ≤ q) [(x0, .inr (5, [.ref xa, .ref xw, .ref xb, .int 0])), (xa, .inr (0, [.int 0, .ref t, .int 0])), (xw, .inl (k1, 4, .inl (zW))), (mw, .inl (k2, 4, .inl (zW))), (o, .inl (k3, 1, .inr (.inl (fun _ => 0)))), (m0, .inr (7, [.ref ma, .ref mw, .int 0, .int 1])), (ma, .inr (0, [.int 0, .ref t, .int 0]))] := hD
  have hK : va_K (dC, dI) zc [(k1, .int), (k2, .int), (k3, .long)] s := hK
  refine lv_lstore (lv' := [(7, .long r_5), (6, .int 1), (5, .int 0), (4, .ref od), (3, .ref o), (2, .ref m0), (1, .ref x0), (0, .ref b)]) hx hb dL_law_2333 hl (by decide) rfl (fun ls hl => ?_)
  refine lv_aload_n hx hb dL_law_2335 rfl (lv_at hl 5 rfl) ?_
  refine vp_callSi (W.runV (As := []) (rest := []) ⟨hx, hb, hml, hown, hts⟩ (c_thrown l dC dI H.size t m0 (.ref ma) (.ref mw) 0 1) (cwV 0 hts (zg_V kw_1365 kw_1366 kw_1367 kw_70 kw_1368) rfl rfl rfl (by decide +kernel) ⟨Nat.le_of_ble_eq_true rfl, Nat.le_of_ble_eq_true rfl⟩) ⟨zA_blind, va_recv hK hP (ci := 7) (q0 := 5) rfl rfl, zA_pre hP hD hS hK hQ hA [5] rfl rfl (by decide) [] rfl⟩ rfl rfl hl.1 rfl (lv_room (Nat.le_of_ble_eq_true rfl)) dL_law_2336 ⟨zl_b rfl, zl_b rfl⟩) (fun r hr => ?_)
  subst hr
  refine lv_iload hx hb dL_law_2339 (lv_at hl 1 rfl) ?_
  refine lv_icmp_eq (tgt := 2346) hx hb dL_law_2341 (by decide) (fun c_6 => ?_) (fun c_6 => absurd c_6 (by decide))
  refine lv_iload hx hb dL_law_2346 (lv_at hl 1 rfl) ?_
  refine lv_if_ne (tgt := 2362) hx hb dL_law_2348 (by decide) (fun c_7 => ?_) (fun c_7 => absurd c_7 (by decide))
  refine lv_goto (tgt := 2981) hx hb dL_law_2362 (by decide) ?_
  exact law_tail l C0 _ _ (zl_b rfl) (zl_b rfl) _ _ hS ls (lv_sub hl [7, 2] rfl)
set_option maxHeartbeats 4000000 in
set_option maxRecDepth 100000 in
/-- the law on events -/
theorem law_c31 {p : Program} {e : Env} {s : State} {m : MethodId} {below : List Frame} {meth : Method} {c : Code} {b : Nat} {xs : Nat → Int32} (l : Launch) (hst : l.stackTraces = false) (C0 : lw_At p s m meth c b 5 xs) {dC : Nat → ClassId} {dI : Nat → Nat → Nat} {t x0 xa xw xb m0 ma mw o od : Nat} {k1 k2 k3 : ClassId} (H : Heap) (locs : List Loc) (hK : va_K (dC, dI) zc [(k1, .int), (k2, .int), (k3, .long)] s) (hQ : zQ t (fun q : Nat => s.heap.size ≤ q) s s.heap) (hP : va_P (dC, dI) zc [(x0, .inr (5, [.ref xa, .ref xw, .ref xb, .int 0])), (xa, .inr (0, [.int 0, .ref t, .int 0])), (xw, .inl (k1, 4, .inl (zW))), (m0, .inr (7, [.ref ma, .ref mw, .int 0, .int 0])), (ma, .inr (0, [.int 0, .ref t, .int 0])), (mw, .inl (k2, 4, .inl (zW))), (o, .inl (k3, 1, .inr (.inl (fun _ => 0))))] H) (hD : va_D (fun q : Nat => s.heap.size ≤ q) [(x0, .inr (5, [.ref xa, .ref xw, .ref xb, .int 0])), (xa, .inr (0, [.int 0, .ref t, .int 0])), (xw, .inl (k1, 4, .inl (zW))), (m0, .inr (7, [.ref ma, .ref mw, .int 0, .int 0])), (ma, .inr (0, [.int 0, .ref t, .int 0])), (mw, .inl (k2, 4, .inl (zW))), (o, .inl (k3, 1, .inr (.inl (fun _ => 0))))]) (hS : va_S (fun q : Nat => s.heap.size ≤ q) s.heap H locs) (ls : Array Slot) (hl : lv_has ls 9 [(5, .int 0), (4, .ref od), (3, .ref o), (2, .ref m0), (1, .ref x0), (0, .ref b)]) : W p l e room_1 s m #[Value.ref b] below meth c H locs 26 125 (lw_Z below #[Value.ref b] s) (F0 m 2365 ls []) := by
  obtain ⟨hx, hb, hr, hml, hown, hts0, hX, hbl, hlocks, hgv⟩ := id C0
  have hts : ∀ w ∈ zG, w.before #[Value.ref b] s = true := fun w h => hts0 w (zg_tbl h)
  have hA : ∀ q : Nat, s.heap.size ≤ q → (fun q : Nat => s.heap.size ≤ q) q := fun _ h => h
  have hbA : ¬ (fun q : Nat => s.heap.size ≤ q) b := Nat.not_le.mpr hbl
  refine lv_aload_n hx hb dL_law_2365 rfl (lv_at hl 4 rfl) ?_
  refine lv_aload_n hx hb dL_law_2366 rfl (lv_at hl 5 rfl) ?_
  refine lv_iload hx hb dL_law_2367 (lv_at hl 0 rfl) ?_
  refine lv_iconst (v := 1) hx hb dL_law_2369 (by decide) ?_
  refine lv_iadd hx hb dL_law_2370 ?_
  refine va_sld hx hb hX hbl hbA hS (by unfold vp_in; decide) dL_law_2371 ?_
  refine lv_topi (fun v_1 e_v_1 => ?_)
  refine lv_aload_n hx hb dL_law_2372 rfl (lv_at hl 2 rfl) ?_
  refine vx_calli (vx_runSX (As := [.ref x0, .int v_1, .ref o]) (rest := []) ⟨hx, hb, hml, hown, hts⟩ (lx_events l hst dC dI H.size t x0 xa o (.ref xw) (.ref xb) 0 (.ref t) v_1) (vx_cwSW 3 hts (zg_S kw_1263 kw_1264 kw_63 kw_1265) rfl rfl rfl (by decide +kernel) ⟨Nat.le_of_ble_eq_true rfl, Nat.le_of_ble_eq_true rfl⟩) ⟨zA_blind, zA_pre hP hD hS hK hQ hA [0, 1] rfl rfl (by decide) [] rfl⟩ rfl rfl hl.1 rfl (lv_room (Nat.le_of_ble_eq_true rfl)) dL_law_2373 ⟨zl_b rfl, zl_b rfl⟩) hS (fun q _ h => hA q (Nat.le_trans (hS.1) h)) (fun q h => hA q (Nat.le_trans (hS.1) h)) (fun q _ h => h.elim) (fun E ce q9 u t9 H1 locs1 ht hvm hp9 hE hz1 hk1 hS1 hc1 hv1 hcl1 => hp9.elim) (fun r_2 u t9 H1 locs ht hvm hw hB hz1 hk1 hS => ?_)
  have hw : r_2 = 1 := hw
  subst hw
  have hP := zP_new hP hk1
  generalize H1 = H at hP hS ⊢
  have hP : va_P (dC, dI) zc [(x0, .inr (5, [.ref xa, .ref xw, .ref xb, .int 0])), (xa, .inr (0, [.int 0, .ref t, .int 0])), (xw, .inl (k1, 4, .inl (zW))), (m0, .inr (7, [.ref ma, .ref mw, .int 0, .int 0])), (ma, .inr (0, [.int 0, .ref t, .int 0])), (mw, .inl (k2, 4, .inl (zW))), (o, .inl (k3, 1, .inr (.inl (fun _ => 0))))] H := hP
  have hD : va_D (fun q : Nat => s.heap.size ≤ q) [(x0, .inr (5, [.ref xa, .ref xw, .ref xb, .int 0])), (xa, .inr (0, [.int 0, .ref t, .int 0])), (xw, .inl (k1, 4, .inl (zW))), (m0, .inr (7, [.ref ma, .ref mw, .int 0, .int 0])), (ma, .inr (0, [.int 0, .ref t, .int 0])), (mw, .inl (k2, 4, .inl (zW))), (o, .inl (k3, 1, .inr (.inl (fun _ => 0))))] := hD
  refine W.widen (k := 27) (n := 131) (zl_b rfl) (zl_b rfl) ?_
  refine lv_istore (lv' := [(6, .int 1), (5, .int 0), (4, .ref od), (3, .ref o), (2, .ref m0), (1, .ref x0), (0, .ref b)]) hx hb dL_law_2376 hl (by decide) rfl (fun ls hl => ?_)
  refine lv_aload_n hx hb dL_law_2378 rfl (lv_at hl 4 rfl) ?_
  refine lv_aload_n hx hb dL_law_2379 rfl (lv_at hl 6 rfl) ?_
  refine lv_iload hx hb dL_law_2380 (lv_at hl 1 rfl) ?_
  refine lv_iconst (v := 1) hx hb dL_law_2382 (by decide) ?_
  refine lv_iadd hx hb dL_law_2383 ?_
  refine va_sld hx hb hX hbl hbA hS (by unfold vp_in; decide) dL_law_2384 ?_
  refine lv_topi (fun v_3 e_v_3 => ?_)
  have s_4 : v_1 = v_3 := by rw [e_v_1, e_v_3]
  subst s_4
  have hFc := va_free (wc := [(m0, .inr (7, [.ref ma, .ref mw, .int 0, .int 0])), (ma, .inr (0, [.int 0, .ref t, .int 0]))]) hD hS hA [3, 4] rfl
  refine va_calli (va_runV (As := [.int v_1]) (rest := []) ⟨hx, hb, hml, hown, hts⟩ (m_events l dC dI H.size t m0 ma (.ref mw) 0 0 (.ref t) v_1) (cwV 1 hts (zg_V kw_1942 kw_1943 kw_1944 kw_70 kw_1945) rfl rfl rfl (by decide +kernel) ⟨Nat.le_of_ble_eq_true rfl, Nat.le_of_ble_eq_true rfl⟩) ⟨zA_blind, va_recv hK hP (ci := 7) (q0 := 3) rfl rfl, zA_pre hP hD hS hK hQ hA [3, 4] rfl rfl (by decide) [] rfl⟩ rfl rfl hl.1 rfl (lv_room (Nat.le_of_ble_eq_true rfl)) dL_law_2385 ⟨zl_b rfl, zl_b rfl⟩) hS (fun q _ h => hFc q h) hFc (fun r_5 u t9 H1 locs ht hvm hw hB hz1 hk1 hS => ?_)
  obtain ⟨hP1, hK1, hD1⟩ := hB
  rw [ht] at hP1
  have hK1 := va_K.moved hvm.symm hK1
  obtain ⟨hP, hD⟩ := va_join (wr := [(x0, .inr (5, [.ref xa, .ref xw, .ref xb, .int 0])), (xa, .inr (0, [.int 0, .ref t, .int 0])), (xw, .inl (k1, 4, .inl (zW))), (mw, .inl (k2, 4, .inl (zW))), (o, .inl (k3, 1, .inr (.inl (fun _ => 0))))]) (w1 := [(m0, .inr (7, [.ref ma, .ref mw, .int 0, .int 1])), (ma, .inr (0, [.int 0, .ref t, .int 0]))]) hP hD [3, 4] [0, 1, 2, 5, 6] rfl rfl (by decide) (by decide) hk1 hFc hP1 hD1
  have hK := (hK.sub (tys' := [(k1, .int), (k2, .int), (k3, .long)]) [0, 1, 2] rfl).app hK1
  generalize H1 = H at hP hS ⊢
  have hP : va_P (dC, dI) zc [(x0, .inr (5, [.ref xa, .ref xw, .ref xb, .int 0])), (xa, .inr (0, [.int 0, .ref t, .int 0])), (xw, .inl (k1, 4, .inl (zW))), (mw, .inl (k2, 4, .inl (zW))), (o, .inl (k3, 1, .inr (.inl (fun _ => 0)))), (m0, .inr (7, [.ref ma, .ref mw, .int 0, .int 1])), (ma, .inr (0, [.int 0, .ref t, .int 0]))] H := hP
  have hD : va_D (fun q : Nat => s.heap.size ≤ q) [(x0, .inr (5, [.ref xa, .ref xw, .ref xb, .int 0])), (xa, .inr (0, [.int 0, .ref t, .int 0])), (xw, .inl (k1, 4, .inl (zW))), (mw, .inl (k2, 4, .inl (zW))), (o, .inl (k3, 1, .inr (.inl (fun _ => 0)))), (m0, .inr (7, [.ref ma, .ref mw, .int 0, .int 1])), (ma, .inr (0, [.int 0, .ref t, .int 0]))] := hD
  have hK : va_K (dC, dI) zc [(k1, .int), (k2, .int), (k3, .long)] s := hK
  refine lv_istore (lv' := [(7, .int r_5), (6, .int 1), (5, .int 0), (4, .ref od), (3, .ref o), (2, .ref m0), (1, .ref x0), (0, .ref b)]) hx hb dL_law_2388 hl (by decide) rfl (fun ls hl => ?_)
  refine lv_aload_n hx hb dL_law_2390 rfl (lv_at hl 5 rfl) ?_
  refine vp_callSi (W.runV (As := []) (rest := []) ⟨hx, hb, hml, hown, hts⟩ (c_thrown l dC dI H.size t m0 (.ref ma) (.ref mw) 0 1) (cwV 0 hts (zg_V kw_1365 kw_1366 kw_1367 kw_70 kw_1368) rfl rfl rfl (by decide +kernel) ⟨Nat.le_of_ble_eq_true rfl, Nat.le_of_ble_eq_true rfl⟩) ⟨zA_blind, va_recv hK hP (ci := 7) (q0 := 5) rfl rfl, zA_pre hP hD hS hK hQ hA [5] rfl rfl (by decide) [] rfl⟩ rfl rfl hl.1 rfl (lv_room (Nat.le_of_ble_eq_true rfl)) dL_law_2391 ⟨zl_b rfl, zl_b rfl⟩) (fun r hr => ?_)
  subst hr
  refine lv_iload hx hb dL_law_2394 (lv_at hl 1 rfl) ?_
  refine lv_icmp_eq (tgt := 2401) hx hb dL_law_2396 (by decide) (fun c_6 => ?_) (fun c_6 => absurd c_6 (by decide))
  refine lv_iload hx hb dL_law_2401 (lv_at hl 1 rfl) ?_
  refine lv_if_ne (tgt := 2418) hx hb dL_law_2403 (by decide) (fun c_7 => ?_) (fun c_7 => absurd c_7 (by decide))
  refine lv_goto (tgt := 2981) hx hb dL_law_2418 (by decide) ?_
  exact law_tail l C0 _ _ (zl_b rfl) (zl_b rfl) _ _ hS ls (lv_sub hl [7, 2] rfl)
set_option maxHeartbeats 4000000 in
set_option maxRecDepth 100000 in
/-- the law on kindOf -/
theorem law_c32 {p : Program} {e : Env} {s : State} {m : MethodId} {below : List Frame} {meth : Method} {c : Code} {b : Nat} {xs : Nat → Int32} (l : Launch) (hst : l.stackTraces = false) (C0 : lw_At p s m meth c b 5 xs) {dC : Nat → ClassId} {dI : Nat → Nat → Nat} {t x0 xa xw xb m0 ma mw o od : Nat} {k1 k2 k3 : ClassId} (H : Heap) (locs : List Loc) (hK : va_K (dC, dI) zc [(k1, .int), (k2, .int), (k3, .long)] s) (hQ : zQ t (fun q : Nat => s.heap.size ≤ q) s s.heap) (hP : va_P (dC, dI) zc [(x0, .inr (5, [.ref xa, .ref xw, .ref xb, .int 0])), (xa, .inr (0, [.int 0, .ref t, .int 0])), (xw, .inl (k1, 4, .inl (zW))), (m0, .inr (7, [.ref ma, .ref mw, .int 0, .int 0])), (ma, .inr (0, [.int 0, .ref t, .int 0])), (mw, .inl (k2, 4, .inl (zW))), (o, .inl (k3, 1, .inr (.inl (fun _ => 0))))] H) (hD : va_D (fun q : Nat => s.heap.size ≤ q) [(x0, .inr (5, [.ref xa, .ref xw, .ref xb, .int 0])), (xa, .inr (0, [.int 0, .ref t, .int 0])), (xw, .inl (k1, 4, .inl (zW))), (m0, .inr (7, [.ref ma, .ref mw, .int 0, .int 0])), (ma, .inr (0, [.int 0, .ref t, .int 0])), (mw, .inl (k2, 4, .inl (zW))), (o, .inl (k3, 1, .inr (.inl (fun _ => 0))))]) (hS : va_S (fun q : Nat => s.heap.size ≤ q) s.heap H locs) (ls : Array Slot) (hl : lv_has ls 9 [(5, .int 0), (4, .ref od), (3, .ref o), (2, .ref m0), (1, .ref x0), (0, .ref b)]) : W p l e room_1 s m #[Value.ref b] below meth c H locs 26 125 (lw_Z below #[Value.ref b] s) (F0 m 2421 ls []) := by
  obtain ⟨hx, hb, hr, hml, hown, hts0, hX, hbl, hlocks, hgv⟩ := id C0
  have hts : ∀ w ∈ zG, w.before #[Value.ref b] s = true := fun w h => hts0 w (zg_tbl h)
  have hA : ∀ q : Nat, s.heap.size ≤ q → (fun q : Nat => s.heap.size ≤ q) q := fun _ h => h
  have hbA : ¬ (fun q : Nat => s.heap.size ≤ q) b := Nat.not_le.mpr hbl
  refine lv_aload_n hx hb dL_law_2421 rfl (lv_at hl 4 rfl) ?_
  refine lv_aload_n hx hb dL_law_2422 rfl (lv_at hl 5 rfl) ?_
  refine lv_iload hx hb dL_law_2423 (lv_at hl 0 rfl) ?_
  refine lv_iconst (v := 1) hx hb dL_law_2425 (by decide) ?_
  refine lv_iadd hx hb dL_law_2426 ?_
  refine va_sld hx hb hX hbl hbA hS (by unfold vp_in; decide) dL_law_2427 ?_
  refine lv_topi (fun v_1 e_v_1 => ?_)
  refine lv_aload_n hx hb dL_law_2428 rfl (lv_at hl 5 rfl) ?_
  refine lv_iload hx hb dL_law_2429 (lv_at hl 0 rfl) ?_
  refine lv_iconst (v := 2) hx hb dL_law_2431 (by decide) ?_
  refine lv_iadd hx hb dL_law_2432 ?_
  refine va_sld hx hb hX hbl hbA hS (by unfold vp_in; decide) dL_law_2433 ?_
  refine lv_topi (fun v_2 e_v_2 => ?_)
  refine lv_aload_n hx hb dL_law_2434 rfl (lv_at hl 2 rfl) ?_
  refine vx_calli (vx_runSX (As := [.ref x0, .int v_1, .int v_2, .ref o]) (rest := []) ⟨hx, hb, hml, hown, hts⟩ (lx_kindOf l hst dC dI H.size t x0 xa o (.ref xw) (.ref xb) 0 (.ref t) v_1 v_2) (vx_cwSW 4 hts (zg_S kw_1270 kw_1271 kw_63 kw_1272) rfl rfl rfl (by decide +kernel) ⟨Nat.le_of_ble_eq_true rfl, Nat.le_of_ble_eq_true rfl⟩) ⟨zA_blind, zA_pre hP hD hS hK hQ hA [0, 1] rfl rfl (by decide) [] rfl⟩ rfl rfl hl.1 rfl (lv_room (Nat.le_of_ble_eq_true rfl)) dL_law_2435 ⟨zl_b rfl, zl_b rfl⟩) hS (fun q _ h => hA q (Nat.le_trans (hS.1) h)) (fun q h => hA q (Nat.le_trans (hS.1) h)) (fun q _ h => h.elim) (fun E ce q9 u t9 H1 locs1 ht hvm hp9 hE hz1 hk1 hS1 hc1 hv1 hcl1 => hp9.elim) (fun r_3 u t9 H1 locs ht hvm hw hB hz1 hk1 hS => ?_)
  have hw : r_3 = 1 := hw
  subst hw
  have hP := zP_new hP hk1
  generalize H1 = H at hP hS ⊢
  have hP : va_P (dC, dI) zc [(x0, .inr (5, [.ref xa, .ref xw, .ref xb, .int 0])), (xa, .inr (0, [.int 0, .ref t, .int 0])), (xw, .inl (k1, 4, .inl (zW))), (m0, .inr (7, [.ref ma, .ref mw, .int 0, .int 0])), (ma, .inr (0, [.int 0, .ref t, .int 0])), (mw, .inl (k2, 4, .inl (zW))), (o, .inl (k3, 1, .inr (.inl (fun _ => 0))))] H := hP
  have hD : va_D (fun q : Nat => s.heap.size ≤ q) [(x0, .inr (5, [.ref xa, .ref xw, .ref xb, .int 0])), (xa, .inr (0, [.int 0, .ref t, .int 0])), (xw, .inl (k1, 4, .inl (zW))), (m0, .inr (7, [.ref ma, .ref mw, .int 0, .int 0])), (ma, .inr (0, [.int 0, .ref t, .int 0])), (mw, .inl (k2, 4, .inl (zW))), (o, .inl (k3, 1, .inr (.inl (fun _ => 0))))] := hD
  refine W.widen (k := 27) (n := 131) (zl_b rfl) (zl_b rfl) ?_
  refine lv_istore (lv' := [(6, .int 1), (5, .int 0), (4, .ref od), (3, .ref o), (2, .ref m0), (1, .ref x0), (0, .ref b)]) hx hb dL_law_2438 hl (by decide) rfl (fun ls hl => ?_)
  refine lv_aload_n hx hb dL_law_2440 rfl (lv_at hl 4 rfl) ?_
  refine lv_aload_n hx hb dL_law_2441 rfl (lv_at hl 6 rfl) ?_
  refine lv_iload hx hb dL_law_2442 (lv_at hl 1 rfl) ?_
  refine lv_iconst (v := 1) hx hb dL_law_2444 (by decide) ?_
  refine lv_iadd hx hb dL_law_2445 ?_
  refine va_sld hx hb hX hbl hbA hS (by unfold vp_in; decide) dL_law_2446 ?_
  refine lv_topi (fun v_4 e_v_4 => ?_)
  have s_5 : v_1 = v_4 := by rw [e_v_1, e_v_4]
  subst s_5
  refine lv_aload_n hx hb dL_law_2447 rfl (lv_at hl 6 rfl) ?_
  refine lv_iload hx hb dL_law_2448 (lv_at hl 1 rfl) ?_
  refine lv_iconst (v := 2) hx hb dL_law_2450 (by decide) ?_
  refine lv_iadd hx hb dL_law_2451 ?_
  refine va_sld hx hb hX hbl hbA hS (by unfold vp_in; decide) dL_law_2452 ?_
  refine lv_topi (fun v_6 e_v_6 => ?_)
  have s_7 : v_2 = v_6 := by rw [e_v_2, e_v_6]
  subst s_7
  have hFc := va_free (wc := [(m0, .inr (7, [.ref ma, .ref mw, .int 0, .int 0])), (ma, .inr (0, [.int 0, .ref t, .int 0]))]) hD hS hA [3, 4] rfl
  refine va_calli (va_runV (As := [.int v_1, .int v_2]) (rest := []) ⟨hx, hb, hml, hown, hts⟩ (m_kindOf l dC dI H.size t m0 ma (.ref mw) 0 0 (.ref t) v_1 v_2) (cwV 2 hts (zg_V kw_1946 kw_1947 kw_1948 kw_70 kw_1949) rfl rfl rfl (by decide +kernel) ⟨Nat.le_of_ble_eq_true rfl, Nat.le_of_ble_eq_true rfl⟩) ⟨zA_blind, va_recv hK hP (ci := 7) (q0 := 3) rfl rfl, zA_pre hP hD hS hK hQ hA [3, 4] rfl rfl (by decide) [] rfl⟩ rfl rfl hl.1 rfl (lv_room (Nat.le_of_ble_eq_true rfl)) dL_law_2453 ⟨zl_b rfl, zl_b rfl⟩) hS (fun q _ h => hFc q h) hFc (fun r_8 u t9 H1 locs ht hvm hw hB hz1 hk1 hS => ?_)
  obtain ⟨hP1, hK1, hD1⟩ := hB
  rw [ht] at hP1
  have hK1 := va_K.moved hvm.symm hK1
  obtain ⟨hP, hD⟩ := va_join (wr := [(x0, .inr (5, [.ref xa, .ref xw, .ref xb, .int 0])), (xa, .inr (0, [.int 0, .ref t, .int 0])), (xw, .inl (k1, 4, .inl (zW))), (mw, .inl (k2, 4, .inl (zW))), (o, .inl (k3, 1, .inr (.inl (fun _ => 0))))]) (w1 := [(m0, .inr (7, [.ref ma, .ref mw, .int 0, .int 1])), (ma, .inr (0, [.int 0, .ref t, .int 0]))]) hP hD [3, 4] [0, 1, 2, 5, 6] rfl rfl (by decide) (by decide) hk1 hFc hP1 hD1
  have hK := (hK.sub (tys' := [(k1, .int), (k2, .int), (k3, .long)]) [0, 1, 2] rfl).app hK1
  generalize H1 = H at hP hS ⊢
  have hP : va_P (dC, dI) zc [(x0, .inr (5, [.ref xa, .ref xw, .ref xb, .int 0])), (xa, .inr (0, [.int 0, .ref t, .int 0])), (xw, .inl (k1, 4, .inl (zW))), (mw, .inl (k2, 4, .inl (zW))), (o, .inl (k3, 1, .inr (.inl (fun _ => 0)))), (m0, .inr (7, [.ref ma, .ref mw, .int 0, .int 1])), (ma, .inr (0, [.int 0, .ref t, .int 0]))] H := hP
  have hD : va_D (fun q : Nat => s.heap.size ≤ q) [(x0, .inr (5, [.ref xa, .ref xw, .ref xb, .int 0])), (xa, .inr (0, [.int 0, .ref t, .int 0])), (xw, .inl (k1, 4, .inl (zW))), (mw, .inl (k2, 4, .inl (zW))), (o, .inl (k3, 1, .inr (.inl (fun _ => 0)))), (m0, .inr (7, [.ref ma, .ref mw, .int 0, .int 1])), (ma, .inr (0, [.int 0, .ref t, .int 0]))] := hD
  have hK : va_K (dC, dI) zc [(k1, .int), (k2, .int), (k3, .long)] s := hK
  refine lv_istore (lv' := [(7, .int r_8), (6, .int 1), (5, .int 0), (4, .ref od), (3, .ref o), (2, .ref m0), (1, .ref x0), (0, .ref b)]) hx hb dL_law_2456 hl (by decide) rfl (fun ls hl => ?_)
  refine lv_aload_n hx hb dL_law_2458 rfl (lv_at hl 5 rfl) ?_
  refine vp_callSi (W.runV (As := []) (rest := []) ⟨hx, hb, hml, hown, hts⟩ (c_thrown l dC dI H.size t m0 (.ref ma) (.ref mw) 0 1) (cwV 0 hts (zg_V kw_1365 kw_1366 kw_1367 kw_70 kw_1368) rfl rfl rfl (by decide +kernel) ⟨Nat.le_of_ble_eq_true rfl, Nat.le_of_ble_eq_true rfl⟩) ⟨zA_blind, va_recv hK hP (ci := 7) (q0 := 5) rfl rfl, zA_pre hP hD hS hK hQ hA [5] rfl rfl (by decide) [] rfl⟩ rfl rfl hl.1 rfl (lv_room (Nat.le_of_ble_eq_true rfl)) dL_law_2459 ⟨zl_b rfl, zl_b rfl⟩) (fun r hr => ?_)
  subst hr
  refine lv_iload hx hb dL_law_2462 (lv_at hl 1 rfl) ?_
  refine lv_icmp_eq (tgt := 2469) hx hb dL_law_2464 (by decide) (fun c_9 => ?_) (fun c_9 => absurd c_9 (by decide))
  refine lv_iload hx hb dL_law_2469 (lv_at hl 1 rfl) ?_
  refine lv_if_ne (tgt := 2486) hx hb dL_law_2471 (by decide) (fun c_10 => ?_) (fun c_10 => absurd c_10 (by decide))
  refine lv_goto (tgt := 2981) hx hb dL_law_2486 (by decide) ?_
  exact law_tail l C0 _ _ (zl_b rfl) (zl_b rfl) _ _ hS ls (lv_sub hl [7, 2] rfl)
set_option maxHeartbeats 4000000 in
set_option maxRecDepth 100000 in
/-- the law on isBack -/
theorem law_c33 {p : Program} {e : Env} {s : State} {m : MethodId} {below : List Frame} {meth : Method} {c : Code} {b : Nat} {xs : Nat → Int32} (l : Launch) (hst : l.stackTraces = false) (C0 : lw_At p s m meth c b 5 xs) {dC : Nat → ClassId} {dI : Nat → Nat → Nat} {t x0 xa xw xb m0 ma mw o od : Nat} {k1 k2 k3 : ClassId} (H : Heap) (locs : List Loc) (hK : va_K (dC, dI) zc [(k1, .int), (k2, .int), (k3, .long)] s) (hQ : zQ t (fun q : Nat => s.heap.size ≤ q) s s.heap) (hP : va_P (dC, dI) zc [(x0, .inr (5, [.ref xa, .ref xw, .ref xb, .int 0])), (xa, .inr (0, [.int 0, .ref t, .int 0])), (xw, .inl (k1, 4, .inl (zW))), (m0, .inr (7, [.ref ma, .ref mw, .int 0, .int 0])), (ma, .inr (0, [.int 0, .ref t, .int 0])), (mw, .inl (k2, 4, .inl (zW))), (o, .inl (k3, 1, .inr (.inl (fun _ => 0))))] H) (hD : va_D (fun q : Nat => s.heap.size ≤ q) [(x0, .inr (5, [.ref xa, .ref xw, .ref xb, .int 0])), (xa, .inr (0, [.int 0, .ref t, .int 0])), (xw, .inl (k1, 4, .inl (zW))), (m0, .inr (7, [.ref ma, .ref mw, .int 0, .int 0])), (ma, .inr (0, [.int 0, .ref t, .int 0])), (mw, .inl (k2, 4, .inl (zW))), (o, .inl (k3, 1, .inr (.inl (fun _ => 0))))]) (hS : va_S (fun q : Nat => s.heap.size ≤ q) s.heap H locs) (ls : Array Slot) (hl : lv_has ls 9 [(5, .int 0), (4, .ref od), (3, .ref o), (2, .ref m0), (1, .ref x0), (0, .ref b)]) : W p l e room_1 s m #[Value.ref b] below meth c H locs 26 125 (lw_Z below #[Value.ref b] s) (F0 m 2489 ls []) := by
  obtain ⟨hx, hb, hr, hml, hown, hts0, hX, hbl, hlocks, hgv⟩ := id C0
  have hts : ∀ w ∈ zG, w.before #[Value.ref b] s = true := fun w h => hts0 w (zg_tbl h)
  have hA : ∀ q : Nat, s.heap.size ≤ q → (fun q : Nat => s.heap.size ≤ q) q := fun _ h => h
  have hbA : ¬ (fun q : Nat => s.heap.size ≤ q) b := Nat.not_le.mpr hbl
  refine lv_aload_n hx hb dL_law_2489 rfl (lv_at hl 4 rfl) ?_
  refine lv_aload_n hx hb dL_law_2490 rfl (lv_at hl 5 rfl) ?_
  refine lv_iload hx hb dL_law_2491 (lv_at hl 0 rfl) ?_
  refine lv_iconst (v := 1) hx hb dL_law_2493 (by decide) ?_
  refine lv_iadd hx hb dL_law_2494 ?_
  refine va_sld hx hb hX hbl hbA hS (by unfold vp_in; decide) dL_law_2495 ?_
  refine lv_topi (fun v_1 e_v_1 => ?_)
  refine lv_aload_n hx hb dL_law_2496 rfl (lv_at hl 5 rfl) ?_
  refine lv_iload hx hb dL_law_2497 (lv_at hl 0 rfl) ?_
  refine lv_iconst (v := 2) hx hb dL_law_2499 (by decide) ?_
  refine lv_iadd hx hb dL_law_2500 ?_
  refine va_sld hx hb hX hbl hbA hS (by unfold vp_in; decide) dL_law_2501 ?_
  refine lv_topi (fun v_2 e_v_2 => ?_)
  refine lv_aload_n hx hb dL_law_2502 rfl (lv_at hl 2 rfl) ?_
  refine vx_calli (vx_runSX (As := [.ref x0, .int v_1, .int v_2, .ref o]) (rest := []) ⟨hx, hb, hml, hown, hts⟩ (lx_isBack l hst dC dI H.size t x0 xa o (.ref xw) (.ref xb) 0 (.ref t) v_1 v_2) (vx_cwSW 4 hts (zg_S kw_1277 kw_1278 kw_63 kw_1279) rfl rfl rfl (by decide +kernel) ⟨Nat.le_of_ble_eq_true rfl, Nat.le_of_ble_eq_true rfl⟩) ⟨zA_blind, zA_pre hP hD hS hK hQ hA [0, 1] rfl rfl (by decide) [] rfl⟩ rfl rfl hl.1 rfl (lv_room (Nat.le_of_ble_eq_true rfl)) dL_law_2503 ⟨zl_b rfl, zl_b rfl⟩) hS (fun q _ h => hA q (Nat.le_trans (hS.1) h)) (fun q h => hA q (Nat.le_trans (hS.1) h)) (fun q _ h => h.elim) (fun E ce q9 u t9 H1 locs1 ht hvm hp9 hE hz1 hk1 hS1 hc1 hv1 hcl1 => hp9.elim) (fun r_3 u t9 H1 locs ht hvm hw hB hz1 hk1 hS => ?_)
  have hw : r_3 = 1 := hw
  subst hw
  have hP := zP_new hP hk1
  generalize H1 = H at hP hS ⊢
  have hP : va_P (dC, dI) zc [(x0, .inr (5, [.ref xa, .ref xw, .ref xb, .int 0])), (xa, .inr (0, [.int 0, .ref t, .int 0])), (xw, .inl (k1, 4, .inl (zW))), (m0, .inr (7, [.ref ma, .ref mw, .int 0, .int 0])), (ma, .inr (0, [.int 0, .ref t, .int 0])), (mw, .inl (k2, 4, .inl (zW))), (o, .inl (k3, 1, .inr (.inl (fun _ => 0))))] H := hP
  have hD : va_D (fun q : Nat => s.heap.size ≤ q) [(x0, .inr (5, [.ref xa, .ref xw, .ref xb, .int 0])), (xa, .inr (0, [.int 0, .ref t, .int 0])), (xw, .inl (k1, 4, .inl (zW))), (m0, .inr (7, [.ref ma, .ref mw, .int 0, .int 0])), (ma, .inr (0, [.int 0, .ref t, .int 0])), (mw, .inl (k2, 4, .inl (zW))), (o, .inl (k3, 1, .inr (.inl (fun _ => 0))))] := hD
  refine W.widen (k := 27) (n := 131) (zl_b rfl) (zl_b rfl) ?_
  refine lv_istore (lv' := [(6, .int 1), (5, .int 0), (4, .ref od), (3, .ref o), (2, .ref m0), (1, .ref x0), (0, .ref b)]) hx hb dL_law_2506 hl (by decide) rfl (fun ls hl => ?_)
  refine lv_aload_n hx hb dL_law_2508 rfl (lv_at hl 4 rfl) ?_
  refine lv_aload_n hx hb dL_law_2509 rfl (lv_at hl 6 rfl) ?_
  refine lv_iload hx hb dL_law_2510 (lv_at hl 1 rfl) ?_
  refine lv_iconst (v := 1) hx hb dL_law_2512 (by decide) ?_
  refine lv_iadd hx hb dL_law_2513 ?_
  refine va_sld hx hb hX hbl hbA hS (by unfold vp_in; decide) dL_law_2514 ?_
  refine lv_topi (fun v_4 e_v_4 => ?_)
  have s_5 : v_1 = v_4 := by rw [e_v_1, e_v_4]
  subst s_5
  refine lv_aload_n hx hb dL_law_2515 rfl (lv_at hl 6 rfl) ?_
  refine lv_iload hx hb dL_law_2516 (lv_at hl 1 rfl) ?_
  refine lv_iconst (v := 2) hx hb dL_law_2518 (by decide) ?_
  refine lv_iadd hx hb dL_law_2519 ?_
  refine va_sld hx hb hX hbl hbA hS (by unfold vp_in; decide) dL_law_2520 ?_
  refine lv_topi (fun v_6 e_v_6 => ?_)
  have s_7 : v_2 = v_6 := by rw [e_v_2, e_v_6]
  subst s_7
  have hFc := va_free (wc := [(m0, .inr (7, [.ref ma, .ref mw, .int 0, .int 0])), (ma, .inr (0, [.int 0, .ref t, .int 0]))]) hD hS hA [3, 4] rfl
  refine va_calli (va_runV (As := [.int v_1, .int v_2]) (rest := []) ⟨hx, hb, hml, hown, hts⟩ (m_isBack l dC dI H.size t m0 ma (.ref mw) 0 0 (.ref t) v_1 v_2) (cwV 2 hts (zg_V kw_1950 kw_1951 kw_1952 kw_70 kw_1953) rfl rfl rfl (by decide +kernel) ⟨Nat.le_of_ble_eq_true rfl, Nat.le_of_ble_eq_true rfl⟩) ⟨zA_blind, va_recv hK hP (ci := 7) (q0 := 3) rfl rfl, zA_pre hP hD hS hK hQ hA [3, 4] rfl rfl (by decide) [] rfl⟩ rfl rfl hl.1 rfl (lv_room (Nat.le_of_ble_eq_true rfl)) dL_law_2521 ⟨zl_b rfl, zl_b rfl⟩) hS (fun q _ h => hFc q h) hFc (fun r_8 u t9 H1 locs ht hvm hw hB hz1 hk1 hS => ?_)
  obtain ⟨hP1, hK1, hD1⟩ := hB
  rw [ht] at hP1
  have hK1 := va_K.moved hvm.symm hK1
  obtain ⟨hP, hD⟩ := va_join (wr := [(x0, .inr (5, [.ref xa, .ref xw, .ref xb, .int 0])), (xa, .inr (0, [.int 0, .ref t, .int 0])), (xw, .inl (k1, 4, .inl (zW))), (mw, .inl (k2, 4, .inl (zW))), (o, .inl (k3, 1, .inr (.inl (fun _ => 0))))]) (w1 := [(m0, .inr (7, [.ref ma, .ref mw, .int 0, .int 1])), (ma, .inr (0, [.int 0, .ref t, .int 0]))]) hP hD [3, 4] [0, 1, 2, 5, 6] rfl rfl (by decide) (by decide) hk1 hFc hP1 hD1
  have hK := (hK.sub (tys' := [(k1, .int), (k2, .int), (k3, .long)]) [0, 1, 2] rfl).app hK1
  generalize H1 = H at hP hS ⊢
  have hP : va_P (dC, dI) zc [(x0, .inr (5, [.ref xa, .ref xw, .ref xb, .int 0])), (xa, .inr (0, [.int 0, .ref t, .int 0])), (xw, .inl (k1, 4, .inl (zW))), (mw, .inl (k2, 4, .inl (zW))), (o, .inl (k3, 1, .inr (.inl (fun _ => 0)))), (m0, .inr (7, [.ref ma, .ref mw, .int 0, .int 1])), (ma, .inr (0, [.int 0, .ref t, .int 0]))] H := hP
  have hD : va_D (fun q : Nat => s.heap.size ≤ q) [(x0, .inr (5, [.ref xa, .ref xw, .ref xb, .int 0])), (xa, .inr (0, [.int 0, .ref t, .int 0])), (xw, .inl (k1, 4, .inl (zW))), (mw, .inl (k2, 4, .inl (zW))), (o, .inl (k3, 1, .inr (.inl (fun _ => 0)))), (m0, .inr (7, [.ref ma, .ref mw, .int 0, .int 1])), (ma, .inr (0, [.int 0, .ref t, .int 0]))] := hD
  have hK : va_K (dC, dI) zc [(k1, .int), (k2, .int), (k3, .long)] s := hK
  refine lv_istore (lv' := [(7, .int r_8), (6, .int 1), (5, .int 0), (4, .ref od), (3, .ref o), (2, .ref m0), (1, .ref x0), (0, .ref b)]) hx hb dL_law_2524 hl (by decide) rfl (fun ls hl => ?_)
  refine lv_aload_n hx hb dL_law_2526 rfl (lv_at hl 5 rfl) ?_
  refine vp_callSi (W.runV (As := []) (rest := []) ⟨hx, hb, hml, hown, hts⟩ (c_thrown l dC dI H.size t m0 (.ref ma) (.ref mw) 0 1) (cwV 0 hts (zg_V kw_1365 kw_1366 kw_1367 kw_70 kw_1368) rfl rfl rfl (by decide +kernel) ⟨Nat.le_of_ble_eq_true rfl, Nat.le_of_ble_eq_true rfl⟩) ⟨zA_blind, va_recv hK hP (ci := 7) (q0 := 5) rfl rfl, zA_pre hP hD hS hK hQ hA [5] rfl rfl (by decide) [] rfl⟩ rfl rfl hl.1 rfl (lv_room (Nat.le_of_ble_eq_true rfl)) dL_law_2527 ⟨zl_b rfl, zl_b rfl⟩) (fun r hr => ?_)
  subst hr
  refine lv_iload hx hb dL_law_2530 (lv_at hl 1 rfl) ?_
  refine lv_icmp_eq (tgt := 2537) hx hb dL_law_2532 (by decide) (fun c_9 => ?_) (fun c_9 => absurd c_9 (by decide))
  refine lv_iload hx hb dL_law_2537 (lv_at hl 1 rfl) ?_
  refine lv_if_ne (tgt := 2561) hx hb dL_law_2539 (by decide) (fun c_10 => ?_) (fun c_10 => absurd c_10 (by decide))
  refine lv_goto (tgt := 2981) hx hb dL_law_2561 (by decide) ?_
  exact law_tail l C0 _ _ (zl_b rfl) (zl_b rfl) _ _ hS ls (lv_sub hl [7, 2] rfl)
