set_option maxHeartbeats 4000000 in
set_option maxRecDepth 100000 in
/-- the law on settle -/
theorem law_c12 {p : Program} {e : Env} {s : State} {m : MethodId} {below : List Frame} {meth : Method} {c : Code} {b : Nat} {xs : Nat → Int32} (l : Launch) (hst : l.stackTraces = false) (C0 : lw_At p s m meth c b 5 xs) {dC : Nat → ClassId} {dI : Nat → Nat → Nat} {t x0 xa xw xb m0 ma mw o od : Nat} {k1 k2 k3 : ClassId} (H : Heap) (locs : List Loc) (hK : va_K (dC, dI) zc [(k1, .int), (k2, .int), (k3, .long)] s) (hQ : zQ t (fun q : Nat => s.heap.size ≤ q) s s.heap) (hP : va_P (dC, dI) zc [(x0, .inr (5, [.ref xa, .ref xw, .ref xb, .int 0])), (xa, .inr (0, [.int 0, .ref t, .int 0])), (xw, .inl (k1, 4, .inl (zW))), (m0, .inr (7, [.ref ma, .ref mw, .int 0, .int 0])), (ma, .inr (0, [.int 0, .ref t, .int 0])), (mw, .inl (k2, 4, .inl (zW))), (o, .inl (k3, 1, .inr (.inl (fun _ => 0))))] H) (hD : va_D (fun q : Nat => s.heap.size ≤ q) [(x0, .inr (5, [.ref xa, .ref xw, .ref xb, .int 0])), (xa, .inr (0, [.int 0, .ref t, .int 0])), (xw, .inl (k1, 4, .inl (zW))), (m0, .inr (7, [.ref ma, .ref mw, .int 0, .int 0])), (ma, .inr (0, [.int 0, .ref t, .int 0])), (mw, .inl (k2, 4, .inl (zW))), (o, .inl (k3, 1, .inr (.inl (fun _ => 0))))]) (hS : va_S (fun q : Nat => s.heap.size ≤ q) s.heap H locs) (ls : Array Slot) (hl : lv_has ls 9 [(5, .int 0), (4, .ref od), (3, .ref o), (2, .ref m0), (1, .ref x0), (0, .ref b)]) : W p l e room_1 s m #[Value.ref b] below meth c H locs 26 125 (lw_Z below #[Value.ref b] s) (F0 m 1137 ls []) := by
  obtain ⟨hx, hb, hr, hml, hown, hts0, hX, hbl, hlocks, hgv⟩ := id C0
  have hts : ∀ w ∈ zG, w.before #[Value.ref b] s = true := fun w h => hts0 w (zg_tbl h)
  have hA : ∀ q : Nat, s.heap.size ≤ q → (fun q : Nat => s.heap.size ≤ q) q := fun _ h => h
  have hbA : ¬ (fun q : Nat => s.heap.size ≤ q) b := Nat.not_le.mpr hbl
  refine lv_aload_n hx hb dL_law_1137 rfl (lv_at hl 4 rfl) ?_
  refine lv_aload_n hx hb dL_law_1138 rfl (lv_at hl 5 rfl) ?_
  refine lv_iload hx hb dL_law_1139 (lv_at hl 0 rfl) ?_
  refine lv_iconst (v := 1) hx hb dL_law_1141 (by decide) ?_
  refine lv_iadd hx hb dL_law_1142 ?_
  refine va_sld hx hb hX hbl hbA hS (by unfold vp_in; decide) dL_law_1143 ?_
  refine lv_topi (fun v_1 e_v_1 => ?_)
  refine lv_aload_n hx hb dL_law_1144 rfl (lv_at hl 5 rfl) ?_
  refine lv_iload hx hb dL_law_1145 (lv_at hl 0 rfl) ?_
  refine lv_iconst (v := 2) hx hb dL_law_1147 (by decide) ?_
  refine lv_iadd hx hb dL_law_1148 ?_
  refine va_sld hx hb hX hbl hbA hS (by unfold vp_in; decide) dL_law_1149 ?_
  refine lv_topi (fun v_2 e_v_2 => ?_)
  refine lv_aload_n hx hb dL_law_1150 rfl (lv_at hl 5 rfl) ?_
  refine lv_iload hx hb dL_law_1151 (lv_at hl 0 rfl) ?_
  refine lv_iconst (v := 3) hx hb dL_law_1153 (by decide) ?_
  refine lv_iadd hx hb dL_law_1154 ?_
  refine va_sld hx hb hX hbl hbA hS (by unfold vp_in; decide) dL_law_1155 ?_
  refine lv_topi (fun v_3 e_v_3 => ?_)
  refine lv_if_eq (tgt := 1163) hx hb dL_law_1156 (by decide) (fun c_4 => ?_) (fun c_4 => ?_)
  · refine lv_iconst (v := 0) hx hb dL_law_1163 (by decide) ?_
    refine lv_aload_n hx hb dL_law_1164 rfl (lv_at hl 2 rfl) ?_
    refine vx_calli (vx_runSX (As := [.ref x0, .int v_1, .int v_2, .int 0, .ref o]) (rest := []) ⟨hx, hb, hml, hown, hts⟩ (lx_settle l hst dC dI H.size t x0 xa o (.ref xw) (.ref xb) 0 (.ref t) v_1 v_2 0) (vx_cwSW 5 hts (zg_S kw_1100 kw_1101 kw_63 kw_1102) rfl rfl rfl (by decide +kernel) ⟨Nat.le_of_ble_eq_true rfl, Nat.le_of_ble_eq_true rfl⟩) ⟨zA_blind, zA_pre hP hD hS hK hQ hA [0, 1] rfl rfl (by decide) [] rfl⟩ rfl rfl hl.1 rfl (lv_room (Nat.le_of_ble_eq_true rfl)) dL_law_1165 ⟨zl_b rfl, zl_b rfl⟩) hS (fun q _ h => hA q (Nat.le_trans (hS.1) h)) (fun q h => hA q (Nat.le_trans (hS.1) h)) (fun q _ h => h.elim) (fun E ce q9 u t9 H1 locs1 ht hvm hp9 hE hz1 hk1 hS1 hc1 hv1 hcl1 => hp9.elim) (fun r_5 u t9 H1 locs ht hvm hw hB hz1 hk1 hS => ?_)
    have hw : r_5 = 1 := hw
    subst hw
    have hP := zP_new hP hk1
    generalize H1 = H at hP hS ⊢
    have hP : va_P (dC, dI) zc [(x0, .inr (5, [.ref xa, .ref xw, .ref xb, .int 0])), (xa, .inr (0, [.int 0, .ref t, .int 0])), (xw, .inl (k1, 4, .inl (zW))), (m0, .inr (7, [.ref ma, .ref mw, .int 0, .int 0])), (ma, .inr (0, [.int 0, .ref t, .int 0])), (mw, .inl (k2, 4, .inl (zW))), (o, .inl (k3, 1, .inr (.inl (fun _ => 0))))] H := hP
    have hD : va_D (fun q : Nat => s.heap.size ≤ q) [(x0, .inr (5, [.ref xa, .ref xw, .ref xb, .int 0])), (xa, .inr (0, [.int 0, .ref t, .int 0])), (xw, .inl (k1, 4, .inl (zW))), (m0, .inr (7, [.ref ma, .ref mw, .int 0, .int 0])), (ma, .inr (0, [.int 0, .ref t, .int 0])), (mw, .inl (k2, 4, .inl (zW))), (o, .inl (k3, 1, .inr (.inl (fun _ => 0))))] := hD
    refine W.widen (k := 27) (n := 131) (zl_b rfl) (zl_b rfl) ?_
    refine lv_istore (lv' := [(6, .int 1), (5, .int 0), (4, .ref od), (3, .ref o), (2, .ref m0), (1, .ref x0), (0, .ref b)]) hx hb dL_law_1168 hl (by decide) rfl (fun ls hl => ?_)
    refine lv_aload_n hx hb dL_law_1170 rfl (lv_at hl 4 rfl) ?_
    refine lv_aload_n hx hb dL_law_1171 rfl (lv_at hl 6 rfl) ?_
    refine lv_iload hx hb dL_law_1172 (lv_at hl 1 rfl) ?_
    refine lv_iconst (v := 1) hx hb dL_law_1174 (by decide) ?_
    refine lv_iadd hx hb dL_law_1175 ?_
    refine va_sld hx hb hX hbl hbA hS (by unfold vp_in; decide) dL_law_1176 ?_
    refine lv_topi (fun v_6 e_v_6 => ?_)
    have s_7 : v_1 = v_6 := by rw [e_v_1, e_v_6]
    subst s_7
    refine lv_aload_n hx hb dL_law_1177 rfl (lv_at hl 6 rfl) ?_
    refine lv_iload hx hb dL_law_1178 (lv_at hl 1 rfl) ?_
    refine lv_iconst (v := 2) hx hb dL_law_1180 (by decide) ?_
    refine lv_iadd hx hb dL_law_1181 ?_
    refine va_sld hx hb hX hbl hbA hS (by unfold vp_in; decide) dL_law_1182 ?_
    refine lv_topi (fun v_8 e_v_8 => ?_)
    have s_9 : v_2 = v_8 := by rw [e_v_2, e_v_8]
    subst s_9
    refine lv_aload_n hx hb dL_law_1183 rfl (lv_at hl 6 rfl) ?_
    refine lv_iload hx hb dL_law_1184 (lv_at hl 1 rfl) ?_
    refine lv_iconst (v := 3) hx hb dL_law_1186 (by decide) ?_
    refine lv_iadd hx hb dL_law_1187 ?_
    refine va_sld hx hb hX hbl hbA hS (by unfold vp_in; decide) dL_law_1188 ?_
    refine lv_topi (fun v_10 e_v_10 => ?_)
    have s_11 : v_3 = v_10 := by rw [e_v_3, e_v_10]
    subst s_11
    refine lv_if_eq (tgt := 1196) hx hb dL_law_1189 (by decide) (fun c_12 => ?_) (fun c_12 => ?_)
    · refine lv_iconst (v := 0) hx hb dL_law_1196 (by decide) ?_
      have hFc := va_free (wc := [(m0, .inr (7, [.ref ma, .ref mw, .int 0, .int 0])), (ma, .inr (0, [.int 0, .ref t, .int 0]))]) hD hS hA [3, 4] rfl
      refine va_calll (va_runV (As := [.int v_1, .int v_2, .int 0]) (rest := []) ⟨hx, hb, hml, hown, hts⟩ (m_settle l dC dI H.size t m0 ma (.ref mw) 0 0 (.ref t) v_1 v_2 0) (cwV 3 hts (zg_V kw_1824 kw_1825 kw_1826 kw_70 kw_1827) rfl rfl rfl (by decide +kernel) ⟨Nat.le_of_ble_eq_true rfl, Nat.le_of_ble_eq_true rfl⟩) ⟨zA_blind, va_recv hK hP (ci := 7) (q0 := 3) rfl rfl, zA_pre hP hD hS hK hQ hA [3, 4] rfl rfl (by decide) [] rfl⟩ rfl rfl hl.1 rfl (lv_room (Nat.le_of_ble_eq_true rfl)) dL_law_1197 ⟨zl_b rfl, zl_b rfl⟩) hS (fun q _ h => hFc q h) hFc (fun r_13 u t9 H1 locs ht hvm hw hB hz1 hk1 hS => ?_)
      obtain ⟨hP1, hK1, hD1⟩ := hB
      rw [ht] at hP1
      have hK1 := va_K.moved hvm.symm hK1
      obtain ⟨hP, hD⟩ := va_join (wr := [(x0, .inr (5, [.ref xa, .ref xw, .ref xb, .int 0])), (xa, .inr (0, [.int 0, .ref t, .int 0])), (xw, .inl (k1, 4, .inl (zW))), (mw, .inl (k2, 4, .inl (zW))), (o, .inl (k3, 1, .inr (.inl (fun _ => 0))))]) (w1 := [(m0, .inr (7, [.ref ma, .ref mw, .int 0, .int 1])), (ma, .inr (0, [.int 0, .ref t, .int 0]))]) hP hD [3, 4] [0, 1, 2, 5, 6] rfl rfl (by decide) (by decide) hk1 hFc hP1 hD1
      have hK := (hK.sub (tys' := [(k1, .int), (k2, .int), (k3, .long)]) [0, 1, 2] rfl).app hK1
      generalize H1 = H at hP hS ⊢
      have hP : va_P (dC, dI) zc [(x0, .inr (5, [.ref xa, .ref xw, .ref xb, .int 0])), (xa, .inr (0, [.int 0, .ref t, .int 0])), (xw, .inl (k1, 4, .inl (zW))), (mw, .inl (k2, 4, .inl (zW))), (o, .inl (k3, 1, .inr (.inl (fun _ => 0)))), (m0, .inr (7, [.ref ma, .ref mw, .int 0, .int 1])), (ma, .inr (0, [.int 0, .ref t, .int 0]))] H := hP
      have hD : va_D (fun q : Nat => s.heap.size ≤ q) [(x0, .inr (5, [.ref xa, .ref xw, .ref xb, .int 0])), (xa, .inr (0, [.int 0, .ref t, .int 0])), (xw, .inl (k1, 4, .inl (zW))), (mw, .inl (k2, 4, .inl (zW))), (o, .inl (k3, 1, .inr (.inl (fun _ => 0)))), (m0, .inr (7, [.ref ma, .ref mw, .int 0, .int 1])), (ma, .inr (0, [.int 0, .ref t, .int 0]))] := hD
      have hK : va_K (dC, dI) zc [(k1, .int), (k2, .int), (k3, .long)] s := hK
      refine lv_lstore (lv' := [(7, .long r_13), (6, .int 1), (5, .int 0), (4, .ref od), (3, .ref o), (2, .ref m0), (1, .ref x0), (0, .ref b)]) hx hb dL_law_1200 hl (by decide) rfl (fun ls hl => ?_)
      refine lv_aload_n hx hb dL_law_1202 rfl (lv_at hl 5 rfl) ?_
      refine vp_callSi (W.runV (As := []) (rest := []) ⟨hx, hb, hml, hown, hts⟩ (c_thrown l dC dI H.size t m0 (.ref ma) (.ref mw) 0 1) (cwV 0 hts (zg_V kw_1365 kw_1366 kw_1367 kw_70 kw_1368) rfl rfl rfl (by decide +kernel) ⟨Nat.le_of_ble_eq_true rfl, Nat.le_of_ble_eq_true rfl⟩) ⟨zA_blind, va_recv hK hP (ci := 7) (q0 := 5) rfl rfl, zA_pre hP hD hS hK hQ hA [5] rfl rfl (by decide) [] rfl⟩ rfl rfl hl.1 rfl (lv_room (Nat.le_of_ble_eq_true rfl)) dL_law_1203 ⟨zl_b rfl, zl_b rfl⟩) (fun r hr => ?_)
      subst hr
      refine lv_iload hx hb dL_law_1206 (lv_at hl 1 rfl) ?_
      refine lv_icmp_eq (tgt := 1213) hx hb dL_law_1208 (by decide) (fun c_14 => ?_) (fun c_14 => absurd c_14 (by decide))
      refine lv_iload hx hb dL_law_1213 (lv_at hl 1 rfl) ?_
      refine lv_if_ne (tgt := 1229) hx hb dL_law_1215 (by decide) (fun c_15 => ?_) (fun c_15 => absurd c_15 (by decide))
      refine lv_goto (tgt := 2981) hx hb dL_law_1229 (by decide) ?_
      exact law_tail l C0 _ _ (zl_b rfl) (zl_b rfl) _ _ hS ls (lv_sub hl [7, 2] rfl)
    · refine lv_iconst (v := 1) hx hb dL_law_1192 (by decide) ?_
      refine lv_goto (tgt := 1197) hx hb dL_law_1193 (by decide) ?_
      have hFc := va_free (wc := [(m0, .inr (7, [.ref ma, .ref mw, .int 0, .int 0])), (ma, .inr (0, [.int 0, .ref t, .int 0]))]) hD hS hA [3, 4] rfl
      refine va_calll (va_runV (As := [.int v_1, .int v_2, .int 1]) (rest := []) ⟨hx, hb, hml, hown, hts⟩ (m_settle l dC dI H.size t m0 ma (.ref mw) 0 0 (.ref t) v_1 v_2 1) (cwV 3 hts (zg_V kw_1824 kw_1825 kw_1826 kw_70 kw_1827) rfl rfl rfl (by decide +kernel) ⟨Nat.le_of_ble_eq_true rfl, Nat.le_of_ble_eq_true rfl⟩) ⟨zA_blind, va_recv hK hP (ci := 7) (q0 := 3) rfl rfl, zA_pre hP hD hS hK hQ hA [3, 4] rfl rfl (by decide) [] rfl⟩ rfl rfl hl.1 rfl (lv_room (Nat.le_of_ble_eq_true rfl)) dL_law_1197 ⟨zl_b rfl, zl_b rfl⟩) hS (fun q _ h => hFc q h) hFc (fun r_16 u t9 H1 locs ht hvm hw hB hz1 hk1 hS => ?_)
      obtain ⟨hP1, hK1, hD1⟩ := hB
      rw [ht] at hP1
      have hK1 := va_K.moved hvm.symm hK1
      obtain ⟨hP, hD⟩ := va_join (wr := [(x0, .inr (5, [.ref xa, .ref xw, .ref xb, .int 0])), (xa, .inr (0, [.int 0, .ref t, .int 0])), (xw, .inl (k1, 4, .inl (zW))), (mw, .inl (k2, 4, .inl (zW))), (o, .inl (k3, 1, .inr (.inl (fun _ => 0))))]) (w1 := [(m0, .inr (7, [.ref ma, .ref mw, .int 0, .int 1])), (ma, .inr (0, [.int 0, .ref t, .int 0]))]) hP hD [3, 4] [0, 1, 2, 5, 6] rfl rfl (by decide) (by decide) hk1 hFc hP1 hD1
      have hK := (hK.sub (tys' := [(k1, .int), (k2, .int), (k3, .long)]) [0, 1, 2] rfl).app hK1
      generalize H1 = H at hP hS ⊢
      have hP : va_P (dC, dI) zc [(x0, .inr (5, [.ref xa, .ref xw, .ref xb, .int 0])), (xa, .inr (0, [.int 0, .ref t, .int 0])), (xw, .inl (k1, 4, .inl (zW))), (mw, .inl (k2, 4, .inl (zW))), (o, .inl (k3, 1, .inr (.inl (fun _ => 0)))), (m0, .inr (7, [.ref ma, .ref mw, .int 0, .int 1])), (ma, .inr (0, [.int 0, .ref t, .int 0]))] H := hP
      have hD : va_D (fun q : Nat => s.heap.size ≤ q) [(x0, .inr (5, [.ref xa, .ref xw, .ref xb, .int 0])), (xa, .inr (0, [.int 0, .ref t, .int 0])), (xw, .inl (k1, 4, .inl (zW))), (mw, .inl (k2, 4, .inl (zW))), (o, .inl (k3, 1, .inr (.inl (fun _ => 0)))), (m0, .inr (7, [.ref ma, .ref mw, .int 0, .int 1])), (ma, .inr (0, [.int 0, .ref t, .int 0]))] := hD
      have hK : va_K (dC, dI) zc [(k1, .int), (k2, .int), (k3, .long)] s := hK
      refine lv_lstore (lv' := [(7, .long r_16), (6, .int 1), (5, .int 0), (4, .ref od), (3, .ref o), (2, .ref m0), (1, .ref x0), (0, .ref b)]) hx hb dL_law_1200 hl (by decide) rfl (fun ls hl => ?_)
      refine lv_aload_n hx hb dL_law_1202 rfl (lv_at hl 5 rfl) ?_
      refine vp_callSi (W.runV (As := []) (rest := []) ⟨hx, hb, hml, hown, hts⟩ (c_thrown l dC dI H.size t m0 (.ref ma) (.ref mw) 0 1) (cwV 0 hts (zg_V kw_1365 kw_1366 kw_1367 kw_70 kw_1368) rfl rfl rfl (by decide +kernel) ⟨Nat.le_of_ble_eq_true rfl, Nat.le_of_ble_eq_true rfl⟩) ⟨zA_blind, va_recv hK hP (ci := 7) (q0 := 5) rfl rfl, zA_pre hP hD hS hK hQ hA [5] rfl rfl (by decide) [] rfl⟩ rfl rfl hl.1 rfl (lv_room (Nat.le_of_ble_eq_true rfl)) dL_law_1203 ⟨zl_b rfl, zl_b rfl⟩) (fun r hr => ?_)
      subst hr
      refine lv_iload hx hb dL_law_1206 (lv_at hl 1 rfl) ?_
      refine lv_icmp_eq (tgt := 1213) hx hb dL_law_1208 (by decide) (fun c_17 => ?_) (fun c_17 => absurd c_17 (by decide))
      refine lv_iload hx hb dL_law_1213 (lv_at hl 1 rfl) ?_
      refine lv_if_ne (tgt := 1229) hx hb dL_law_1215 (by decide) (fun c_18 => ?_) (fun c_18 => absurd c_18 (by decide))
      refine lv_goto (tgt := 2981) hx hb dL_law_1229 (by decide) ?_
      exact law_tail l C0 _ _ (zl_b rfl) (zl_b rfl) _ _ hS ls (lv_sub hl [7, 2] rfl)
  · refine lv_iconst (v := 1) hx hb dL_law_1159 (by decide) ?_
    refine lv_goto (tgt := 1164) hx hb dL_law_1160 (by decide) ?_
    refine lv_aload_n hx hb dL_law_1164 rfl (lv_at hl 2 rfl) ?_
    refine vx_calli (vx_runSX (As := [.ref x0, .int v_1, .int v_2, .int 1, .ref o]) (rest := []) ⟨hx, hb, hml, hown, hts⟩ (lx_settle l hst dC dI H.size t x0 xa o (.ref xw) (.ref xb) 0 (.ref t) v_1 v_2 1) (vx_cwSW 5 hts (zg_S kw_1100 kw_1101 kw_63 kw_1102) rfl rfl rfl (by decide +kernel) ⟨Nat.le_of_ble_eq_true rfl, Nat.le_of_ble_eq_true rfl⟩) ⟨zA_blind, zA_pre hP hD hS hK hQ hA [0, 1] rfl rfl (by decide) [] rfl⟩ rfl rfl hl.1 rfl (lv_room (Nat.le_of_ble_eq_true rfl)) dL_law_1165 ⟨zl_b rfl, zl_b rfl⟩) hS (fun q _ h => hA q (Nat.le_trans (hS.1) h)) (fun q h => hA q (Nat.le_trans (hS.1) h)) (fun q _ h => h.elim) (fun E ce q9 u t9 H1 locs1 ht hvm hp9 hE hz1 hk1 hS1 hc1 hv1 hcl1 => hp9.elim) (fun r_19 u t9 H1 locs ht hvm hw hB hz1 hk1 hS => ?_)
    have hw : r_19 = 1 := hw
    subst hw
    have hP := zP_new hP hk1
    generalize H1 = H at hP hS ⊢
    have hP : va_P (dC, dI) zc [(x0, .inr (5, [.ref xa, .ref xw, .ref xb, .int 0])), (xa, .inr (0, [.int 0, .ref t, .int 0])), (xw, .inl (k1, 4, .inl (zW))), (m0, .inr (7, [.ref ma, .ref mw, .int 0, .int 0])), (ma, .inr (0, [.int 0, .ref t, .int 0])), (mw, .inl (k2, 4, .inl (zW))), (o, .inl (k3, 1, .inr (.inl (fun _ => 0))))] H := hP
    have hD : va_D (fun q : Nat => s.heap.size ≤ q) [(x0, .inr (5, [.ref xa, .ref xw, .ref xb, .int 0])), (xa, .inr (0, [.int 0, .ref t, .int 0])), (xw, .inl (k1, 4, .inl (zW))), (m0, .inr (7, [.ref ma, .ref mw, .int 0, .int 0])), (ma, .inr (0, [.int 0, .ref t, .int 0])), (mw, .inl (k2, 4, .inl (zW))), (o, .inl (k3, 1, .inr (.inl (fun _ => 0))))] := hD
    refine W.widen (k := 27) (n := 131) (zl_b rfl) (zl_b rfl) ?_
    refine lv_istore (lv' := [(6, .int 1), (5, .int 0), (4, .ref od), (3, .ref o), (2, .ref m0), (1, .ref x0), (0, .ref b)]) hx hb dL_law_1168 hl (by decide) rfl (fun ls hl => ?_)
    refine lv_aload_n hx hb dL_law_1170 rfl (lv_at hl 4 rfl) ?_
    refine lv_aload_n hx hb dL_law_1171 rfl (lv_at hl 6 rfl) ?_
    refine lv_iload hx hb dL_law_1172 (lv_at hl 1 rfl) ?_
    refine lv_iconst (v := 1) hx hb dL_law_1174 (by decide) ?_
    refine lv_iadd hx hb dL_law_1175 ?_
    refine va_sld hx hb hX hbl hbA hS (by unfold vp_in; decide) dL_law_1176 ?_
    refine lv_topi (fun v_20 e_v_20 => ?_)
    have s_21 : v_1 = v_20 := by rw [e_v_1, e_v_20]
    subst s_21
    refine lv_aload_n hx hb dL_law_1177 rfl (lv_at hl 6 rfl) ?_
    refine lv_iload hx hb dL_law_1178 (lv_at hl 1 rfl) ?_
    refine lv_iconst (v := 2) hx hb dL_law_1180 (by decide) ?_
    refine lv_iadd hx hb dL_law_1181 ?_
    refine va_sld hx hb hX hbl hbA hS (by unfold vp_in; decide) dL_law_1182 ?_
    refine lv_topi (fun v_22 e_v_22 => ?_)
    have s_23 : v_2 = v_22 := by rw [e_v_2, e_v_22]
    subst s_23
    refine lv_aload_n hx hb dL_law_1183 rfl (lv_at hl 6 rfl) ?_
    refine lv_iload hx hb dL_law_1184 (lv_at hl 1 rfl) ?_
    refine lv_iconst (v := 3) hx hb dL_law_1186 (by decide) ?_
    refine lv_iadd hx hb dL_law_1187 ?_
    refine va_sld hx hb hX hbl hbA hS (by unfold vp_in; decide) dL_law_1188 ?_
    refine lv_topi (fun v_24 e_v_24 => ?_)
    have s_25 : v_3 = v_24 := by rw [e_v_3, e_v_24]
    subst s_25
    refine lv_if_eq (tgt := 1196) hx hb dL_law_1189 (by decide) (fun c_26 => ?_) (fun c_26 => ?_)
    · refine lv_iconst (v := 0) hx hb dL_law_1196 (by decide) ?_
      have hFc := va_free (wc := [(m0, .inr (7, [.ref ma, .ref mw, .int 0, .int 0])), (ma, .inr (0, [.int 0, .ref t, .int 0]))]) hD hS hA [3, 4] rfl
      refine va_calll (va_runV (As := [.int v_1, .int v_2, .int 0]) (rest := []) ⟨hx, hb, hml, hown, hts⟩ (m_settle l dC dI H.size t m0 ma (.ref mw) 0 0 (.ref t) v_1 v_2 0) (cwV 3 hts (zg_V kw_1824 kw_1825 kw_1826 kw_70 kw_1827) rfl rfl rfl (by decide +kernel) ⟨Nat.le_of_ble_eq_true rfl, Nat.le_of_ble_eq_true rfl⟩) ⟨zA_blind, va_recv hK hP (ci := 7) (q0 := 3) rfl rfl, zA_pre hP hD hS hK hQ hA [3, 4] rfl rfl (by decide) [] rfl⟩ rfl rfl hl.1 rfl (lv_room (Nat.le_of_ble_eq_true rfl)) dL_law_1197 ⟨zl_b rfl, zl_b rfl⟩) hS (fun q _ h => hFc q h) hFc (fun r_27 u t9 H1 locs ht hvm hw hB hz1 hk1 hS => ?_)
      obtain ⟨hP1, hK1, hD1⟩ := hB
      rw [ht] at hP1
      have hK1 := va_K.moved hvm.symm hK1
      obtain ⟨hP, hD⟩ := va_join (wr := [(x0, .inr (5, [.ref xa, .ref xw, .ref xb, .int 0])), (xa, .inr (0, [.int 0, .ref t, .int 0])), (xw, .inl (k1, 4, .inl (zW))), (mw, .inl (k2, 4, .inl (zW))), (o, .inl (k3, 1, .inr (.inl (fun _ => 0))))]) (w1 := [(m0, .inr (7, [.ref ma, .ref mw, .int 0, .int 1])), (ma, .inr (0, [.int 0, .ref t, .int 0]))]) hP hD [3, 4] [0, 1, 2, 5, 6] rfl rfl (by decide) (by decide) hk1 hFc hP1 hD1
      have hK := (hK.sub (tys' := [(k1, .int), (k2, .int), (k3, .long)]) [0, 1, 2] rfl).app hK1
      generalize H1 = H at hP hS ⊢
      have hP : va_P (dC, dI) zc [(x0, .inr (5, [.ref xa, .ref xw, .ref xb, .int 0])), (xa, .inr (0, [.int 0, .ref t, .int 0])), (xw, .inl (k1, 4, .inl (zW))), (mw, .inl (k2, 4, .inl (zW))), (o, .inl (k3, 1, .inr (.inl (fun _ => 0)))), (m0, .inr (7, [.ref ma, .ref mw, .int 0, .int 1])), (ma, .inr (0, [.int 0, .ref t, .int 0]))] H := hP
      have hD : va_D (fun q : Nat => s.heap.size ≤ q) [(x0, .inr (5, [.ref xa, .ref xw, .ref xb, .int 0])), (xa, .inr (0, [.int 0, .ref t, .int 0])), (xw, .inl (k1, 4, .inl (zW))), (mw, .inl (k2, 4, .inl (zW))), (o, .inl (k3, 1, .inr (.inl (fun _ => 0)))), (m0, .inr (7, [.ref ma, .ref mw, .int 0, .int 1])), (ma, .inr (0, [.int 0, .ref t, .int 0]))] := hD
      have hK : va_K (dC, dI) zc [(k1, .int), (k2, .int), (k3, .long)] s := hK
      refine lv_lstore (lv' := [(7, .long r_27), (6, .int 1), (5, .int 0), (4, .ref od), (3, .ref o), (2, .ref m0), (1, .ref x0), (0, .ref b)]) hx hb dL_law_1200 hl (by decide) rfl (fun ls hl => ?_)
      refine lv_aload_n hx hb dL_law_1202 rfl (lv_at hl 5 rfl) ?_
      refine vp_callSi (W.runV (As := []) (rest := []) ⟨hx, hb, hml, hown, hts⟩ (c_thrown l dC dI H.size t m0 (.ref ma) (.ref mw) 0 1) (cwV 0 hts (zg_V kw_1365 kw_1366 kw_1367 kw_70 kw_1368) rfl rfl rfl (by decide +kernel) ⟨Nat.le_of_ble_eq_true rfl, Nat.le_of_ble_eq_true rfl⟩) ⟨zA_blind, va_recv hK hP (ci := 7) (q0 := 5) rfl rfl, zA_pre hP hD hS hK hQ hA [5] rfl rfl (by decide) [] rfl⟩ rfl rfl hl.1 rfl (lv_room (Nat.le_of_ble_eq_true rfl)) dL_law_1203 ⟨zl_b rfl, zl_b rfl⟩) (fun r hr => ?_)
      subst hr
      refine lv_iload hx hb dL_law_1206 (lv_at hl 1 rfl) ?_
      refine lv_icmp_eq (tgt := 1213) hx hb dL_law_1208 (by decide) (fun c_28 => ?_) (fun c_28 => absurd c_28 (by decide))
      refine lv_iload hx hb dL_law_1213 (lv_at hl 1 rfl) ?_
      refine lv_if_ne (tgt := 1229) hx hb dL_law_1215 (by decide) (fun c_29 => ?_) (fun c_29 => absurd c_29 (by decide))
      refine lv_goto (tgt := 2981) hx hb dL_law_1229 (by decide) ?_
      exact law_tail l C0 _ _ (zl_b rfl) (zl_b rfl) _ _ hS ls (lv_sub hl [7, 2] rfl)
    · refine lv_iconst (v := 1) hx hb dL_law_1192 (by decide) ?_
      refine lv_goto (tgt := 1197) hx hb dL_law_1193 (by decide) ?_
      have hFc := va_free (wc := [(m0, .inr (7, [.ref ma, .ref mw, .int 0, .int 0])), (ma, .inr (0, [.int 0, .ref t, .int 0]))]) hD hS hA [3, 4] rfl
      refine va_calll (va_runV (As := [.int v_1, .int v_2, .int 1]) (rest := []) ⟨hx, hb, hml, hown, hts⟩ (m_settle l dC dI H.size t m0 ma (.ref mw) 0 0 (.ref t) v_1 v_2 1) (cwV 3 hts (zg_V kw_1824 kw_1825 kw_1826 kw_70 kw_1827) rfl rfl rfl (by decide +kernel) ⟨Nat.le_of_ble_eq_true rfl, Nat.le_of_ble_eq_true rfl⟩) ⟨zA_blind, va_recv hK hP (ci := 7) (q0 := 3) rfl rfl, zA_pre hP hD hS hK hQ hA [3, 4] rfl rfl (by decide) [] rfl⟩ rfl rfl hl.1 rfl (lv_room (Nat.le_of_ble_eq_true rfl)) dL_law_1197 ⟨zl_b rfl, zl_b rfl⟩) hS (fun q _ h => hFc q h) hFc (fun r_30 u t9 H1 locs ht hvm hw hB hz1 hk1 hS => ?_)
      obtain ⟨hP1, hK1, hD1⟩ := hB
      rw [ht] at hP1
      have hK1 := va_K.moved hvm.symm hK1
      obtain ⟨hP, hD⟩ := va_join (wr := [(x0, .inr (5, [.ref xa, .ref xw, .ref xb, .int 0])), (xa, .inr (0, [.int 0, .ref t, .int 0])), (xw, .inl (k1, 4, .inl (zW))), (mw, .inl (k2, 4, .inl (zW))), (o, .inl (k3, 1, .inr (.inl (fun _ => 0))))]) (w1 := [(m0, .inr (7, [.ref ma, .ref mw, .int 0, .int 1])), (ma, .inr (0, [.int 0, .ref t, .int 0]))]) hP hD [3, 4] [0, 1, 2, 5, 6] rfl rfl (by decide) (by decide) hk1 hFc hP1 hD1
      have hK := (hK.sub (tys' := [(k1, .int), (k2, .int), (k3, .long)]) [0, 1, 2] rfl).app hK1
      generalize H1 = H at hP hS ⊢
      have hP : va_P (dC, dI) zc [(x0, .inr (5, [.ref xa, .ref xw, .ref xb, .int 0])), (xa, .inr (0, [.int 0, .ref t, .int 0])), (xw, .inl (k1, 4, .inl (zW))), (mw, .inl (k2, 4, .inl (zW))), (o, .inl (k3, 1, .inr (.inl (fun _ => 0)))), (m0, .inr (7, [.ref ma, .ref mw, .int 0, .int 1])), (ma, .inr (0, [.int 0, .ref t, .int 0]))] H := hP
      have hD : va_D (fun q : Nat => s.heap.size ≤ q) [(x0, .inr (5, [.ref xa, .ref xw, .ref xb, .int 0])), (xa, .inr (0, [.int 0, .ref t, .int 0])), (xw, .inl (k1, 4, .inl (zW))), (mw, .inl (k2, 4, .inl (zW))), (o, .inl (k3, 1, .inr (.inl (fun _ => 0)))), (m0, .inr (7, [.ref ma, .ref mw, .int 0, .int 1])), (ma, .inr (0, [.int 0, .ref t, .int 0]))] := hD
      have hK : va_K (dC, dI) zc [(k1, .int), (k2, .int), (k3, .long)] s := hK
      refine lv_lstore (lv' := [(7, .long r_30), (6, .int 1), (5, .int 0), (4, .ref od), (3, .ref o), (2, .ref m0), (1, .ref x0), (0, .ref b)]) hx hb dL_law_1200 hl (by decide) rfl (fun ls hl => ?_)
      refine lv_aload_n hx hb dL_law_1202 rfl (lv_at hl 5 rfl) ?_
      refine vp_callSi (W.runV (As := []) (rest := []) ⟨hx, hb, hml, hown, hts⟩ (c_thrown l dC dI H.size t m0 (.ref ma) (.ref mw) 0 1) (cwV 0 hts (zg_V kw_1365 kw_1366 kw_1367 kw_70 kw_1368) rfl rfl rfl (by decide +kernel) ⟨Nat.le_of_ble_eq_true rfl, Nat.le_of_ble_eq_true rfl⟩) ⟨zA_blind, va_recv hK hP (ci := 7) (q0 := 5) rfl rfl, zA_pre hP hD hS hK hQ hA [5] rfl rfl (by decide) [] rfl⟩ rfl rfl hl.1 rfl (lv_room (Nat.le_of_ble_eq_true rfl)) dL_law_1203 ⟨zl_b rfl, zl_b rfl⟩) (fun r hr => ?_)
      subst hr
      refine lv_iload hx hb dL_law_1206 (lv_at hl 1 rfl) ?_
      refine lv_icmp_eq (tgt := 1213) hx hb dL_law_1208 (by decide) (fun c_31 => ?_) (fun c_31 => absurd c_31 (by decide))
      refine lv_iload hx hb dL_law_1213 (lv_at hl 1 rfl) ?_
      refine lv_if_ne (tgt := 1229) hx hb dL_law_1215 (by decide) (fun c_32 => ?_) (fun c_32 => absurd c_32 (by decide))
      refine lv_goto (tgt := 2981) hx hb dL_law_1229 (by decide) ?_
      exact law_tail l C0 _ _ (zl_b rfl) (zl_b rfl) _ _ hS ls (lv_sub hl [7, 2] rfl)
set_option maxHeartbeats 4000000 in
set_option maxRecDepth 100000 in
/-- the law on reverse -/
theorem law_c13 {p : Program} {e : Env} {s : State} {m : MethodId} {below : List Frame} {meth : Method} {c : Code} {b : Nat} {xs : Nat → Int32} (l : Launch) (hst : l.stackTraces = false) (C0 : lw_At p s m meth c b 5 xs) {dC : Nat → ClassId} {dI : Nat → Nat → Nat} {t x0 xa xw xb m0 ma mw o od : Nat} {k1 k2 k3 : ClassId} (H : Heap) (locs : List Loc) (hK : va_K (dC, dI) zc [(k1, .int), (k2, .int), (k3, .long)] s) (hQ : zQ t (fun q : Nat => s.heap.size ≤ q) s s.heap) (hP : va_P (dC, dI) zc [(x0, .inr (5, [.ref xa, .ref xw, .ref xb, .int 0])), (xa, .inr (0, [.int 0, .ref t, .int 0])), (xw, .inl (k1, 4, .inl (zW))), (m0, .inr (7, [.ref ma, .ref mw, .int 0, .int 0])), (ma, .inr (0, [.int 0, .ref t, .int 0])), (mw, .inl (k2, 4, .inl (zW))), (o, .inl (k3, 1, .inr (.inl (fun _ => 0))))] H) (hD : va_D (fun q : Nat => s.heap.size ≤ q) [(x0, .inr (5, [.ref xa, .ref xw, .ref xb, .int 0])), (xa, .inr (0, [.int 0, .ref t, .int 0])), (xw, .inl (k1, 4, .inl (zW))), (m0, .inr (7, [.ref ma, .ref mw, .int 0, .int 0])), (ma, .inr (0, [.int 0, .ref t, .int 0])), (mw, .inl (k2, 4, .inl (zW))), (o, .inl (k3, 1, .inr (.inl (fun _ => 0))))]) (hS : va_S (fun q : Nat => s.heap.size ≤ q) s.heap H locs) (ls : Array Slot) (hl : lv_has ls 9 [(5, .int 0), (4, .ref od), (3, .ref o), (2, .ref m0), (1, .ref x0), (0, .ref b)]) : W p l e room_1 s m #[Value.ref b] below meth c H locs 26 125 (lw_Z below #[Value.ref b] s) (F0 m 1232 ls []) := by
  obtain ⟨hx, hb, hr, hml, hown, hts0, hX, hbl, hlocks, hgv⟩ := id C0
  have hts : ∀ w ∈ zG, w.before #[Value.ref b] s = true := fun w h => hts0 w (zg_tbl h)
  have hA : ∀ q : Nat, s.heap.size ≤ q → (fun q : Nat => s.heap.size ≤ q) q := fun _ h => h
  have hbA : ¬ (fun q : Nat => s.heap.size ≤ q) b := Nat.not_le.mpr hbl
  refine lv_aload_n hx hb dL_law_1232 rfl (lv_at hl 4 rfl) ?_
  refine lv_aload_n hx hb dL_law_1233 rfl (lv_at hl 5 rfl) ?_
  refine lv_iload hx hb dL_law_1234 (lv_at hl 0 rfl) ?_
  refine lv_iconst (v := 1) hx hb dL_law_1236 (by decide) ?_
  refine lv_iadd hx hb dL_law_1237 ?_
  refine va_sld hx hb hX hbl hbA hS (by unfold vp_in; decide) dL_law_1238 ?_
  refine lv_topi (fun v_1 e_v_1 => ?_)
  refine lv_aload_n hx hb dL_law_1239 rfl (lv_at hl 5 rfl) ?_
  refine lv_iload hx hb dL_law_1240 (lv_at hl 0 rfl) ?_
  refine lv_iconst (v := 2) hx hb dL_law_1242 (by decide) ?_
  refine lv_iadd hx hb dL_law_1243 ?_
  refine va_sld hx hb hX hbl hbA hS (by unfold vp_in; decide) dL_law_1244 ?_
  refine lv_topi (fun v_2 e_v_2 => ?_)
  refine lv_aload_n hx hb dL_law_1245 rfl (lv_at hl 2 rfl) ?_
  refine vx_calli (vx_runSX (As := [.ref x0, .int v_1, .int v_2, .ref o]) (rest := []) ⟨hx, hb, hml, hown, hts⟩ (lx_reverse l hst dC dI H.size t x0 xa o (.ref xw) (.ref xb) 0 (.ref t) v_1 v_2) (vx_cwSW 4 hts (zg_S kw_1108 kw_1109 kw_63 kw_1110) rfl rfl rfl (by decide +kernel) ⟨Nat.le_of_ble_eq_true rfl, Nat.le_of_ble_eq_true rfl⟩) ⟨zA_blind, zA_pre hP hD hS hK hQ hA [0, 1] rfl rfl (by decide) [] rfl⟩ rfl rfl hl.1 rfl (lv_room (Nat.le_of_ble_eq_true rfl)) dL_law_1246 ⟨zl_b rfl, zl_b rfl⟩) hS (fun q _ h => hA q (Nat.le_trans (hS.1) h)) (fun q h => hA q (Nat.le_trans (hS.1) h)) (fun q _ h => h.elim) (fun E ce q9 u t9 H1 locs1 ht hvm hp9 hE hz1 hk1 hS1 hc1 hv1 hcl1 => hp9.elim) (fun r_3 u t9 H1 locs ht hvm hw hB hz1 hk1 hS => ?_)
  have hw : r_3 = 1 := hw
  subst hw
  have hP := zP_new hP hk1
  generalize H1 = H at hP hS ⊢
  have hP : va_P (dC, dI) zc [(x0, .inr (5, [.ref xa, .ref xw, .ref xb, .int 0])), (xa, .inr (0, [.int 0, .ref t, .int 0])), (xw, .inl (k1, 4, .inl (zW))), (m0, .inr (7, [.ref ma, .ref mw, .int 0, .int 0])), (ma, .inr (0, [.int 0, .ref t, .int 0])), (mw, .inl (k2, 4, .inl (zW))), (o, .inl (k3, 1, .inr (.inl (fun _ => 0))))] H := hP
  have hD : va_D (fun q : Nat => s.heap.size ≤ q) [(x0, .inr (5, [.ref xa, .ref xw, .ref xb, .int 0])), (xa, .inr (0, [.int 0, .ref t, .int 0])), (xw, .inl (k1, 4, .inl (zW))), (m0, .inr (7, [.ref ma, .ref mw, .int 0, .int 0])), (ma, .inr (0, [.int 0, .ref t, .int 0])), (mw, .inl (k2, 4, .inl (zW))), (o, .inl (k3, 1, .inr (.inl (fun _ => 0))))] := hD
  refine W.widen (k := 27) (n := 131) (zl_b rfl) (zl_b rfl) ?_
  refine lv_istore (lv' := [(6, .int 1), (5, .int 0), (4, .ref od), (3, .ref o), (2, .ref m0), (1, .ref x0), (0, .ref b)]) hx hb dL_law_1249 hl (by decide) rfl (fun ls hl => ?_)
  refine lv_aload_n hx hb dL_law_1251 rfl (lv_at hl 4 rfl) ?_
  refine lv_aload_n hx hb dL_law_1252 rfl (lv_at hl 6 rfl) ?_
  refine lv_iload hx hb dL_law_1253 (lv_at hl 1 rfl) ?_
  refine lv_iconst (v := 1) hx hb dL_law_1255 (by decide) ?_
  refine lv_iadd hx hb dL_law_1256 ?_
  refine va_sld hx hb hX hbl hbA hS (by unfold vp_in; decide) dL_law_1257 ?_
  refine lv_topi (fun v_4 e_v_4 => ?_)
  have s_5 : v_1 = v_4 := by rw [e_v_1, e_v_4]
  subst s_5
  refine lv_aload_n hx hb dL_law_1258 rfl (lv_at hl 6 rfl) ?_
  refine lv_iload hx hb dL_law_1259 (lv_at hl 1 rfl) ?_
  refine lv_iconst (v := 2) hx hb dL_law_1261 (by decide) ?_
  refine lv_iadd hx hb dL_law_1262 ?_
  refine va_sld hx hb hX hbl hbA hS (by unfold vp_in; decide) dL_law_1263 ?_
  refine lv_topi (fun v_6 e_v_6 => ?_)
  have s_7 : v_2 = v_6 := by rw [e_v_2, e_v_6]
  subst s_7
  have hFc := va_free (wc := [(m0, .inr (7, [.ref ma, .ref mw, .int 0, .int 0])), (ma, .inr (0, [.int 0, .ref t, .int 0]))]) hD hS hA [3, 4] rfl
  refine va_calll (va_runV (As := [.int v_1, .int v_2]) (rest := []) ⟨hx, hb, hml, hown, hts⟩ (m_reverse l dC dI H.size t m0 ma (.ref mw) 0 0 (.ref t) v_1 v_2) (cwV 2 hts (zg_V kw_1828 kw_1829 kw_1830 kw_70 kw_1831) rfl rfl rfl (by decide +kernel) ⟨Nat.le_of_ble_eq_true rfl, Nat.le_of_ble_eq_true rfl⟩) ⟨zA_blind, va_recv hK hP (ci := 7) (q0 := 3) rfl rfl, zA_pre hP hD hS hK hQ hA [3, 4] rfl rfl (by decide) [] rfl⟩ rfl rfl hl.1 rfl (lv_room (Nat.le_of_ble_eq_true rfl)) dL_law_1264 ⟨zl_b rfl, zl_b rfl⟩) hS (fun q _ h => hFc q h) hFc (fun r_8 u t9 H1 locs ht hvm hw hB hz1 hk1 hS => ?_)
  obtain ⟨hP1, hK1, hD1⟩ := hB
  rw [ht] at hP1
  have hK1 := va_K.moved hvm.symm hK1
  obtain ⟨hP, hD⟩ := va_join (wr := [(x0, .inr (5, [.ref xa, .ref xw, .ref xb, .int 0])), (xa, .inr (0, [.int 0, .ref t, .int 0])), (xw, .inl (k1, 4, .inl (zW))), (mw, .inl (k2, 4, .inl (zW))), (o, .inl (k3, 1, .inr (.inl (fun _ => 0))))]) (w1 := [(m0, .inr (7, [.ref ma, .ref mw, .int 0, .int 1])), (ma, .inr (0, [.int 0, .ref t, .int 0]))]) hP hD [3, 4] [0, 1, 2, 5, 6] rfl rfl (by decide) (by decide) hk1 hFc hP1 hD1
  have hK := (hK.sub (tys' := [(k1, .int), (k2, .int), (k3, .long)]) [0, 1, 2] rfl).app hK1
  generalize H1 = H at hP hS ⊢
  have hP : va_P (dC, dI) zc [(x0, .inr (5, [.ref xa, .ref xw, .ref xb, .int 0])), (xa, .inr (0, [.int 0, .ref t, .int 0])), (xw, .inl (k1, 4, .inl (zW))), (mw, .inl (k2, 4, .inl (zW))), (o, .inl (k3, 1, .inr (.inl (fun _ => 0)))), (m0, .inr (7, [.ref ma, .ref mw, .int 0, .int 1])), (ma, .inr (0, [.int 0, .ref t, .int 0]))] H := hP
  have hD : va_D (fun q : Nat => s.heap.size ≤ q) [(x0, .inr (5, [.ref xa, .ref xw, .ref xb, .int 0])), (xa, .inr (0, [.int 0, .ref t, .int 0])), (xw, .inl (k1, 4, .inl (zW))), (mw, .inl (k2, 4, .inl (zW))), (o, .inl (k3, 1, .inr (.inl (fun _ => 0)))), (m0, .inr (7, [.ref ma, .ref mw, .int 0, .int 1])), (ma, .inr (0, [.int 0, .ref t, .int 0]))] := hD
  have hK : va_K (dC, dI) zc [(k1, .int), (k2, .int), (k3, .long)] s := hK
  refine lv_lstore (lv' := [(7, .long r_8), (6, .int 1), (5, .int 0), (4, .ref od), (3, .ref o), (2, .ref m0), (1, .ref x0), (0, .ref b)]) hx hb dL_law_1267 hl (by decide) rfl (fun ls hl => ?_)
  refine lv_aload_n hx hb dL_law_1269 rfl (lv_at hl 5 rfl) ?_
  refine vp_callSi (W.runV (As := []) (rest := []) ⟨hx, hb, hml, hown, hts⟩ (c_thrown l dC dI H.size t m0 (.ref ma) (.ref mw) 0 1) (cwV 0 hts (zg_V kw_1365 kw_1366 kw_1367 kw_70 kw_1368) rfl rfl rfl (by decide +kernel) ⟨Nat.le_of_ble_eq_true rfl, Nat.le_of_ble_eq_true rfl⟩) ⟨zA_blind, va_recv hK hP (ci := 7) (q0 := 5) rfl rfl, zA_pre hP hD hS hK hQ hA [5] rfl rfl (by decide) [] rfl⟩ rfl rfl hl.1 rfl (lv_room (Nat.le_of_ble_eq_true rfl)) dL_law_1270 ⟨zl_b rfl, zl_b rfl⟩) (fun r hr => ?_)
  subst hr
  refine lv_iload hx hb dL_law_1273 (lv_at hl 1 rfl) ?_
  refine lv_icmp_eq (tgt := 1280) hx hb dL_law_1275 (by decide) (fun c_9 => ?_) (fun c_9 => absurd c_9 (by decide))
  refine lv_iload hx hb dL_law_1280 (lv_at hl 1 rfl) ?_
  refine lv_if_ne (tgt := 1296) hx hb dL_law_1282 (by decide) (fun c_10 => ?_) (fun c_10 => absurd c_10 (by decide))
  refine lv_goto (tgt := 2981) hx hb dL_law_1296 (by decide) ?_
  exact law_tail l C0 _ _ (zl_b rfl) (zl_b rfl) _ _ hS ls (lv_sub hl [7, 2] rfl)
set_option maxHeartbeats 4000000 in
set_option maxRecDepth 100000 in
/-- the law on plan -/
theorem law_c14 {p : Program} {e : Env} {s : State} {m : MethodId} {below : List Frame} {meth : Method} {c : Code} {b : Nat} {xs : Nat → Int32} (l : Launch) (hst : l.stackTraces = false) (C0 : lw_At p s m meth c b 5 xs) {dC : Nat → ClassId} {dI : Nat → Nat → Nat} {t x0 xa xw xb m0 ma mw o od : Nat} {k1 k2 k3 : ClassId} (H : Heap) (locs : List Loc) (hK : va_K (dC, dI) zc [(k1, .int), (k2, .int), (k3, .long)] s) (hQ : zQ t (fun q : Nat => s.heap.size ≤ q) s s.heap) (hP : va_P (dC, dI) zc [(x0, .inr (5, [.ref xa, .ref xw, .ref xb, .int 0])), (xa, .inr (0, [.int 0, .ref t, .int 0])), (xw, .inl (k1, 4, .inl (zW))), (m0, .inr (7, [.ref ma, .ref mw, .int 0, .int 0])), (ma, .inr (0, [.int 0, .ref t, .int 0])), (mw, .inl (k2, 4, .inl (zW))), (o, .inl (k3, 1, .inr (.inl (fun _ => 0))))] H) (hD : va_D (fun q : Nat => s.heap.size ≤ q) [(x0, .inr (5, [.ref xa, .ref xw, .ref xb, .int 0])), (xa, .inr (0, [.int 0, .ref t, .int 0])), (xw, .inl (k1, 4, .inl (zW))), (m0, .inr (7, [.ref ma, .ref mw, .int 0, .int 0])), (ma, .inr (0, [.int 0, .ref t, .int 0])), (mw, .inl (k2, 4, .inl (zW))), (o, .inl (k3, 1, .inr (.inl (fun _ => 0))))]) (hS : va_S (fun q : Nat => s.heap.size ≤ q) s.heap H locs) (ls : Array Slot) (hl : lv_has ls 9 [(5, .int 0), (4, .ref od), (3, .ref o), (2, .ref m0), (1, .ref x0), (0, .ref b)]) : W p l e room_1 s m #[Value.ref b] below meth c H locs 26 125 (lw_Z below #[Value.ref b] s) (F0 m 1299 ls []) := by
  obtain ⟨hx, hb, hr, hml, hown, hts0, hX, hbl, hlocks, hgv⟩ := id C0
  have hts : ∀ w ∈ zG, w.before #[Value.ref b] s = true := fun w h => hts0 w (zg_tbl h)
  have hA : ∀ q : Nat, s.heap.size ≤ q → (fun q : Nat => s.heap.size ≤ q) q := fun _ h => h
  have hbA : ¬ (fun q : Nat => s.heap.size ≤ q) b := Nat.not_le.mpr hbl
  refine lv_aload_n hx hb dL_law_1299 rfl (lv_at hl 4 rfl) ?_
  refine lv_aload_n hx hb dL_law_1300 rfl (lv_at hl 5 rfl) ?_
  refine lv_iload hx hb dL_law_1301 (lv_at hl 0 rfl) ?_
  refine lv_iconst (v := 1) hx hb dL_law_1303 (by decide) ?_
  refine lv_iadd hx hb dL_law_1304 ?_
  refine va_sld hx hb hX hbl hbA hS (by unfold vp_in; decide) dL_law_1305 ?_
  refine lv_topi (fun v_1 e_v_1 => ?_)
  refine lv_aload_n hx hb dL_law_1306 rfl (lv_at hl 2 rfl) ?_
  refine vx_calli (vx_runSX (As := [.ref x0, .int v_1, .ref o]) (rest := []) ⟨hx, hb, hml, hown, hts⟩ (lx_plan l hst dC dI H.size t x0 xa o (.ref xw) (.ref xb) 0 (.ref t) v_1) (vx_cwSW 3 hts (zg_S kw_1115 kw_1116 kw_63 kw_1117) rfl rfl rfl (by decide +kernel) ⟨Nat.le_of_ble_eq_true rfl, Nat.le_of_ble_eq_true rfl⟩) ⟨zA_blind, zA_pre hP hD hS hK hQ hA [0, 1] rfl rfl (by decide) [] rfl⟩ rfl rfl hl.1 rfl (lv_room (Nat.le_of_ble_eq_true rfl)) dL_law_1307 ⟨zl_b rfl, zl_b rfl⟩) hS (fun q _ h => hA q (Nat.le_trans (hS.1) h)) (fun q h => hA q (Nat.le_trans (hS.1) h)) (fun q _ h => h.elim) (fun E ce q9 u t9 H1 locs1 ht hvm hp9 hE hz1 hk1 hS1 hc1 hv1 hcl1 => hp9.elim) (fun r_2 u t9 H1 locs ht hvm hw hB hz1 hk1 hS => ?_)
  have hw : r_2 = 1 := hw
  subst hw
  have hP := zP_new hP hk1
  generalize H1 = H at hP hS ⊢
  have hP : va_P (dC, dI) zc [(x0, .inr (5, [.ref xa, .ref xw, .ref xb, .int 0])), (xa, .inr (0, [.int 0, .ref t, .int 0])), (xw, .inl (k1, 4, .inl (zW))), (m0, .inr (7, [.ref ma, .ref mw, .int 0, .int 0])), (ma, .inr (0, [.int 0, .ref t, .int 0])), (mw, .inl (k2, 4, .inl (zW))), (o, .inl (k3, 1, .inr (.inl (fun _ => 0))))] H := hP
  have hD : va_D (fun q : Nat => s.heap.size ≤ q) [(x0, .inr (5, [.ref xa, .ref xw, .ref xb, .int 0])), (xa, .inr (0, [.int 0, .ref t, .int 0])), (xw, .inl (k1, 4, .inl (zW))), (m0, .inr (7, [.ref ma, .ref mw, .int 0, .int 0])), (ma, .inr (0, [.int 0, .ref t, .int 0])), (mw, .inl (k2, 4, .inl (zW))), (o, .inl (k3, 1, .inr (.inl (fun _ => 0))))] := hD
  refine W.widen (k := 27) (n := 131) (zl_b rfl) (zl_b rfl) ?_
  refine lv_istore (lv' := [(6, .int 1), (5, .int 0), (4, .ref od), (3, .ref o), (2, .ref m0), (1, .ref x0), (0, .ref b)]) hx hb dL_law_1310 hl (by decide) rfl (fun ls hl => ?_)
  refine lv_aload_n hx hb dL_law_1312 rfl (lv_at hl 4 rfl) ?_
  refine lv_aload_n hx hb dL_law_1313 rfl (lv_at hl 6 rfl) ?_
  refine lv_iload hx hb dL_law_1314 (lv_at hl 1 rfl) ?_
  refine lv_iconst (v := 1) hx hb dL_law_1316 (by decide) ?_
  refine lv_iadd hx hb dL_law_1317 ?_
  refine va_sld hx hb hX hbl hbA hS (by unfold vp_in; decide) dL_law_1318 ?_
  refine lv_topi (fun v_3 e_v_3 => ?_)
  have s_4 : v_1 = v_3 := by rw [e_v_1, e_v_3]
  subst s_4
  have hFc := va_free (wc := [(m0, .inr (7, [.ref ma, .ref mw, .int 0, .int 0])), (ma, .inr (0, [.int 0, .ref t, .int 0]))]) hD hS hA [3, 4] rfl
  refine va_calli (va_runV (As := [.int v_1]) (rest := []) ⟨hx, hb, hml, hown, hts⟩ (m_plan l dC dI H.size t m0 ma (.ref mw) 0 0 (.ref t) v_1) (cwV 1 hts (zg_V kw_1832 kw_1833 kw_1834 kw_70 kw_1835) rfl rfl rfl (by decide +kernel) ⟨Nat.le_of_ble_eq_true rfl, Nat.le_of_ble_eq_true rfl⟩) ⟨zA_blind, va_recv hK hP (ci := 7) (q0 := 3) rfl rfl, zA_pre hP hD hS hK hQ hA [3, 4] rfl rfl (by decide) [] rfl⟩ rfl rfl hl.1 rfl (lv_room (Nat.le_of_ble_eq_true rfl)) dL_law_1319 ⟨zl_b rfl, zl_b rfl⟩) hS (fun q _ h => hFc q h) hFc (fun r_5 u t9 H1 locs ht hvm hw hB hz1 hk1 hS => ?_)
  obtain ⟨hP1, hK1, hD1⟩ := hB
  rw [ht] at hP1
  have hK1 := va_K.moved hvm.symm hK1
  obtain ⟨hP, hD⟩ := va_join (wr := [(x0, .inr (5, [.ref xa, .ref xw, .ref xb, .int 0])), (xa, .inr (0, [.int 0, .ref t, .int 0])), (xw, .inl (k1, 4, .inl (zW))), (mw, .inl (k2, 4, .inl (zW))), (o, .inl (k3, 1, .inr (.inl (fun _ => 0))))]) (w1 := [(m0, .inr (7, [.ref ma, .ref mw, .int 0, .int 1])), (ma, .inr (0, [.int 0, .ref t, .int 0]))]) hP hD [3, 4] [0, 1, 2, 5, 6] rfl rfl (by decide) (by decide) hk1 hFc hP1 hD1
  have hK := (hK.sub (tys' := [(k1, .int), (k2, .int), (k3, .long)]) [0, 1, 2] rfl).app hK1
  generalize H1 = H at hP hS ⊢
  have hP : va_P (dC, dI) zc [(x0, .inr (5, [.ref xa, .ref xw, .ref xb, .int 0])), (xa, .inr (0, [.int 0, .ref t, .int 0])), (xw, .inl (k1, 4, .inl (zW))), (mw, .inl (k2, 4, .inl (zW))), (o, .inl (k3, 1, .inr (.inl (fun _ => 0)))), (m0, .inr (7, [.ref ma, .ref mw, .int 0, .int 1])), (ma, .inr (0, [.int 0, .ref t, .int 0]))] H := hP
  have hD : va_D (fun q : Nat => s.heap.size ≤ q) [(x0, .inr (5, [.ref xa, .ref xw, .ref xb, .int 0])), (xa, .inr (0, [.int 0, .ref t, .int 0])), (xw, .inl (k1, 4, .inl (zW))), (mw, .inl (k2, 4, .inl (zW))), (o, .inl (k3, 1, .inr (.inl (fun _ => 0)))), (m0, .inr (7, [.ref ma, .ref mw, .int 0, .int 1])), (ma, .inr (0, [.int 0, .ref t, .int 0]))] := hD
  have hK : va_K (dC, dI) zc [(k1, .int), (k2, .int), (k3, .long)] s := hK
  refine lv_istore (lv' := [(7, .int r_5), (6, .int 1), (5, .int 0), (4, .ref od), (3, .ref o), (2, .ref m0), (1, .ref x0), (0, .ref b)]) hx hb dL_law_1322 hl (by decide) rfl (fun ls hl => ?_)
  refine lv_aload_n hx hb dL_law_1324 rfl (lv_at hl 5 rfl) ?_
  refine vp_callSi (W.runV (As := []) (rest := []) ⟨hx, hb, hml, hown, hts⟩ (c_thrown l dC dI H.size t m0 (.ref ma) (.ref mw) 0 1) (cwV 0 hts (zg_V kw_1365 kw_1366 kw_1367 kw_70 kw_1368) rfl rfl rfl (by decide +kernel) ⟨Nat.le_of_ble_eq_true rfl, Nat.le_of_ble_eq_true rfl⟩) ⟨zA_blind, va_recv hK hP (ci := 7) (q0 := 5) rfl rfl, zA_pre hP hD hS hK hQ hA [5] rfl rfl (by decide) [] rfl⟩ rfl rfl hl.1 rfl (lv_room (Nat.le_of_ble_eq_true rfl)) dL_law_1325 ⟨zl_b rfl, zl_b rfl⟩) (fun r hr => ?_)
  subst hr
  refine lv_iload hx hb dL_law_1328 (lv_at hl 1 rfl) ?_
  refine lv_icmp_eq (tgt := 1335) hx hb dL_law_1330 (by decide) (fun c_6 => ?_) (fun c_6 => absurd c_6 (by decide))
  refine lv_iload hx hb dL_law_1335 (lv_at hl 1 rfl) ?_
  refine lv_if_ne (tgt := 1352) hx hb dL_law_1337 (by decide) (fun c_7 => ?_) (fun c_7 => absurd c_7 (by decide))
  refine lv_goto (tgt := 2981) hx hb dL_law_1352 (by decide) ?_
  exact law_tail l C0 _ _ (zl_b rfl) (zl_b rfl) _ _ hS ls (lv_sub hl [7, 2] rfl)
set_option maxHeartbeats 4000000 in
set_option maxRecDepth 100000 in
/-- the law on redeem -/
theorem law_c15 {p : Program} {e : Env} {s : State} {m : MethodId} {below : List Frame} {meth : Method} {c : Code} {b : Nat} {xs : Nat → Int32} (l : Launch) (hst : l.stackTraces = false) (C0 : lw_At p s m meth c b 5 xs) {dC : Nat → ClassId} {dI : Nat → Nat → Nat} {t x0 xa xw xb m0 ma mw o od : Nat} {k1 k2 k3 : ClassId} (H : Heap) (locs : List Loc) (hK : va_K (dC, dI) zc [(k1, .int), (k2, .int), (k3, .long)] s) (hQ : zQ t (fun q : Nat => s.heap.size ≤ q) s s.heap) (hP : va_P (dC, dI) zc [(x0, .inr (5, [.ref xa, .ref xw, .ref xb, .int 0])), (xa, .inr (0, [.int 0, .ref t, .int 0])), (xw, .inl (k1, 4, .inl (zW))), (m0, .inr (7, [.ref ma, .ref mw, .int 0, .int 0])), (ma, .inr (0, [.int 0, .ref t, .int 0])), (mw, .inl (k2, 4, .inl (zW))), (o, .inl (k3, 1, .inr (.inl (fun _ => 0))))] H) (hD : va_D (fun q : Nat => s.heap.size ≤ q) [(x0, .inr (5, [.ref xa, .ref xw, .ref xb, .int 0])), (xa, .inr (0, [.int 0, .ref t, .int 0])), (xw, .inl (k1, 4, .inl (zW))), (m0, .inr (7, [.ref ma, .ref mw, .int 0, .int 0])), (ma, .inr (0, [.int 0, .ref t, .int 0])), (mw, .inl (k2, 4, .inl (zW))), (o, .inl (k3, 1, .inr (.inl (fun _ => 0))))]) (hS : va_S (fun q : Nat => s.heap.size ≤ q) s.heap H locs) (ls : Array Slot) (hl : lv_has ls 9 [(5, .int 0), (4, .ref od), (3, .ref o), (2, .ref m0), (1, .ref x0), (0, .ref b)]) : W p l e room_1 s m #[Value.ref b] below meth c H locs 26 125 (lw_Z below #[Value.ref b] s) (F0 m 1355 ls []) := by
  obtain ⟨hx, hb, hr, hml, hown, hts0, hX, hbl, hlocks, hgv⟩ := id C0
  have hts : ∀ w ∈ zG, w.before #[Value.ref b] s = true := fun w h => hts0 w (zg_tbl h)
  have hA : ∀ q : Nat, s.heap.size ≤ q → (fun q : Nat => s.heap.size ≤ q) q := fun _ h => h
  have hbA : ¬ (fun q : Nat => s.heap.size ≤ q) b := Nat.not_le.mpr hbl
  refine lv_aload_n hx hb dL_law_1355 rfl (lv_at hl 4 rfl) ?_
  refine lv_aload_n hx hb dL_law_1356 rfl (lv_at hl 5 rfl) ?_
  refine lv_iload hx hb dL_law_1357 (lv_at hl 0 rfl) ?_
  refine lv_iconst (v := 1) hx hb dL_law_1359 (by decide) ?_
  refine lv_iadd hx hb dL_law_1360 ?_
  refine va_sld hx hb hX hbl hbA hS (by unfold vp_in; decide) dL_law_1361 ?_
  refine lv_topi (fun v_1 e_v_1 => ?_)
  refine lv_aload_n hx hb dL_law_1362 rfl (lv_at hl 5 rfl) ?_
  refine lv_iload hx hb dL_law_1363 (lv_at hl 0 rfl) ?_
  refine lv_iconst (v := 2) hx hb dL_law_1365 (by decide) ?_
  refine lv_iadd hx hb dL_law_1366 ?_
  refine va_sld hx hb hX hbl hbA hS (by unfold vp_in; decide) dL_law_1367 ?_
  refine lv_topi (fun v_2 e_v_2 => ?_)
  refine lv_aload_n hx hb dL_law_1368 rfl (lv_at hl 2 rfl) ?_
  refine vx_calli (vx_runSX (As := [.ref x0, .int v_1, .int v_2, .ref o]) (rest := []) ⟨hx, hb, hml, hown, hts⟩ (lx_redeem l hst dC dI H.size t x0 xa o (.ref xw) (.ref xb) 0 (.ref t) v_1 v_2) (vx_cwSW 4 hts (zg_S kw_1126 kw_1127 kw_63 kw_1128) rfl rfl rfl (by decide +kernel) ⟨Nat.le_of_ble_eq_true rfl, Nat.le_of_ble_eq_true rfl⟩) ⟨zA_blind, zA_pre hP hD hS hK hQ hA [0, 1] rfl rfl (by decide) [] rfl⟩ rfl rfl hl.1 rfl (lv_room (Nat.le_of_ble_eq_true rfl)) dL_law_1369 ⟨zl_b rfl, zl_b rfl⟩) hS (fun q _ h => hA q (Nat.le_trans (hS.1) h)) (fun q h => hA q (Nat.le_trans (hS.1) h)) (fun q _ h => h.elim) (fun E ce q9 u t9 H1 locs1 ht hvm hp9 hE hz1 hk1 hS1 hc1 hv1 hcl1 => hp9.elim) (fun r_3 u t9 H1 locs ht hvm hw hB hz1 hk1 hS => ?_)
  have hw : r_3 = 1 := hw
  subst hw
  have hP := zP_new hP hk1
  generalize H1 = H at hP hS ⊢
  have hP : va_P (dC, dI) zc [(x0, .inr (5, [.ref xa, .ref xw, .ref xb, .int 0])), (xa, .inr (0, [.int 0, .ref t, .int 0])), (xw, .inl (k1, 4, .inl (zW))), (m0, .inr (7, [.ref ma, .ref mw, .int 0, .int 0])), (ma, .inr (0, [.int 0, .ref t, .int 0])), (mw, .inl (k2, 4, .inl (zW))), (o, .inl (k3, 1, .inr (.inl (fun _ => 0))))] H := hP
  have hD : va_D (fun q : Nat => s.heap.size ≤ q) [(x0, .inr (5, [.ref xa, .ref xw, .ref xb, .int 0])), (xa, .inr (0, [.int 0, .ref t, .int 0])), (xw, .inl (k1, 4, .inl (zW))), (m0, .inr (7, [.ref ma, .ref mw, .int 0, .int 0])), (ma, .inr (0, [.int 0, .ref t, .int 0])), (mw, .inl (k2, 4, .inl (zW))), (o, .inl (k3, 1, .inr (.inl (fun _ => 0))))] := hD
  refine W.widen (k := 27) (n := 131) (zl_b rfl) (zl_b rfl) ?_
  refine lv_istore (lv' := [(6, .int 1), (5, .int 0), (4, .ref od), (3, .ref o), (2, .ref m0), (1, .ref x0), (0, .ref b)]) hx hb dL_law_1372 hl (by decide) rfl (fun ls hl => ?_)
  refine lv_aload_n hx hb dL_law_1374 rfl (lv_at hl 4 rfl) ?_
  refine lv_aload_n hx hb dL_law_1375 rfl (lv_at hl 6 rfl) ?_
  refine lv_iload hx hb dL_law_1376 (lv_at hl 1 rfl) ?_
  refine lv_iconst (v := 1) hx hb dL_law_1378 (by decide) ?_
  refine lv_iadd hx hb dL_law_1379 ?_
  refine va_sld hx hb hX hbl hbA hS (by unfold vp_in; decide) dL_law_1380 ?_
  refine lv_topi (fun v_4 e_v_4 => ?_)
  have s_5 : v_1 = v_4 := by rw [e_v_1, e_v_4]
  subst s_5
  refine lv_aload_n hx hb dL_law_1381 rfl (lv_at hl 6 rfl) ?_
  refine lv_iload hx hb dL_law_1382 (lv_at hl 1 rfl) ?_
  refine lv_iconst (v := 2) hx hb dL_law_1384 (by decide) ?_
  refine lv_iadd hx hb dL_law_1385 ?_
  refine va_sld hx hb hX hbl hbA hS (by unfold vp_in; decide) dL_law_1386 ?_
  refine lv_topi (fun v_6 e_v_6 => ?_)
  have s_7 : v_2 = v_6 := by rw [e_v_2, e_v_6]
  subst s_7
  have hFc := va_free (wc := [(m0, .inr (7, [.ref ma, .ref mw, .int 0, .int 0])), (ma, .inr (0, [.int 0, .ref t, .int 0]))]) hD hS hA [3, 4] rfl
  refine va_calli (va_runV (As := [.int v_1, .int v_2]) (rest := []) ⟨hx, hb, hml, hown, hts⟩ (m_redeem l dC dI H.size t m0 ma (.ref mw) 0 0 (.ref t) v_1 v_2) (cwV 2 hts (zg_V kw_1836 kw_1837 kw_1838 kw_70 kw_1839) rfl rfl rfl (by decide +kernel) ⟨Nat.le_of_ble_eq_true rfl, Nat.le_of_ble_eq_true rfl⟩) ⟨zA_blind, va_recv hK hP (ci := 7) (q0 := 3) rfl rfl, zA_pre hP hD hS hK hQ hA [3, 4] rfl rfl (by decide) [] rfl⟩ rfl rfl hl.1 rfl (lv_room (Nat.le_of_ble_eq_true rfl)) dL_law_1387 ⟨zl_b rfl, zl_b rfl⟩) hS (fun q _ h => hFc q h) hFc (fun r_8 u t9 H1 locs ht hvm hw hB hz1 hk1 hS => ?_)
  obtain ⟨hP1, hK1, hD1⟩ := hB
  rw [ht] at hP1
  have hK1 := va_K.moved hvm.symm hK1
  obtain ⟨hP, hD⟩ := va_join (wr := [(x0, .inr (5, [.ref xa, .ref xw, .ref xb, .int 0])), (xa, .inr (0, [.int 0, .ref t, .int 0])), (xw, .inl (k1, 4, .inl (zW))), (mw, .inl (k2, 4, .inl (zW))), (o, .inl (k3, 1, .inr (.inl (fun _ => 0))))]) (w1 := [(m0, .inr (7, [.ref ma, .ref mw, .int 0, .int 1])), (ma, .inr (0, [.int 0, .ref t, .int 0]))]) hP hD [3, 4] [0, 1, 2, 5, 6] rfl rfl (by decide) (by decide) hk1 hFc hP1 hD1
  have hK := (hK.sub (tys' := [(k1, .int), (k2, .int), (k3, .long)]) [0, 1, 2] rfl).app hK1
  generalize H1 = H at hP hS ⊢
  have hP : va_P (dC, dI) zc [(x0, .inr (5, [.ref xa, .ref xw, .ref xb, .int 0])), (xa, .inr (0, [.int 0, .ref t, .int 0])), (xw, .inl (k1, 4, .inl (zW))), (mw, .inl (k2, 4, .inl (zW))), (o, .inl (k3, 1, .inr (.inl (fun _ => 0)))), (m0, .inr (7, [.ref ma, .ref mw, .int 0, .int 1])), (ma, .inr (0, [.int 0, .ref t, .int 0]))] H := hP
  have hD : va_D (fun q : Nat => s.heap.size ≤ q) [(x0, .inr (5, [.ref xa, .ref xw, .ref xb, .int 0])), (xa, .inr (0, [.int 0, .ref t, .int 0])), (xw, .inl (k1, 4, .inl (zW))), (mw, .inl (k2, 4, .inl (zW))), (o, .inl (k3, 1, .inr (.inl (fun _ => 0)))), (m0, .inr (7, [.ref ma, .ref mw, .int 0, .int 1])), (ma, .inr (0, [.int 0, .ref t, .int 0]))] := hD
  have hK : va_K (dC, dI) zc [(k1, .int), (k2, .int), (k3, .long)] s := hK
  refine lv_istore (lv' := [(7, .int r_8), (6, .int 1), (5, .int 0), (4, .ref od), (3, .ref o), (2, .ref m0), (1, .ref x0), (0, .ref b)]) hx hb dL_law_1390 hl (by decide) rfl (fun ls hl => ?_)
  refine lv_aload_n hx hb dL_law_1392 rfl (lv_at hl 5 rfl) ?_
  refine vp_callSi (W.runV (As := []) (rest := []) ⟨hx, hb, hml, hown, hts⟩ (c_thrown l dC dI H.size t m0 (.ref ma) (.ref mw) 0 1) (cwV 0 hts (zg_V kw_1365 kw_1366 kw_1367 kw_70 kw_1368) rfl rfl rfl (by decide +kernel) ⟨Nat.le_of_ble_eq_true rfl, Nat.le_of_ble_eq_true rfl⟩) ⟨zA_blind, va_recv hK hP (ci := 7) (q0 := 5) rfl rfl, zA_pre hP hD hS hK hQ hA [5] rfl rfl (by decide) [] rfl⟩ rfl rfl hl.1 rfl (lv_room (Nat.le_of_ble_eq_true rfl)) dL_law_1393 ⟨zl_b rfl, zl_b rfl⟩) (fun r hr => ?_)
  subst hr
  refine lv_iload hx hb dL_law_1396 (lv_at hl 1 rfl) ?_
  refine lv_icmp_eq (tgt := 1403) hx hb dL_law_1398 (by decide) (fun c_9 => ?_) (fun c_9 => absurd c_9 (by decide))
  refine lv_iload hx hb dL_law_1403 (lv_at hl 1 rfl) ?_
  refine lv_if_ne (tgt := 1420) hx hb dL_law_1405 (by decide) (fun c_10 => ?_) (fun c_10 => absurd c_10 (by decide))
  refine lv_goto (tgt := 2981) hx hb dL_law_1420 (by decide) ?_
  exact law_tail l C0 _ _ (zl_b rfl) (zl_b rfl) _ _ hS ls (lv_sub hl [7, 2] rfl)
set_option maxHeartbeats 4000000 in
set_option maxRecDepth 100000 in
/-- the law on pass -/
theorem law_c16 {p : Program} {e : Env} {s : State} {m : MethodId} {below : List Frame} {meth : Method} {c : Code} {b : Nat} {xs : Nat → Int32} (l : Launch) (hst : l.stackTraces = false) (C0 : lw_At p s m meth c b 5 xs) {dC : Nat → ClassId} {dI : Nat → Nat → Nat} {t x0 xa xw xb m0 ma mw o od : Nat} {k1 k2 k3 : ClassId} (H : Heap) (locs : List Loc) (hK : va_K (dC, dI) zc [(k1, .int), (k2, .int), (k3, .long)] s) (hQ : zQ t (fun q : Nat => s.heap.size ≤ q) s s.heap) (hP : va_P (dC, dI) zc [(x0, .inr (5, [.ref xa, .ref xw, .ref xb, .int 0])), (xa, .inr (0, [.int 0, .ref t, .int 0])), (xw, .inl (k1, 4, .inl (zW))), (m0, .inr (7, [.ref ma, .ref mw, .int 0, .int 0])), (ma, .inr (0, [.int 0, .ref t, .int 0])), (mw, .inl (k2, 4, .inl (zW))), (o, .inl (k3, 1, .inr (.inl (fun _ => 0))))] H) (hD : va_D (fun q : Nat => s.heap.size ≤ q) [(x0, .inr (5, [.ref xa, .ref xw, .ref xb, .int 0])), (xa, .inr (0, [.int 0, .ref t, .int 0])), (xw, .inl (k1, 4, .inl (zW))), (m0, .inr (7, [.ref ma, .ref mw, .int 0, .int 0])), (ma, .inr (0, [.int 0, .ref t, .int 0])), (mw, .inl (k2, 4, .inl (zW))), (o, .inl (k3, 1, .inr (.inl (fun _ => 0))))]) (hS : va_S (fun q : Nat => s.heap.size ≤ q) s.heap H locs) (ls : Array Slot) (hl : lv_has ls 9 [(5, .int 0), (4, .ref od), (3, .ref o), (2, .ref m0), (1, .ref x0), (0, .ref b)]) : W p l e room_1 s m #[Value.ref b] below meth c H locs 26 125 (lw_Z below #[Value.ref b] s) (F0 m 1423 ls []) := by
  obtain ⟨hx, hb, hr, hml, hown, hts0, hX, hbl, hlocks, hgv⟩ := id C0
  have hts : ∀ w ∈ zG, w.before #[Value.ref b] s = true := fun w h => hts0 w (zg_tbl h)
  have hA : ∀ q : Nat, s.heap.size ≤ q → (fun q : Nat => s.heap.size ≤ q) q := fun _ h => h
  have hbA : ¬ (fun q : Nat => s.heap.size ≤ q) b := Nat.not_le.mpr hbl
  refine lv_aload_n hx hb dL_law_1423 rfl (lv_at hl 4 rfl) ?_
  refine lv_aload_n hx hb dL_law_1424 rfl (lv_at hl 5 rfl) ?_
  refine lv_iload hx hb dL_law_1425 (lv_at hl 0 rfl) ?_
  refine lv_iconst (v := 1) hx hb dL_law_1427 (by decide) ?_
  refine lv_iadd hx hb dL_law_1428 ?_
  refine va_sld hx hb hX hbl hbA hS (by unfold vp_in; decide) dL_law_1429 ?_
  refine lv_topi (fun v_1 e_v_1 => ?_)
  refine lv_aload_n hx hb dL_law_1430 rfl (lv_at hl 2 rfl) ?_
  rcases zi_rng v_1 1 30 with hv9 | ⟨hv1, hv2⟩
  · refine vx_calli (vx_runSX (As := [.ref x0, .int v_1, .ref o]) (rest := []) ⟨hx, hb, hml, hown, hts⟩ (lo_passBad l hst dC dI H.size t x0 xa (.ref xw) (.ref xb) o v_1 hv9) (vx_cwSW 3 hts (zg_S kw_1133 kw_1134 kw_63 kw_1135) rfl rfl rfl (by decide +kernel) ⟨Nat.le_of_ble_eq_true rfl, Nat.le_of_ble_eq_true rfl⟩) ⟨zA_blind, zA_pre hP hD hS hK hQ hA [0, 1] rfl rfl (by decide) [] rfl⟩ rfl rfl hl.1 rfl (lv_room (Nat.le_of_ble_eq_true rfl)) dL_law_1431 ⟨zl_b rfl, zl_b rfl⟩) hS (fun q _ h => hA q (Nat.le_trans (hS.1) h)) (fun q h => hA q (Nat.le_trans (hS.1) h)) (fun q _ h => h.elim) (fun E ce q9 u t9 H1 locs1 ht hvm hp9 hE hz1 hk1 hS1 hc1 hv1 hcl1 => hp9.elim) (fun r_2 u t9 H1 locs ht hvm hw hB hz1 hk1 hS => ?_)
    have hw : r_2 = 1 := hw
    subst hw
    have hP := zP_new hP hk1
    generalize H1 = H at hP hS ⊢
    have hP : va_P (dC, dI) zc [(x0, .inr (5, [.ref xa, .ref xw, .ref xb, .int 0])), (xa, .inr (0, [.int 0, .ref t, .int 0])), (xw, .inl (k1, 4, .inl (zW))), (m0, .inr (7, [.ref ma, .ref mw, .int 0, .int 0])), (ma, .inr (0, [.int 0, .ref t, .int 0])), (mw, .inl (k2, 4, .inl (zW))), (o, .inl (k3, 1, .inr (.inl (fun _ => 0))))] H := hP
    have hD : va_D (fun q : Nat => s.heap.size ≤ q) [(x0, .inr (5, [.ref xa, .ref xw, .ref xb, .int 0])), (xa, .inr (0, [.int 0, .ref t, .int 0])), (xw, .inl (k1, 4, .inl (zW))), (m0, .inr (7, [.ref ma, .ref mw, .int 0, .int 0])), (ma, .inr (0, [.int 0, .ref t, .int 0])), (mw, .inl (k2, 4, .inl (zW))), (o, .inl (k3, 1, .inr (.inl (fun _ => 0))))] := hD
    refine W.widen (k := 27) (n := 131) (zl_b rfl) (zl_b rfl) ?_
    refine lv_istore (lv' := [(6, .int 1), (5, .int 0), (4, .ref od), (3, .ref o), (2, .ref m0), (1, .ref x0), (0, .ref b)]) hx hb dL_law_1434 hl (by decide) rfl (fun ls hl => ?_)
    refine lv_aload_n hx hb dL_law_1436 rfl (lv_at hl 4 rfl) ?_
    refine lv_aload_n hx hb dL_law_1437 rfl (lv_at hl 6 rfl) ?_
    refine lv_iload hx hb dL_law_1438 (lv_at hl 1 rfl) ?_
    refine lv_iconst (v := 1) hx hb dL_law_1440 (by decide) ?_
    refine lv_iadd hx hb dL_law_1441 ?_
    refine va_sld hx hb hX hbl hbA hS (by unfold vp_in; decide) dL_law_1442 ?_
    refine lv_topi (fun v_3 e_v_3 => ?_)
    have s_4 : v_1 = v_3 := by rw [e_v_1, e_v_3]
    subst s_4
    have hFc := va_free (wc := [(m0, .inr (7, [.ref ma, .ref mw, .int 0, .int 0])), (ma, .inr (0, [.int 0, .ref t, .int 0]))]) hD hS hA [3, 4] rfl
    refine va_calli (va_runV (As := [.int v_1]) (rest := []) ⟨hx, hb, hml, hown, hts⟩ (m_passBad l dC dI H.size t m0 ma (.ref mw) v_1 hv9) (cwV 1 hts (zg_V kw_1844 kw_1845 kw_1846 kw_70 kw_1847) rfl rfl rfl (by decide +kernel) ⟨Nat.le_of_ble_eq_true rfl, Nat.le_of_ble_eq_true rfl⟩) ⟨zA_blind, va_recv hK hP (ci := 7) (q0 := 3) rfl rfl, zA_pre hP hD hS hK hQ hA [3, 4] rfl rfl (by decide) [] rfl⟩ rfl rfl hl.1 rfl (lv_room (Nat.le_of_ble_eq_true rfl)) dL_law_1443 ⟨zl_b rfl, zl_b rfl⟩) hS (fun q _ h => hFc q h) hFc (fun r_5 u t9 H1 locs ht hvm hw hB hz1 hk1 hS => ?_)
    obtain ⟨hP1, hK1, hD1⟩ := hB
    rw [ht] at hP1
    have hK1 := va_K.moved hvm.symm hK1
    obtain ⟨hP, hD⟩ := va_join (wr := [(x0, .inr (5, [.ref xa, .ref xw, .ref xb, .int 0])), (xa, .inr (0, [.int 0, .ref t, .int 0])), (xw, .inl (k1, 4, .inl (zW))), (mw, .inl (k2, 4, .inl (zW))), (o, .inl (k3, 1, .inr (.inl (fun _ => 0))))]) (w1 := [(m0, .inr (7, [.ref ma, .ref mw, .int 0, .int 1]))]) hP hD [3, 4] [0, 1, 2, 5, 6] rfl rfl (by decide) (by decide) hk1 hFc hP1 hD1
    have hK := (hK.sub (tys' := [(k1, .int), (k2, .int), (k3, .long)]) [0, 1, 2] rfl).app hK1
    generalize H1 = H at hP hS ⊢
    have hP : va_P (dC, dI) zc [(x0, .inr (5, [.ref xa, .ref xw, .ref xb, .int 0])), (xa, .inr (0, [.int 0, .ref t, .int 0])), (xw, .inl (k1, 4, .inl (zW))), (mw, .inl (k2, 4, .inl (zW))), (o, .inl (k3, 1, .inr (.inl (fun _ => 0)))), (m0, .inr (7, [.ref ma, .ref mw, .int 0, .int 1]))] H := hP
    have hD : va_D (fun q : Nat => s.heap.size ≤ q) [(x0, .inr (5, [.ref xa, .ref xw, .ref xb, .int 0])), (xa, .inr (0, [.int 0, .ref t, .int 0])), (xw, .inl (k1, 4, .inl (zW))), (mw, .inl (k2, 4, .inl (zW))), (o, .inl (k3, 1, .inr (.inl (fun _ => 0)))), (m0, .inr (7, [.ref ma, .ref mw, .int 0, .int 1]))] := hD
    have hK : va_K (dC, dI) zc [(k1, .int), (k2, .int), (k3, .long)] s := hK
    refine lv_istore (lv' := [(7, .int r_5), (6, .int 1), (5, .int 0), (4, .ref od), (3, .ref o), (2, .ref m0), (1, .ref x0), (0, .ref b)]) hx hb dL_law_1446 hl (by decide) rfl (fun ls hl => ?_)
    refine lv_aload_n hx hb dL_law_1448 rfl (lv_at hl 5 rfl) ?_
    refine vp_callSi (W.runV (As := []) (rest := []) ⟨hx, hb, hml, hown, hts⟩ (c_thrown l dC dI H.size t m0 (.ref ma) (.ref mw) 0 1) (cwV 0 hts (zg_V kw_1365 kw_1366 kw_1367 kw_70 kw_1368) rfl rfl rfl (by decide +kernel) ⟨Nat.le_of_ble_eq_true rfl, Nat.le_of_ble_eq_true rfl⟩) ⟨zA_blind, va_recv hK hP (ci := 7) (q0 := 5) rfl rfl, zA_pre hP hD hS hK hQ hA [5] rfl rfl (by decide) [] rfl⟩ rfl rfl hl.1 rfl (lv_room (Nat.le_of_ble_eq_true rfl)) dL_law_1449 ⟨zl_b rfl, zl_b rfl⟩) (fun r hr => ?_)
    subst hr
    refine lv_iload hx hb dL_law_1452 (lv_at hl 1 rfl) ?_
    refine lv_icmp_eq (tgt := 1459) hx hb dL_law_1454 (by decide) (fun c_6 => ?_) (fun c_6 => absurd c_6 (by decide))
    refine lv_iload hx hb dL_law_1459 (lv_at hl 1 rfl) ?_
    refine lv_if_ne (tgt := 1476) hx hb dL_law_1461 (by decide) (fun c_7 => ?_) (fun c_7 => absurd c_7 (by decide))
    refine lv_goto (tgt := 2981) hx hb dL_law_1476 (by decide) ?_
    exact law_tail l C0 _ _ (zl_b rfl) (zl_b rfl) _ _ hS ls (lv_sub hl [7, 2] rfl)
  · have hFc := va_free (wc := [(x0, .inr (5, [.ref xa, .ref xw, .ref xb, .int 0])), (xa, .inr (0, [.int 0, .ref t, .int 0])), (o, .inl (k3, 1, .inr (.inl (fun _ => 0))))]) hD hS hA [0, 1, 6] rfl
    refine vx_calli (vx_runSX (As := [.ref x0, .int v_1, .ref o]) (rest := []) ⟨hx, hb, hml, hown, hts⟩ (lo_passOk l hst dC dI H.size t x0 xa (.ref xw) (.ref xb) v_1 hv1 hv2 o k3 (fun _ => 0)) (vx_cwSW 3 hts (zg_S kw_1133 kw_1134 kw_63 kw_1135) rfl rfl rfl (by decide +kernel) ⟨Nat.le_of_ble_eq_true rfl, Nat.le_of_ble_eq_true rfl⟩) ⟨zA_blind, zA_pre hP hD hS hK hQ hA [0, 1, 6] rfl rfl (by decide) [2] rfl⟩ rfl rfl hl.1 rfl (lv_room (Nat.le_of_ble_eq_true rfl)) dL_law_1431 ⟨zl_b rfl, zl_b rfl⟩) hS (fun q _ h => hFc q h) hFc (fun q _ h => h.elim) (fun E ce q9 u t9 H1 locs1 ht hvm hp9 hE hz1 hk1 hS1 hc1 hv1 hcl1 => hp9.elim) (fun r_2 u t9 H1 locs ht hvm hw hB hz1 hk1 hS => ?_)
    have hw : r_2 = 0 := hw
    subst hw
    obtain ⟨hP1, hK1, hD1⟩ := hB
    rw [ht] at hP1
    obtain ⟨hP, hD⟩ := va_join (wr := [(xw, .inl (k1, 4, .inl (zW))), (m0, .inr (7, [.ref ma, .ref mw, .int 0, .int 0])), (ma, .inr (0, [.int 0, .ref t, .int 0])), (mw, .inl (k2, 4, .inl (zW)))]) (w1 := [(o, .inl (k3, 1, .inr (.inl (vp_updL (fun _ => 0) 0 ((v_1 : Int32)).toInt64))))]) hP hD [0, 1, 6] [2, 3, 4, 5] rfl rfl (by decide) (by decide) hk1 hFc hP1 hD1
    generalize H1 = H at hP hS ⊢
    have hP : va_P (dC, dI) zc [(xw, .inl (k1, 4, .inl (zW))), (m0, .inr (7, [.ref ma, .ref mw, .int 0, .int 0])), (ma, .inr (0, [.int 0, .ref t, .int 0])), (mw, .inl (k2, 4, .inl (zW))), (o, .inl (k3, 1, .inr (.inl (vp_updL (fun _ => 0) 0 ((v_1 : Int32)).toInt64))))] H := hP
    have hD : va_D (fun q : Nat => s.heap.size ≤ q) [(xw, .inl (k1, 4, .inl (zW))), (m0, .inr (7, [.ref ma, .ref mw, .int 0, .int 0])), (ma, .inr (0, [.int 0, .ref t, .int 0])), (mw, .inl (k2, 4, .inl (zW))), (o, .inl (k3, 1, .inr (.inl (vp_updL (fun _ => 0) 0 ((v_1 : Int32)).toInt64))))] := hD
    refine W.widen (k := 26) (n := 125) (zl_b rfl) (zl_b rfl) ?_
    refine lv_istore (lv' := [(6, .int 0), (5, .int 0), (4, .ref od), (3, .ref o), (2, .ref m0), (1, .ref x0), (0, .ref b)]) hx hb dL_law_1434 hl (by decide) rfl (fun ls hl => ?_)
    refine lv_aload_n hx hb dL_law_1436 rfl (lv_at hl 4 rfl) ?_
    refine lv_aload_n hx hb dL_law_1437 rfl (lv_at hl 6 rfl) ?_
    refine lv_iload hx hb dL_law_1438 (lv_at hl 1 rfl) ?_
    refine lv_iconst (v := 1) hx hb dL_law_1440 (by decide) ?_
    refine lv_iadd hx hb dL_law_1441 ?_
    refine va_sld hx hb hX hbl hbA hS (by unfold vp_in; decide) dL_law_1442 ?_
    refine lv_topi (fun v_3 e_v_3 => ?_)
    have s_4 : v_1 = v_3 := by rw [e_v_1, e_v_3]
    subst s_4
    have hFc := va_free (wc := [(m0, .inr (7, [.ref ma, .ref mw, .int 0, .int 0])), (ma, .inr (0, [.int 0, .ref t, .int 0]))]) hD hS hA [1, 2] rfl
    refine va_calli (va_runV (As := [.int v_1]) (rest := []) ⟨hx, hb, hml, hown, hts⟩ (m_passOk l dC dI H.size t m0 ma (.ref mw) v_1 hv1 hv2) (cwV 1 hts (zg_V kw_1844 kw_1845 kw_1846 kw_70 kw_1847) rfl rfl rfl (by decide +kernel) ⟨Nat.le_of_ble_eq_true rfl, Nat.le_of_ble_eq_true rfl⟩) ⟨zA_blind, va_recv hK hP (ci := 7) (q0 := 1) rfl rfl, zA_pre hP hD hS hK hQ hA [1, 2] rfl rfl (by decide) [] rfl⟩ rfl rfl hl.1 rfl (lv_room (Nat.le_of_ble_eq_true rfl)) dL_law_1443 ⟨zl_b rfl, zl_b rfl⟩) hS (fun q _ h => hFc q h) hFc (fun r_5 u t9 H1 locs ht hvm hw hB hz1 hk1 hS => ?_)
    obtain ⟨hP1, hK1, hD1⟩ := hB
    rw [ht] at hP1
    have hK1 := va_K.moved hvm.symm hK1
    obtain ⟨hP, hD⟩ := va_join (wr := [(xw, .inl (k1, 4, .inl (zW))), (mw, .inl (k2, 4, .inl (zW))), (o, .inl (k3, 1, .inr (.inl (vp_updL (fun _ => 0) 0 ((v_1 : Int32)).toInt64))))]) (w1 := [(m0, .inr (7, [.ref ma, .ref mw, .int v_1, .int 0]))]) hP hD [1, 2] [0, 3, 4] rfl rfl (by decide) (by decide) hk1 hFc hP1 hD1
    have hK := (hK.sub (tys' := [(k1, .int), (k2, .int), (k3, .long)]) [0, 1, 2] rfl).app hK1
    generalize H1 = H at hP hS ⊢
    have hP : va_P (dC, dI) zc [(xw, .inl (k1, 4, .inl (zW))), (mw, .inl (k2, 4, .inl (zW))), (o, .inl (k3, 1, .inr (.inl (vp_updL (fun _ => 0) 0 ((v_1 : Int32)).toInt64)))), (m0, .inr (7, [.ref ma, .ref mw, .int v_1, .int 0]))] H := hP
    have hD : va_D (fun q : Nat => s.heap.size ≤ q) [(xw, .inl (k1, 4, .inl (zW))), (mw, .inl (k2, 4, .inl (zW))), (o, .inl (k3, 1, .inr (.inl (vp_updL (fun _ => 0) 0 ((v_1 : Int32)).toInt64)))), (m0, .inr (7, [.ref ma, .ref mw, .int v_1, .int 0]))] := hD
    have hK : va_K (dC, dI) zc [(k1, .int), (k2, .int), (k3, .long)] s := hK
    have hw : (v_1 : Int32) = r_5 := hw.symm
    subst hw
    refine lv_istore (lv' := [(7, .int (v_1 : Int32)), (6, .int 0), (5, .int 0), (4, .ref od), (3, .ref o), (2, .ref m0), (1, .ref x0), (0, .ref b)]) hx hb dL_law_1446 hl (by decide) rfl (fun ls hl => ?_)
    refine lv_aload_n hx hb dL_law_1448 rfl (lv_at hl 5 rfl) ?_
    refine vp_callSi (W.runV (As := []) (rest := []) ⟨hx, hb, hml, hown, hts⟩ (c_thrown l dC dI H.size t m0 (.ref ma) (.ref mw) v_1 0) (cwV 0 hts (zg_V kw_1365 kw_1366 kw_1367 kw_70 kw_1368) rfl rfl rfl (by decide +kernel) ⟨Nat.le_of_ble_eq_true rfl, Nat.le_of_ble_eq_true rfl⟩) ⟨zA_blind, va_recv hK hP (ci := 7) (q0 := 3) rfl rfl, zA_pre hP hD hS hK hQ hA [3] rfl rfl (by decide) [] rfl⟩ rfl rfl hl.1 rfl (lv_room (Nat.le_of_ble_eq_true rfl)) dL_law_1449 ⟨zl_b rfl, zl_b rfl⟩) (fun r hr => ?_)
    subst hr
    refine lv_iload hx hb dL_law_1452 (lv_at hl 1 rfl) ?_
    refine lv_icmp_eq (tgt := 1459) hx hb dL_law_1454 (by decide) (fun c_6 => ?_) (fun c_6 => absurd c_6 (by decide))
    refine lv_iload hx hb dL_law_1459 (lv_at hl 1 rfl) ?_
    refine lv_if_ne (tgt := 1476) hx hb dL_law_1461 (by decide) (fun c_7 => absurd c_7 (by decide)) (fun c_7 => ?_)
    refine lv_aload_n hx hb dL_law_1464 rfl (lv_at hl 4 rfl) ?_
    refine lv_iconst (v := 0) hx hb dL_law_1465 (by decide) ?_
    refine va_lald hx hb hK hP 2 2 rfl rfl (by unfold vp_in; decide) dL_law_1466 ?_
    refine lv_iload hx hb dL_law_1467 (lv_at hl 0 rfl) ?_
    refine lv_i2l (v := ((v_1 : Int32) : Int32).toInt64) hx hb dL_law_1469 rfl ?_
    refine W.lcmp hx hb dL_law_1470 ?_
    refine lv_if_eq (tgt := 1476) hx hb dL_law_1471 (by decide) (fun c_8 => ?_) (fun c_8 => absurd (zi_cmpE rfl) c_8)
    refine lv_goto (tgt := 2981) hx hb dL_law_1476 (by decide) ?_
    exact law_tail l C0 _ _ (zl_b rfl) (zl_b rfl) _ _ hS ls (lv_sub hl [7, 2] rfl)
set_option maxHeartbeats 4000000 in
set_option maxRecDepth 100000 in
/-- the law on owed -/
theorem law_c17 {p : Program} {e : Env} {s : State} {m : MethodId} {below : List Frame} {meth : Method} {c : Code} {b : Nat} {xs : Nat → Int32} (l : Launch) (hst : l.stackTraces = false) (C0 : lw_At p s m meth c b 5 xs) {dC : Nat → ClassId} {dI : Nat → Nat → Nat} {t x0 xa xw xb m0 ma mw o od : Nat} {k1 k2 k3 : ClassId} (H : Heap) (locs : List Loc) (hK : va_K (dC, dI) zc [(k1, .int), (k2, .int), (k3, .long)] s) (hQ : zQ t (fun q : Nat => s.heap.size ≤ q) s s.heap) (hP : va_P (dC, dI) zc [(x0, .inr (5, [.ref xa, .ref xw, .ref xb, .int 0])), (xa, .inr (0, [.int 0, .ref t, .int 0])), (xw, .inl (k1, 4, .inl (zW))), (m0, .inr (7, [.ref ma, .ref mw, .int 0, .int 0])), (ma, .inr (0, [.int 0, .ref t, .int 0])), (mw, .inl (k2, 4, .inl (zW))), (o, .inl (k3, 1, .inr (.inl (fun _ => 0))))] H) (hD : va_D (fun q : Nat => s.heap.size ≤ q) [(x0, .inr (5, [.ref xa, .ref xw, .ref xb, .int 0])), (xa, .inr (0, [.int 0, .ref t, .int 0])), (xw, .inl (k1, 4, .inl (zW))), (m0, .inr (7, [.ref ma, .ref mw, .int 0, .int 0])), (ma, .inr (0, [.int 0, .ref t, .int 0])), (mw, .inl (k2, 4, .inl (zW))), (o, .inl (k3, 1, .inr (.inl (fun _ => 0))))]) (hS : va_S (fun q : Nat => s.heap.size ≤ q) s.heap H locs) (ls : Array Slot) (hl : lv_has ls 9 [(5, .int 0), (4, .ref od), (3, .ref o), (2, .ref m0), (1, .ref x0), (0, .ref b)]) : W p l e room_1 s m #[Value.ref b] below meth c H locs 26 125 (lw_Z below #[Value.ref b] s) (F0 m 1479 ls []) := by
  obtain ⟨hx, hb, hr, hml, hown, hts0, hX, hbl, hlocks, hgv⟩ := id C0
  have hts : ∀ w ∈ zG, w.before #[Value.ref b] s = true := fun w h => hts0 w (zg_tbl h)
  have hA : ∀ q : Nat, s.heap.size ≤ q → (fun q : Nat => s.heap.size ≤ q) q := fun _ h => h
  have hbA : ¬ (fun q : Nat => s.heap.size ≤ q) b := Nat.not_le.mpr hbl
  refine lv_aload_n hx hb dL_law_1479 rfl (lv_at hl 4 rfl) ?_
  refine lv_aload_n hx hb dL_law_1480 rfl (lv_at hl 5 rfl) ?_
  refine lv_iload hx hb dL_law_1481 (lv_at hl 0 rfl) ?_
  refine lv_iconst (v := 1) hx hb dL_law_1483 (by decide) ?_
  refine lv_iadd hx hb dL_law_1484 ?_
  refine va_sld hx hb hX hbl hbA hS (by unfold vp_in; decide) dL_law_1485 ?_
  refine lv_topi (fun v_1 e_v_1 => ?_)
  refine lv_aload_n hx hb dL_law_1486 rfl (lv_at hl 2 rfl) ?_
  refine vx_calli (vx_runSX (As := [.ref x0, .int v_1, .ref o]) (rest := []) ⟨hx, hb, hml, hown, hts⟩ (lx_owed l hst dC dI H.size t x0 xa o (.ref xw) (.ref xb) 0 (.ref t) v_1) (vx_cwSW 3 hts (zg_S kw_1140 kw_1141 kw_63 kw_1142) rfl rfl rfl (by decide +kernel) ⟨Nat.le_of_ble_eq_true rfl, Nat.le_of_ble_eq_true rfl⟩) ⟨zA_blind, zA_pre hP hD hS hK hQ hA [0, 1] rfl rfl (by decide) [] rfl⟩ rfl rfl hl.1 rfl (lv_room (Nat.le_of_ble_eq_true rfl)) dL_law_1487 ⟨zl_b rfl, zl_b rfl⟩) hS (fun q _ h => hA q (Nat.le_trans (hS.1) h)) (fun q h => hA q (Nat.le_trans (hS.1) h)) (fun q _ h => h.elim) (fun E ce q9 u t9 H1 locs1 ht hvm hp9 hE hz1 hk1 hS1 hc1 hv1 hcl1 => hp9.elim) (fun r_2 u t9 H1 locs ht hvm hw hB hz1 hk1 hS => ?_)
  have hw : r_2 = 1 := hw
  subst hw
  have hP := zP_new hP hk1
  generalize H1 = H at hP hS ⊢
  have hP : va_P (dC, dI) zc [(x0, .inr (5, [.ref xa, .ref xw, .ref xb, .int 0])), (xa, .inr (0, [.int 0, .ref t, .int 0])), (xw, .inl (k1, 4, .inl (zW))), (m0, .inr (7, [.ref ma, .ref mw, .int 0, .int 0])), (ma, .inr (0, [.int 0, .ref t, .int 0])), (mw, .inl (k2, 4, .inl (zW))), (o, .inl (k3, 1, .inr (.inl (fun _ => 0))))] H := hP
  have hD : va_D (fun q : Nat => s.heap.size ≤ q) [(x0, .inr (5, [.ref xa, .ref xw, .ref xb, .int 0])), (xa, .inr (0, [.int 0, .ref t, .int 0])), (xw, .inl (k1, 4, .inl (zW))), (m0, .inr (7, [.ref ma, .ref mw, .int 0, .int 0])), (ma, .inr (0, [.int 0, .ref t, .int 0])), (mw, .inl (k2, 4, .inl (zW))), (o, .inl (k3, 1, .inr (.inl (fun _ => 0))))] := hD
  refine W.widen (k := 27) (n := 131) (zl_b rfl) (zl_b rfl) ?_
  refine lv_istore (lv' := [(6, .int 1), (5, .int 0), (4, .ref od), (3, .ref o), (2, .ref m0), (1, .ref x0), (0, .ref b)]) hx hb dL_law_1490 hl (by decide) rfl (fun ls hl => ?_)
  refine lv_aload_n hx hb dL_law_1492 rfl (lv_at hl 4 rfl) ?_
  refine lv_aload_n hx hb dL_law_1493 rfl (lv_at hl 6 rfl) ?_
  refine lv_iload hx hb dL_law_1494 (lv_at hl 1 rfl) ?_
  refine lv_iconst (v := 1) hx hb dL_law_1496 (by decide) ?_
  refine lv_iadd hx hb dL_law_1497 ?_
  refine va_sld hx hb hX hbl hbA hS (by unfold vp_in; decide) dL_law_1498 ?_
  refine lv_topi (fun v_3 e_v_3 => ?_)
  have s_4 : v_1 = v_3 := by rw [e_v_1, e_v_3]
  subst s_4
  have hFc := va_free (wc := [(m0, .inr (7, [.ref ma, .ref mw, .int 0, .int 0])), (ma, .inr (0, [.int 0, .ref t, .int 0]))]) hD hS hA [3, 4] rfl
  refine va_calll (va_runV (As := [.int v_1]) (rest := []) ⟨hx, hb, hml, hown, hts⟩ (m_owed l dC dI H.size t m0 ma (.ref mw) 0 0 (.ref t) v_1) (cwV 1 hts (zg_V kw_1868 kw_1869 kw_1870 kw_70 kw_1871) rfl rfl rfl (by decide +kernel) ⟨Nat.le_of_ble_eq_true rfl, Nat.le_of_ble_eq_true rfl⟩) ⟨zA_blind, va_recv hK hP (ci := 7) (q0 := 3) rfl rfl, zA_pre hP hD hS hK hQ hA [3, 4] rfl rfl (by decide) [] rfl⟩ rfl rfl hl.1 rfl (lv_room (Nat.le_of_ble_eq_true rfl)) dL_law_1499 ⟨zl_b rfl, zl_b rfl⟩) hS (fun q _ h => hFc q h) hFc (fun r_5 u t9 H1 locs ht hvm hw hB hz1 hk1 hS => ?_)
  obtain ⟨hP1, hK1, hD1⟩ := hB
  rw [ht] at hP1
  have hK1 := va_K.moved hvm.symm hK1
  obtain ⟨hP, hD⟩ := va_join (wr := [(x0, .inr (5, [.ref xa, .ref xw, .ref xb, .int 0])), (xa, .inr (0, [.int 0, .ref t, .int 0])), (xw, .inl (k1, 4, .inl (zW))), (mw, .inl (k2, 4, .inl (zW))), (o, .inl (k3, 1, .inr (.inl (fun _ => 0))))]) (w1 := [(m0, .inr (7, [.ref ma, .ref mw, .int 0, .int 1])), (ma, .inr (0, [.int 0, .ref t, .int 0]))]) hP hD [3, 4] [0, 1, 2, 5, 6] rfl rfl (by decide) (by decide) hk1 hFc hP1 hD1
  have hK := (hK.sub (tys' := [(k1, .int), (k2, .int), (k3, .long)]) [0, 1, 2] rfl).app hK1
  generalize H1 = H at hP hS ⊢
  have hP : va_P (dC, dI) zc [(x0, .inr (5, [.ref xa, .ref xw, .ref xb, .int 0])), (xa, .inr (0, [.int 0, .ref t, .int 0])), (xw, .inl (k1, 4, .inl (zW))), (mw, .inl (k2, 4, .inl (zW))), (o, .inl (k3, 1, .inr (.inl (fun _ => 0)))), (m0, .inr (7, [.ref ma, .ref mw, .int 0, .int 1])), (ma, .inr (0, [.int 0, .ref t, .int 0]))] H := hP
  have hD : va_D (fun q : Nat => s.heap.size ≤ q) [(x0, .inr (5, [.ref xa, .ref xw, .ref xb, .int 0])), (xa, .inr (0, [.int 0, .ref t, .int 0])), (xw, .inl (k1, 4, .inl (zW))), (mw, .inl (k2, 4, .inl (zW))), (o, .inl (k3, 1, .inr (.inl (fun _ => 0)))), (m0, .inr (7, [.ref ma, .ref mw, .int 0, .int 1])), (ma, .inr (0, [.int 0, .ref t, .int 0]))] := hD
  have hK : va_K (dC, dI) zc [(k1, .int), (k2, .int), (k3, .long)] s := hK
  refine lv_lstore (lv' := [(7, .long r_5), (6, .int 1), (5, .int 0), (4, .ref od), (3, .ref o), (2, .ref m0), (1, .ref x0), (0, .ref b)]) hx hb dL_law_1502 hl (by decide) rfl (fun ls hl => ?_)
  refine lv_aload_n hx hb dL_law_1504 rfl (lv_at hl 5 rfl) ?_
  refine vp_callSi (W.runV (As := []) (rest := []) ⟨hx, hb, hml, hown, hts⟩ (c_thrown l dC dI H.size t m0 (.ref ma) (.ref mw) 0 1) (cwV 0 hts (zg_V kw_1365 kw_1366 kw_1367 kw_70 kw_1368) rfl rfl rfl (by decide +kernel) ⟨Nat.le_of_ble_eq_true rfl, Nat.le_of_ble_eq_true rfl⟩) ⟨zA_blind, va_recv hK hP (ci := 7) (q0 := 5) rfl rfl, zA_pre hP hD hS hK hQ hA [5] rfl rfl (by decide) [] rfl⟩ rfl rfl hl.1 rfl (lv_room (Nat.le_of_ble_eq_true rfl)) dL_law_1505 ⟨zl_b rfl, zl_b rfl⟩) (fun r hr => ?_)
  subst hr
  refine lv_iload hx hb dL_law_1508 (lv_at hl 1 rfl) ?_
  refine lv_icmp_eq (tgt := 1515) hx hb dL_law_1510 (by decide) (fun c_6 => ?_) (fun c_6 => absurd c_6 (by decide))
  refine lv_iload hx hb dL_law_1515 (lv_at hl 1 rfl) ?_
  refine lv_if_ne (tgt := 1531) hx hb dL_law_1517 (by decide) (fun c_7 => ?_) (fun c_7 => absurd c_7 (by decide))
  refine lv_goto (tgt := 2981) hx hb dL_law_1531 (by decide) ?_
  exact law_tail l C0 _ _ (zl_b rfl) (zl_b rfl) _ _ hS ls (lv_sub hl [7, 2] rfl)
set_option maxHeartbeats 4000000 in
set_option maxRecDepth 100000 in
/-- the law on bucket -/
theorem law_c18 {p : Program} {e : Env} {s : State} {m : MethodId} {below : List Frame} {meth : Method} {c : Code} {b : Nat} {xs : Nat → Int32} (l : Launch) (hst : l.stackTraces = false) (C0 : lw_At p s m meth c b 5 xs) {dC : Nat → ClassId} {dI : Nat → Nat → Nat} {t x0 xa xw xb m0 ma mw o od : Nat} {k1 k2 k3 : ClassId} (H : Heap) (locs : List Loc) (hK : va_K (dC, dI) zc [(k1, .int), (k2, .int), (k3, .long)] s) (hQ : zQ t (fun q : Nat => s.heap.size ≤ q) s s.heap) (hP : va_P (dC, dI) zc [(x0, .inr (5, [.ref xa, .ref xw, .ref xb, .int 0])), (xa, .inr (0, [.int 0, .ref t, .int 0])), (xw, .inl (k1, 4, .inl (zW))), (m0, .inr (7, [.ref ma, .ref mw, .int 0, .int 0])), (ma, .inr (0, [.int 0, .ref t, .int 0])), (mw, .inl (k2, 4, .inl (zW))), (o, .inl (k3, 1, .inr (.inl (fun _ => 0))))] H) (hD : va_D (fun q : Nat => s.heap.size ≤ q) [(x0, .inr (5, [.ref xa, .ref xw, .ref xb, .int 0])), (xa, .inr (0, [.int 0, .ref t, .int 0])), (xw, .inl (k1, 4, .inl (zW))), (m0, .inr (7, [.ref ma, .ref mw, .int 0, .int 0])), (ma, .inr (0, [.int 0, .ref t, .int 0])), (mw, .inl (k2, 4, .inl (zW))), (o, .inl (k3, 1, .inr (.inl (fun _ => 0))))]) (hS : va_S (fun q : Nat => s.heap.size ≤ q) s.heap H locs) (ls : Array Slot) (hl : lv_has ls 9 [(5, .int 0), (4, .ref od), (3, .ref o), (2, .ref m0), (1, .ref x0), (0, .ref b)]) : W p l e room_1 s m #[Value.ref b] below meth c H locs 26 125 (lw_Z below #[Value.ref b] s) (F0 m 1534 ls []) := by
  obtain ⟨hx, hb, hr, hml, hown, hts0, hX, hbl, hlocks, hgv⟩ := id C0
  have hts : ∀ w ∈ zG, w.before #[Value.ref b] s = true := fun w h => hts0 w (zg_tbl h)
  have hA : ∀ q : Nat, s.heap.size ≤ q → (fun q : Nat => s.heap.size ≤ q) q := fun _ h => h
  have hbA : ¬ (fun q : Nat => s.heap.size ≤ q) b := Nat.not_le.mpr hbl
  refine lv_aload_n hx hb dL_law_1534 rfl (lv_at hl 4 rfl) ?_
  refine lv_aload_n hx hb dL_law_1535 rfl (lv_at hl 5 rfl) ?_
  refine lv_iload hx hb dL_law_1536 (lv_at hl 0 rfl) ?_
  refine lv_iconst (v := 1) hx hb dL_law_1538 (by decide) ?_
  refine lv_iadd hx hb dL_law_1539 ?_
  refine va_sld hx hb hX hbl hbA hS (by unfold vp_in; decide) dL_law_1540 ?_
  refine lv_topi (fun v_1 e_v_1 => ?_)
  refine lv_aload_n hx hb dL_law_1541 rfl (lv_at hl 5 rfl) ?_
  refine lv_iload hx hb dL_law_1542 (lv_at hl 0 rfl) ?_
  refine lv_iconst (v := 2) hx hb dL_law_1544 (by decide) ?_
  refine lv_iadd hx hb dL_law_1545 ?_
  refine va_sld hx hb hX hbl hbA hS (by unfold vp_in; decide) dL_law_1546 ?_
  refine lv_topi (fun v_2 e_v_2 => ?_)
  refine lv_i2c hx hb dL_law_1547 rfl ?_
  refine lv_topi (fun ch_3 e_ch_3 => ?_)
  refine lv_aload_n hx hb dL_law_1548 rfl (lv_at hl 2 rfl) ?_
  refine vx_calli (vx_runSX (As := [.ref x0, .int v_1, .int ch_3, .ref o]) (rest := []) ⟨hx, hb, hml, hown, hts⟩ (lx_bucket l hst dC dI H.size t x0 xa o (.ref xw) (.ref xb) 0 (.ref t) v_1 ch_3) (vx_cwSW 4 hts (zg_S kw_1147 kw_1148 kw_63 kw_1149) rfl rfl rfl (by decide +kernel) ⟨Nat.le_of_ble_eq_true rfl, Nat.le_of_ble_eq_true rfl⟩) ⟨zA_blind, zA_pre hP hD hS hK hQ hA [0, 1] rfl rfl (by decide) [] rfl⟩ rfl rfl hl.1 rfl (lv_room (Nat.le_of_ble_eq_true rfl)) dL_law_1549 ⟨zl_b rfl, zl_b rfl⟩) hS (fun q _ h => hA q (Nat.le_trans (hS.1) h)) (fun q h => hA q (Nat.le_trans (hS.1) h)) (fun q _ h => h.elim) (fun E ce q9 u t9 H1 locs1 ht hvm hp9 hE hz1 hk1 hS1 hc1 hv1 hcl1 => hp9.elim) (fun r_4 u t9 H1 locs ht hvm hw hB hz1 hk1 hS => ?_)
  have hw : r_4 = 1 := hw
  subst hw
  have hP := zP_new hP hk1
  generalize H1 = H at hP hS ⊢
  have hP : va_P (dC, dI) zc [(x0, .inr (5, [.ref xa, .ref xw, .ref xb, .int 0])), (xa, .inr (0, [.int 0, .ref t, .int 0])), (xw, .inl (k1, 4, .inl (zW))), (m0, .inr (7, [.ref ma, .ref mw, .int 0, .int 0])), (ma, .inr (0, [.int 0, .ref t, .int 0])), (mw, .inl (k2, 4, .inl (zW))), (o, .inl (k3, 1, .inr (.inl (fun _ => 0))))] H := hP
  have hD : va_D (fun q : Nat => s.heap.size ≤ q) [(x0, .inr (5, [.ref xa, .ref xw, .ref xb, .int 0])), (xa, .inr (0, [.int 0, .ref t, .int 0])), (xw, .inl (k1, 4, .inl (zW))), (m0, .inr (7, [.ref ma, .ref mw, .int 0, .int 0])), (ma, .inr (0, [.int 0, .ref t, .int 0])), (mw, .inl (k2, 4, .inl (zW))), (o, .inl (k3, 1, .inr (.inl (fun _ => 0))))] := hD
  refine W.widen (k := 27) (n := 131) (zl_b rfl) (zl_b rfl) ?_
  refine lv_istore (lv' := [(6, .int 1), (5, .int 0), (4, .ref od), (3, .ref o), (2, .ref m0), (1, .ref x0), (0, .ref b)]) hx hb dL_law_1552 hl (by decide) rfl (fun ls hl => ?_)
  refine lv_aload_n hx hb dL_law_1554 rfl (lv_at hl 4 rfl) ?_
  refine lv_aload_n hx hb dL_law_1555 rfl (lv_at hl 6 rfl) ?_
  refine lv_iload hx hb dL_law_1556 (lv_at hl 1 rfl) ?_
  refine lv_iconst (v := 1) hx hb dL_law_1558 (by decide) ?_
  refine lv_iadd hx hb dL_law_1559 ?_
  refine va_sld hx hb hX hbl hbA hS (by unfold vp_in; decide) dL_law_1560 ?_
  refine lv_topi (fun v_5 e_v_5 => ?_)
  have s_6 : v_1 = v_5 := by rw [e_v_1, e_v_5]
  subst s_6
  refine lv_aload_n hx hb dL_law_1561 rfl (lv_at hl 6 rfl) ?_
  refine lv_iload hx hb dL_law_1562 (lv_at hl 1 rfl) ?_
  refine lv_iconst (v := 2) hx hb dL_law_1564 (by decide) ?_
  refine lv_iadd hx hb dL_law_1565 ?_
  refine va_sld hx hb hX hbl hbA hS (by unfold vp_in; decide) dL_law_1566 ?_
  refine lv_topi (fun v_7 e_v_7 => ?_)
  have s_8 : v_2 = v_7 := by rw [e_v_2, e_v_7]
  subst s_8
  refine lv_i2c hx hb dL_law_1567 rfl ?_
  refine lv_topi (fun ch_9 e_ch_9 => ?_)
  have hFc := va_free (wc := [(m0, .inr (7, [.ref ma, .ref mw, .int 0, .int 0])), (ma, .inr (0, [.int 0, .ref t, .int 0]))]) hD hS hA [3, 4] rfl
  refine va_calll (va_runV (As := [.int v_1, .int ch_9]) (rest := []) ⟨hx, hb, hml, hown, hts⟩ (m_bucket l dC dI H.size t m0 ma (.ref mw) 0 0 (.ref t) v_1 ch_9) (cwV 2 hts (zg_V kw_1872 kw_1873 kw_1874 kw_70 kw_1875) rfl rfl rfl (by decide +kernel) ⟨Nat.le_of_ble_eq_true rfl, Nat.le_of_ble_eq_true rfl⟩) ⟨zA_blind, va_recv hK hP (ci := 7) (q0 := 3) rfl rfl, zA_pre hP hD hS hK hQ hA [3, 4] rfl rfl (by decide) [] rfl⟩ rfl rfl hl.1 rfl (lv_room (Nat.le_of_ble_eq_true rfl)) dL_law_1568 ⟨zl_b rfl, zl_b rfl⟩) hS (fun q _ h => hFc q h) hFc (fun r_10 u t9 H1 locs ht hvm hw hB hz1 hk1 hS => ?_)
  obtain ⟨hP1, hK1, hD1⟩ := hB
  rw [ht] at hP1
  have hK1 := va_K.moved hvm.symm hK1
  obtain ⟨hP, hD⟩ := va_join (wr := [(x0, .inr (5, [.ref xa, .ref xw, .ref xb, .int 0])), (xa, .inr (0, [.int 0, .ref t, .int 0])), (xw, .inl (k1, 4, .inl (zW))), (mw, .inl (k2, 4, .inl (zW))), (o, .inl (k3, 1, .inr (.inl (fun _ => 0))))]) (w1 := [(m0, .inr (7, [.ref ma, .ref mw, .int 0, .int 1])), (ma, .inr (0, [.int 0, .ref t, .int 0]))]) hP hD [3, 4] [0, 1, 2, 5, 6] rfl rfl (by decide) (by decide) hk1 hFc hP1 hD1
  have hK := (hK.sub (tys' := [(k1, .int), (k2, .int), (k3, .long)]) [0, 1, 2] rfl).app hK1
  generalize H1 = H at hP hS ⊢
  have hP : va_P (dC, dI) zc [(x0, .inr (5, [.ref xa, .ref xw, .ref xb, .int 0])), (xa, .inr (0, [.int 0, .ref t, .int 0])), (xw, .inl (k1, 4, .inl (zW))), (mw, .inl (k2, 4, .inl (zW))), (o, .inl (k3, 1, .inr (.inl (fun _ => 0)))), (m0, .inr (7, [.ref ma, .ref mw, .int 0, .int 1])), (ma, .inr (0, [.int 0, .ref t, .int 0]))] H := hP
  have hD : va_D (fun q : Nat => s.heap.size ≤ q) [(x0, .inr (5, [.ref xa, .ref xw, .ref xb, .int 0])), (xa, .inr (0, [.int 0, .ref t, .int 0])), (xw, .inl (k1, 4, .inl (zW))), (mw, .inl (k2, 4, .inl (zW))), (o, .inl (k3, 1, .inr (.inl (fun _ => 0)))), (m0, .inr (7, [.ref ma, .ref mw, .int 0, .int 1])), (ma, .inr (0, [.int 0, .ref t, .int 0]))] := hD
  have hK : va_K (dC, dI) zc [(k1, .int), (k2, .int), (k3, .long)] s := hK
  refine lv_lstore (lv' := [(7, .long r_10), (6, .int 1), (5, .int 0), (4, .ref od), (3, .ref o), (2, .ref m0), (1, .ref x0), (0, .ref b)]) hx hb dL_law_1571 hl (by decide) rfl (fun ls hl => ?_)
  refine lv_aload_n hx hb dL_law_1573 rfl (lv_at hl 5 rfl) ?_
  refine vp_callSi (W.runV (As := []) (rest := []) ⟨hx, hb, hml, hown, hts⟩ (c_thrown l dC dI H.size t m0 (.ref ma) (.ref mw) 0 1) (cwV 0 hts (zg_V kw_1365 kw_1366 kw_1367 kw_70 kw_1368) rfl rfl rfl (by decide +kernel) ⟨Nat.le_of_ble_eq_true rfl, Nat.le_of_ble_eq_true rfl⟩) ⟨zA_blind, va_recv hK hP (ci := 7) (q0 := 5) rfl rfl, zA_pre hP hD hS hK hQ hA [5] rfl rfl (by decide) [] rfl⟩ rfl rfl hl.1 rfl (lv_room (Nat.le_of_ble_eq_true rfl)) dL_law_1574 ⟨zl_b rfl, zl_b rfl⟩) (fun r hr => ?_)
  subst hr
  refine lv_iload hx hb dL_law_1577 (lv_at hl 1 rfl) ?_
  refine lv_icmp_eq (tgt := 1584) hx hb dL_law_1579 (by decide) (fun c_11 => ?_) (fun c_11 => absurd c_11 (by decide))
  refine lv_iload hx hb dL_law_1584 (lv_at hl 1 rfl) ?_
  refine lv_if_ne (tgt := 1600) hx hb dL_law_1586 (by decide) (fun c_12 => ?_) (fun c_12 => absurd c_12 (by decide))
  refine lv_goto (tgt := 2981) hx hb dL_law_1600 (by decide) ?_
  exact law_tail l C0 _ _ (zl_b rfl) (zl_b rfl) _ _ hS ls (lv_sub hl [7, 2] rfl)
set_option maxHeartbeats 4000000 in
set_option maxRecDepth 100000 in
/-- the law on credit -/
theorem law_c19 {p : Program} {e : Env} {s : State} {m : MethodId} {below : List Frame} {meth : Method} {c : Code} {b : Nat} {xs : Nat → Int32} (l : Launch) (hst : l.stackTraces = false) (C0 : lw_At p s m meth c b 5 xs) {dC : Nat → ClassId} {dI : Nat → Nat → Nat} {t x0 xa xw xb m0 ma mw o od : Nat} {k1 k2 k3 : ClassId} (H : Heap) (locs : List Loc) (hK : va_K (dC, dI) zc [(k1, .int), (k2, .int), (k3, .long)] s) (hQ : zQ t (fun q : Nat => s.heap.size ≤ q) s s.heap) (hP : va_P (dC, dI) zc [(x0, .inr (5, [.ref xa, .ref xw, .ref xb, .int 0])), (xa, .inr (0, [.int 0, .ref t, .int 0])), (xw, .inl (k1, 4, .inl (zW))), (m0, .inr (7, [.ref ma, .ref mw, .int 0, .int 0])), (ma, .inr (0, [.int 0, .ref t, .int 0])), (mw, .inl (k2, 4, .inl (zW))), (o, .inl (k3, 1, .inr (.inl (fun _ => 0))))] H) (hD : va_D (fun q : Nat => s.heap.size ≤ q) [(x0, .inr (5, [.ref xa, .ref xw, .ref xb, .int 0])), (xa, .inr (0, [.int 0, .ref t, .int 0])), (xw, .inl (k1, 4, .inl (zW))), (m0, .inr (7, [.ref ma, .ref mw, .int 0, .int 0])), (ma, .inr (0, [.int 0, .ref t, .int 0])), (mw, .inl (k2, 4, .inl (zW))), (o, .inl (k3, 1, .inr (.inl (fun _ => 0))))]) (hS : va_S (fun q : Nat => s.heap.size ≤ q) s.heap H locs) (ls : Array Slot) (hl : lv_has ls 9 [(5, .int 0), (4, .ref od), (3, .ref o), (2, .ref m0), (1, .ref x0), (0, .ref b)]) : W p l e room_1 s m #[Value.ref b] below meth c H locs 26 125 (lw_Z below #[Value.ref b] s) (F0 m 1603 ls []) := by
  obtain ⟨hx, hb, hr, hml, hown, hts0, hX, hbl, hlocks, hgv⟩ := id C0
  have hts : ∀ w ∈ zG, w.before #[Value.ref b] s = true := fun w h => hts0 w (zg_tbl h)
  have hA : ∀ q : Nat, s.heap.size ≤ q → (fun q : Nat => s.heap.size ≤ q) q := fun _ h => h
  have hbA : ¬ (fun q : Nat => s.heap.size ≤ q) b := Nat.not_le.mpr hbl
  refine lv_aload_n hx hb dL_law_1603 rfl (lv_at hl 4 rfl) ?_
  refine lv_aload_n hx hb dL_law_1604 rfl (lv_at hl 5 rfl) ?_
  refine lv_iload hx hb dL_law_1605 (lv_at hl 0 rfl) ?_
  refine lv_iconst (v := 1) hx hb dL_law_1607 (by decide) ?_
  refine lv_iadd hx hb dL_law_1608 ?_
  refine va_sld hx hb hX hbl hbA hS (by unfold vp_in; decide) dL_law_1609 ?_
  refine lv_topi (fun v_1 e_v_1 => ?_)
  refine lv_aload_n hx hb dL_law_1610 rfl (lv_at hl 2 rfl) ?_
  refine vx_calli (vx_runSX (As := [.ref x0, .int v_1, .ref o]) (rest := []) ⟨hx, hb, hml, hown, hts⟩ (lx_credit l hst dC dI H.size t x0 xa o (.ref xw) (.ref xb) 0 (.ref t) v_1) (vx_cwSW 3 hts (zg_S kw_1154 kw_1155 kw_63 kw_1156) rfl rfl rfl (by decide +kernel) ⟨Nat.le_of_ble_eq_true rfl, Nat.le_of_ble_eq_true rfl⟩) ⟨zA_blind, zA_pre hP hD hS hK hQ hA [0, 1] rfl rfl (by decide) [] rfl⟩ rfl rfl hl.1 rfl (lv_room (Nat.le_of_ble_eq_true rfl)) dL_law_1611 ⟨zl_b rfl, zl_b rfl⟩) hS (fun q _ h => hA q (Nat.le_trans (hS.1) h)) (fun q h => hA q (Nat.le_trans (hS.1) h)) (fun q _ h => h.elim) (fun E ce q9 u t9 H1 locs1 ht hvm hp9 hE hz1 hk1 hS1 hc1 hv1 hcl1 => hp9.elim) (fun r_2 u t9 H1 locs ht hvm hw hB hz1 hk1 hS => ?_)
  have hw : r_2 = 1 := hw
  subst hw
  have hP := zP_new hP hk1
  generalize H1 = H at hP hS ⊢
  have hP : va_P (dC, dI) zc [(x0, .inr (5, [.ref xa, .ref xw, .ref xb, .int 0])), (xa, .inr (0, [.int 0, .ref t, .int 0])), (xw, .inl (k1, 4, .inl (zW))), (m0, .inr (7, [.ref ma, .ref mw, .int 0, .int 0])), (ma, .inr (0, [.int 0, .ref t, .int 0])), (mw, .inl (k2, 4, .inl (zW))), (o, .inl (k3, 1, .inr (.inl (fun _ => 0))))] H := hP
  have hD : va_D (fun q : Nat => s.heap.size ≤ q) [(x0, .inr (5, [.ref xa, .ref xw, .ref xb, .int 0])), (xa, .inr (0, [.int 0, .ref t, .int 0])), (xw, .inl (k1, 4, .inl (zW))), (m0, .inr (7, [.ref ma, .ref mw, .int 0, .int 0])), (ma, .inr (0, [.int 0, .ref t, .int 0])), (mw, .inl (k2, 4, .inl (zW))), (o, .inl (k3, 1, .inr (.inl (fun _ => 0))))] := hD
  refine W.widen (k := 27) (n := 131) (zl_b rfl) (zl_b rfl) ?_
  refine lv_istore (lv' := [(6, .int 1), (5, .int 0), (4, .ref od), (3, .ref o), (2, .ref m0), (1, .ref x0), (0, .ref b)]) hx hb dL_law_1614 hl (by decide) rfl (fun ls hl => ?_)
  refine lv_aload_n hx hb dL_law_1616 rfl (lv_at hl 4 rfl) ?_
  refine lv_aload_n hx hb dL_law_1617 rfl (lv_at hl 6 rfl) ?_
  refine lv_iload hx hb dL_law_1618 (lv_at hl 1 rfl) ?_
  refine lv_iconst (v := 1) hx hb dL_law_1620 (by decide) ?_
  refine lv_iadd hx hb dL_law_1621 ?_
  refine va_sld hx hb hX hbl hbA hS (by unfold vp_in; decide) dL_law_1622 ?_
  refine lv_topi (fun v_3 e_v_3 => ?_)
  have s_4 : v_1 = v_3 := by rw [e_v_1, e_v_3]
  subst s_4
  have hFc := va_free (wc := [(m0, .inr (7, [.ref ma, .ref mw, .int 0, .int 0])), (ma, .inr (0, [.int 0, .ref t, .int 0]))]) hD hS hA [3, 4] rfl
  refine va_calll (va_runV (As := [.int v_1]) (rest := []) ⟨hx, hb, hml, hown, hts⟩ (m_credit l dC dI H.size t m0 ma (.ref mw) 0 0 (.ref t) v_1) (cwV 1 hts (zg_V kw_1876 kw_1877 kw_1878 kw_70 kw_1879) rfl rfl rfl (by decide +kernel) ⟨Nat.le_of_ble_eq_true rfl, Nat.le_of_ble_eq_true rfl⟩) ⟨zA_blind, va_recv hK hP (ci := 7) (q0 := 3) rfl rfl, zA_pre hP hD hS hK hQ hA [3, 4] rfl rfl (by decide) [] rfl⟩ rfl rfl hl.1 rfl (lv_room (Nat.le_of_ble_eq_true rfl)) dL_law_1623 ⟨zl_b rfl, zl_b rfl⟩) hS (fun q _ h => hFc q h) hFc (fun r_5 u t9 H1 locs ht hvm hw hB hz1 hk1 hS => ?_)
  obtain ⟨hP1, hK1, hD1⟩ := hB
  rw [ht] at hP1
  have hK1 := va_K.moved hvm.symm hK1
  obtain ⟨hP, hD⟩ := va_join (wr := [(x0, .inr (5, [.ref xa, .ref xw, .ref xb, .int 0])), (xa, .inr (0, [.int 0, .ref t, .int 0])), (xw, .inl (k1, 4, .inl (zW))), (mw, .inl (k2, 4, .inl (zW))), (o, .inl (k3, 1, .inr (.inl (fun _ => 0))))]) (w1 := [(m0, .inr (7, [.ref ma, .ref mw, .int 0, .int 1])), (ma, .inr (0, [.int 0, .ref t, .int 0]))]) hP hD [3, 4] [0, 1, 2, 5, 6] rfl rfl (by decide) (by decide) hk1 hFc hP1 hD1
  have hK := (hK.sub (tys' := [(k1, .int), (k2, .int), (k3, .long)]) [0, 1, 2] rfl).app hK1
  generalize H1 = H at hP hS ⊢
  have hP : va_P (dC, dI) zc [(x0, .inr (5, [.ref xa, .ref xw, .ref xb, .int 0])), (xa, .inr (0, [.int 0, .ref t, .int 0])), (xw, .inl (k1, 4, .inl (zW))), (mw, .inl (k2, 4, .inl (zW))), (o, .inl (k3, 1, .inr (.inl (fun _ => 0)))), (m0, .inr (7, [.ref ma, .ref mw, .int 0, .int 1])), (ma, .inr (0, [.int 0, .ref t, .int 0]))] H := hP
  have hD : va_D (fun q : Nat => s.heap.size ≤ q) [(x0, .inr (5, [.ref xa, .ref xw, .ref xb, .int 0])), (xa, .inr (0, [.int 0, .ref t, .int 0])), (xw, .inl (k1, 4, .inl (zW))), (mw, .inl (k2, 4, .inl (zW))), (o, .inl (k3, 1, .inr (.inl (fun _ => 0)))), (m0, .inr (7, [.ref ma, .ref mw, .int 0, .int 1])), (ma, .inr (0, [.int 0, .ref t, .int 0]))] := hD
  have hK : va_K (dC, dI) zc [(k1, .int), (k2, .int), (k3, .long)] s := hK
  refine lv_lstore (lv' := [(7, .long r_5), (6, .int 1), (5, .int 0), (4, .ref od), (3, .ref o), (2, .ref m0), (1, .ref x0), (0, .ref b)]) hx hb dL_law_1626 hl (by decide) rfl (fun ls hl => ?_)
  refine lv_aload_n hx hb dL_law_1628 rfl (lv_at hl 5 rfl) ?_
  refine vp_callSi (W.runV (As := []) (rest := []) ⟨hx, hb, hml, hown, hts⟩ (c_thrown l dC dI H.size t m0 (.ref ma) (.ref mw) 0 1) (cwV 0 hts (zg_V kw_1365 kw_1366 kw_1367 kw_70 kw_1368) rfl rfl rfl (by decide +kernel) ⟨Nat.le_of_ble_eq_true rfl, Nat.le_of_ble_eq_true rfl⟩) ⟨zA_blind, va_recv hK hP (ci := 7) (q0 := 5) rfl rfl, zA_pre hP hD hS hK hQ hA [5] rfl rfl (by decide) [] rfl⟩ rfl rfl hl.1 rfl (lv_room (Nat.le_of_ble_eq_true rfl)) dL_law_1629 ⟨zl_b rfl, zl_b rfl⟩) (fun r hr => ?_)
  subst hr
  refine lv_iload hx hb dL_law_1632 (lv_at hl 1 rfl) ?_
  refine lv_icmp_eq (tgt := 1639) hx hb dL_law_1634 (by decide) (fun c_6 => ?_) (fun c_6 => absurd c_6 (by decide))
  refine lv_iload hx hb dL_law_1639 (lv_at hl 1 rfl) ?_
  refine lv_if_ne (tgt := 1655) hx hb dL_law_1641 (by decide) (fun c_7 => ?_) (fun c_7 => absurd c_7 (by decide))
  refine lv_goto (tgt := 2981) hx hb dL_law_1655 (by decide) ?_
  exact law_tail l C0 _ _ (zl_b rfl) (zl_b rfl) _ _ hS ls (lv_sub hl [7, 2] rfl)
set_option maxHeartbeats 4000000 in
set_option maxRecDepth 100000 in
/-- the law on statement -/
theorem law_c20 {p : Program} {e : Env} {s : State} {m : MethodId} {below : List Frame} {meth : Method} {c : Code} {b : Nat} {xs : Nat → Int32} (l : Launch) (hst : l.stackTraces = false) (C0 : lw_At p s m meth c b 5 xs) {dC : Nat → ClassId} {dI : Nat → Nat → Nat} {t x0 xa xw xb m0 ma mw o od : Nat} {k1 k2 k3 : ClassId} (H : Heap) (locs : List Loc) (hK : va_K (dC, dI) zc [(k1, .int), (k2, .int), (k3, .long)] s) (hQ : zQ t (fun q : Nat => s.heap.size ≤ q) s s.heap) (hP : va_P (dC, dI) zc [(x0, .inr (5, [.ref xa, .ref xw, .ref xb, .int 0])), (xa, .inr (0, [.int 0, .ref t, .int 0])), (xw, .inl (k1, 4, .inl (zW))), (m0, .inr (7, [.ref ma, .ref mw, .int 0, .int 0])), (ma, .inr (0, [.int 0, .ref t, .int 0])), (mw, .inl (k2, 4, .inl (zW))), (o, .inl (k3, 1, .inr (.inl (fun _ => 0))))] H) (hD : va_D (fun q : Nat => s.heap.size ≤ q) [(x0, .inr (5, [.ref xa, .ref xw, .ref xb, .int 0])), (xa, .inr (0, [.int 0, .ref t, .int 0])), (xw, .inl (k1, 4, .inl (zW))), (m0, .inr (7, [.ref ma, .ref mw, .int 0, .int 0])), (ma, .inr (0, [.int 0, .ref t, .int 0])), (mw, .inl (k2, 4, .inl (zW))), (o, .inl (k3, 1, .inr (.inl (fun _ => 0))))]) (hS : va_S (fun q : Nat => s.heap.size ≤ q) s.heap H locs) (ls : Array Slot) (hl : lv_has ls 9 [(5, .int 0), (4, .ref od), (3, .ref o), (2, .ref m0), (1, .ref x0), (0, .ref b)]) : W p l e room_1 s m #[Value.ref b] below meth c H locs 26 125 (lw_Z below #[Value.ref b] s) (F0 m 1658 ls []) := by
  obtain ⟨hx, hb, hr, hml, hown, hts0, hX, hbl, hlocks, hgv⟩ := id C0
  have hts : ∀ w ∈ zG, w.before #[Value.ref b] s = true := fun w h => hts0 w (zg_tbl h)
  have hA : ∀ q : Nat, s.heap.size ≤ q → (fun q : Nat => s.heap.size ≤ q) q := fun _ h => h
  have hbA : ¬ (fun q : Nat => s.heap.size ≤ q) b := Nat.not_le.mpr hbl
  refine lv_aload_n hx hb dL_law_1658 rfl (lv_at hl 4 rfl) ?_
  refine lv_aload_n hx hb dL_law_1659 rfl (lv_at hl 5 rfl) ?_
  refine lv_iload hx hb dL_law_1660 (lv_at hl 0 rfl) ?_
  refine lv_iconst (v := 1) hx hb dL_law_1662 (by decide) ?_
  refine lv_iadd hx hb dL_law_1663 ?_
  refine va_sld hx hb hX hbl hbA hS (by unfold vp_in; decide) dL_law_1664 ?_
  refine lv_topi (fun v_1 e_v_1 => ?_)
  refine lv_aload_n hx hb dL_law_1665 rfl (lv_at hl 5 rfl) ?_
  refine lv_iload hx hb dL_law_1666 (lv_at hl 0 rfl) ?_
  refine lv_iconst (v := 2) hx hb dL_law_1668 (by decide) ?_
  refine lv_iadd hx hb dL_law_1669 ?_
  refine va_sld hx hb hX hbl hbA hS (by unfold vp_in; decide) dL_law_1670 ?_
  refine lv_topi (fun v_2 e_v_2 => ?_)
  refine lv_aload_n hx hb dL_law_1671 rfl (lv_at hl 2 rfl) ?_
  refine vx_calli (vx_runSX (As := [.ref x0, .int v_1, .int v_2, .ref o]) (rest := []) ⟨hx, hb, hml, hown, hts⟩ (lx_statement l hst dC dI H.size t x0 xa o (.ref xw) (.ref xb) 0 (.ref t) v_1 v_2) (vx_cwSW 4 hts (zg_S kw_1161 kw_1162 kw_63 kw_1163) rfl rfl rfl (by decide +kernel) ⟨Nat.le_of_ble_eq_true rfl, Nat.le_of_ble_eq_true rfl⟩) ⟨zA_blind, zA_pre hP hD hS hK hQ hA [0, 1] rfl rfl (by decide) [] rfl⟩ rfl rfl hl.1 rfl (lv_room (Nat.le_of_ble_eq_true rfl)) dL_law_1672 ⟨zl_b rfl, zl_b rfl⟩) hS (fun q _ h => hA q (Nat.le_trans (hS.1) h)) (fun q h => hA q (Nat.le_trans (hS.1) h)) (fun q _ h => h.elim) (fun E ce q9 u t9 H1 locs1 ht hvm hp9 hE hz1 hk1 hS1 hc1 hv1 hcl1 => hp9.elim) (fun r_3 u t9 H1 locs ht hvm hw hB hz1 hk1 hS => ?_)
  have hw : r_3 = 1 := hw
  subst hw
  have hP := zP_new hP hk1
  generalize H1 = H at hP hS ⊢
  have hP : va_P (dC, dI) zc [(x0, .inr (5, [.ref xa, .ref xw, .ref xb, .int 0])), (xa, .inr (0, [.int 0, .ref t, .int 0])), (xw, .inl (k1, 4, .inl (zW))), (m0, .inr (7, [.ref ma, .ref mw, .int 0, .int 0])), (ma, .inr (0, [.int 0, .ref t, .int 0])), (mw, .inl (k2, 4, .inl (zW))), (o, .inl (k3, 1, .inr (.inl (fun _ => 0))))] H := hP
  have hD : va_D (fun q : Nat => s.heap.size ≤ q) [(x0, .inr (5, [.ref xa, .ref xw, .ref xb, .int 0])), (xa, .inr (0, [.int 0, .ref t, .int 0])), (xw, .inl (k1, 4, .inl (zW))), (m0, .inr (7, [.ref ma, .ref mw, .int 0, .int 0])), (ma, .inr (0, [.int 0, .ref t, .int 0])), (mw, .inl (k2, 4, .inl (zW))), (o, .inl (k3, 1, .inr (.inl (fun _ => 0))))] := hD
  refine W.widen (k := 27) (n := 131) (zl_b rfl) (zl_b rfl) ?_
  refine lv_istore (lv' := [(6, .int 1), (5, .int 0), (4, .ref od), (3, .ref o), (2, .ref m0), (1, .ref x0), (0, .ref b)]) hx hb dL_law_1675 hl (by decide) rfl (fun ls hl => ?_)
  refine lv_aload_n hx hb dL_law_1677 rfl (lv_at hl 4 rfl) ?_
  refine lv_aload_n hx hb dL_law_1678 rfl (lv_at hl 6 rfl) ?_
  refine lv_iload hx hb dL_law_1679 (lv_at hl 1 rfl) ?_
  refine lv_iconst (v := 1) hx hb dL_law_1681 (by decide) ?_
  refine lv_iadd hx hb dL_law_1682 ?_
  refine va_sld hx hb hX hbl hbA hS (by unfold vp_in; decide) dL_law_1683 ?_
  refine lv_topi (fun v_4 e_v_4 => ?_)
  have s_5 : v_1 = v_4 := by rw [e_v_1, e_v_4]
  subst s_5
  refine lv_aload_n hx hb dL_law_1684 rfl (lv_at hl 6 rfl) ?_
  refine lv_iload hx hb dL_law_1685 (lv_at hl 1 rfl) ?_
  refine lv_iconst (v := 2) hx hb dL_law_1687 (by decide) ?_
  refine lv_iadd hx hb dL_law_1688 ?_
  refine va_sld hx hb hX hbl hbA hS (by unfold vp_in; decide) dL_law_1689 ?_
  refine lv_topi (fun v_6 e_v_6 => ?_)
  have s_7 : v_2 = v_6 := by rw [e_v_2, e_v_6]
  subst s_7
  have hFc := va_free (wc := [(m0, .inr (7, [.ref ma, .ref mw, .int 0, .int 0])), (ma, .inr (0, [.int 0, .ref t, .int 0]))]) hD hS hA [3, 4] rfl
  refine va_calll (va_runV (As := [.int v_1, .int v_2]) (rest := []) ⟨hx, hb, hml, hown, hts⟩ (m_statement l dC dI H.size t m0 ma (.ref mw) 0 0 (.ref t) v_1 v_2) (cwV 2 hts (zg_V kw_1880 kw_1881 kw_1882 kw_70 kw_1883) rfl rfl rfl (by decide +kernel) ⟨Nat.le_of_ble_eq_true rfl, Nat.le_of_ble_eq_true rfl⟩) ⟨zA_blind, va_recv hK hP (ci := 7) (q0 := 3) rfl rfl, zA_pre hP hD hS hK hQ hA [3, 4] rfl rfl (by decide) [] rfl⟩ rfl rfl hl.1 rfl (lv_room (Nat.le_of_ble_eq_true rfl)) dL_law_1690 ⟨zl_b rfl, zl_b rfl⟩) hS (fun q _ h => hFc q h) hFc (fun r_8 u t9 H1 locs ht hvm hw hB hz1 hk1 hS => ?_)
  obtain ⟨hP1, hK1, hD1⟩ := hB
  rw [ht] at hP1
  have hK1 := va_K.moved hvm.symm hK1
  obtain ⟨hP, hD⟩ := va_join (wr := [(x0, .inr (5, [.ref xa, .ref xw, .ref xb, .int 0])), (xa, .inr (0, [.int 0, .ref t, .int 0])), (xw, .inl (k1, 4, .inl (zW))), (mw, .inl (k2, 4, .inl (zW))), (o, .inl (k3, 1, .inr (.inl (fun _ => 0))))]) (w1 := [(m0, .inr (7, [.ref ma, .ref mw, .int 0, .int 1])), (ma, .inr (0, [.int 0, .ref t, .int 0]))]) hP hD [3, 4] [0, 1, 2, 5, 6] rfl rfl (by decide) (by decide) hk1 hFc hP1 hD1
  have hK := (hK.sub (tys' := [(k1, .int), (k2, .int), (k3, .long)]) [0, 1, 2] rfl).app hK1
  generalize H1 = H at hP hS ⊢
  have hP : va_P (dC, dI) zc [(x0, .inr (5, [.ref xa, .ref xw, .ref xb, .int 0])), (xa, .inr (0, [.int 0, .ref t, .int 0])), (xw, .inl (k1, 4, .inl (zW))), (mw, .inl (k2, 4, .inl (zW))), (o, .inl (k3, 1, .inr (.inl (fun _ => 0)))), (m0, .inr (7, [.ref ma, .ref mw, .int 0, .int 1])), (ma, .inr (0, [.int 0, .ref t, .int 0]))] H := hP
  have hD : va_D (fun q : Nat => s.heap.size ≤ q) [(x0, .inr (5, [.ref xa, .ref xw, .ref xb, .int 0])), (xa, .inr (0, [.int 0, .ref t, .int 0])), (xw, .inl (k1, 4, .inl (zW))), (mw, .inl (k2, 4, .inl (zW))), (o, .inl (k3, 1, .inr (.inl (fun _ => 0)))), (m0, .inr (7, [.ref ma, .ref mw, .int 0, .int 1])), (ma, .inr (0, [.int 0, .ref t, .int 0]))] := hD
  have hK : va_K (dC, dI) zc [(k1, .int), (k2, .int), (k3, .long)] s := hK
  refine lv_lstore (lv' := [(7, .long r_8), (6, .int 1), (5, .int 0), (4, .ref od), (3, .ref o), (2, .ref m0), (1, .ref x0), (0, .ref b)]) hx hb dL_law_1693 hl (by decide) rfl (fun ls hl => ?_)
  refine lv_aload_n hx hb dL_law_1695 rfl (lv_at hl 5 rfl) ?_
  refine vp_callSi (W.runV (As := []) (rest := []) ⟨hx, hb, hml, hown, hts⟩ (c_thrown l dC dI H.size t m0 (.ref ma) (.ref mw) 0 1) (cwV 0 hts (zg_V kw_1365 kw_1366 kw_1367 kw_70 kw_1368) rfl rfl rfl (by decide +kernel) ⟨Nat.le_of_ble_eq_true rfl, Nat.le_of_ble_eq_true rfl⟩) ⟨zA_blind, va_recv hK hP (ci := 7) (q0 := 5) rfl rfl, zA_pre hP hD hS hK hQ hA [5] rfl rfl (by decide) [] rfl⟩ rfl rfl hl.1 rfl (lv_room (Nat.le_of_ble_eq_true rfl)) dL_law_1696 ⟨zl_b rfl, zl_b rfl⟩) (fun r hr => ?_)
  subst hr
  refine lv_iload hx hb dL_law_1699 (lv_at hl 1 rfl) ?_
  refine lv_icmp_eq (tgt := 1706) hx hb dL_law_1701 (by decide) (fun c_9 => ?_) (fun c_9 => absurd c_9 (by decide))
  refine lv_iload hx hb dL_law_1706 (lv_at hl 1 rfl) ?_
  refine lv_if_ne (tgt := 1722) hx hb dL_law_1708 (by decide) (fun c_10 => ?_) (fun c_10 => absurd c_10 (by decide))
  refine lv_goto (tgt := 2981) hx hb dL_law_1722 (by decide) ?_
  exact law_tail l C0 _ _ (zl_b rfl) (zl_b rfl) _ _ hS ls (lv_sub hl [7, 2] rfl)
set_option maxHeartbeats 4000000 in
set_option maxRecDepth 100000 in
/-- the law on told -/
theorem law_c21 {p : Program} {e : Env} {s : State} {m : MethodId} {below : List Frame} {meth : Method} {c : Code} {b : Nat} {xs : Nat → Int32} (l : Launch) (hst : l.stackTraces = false) (C0 : lw_At p s m meth c b 5 xs) {dC : Nat → ClassId} {dI : Nat → Nat → Nat} {t x0 xa xw xb m0 ma mw o od : Nat} {k1 k2 k3 : ClassId} (H : Heap) (locs : List Loc) (hK : va_K (dC, dI) zc [(k1, .int), (k2, .int), (k3, .long)] s) (hQ : zQ t (fun q : Nat => s.heap.size ≤ q) s s.heap) (hP : va_P (dC, dI) zc [(x0, .inr (5, [.ref xa, .ref xw, .ref xb, .int 0])), (xa, .inr (0, [.int 0, .ref t, .int 0])), (xw, .inl (k1, 4, .inl (zW))), (m0, .inr (7, [.ref ma, .ref mw, .int 0, .int 0])), (ma, .inr (0, [.int 0, .ref t, .int 0])), (mw, .inl (k2, 4, .inl (zW))), (o, .inl (k3, 1, .inr (.inl (fun _ => 0))))] H) (hD : va_D (fun q : Nat => s.heap.size ≤ q) [(x0, .inr (5, [.ref xa, .ref xw, .ref xb, .int 0])), (xa, .inr (0, [.int 0, .ref t, .int 0])), (xw, .inl (k1, 4, .inl (zW))), (m0, .inr (7, [.ref ma, .ref mw, .int 0, .int 0])), (ma, .inr (0, [.int 0, .ref t, .int 0])), (mw, .inl (k2, 4, .inl (zW))), (o, .inl (k3, 1, .inr (.inl (fun _ => 0))))]) (hS : va_S (fun q : Nat => s.heap.size ≤ q) s.heap H locs) (ls : Array Slot) (hl : lv_has ls 9 [(5, .int 0), (4, .ref od), (3, .ref o), (2, .ref m0), (1, .ref x0), (0, .ref b)]) : W p l e room_1 s m #[Value.ref b] below meth c H locs 26 125 (lw_Z below #[Value.ref b] s) (F0 m 1725 ls []) := by
  obtain ⟨hx, hb, hr, hml, hown, hts0, hX, hbl, hlocks, hgv⟩ := id C0
  have hts : ∀ w ∈ zG, w.before #[Value.ref b] s = true := fun w h => hts0 w (zg_tbl h)
  have hA : ∀ q : Nat, s.heap.size ≤ q → (fun q : Nat => s.heap.size ≤ q) q := fun _ h => h
  have hbA : ¬ (fun q : Nat => s.heap.size ≤ q) b := Nat.not_le.mpr hbl
  refine lv_aload_n hx hb dL_law_1725 rfl (lv_at hl 4 rfl) ?_
  refine lv_aload_n hx hb dL_law_1726 rfl (lv_at hl 5 rfl) ?_
  refine lv_iload hx hb dL_law_1727 (lv_at hl 0 rfl) ?_
  refine lv_iconst (v := 1) hx hb dL_law_1729 (by decide) ?_
  refine lv_iadd hx hb dL_law_1730 ?_
  refine va_sld hx hb hX hbl hbA hS (by unfold vp_in; decide) dL_law_1731 ?_
  refine lv_topi (fun v_1 e_v_1 => ?_)
  refine lv_aload_n hx hb dL_law_1732 rfl (lv_at hl 5 rfl) ?_
  refine lv_iload hx hb dL_law_1733 (lv_at hl 0 rfl) ?_
  refine lv_iconst (v := 2) hx hb dL_law_1735 (by decide) ?_
  refine lv_iadd hx hb dL_law_1736 ?_
  refine va_sld hx hb hX hbl hbA hS (by unfold vp_in; decide) dL_law_1737 ?_
  refine lv_topi (fun v_2 e_v_2 => ?_)
  refine lv_aload_n hx hb dL_law_1738 rfl (lv_at hl 2 rfl) ?_
  refine vx_calli (vx_runSX (As := [.ref x0, .int v_1, .int v_2, .ref o]) (rest := []) ⟨hx, hb, hml, hown, hts⟩ (lx_told l hst dC dI H.size t x0 xa o (.ref xw) (.ref xb) 0 (.ref t) v_1 v_2) (vx_cwSW 4 hts (zg_S kw_1188 kw_1189 kw_63 kw_1190) rfl rfl rfl (by decide +kernel) ⟨Nat.le_of_ble_eq_true rfl, Nat.le_of_ble_eq_true rfl⟩) ⟨zA_blind, zA_pre hP hD hS hK hQ hA [0, 1] rfl rfl (by decide) [] rfl⟩ rfl rfl hl.1 rfl (lv_room (Nat.le_of_ble_eq_true rfl)) dL_law_1739 ⟨zl_b rfl, zl_b rfl⟩) hS (fun q _ h => hA q (Nat.le_trans (hS.1) h)) (fun q h => hA q (Nat.le_trans (hS.1) h)) (fun q _ h => h.elim) (fun E ce q9 u t9 H1 locs1 ht hvm hp9 hE hz1 hk1 hS1 hc1 hv1 hcl1 => hp9.elim) (fun r_3 u t9 H1 locs ht hvm hw hB hz1 hk1 hS => ?_)
  have hw : r_3 = 1 := hw
  subst hw
  have hP := zP_new hP hk1
  generalize H1 = H at hP hS ⊢
  have hP : va_P (dC, dI) zc [(x0, .inr (5, [.ref xa, .ref xw, .ref xb, .int 0])), (xa, .inr (0, [.int 0, .ref t, .int 0])), (xw, .inl (k1, 4, .inl (zW))), (m0, .inr (7, [.ref ma, .ref mw, .int 0, .int 0])), (ma, .inr (0, [.int 0, .ref t, .int 0])), (mw, .inl (k2, 4, .inl (zW))), (o, .inl (k3, 1, .inr (.inl (fun _ => 0))))] H := hP
  have hD : va_D (fun q : Nat => s.heap.size ≤ q) [(x0, .inr (5, [.ref xa, .ref xw, .ref xb, .int 0])), (xa, .inr (0, [.int 0, .ref t, .int 0])), (xw, .inl (k1, 4, .inl (zW))), (m0, .inr (7, [.ref ma, .ref mw, .int 0, .int 0])), (ma, .inr (0, [.int 0, .ref t, .int 0])), (mw, .inl (k2, 4, .inl (zW))), (o, .inl (k3, 1, .inr (.inl (fun _ => 0))))] := hD
  refine W.widen (k := 27) (n := 131) (zl_b rfl) (zl_b rfl) ?_
  refine lv_istore (lv' := [(6, .int 1), (5, .int 0), (4, .ref od), (3, .ref o), (2, .ref m0), (1, .ref x0), (0, .ref b)]) hx hb dL_law_1742 hl (by decide) rfl (fun ls hl => ?_)
  refine lv_aload_n hx hb dL_law_1744 rfl (lv_at hl 4 rfl) ?_
  refine lv_aload_n hx hb dL_law_1745 rfl (lv_at hl 6 rfl) ?_
  refine lv_iload hx hb dL_law_1746 (lv_at hl 1 rfl) ?_
  refine lv_iconst (v := 1) hx hb dL_law_1748 (by decide) ?_
  refine lv_iadd hx hb dL_law_1749 ?_
  refine va_sld hx hb hX hbl hbA hS (by unfold vp_in; decide) dL_law_1750 ?_
  refine lv_topi (fun v_4 e_v_4 => ?_)
  have s_5 : v_1 = v_4 := by rw [e_v_1, e_v_4]
  subst s_5
  refine lv_aload_n hx hb dL_law_1751 rfl (lv_at hl 6 rfl) ?_
  refine lv_iload hx hb dL_law_1752 (lv_at hl 1 rfl) ?_
  refine lv_iconst (v := 2) hx hb dL_law_1754 (by decide) ?_
  refine lv_iadd hx hb dL_law_1755 ?_
  refine va_sld hx hb hX hbl hbA hS (by unfold vp_in; decide) dL_law_1756 ?_
  refine lv_topi (fun v_6 e_v_6 => ?_)
  have s_7 : v_2 = v_6 := by rw [e_v_2, e_v_6]
  subst s_7
  have hFc := va_free (wc := [(m0, .inr (7, [.ref ma, .ref mw, .int 0, .int 0])), (ma, .inr (0, [.int 0, .ref t, .int 0]))]) hD hS hA [3, 4] rfl
  refine va_calll (va_runV (As := [.int v_1, .int v_2]) (rest := []) ⟨hx, hb, hml, hown, hts⟩ (m_told l dC dI H.size t m0 ma (.ref mw) 0 0 (.ref t) v_1 v_2) (cwV 2 hts (zg_V kw_1888 kw_1889 kw_1890 kw_70 kw_1891) rfl rfl rfl (by decide +kernel) ⟨Nat.le_of_ble_eq_true rfl, Nat.le_of_ble_eq_true rfl⟩) ⟨zA_blind, va_recv hK hP (ci := 7) (q0 := 3) rfl rfl, zA_pre hP hD hS hK hQ hA [3, 4] rfl rfl (by decide) [] rfl⟩ rfl rfl hl.1 rfl (lv_room (Nat.le_of_ble_eq_true rfl)) dL_law_1757 ⟨zl_b rfl, zl_b rfl⟩) hS (fun q _ h => hFc q h) hFc (fun r_8 u t9 H1 locs ht hvm hw hB hz1 hk1 hS => ?_)
  obtain ⟨hP1, hK1, hD1⟩ := hB
  rw [ht] at hP1
  have hK1 := va_K.moved hvm.symm hK1
  obtain ⟨hP, hD⟩ := va_join (wr := [(x0, .inr (5, [.ref xa, .ref xw, .ref xb, .int 0])), (xa, .inr (0, [.int 0, .ref t, .int 0])), (xw, .inl (k1, 4, .inl (zW))), (mw, .inl (k2, 4, .inl (zW))), (o, .inl (k3, 1, .inr (.inl (fun _ => 0))))]) (w1 := [(m0, .inr (7, [.ref ma, .ref mw, .int 0, .int 1])), (ma, .inr (0, [.int 0, .ref t, .int 0]))]) hP hD [3, 4] [0, 1, 2, 5, 6] rfl rfl (by decide) (by decide) hk1 hFc hP1 hD1
  have hK := (hK.sub (tys' := [(k1, .int), (k2, .int), (k3, .long)]) [0, 1, 2] rfl).app hK1
  generalize H1 = H at hP hS ⊢
  have hP : va_P (dC, dI) zc [(x0, .inr (5, [.ref xa, .ref xw, .ref xb, .int 0])), (xa, .inr (0, [.int 0, .ref t, .int 0])), (xw, .inl (k1, 4, .inl (zW))), (mw, .inl (k2, 4, .inl (zW))), (o, .inl (k3, 1, .inr (.inl (fun _ => 0)))), (m0, .inr (7, [.ref ma, .ref mw, .int 0, .int 1])), (ma, .inr (0, [.int 0, .ref t, .int 0]))] H := hP
  have hD : va_D (fun q : Nat => s.heap.size ≤ q) [(x0, .inr (5, [.ref xa, .ref xw, .ref xb, .int 0])), (xa, .inr (0, [.int 0, .ref t, .int 0])), (xw, .inl (k1, 4, .inl (zW))), (mw, .inl (k2, 4, .inl (zW))), (o, .inl (k3, 1, .inr (.inl (fun _ => 0)))), (m0, .inr (7, [.ref ma, .ref mw, .int 0, .int 1])), (ma, .inr (0, [.int 0, .ref t, .int 0]))] := hD
  have hK : va_K (dC, dI) zc [(k1, .int), (k2, .int), (k3, .long)] s := hK
  refine lv_lstore (lv' := [(7, .long r_8), (6, .int 1), (5, .int 0), (4, .ref od), (3, .ref o), (2, .ref m0), (1, .ref x0), (0, .ref b)]) hx hb dL_law_1760 hl (by decide) rfl (fun ls hl => ?_)
  refine lv_aload_n hx hb dL_law_1762 rfl (lv_at hl 5 rfl) ?_
  refine vp_callSi (W.runV (As := []) (rest := []) ⟨hx, hb, hml, hown, hts⟩ (c_thrown l dC dI H.size t m0 (.ref ma) (.ref mw) 0 1) (cwV 0 hts (zg_V kw_1365 kw_1366 kw_1367 kw_70 kw_1368) rfl rfl rfl (by decide +kernel) ⟨Nat.le_of_ble_eq_true rfl, Nat.le_of_ble_eq_true rfl⟩) ⟨zA_blind, va_recv hK hP (ci := 7) (q0 := 5) rfl rfl, zA_pre hP hD hS hK hQ hA [5] rfl rfl (by decide) [] rfl⟩ rfl rfl hl.1 rfl (lv_room (Nat.le_of_ble_eq_true rfl)) dL_law_1763 ⟨zl_b rfl, zl_b rfl⟩) (fun r hr => ?_)
  subst hr
  refine lv_iload hx hb dL_law_1766 (lv_at hl 1 rfl) ?_
  refine lv_icmp_eq (tgt := 1773) hx hb dL_law_1768 (by decide) (fun c_9 => ?_) (fun c_9 => absurd c_9 (by decide))
  refine lv_iload hx hb dL_law_1773 (lv_at hl 1 rfl) ?_
  refine lv_if_ne (tgt := 1789) hx hb dL_law_1775 (by decide) (fun c_10 => ?_) (fun c_10 => absurd c_10 (by decide))
  refine lv_goto (tgt := 2981) hx hb dL_law_1789 (by decide) ?_
  exact law_tail l C0 _ _ (zl_b rfl) (zl_b rfl) _ _ hS ls (lv_sub hl [7, 2] rfl)
set_option maxHeartbeats 4000000 in
set_option maxRecDepth 100000 in
/-- the law on difference -/
theorem law_c22 {p : Program} {e : Env} {s : State} {m : MethodId} {below : List Frame} {meth : Method} {c : Code} {b : Nat} {xs : Nat → Int32} (l : Launch) (hst : l.stackTraces = false) (C0 : lw_At p s m meth c b 5 xs) {dC : Nat → ClassId} {dI : Nat → Nat → Nat} {t x0 xa xw xb m0 ma mw o od : Nat} {k1 k2 k3 : ClassId} (H : Heap) (locs : List Loc) (hK : va_K (dC, dI) zc [(k1, .int), (k2, .int), (k3, .long)] s) (hQ : zQ t (fun q : Nat => s.heap.size ≤ q) s s.heap) (hP : va_P (dC, dI) zc [(x0, .inr (5, [.ref xa, .ref xw, .ref xb, .int 0])), (xa, .inr (0, [.int 0, .ref t, .int 0])), (xw, .inl (k1, 4, .inl (zW))), (m0, .inr (7, [.ref ma, .ref mw, .int 0, .int 0])), (ma, .inr (0, [.int 0, .ref t, .int 0])), (mw, .inl (k2, 4, .inl (zW))), (o, .inl (k3, 1, .inr (.inl (fun _ => 0))))] H) (hD : va_D (fun q : Nat => s.heap.size ≤ q) [(x0, .inr (5, [.ref xa, .ref xw, .ref xb, .int 0])), (xa, .inr (0, [.int 0, .ref t, .int 0])), (xw, .inl (k1, 4, .inl (zW))), (m0, .inr (7, [.ref ma, .ref mw, .int 0, .int 0])), (ma, .inr (0, [.int 0, .ref t, .int 0])), (mw, .inl (k2, 4, .inl (zW))), (o, .inl (k3, 1, .inr (.inl (fun _ => 0))))]) (hS : va_S (fun q : Nat => s.heap.size ≤ q) s.heap H locs) (ls : Array Slot) (hl : lv_has ls 9 [(5, .int 0), (4, .ref od), (3, .ref o), (2, .ref m0), (1, .ref x0), (0, .ref b)]) : W p l e room_1 s m #[Value.ref b] below meth c H locs 26 125 (lw_Z below #[Value.ref b] s) (F0 m 1792 ls []) := by
  obtain ⟨hx, hb, hr, hml, hown, hts0, hX, hbl, hlocks, hgv⟩ := id C0
  have hts : ∀ w ∈ zG, w.before #[Value.ref b] s = true := fun w h => hts0 w (zg_tbl h)
  have hA : ∀ q : Nat, s.heap.size ≤ q → (fun q : Nat => s.heap.size ≤ q) q := fun _ h => h
  have hbA : ¬ (fun q : Nat => s.heap.size ≤ q) b := Nat.not_le.mpr hbl
  refine lv_aload_n hx hb dL_law_1792 rfl (lv_at hl 4 rfl) ?_
  refine lv_aload_n hx hb dL_law_1793 rfl (lv_at hl 5 rfl) ?_
  refine lv_iload hx hb dL_law_1794 (lv_at hl 0 rfl) ?_
  refine lv_iconst (v := 1) hx hb dL_law_1796 (by decide) ?_
  refine lv_iadd hx hb dL_law_1797 ?_
  refine va_sld hx hb hX hbl hbA hS (by unfold vp_in; decide) dL_law_1798 ?_
  refine lv_topi (fun v_1 e_v_1 => ?_)
  refine lv_aload_n hx hb dL_law_1799 rfl (lv_at hl 5 rfl) ?_
  refine lv_iload hx hb dL_law_1800 (lv_at hl 0 rfl) ?_
  refine lv_iconst (v := 2) hx hb dL_law_1802 (by decide) ?_
  refine lv_iadd hx hb dL_law_1803 ?_
  refine va_sld hx hb hX hbl hbA hS (by unfold vp_in; decide) dL_law_1804 ?_
  refine lv_topi (fun v_2 e_v_2 => ?_)
  refine lv_aload_n hx hb dL_law_1805 rfl (lv_at hl 2 rfl) ?_
  refine vx_calli (vx_runSX (As := [.ref x0, .int v_1, .int v_2, .ref o]) (rest := []) ⟨hx, hb, hml, hown, hts⟩ (lx_difference l hst dC dI H.size t x0 xa o (.ref xw) (.ref xb) 0 (.ref t) v_1 v_2) (vx_cwSW 4 hts (zg_S kw_1199 kw_1200 kw_63 kw_1201) rfl rfl rfl (by decide +kernel) ⟨Nat.le_of_ble_eq_true rfl, Nat.le_of_ble_eq_true rfl⟩) ⟨zA_blind, zA_pre hP hD hS hK hQ hA [0, 1] rfl rfl (by decide) [] rfl⟩ rfl rfl hl.1 rfl (lv_room (Nat.le_of_ble_eq_true rfl)) dL_law_1806 ⟨zl_b rfl, zl_b rfl⟩) hS (fun q _ h => hA q (Nat.le_trans (hS.1) h)) (fun q h => hA q (Nat.le_trans (hS.1) h)) (fun q _ h => h.elim) (fun E ce q9 u t9 H1 locs1 ht hvm hp9 hE hz1 hk1 hS1 hc1 hv1 hcl1 => hp9.elim) (fun r_3 u t9 H1 locs ht hvm hw hB hz1 hk1 hS => ?_)
  have hw : r_3 = 1 := hw
  subst hw
  have hP := zP_new hP hk1
  generalize H1 = H at hP hS ⊢
  have hP : va_P (dC, dI) zc [(x0, .inr (5, [.ref xa, .ref xw, .ref xb, .int 0])), (xa, .inr (0, [.int 0, .ref t, .int 0])), (xw, .inl (k1, 4, .inl (zW))), (m0, .inr (7, [.ref ma, .ref mw, .int 0, .int 0])), (ma, .inr (0, [.int 0, .ref t, .int 0])), (mw, .inl (k2, 4, .inl (zW))), (o, .inl (k3, 1, .inr (.inl (fun _ => 0))))] H := hP
  have hD : va_D (fun q : Nat => s.heap.size ≤ q) [(x0, .inr (5, [.ref xa, .ref xw, .ref xb, .int 0])), (xa, .inr (0, [.int 0, .ref t, .int 0])), (xw, .inl (k1, 4, .inl (zW))), (m0, .inr (7, [.ref ma, .ref mw, .int 0, .int 0])), (ma, .inr (0, [.int 0, .ref t, .int 0])), (mw, .inl (k2, 4, .inl (zW))), (o, .inl (k3, 1, .inr (.inl (fun _ => 0))))] := hD
  refine W.widen (k := 27) (n := 131) (zl_b rfl) (zl_b rfl) ?_
  refine lv_istore (lv' := [(6, .int 1), (5, .int 0), (4, .ref od), (3, .ref o), (2, .ref m0), (1, .ref x0), (0, .ref b)]) hx hb dL_law_1809 hl (by decide) rfl (fun ls hl => ?_)
  refine lv_aload_n hx hb dL_law_1811 rfl (lv_at hl 4 rfl) ?_
  refine lv_aload_n hx hb dL_law_1812 rfl (lv_at hl 6 rfl) ?_
  refine lv_iload hx hb dL_law_1813 (lv_at hl 1 rfl) ?_
  refine lv_iconst (v := 1) hx hb dL_law_1815 (by decide) ?_
  refine lv_iadd hx hb dL_law_1816 ?_
  refine va_sld hx hb hX hbl hbA hS (by unfold vp_in; decide) dL_law_1817 ?_
  refine lv_topi (fun v_4 e_v_4 => ?_)
  have s_5 : v_1 = v_4 := by rw [e_v_1, e_v_4]
  subst s_5
  refine lv_aload_n hx hb dL_law_1818 rfl (lv_at hl 6 rfl) ?_
  refine lv_iload hx hb dL_law_1819 (lv_at hl 1 rfl) ?_
  refine lv_iconst (v := 2) hx hb dL_law_1821 (by decide) ?_
  refine lv_iadd hx hb dL_law_1822 ?_
  refine va_sld hx hb hX hbl hbA hS (by unfold vp_in; decide) dL_law_1823 ?_
  refine lv_topi (fun v_6 e_v_6 => ?_)
  have s_7 : v_2 = v_6 := by rw [e_v_2, e_v_6]
  subst s_7
  have hFc := va_free (wc := [(m0, .inr (7, [.ref ma, .ref mw, .int 0, .int 0])), (ma, .inr (0, [.int 0, .ref t, .int 0]))]) hD hS hA [3, 4] rfl
  refine va_calll (va_runV (As := [.int v_1, .int v_2]) (rest := []) ⟨hx, hb, hml, hown, hts⟩ (m_difference l dC dI H.size t m0 ma (.ref mw) 0 0 (.ref t) v_1 v_2) (cwV 2 hts (zg_V kw_1900 kw_1901 kw_1902 kw_70 kw_1903) rfl rfl rfl (by decide +kernel) ⟨Nat.le_of_ble_eq_true rfl, Nat.le_of_ble_eq_true rfl⟩) ⟨zA_blind, va_recv hK hP (ci := 7) (q0 := 3) rfl rfl, zA_pre hP hD hS hK hQ hA [3, 4] rfl rfl (by decide) [] rfl⟩ rfl rfl hl.1 rfl (lv_room (Nat.le_of_ble_eq_true rfl)) dL_law_1824 ⟨zl_b rfl, zl_b rfl⟩) hS (fun q _ h => hFc q h) hFc (fun r_8 u t9 H1 locs ht hvm hw hB hz1 hk1 hS => ?_)
  obtain ⟨hP1, hK1, hD1⟩ := hB
  rw [ht] at hP1
  have hK1 := va_K.moved hvm.symm hK1
  obtain ⟨hP, hD⟩ := va_join (wr := [(x0, .inr (5, [.ref xa, .ref xw, .ref xb, .int 0])), (xa, .inr (0, [.int 0, .ref t, .int 0])), (xw, .inl (k1, 4, .inl (zW))), (mw, .inl (k2, 4, .inl (zW))), (o, .inl (k3, 1, .inr (.inl (fun _ => 0))))]) (w1 := [(m0, .inr (7, [.ref ma, .ref mw, .int 0, .int 1])), (ma, .inr (0, [.int 0, .ref t, .int 0]))]) hP hD [3, 4] [0, 1, 2, 5, 6] rfl rfl (by decide) (by decide) hk1 hFc hP1 hD1
  have hK := (hK.sub (tys' := [(k1, .int), (k2, .int), (k3, .long)]) [0, 1, 2] rfl).app hK1
  generalize H1 = H at hP hS ⊢
  have hP : va_P (dC, dI) zc [(x0, .inr (5, [.ref xa, .ref xw, .ref xb, .int 0])), (xa, .inr (0, [.int 0, .ref t, .int 0])), (xw, .inl (k1, 4, .inl (zW))), (mw, .inl (k2, 4, .inl (zW))), (o, .inl (k3, 1, .inr (.inl (fun _ => 0)))), (m0, .inr (7, [.ref ma, .ref mw, .int 0, .int 1])), (ma, .inr (0, [.int 0, .ref t, .int 0]))] H := hP
  have hD : va_D (fun q : Nat => s.heap.size ≤ q) [(x0, .inr (5, [.ref xa, .ref xw, .ref xb, .int 0])), (xa, .inr (0, [.int 0, .ref t, .int 0])), (xw, .inl (k1, 4, .inl (zW))), (mw, .inl (k2, 4, .inl (zW))), (o, .inl (k3, 1, .inr (.inl (fun _ => 0)))), (m0, .inr (7, [.ref ma, .ref mw, .int 0, .int 1])), (ma, .inr (0, [.int 0, .ref t, .int 0]))] := hD
  have hK : va_K (dC, dI) zc [(k1, .int), (k2, .int), (k3, .long)] s := hK
  refine lv_lstore (lv' := [(7, .long r_8), (6, .int 1), (5, .int 0), (4, .ref od), (3, .ref o), (2, .ref m0), (1, .ref x0), (0, .ref b)]) hx hb dL_law_1827 hl (by decide) rfl (fun ls hl => ?_)
  refine lv_aload_n hx hb dL_law_1829 rfl (lv_at hl 5 rfl) ?_
  refine vp_callSi (W.runV (As := []) (rest := []) ⟨hx, hb, hml, hown, hts⟩ (c_thrown l dC dI H.size t m0 (.ref ma) (.ref mw) 0 1) (cwV 0 hts (zg_V kw_1365 kw_1366 kw_1367 kw_70 kw_1368) rfl rfl rfl (by decide +kernel) ⟨Nat.le_of_ble_eq_true rfl, Nat.le_of_ble_eq_true rfl⟩) ⟨zA_blind, va_recv hK hP (ci := 7) (q0 := 5) rfl rfl, zA_pre hP hD hS hK hQ hA [5] rfl rfl (by decide) [] rfl⟩ rfl rfl hl.1 rfl (lv_room (Nat.le_of_ble_eq_true rfl)) dL_law_1830 ⟨zl_b rfl, zl_b rfl⟩) (fun r hr => ?_)
  subst hr
  refine lv_iload hx hb dL_law_1833 (lv_at hl 1 rfl) ?_
  refine lv_icmp_eq (tgt := 1840) hx hb dL_law_1835 (by decide) (fun c_9 => ?_) (fun c_9 => absurd c_9 (by decide))
  refine lv_iload hx hb dL_law_1840 (lv_at hl 1 rfl) ?_
  refine lv_if_ne (tgt := 1856) hx hb dL_law_1842 (by decide) (fun c_10 => ?_) (fun c_10 => absurd c_10 (by decide))
  refine lv_goto (tgt := 2981) hx hb dL_law_1856 (by decide) ?_
  exact law_tail l C0 _ _ (zl_b rfl) (zl_b rfl) _ _ hS ls (lv_sub hl [7, 2] rfl)
set_option maxHeartbeats 4000000 in
set_option maxRecDepth 100000 in
/-- the law on least -/
theorem law_c23 {p : Program} {e : Env} {s : State} {m : MethodId} {below : List Frame} {meth : Method} {c : Code} {b : Nat} {xs : Nat → Int32} (l : Launch) (hst : l.stackTraces = false) (C0 : lw_At p s m meth c b 5 xs) {dC : Nat → ClassId} {dI : Nat → Nat → Nat} {t x0 xa xw xb m0 ma mw o od : Nat} {k1 k2 k3 : ClassId} (H : Heap) (locs : List Loc) (hK : va_K (dC, dI) zc [(k1, .int), (k2, .int), (k3, .long)] s) (hQ : zQ t (fun q : Nat => s.heap.size ≤ q) s s.heap) (hP : va_P (dC, dI) zc [(x0, .inr (5, [.ref xa, .ref xw, .ref xb, .int 0])), (xa, .inr (0, [.int 0, .ref t, .int 0])), (xw, .inl (k1, 4, .inl (zW))), (m0, .inr (7, [.ref ma, .ref mw, .int 0, .int 0])), (ma, .inr (0, [.int 0, .ref t, .int 0])), (mw, .inl (k2, 4, .inl (zW))), (o, .inl (k3, 1, .inr (.inl (fun _ => 0))))] H) (hD : va_D (fun q : Nat => s.heap.size ≤ q) [(x0, .inr (5, [.ref xa, .ref xw, .ref xb, .int 0])), (xa, .inr (0, [.int 0, .ref t, .int 0])), (xw, .inl (k1, 4, .inl (zW))), (m0, .inr (7, [.ref ma, .ref mw, .int 0, .int 0])), (ma, .inr (0, [.int 0, .ref t, .int 0])), (mw, .inl (k2, 4, .inl (zW))), (o, .inl (k3, 1, .inr (.inl (fun _ => 0))))]) (hS : va_S (fun q : Nat => s.heap.size ≤ q) s.heap H locs) (ls : Array Slot) (hl : lv_has ls 9 [(5, .int 0), (4, .ref od), (3, .ref o), (2, .ref m0), (1, .ref x0), (0, .ref b)]) : W p l e room_1 s m #[Value.ref b] below meth c H locs 26 125 (lw_Z below #[Value.ref b] s) (F0 m 1859 ls []) := by
  obtain ⟨hx, hb, hr, hml, hown, hts0, hX, hbl, hlocks, hgv⟩ := id C0
  have hts : ∀ w ∈ zG, w.before #[Value.ref b] s = true := fun w h => hts0 w (zg_tbl h)
  have hA : ∀ q : Nat, s.heap.size ≤ q → (fun q : Nat => s.heap.size ≤ q) q := fun _ h => h
  have hbA : ¬ (fun q : Nat => s.heap.size ≤ q) b := Nat.not_le.mpr hbl
  refine lv_aload_n hx hb dL_law_1859 rfl (lv_at hl 4 rfl) ?_
  refine lv_aload_n hx hb dL_law_1860 rfl (lv_at hl 5 rfl) ?_
  refine lv_iload hx hb dL_law_1861 (lv_at hl 0 rfl) ?_
  refine lv_iconst (v := 1) hx hb dL_law_1863 (by decide) ?_
  refine lv_iadd hx hb dL_law_1864 ?_
  refine va_sld hx hb hX hbl hbA hS (by unfold vp_in; decide) dL_law_1865 ?_
  refine lv_topi (fun v_1 e_v_1 => ?_)
  refine lv_aload_n hx hb dL_law_1866 rfl (lv_at hl 5 rfl) ?_
  refine lv_iload hx hb dL_law_1867 (lv_at hl 0 rfl) ?_
  refine lv_iconst (v := 2) hx hb dL_law_1869 (by decide) ?_
  refine lv_iadd hx hb dL_law_1870 ?_
  refine va_sld hx hb hX hbl hbA hS (by unfold vp_in; decide) dL_law_1871 ?_
  refine lv_topi (fun v_2 e_v_2 => ?_)
  refine lv_aload_n hx hb dL_law_1872 rfl (lv_at hl 2 rfl) ?_
  refine vx_calli (vx_runSX (As := [.ref x0, .int v_1, .int v_2, .ref o]) (rest := []) ⟨hx, hb, hml, hown, hts⟩ (lx_least l hst dC dI H.size t x0 xa o (.ref xw) (.ref xb) 0 (.ref t) v_1 v_2) (vx_cwSW 4 hts (zg_S kw_1206 kw_1207 kw_63 kw_1208) rfl rfl rfl (by decide +kernel) ⟨Nat.le_of_ble_eq_true rfl, Nat.le_of_ble_eq_true rfl⟩) ⟨zA_blind, zA_pre hP hD hS hK hQ hA [0, 1] rfl rfl (by decide) [] rfl⟩ rfl rfl hl.1 rfl (lv_room (Nat.le_of_ble_eq_true rfl)) dL_law_1873 ⟨zl_b rfl, zl_b rfl⟩) hS (fun q _ h => hA q (Nat.le_trans (hS.1) h)) (fun q h => hA q (Nat.le_trans (hS.1) h)) (fun q _ h => h.elim) (fun E ce q9 u t9 H1 locs1 ht hvm hp9 hE hz1 hk1 hS1 hc1 hv1 hcl1 => hp9.elim) (fun r_3 u t9 H1 locs ht hvm hw hB hz1 hk1 hS => ?_)
  have hw : r_3 = 1 := hw
  subst hw
  have hP := zP_new hP hk1
  generalize H1 = H at hP hS ⊢
  have hP : va_P (dC, dI) zc [(x0, .inr (5, [.ref xa, .ref xw, .ref xb, .int 0])), (xa, .inr (0, [.int 0, .ref t, .int 0])), (xw, .inl (k1, 4, .inl (zW))), (m0, .inr (7, [.ref ma, .ref mw, .int 0, .int 0])), (ma, .inr (0, [.int 0, .ref t, .int 0])), (mw, .inl (k2, 4, .inl (zW))), (o, .inl (k3, 1, .inr (.inl (fun _ => 0))))] H := hP
  have hD : va_D (fun q : Nat => s.heap.size ≤ q) [(x0, .inr (5, [.ref xa, .ref xw, .ref xb, .int 0])), (xa, .inr (0, [.int 0, .ref t, .int 0])), (xw, .inl (k1, 4, .inl (zW))), (m0, .inr (7, [.ref ma, .ref mw, .int 0, .int 0])), (ma, .inr (0, [.int 0, .ref t, .int 0])), (mw, .inl (k2, 4, .inl (zW))), (o, .inl (k3, 1, .inr (.inl (fun _ => 0))))] := hD
  refine W.widen (k := 27) (n := 131) (zl_b rfl) (zl_b rfl) ?_
  refine lv_istore (lv' := [(6, .int 1), (5, .int 0), (4, .ref od), (3, .ref o), (2, .ref m0), (1, .ref x0), (0, .ref b)]) hx hb dL_law_1876 hl (by decide) rfl (fun ls hl => ?_)
  refine lv_aload_n hx hb dL_law_1878 rfl (lv_at hl 4 rfl) ?_
  refine lv_aload_n hx hb dL_law_1879 rfl (lv_at hl 6 rfl) ?_
  refine lv_iload hx hb dL_law_1880 (lv_at hl 1 rfl) ?_
  refine lv_iconst (v := 1) hx hb dL_law_1882 (by decide) ?_
  refine lv_iadd hx hb dL_law_1883 ?_
  refine va_sld hx hb hX hbl hbA hS (by unfold vp_in; decide) dL_law_1884 ?_
  refine lv_topi (fun v_4 e_v_4 => ?_)
  have s_5 : v_1 = v_4 := by rw [e_v_1, e_v_4]
  subst s_5
  refine lv_aload_n hx hb dL_law_1885 rfl (lv_at hl 6 rfl) ?_
  refine lv_iload hx hb dL_law_1886 (lv_at hl 1 rfl) ?_
  refine lv_iconst (v := 2) hx hb dL_law_1888 (by decide) ?_
  refine lv_iadd hx hb dL_law_1889 ?_
  refine va_sld hx hb hX hbl hbA hS (by unfold vp_in; decide) dL_law_1890 ?_
  refine lv_topi (fun v_6 e_v_6 => ?_)
  have s_7 : v_2 = v_6 := by rw [e_v_2, e_v_6]
  subst s_7
  have hFc := va_free (wc := [(m0, .inr (7, [.ref ma, .ref mw, .int 0, .int 0])), (ma, .inr (0, [.int 0, .ref t, .int 0]))]) hD hS hA [3, 4] rfl
  refine va_calll (va_runV (As := [.int v_1, .int v_2]) (rest := []) ⟨hx, hb, hml, hown, hts⟩ (m_least l dC dI H.size t m0 ma (.ref mw) 0 0 (.ref t) v_1 v_2) (cwV 2 hts (zg_V kw_1904 kw_1905 kw_1906 kw_70 kw_1907) rfl rfl rfl (by decide +kernel) ⟨Nat.le_of_ble_eq_true rfl, Nat.le_of_ble_eq_true rfl⟩) ⟨zA_blind, va_recv hK hP (ci := 7) (q0 := 3) rfl rfl, zA_pre hP hD hS hK hQ hA [3, 4] rfl rfl (by decide) [] rfl⟩ rfl rfl hl.1 rfl (lv_room (Nat.le_of_ble_eq_true rfl)) dL_law_1891 ⟨zl_b rfl, zl_b rfl⟩) hS (fun q _ h => hFc q h) hFc (fun r_8 u t9 H1 locs ht hvm hw hB hz1 hk1 hS => ?_)
  obtain ⟨hP1, hK1, hD1⟩ := hB
  rw [ht] at hP1
  have hK1 := va_K.moved hvm.symm hK1
  obtain ⟨hP, hD⟩ := va_join (wr := [(x0, .inr (5, [.ref xa, .ref xw, .ref xb, .int 0])), (xa, .inr (0, [.int 0, .ref t, .int 0])), (xw, .inl (k1, 4, .inl (zW))), (mw, .inl (k2, 4, .inl (zW))), (o, .inl (k3, 1, .inr (.inl (fun _ => 0))))]) (w1 := [(m0, .inr (7, [.ref ma, .ref mw, .int 0, .int 1])), (ma, .inr (0, [.int 0, .ref t, .int 0]))]) hP hD [3, 4] [0, 1, 2, 5, 6] rfl rfl (by decide) (by decide) hk1 hFc hP1 hD1
  have hK := (hK.sub (tys' := [(k1, .int), (k2, .int), (k3, .long)]) [0, 1, 2] rfl).app hK1
  generalize H1 = H at hP hS ⊢
  have hP : va_P (dC, dI) zc [(x0, .inr (5, [.ref xa, .ref xw, .ref xb, .int 0])), (xa, .inr (0, [.int 0, .ref t, .int 0])), (xw, .inl (k1, 4, .inl (zW))), (mw, .inl (k2, 4, .inl (zW))), (o, .inl (k3, 1, .inr (.inl (fun _ => 0)))), (m0, .inr (7, [.ref ma, .ref mw, .int 0, .int 1])), (ma, .inr (0, [.int 0, .ref t, .int 0]))] H := hP
  have hD : va_D (fun q : Nat => s.heap.size ≤ q) [(x0, .inr (5, [.ref xa, .ref xw, .ref xb, .int 0])), (xa, .inr (0, [.int 0, .ref t, .int 0])), (xw, .inl (k1, 4, .inl (zW))), (mw, .inl (k2, 4, .inl (zW))), (o, .inl (k3, 1, .inr (.inl (fun _ => 0)))), (m0, .inr (7, [.ref ma, .ref mw, .int 0, .int 1])), (ma, .inr (0, [.int 0, .ref t, .int 0]))] := hD
  have hK : va_K (dC, dI) zc [(k1, .int), (k2, .int), (k3, .long)] s := hK
  refine lv_lstore (lv' := [(7, .long r_8), (6, .int 1), (5, .int 0), (4, .ref od), (3, .ref o), (2, .ref m0), (1, .ref x0), (0, .ref b)]) hx hb dL_law_1894 hl (by decide) rfl (fun ls hl => ?_)
  refine lv_aload_n hx hb dL_law_1896 rfl (lv_at hl 5 rfl) ?_
  refine vp_callSi (W.runV (As := []) (rest := []) ⟨hx, hb, hml, hown, hts⟩ (c_thrown l dC dI H.size t m0 (.ref ma) (.ref mw) 0 1) (cwV 0 hts (zg_V kw_1365 kw_1366 kw_1367 kw_70 kw_1368) rfl rfl rfl (by decide +kernel) ⟨Nat.le_of_ble_eq_true rfl, Nat.le_of_ble_eq_true rfl⟩) ⟨zA_blind, va_recv hK hP (ci := 7) (q0 := 5) rfl rfl, zA_pre hP hD hS hK hQ hA [5] rfl rfl (by decide) [] rfl⟩ rfl rfl hl.1 rfl (lv_room (Nat.le_of_ble_eq_true rfl)) dL_law_1897 ⟨zl_b rfl, zl_b rfl⟩) (fun r hr => ?_)
  subst hr
  refine lv_iload hx hb dL_law_1900 (lv_at hl 1 rfl) ?_
  refine lv_icmp_eq (tgt := 1907) hx hb dL_law_1902 (by decide) (fun c_9 => ?_) (fun c_9 => absurd c_9 (by decide))
  refine lv_iload hx hb dL_law_1907 (lv_at hl 1 rfl) ?_
  refine lv_if_ne (tgt := 1923) hx hb dL_law_1909 (by decide) (fun c_10 => ?_) (fun c_10 => absurd c_10 (by decide))
  refine lv_goto (tgt := 2981) hx hb dL_law_1923 (by decide) ?_
  exact law_tail l C0 _ _ (zl_b rfl) (zl_b rfl) _ _ hS ls (lv_sub hl [7, 2] rfl)
