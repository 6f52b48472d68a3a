set_option maxRecDepth 100000 in
/-- what the start gives of the statics -/
theorem zQ_start {s : State} {b : Nat} (hgv : (Jvm.Cond.and given_1 narrow_1).before #[Value.ref b] s = true) (hts : ∀ w ∈ lw_tbl, w.before #[Value.ref b] s = true) : ∃ t : Nat, zQ t (fun q : Nat => s.heap.size ≤ q) s s.heap := by
  have hs := flat_of_before _ hgv
  have hA : ∀ a : Nat, a < s.heap.size → ¬ (fun q : Nat => s.heap.size ≤ q) a := fun a h => Nat.not_le.mpr h
  have w1 : (Cond.laysStatic Bundle.tN "UNASSIGNED_STACK" Bundle.steD).before #[Value.ref b] s = true := hts _ (List.mem_of_getElem? (i := 462) (by decide +kernel))
  have w2 : (Cond.laysStatic Bundle.tN "SUPPRESSED_SENTINEL" Bundle.listD).before #[Value.ref b] s = true := hts _ (List.mem_of_getElem? (i := 464) (by decide +kernel))
  have w3 : (Cond.initialized Bundle.tN).before #[Value.ref b] s = true := hts _ (List.mem_of_getElem? (i := 71) (by decide +kernel))
  have w4 : (Cond.laysStatic "java/util/ArrayList" "DEFAULTCAPACITY_EMPTY_ELEMENTDATA" "[Ljava/lang/Object;").before #[Value.ref b] s = true := hts _ (List.mem_of_getElem? (i := 124) (by decide +kernel))
  have w5 : (Cond.initialized "java/util/ArrayList").before #[Value.ref b] s = true := hts _ (List.mem_of_getElem? (i := 67) (by decide +kernel))
  have g1 : (Cond.isRef (.static Bundle.tN "UNASSIGNED_STACK" Bundle.steD)).before #[Value.ref b] s = true := hs _ (by decide +kernel)
  have g2 : (Cond.isRef (.static Bundle.tN "SUPPRESSED_SENTINEL" Bundle.listD)).before #[Value.ref b] s = true := hs _ (by decide +kernel)
  have g3 : (Cond.arrayOf (.static "java/util/ArrayList" "DEFAULTCAPACITY_EMPTY_ELEMENTDATA" "[Ljava/lang/Object;") (.object "java/lang/Object")).before #[Value.ref b] s = true := hs _ (by decide +kernel)
  have g4 : (Cond.eq (.length (.static "java/util/ArrayList" "DEFAULTCAPACITY_EMPTY_ELEMENTDATA" "[Ljava/lang/Object;")) (.int 0)).before #[Value.ref b] s = true := hs _ (by decide +kernel)
  obtain ⟨t, ht, hT⟩ := va_Tof (N := 0) (f := fun _ => .null) (by decide) g3 (va_eqt g4) (fun j hj => absurd hj (Nat.not_lt_zero j)) hA
  exact ⟨t, zT_made hts, vx_Zqof w1 w3 g1 hA, vx_Zqof w2 w3 g2 hA, va_Zref w4 w5 ht hA, hT⟩
set_option maxHeartbeats 8000000 in
set_option maxRecDepth 100000 in
/-- THE LAW, from its entry -/
theorem whole_start {p : Program} {e : Env} {s : State} {m : MethodId} {below : List Frame} {meth : Method} {c : Code} (l : Launch) (hflags : l.flags = flags0) {b L : Nat} {xs : Nat → Int32} (hL : L ≤ 5) (C0 : lw_At p s m meth c b L xs) : W p l e room_1 s m #[Value.ref b] below meth c s.heap [] 0 0 (lw_Z below #[Value.ref b] s) (entryFrame m ([Value.ref b] : List Value).toArray 9) := by
  obtain ⟨hx, hb, hr, hml, hown, hts0, hX, hbl, hlocks, hgv⟩ := id C0
  have hst : l.stackTraces = false := by unfold Launch.stackTraces; rw [hflags]; decide +kernel
  have hts : ∀ w ∈ zG, w.before #[Value.ref b] s = true := fun w h => hts0 w (zg_tbl h)
  have hA : ∀ q : Nat, s.heap.size ≤ q → (fun q : Nat => s.heap.size ≤ q) q := fun _ h => h
  have hbA : ¬ (fun q : Nat => s.heap.size ≤ q) b := Nat.not_le.mpr hbl
  obtain ⟨c0, iS0, hKn0⟩ := u_known (C := RJx4a65c) (T := TJx4a65c) (N := 3) (n := 3) hts iJx4a65c (hts _ kw_112)
  obtain ⟨c1, iS1, hKn1⟩ := u_known (C := RJx35411) (T := TJx35411) (N := 4) (n := 4) hts iJx35411 (hts _ kw_1594)
  obtain ⟨c2, iS2, hKn2⟩ := u_known (C := RX0) (T := TX0) (N := 9) (n := 9) hts iX0 (hts _ kw_279)
  obtain ⟨c3, iS3, hKn3⟩ := u_known (C := RX1) (T := TX1) (N := 17) (n := 17) hts iX1 (hts _ kw_141)
  obtain ⟨c4, iS4, hKn4⟩ := u_known (C := RX3) (T := TX3) (N := 5) (n := 5) hts iX3 (hts _ kw_148)
  obtain ⟨c5, iS5, hKn5⟩ := u_known (C := RX4) (T := TX4) (N := 4) (n := 4) hts iX4 (hts _ kw_104)
  obtain ⟨c6, iS6, hKn6⟩ := u_known (C := RX5) (T := TX5) (N := 4) (n := 4) hts iX5 (hts _ kw_1390)
  obtain ⟨c7, iS7, hKn7⟩ := u_known (C := RX8) (T := TX8) (N := 4) (n := 4) hts iX8 (hts _ kw_1345)
  obtain ⟨dC, dI, hKc⟩ : ∃ (dC : Nat → ClassId) (dI : Nat → Nat → Nat), ∀ (k : Nat) (q : vw_C), zc[k]? = some q → u_Kn s q.1 q.2.1 q.2.2 (dC k) (dI k) := by
    refine ⟨fun k => if k = 0 then c0 else if k = 1 then c1 else if k = 2 then c2 else if k = 3 then c3 else if k = 4 then c4 else if k = 5 then c5 else if k = 6 then c6 else c7, fun k => if k = 0 then iS0 else if k = 1 then iS1 else if k = 2 then iS2 else if k = 3 then iS3 else if k = 4 then iS4 else if k = 5 then iS5 else if k = 6 then iS6 else iS7, ?_⟩
    intro k q hq
    match k, hq with
    | 0, hq => cases hq; exact hKn0
    | 1, hq => cases hq; exact hKn1
    | 2, hq => cases hq; exact hKn2
    | 3, hq => cases hq; exact hKn3
    | 4, hq => cases hq; exact hKn4
    | 5, hq => cases hq; exact hKn5
    | 6, hq => cases hq; exact hKn6
    | 7, hq => cases hq; exact hKn7
    | k + 8, hq => simp [zc] at hq
  obtain ⟨t, hQ⟩ := zQ_start hgv hts0
  have hS : va_S (fun q : Nat => s.heap.size ≤ q) s.heap s.heap [] := va_S.rf
  have hK : va_K (dC, dI) zc [] s := ⟨hKc, fun k q h => by simp at h⟩
  have hP : va_P (dC, dI) zc [] s.heap := fun k q h => by simp at h
  have hD : va_D (fun q : Nat => s.heap.size ≤ q) [] := ⟨fun i j p q h => by simp at h, fun k q h => by simp at h⟩
  have hl := lv_entry ([.ref b]) (n := 9) (Nat.le_of_ble_eq_true rfl)
  rw [lg_entry_eq]
  generalize (lg_sl ([.ref b]) ++ List.replicate (9 - (lg_sl ([.ref b])).length) Slot.unset).toArray = ls at hl ⊢
  have hl : lv_has ls 9 [(0, .ref b)] := hl
  refine va_new (ci := 5) (fs := [.null, .null, .null, .int 0]) (C := RX4) (T := TX4) (N := 4) hx hb hts iX4 tyX4 tyX4_ok hown (hts _ kw_103) (hts _ kw_104) (hts _ kw_64) hK hP hD hS hA rfl z_dfX4 (zl_b rfl) (zl_b rfl) dL_law_0 (fun q_1 H hP hD hS => ?_)
  have hP : va_P (dC, dI) zc [(q_1, .inr (5, [.null, .null, .null, .int 0]))] H := hP
  have hD : va_D (fun q : Nat => s.heap.size ≤ q) [(q_1, .inr (5, [.null, .null, .null, .int 0]))] := hD
  refine W.widen (k := 1) (n := 4) (zl_b rfl) (zl_b rfl) ?_
  refine lv_dup hx hb dL_law_3 rfl ?_
  have hFc := va_free (wc := [(q_1, .inr (5, [.null, .null, .null, .int 0]))]) hD hS hA [0] rfl
  refine va_callv (va_runI (As := []) (rest := [.ref q_1]) ⟨hx, hb, hml, hown, hts⟩ (c_SC_init l dC dI H.size t q_1) (cwI 0 hts (zg_c kw_107) rfl rfl rfl (hts _ kw_64) (hts _ kw_105) (hts _ kw_106) rfl (by decide +kernel) ⟨Nat.le_of_ble_eq_true rfl, Nat.le_of_ble_eq_true rfl⟩) ⟨zA_blind, zA_pre hP hD hS hK hQ hA [0] rfl rfl (by decide) [] rfl⟩ rfl rfl hl.1 rfl (lv_room (Nat.le_of_ble_eq_true rfl)) dL_law_4 ⟨zl_b rfl, zl_b rfl⟩) hS (fun q _ h => hFc q h) hFc (fun u t9 H1 locs ht hvm hw hB hz1 hk1 hS => ?_)
  obtain ⟨xa, xw, xb, k1, hP1, hK1, hD1⟩ := hB
  rw [ht] at hP1
  have hK1 := va_K.moved hvm.symm hK1
  obtain ⟨hP, hD⟩ := va_join (wr := []) (w1 := [(q_1, .inr (5, [.ref xa, .ref xw, .ref xb, .int 0])), (xa, .inr (0, [.int 0, .ref t, .int 0])), (xw, .inl (k1, 4, .inl (zW)))]) hP hD [0] [] rfl rfl (by decide) (by decide) hk1 hFc hP1 hD1
  have hK := (hK.sub (tys' := []) [] rfl).app hK1
  generalize H1 = H at hP hS ⊢
  have hP : va_P (dC, dI) zc [(q_1, .inr (5, [.ref xa, .ref xw, .ref xb, .int 0])), (xa, .inr (0, [.int 0, .ref t, .int 0])), (xw, .inl (k1, 4, .inl (zW)))] H := hP
  have hD : va_D (fun q : Nat => s.heap.size ≤ q) [(q_1, .inr (5, [.ref xa, .ref xw, .ref xb, .int 0])), (xa, .inr (0, [.int 0, .ref t, .int 0])), (xw, .inl (k1, 4, .inl (zW)))] := hD
  have hK : va_K (dC, dI) zc [(k1, .int)] s := hK
  refine W.widen (k := 21) (n := 112) (zl_b rfl) (zl_b rfl) ?_
  refine lv_astore_n (lv' := [(1, .ref q_1), (0, .ref b)]) hx hb dL_law_7 rfl hl (by decide) rfl (fun ls hl => ?_)
  refine va_new (ci := 7) (fs := [.null, .null, .int 0, .int 0]) (C := RX8) (T := TX8) (N := 4) hx hb hts iX8 tyX8 tyX8_ok hown (hts _ kw_1344) (hts _ kw_1345) (hts _ kw_70) hK hP hD hS hA rfl z_dfX8 (zl_b rfl) (zl_b rfl) dL_law_8 (fun q_2 H hP hD hS => ?_)
  have hP : va_P (dC, dI) zc [(q_1, .inr (5, [.ref xa, .ref xw, .ref xb, .int 0])), (xa, .inr (0, [.int 0, .ref t, .int 0])), (xw, .inl (k1, 4, .inl (zW))), (q_2, .inr (7, [.null, .null, .int 0, .int 0]))] H := hP
  have hD : va_D (fun q : Nat => s.heap.size ≤ q) [(q_1, .inr (5, [.ref xa, .ref xw, .ref xb, .int 0])), (xa, .inr (0, [.int 0, .ref t, .int 0])), (xw, .inl (k1, 4, .inl (zW))), (q_2, .inr (7, [.null, .null, .int 0, .int 0]))] := hD
  refine W.widen (k := 22) (n := 116) (zl_b rfl) (zl_b rfl) ?_
  refine lv_dup hx hb dL_law_11 rfl ?_
  have hFc := va_free (wc := [(q_2, .inr (7, [.null, .null, .int 0, .int 0]))]) hD hS hA [3] rfl
  refine va_callv (va_runI (As := []) (rest := [.ref q_2]) ⟨hx, hb, hml, hown, hts⟩ (c_Md_init l dC dI H.size t q_2) (cwI 0 hts (zg_c kw_1348) rfl rfl rfl (hts _ kw_70) (hts _ kw_1346) (hts _ kw_1347) rfl (by decide +kernel) ⟨Nat.le_of_ble_eq_true rfl, Nat.le_of_ble_eq_true rfl⟩) ⟨zA_blind, zA_pre hP hD hS hK hQ hA [3] rfl rfl (by decide) [] rfl⟩ rfl rfl hl.1 rfl (lv_room (Nat.le_of_ble_eq_true rfl)) dL_law_12 ⟨zl_b rfl, zl_b rfl⟩) hS (fun q _ h => hFc q h) hFc (fun u t9 H1 locs ht hvm hw hB hz1 hk1 hS => ?_)
  obtain ⟨ma, mw, k2, hP1, hK1, hD1⟩ := hB
  rw [ht] at hP1
  have hK1 := va_K.moved hvm.symm hK1
  obtain ⟨hP, hD⟩ := va_join (wr := [(q_1, .inr (5, [.ref xa, .ref xw, .ref xb, .int 0])), (xa, .inr (0, [.int 0, .ref t, .int 0])), (xw, .inl (k1, 4, .inl (zW)))]) (w1 := [(q_2, .inr (7, [.ref ma, .ref mw, .int 0, .int 0])), (ma, .inr (0, [.int 0, .ref t, .int 0])), (mw, .inl (k2, 4, .inl (zW)))]) hP hD [3] [0, 1, 2] rfl rfl (by decide) (by decide) hk1 hFc hP1 hD1
  have hK := (hK.sub (tys' := [(k1, .int)]) [0] rfl).app hK1
  generalize H1 = H at hP hS ⊢
  have hP : va_P (dC, dI) zc [(q_1, .inr (5, [.ref xa, .ref xw, .ref xb, .int 0])), (xa, .inr (0, [.int 0, .ref t, .int 0])), (xw, .inl (k1, 4, .inl (zW))), (q_2, .inr (7, [.ref ma, .ref mw, .int 0, .int 0])), (ma, .inr (0, [.int 0, .ref t, .int 0])), (mw, .inl (k2, 4, .inl (zW)))] H := hP
  have hD : va_D (fun q : Nat => s.heap.size ≤ q) [(q_1, .inr (5, [.ref xa, .ref xw, .ref xb, .int 0])), (xa, .inr (0, [.int 0, .ref t, .int 0])), (xw, .inl (k1, 4, .inl (zW))), (q_2, .inr (7, [.ref ma, .ref mw, .int 0, .int 0])), (ma, .inr (0, [.int 0, .ref t, .int 0])), (mw, .inl (k2, 4, .inl (zW)))] := hD
  have hK : va_K (dC, dI) zc [(k1, .int), (k2, .int)] s := hK
  refine W.widen (k := 24) (n := 123) (zl_b rfl) (zl_b rfl) ?_
  refine lv_astore_n (lv' := [(2, .ref q_2), (1, .ref q_1), (0, .ref b)]) hx hb dL_law_15 rfl hl (by decide) rfl (fun ls hl => ?_)
  refine lv_iconst (v := 1) hx hb dL_law_16 (by decide) ?_
  refine va_newa (atype := .long) (ty := .long) (a0 := (1, .inr (.inl (fun _ => 0)))) hx hb (hts _ kw_180) rfl hK hP hD hS hA (fun _ => rfl) (by decide) rfl (by decide) (zl_b rfl) (zl_b rfl) dL_law_17 (fun q_3 k_4 H hK hP hD hS => ?_)
  have hP : va_P (dC, dI) zc [(q_1, .inr (5, [.ref xa, .ref xw, .ref xb, .int 0])), (xa, .inr (0, [.int 0, .ref t, .int 0])), (xw, .inl (k1, 4, .inl (zW))), (q_2, .inr (7, [.ref ma, .ref mw, .int 0, .int 0])), (ma, .inr (0, [.int 0, .ref t, .int 0])), (mw, .inl (k2, 4, .inl (zW))), (q_3, .inl (k_4, 1, .inr (.inl (fun _ => 0))))] H := hP
  have hD : va_D (fun q : Nat => s.heap.size ≤ q) [(q_1, .inr (5, [.ref xa, .ref xw, .ref xb, .int 0])), (xa, .inr (0, [.int 0, .ref t, .int 0])), (xw, .inl (k1, 4, .inl (zW))), (q_2, .inr (7, [.ref ma, .ref mw, .int 0, .int 0])), (ma, .inr (0, [.int 0, .ref t, .int 0])), (mw, .inl (k2, 4, .inl (zW))), (q_3, .inl (k_4, 1, .inr (.inl (fun _ => 0))))] := hD
  have hK : va_K (dC, dI) zc [(k1, .int), (k2, .int), (k_4, .long)] s := hK
  refine W.widen (k := 25) (n := 124) (zl_b rfl) (zl_b rfl) ?_
  refine lv_astore_n (lv' := [(3, .ref q_3), (2, .ref q_2), (1, .ref q_1), (0, .ref b)]) hx hb dL_law_19 rfl hl (by decide) rfl (fun ls hl => ?_)
  refine lv_iconst (v := 1) hx hb dL_law_20 (by decide) ?_
  refine va_newa (atype := .double) (ty := .double) (a0 := (1, .inr (.inr (.inr (.inl (fun _ => 0)))))) hx hb (hts _ kw_2020) rfl hK hP hD hS hA (fun _ => rfl) (by decide) rfl (by decide) (zl_b rfl) (zl_b rfl) dL_law_21 (fun q_5 k_6 H hK hP hD hS => ?_)
  have hP : va_P (dC, dI) zc [(q_1, .inr (5, [.ref xa, .ref xw, .ref xb, .int 0])), (xa, .inr (0, [.int 0, .ref t, .int 0])), (xw, .inl (k1, 4, .inl (zW))), (q_2, .inr (7, [.ref ma, .ref mw, .int 0, .int 0])), (ma, .inr (0, [.int 0, .ref t, .int 0])), (mw, .inl (k2, 4, .inl (zW))), (q_3, .inl (k_4, 1, .inr (.inl (fun _ => 0)))), (q_5, .inl (k_6, 1, .inr (.inr (.inr (.inl (fun _ => 0))))))] H := hP
  have hD : va_D (fun q : Nat => s.heap.size ≤ q) [(q_1, .inr (5, [.ref xa, .ref xw, .ref xb, .int 0])), (xa, .inr (0, [.int 0, .ref t, .int 0])), (xw, .inl (k1, 4, .inl (zW))), (q_2, .inr (7, [.ref ma, .ref mw, .int 0, .int 0])), (ma, .inr (0, [.int 0, .ref t, .int 0])), (mw, .inl (k2, 4, .inl (zW))), (q_3, .inl (k_4, 1, .inr (.inl (fun _ => 0)))), (q_5, .inl (k_6, 1, .inr (.inr (.inr (.inl (fun _ => 0))))))] := hD
  have hK : va_K (dC, dI) zc [(k1, .int), (k2, .int), (k_4, .long), (k_6, .double)] s := hK
  refine W.widen (k := 26) (n := 125) (zl_b rfl) (zl_b rfl) ?_
  refine lv_astore (lv' := [(4, .ref q_5), (3, .ref q_3), (2, .ref q_2), (1, .ref q_1), (0, .ref b)]) hx hb dL_law_23 hl (by decide) rfl (fun ls hl => ?_)
  refine lv_iconst (v := 0) hx hb dL_law_25 (by decide) ?_
  refine lv_istore (lv' := [(5, .int 0), (4, .ref q_5), (3, .ref q_3), (2, .ref q_2), (1, .ref q_1), (0, .ref b)]) hx hb dL_law_26 hl (by decide) rfl (fun ls hl => ?_)
  have hP : va_P (dC, dI) zc [(q_1, .inr (5, [.ref xa, .ref xw, .ref xb, .int 0])), (xa, .inr (0, [.int 0, .ref t, .int 0])), (xw, .inl (k1, 4, .inl (zW))), (q_2, .inr (7, [.ref ma, .ref mw, .int 0, .int 0])), (ma, .inr (0, [.int 0, .ref t, .int 0])), (mw, .inl (k2, 4, .inl (zW))), (q_3, .inl (k_4, 1, .inr (.inl (fun _ => 0))))] H := hP.sub [0, 1, 2, 3, 4, 5, 6] rfl
  have hD : va_D (fun q : Nat => s.heap.size ≤ q) [(q_1, .inr (5, [.ref xa, .ref xw, .ref xb, .int 0])), (xa, .inr (0, [.int 0, .ref t, .int 0])), (xw, .inl (k1, 4, .inl (zW))), (q_2, .inr (7, [.ref ma, .ref mw, .int 0, .int 0])), (ma, .inr (0, [.int 0, .ref t, .int 0])), (mw, .inl (k2, 4, .inl (zW))), (q_3, .inl (k_4, 1, .inr (.inl (fun _ => 0))))] := hD.sub [0, 1, 2, 3, 4, 5, 6] (by decide) rfl
  have hK : va_K (dC, dI) zc [(k1, .int), (k2, .int), (k_4, .long)] s := hK.sub [0, 1, 2] rfl
  refine lv_iload hx hb dL_law_28 (lv_at hl 0 rfl) ?_
  refine lv_aload_n hx hb dL_law_30 rfl (lv_at hl 5 rfl) ?_
  refine va_slen hx hb hX hbl hbA hS dL_law_31 ?_
  refine lv_iconst (v := 5) hx hb dL_law_32 (by decide) ?_
  refine lv_isub hx hb dL_law_33 ?_
  by_cases hL5 : L = 5
  · subst hL5
    refine lv_topi (fun y0 e_y0 => ?_)
    obtain rfl : y0 = 0 := by rw [e_y0]; decide
    refine lv_icmp_gt (tgt := 2987) hx hb dL_law_34 (by decide) (fun h => absurd h (by decide)) (fun _ => ?_)
    refine lv_aload_n hx hb dL_law_37 rfl (lv_at hl 5 rfl) ?_
    refine lv_iload hx hb dL_law_38 (lv_at hl 0 rfl) ?_
    refine va_sld hx hb hX hbl hbA hS (by unfold vp_in; decide) dL_law_40 ?_
    refine lv_topi (fun v_7 e_v_7 => ?_)
    refine lv_bipush (v := 63) hx hb dL_law_41 (by decide) ?_
    refine lv_iand hx hb dL_law_43 ?_
    refine lv_topi (fun sw e_sw => ?_)
    obtain ⟨j, hj, ej⟩ := pk_andE v_7 (m := 63) 6 (by decide)
    obtain rfl : sw = nI j := by rw [e_sw, ej]
    by_cases h0 : j = 0
    · subst h0
      refine lv_tableIn (off := 188) (tgt := 232) hx hb dL_law_44 (by decide) (by decide) rfl (by decide) ?_
      exact law_c0 l hst C0 H locs hK hQ hP hD hS ls hl
    by_cases h1 : j = 1
    · subst h1
      refine lv_tableIn (off := 244) (tgt := 288) hx hb dL_law_44 (by decide) (by decide) rfl (by decide) ?_
      exact law_c1 l hst C0 H locs hK hQ hP hD hS ls hl
    by_cases h2 : j = 2
    · subst h2
      refine lv_tableIn (off := 312) (tgt := 356) hx hb dL_law_44 (by decide) (by decide) rfl (by decide) ?_
      exact law_c2 l hst C0 H locs hK hQ hP hD hS ls hl
    by_cases h3 : j = 3
    · subst h3
      refine lv_tableIn (off := 403) (tgt := 447) hx hb dL_law_44 (by decide) (by decide) rfl (by decide) ?_
      exact law_c3 l hst C0 H locs hK hQ hP hD hS ls hl
    by_cases h4 : j = 4
    · subst h4
      refine lv_tableIn (off := 485) (tgt := 529) hx hb dL_law_44 (by decide) (by decide) rfl (by decide) ?_
      exact law_c4 l hst C0 H locs hK hQ hP hD hS ls hl
    by_cases h5 : j = 5
    · subst h5
      refine lv_tableIn (off := 565) (tgt := 609) hx hb dL_law_44 (by decide) (by decide) rfl (by decide) ?_
      exact law_c5 l hst C0 H locs hK hQ hP hD hS ls hl
    by_cases h6 : j = 6
    · subst h6
      refine lv_tableIn (off := 633) (tgt := 677) hx hb dL_law_44 (by decide) (by decide) rfl (by decide) ?_
      exact law_c6 l hst C0 H locs hK hQ hP hD hS ls hl
    by_cases h7 : j = 7
    · subst h7
      refine lv_tableIn (off := 715) (tgt := 759) hx hb dL_law_44 (by decide) (by decide) rfl (by decide) ?_
      exact law_c7 l hst C0 H locs hK hQ hP hD hS ls hl
    by_cases h8 : j = 8
    · subst h8
      refine lv_tableIn (off := 809) (tgt := 853) hx hb dL_law_44 (by decide) (by decide) rfl (by decide) ?_
      exact law_c8 l hst C0 H locs hK hQ hP hD hS ls hl
    by_cases h9 : j = 9
    · subst h9
      refine lv_tableIn (off := 889) (tgt := 933) hx hb dL_law_44 (by decide) (by decide) rfl (by decide) ?_
      exact law_c9 l hst C0 H locs hK hQ hP hD hS ls hl
    by_cases h10 : j = 10
    · subst h10
      refine lv_tableIn (off := 957) (tgt := 1001) hx hb dL_law_44 (by decide) (by decide) rfl (by decide) ?_
      exact law_c10 l hst C0 H locs hK hQ hP hD hS ls hl
    by_cases h11 : j = 11
    · subst h11
      refine lv_tableIn (off := 1025) (tgt := 1069) hx hb dL_law_44 (by decide) (by decide) rfl (by decide) ?_
      exact law_c11 l hst C0 H locs hK hQ hP hD hS ls hl
    by_cases h12 : j = 12
    · subst h12
      refine lv_tableIn (off := 1093) (tgt := 1137) hx hb dL_law_44 (by decide) (by decide) rfl (by decide) ?_
      exact law_c12 l hst C0 H locs hK hQ hP hD hS ls hl
    by_cases h13 : j = 13
    · subst h13
      refine lv_tableIn (off := 1188) (tgt := 1232) hx hb dL_law_44 (by decide) (by decide) rfl (by decide) ?_
      exact law_c13 l hst C0 H locs hK hQ hP hD hS ls hl
    by_cases h14 : j = 14
    · subst h14
      refine lv_tableIn (off := 1255) (tgt := 1299) hx hb dL_law_44 (by decide) (by decide) rfl (by decide) ?_
      exact law_c14 l hst C0 H locs hK hQ hP hD hS ls hl
    by_cases h15 : j = 15
    · subst h15
      refine lv_tableIn (off := 1311) (tgt := 1355) hx hb dL_law_44 (by decide) (by decide) rfl (by decide) ?_
      exact law_c15 l hst C0 H locs hK hQ hP hD hS ls hl
    by_cases h16 : j = 16
    · subst h16
      refine lv_tableIn (off := 1379) (tgt := 1423) hx hb dL_law_44 (by decide) (by decide) rfl (by decide) ?_
      exact law_c16 l hst C0 H locs hK hQ hP hD hS ls hl
    by_cases h17 : j = 17
    · subst h17
      refine lv_tableIn (off := 1435) (tgt := 1479) hx hb dL_law_44 (by decide) (by decide) rfl (by decide) ?_
      exact law_c17 l hst C0 H locs hK hQ hP hD hS ls hl
    by_cases h18 : j = 18
    · subst h18
      refine lv_tableIn (off := 1490) (tgt := 1534) hx hb dL_law_44 (by decide) (by decide) rfl (by decide) ?_
      exact law_c18 l hst C0 H locs hK hQ hP hD hS ls hl
    by_cases h19 : j = 19
    · subst h19
      refine lv_tableIn (off := 1559) (tgt := 1603) hx hb dL_law_44 (by decide) (by decide) rfl (by decide) ?_
      exact law_c19 l hst C0 H locs hK hQ hP hD hS ls hl
    by_cases h20 : j = 20
    · subst h20
      refine lv_tableIn (off := 1614) (tgt := 1658) hx hb dL_law_44 (by decide) (by decide) rfl (by decide) ?_
      exact law_c20 l hst C0 H locs hK hQ hP hD hS ls hl
    by_cases h21 : j = 21
    · subst h21
      refine lv_tableIn (off := 1681) (tgt := 1725) hx hb dL_law_44 (by decide) (by decide) rfl (by decide) ?_
      exact law_c21 l hst C0 H locs hK hQ hP hD hS ls hl
    by_cases h22 : j = 22
    · subst h22
      refine lv_tableIn (off := 1748) (tgt := 1792) hx hb dL_law_44 (by decide) (by decide) rfl (by decide) ?_
      exact law_c22 l hst C0 H locs hK hQ hP hD hS ls hl
    by_cases h23 : j = 23
    · subst h23
      refine lv_tableIn (off := 1815) (tgt := 1859) hx hb dL_law_44 (by decide) (by decide) rfl (by decide) ?_
      exact law_c23 l hst C0 H locs hK hQ hP hD hS ls hl
    by_cases h24 : j = 24
    · subst h24
      refine lv_tableIn (off := 1882) (tgt := 1926) hx hb dL_law_44 (by decide) (by decide) rfl (by decide) ?_
      exact law_c24 l hst C0 H locs hK hQ hP hD hS ls hl
    by_cases h25 : j = 25
    · subst h25
      refine lv_tableIn (off := 1949) (tgt := 1993) hx hb dL_law_44 (by decide) (by decide) rfl (by decide) ?_
      exact law_c25 l hst C0 H locs hK hQ hP hD hS ls hl
    by_cases h26 : j = 26
    · subst h26
      refine lv_tableIn (off := 2024) (tgt := 2068) hx hb dL_law_44 (by decide) (by decide) rfl (by decide) ?_
      exact law_c26 l hst C0 H locs hK hQ hP hD hS ls hl
    by_cases h27 : j = 27
    · subst h27
      refine lv_tableIn (off := 2092) (tgt := 2136) hx hb dL_law_44 (by decide) (by decide) rfl (by decide) ?_
      exact law_c27 l hst C0 H locs hK hQ hP hD hS ls hl
    by_cases h28 : j = 28
    · subst h28
      refine lv_tableIn (off := 2147) (tgt := 2191) hx hb dL_law_44 (by decide) (by decide) rfl (by decide) ?_
      exact law_c28 l hst C0 H locs hK hQ hP hD hS ls hl
    by_cases h29 : j = 29
    · subst h29
      refine lv_tableIn (off := 2203) (tgt := 2247) hx hb dL_law_44 (by decide) (by decide) rfl (by decide) ?_
      exact law_c29 l hst C0 H locs hK hQ hP hD hS ls hl
    by_cases h30 : j = 30
    · subst h30
      refine lv_tableIn (off := 2266) (tgt := 2310) hx hb dL_law_44 (by decide) (by decide) rfl (by decide) ?_
      exact law_c30 l hst C0 H locs hK hQ hP hD hS ls hl
    by_cases h31 : j = 31
    · subst h31
      refine lv_tableIn (off := 2321) (tgt := 2365) hx hb dL_law_44 (by decide) (by decide) rfl (by decide) ?_
      exact law_c31 l hst C0 H locs hK hQ hP hD hS ls hl
    by_cases h32 : j = 32
    · subst h32
      refine lv_tableIn (off := 2377) (tgt := 2421) hx hb dL_law_44 (by decide) (by decide) rfl (by decide) ?_
      exact law_c32 l hst C0 H locs hK hQ hP hD hS ls hl
    by_cases h33 : j = 33
    · subst h33
      refine lv_tableIn (off := 2445) (tgt := 2489) hx hb dL_law_44 (by decide) (by decide) rfl (by decide) ?_
      exact law_c33 l hst C0 H locs hK hQ hP hD hS ls hl
    by_cases h34 : j = 34
    · subst h34
      refine lv_tableIn (off := 2520) (tgt := 2564) hx hb dL_law_44 (by decide) (by decide) rfl (by decide) ?_
      exact law_c34 l hst C0 H locs hK hQ hP hD hS ls hl
    by_cases h35 : j = 35
    · subst h35
      refine lv_tableIn (off := 2588) (tgt := 2632) hx hb dL_law_44 (by decide) (by decide) rfl (by decide) ?_
      exact law_c35 l hst C0 H locs hK hQ hP hD hS ls hl
    by_cases h36 : j = 36
    · subst h36
      refine lv_tableIn (off := 2670) (tgt := 2714) hx hb dL_law_44 (by decide) (by decide) rfl (by decide) ?_
      exact law_c36 l hst C0 H locs hK hQ hP hD hS ls hl
    by_cases h37 : j = 37
    · subst h37
      refine lv_tableIn (off := 2752) (tgt := 2796) hx hb dL_law_44 (by decide) (by decide) rfl (by decide) ?_
      exact law_c37 l hst C0 H locs hK hQ hP hD hS ls hl
    by_cases h38 : j = 38
    · subst h38
      refine lv_tableIn (off := 2766) (tgt := 2810) hx hb dL_law_44 (by decide) (by decide) rfl (by decide) ?_
      exact law_c38 l hst C0 H locs hK hQ hP hD hS ls hl
    by_cases h39 : j = 39
    · subst h39
      refine lv_tableIn (off := 2779) (tgt := 2823) hx hb dL_law_44 (by decide) (by decide) rfl (by decide) ?_
      exact law_c39 l hst C0 H locs hK hQ hP hD hS ls hl
    by_cases h40 : j = 40
    · subst h40
      refine lv_tableIn (off := 2793) (tgt := 2837) hx hb dL_law_44 (by decide) (by decide) rfl (by decide) ?_
      exact law_c40 l hst C0 H locs hK hQ hP hD hS ls hl
    by_cases h41 : j = 41
    · subst h41
      refine lv_tableIn (off := 2859) (tgt := 2903) hx hb dL_law_44 (by decide) (by decide) rfl (by decide) ?_
      exact law_c41 l hst C0 H locs hK hQ hP hD hS ls hl
    by_cases h42 : j = 42
    · subst h42
      refine lv_tableIn (off := 2924) (tgt := 2968) hx hb dL_law_44 (by decide) (by decide) rfl (by decide) ?_
      exact law_c42 l hst C0 H locs hK hQ hP hD hS ls hl
    refine lv_tableOut (tgt := 2981) hx hb dL_law_44 (Or.inr (by rw [nI_toInt (by omega)]; omega)) (by decide) ?_
    exact law_tail l C0 _ _ (zl_b rfl) (zl_b rfl) _ _ hS ls (lv_sub hl [5, 0] rfl)
  · have hlt : Int32.ofNat L - 5 < 0 := by
      rcases (show L = 0 ∨ L = 1 ∨ L = 2 ∨ L = 3 ∨ L = 4 by omega) with rfl | rfl | rfl | rfl | rfl <;> decide
    refine lv_icmp_gt (tgt := 2987) hx hb dL_law_34 (by decide) (fun _ => ?_) (fun h => absurd hlt h)
    refine lv_iconst (v := 1) hx hb dL_law_2987 (by decide) ?_
    refine va_forget (fun q hq => hS.2.2 q hq) ?_
    refine W.widen (k := 645861) (n := 7164442) (zl_b rfl) (zl_b rfl) ?_
    refine W.base ?_
    exact lw_ret (Drawn.sameBut.refl s.drawn lw_cs) hx hb hr hlocks dL_law_2988
