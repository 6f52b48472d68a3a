theorem zi_sub {ws : List Cond} (ps : List Nat) (h : ws = ps.filterMap (fun i => lw_tbl[i]?)) : ∀ w ∈ ws, w ∈ lw_tbl := fun w hw => by
  rw [h] at hw
  obtain ⟨i, -, hi⟩ := List.mem_filterMap.mp hw
  exact List.mem_of_getElem? hi
theorem kw_65 : Cond.initialized RJxa1e45 ∈ zG := zg_mem 65 (by decide +kernel) (by decide +kernel)
theorem kw_66 : Cond.initialized RJxc12de ∈ zG := zg_mem 66 (by decide +kernel) (by decide +kernel)
theorem kw_67 : Cond.initialized RJx4a65c ∈ zG := zg_mem 67 (by decide +kernel) (by decide +kernel)
theorem kw_84 : Cond.initialized "java/lang/IndexOutOfBoundsException" ∈ zG := zg_mem 84 (by decide +kernel) (by decide +kernel)
theorem kw_109 : Cond.instanceMethod objectInit ∈ zG := zg_mem 109 (by decide +kernel) (by decide +kernel)
theorem kw_110 : Cond.code objectInit ⟨#[0xb1]⟩ 1 none ∈ zG := zg_mem 110 (by decide +kernel) (by decide +kernel)
theorem kw_115 : Cond.code yJx4a65c_init_da8c8 cJx4a65c_init_da8c8 1 none ∈ zG := zg_mem 115 (by decide +kernel) (by decide +kernel)
theorem kw_116 : Cond.methodLink RJx4a65c 1 yJxc12de_init_da8c8 ∈ zG := zg_mem 116 (by decide +kernel) (by decide +kernel)
theorem kw_117 : Cond.instanceMethod yJxc12de_init_da8c8 ∈ zG := zg_mem 117 (by decide +kernel) (by decide +kernel)
theorem kw_118 : Cond.code yJxc12de_init_da8c8 cJxc12de_init_da8c8 1 none ∈ zG := zg_mem 118 (by decide +kernel) (by decide +kernel)
theorem kw_119 : Cond.methodLink RJxc12de 1 yJxa1e45_init_da8c8 ∈ zG := zg_mem 119 (by decide +kernel) (by decide +kernel)
theorem kw_120 : Cond.instanceMethod yJxa1e45_init_da8c8 ∈ zG := zg_mem 120 (by decide +kernel) (by decide +kernel)
theorem kw_121 : Cond.code yJxa1e45_init_da8c8 cJxa1e45_init_da8c8 1 none ∈ zG := zg_mem 121 (by decide +kernel) (by decide +kernel)
theorem kw_122 : Cond.methodLink RJxa1e45 1 objectInit ∈ zG := zg_mem 122 (by decide +kernel) (by decide +kernel)
theorem kw_123 : Cond.fieldLink RJx4a65c 39 "java/util/ArrayList" "DEFAULTCAPACITY_EMPTY_ELEMENTDATA" "[Ljava/lang/Object;" ∈ zG := zg_mem 123 (by decide +kernel) (by decide +kernel)
theorem kw_125 : Cond.fieldLink RJx4a65c 9 "java/util/ArrayList" "elementData" "[Ljava/lang/Object;" ∈ zG := zg_mem 125 (by decide +kernel) (by decide +kernel)
theorem kw_128 : Cond.fieldLink RJx4a65c 48 "java/util/ArrayList" "size" "I" ∈ zG := zg_mem 128 (by decide +kernel) (by decide +kernel)
theorem kw_129 : Cond.fieldLink RJxc12de 7 "java/util/AbstractList" "modCount" "I" ∈ zG := zg_mem 129 (by decide +kernel) (by decide +kernel)
theorem kw_151 : Cond.code yX3_init cX3_init 1 none ∈ zG := zg_mem 151 (by decide +kernel) (by decide +kernel)
theorem kw_152 : Cond.methodLink RX3 1 objectInit ∈ zG := zg_mem 152 (by decide +kernel) (by decide +kernel)
theorem kw_240 : Cond.fieldLink RX4 10 "StatementCycle" "accounts" "Ljava/util/ArrayList;" ∈ zG := zg_mem 240 (by decide +kernel) (by decide +kernel)
theorem kw_257 : Cond.methodLink RX4 32 yJx4a65c_size_8abf5 ∈ zG := zg_mem 257 (by decide +kernel) (by decide +kernel)
theorem kw_258 : Cond.instanceMethod yJx4a65c_size_8abf5 ∈ zG := zg_mem 258 (by decide +kernel) (by decide +kernel)
theorem kw_259 : Cond.selects RJx4a65c yJx4a65c_size_8abf5 yJx4a65c_size_8abf5 ∈ zG := zg_mem 259 (by decide +kernel) (by decide +kernel)
theorem kw_260 : Cond.code yJx4a65c_size_8abf5 cJx4a65c_size_8abf5 1 (some .int) ∈ zG := zg_mem 260 (by decide +kernel) (by decide +kernel)
theorem kw_671 : Cond.code yX4_accountAt cX4_accountAt 2 (some (.object "StatementCycle$Account")) ∈ zG := zg_mem 671 (by decide +kernel) (by decide +kernel)
theorem kw_672 : Cond.classLink RX4 234 "java/lang/IndexOutOfBoundsException" ∈ zG := zg_mem 672 (by decide +kernel) (by decide +kernel)
theorem iJx4a65c : ∀ w ∈ u_ws RJx4a65c TJx4a65c 3, w ∈ zG := fun w h => List.mem_filter.mpr ⟨zi_sub [137, 133, 135] (by decide +kernel) w h, List.all_eq_true.mp (show (u_ws RJx4a65c TJx4a65c 3).all goodWord = true by decide +kernel) w h⟩
theorem iX4 : ∀ w ∈ u_ws RX4 TX4 4, w ∈ zG := fun w h => List.mem_filter.mpr ⟨zi_sub [244, 246, 248, 250] (by decide +kernel) w h, List.all_eq_true.mp (show (u_ws RX4 TX4 4).all goodWord = true by decide +kernel) w h⟩
set_option maxRecDepth 100000 in
theorem za_X4_236 : ∀ w ∈ vx_at0 RX4 236 "java/lang/IndexOutOfBoundsException" ["java/lang/RuntimeException", "java/lang/Exception"], (w ∈ zG ∨ w ∈ zK "java/lang/IndexOutOfBoundsException") ∧ vx_ot w = true := by
  have h1 : (vx_at0 RX4 236 "java/lang/IndexOutOfBoundsException" ["java/lang/RuntimeException", "java/lang/Exception"]).all (fun w => (decide (w ∈ lw_tbl) && goodWord w || decide (w ∈ zK "java/lang/IndexOutOfBoundsException")) && vx_ot w) = true := by decide +kernel
  intro w hw
  have h2 := List.all_eq_true.mp h1 w hw
  simp only [Bool.and_eq_true, Bool.or_eq_true, decide_eq_true_eq] at h2
  exact ⟨h2.1.imp (fun h => List.mem_filter.mpr h) id, h2.2⟩
abbrev ws_Jxa1e45_init_da8c8 : List Cond := Cond.code yJxa1e45_init_da8c8 cJxa1e45_init_da8c8 1 none :: zG
abbrev ws_Jxc12de_init_da8c8 : List Cond := Cond.code yJxc12de_init_da8c8 cJxc12de_init_da8c8 1 none :: zG
abbrev ws_Jx4a65c_init_da8c8 : List Cond := Cond.code yJx4a65c_init_da8c8 cJx4a65c_init_da8c8 1 none :: zG
abbrev ws_Jx4a65c_size_8abf5 : List Cond := Cond.code yJx4a65c_size_8abf5 cJx4a65c_size_8abf5 1 (some .int) :: zG
abbrev ws_X3_init : List Cond := Cond.code yX3_init cX3_init 1 none :: zG
abbrev ws_X4_accountAt : List Cond := Cond.code yX4_accountAt cX4_accountAt 2 (some (.object "StatementCycle$Account")) :: zG
