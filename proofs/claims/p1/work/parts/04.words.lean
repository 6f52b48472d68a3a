theorem zi_sub {ws : List Cond} (ps : List Nat) (h : ws = ps.filterMap (fun i => lw_tbl[i]?)) : ∀ w ∈ ws, w ∈ lw_tbl := fun w hw => by
  rw [h] at hw
  obtain ⟨i, -, hi⟩ := List.mem_filterMap.mp hw
  exact List.mem_of_getElem? hi
theorem kw_27 : Cond.selects RJx4a65c yJx4a65c_add_72be8 yJx4a65c_add_72be8 ∈ zG := zg_mem 27 (by decide +kernel) (by decide +kernel)
theorem kw_28 : Cond.selects RJx4a65c yJx4a65c_grow_d5877 yJx4a65c_grow_d5877 ∈ zG := zg_mem 28 (by decide +kernel) (by decide +kernel)
theorem kw_29 : Cond.selects RJx4a65c yJx4a65c_grow_92f84 yJx4a65c_grow_92f84 ∈ zG := zg_mem 29 (by decide +kernel) (by decide +kernel)
theorem kw_30 : Cond.selects RX4 yX4_accountAt yX4_accountAt ∈ zG := zg_mem 30 (by decide +kernel) (by decide +kernel)
theorem kw_40 : Cond.selects RX8 yX8_no yX8_no ∈ zG := zg_mem 40 (by decide +kernel) (by decide +kernel)
theorem kw_41 : Cond.selects RX8 yX8_isAccount yX8_isAccount ∈ zG := zg_mem 41 (by decide +kernel) (by decide +kernel)
theorem kw_58 : Cond.selects RX8 yX8_isEvent yX8_isEvent ∈ zG := zg_mem 58 (by decide +kernel) (by decide +kernel)
theorem kw_64 : Cond.initialized RX4 ∈ zG := zg_mem 64 (by decide +kernel) (by decide +kernel)
theorem kw_65 : Cond.initialized RJxa1e45 ∈ zG := zg_mem 65 (by decide +kernel) (by decide +kernel)
theorem kw_66 : Cond.initialized RJxc12de ∈ zG := zg_mem 66 (by decide +kernel) (by decide +kernel)
theorem kw_67 : Cond.initialized RJx4a65c ∈ zG := zg_mem 67 (by decide +kernel) (by decide +kernel)
theorem kw_68 : Cond.initialized RX1 ∈ zG := zg_mem 68 (by decide +kernel) (by decide +kernel)
theorem kw_69 : Cond.initialized RX3 ∈ zG := zg_mem 69 (by decide +kernel) (by decide +kernel)
theorem kw_70 : Cond.initialized RX8 ∈ zG := zg_mem 70 (by decide +kernel) (by decide +kernel)
theorem kw_74 : Cond.initialized "java/lang/IllegalArgumentException" ∈ zG := zg_mem 74 (by decide +kernel) (by decide +kernel)
theorem kw_76 : Cond.initialized RX0 ∈ zG := zg_mem 76 (by decide +kernel) (by decide +kernel)
theorem kw_78 : Cond.initialized RJ9 ∈ zG := zg_mem 78 (by decide +kernel) (by decide +kernel)
theorem kw_81 : Cond.initialized RX5 ∈ zG := zg_mem 81 (by decide +kernel) (by decide +kernel)
theorem kw_82 : Cond.initialized RJ15 ∈ zG := zg_mem 82 (by decide +kernel) (by decide +kernel)
theorem kw_83 : Cond.initialized RJ3 ∈ zG := zg_mem 83 (by decide +kernel) (by decide +kernel)
theorem kw_84 : Cond.initialized "java/lang/IndexOutOfBoundsException" ∈ zG := zg_mem 84 (by decide +kernel) (by decide +kernel)
theorem kw_98 : Cond.initialized RJx35411 ∈ zG := zg_mem 98 (by decide +kernel) (by decide +kernel)
theorem kw_102 : Cond.initialized "java/lang/ArithmeticException" ∈ zG := zg_mem 102 (by decide +kernel) (by decide +kernel)
theorem kw_107 : Cond.code yX4_init cX4_init 1 none ∈ zG := zg_mem 107 (by decide +kernel) (by decide +kernel)
theorem kw_108 : Cond.methodLink RX4 1 objectInit ∈ zG := zg_mem 108 (by decide +kernel) (by decide +kernel)
theorem kw_109 : Cond.instanceMethod objectInit ∈ zG := zg_mem 109 (by decide +kernel) (by decide +kernel)
theorem kw_110 : Cond.code objectInit ⟨#[0xb1]⟩ 1 none ∈ zG := zg_mem 110 (by decide +kernel) (by decide +kernel)
theorem kw_111 : Cond.classLink RX4 7 RJx4a65c ∈ zG := zg_mem 111 (by decide +kernel) (by decide +kernel)
theorem kw_112 : Cond.instantiable RJx4a65c 3 ∈ zG := zg_mem 112 (by decide +kernel) (by decide +kernel)
theorem kw_113 : Cond.methodLink RX4 9 yJx4a65c_init_da8c8 ∈ zG := zg_mem 113 (by decide +kernel) (by decide +kernel)
theorem kw_114 : Cond.instanceMethod yJx4a65c_init_da8c8 ∈ zG := zg_mem 114 (by decide +kernel) (by decide +kernel)
theorem kw_115 : Cond.code yJx4a65c_init_da8c8 cJx4a65c_init_da8c8 1 none ∈ zG := zg_mem 115 (by decide +kernel) (by decide +kernel)
theorem kw_116 : Cond.methodLink RJx4a65c 1 yJxc12de_init_da8c8 ∈ zG := zg_mem 116 (by decide +kernel) (by decide +kernel)
theorem kw_117 : Cond.instanceMethod yJxc12de_init_da8c8 ∈ zG := zg_mem 117 (by decide +kernel) (by decide +kernel)
theorem kw_118 : Cond.code yJxc12de_init_da8c8 cJxc12de_init_da8c8 1 none ∈ zG := zg_mem 118 (by decide +kernel) (by decide +kernel)
theorem kw_119 : Cond.methodLink RJxc12de 1 yJxa1e45_init_da8c8 ∈ zG := zg_mem 119 (by decide +kernel) (by decide +kernel)
theorem kw_120 : Cond.instanceMethod yJxa1e45_init_da8c8 ∈ zG := zg_mem 120 (by decide +kernel) (by decide +kernel)
theorem kw_121 : Cond.code yJxa1e45_init_da8c8 cJxa1e45_init_da8c8 1 none ∈ zG := zg_mem 121 (by decide +kernel) (by decide +kernel)
theorem kw_122 : Cond.methodLink RJxa1e45 1 objectInit ∈ zG := zg_mem 122 (by decide +kernel) (by decide +kernel)
theorem kw_123 : Cond.fieldLink RJx4a65c 39 "java/util/ArrayList" "DEFAULTCAPACITY_EMPTY_ELEMENTDATA" "[Ljava/lang/Object;" ∈ zG := zg_mem 123 (by decide +kernel) (by decide +kernel)
theorem kw_125 : Cond.fieldLink RJx4a65c 9 "java/util/ArrayList" "elementData" "[Ljava/lang/Object;" ∈ zG := zg_mem 125 (by decide +kernel) (by decide +kernel)
theorem kw_128 : Cond.fieldLink RJx4a65c 48 "java/util/ArrayList" "size" "I" ∈ zG := zg_mem 128 (by decide +kernel) (by decide +kernel)
theorem kw_129 : Cond.fieldLink RJxc12de 7 "java/util/AbstractList" "modCount" "I" ∈ zG := zg_mem 129 (by decide +kernel) (by decide +kernel)
theorem kw_130 : Cond.fieldLink RJx35411 17 "java/util/ArrayList" "modCount" "I" ∈ zG := zg_mem 130 (by decide +kernel) (by decide +kernel)
theorem kw_131 : Cond.sameField "java/util/ArrayList" "java/util/AbstractList" "modCount" "I" ∈ zG := zg_mem 131 (by decide +kernel) (by decide +kernel)
theorem kw_132 : Cond.fieldLink RJx4a65c 63 "java/util/ArrayList" "modCount" "I" ∈ zG := zg_mem 132 (by decide +kernel) (by decide +kernel)
theorem kw_140 : Cond.classLink RX4 20 RX1 ∈ zG := zg_mem 140 (by decide +kernel) (by decide +kernel)
theorem kw_141 : Cond.instantiable RX1 17 ∈ zG := zg_mem 141 (by decide +kernel) (by decide +kernel)
theorem kw_143 : Cond.instanceMethod yX1_init ∈ zG := zg_mem 143 (by decide +kernel) (by decide +kernel)
theorem kw_144 : Cond.code yX1_init cX1_init 2 none ∈ zG := zg_mem 144 (by decide +kernel) (by decide +kernel)
theorem kw_145 : Cond.methodLink RX1 3 objectInit ∈ zG := zg_mem 145 (by decide +kernel) (by decide +kernel)
theorem kw_146 : Cond.classLink RX1 25 RX3 ∈ zG := zg_mem 146 (by decide +kernel) (by decide +kernel)
theorem kw_148 : Cond.instantiable RX3 5 ∈ zG := zg_mem 148 (by decide +kernel) (by decide +kernel)
theorem kw_150 : Cond.instanceMethod yX3_init ∈ zG := zg_mem 150 (by decide +kernel) (by decide +kernel)
theorem kw_151 : Cond.code yX3_init cX3_init 1 none ∈ zG := zg_mem 151 (by decide +kernel) (by decide +kernel)
theorem kw_152 : Cond.methodLink RX3 1 objectInit ∈ zG := zg_mem 152 (by decide +kernel) (by decide +kernel)
theorem kw_179 : Cond.arrayClass .int ∈ zG := zg_mem 179 (by decide +kernel) (by decide +kernel)
theorem kw_180 : Cond.arrayClass .long ∈ zG := zg_mem 180 (by decide +kernel) (by decide +kernel)
theorem kw_181 : Cond.fieldLink RX1 9 "StatementCycle$Books" "owed" "[J" ∈ zG := zg_mem 181 (by decide +kernel) (by decide +kernel)
theorem kw_183 : Cond.fieldLink RX1 15 "StatementCycle$Books" "accrued" "[J" ∈ zG := zg_mem 183 (by decide +kernel) (by decide +kernel)
theorem kw_184 : Cond.fieldLink RX1 18 "StatementCycle$Books" "rates" "[I" ∈ zG := zg_mem 184 (by decide +kernel) (by decide +kernel)
theorem kw_185 : Cond.fieldLink RX1 22 "StatementCycle$Books" "ratesOfDay" "[I" ∈ zG := zg_mem 185 (by decide +kernel) (by decide +kernel)
theorem kw_186 : Cond.fieldLink RX1 27 "StatementCycle$Books" "statements" "[LStatementCycle$Statement;" ∈ zG := zg_mem 186 (by decide +kernel) (by decide +kernel)
theorem kw_240 : Cond.fieldLink RX4 10 "StatementCycle" "accounts" "Ljava/util/ArrayList;" ∈ zG := zg_mem 240 (by decide +kernel) (by decide +kernel)
theorem kw_241 : Cond.fieldLink RX4 16 "StatementCycle" "worths" "[I" ∈ zG := zg_mem 241 (by decide +kernel) (by decide +kernel)
theorem kw_242 : Cond.fieldLink RX4 23 "StatementCycle" "recomputed" "LStatementCycle$Books;" ∈ zG := zg_mem 242 (by decide +kernel) (by decide +kernel)
theorem kw_243 : Cond.fieldLink RX4 41 "StatementCycle" "day" "I" ∈ zG := zg_mem 243 (by decide +kernel) (by decide +kernel)
theorem kw_256 : Cond.code yX4_collected cX4_collected 4 (some .long) ∈ zG := zg_mem 256 (by decide +kernel) (by decide +kernel)
theorem kw_257 : Cond.methodLink RX4 32 yJx4a65c_size_8abf5 ∈ zG := zg_mem 257 (by decide +kernel) (by decide +kernel)
theorem kw_258 : Cond.instanceMethod yJx4a65c_size_8abf5 ∈ zG := zg_mem 258 (by decide +kernel) (by decide +kernel)
theorem kw_259 : Cond.selects RJx4a65c yJx4a65c_size_8abf5 yJx4a65c_size_8abf5 ∈ zG := zg_mem 259 (by decide +kernel) (by decide +kernel)
theorem kw_260 : Cond.code yJx4a65c_size_8abf5 cJx4a65c_size_8abf5 1 (some .int) ∈ zG := zg_mem 260 (by decide +kernel) (by decide +kernel)
theorem kw_262 : Cond.instanceMethod yJx4a65c_get_915e3 ∈ zG := zg_mem 262 (by decide +kernel) (by decide +kernel)
theorem kw_264 : Cond.code yJx4a65c_get_915e3 cJx4a65c_get_915e3 2 (some (.object "java/lang/Object")) ∈ zG := zg_mem 264 (by decide +kernel) (by decide +kernel)
theorem kw_265 : Cond.methodLink RJx4a65c 118 yJ15_checkIndex_7cf53 ∈ zG := zg_mem 265 (by decide +kernel) (by decide +kernel)
theorem kw_266 : Cond.static yJ15_checkIndex_7cf53 ∈ zG := zg_mem 266 (by decide +kernel) (by decide +kernel)
theorem kw_267 : Cond.code yJ15_checkIndex_7cf53 cJ15_checkIndex_7cf53 2 (some .int) ∈ zG := zg_mem 267 (by decide +kernel) (by decide +kernel)
theorem kw_268 : Cond.methodLink RJ15 105 yJ3_checkIndex_8e157 ∈ zG := zg_mem 268 (by decide +kernel) (by decide +kernel)
theorem kw_269 : Cond.static yJ3_checkIndex_8e157 ∈ zG := zg_mem 269 (by decide +kernel) (by decide +kernel)
theorem kw_270 : Cond.code yJ3_checkIndex_8e157 cJ3_checkIndex_8e157 3 (some .int) ∈ zG := zg_mem 270 (by decide +kernel) (by decide +kernel)
theorem kw_271 : Cond.methodLink RJx4a65c 123 yJx4a65c_elementData_915e3 ∈ zG := zg_mem 271 (by decide +kernel) (by decide +kernel)
theorem kw_272 : Cond.instanceMethod yJx4a65c_elementData_915e3 ∈ zG := zg_mem 272 (by decide +kernel) (by decide +kernel)
theorem kw_273 : Cond.selects RJx4a65c yJx4a65c_elementData_915e3 yJx4a65c_elementData_915e3 ∈ zG := zg_mem 273 (by decide +kernel) (by decide +kernel)
theorem kw_274 : Cond.code yJx4a65c_elementData_915e3 cJx4a65c_elementData_915e3 2 (some (.object "java/lang/Object")) ∈ zG := zg_mem 274 (by decide +kernel) (by decide +kernel)
theorem kw_275 : Cond.classLink RX4 39 RX0 ∈ zG := zg_mem 275 (by decide +kernel) (by decide +kernel)
theorem kw_279 : Cond.instantiable RX0 9 ∈ zG := zg_mem 279 (by decide +kernel) (by decide +kernel)
theorem kw_287 : Cond.code yX4_today cX4_today 1 (some .int) ∈ zG := zg_mem 287 (by decide +kernel) (by decide +kernel)
theorem kw_291 : Cond.code yX4_checksum cX4_checksum 7 (some .long) ∈ zG := zg_mem 291 (by decide +kernel) (by decide +kernel)
theorem kw_292 : Cond.constantLong RX4 212 (7) ∈ zG := zg_mem 292 (by decide +kernel) (by decide +kernel)
theorem kw_388 : Cond.static yJ9_max_7cf53 ∈ zG := zg_mem 388 (by decide +kernel) (by decide +kernel)
theorem kw_389 : Cond.code Lib.Math.max.name Lib.Math.max.code 2 (some .int) ∈ zG := zg_mem 389 (by decide +kernel) (by decide +kernel)
theorem kw_400 : Cond.constantLong RX4 214 (31) ∈ zG := zg_mem 400 (by decide +kernel) (by decide +kernel)
theorem kw_408 : Cond.code yX4_isSound cX4_isSound 4 (some .boolean) ∈ zG := zg_mem 408 (by decide +kernel) (by decide +kernel)
theorem kw_424 : Cond.codeWith yL_open cL_open 4 (some .int) [(0, 9, 12, 13), (0, 9, 15, 15)] ∈ zG := zg_mem 424 (by decide +kernel) (by decide +kernel)
theorem kw_425 : Cond.classLink RL 13 "java/lang/IllegalArgumentException" ∈ zG := zg_mem 425 (by decide +kernel) (by decide +kernel)
theorem kw_427 : Cond.methodLink RL 7 yX4_open ∈ zG := zg_mem 427 (by decide +kernel) (by decide +kernel)
theorem kw_428 : Cond.instanceMethod yX4_open ∈ zG := zg_mem 428 (by decide +kernel) (by decide +kernel)
theorem kw_429 : Cond.selects RX4 yX4_open yX4_open ∈ zG := zg_mem 429 (by decide +kernel) (by decide +kernel)
theorem kw_430 : Cond.code yX4_open cX4_open 2 (some .int) ∈ zG := zg_mem 430 (by decide +kernel) (by decide +kernel)
theorem kw_431 : Cond.constant RX4 27 (9999999) ∈ zG := zg_mem 431 (by decide +kernel) (by decide +kernel)
theorem kw_432 : Cond.methodLink RX4 28 yX4_checkRange ∈ zG := zg_mem 432 (by decide +kernel) (by decide +kernel)
theorem kw_433 : Cond.static yX4_checkRange ∈ zG := zg_mem 433 (by decide +kernel) (by decide +kernel)
theorem kw_434 : Cond.code yX4_checkRange cX4_checkRange 3 none ∈ zG := zg_mem 434 (by decide +kernel) (by decide +kernel)
theorem kw_435 : Cond.classLink RX4 255 "java/lang/IllegalArgumentException" ∈ zG := zg_mem 435 (by decide +kernel) (by decide +kernel)
theorem kw_519 : Cond.instanceMethod yX0_init ∈ zG := zg_mem 519 (by decide +kernel) (by decide +kernel)
theorem kw_520 : Cond.code yX0_init cX0_init 3 none ∈ zG := zg_mem 520 (by decide +kernel) (by decide +kernel)
theorem kw_521 : Cond.methodLink RX0 3 objectInit ∈ zG := zg_mem 521 (by decide +kernel) (by decide +kernel)
theorem kw_522 : Cond.classLink RX0 18 RJx4a65c ∈ zG := zg_mem 522 (by decide +kernel) (by decide +kernel)
theorem kw_523 : Cond.methodLink RX0 20 yJx4a65c_init_da8c8 ∈ zG := zg_mem 523 (by decide +kernel) (by decide +kernel)
theorem kw_524 : Cond.classLink RX0 35 RX1 ∈ zG := zg_mem 524 (by decide +kernel) (by decide +kernel)
theorem kw_526 : Cond.fieldLink RX0 21 "StatementCycle$Account" "events" "Ljava/util/ArrayList;" ∈ zG := zg_mem 526 (by decide +kernel) (by decide +kernel)
theorem kw_528 : Cond.fieldLink RX0 25 "StatementCycle$Account" "byDay" "Ljava/util/ArrayList;" ∈ zG := zg_mem 528 (by decide +kernel) (by decide +kernel)
theorem kw_530 : Cond.fieldLink RX0 28 "StatementCycle$Account" "disputed" "Ljava/util/ArrayList;" ∈ zG := zg_mem 530 (by decide +kernel) (by decide +kernel)
theorem kw_532 : Cond.fieldLink RX0 15 "StatementCycle$Account" "firstCycle" "I" ∈ zG := zg_mem 532 (by decide +kernel) (by decide +kernel)
theorem kw_534 : Cond.fieldLink RX0 31 "StatementCycle$Account" "balancesTold" "[J" ∈ zG := zg_mem 534 (by decide +kernel) (by decide +kernel)
theorem kw_536 : Cond.fieldLink RX0 38 "StatementCycle$Account" "books" "LStatementCycle$Books;" ∈ zG := zg_mem 536 (by decide +kernel) (by decide +kernel)
theorem kw_538 : Cond.fieldLink RX0 9 "StatementCycle$Account" "limit" "I" ∈ zG := zg_mem 538 (by decide +kernel) (by decide +kernel)
theorem kw_541 : Cond.fieldLink RX0 42 "StatementCycle$Account" "isStale" "Z" ∈ zG := zg_mem 541 (by decide +kernel) (by decide +kernel)
theorem kw_562 : Cond.methodLink RX4 48 yJx4a65c_add_9ea2d ∈ zG := zg_mem 562 (by decide +kernel) (by decide +kernel)
theorem kw_563 : Cond.instanceMethod yJx4a65c_add_9ea2d ∈ zG := zg_mem 563 (by decide +kernel) (by decide +kernel)
theorem kw_564 : Cond.selects RJx4a65c yJx4a65c_add_9ea2d yJx4a65c_add_9ea2d ∈ zG := zg_mem 564 (by decide +kernel) (by decide +kernel)
theorem kw_565 : Cond.code yJx4a65c_add_9ea2d cJx4a65c_add_9ea2d 2 (some .boolean) ∈ zG := zg_mem 565 (by decide +kernel) (by decide +kernel)
theorem kw_566 : Cond.methodLink RJx4a65c 131 yJx4a65c_add_72be8 ∈ zG := zg_mem 566 (by decide +kernel) (by decide +kernel)
theorem kw_568 : Cond.instanceMethod yJx4a65c_add_72be8 ∈ zG := zg_mem 568 (by decide +kernel) (by decide +kernel)
theorem kw_569 : Cond.code yJx4a65c_add_72be8 cJx4a65c_add_72be8 4 none ∈ zG := zg_mem 569 (by decide +kernel) (by decide +kernel)
theorem kw_570 : Cond.methodLink RJx4a65c 129 yJx4a65c_grow_d5877 ∈ zG := zg_mem 570 (by decide +kernel) (by decide +kernel)
theorem kw_572 : Cond.instanceMethod yJx4a65c_grow_d5877 ∈ zG := zg_mem 572 (by decide +kernel) (by decide +kernel)
theorem kw_573 : Cond.code yJx4a65c_grow_d5877 cJx4a65c_grow_d5877 1 (some (.array (.object "java/lang/Object"))) ∈ zG := zg_mem 573 (by decide +kernel) (by decide +kernel)
theorem kw_574 : Cond.methodLink RJx4a65c 69 yJx4a65c_grow_92f84 ∈ zG := zg_mem 574 (by decide +kernel) (by decide +kernel)
theorem kw_576 : Cond.instanceMethod yJx4a65c_grow_92f84 ∈ zG := zg_mem 576 (by decide +kernel) (by decide +kernel)
theorem kw_577 : Cond.code yJx4a65c_grow_92f84 cJx4a65c_grow_92f84 4 (some (.array (.object "java/lang/Object"))) ∈ zG := zg_mem 577 (by decide +kernel) (by decide +kernel)
theorem kw_626 : Cond.methodLink RJx4a65c 79 yJ9_max_7cf53 ∈ zG := zg_mem 626 (by decide +kernel) (by decide +kernel)
theorem kw_627 : Cond.classLink RJx4a65c 7 "java/lang/Object" ∈ zG := zg_mem 627 (by decide +kernel) (by decide +kernel)
theorem kw_630 : Cond.codeWith yL_setLimit cL_setLimit 5 (some .int) [(0, 10, 13, 21), (0, 10, 17, 13)] ∈ zG := zg_mem 630 (by decide +kernel) (by decide +kernel)
theorem kw_631 : Cond.classLink RL 21 "java/lang/IndexOutOfBoundsException" ∈ zG := zg_mem 631 (by decide +kernel) (by decide +kernel)
theorem kw_664 : Cond.methodLink RL 17 yX4_setLimit ∈ zG := zg_mem 664 (by decide +kernel) (by decide +kernel)
theorem kw_665 : Cond.instanceMethod yX4_setLimit ∈ zG := zg_mem 665 (by decide +kernel) (by decide +kernel)
theorem kw_666 : Cond.selects RX4 yX4_setLimit yX4_setLimit ∈ zG := zg_mem 666 (by decide +kernel) (by decide +kernel)
theorem kw_667 : Cond.code yX4_setLimit cX4_setLimit 5 (some .int) ∈ zG := zg_mem 667 (by decide +kernel) (by decide +kernel)
theorem kw_668 : Cond.methodLink RX4 52 yX4_accountAt ∈ zG := zg_mem 668 (by decide +kernel) (by decide +kernel)
theorem kw_670 : Cond.instanceMethod yX4_accountAt ∈ zG := zg_mem 670 (by decide +kernel) (by decide +kernel)
theorem kw_671 : Cond.code yX4_accountAt cX4_accountAt 2 (some (.object "StatementCycle$Account")) ∈ zG := zg_mem 671 (by decide +kernel) (by decide +kernel)
theorem kw_672 : Cond.classLink RX4 234 "java/lang/IndexOutOfBoundsException" ∈ zG := zg_mem 672 (by decide +kernel) (by decide +kernel)
theorem kw_689 : Cond.codeWith yL_block cL_block 5 (some .int) [(0, 17, 20, 21)] ∈ zG := zg_mem 689 (by decide +kernel) (by decide +kernel)
theorem kw_690 : Cond.methodLink RL 23 yX4_block ∈ zG := zg_mem 690 (by decide +kernel) (by decide +kernel)
theorem kw_691 : Cond.instanceMethod yX4_block ∈ zG := zg_mem 691 (by decide +kernel) (by decide +kernel)
theorem kw_692 : Cond.selects RX4 yX4_block yX4_block ∈ zG := zg_mem 692 (by decide +kernel) (by decide +kernel)
theorem kw_693 : Cond.code yX4_block cX4_block 5 (some .boolean) ∈ zG := zg_mem 693 (by decide +kernel) (by decide +kernel)
theorem kw_696 : Cond.codeWith yL_setRate cL_setRate 6 (some .int) [(0, 12, 15, 21), (0, 12, 19, 13), (0, 12, 23, 15)] ∈ zG := zg_mem 696 (by decide +kernel) (by decide +kernel)
theorem kw_697 : Cond.methodLink RL 27 yX4_setRate ∈ zG := zg_mem 697 (by decide +kernel) (by decide +kernel)
theorem kw_698 : Cond.instanceMethod yX4_setRate ∈ zG := zg_mem 698 (by decide +kernel) (by decide +kernel)
theorem kw_699 : Cond.selects RX4 yX4_setRate yX4_setRate ∈ zG := zg_mem 699 (by decide +kernel) (by decide +kernel)
theorem kw_700 : Cond.code yX4_setRate cX4_setRate 7 (some .int) ∈ zG := zg_mem 700 (by decide +kernel) (by decide +kernel)
theorem kw_1008 : Cond.codeWith yL_promote cL_promote 6 (some .int) [(0, 12, 15, 21), (0, 12, 19, 13), (0, 12, 23, 15)] ∈ zG := zg_mem 1008 (by decide +kernel) (by decide +kernel)
theorem kw_1009 : Cond.methodLink RL 31 yX4_promote ∈ zG := zg_mem 1009 (by decide +kernel) (by decide +kernel)
theorem kw_1010 : Cond.instanceMethod yX4_promote ∈ zG := zg_mem 1010 (by decide +kernel) (by decide +kernel)
theorem kw_1011 : Cond.selects RX4 yX4_promote yX4_promote ∈ zG := zg_mem 1011 (by decide +kernel) (by decide +kernel)
theorem kw_1012 : Cond.code yX4_promote cX4_promote 6 (some .int) ∈ zG := zg_mem 1012 (by decide +kernel) (by decide +kernel)
theorem kw_1015 : Cond.codeWith yL_setCurrency cL_setCurrency 5 (some .int) [(0, 10, 13, 13)] ∈ zG := zg_mem 1015 (by decide +kernel) (by decide +kernel)
theorem kw_1016 : Cond.methodLink RL 35 yX4_setCurrency ∈ zG := zg_mem 1016 (by decide +kernel) (by decide +kernel)
theorem kw_1017 : Cond.instanceMethod yX4_setCurrency ∈ zG := zg_mem 1017 (by decide +kernel) (by decide +kernel)
theorem kw_1018 : Cond.selects RX4 yX4_setCurrency yX4_setCurrency ∈ zG := zg_mem 1018 (by decide +kernel) (by decide +kernel)
theorem kw_1019 : Cond.code yX4_setCurrency cX4_setCurrency 4 (some .int) ∈ zG := zg_mem 1019 (by decide +kernel) (by decide +kernel)
theorem kw_1020 : Cond.constant RX4 86 (99999) ∈ zG := zg_mem 1020 (by decide +kernel) (by decide +kernel)
theorem kw_1023 : Cond.codeWith yL_buy cL_buy 6 (some .int) [(0, 12, 15, 21), (0, 12, 19, 13), (0, 12, 23, 41), (0, 12, 27, 15)] ∈ zG := zg_mem 1023 (by decide +kernel) (by decide +kernel)
theorem kw_1025 : Cond.methodLink RL 38 yX4_buy ∈ zG := zg_mem 1025 (by decide +kernel) (by decide +kernel)
theorem kw_1026 : Cond.instanceMethod yX4_buy ∈ zG := zg_mem 1026 (by decide +kernel) (by decide +kernel)
theorem kw_1027 : Cond.selects RX4 yX4_buy yX4_buy ∈ zG := zg_mem 1027 (by decide +kernel) (by decide +kernel)
theorem kw_1028 : Cond.code yX4_buy cX4_buy 6 (some .int) ∈ zG := zg_mem 1028 (by decide +kernel) (by decide +kernel)
theorem kw_1052 : Cond.codeWith yL_buyOn cL_buyOn 7 (some .int) [(0, 14, 17, 21), (0, 14, 21, 13), (0, 14, 25, 15)] ∈ zG := zg_mem 1052 (by decide +kernel) (by decide +kernel)
theorem kw_1053 : Cond.methodLink RL 43 yX4_buyOn ∈ zG := zg_mem 1053 (by decide +kernel) (by decide +kernel)
theorem kw_1054 : Cond.instanceMethod yX4_buyOn ∈ zG := zg_mem 1054 (by decide +kernel) (by decide +kernel)
theorem kw_1055 : Cond.selects RX4 yX4_buyOn yX4_buyOn ∈ zG := zg_mem 1055 (by decide +kernel) (by decide +kernel)
theorem kw_1056 : Cond.code yX4_buyOn cX4_buyOn 7 (some .int) ∈ zG := zg_mem 1056 (by decide +kernel) (by decide +kernel)
theorem kw_1059 : Cond.codeWith yL_abroad cL_abroad 6 (some .int) [(0, 12, 15, 21), (0, 12, 19, 13), (0, 12, 23, 41), (0, 12, 27, 15)] ∈ zG := zg_mem 1059 (by decide +kernel) (by decide +kernel)
theorem kw_1060 : Cond.methodLink RL 47 yX4_abroad ∈ zG := zg_mem 1060 (by decide +kernel) (by decide +kernel)
theorem kw_1061 : Cond.instanceMethod yX4_abroad ∈ zG := zg_mem 1061 (by decide +kernel) (by decide +kernel)
theorem kw_1062 : Cond.selects RX4 yX4_abroad yX4_abroad ∈ zG := zg_mem 1062 (by decide +kernel) (by decide +kernel)
theorem kw_1063 : Cond.code yX4_abroad cX4_abroad 7 (some .int) ∈ zG := zg_mem 1063 (by decide +kernel) (by decide +kernel)
theorem kw_1066 : Cond.codeWith yL_pay cL_pay 5 (some .int) [(0, 10, 13, 21), (0, 10, 17, 13), (0, 10, 21, 15)] ∈ zG := zg_mem 1066 (by decide +kernel) (by decide +kernel)
theorem kw_1067 : Cond.methodLink RL 50 yX4_pay ∈ zG := zg_mem 1067 (by decide +kernel) (by decide +kernel)
theorem kw_1068 : Cond.instanceMethod yX4_pay ∈ zG := zg_mem 1068 (by decide +kernel) (by decide +kernel)
theorem kw_1069 : Cond.selects RX4 yX4_pay yX4_pay ∈ zG := zg_mem 1069 (by decide +kernel) (by decide +kernel)
theorem kw_1070 : Cond.code yX4_pay cX4_pay 4 (some .int) ∈ zG := zg_mem 1070 (by decide +kernel) (by decide +kernel)
theorem kw_1073 : Cond.codeWith yL_returns cL_returns 5 (some .int) [(0, 10, 13, 21), (0, 10, 17, 41), (0, 10, 21, 15)] ∈ zG := zg_mem 1073 (by decide +kernel) (by decide +kernel)
theorem kw_1074 : Cond.methodLink RL 53 yX4_returns ∈ zG := zg_mem 1074 (by decide +kernel) (by decide +kernel)
theorem kw_1075 : Cond.instanceMethod yX4_returns ∈ zG := zg_mem 1075 (by decide +kernel) (by decide +kernel)
theorem kw_1076 : Cond.selects RX4 yX4_returns yX4_returns ∈ zG := zg_mem 1076 (by decide +kernel) (by decide +kernel)
theorem kw_1077 : Cond.code yX4_returns cX4_returns 5 (some .int) ∈ zG := zg_mem 1077 (by decide +kernel) (by decide +kernel)
theorem kw_1087 : Cond.codeWith yL_dispute cL_dispute 5 (some .int) [(0, 10, 13, 21), (0, 10, 17, 41)] ∈ zG := zg_mem 1087 (by decide +kernel) (by decide +kernel)
theorem kw_1088 : Cond.methodLink RL 56 yX4_dispute ∈ zG := zg_mem 1088 (by decide +kernel) (by decide +kernel)
theorem kw_1089 : Cond.instanceMethod yX4_dispute ∈ zG := zg_mem 1089 (by decide +kernel) (by decide +kernel)
theorem kw_1090 : Cond.selects RX4 yX4_dispute yX4_dispute ∈ zG := zg_mem 1090 (by decide +kernel) (by decide +kernel)
theorem kw_1091 : Cond.code yX4_dispute cX4_dispute 5 (some .int) ∈ zG := zg_mem 1091 (by decide +kernel) (by decide +kernel)
theorem kw_1102 : Cond.codeWith yL_settle cL_settle 6 (some .int) [(0, 11, 14, 21), (0, 11, 18, 41)] ∈ zG := zg_mem 1102 (by decide +kernel) (by decide +kernel)
theorem kw_1103 : Cond.methodLink RL 59 yX4_settle ∈ zG := zg_mem 1103 (by decide +kernel) (by decide +kernel)
theorem kw_1104 : Cond.instanceMethod yX4_settle ∈ zG := zg_mem 1104 (by decide +kernel) (by decide +kernel)
theorem kw_1105 : Cond.selects RX4 yX4_settle yX4_settle ∈ zG := zg_mem 1105 (by decide +kernel) (by decide +kernel)
theorem kw_1106 : Cond.code yX4_settle cX4_settle 6 (some .long) ∈ zG := zg_mem 1106 (by decide +kernel) (by decide +kernel)
theorem kw_1110 : Cond.codeWith yL_reverse cL_reverse 5 (some .int) [(0, 9, 12, 21), (0, 9, 16, 41)] ∈ zG := zg_mem 1110 (by decide +kernel) (by decide +kernel)
theorem kw_1111 : Cond.methodLink RL 63 yX4_reverse ∈ zG := zg_mem 1111 (by decide +kernel) (by decide +kernel)
theorem kw_1112 : Cond.instanceMethod yX4_reverse ∈ zG := zg_mem 1112 (by decide +kernel) (by decide +kernel)
theorem kw_1113 : Cond.selects RX4 yX4_reverse yX4_reverse ∈ zG := zg_mem 1113 (by decide +kernel) (by decide +kernel)
theorem kw_1114 : Cond.code yX4_reverse cX4_reverse 5 (some .long) ∈ zG := zg_mem 1114 (by decide +kernel) (by decide +kernel)
theorem kw_1117 : Cond.codeWith yL_plan cL_plan 4 (some .int) [(0, 9, 12, 21), (0, 9, 15, 41), (0, 9, 18, 15)] ∈ zG := zg_mem 1117 (by decide +kernel) (by decide +kernel)
theorem kw_1118 : Cond.methodLink RL 67 yX4_plan ∈ zG := zg_mem 1118 (by decide +kernel) (by decide +kernel)
theorem kw_1119 : Cond.instanceMethod yX4_plan ∈ zG := zg_mem 1119 (by decide +kernel) (by decide +kernel)
theorem kw_1120 : Cond.selects RX4 yX4_plan yX4_plan ∈ zG := zg_mem 1120 (by decide +kernel) (by decide +kernel)
theorem kw_1121 : Cond.code yX4_plan cX4_plan 3 (some .int) ∈ zG := zg_mem 1121 (by decide +kernel) (by decide +kernel)
theorem kw_1128 : Cond.codeWith yL_redeem cL_redeem 5 (some .int) [(0, 10, 13, 21), (0, 10, 17, 13), (0, 10, 21, 41), (0, 10, 25, 15)] ∈ zG := zg_mem 1128 (by decide +kernel) (by decide +kernel)
theorem kw_1129 : Cond.methodLink RL 70 yX4_redeem ∈ zG := zg_mem 1129 (by decide +kernel) (by decide +kernel)
theorem kw_1130 : Cond.instanceMethod yX4_redeem ∈ zG := zg_mem 1130 (by decide +kernel) (by decide +kernel)
theorem kw_1131 : Cond.selects RX4 yX4_redeem yX4_redeem ∈ zG := zg_mem 1131 (by decide +kernel) (by decide +kernel)
theorem kw_1132 : Cond.code yX4_redeem cX4_redeem 4 (some .int) ∈ zG := zg_mem 1132 (by decide +kernel) (by decide +kernel)
theorem kw_1135 : Cond.codeWith yL_pass cL_pass 4 (some .int) [(0, 9, 12, 13), (0, 9, 15, 15)] ∈ zG := zg_mem 1135 (by decide +kernel) (by decide +kernel)
theorem kw_1136 : Cond.methodLink RL 73 yX4_pass ∈ zG := zg_mem 1136 (by decide +kernel) (by decide +kernel)
theorem kw_1137 : Cond.instanceMethod yX4_pass ∈ zG := zg_mem 1137 (by decide +kernel) (by decide +kernel)
theorem kw_1138 : Cond.selects RX4 yX4_pass yX4_pass ∈ zG := zg_mem 1138 (by decide +kernel) (by decide +kernel)
theorem kw_1139 : Cond.code yX4_pass cX4_pass 6 (some .int) ∈ zG := zg_mem 1139 (by decide +kernel) (by decide +kernel)
theorem kw_1142 : Cond.codeWith yL_owed cL_owed 4 (some .int) [(0, 8, 11, 21)] ∈ zG := zg_mem 1142 (by decide +kernel) (by decide +kernel)
theorem kw_1143 : Cond.methodLink RL 76 yX4_owed ∈ zG := zg_mem 1143 (by decide +kernel) (by decide +kernel)
theorem kw_1144 : Cond.instanceMethod yX4_owed ∈ zG := zg_mem 1144 (by decide +kernel) (by decide +kernel)
theorem kw_1145 : Cond.selects RX4 yX4_owed yX4_owed ∈ zG := zg_mem 1145 (by decide +kernel) (by decide +kernel)
theorem kw_1146 : Cond.code yX4_owed cX4_owed 2 (some .long) ∈ zG := zg_mem 1146 (by decide +kernel) (by decide +kernel)
theorem kw_1149 : Cond.codeWith yL_bucket cL_bucket 5 (some .int) [(0, 9, 12, 21), (0, 9, 16, 13)] ∈ zG := zg_mem 1149 (by decide +kernel) (by decide +kernel)
theorem kw_1150 : Cond.methodLink RL 80 yX4_bucket ∈ zG := zg_mem 1150 (by decide +kernel) (by decide +kernel)
theorem kw_1151 : Cond.instanceMethod yX4_bucket ∈ zG := zg_mem 1151 (by decide +kernel) (by decide +kernel)
theorem kw_1152 : Cond.selects RX4 yX4_bucket yX4_bucket ∈ zG := zg_mem 1152 (by decide +kernel) (by decide +kernel)
theorem kw_1153 : Cond.code yX4_bucket cX4_bucket 5 (some .long) ∈ zG := zg_mem 1153 (by decide +kernel) (by decide +kernel)
theorem kw_1156 : Cond.codeWith yL_credit cL_credit 4 (some .int) [(0, 8, 11, 21)] ∈ zG := zg_mem 1156 (by decide +kernel) (by decide +kernel)
theorem kw_1157 : Cond.methodLink RL 84 yX4_credit ∈ zG := zg_mem 1157 (by decide +kernel) (by decide +kernel)
theorem kw_1158 : Cond.instanceMethod yX4_credit ∈ zG := zg_mem 1158 (by decide +kernel) (by decide +kernel)
theorem kw_1159 : Cond.selects RX4 yX4_credit yX4_credit ∈ zG := zg_mem 1159 (by decide +kernel) (by decide +kernel)
theorem kw_1160 : Cond.code yX4_credit cX4_credit 2 (some .long) ∈ zG := zg_mem 1160 (by decide +kernel) (by decide +kernel)
theorem kw_1163 : Cond.codeWith yL_statement cL_statement 5 (some .int) [(0, 9, 12, 21), (0, 9, 16, 90)] ∈ zG := zg_mem 1163 (by decide +kernel) (by decide +kernel)
theorem kw_1165 : Cond.methodLink RL 87 yX4_statement ∈ zG := zg_mem 1165 (by decide +kernel) (by decide +kernel)
theorem kw_1166 : Cond.instanceMethod yX4_statement ∈ zG := zg_mem 1166 (by decide +kernel) (by decide +kernel)
theorem kw_1167 : Cond.selects RX4 yX4_statement yX4_statement ∈ zG := zg_mem 1167 (by decide +kernel) (by decide +kernel)
theorem kw_1168 : Cond.code yX4_statement cX4_statement 3 (some .long) ∈ zG := zg_mem 1168 (by decide +kernel) (by decide +kernel)
theorem kw_1190 : Cond.codeWith yL_told cL_told 5 (some .int) [(0, 9, 12, 21), (0, 9, 16, 90)] ∈ zG := zg_mem 1190 (by decide +kernel) (by decide +kernel)
theorem kw_1191 : Cond.methodLink RL 92 yX4_told ∈ zG := zg_mem 1191 (by decide +kernel) (by decide +kernel)
theorem kw_1192 : Cond.instanceMethod yX4_told ∈ zG := zg_mem 1192 (by decide +kernel) (by decide +kernel)
theorem kw_1193 : Cond.selects RX4 yX4_told yX4_told ∈ zG := zg_mem 1193 (by decide +kernel) (by decide +kernel)
theorem kw_1194 : Cond.code yX4_told cX4_told 3 (some .long) ∈ zG := zg_mem 1194 (by decide +kernel) (by decide +kernel)
theorem kw_1201 : Cond.codeWith yL_difference cL_difference 5 (some .int) [(0, 9, 12, 21), (0, 9, 16, 90)] ∈ zG := zg_mem 1201 (by decide +kernel) (by decide +kernel)
theorem kw_1202 : Cond.methodLink RL 95 yX4_difference ∈ zG := zg_mem 1202 (by decide +kernel) (by decide +kernel)
theorem kw_1203 : Cond.instanceMethod yX4_difference ∈ zG := zg_mem 1203 (by decide +kernel) (by decide +kernel)
theorem kw_1204 : Cond.selects RX4 yX4_difference yX4_difference ∈ zG := zg_mem 1204 (by decide +kernel) (by decide +kernel)
theorem kw_1205 : Cond.code yX4_difference cX4_difference 6 (some .long) ∈ zG := zg_mem 1205 (by decide +kernel) (by decide +kernel)
theorem kw_1208 : Cond.codeWith yL_least cL_least 5 (some .int) [(0, 9, 12, 21), (0, 9, 16, 90)] ∈ zG := zg_mem 1208 (by decide +kernel) (by decide +kernel)
theorem kw_1209 : Cond.methodLink RL 98 yX4_least ∈ zG := zg_mem 1209 (by decide +kernel) (by decide +kernel)
theorem kw_1210 : Cond.instanceMethod yX4_least ∈ zG := zg_mem 1210 (by decide +kernel) (by decide +kernel)
theorem kw_1211 : Cond.selects RX4 yX4_least yX4_least ∈ zG := zg_mem 1211 (by decide +kernel) (by decide +kernel)
theorem kw_1212 : Cond.code yX4_least cX4_least 3 (some .long) ∈ zG := zg_mem 1212 (by decide +kernel) (by decide +kernel)
theorem kw_1215 : Cond.codeWith yL_interest cL_interest 5 (some .int) [(0, 9, 12, 21), (0, 9, 16, 90)] ∈ zG := zg_mem 1215 (by decide +kernel) (by decide +kernel)
theorem kw_1216 : Cond.methodLink RL 101 yX4_interest ∈ zG := zg_mem 1216 (by decide +kernel) (by decide +kernel)
theorem kw_1217 : Cond.instanceMethod yX4_interest ∈ zG := zg_mem 1217 (by decide +kernel) (by decide +kernel)
theorem kw_1218 : Cond.selects RX4 yX4_interest yX4_interest ∈ zG := zg_mem 1218 (by decide +kernel) (by decide +kernel)
theorem kw_1219 : Cond.code yX4_interest cX4_interest 3 (some .long) ∈ zG := zg_mem 1219 (by decide +kernel) (by decide +kernel)
theorem kw_1222 : Cond.codeWith yL_hadGrace cL_hadGrace 5 (some .int) [(0, 17, 20, 21), (0, 17, 24, 90)] ∈ zG := zg_mem 1222 (by decide +kernel) (by decide +kernel)
theorem kw_1223 : Cond.methodLink RL 104 yX4_hadGrace ∈ zG := zg_mem 1223 (by decide +kernel) (by decide +kernel)
theorem kw_1224 : Cond.instanceMethod yX4_hadGrace ∈ zG := zg_mem 1224 (by decide +kernel) (by decide +kernel)
theorem kw_1225 : Cond.selects RX4 yX4_hadGrace yX4_hadGrace ∈ zG := zg_mem 1225 (by decide +kernel) (by decide +kernel)
theorem kw_1226 : Cond.code yX4_hadGrace cX4_hadGrace 3 (some .boolean) ∈ zG := zg_mem 1226 (by decide +kernel) (by decide +kernel)
theorem kw_1229 : Cond.codeWith yL_paid cL_paid 5 (some .int) [(0, 10, 13, 21), (0, 10, 17, 90)] ∈ zG := zg_mem 1229 (by decide +kernel) (by decide +kernel)
theorem kw_1230 : Cond.methodLink RL 108 yX4_paid ∈ zG := zg_mem 1230 (by decide +kernel) (by decide +kernel)
theorem kw_1231 : Cond.instanceMethod yX4_paid ∈ zG := zg_mem 1231 (by decide +kernel) (by decide +kernel)
theorem kw_1232 : Cond.selects RX4 yX4_paid yX4_paid ∈ zG := zg_mem 1232 (by decide +kernel) (by decide +kernel)
theorem kw_1233 : Cond.code yX4_paid cX4_paid 3 (some .char) ∈ zG := zg_mem 1233 (by decide +kernel) (by decide +kernel)
theorem kw_1236 : Cond.codeWith yL_missing cL_missing 4 (some .int) [(0, 8, 11, 21)] ∈ zG := zg_mem 1236 (by decide +kernel) (by decide +kernel)
theorem kw_1237 : Cond.methodLink RL 112 yX4_missing ∈ zG := zg_mem 1237 (by decide +kernel) (by decide +kernel)
theorem kw_1238 : Cond.instanceMethod yX4_missing ∈ zG := zg_mem 1238 (by decide +kernel) (by decide +kernel)
theorem kw_1239 : Cond.selects RX4 yX4_missing yX4_missing ∈ zG := zg_mem 1239 (by decide +kernel) (by decide +kernel)
theorem kw_1240 : Cond.code yX4_missing cX4_missing 2 (some .long) ∈ zG := zg_mem 1240 (by decide +kernel) (by decide +kernel)
theorem kw_1244 : Cond.codeWith yL_missed cL_missed 4 (some .int) [(0, 9, 12, 21)] ∈ zG := zg_mem 1244 (by decide +kernel) (by decide +kernel)
theorem kw_1245 : Cond.methodLink RL 115 yX4_missed ∈ zG := zg_mem 1245 (by decide +kernel) (by decide +kernel)
theorem kw_1246 : Cond.instanceMethod yX4_missed ∈ zG := zg_mem 1246 (by decide +kernel) (by decide +kernel)
theorem kw_1247 : Cond.selects RX4 yX4_missed yX4_missed ∈ zG := zg_mem 1247 (by decide +kernel) (by decide +kernel)
theorem kw_1248 : Cond.code yX4_missed cX4_missed 2 (some .int) ∈ zG := zg_mem 1248 (by decide +kernel) (by decide +kernel)
theorem kw_1251 : Cond.codeWith yL_isOff cL_isOff 4 (some .int) [(0, 16, 19, 21)] ∈ zG := zg_mem 1251 (by decide +kernel) (by decide +kernel)
theorem kw_1252 : Cond.methodLink RL 118 yX4_isOff ∈ zG := zg_mem 1252 (by decide +kernel) (by decide +kernel)
theorem kw_1253 : Cond.instanceMethod yX4_isOff ∈ zG := zg_mem 1253 (by decide +kernel) (by decide +kernel)
theorem kw_1254 : Cond.selects RX4 yX4_isOff yX4_isOff ∈ zG := zg_mem 1254 (by decide +kernel) (by decide +kernel)
theorem kw_1255 : Cond.code yX4_isOff cX4_isOff 2 (some .boolean) ∈ zG := zg_mem 1255 (by decide +kernel) (by decide +kernel)
theorem kw_1258 : Cond.codeWith yL_points cL_points 4 (some .int) [(0, 8, 11, 21)] ∈ zG := zg_mem 1258 (by decide +kernel) (by decide +kernel)
theorem kw_1259 : Cond.methodLink RL 122 yX4_points ∈ zG := zg_mem 1259 (by decide +kernel) (by decide +kernel)
theorem kw_1260 : Cond.instanceMethod yX4_points ∈ zG := zg_mem 1260 (by decide +kernel) (by decide +kernel)
theorem kw_1261 : Cond.selects RX4 yX4_points yX4_points ∈ zG := zg_mem 1261 (by decide +kernel) (by decide +kernel)
theorem kw_1262 : Cond.code yX4_points cX4_points 2 (some .long) ∈ zG := zg_mem 1262 (by decide +kernel) (by decide +kernel)
theorem kw_1265 : Cond.codeWith yL_events cL_events 4 (some .int) [(0, 9, 12, 21)] ∈ zG := zg_mem 1265 (by decide +kernel) (by decide +kernel)
theorem kw_1266 : Cond.methodLink RL 125 yX4_events ∈ zG := zg_mem 1266 (by decide +kernel) (by decide +kernel)
theorem kw_1267 : Cond.instanceMethod yX4_events ∈ zG := zg_mem 1267 (by decide +kernel) (by decide +kernel)
theorem kw_1268 : Cond.selects RX4 yX4_events yX4_events ∈ zG := zg_mem 1268 (by decide +kernel) (by decide +kernel)
theorem kw_1269 : Cond.code yX4_events cX4_events 2 (some .int) ∈ zG := zg_mem 1269 (by decide +kernel) (by decide +kernel)
theorem kw_1272 : Cond.codeWith yL_kindOf cL_kindOf 5 (some .int) [(0, 10, 13, 21)] ∈ zG := zg_mem 1272 (by decide +kernel) (by decide +kernel)
theorem kw_1273 : Cond.methodLink RL 128 yX4_kindOf ∈ zG := zg_mem 1273 (by decide +kernel) (by decide +kernel)
theorem kw_1274 : Cond.instanceMethod yX4_kindOf ∈ zG := zg_mem 1274 (by decide +kernel) (by decide +kernel)
theorem kw_1275 : Cond.selects RX4 yX4_kindOf yX4_kindOf ∈ zG := zg_mem 1275 (by decide +kernel) (by decide +kernel)
theorem kw_1276 : Cond.code yX4_kindOf cX4_kindOf 3 (some .char) ∈ zG := zg_mem 1276 (by decide +kernel) (by decide +kernel)
theorem kw_1279 : Cond.codeWith yL_isBack cL_isBack 5 (some .int) [(0, 17, 20, 21)] ∈ zG := zg_mem 1279 (by decide +kernel) (by decide +kernel)
theorem kw_1280 : Cond.methodLink RL 131 yX4_isBack ∈ zG := zg_mem 1280 (by decide +kernel) (by decide +kernel)
theorem kw_1281 : Cond.instanceMethod yX4_isBack ∈ zG := zg_mem 1281 (by decide +kernel) (by decide +kernel)
theorem kw_1282 : Cond.selects RX4 yX4_isBack yX4_isBack ∈ zG := zg_mem 1282 (by decide +kernel) (by decide +kernel)
theorem kw_1283 : Cond.code yX4_isBack cX4_isBack 3 (some .boolean) ∈ zG := zg_mem 1283 (by decide +kernel) (by decide +kernel)
theorem kw_1286 : Cond.codeWith yL_sum cL_sum 5 (some .int) [(0, 10, 13, 21)] ∈ zG := zg_mem 1286 (by decide +kernel) (by decide +kernel)
theorem kw_1287 : Cond.methodLink RL 134 yX4_sum ∈ zG := zg_mem 1287 (by decide +kernel) (by decide +kernel)
theorem kw_1288 : Cond.instanceMethod yX4_sum ∈ zG := zg_mem 1288 (by decide +kernel) (by decide +kernel)
theorem kw_1289 : Cond.selects RX4 yX4_sum yX4_sum ∈ zG := zg_mem 1289 (by decide +kernel) (by decide +kernel)
theorem kw_1290 : Cond.code yX4_sum cX4_sum 3 (some .int) ∈ zG := zg_mem 1290 (by decide +kernel) (by decide +kernel)
theorem kw_1293 : Cond.codeWith yL_why cL_why 6 (some .int) [(0, 12, 15, 21), (0, 12, 19, 13)] ∈ zG := zg_mem 1293 (by decide +kernel) (by decide +kernel)
theorem kw_1294 : Cond.methodLink RL 137 yX4_why ∈ zG := zg_mem 1294 (by decide +kernel) (by decide +kernel)
theorem kw_1295 : Cond.instanceMethod yX4_why ∈ zG := zg_mem 1295 (by decide +kernel) (by decide +kernel)
theorem kw_1296 : Cond.selects RX4 yX4_why yX4_why ∈ zG := zg_mem 1296 (by decide +kernel) (by decide +kernel)
theorem kw_1297 : Cond.code yX4_why cX4_why 7 (some .char) ∈ zG := zg_mem 1297 (by decide +kernel) (by decide +kernel)
theorem kw_1300 : Cond.codeWith yL_reasons cL_reasons 6 (some .int) [(0, 12, 15, 21), (0, 12, 19, 13)] ∈ zG := zg_mem 1300 (by decide +kernel) (by decide +kernel)
theorem kw_1301 : Cond.methodLink RL 141 yX4_reasons ∈ zG := zg_mem 1301 (by decide +kernel) (by decide +kernel)
theorem kw_1302 : Cond.instanceMethod yX4_reasons ∈ zG := zg_mem 1302 (by decide +kernel) (by decide +kernel)
theorem kw_1303 : Cond.selects RX4 yX4_reasons yX4_reasons ∈ zG := zg_mem 1303 (by decide +kernel) (by decide +kernel)
theorem kw_1304 : Cond.code yX4_reasons cX4_reasons 6 (some .int) ∈ zG := zg_mem 1304 (by decide +kernel) (by decide +kernel)
theorem kw_1313 : Cond.codeWith yL_missedShare cL_missedShare 3 (some .int) [(0, 8, 11, 148)] ∈ zG := zg_mem 1313 (by decide +kernel) (by decide +kernel)
theorem kw_1314 : Cond.classLink RL 148 "java/lang/ArithmeticException" ∈ zG := zg_mem 1314 (by decide +kernel) (by decide +kernel)
theorem kw_1328 : Cond.methodLink RL 144 yX4_missedShare ∈ zG := zg_mem 1328 (by decide +kernel) (by decide +kernel)
theorem kw_1329 : Cond.instanceMethod yX4_missedShare ∈ zG := zg_mem 1329 (by decide +kernel) (by decide +kernel)
theorem kw_1330 : Cond.selects RX4 yX4_missedShare yX4_missedShare ∈ zG := zg_mem 1330 (by decide +kernel) (by decide +kernel)
theorem kw_1331 : Cond.code yX4_missedShare cX4_missedShare 5 (some .float) ∈ zG := zg_mem 1331 (by decide +kernel) (by decide +kernel)
theorem kw_1332 : Cond.classLink RX4 219 "java/lang/ArithmeticException" ∈ zG := zg_mem 1332 (by decide +kernel) (by decide +kernel)
theorem kw_1339 : Cond.codeWith yL_meanOwed cL_meanOwed 3 (some .int) [(0, 7, 10, 148)] ∈ zG := zg_mem 1339 (by decide +kernel) (by decide +kernel)
theorem kw_1340 : Cond.methodLink RL 150 yX4_meanOwed ∈ zG := zg_mem 1340 (by decide +kernel) (by decide +kernel)
theorem kw_1341 : Cond.instanceMethod yX4_meanOwed ∈ zG := zg_mem 1341 (by decide +kernel) (by decide +kernel)
theorem kw_1342 : Cond.selects RX4 yX4_meanOwed yX4_meanOwed ∈ zG := zg_mem 1342 (by decide +kernel) (by decide +kernel)
theorem kw_1343 : Cond.code yX4_meanOwed cX4_meanOwed 5 (some .double) ∈ zG := zg_mem 1343 (by decide +kernel) (by decide +kernel)
theorem kw_1348 : Cond.code yX8_init cX8_init 1 none ∈ zG := zg_mem 1348 (by decide +kernel) (by decide +kernel)
theorem kw_1349 : Cond.methodLink RX8 1 objectInit ∈ zG := zg_mem 1349 (by decide +kernel) (by decide +kernel)
theorem kw_1350 : Cond.classLink RX8 7 RJx4a65c ∈ zG := zg_mem 1350 (by decide +kernel) (by decide +kernel)
theorem kw_1351 : Cond.methodLink RX8 9 yJx4a65c_init_da8c8 ∈ zG := zg_mem 1351 (by decide +kernel) (by decide +kernel)
theorem kw_1352 : Cond.fieldLink RX8 10 "StatementCycleModel" "accounts" "Ljava/util/List;" ∈ zG := zg_mem 1352 (by decide +kernel) (by decide +kernel)
theorem kw_1353 : Cond.fieldLink RX8 16 "StatementCycleModel" "currencies" "[I" ∈ zG := zg_mem 1353 (by decide +kernel) (by decide +kernel)
theorem kw_1354 : Cond.fieldLink RX8 57 "StatementCycleModel" "day" "I" ∈ zG := zg_mem 1354 (by decide +kernel) (by decide +kernel)
theorem kw_1355 : Cond.fieldLink RX8 20 "StatementCycleModel" "thrown" "I" ∈ zG := zg_mem 1355 (by decide +kernel) (by decide +kernel)
theorem kw_1368 : Cond.code yX8_thrown cX8_thrown 1 (some .int) ∈ zG := zg_mem 1368 (by decide +kernel) (by decide +kernel)
theorem kw_1372 : Cond.code yX8_open cX8_open 2 (some .int) ∈ zG := zg_mem 1372 (by decide +kernel) (by decide +kernel)
theorem kw_1373 : Cond.constant RX8 69 (9999999) ∈ zG := zg_mem 1373 (by decide +kernel) (by decide +kernel)
theorem kw_1374 : Cond.methodLink RX8 30 yX8_isIn ∈ zG := zg_mem 1374 (by decide +kernel) (by decide +kernel)
theorem kw_1375 : Cond.static yX8_isIn ∈ zG := zg_mem 1375 (by decide +kernel) (by decide +kernel)
theorem kw_1376 : Cond.code yX8_isIn cX8_isIn 3 (some .boolean) ∈ zG := zg_mem 1376 (by decide +kernel) (by decide +kernel)
theorem kw_1377 : Cond.methodLink RX8 70 yX8_no ∈ zG := zg_mem 1377 (by decide +kernel) (by decide +kernel)
theorem kw_1379 : Cond.instanceMethod yX8_no ∈ zG := zg_mem 1379 (by decide +kernel) (by decide +kernel)
theorem kw_1380 : Cond.code yX8_no cX8_no 3 (some .boolean) ∈ zG := zg_mem 1380 (by decide +kernel) (by decide +kernel)
theorem kw_1382 : Cond.methodLink RX8 24 ⟨"java/util/List", "size", "()I"⟩ ∈ zG := zg_mem 1382 (by decide +kernel) (by decide +kernel)
theorem kw_1386 : Cond.selects RJx4a65c ⟨"java/util/List", "size", "()I"⟩ yJx4a65c_size_8abf5 ∈ zG := zg_mem 1386 (by decide +kernel) (by decide +kernel)
theorem kw_1389 : Cond.classLink RX8 42 RX5 ∈ zG := zg_mem 1389 (by decide +kernel) (by decide +kernel)
theorem kw_1390 : Cond.instantiable RX5 4 ∈ zG := zg_mem 1390 (by decide +kernel) (by decide +kernel)
theorem kw_1392 : Cond.instanceMethod yX5_init ∈ zG := zg_mem 1392 (by decide +kernel) (by decide +kernel)
theorem kw_1393 : Cond.code yX5_init cX5_init 1 none ∈ zG := zg_mem 1393 (by decide +kernel) (by decide +kernel)
theorem kw_1394 : Cond.methodLink RX5 1 objectInit ∈ zG := zg_mem 1394 (by decide +kernel) (by decide +kernel)
theorem kw_1395 : Cond.classLink RX5 7 RJx4a65c ∈ zG := zg_mem 1395 (by decide +kernel) (by decide +kernel)
theorem kw_1396 : Cond.methodLink RX5 9 yJx4a65c_init_da8c8 ∈ zG := zg_mem 1396 (by decide +kernel) (by decide +kernel)
theorem kw_1397 : Cond.classLink RX5 16 RJ13 ∈ zG := zg_mem 1397 (by decide +kernel) (by decide +kernel)
theorem kw_1399 : Cond.fieldLink RX8 75 "StatementCycleModel$Account" "limit" "I" ∈ zG := zg_mem 1399 (by decide +kernel) (by decide +kernel)
theorem kw_1401 : Cond.fieldLink RX5 10 "StatementCycleModel$Account" "events" "Ljava/util/List;" ∈ zG := zg_mem 1401 (by decide +kernel) (by decide +kernel)
theorem kw_1403 : Cond.fieldLink RX5 18 "StatementCycleModel$Account" "told" "[Ljava/lang/Long;" ∈ zG := zg_mem 1403 (by decide +kernel) (by decide +kernel)
theorem kw_1415 : Cond.methodLink RX8 63 ⟨"java/util/List", "add", "(Ljava/lang/Object;)Z"⟩ ∈ zG := zg_mem 1415 (by decide +kernel) (by decide +kernel)
theorem kw_1418 : Cond.selects RJx4a65c ⟨"java/util/List", "add", "(Ljava/lang/Object;)Z"⟩ yJx4a65c_add_9ea2d ∈ zG := zg_mem 1418 (by decide +kernel) (by decide +kernel)
theorem kw_1422 : Cond.methodLink RX8 38 ⟨"java/util/List", "get", "(I)Ljava/lang/Object;"⟩ ∈ zG := zg_mem 1422 (by decide +kernel) (by decide +kernel)
theorem kw_1425 : Cond.selects RJx4a65c ⟨"java/util/List", "get", "(I)Ljava/lang/Object;"⟩ yJx4a65c_get_915e3 ∈ zG := zg_mem 1425 (by decide +kernel) (by decide +kernel)
theorem kw_1431 : Cond.code yX8_setLimit cX8_setLimit 4 (some .int) ∈ zG := zg_mem 1431 (by decide +kernel) (by decide +kernel)
theorem kw_1432 : Cond.methodLink RX8 34 yX8_isAccount ∈ zG := zg_mem 1432 (by decide +kernel) (by decide +kernel)
theorem kw_1434 : Cond.instanceMethod yX8_isAccount ∈ zG := zg_mem 1434 (by decide +kernel) (by decide +kernel)
theorem kw_1435 : Cond.code yX8_isAccount cX8_isAccount 2 (some .boolean) ∈ zG := zg_mem 1435 (by decide +kernel) (by decide +kernel)
theorem kw_1439 : Cond.code yX8_block cX8_block 4 (some .boolean) ∈ zG := zg_mem 1439 (by decide +kernel) (by decide +kernel)
theorem kw_1443 : Cond.code yX8_setRate cX8_setRate 4 (some .int) ∈ zG := zg_mem 1443 (by decide +kernel) (by decide +kernel)
theorem kw_1555 : Cond.code yX8_promote cX8_promote 4 (some .int) ∈ zG := zg_mem 1555 (by decide +kernel) (by decide +kernel)
theorem kw_1559 : Cond.code yX8_setCurrency cX8_setCurrency 4 (some .int) ∈ zG := zg_mem 1559 (by decide +kernel) (by decide +kernel)
theorem kw_1560 : Cond.constant RX8 95 (99999) ∈ zG := zg_mem 1560 (by decide +kernel) (by decide +kernel)
theorem kw_1564 : Cond.code yX8_buy cX8_buy 4 (some .int) ∈ zG := zg_mem 1564 (by decide +kernel) (by decide +kernel)
theorem kw_1588 : Cond.selects RJx4a65c ⟨"java/util/List", "iterator", "()Ljava/util/Iterator;"⟩ yJx4a65c_iterator_32c93 ∈ zG := zg_mem 1588 (by decide +kernel) (by decide +kernel)
theorem kw_1590 : Cond.instanceMethod yJx4a65c_iterator_32c93 ∈ zG := zg_mem 1590 (by decide +kernel) (by decide +kernel)
theorem kw_1592 : Cond.code yJx4a65c_iterator_32c93 cJx4a65c_iterator_32c93 1 (some (.object "java/util/Iterator")) ∈ zG := zg_mem 1592 (by decide +kernel) (by decide +kernel)
theorem kw_1593 : Cond.classLink RJx4a65c 267 RJx35411 ∈ zG := zg_mem 1593 (by decide +kernel) (by decide +kernel)
theorem kw_1594 : Cond.instantiable RJx35411 4 ∈ zG := zg_mem 1594 (by decide +kernel) (by decide +kernel)
theorem kw_1595 : Cond.methodLink RJx4a65c 269 yJx35411_init_45d68 ∈ zG := zg_mem 1595 (by decide +kernel) (by decide +kernel)
theorem kw_1596 : Cond.instanceMethod yJx35411_init_45d68 ∈ zG := zg_mem 1596 (by decide +kernel) (by decide +kernel)
theorem kw_1597 : Cond.code yJx35411_init_45d68 cJx35411_init_45d68 2 none ∈ zG := zg_mem 1597 (by decide +kernel) (by decide +kernel)
theorem kw_1598 : Cond.methodLink RJx35411 7 objectInit ∈ zG := zg_mem 1598 (by decide +kernel) (by decide +kernel)
theorem kw_1599 : Cond.fieldLink RJx35411 25 "java/util/ArrayList$Itr" "cursor" "I" ∈ zG := zg_mem 1599 (by decide +kernel) (by decide +kernel)
theorem kw_1600 : Cond.fieldLink RJx35411 13 "java/util/ArrayList$Itr" "lastRet" "I" ∈ zG := zg_mem 1600 (by decide +kernel) (by decide +kernel)
theorem kw_1601 : Cond.fieldLink RJx35411 22 "java/util/ArrayList$Itr" "expectedModCount" "I" ∈ zG := zg_mem 1601 (by decide +kernel) (by decide +kernel)
theorem kw_1602 : Cond.fieldLink RJx35411 1 "java/util/ArrayList$Itr" "this$0" "Ljava/util/ArrayList;" ∈ zG := zg_mem 1602 (by decide +kernel) (by decide +kernel)
theorem kw_1618 : Cond.selects RJx35411 ⟨"java/util/Iterator", "hasNext", "()Z"⟩ yJx35411_hasNext_aae02 ∈ zG := zg_mem 1618 (by decide +kernel) (by decide +kernel)
theorem kw_1620 : Cond.instanceMethod yJx35411_hasNext_aae02 ∈ zG := zg_mem 1620 (by decide +kernel) (by decide +kernel)
theorem kw_1622 : Cond.code yJx35411_hasNext_aae02 cJx35411_hasNext_aae02 1 (some .boolean) ∈ zG := zg_mem 1622 (by decide +kernel) (by decide +kernel)
theorem kw_1787 : Cond.code yX8_buyOn cX8_buyOn 5 (some .int) ∈ zG := zg_mem 1787 (by decide +kernel) (by decide +kernel)
theorem kw_1791 : Cond.code yX8_abroad cX8_abroad 6 (some .int) ∈ zG := zg_mem 1791 (by decide +kernel) (by decide +kernel)
theorem kw_1797 : Cond.code yX8_pay cX8_pay 3 (some .int) ∈ zG := zg_mem 1797 (by decide +kernel) (by decide +kernel)
theorem kw_1801 : Cond.code yX8_returns cX8_returns 3 (some .int) ∈ zG := zg_mem 1801 (by decide +kernel) (by decide +kernel)
theorem kw_1802 : Cond.methodLink RX8 134 yX8_isEvent ∈ zG := zg_mem 1802 (by decide +kernel) (by decide +kernel)
theorem kw_1804 : Cond.instanceMethod yX8_isEvent ∈ zG := zg_mem 1804 (by decide +kernel) (by decide +kernel)
theorem kw_1805 : Cond.code yX8_isEvent cX8_isEvent 3 (some .boolean) ∈ zG := zg_mem 1805 (by decide +kernel) (by decide +kernel)
theorem kw_1813 : Cond.code yX8_dispute cX8_dispute 7 (some .int) ∈ zG := zg_mem 1813 (by decide +kernel) (by decide +kernel)
theorem kw_1815 : Cond.methodLink RX8 155 ⟨"java/util/List", "iterator", "()Ljava/util/Iterator;"⟩ ∈ zG := zg_mem 1815 (by decide +kernel) (by decide +kernel)
theorem kw_1817 : Cond.methodLink RX8 159 ⟨"java/util/Iterator", "hasNext", "()Z"⟩ ∈ zG := zg_mem 1817 (by decide +kernel) (by decide +kernel)
theorem kw_1827 : Cond.code yX8_settle cX8_settle 4 (some .long) ∈ zG := zg_mem 1827 (by decide +kernel) (by decide +kernel)
theorem kw_1831 : Cond.code yX8_reverse cX8_reverse 4 (some .long) ∈ zG := zg_mem 1831 (by decide +kernel) (by decide +kernel)
theorem kw_1835 : Cond.code yX8_plan cX8_plan 5 (some .int) ∈ zG := zg_mem 1835 (by decide +kernel) (by decide +kernel)
theorem kw_1839 : Cond.code yX8_redeem cX8_redeem 3 (some .int) ∈ zG := zg_mem 1839 (by decide +kernel) (by decide +kernel)
theorem kw_1847 : Cond.code yX8_pass cX8_pass 4 (some .int) ∈ zG := zg_mem 1847 (by decide +kernel) (by decide +kernel)
theorem kw_1871 : Cond.code yX8_owed cX8_owed 2 (some .long) ∈ zG := zg_mem 1871 (by decide +kernel) (by decide +kernel)
theorem kw_1875 : Cond.code yX8_bucket cX8_bucket 3 (some .long) ∈ zG := zg_mem 1875 (by decide +kernel) (by decide +kernel)
theorem kw_1879 : Cond.code yX8_credit cX8_credit 2 (some .long) ∈ zG := zg_mem 1879 (by decide +kernel) (by decide +kernel)
theorem kw_1883 : Cond.code yX8_statement cX8_statement 3 (some .long) ∈ zG := zg_mem 1883 (by decide +kernel) (by decide +kernel)
theorem kw_1891 : Cond.code yX8_told cX8_told 3 (some .long) ∈ zG := zg_mem 1891 (by decide +kernel) (by decide +kernel)
theorem kw_1903 : Cond.code yX8_difference cX8_difference 3 (some .long) ∈ zG := zg_mem 1903 (by decide +kernel) (by decide +kernel)
theorem kw_1907 : Cond.code yX8_least cX8_least 3 (some .long) ∈ zG := zg_mem 1907 (by decide +kernel) (by decide +kernel)
theorem kw_1911 : Cond.code yX8_interest cX8_interest 3 (some .long) ∈ zG := zg_mem 1911 (by decide +kernel) (by decide +kernel)
theorem kw_1915 : Cond.code yX8_hadGrace cX8_hadGrace 3 (some .boolean) ∈ zG := zg_mem 1915 (by decide +kernel) (by decide +kernel)
theorem kw_1919 : Cond.code yX8_paid cX8_paid 4 (some .char) ∈ zG := zg_mem 1919 (by decide +kernel) (by decide +kernel)
theorem kw_1924 : Cond.code yX8_missing cX8_missing 2 (some .long) ∈ zG := zg_mem 1924 (by decide +kernel) (by decide +kernel)
theorem kw_1929 : Cond.code yX8_missed cX8_missed 2 (some .int) ∈ zG := zg_mem 1929 (by decide +kernel) (by decide +kernel)
theorem kw_1937 : Cond.code yX8_isOff cX8_isOff 2 (some .boolean) ∈ zG := zg_mem 1937 (by decide +kernel) (by decide +kernel)
theorem kw_1941 : Cond.code yX8_points cX8_points 2 (some .long) ∈ zG := zg_mem 1941 (by decide +kernel) (by decide +kernel)
theorem kw_1945 : Cond.code yX8_events cX8_events 2 (some .int) ∈ zG := zg_mem 1945 (by decide +kernel) (by decide +kernel)
theorem kw_1949 : Cond.code yX8_kindOf cX8_kindOf 3 (some .char) ∈ zG := zg_mem 1949 (by decide +kernel) (by decide +kernel)
theorem kw_1953 : Cond.code yX8_isBack cX8_isBack 3 (some .boolean) ∈ zG := zg_mem 1953 (by decide +kernel) (by decide +kernel)
theorem kw_1957 : Cond.code yX8_sum cX8_sum 3 (some .int) ∈ zG := zg_mem 1957 (by decide +kernel) (by decide +kernel)
theorem kw_1961 : Cond.code yX8_why cX8_why 6 (some .char) ∈ zG := zg_mem 1961 (by decide +kernel) (by decide +kernel)
theorem kw_1984 : Cond.code yX8_reasons cX8_reasons 4 (some .int) ∈ zG := zg_mem 1984 (by decide +kernel) (by decide +kernel)
theorem kw_1988 : Cond.code yX8_collected cX8_collected 7 (some .long) ∈ zG := zg_mem 1988 (by decide +kernel) (by decide +kernel)
theorem kw_1992 : Cond.code yX8_today cX8_today 1 (some .int) ∈ zG := zg_mem 1992 (by decide +kernel) (by decide +kernel)
theorem kw_1996 : Cond.code yX8_checksum cX8_checksum 10 (some .long) ∈ zG := zg_mem 1996 (by decide +kernel) (by decide +kernel)
theorem kw_1997 : Cond.constantLong RX8 238 (7) ∈ zG := zg_mem 1997 (by decide +kernel) (by decide +kernel)
theorem kw_1998 : Cond.constantLong RX8 240 (31) ∈ zG := zg_mem 1998 (by decide +kernel) (by decide +kernel)
theorem kw_2002 : Cond.code yX8_missedShare cX8_missedShare 5 (some .float) ∈ zG := zg_mem 2002 (by decide +kernel) (by decide +kernel)
theorem kw_2006 : Cond.code yX8_meanOwed cX8_meanOwed 4 (some .double) ∈ zG := zg_mem 2006 (by decide +kernel) (by decide +kernel)
theorem kw_2008 : Cond.methodLink RX8 242 ⟨"java/util/List", "isEmpty", "()Z"⟩ ∈ zG := zg_mem 2008 (by decide +kernel) (by decide +kernel)
theorem kw_2011 : Cond.selects RJx4a65c ⟨"java/util/List", "isEmpty", "()Z"⟩ yJx4a65c_isEmpty_aae02 ∈ zG := zg_mem 2011 (by decide +kernel) (by decide +kernel)
theorem kw_2013 : Cond.instanceMethod yJx4a65c_isEmpty_aae02 ∈ zG := zg_mem 2013 (by decide +kernel) (by decide +kernel)
theorem kw_2015 : Cond.code yJx4a65c_isEmpty_aae02 cJx4a65c_isEmpty_aae02 1 (some .boolean) ∈ zG := zg_mem 2015 (by decide +kernel) (by decide +kernel)
theorem kw_2019 : Cond.code yX8_isSound cX8_isSound 1 (some .boolean) ∈ zG := zg_mem 2019 (by decide +kernel) (by decide +kernel)
theorem iJx35411 : ∀ w ∈ u_ws RJx35411 TJx35411 4, w ∈ zG := fun w h => List.mem_filter.mpr ⟨zi_sub [1603, 1605, 1607, 1609] (by decide +kernel) w h, List.all_eq_true.mp (show (u_ws RJx35411 TJx35411 4).all goodWord = true by decide +kernel) w h⟩
theorem iJx4a65c : ∀ w ∈ u_ws RJx4a65c TJx4a65c 3, w ∈ zG := fun w h => List.mem_filter.mpr ⟨zi_sub [137, 133, 135] (by decide +kernel) w h, List.all_eq_true.mp (show (u_ws RJx4a65c TJx4a65c 3).all goodWord = true by decide +kernel) w h⟩
theorem iX0 : ∀ w ∈ u_ws RX0 TX0 9, w ∈ zG := fun w h => List.mem_filter.mpr ⟨zi_sub [543, 545, 547, 549, 551, 553, 555, 557, 559] (by decide +kernel) w h, List.all_eq_true.mp (show (u_ws RX0 TX0 9).all goodWord = true by decide +kernel) w h⟩
theorem iX1 : ∀ w ∈ u_ws RX1 TX1 17, w ∈ zG := fun w h => List.mem_filter.mpr ⟨zi_sub [205, 207, 209, 211, 213, 215, 217, 219, 221, 223, 225, 227, 229, 231, 233, 235, 237] (by decide +kernel) w h, List.all_eq_true.mp (show (u_ws RX1 TX1 17).all goodWord = true by decide +kernel) w h⟩
theorem iX3 : ∀ w ∈ u_ws RX3 TX3 5, w ∈ zG := fun w h => List.mem_filter.mpr ⟨zi_sub [168, 170, 172, 174, 176] (by decide +kernel) w h, List.all_eq_true.mp (show (u_ws RX3 TX3 5).all goodWord = true by decide +kernel) w h⟩
theorem iX4 : ∀ w ∈ u_ws RX4 TX4 4, w ∈ zG := fun w h => List.mem_filter.mpr ⟨zi_sub [244, 246, 248, 250] (by decide +kernel) w h, List.all_eq_true.mp (show (u_ws RX4 TX4 4).all goodWord = true by decide +kernel) w h⟩
theorem iX5 : ∀ w ∈ u_ws RX5 TX5 4, w ∈ zG := fun w h => List.mem_filter.mpr ⟨zi_sub [1405, 1407, 1409, 1411] (by decide +kernel) w h, List.all_eq_true.mp (show (u_ws RX5 TX5 4).all goodWord = true by decide +kernel) w h⟩
theorem iX8 : ∀ w ∈ u_ws RX8 TX8 4, w ∈ zG := fun w h => List.mem_filter.mpr ⟨zi_sub [1356, 1358, 1360, 1362] (by decide +kernel) w h, List.all_eq_true.mp (show (u_ws RX8 TX8 4).all goodWord = true by decide +kernel) w h⟩
theorem z_dfJx35411 : ∀ j, j < 4 → defaultValue (tyJx35411 j) = vp_V [.int 0, .int 0, .int 0, .null] j := fun j hj => by
  rcases (show j = 0 ∨ j = 1 ∨ j = 2 ∨ j = 3 by omega) with rfl | rfl | rfl | rfl <;> rfl
theorem z_dfJx4a65c : ∀ j, j < 3 → defaultValue (tyJx4a65c j) = vp_V [.int 0, .null, .int 0] j := fun j hj => by
  rcases (show j = 0 ∨ j = 1 ∨ j = 2 by omega) with rfl | rfl | rfl <;> rfl
theorem z_dfX0 : ∀ j, j < 9 → defaultValue (tyX0 j) = vp_V [.null, .null, .null, .int 0, .null, .null, .int 0, .int 0, .int 0] j := fun j hj => by
  rcases (show j = 0 ∨ j = 1 ∨ j = 2 ∨ j = 3 ∨ j = 4 ∨ j = 5 ∨ j = 6 ∨ j = 7 ∨ j = 8 by omega) with rfl | rfl | rfl | rfl | rfl | rfl | rfl | rfl | rfl <;> rfl
theorem z_dfX1 : ∀ j, j < 17 → defaultValue (tyX1 j) = vp_V [.null, .null, .null, .null, .null, .long 0, .int 0, .int 0, .int 0, .int 0, .long 0, .long 0, .long 0, .int 0, .int 0, .int 0, .int 0] j := fun j hj => by
  rcases (show j = 0 ∨ j = 1 ∨ j = 2 ∨ j = 3 ∨ j = 4 ∨ j = 5 ∨ j = 6 ∨ j = 7 ∨ j = 8 ∨ j = 9 ∨ j = 10 ∨ j = 11 ∨ j = 12 ∨ j = 13 ∨ j = 14 ∨ j = 15 ∨ j = 16 by omega) with rfl | rfl | rfl | rfl | rfl | rfl | rfl | rfl | rfl | rfl | rfl | rfl | rfl | rfl | rfl | rfl | rfl <;> rfl
theorem z_dfX3 : ∀ j, j < 5 → defaultValue (tyX3 j) = vp_V [.long 0, .long 0, .long 0, .int 0, .int 0] j := fun j hj => by
  rcases (show j = 0 ∨ j = 1 ∨ j = 2 ∨ j = 3 ∨ j = 4 by omega) with rfl | rfl | rfl | rfl | rfl <;> rfl
theorem z_dfX5 : ∀ j, j < 4 → defaultValue (tyX5 j) = vp_V [.int 0, .int 0, .null, .null] j := fun j hj => by
  rcases (show j = 0 ∨ j = 1 ∨ j = 2 ∨ j = 3 by omega) with rfl | rfl | rfl | rfl <;> rfl
set_option maxRecDepth 100000 in
theorem za_X4_236 : ∀ w ∈ vx_at0 RX4 236 "java/lang/IndexOutOfBoundsException" ["java/lang/RuntimeException", "java/lang/Exception"], (w ∈ zG ∨ w ∈ zK "java/lang/IndexOutOfBoundsException") ∧ vx_ot w = true := by
  have h1 : (vx_at0 RX4 236 "java/lang/IndexOutOfBoundsException" ["java/lang/RuntimeException", "java/lang/Exception"]).filter goodWord = ([71, 457, 466, 474, 477, 479, 458, 459, 109, 110, 460, 465, 475, 492, 447, 493, 449, 494, 451, 461, 463, 453, 682, 683, 684, 484, 484, 485, 486, 487, 487, 488, 489, 458, 681, 673, 675, 471, 676, 677, 678, 679, 456, 455, 680] : List Nat).filterMap (fun i => lw_tbl[i]?) := by decide +kernel
  have h2 : (vx_at0 RX4 236 "java/lang/IndexOutOfBoundsException" ["java/lang/RuntimeException", "java/lang/Exception"]).all (fun w => (goodWord w || decide (w ∈ zK "java/lang/IndexOutOfBoundsException")) && vx_ot w) = true := by decide +kernel
  intro w hw
  have h3 := List.all_eq_true.mp h2 w hw
  simp only [Bool.and_eq_true, Bool.or_eq_true, decide_eq_true_eq] at h3
  exact ⟨h3.1.imp (fun h => List.mem_filter.mpr ⟨zi_sub _ h1 w (List.mem_filter.mpr ⟨hw, h⟩), h⟩) id, h3.2⟩
set_option maxRecDepth 100000 in
theorem za_X4_257 : ∀ w ∈ vx_at0 RX4 257 "java/lang/IllegalArgumentException" ["java/lang/RuntimeException", "java/lang/Exception"], (w ∈ zG ∨ w ∈ zK "java/lang/IllegalArgumentException") ∧ vx_ot w = true := by
  have h1 : (vx_at0 RX4 257 "java/lang/IllegalArgumentException" ["java/lang/RuntimeException", "java/lang/Exception"]).filter goodWord = ([71, 457, 466, 474, 477, 479, 458, 459, 109, 110, 460, 465, 475, 492, 447, 493, 449, 494, 451, 461, 463, 453, 481, 482, 483, 484, 484, 485, 486, 487, 487, 488, 489, 458, 480, 436, 444, 445, 446, 448, 450, 452, 456, 455, 454] : List Nat).filterMap (fun i => lw_tbl[i]?) := by decide +kernel
  have h2 : (vx_at0 RX4 257 "java/lang/IllegalArgumentException" ["java/lang/RuntimeException", "java/lang/Exception"]).all (fun w => (goodWord w || decide (w ∈ zK "java/lang/IllegalArgumentException")) && vx_ot w) = true := by decide +kernel
  intro w hw
  have h3 := List.all_eq_true.mp h2 w hw
  simp only [Bool.and_eq_true, Bool.or_eq_true, decide_eq_true_eq] at h3
  exact ⟨h3.1.imp (fun h => List.mem_filter.mpr ⟨zi_sub _ h1 w (List.mem_filter.mpr ⟨hw, h⟩), h⟩) id, h3.2⟩
set_option maxRecDepth 100000 in
theorem za_X4_221 : ∀ w ∈ vx_at0 RX4 221 "java/lang/ArithmeticException" ["java/lang/RuntimeException", "java/lang/Exception"], (w ∈ zG ∨ w ∈ zK "java/lang/ArithmeticException") ∧ vx_ot w = true := by
  have h1 : (vx_at0 RX4 221 "java/lang/ArithmeticException" ["java/lang/RuntimeException", "java/lang/Exception"]).filter goodWord = ([71, 457, 466, 474, 477, 479, 458, 459, 109, 110, 460, 465, 475, 492, 447, 493, 449, 494, 451, 461, 463, 453, 1334, 1335, 1336, 484, 484, 485, 486, 487, 487, 488, 489, 458, 1333, 1315, 1327, 468, 1321, 1322, 1324, 1320, 456, 455, 1319] : List Nat).filterMap (fun i => lw_tbl[i]?) := by decide +kernel
  have h2 : (vx_at0 RX4 221 "java/lang/ArithmeticException" ["java/lang/RuntimeException", "java/lang/Exception"]).all (fun w => (goodWord w || decide (w ∈ zK "java/lang/ArithmeticException")) && vx_ot w) = true := by decide +kernel
  intro w hw
  have h3 := List.all_eq_true.mp h2 w hw
  simp only [Bool.and_eq_true, Bool.or_eq_true, decide_eq_true_eq] at h3
  exact ⟨h3.1.imp (fun h => List.mem_filter.mpr ⟨zi_sub _ h1 w (List.mem_filter.mpr ⟨hw, h⟩), h⟩) id, h3.2⟩
abbrev ws_Jxa1e45_init_da8c8 : List Cond := Cond.code yJxa1e45_init_da8c8 cJxa1e45_init_da8c8 1 none :: zG
abbrev ws_Jxc12de_init_da8c8 : List Cond := Cond.code yJxc12de_init_da8c8 cJxc12de_init_da8c8 1 none :: zG
abbrev ws_Jx4a65c_init_da8c8 : List Cond := Cond.code yJx4a65c_init_da8c8 cJx4a65c_init_da8c8 1 none :: zG
abbrev ws_Jx4a65c_size_8abf5 : List Cond := Cond.code yJx4a65c_size_8abf5 cJx4a65c_size_8abf5 1 (some .int) :: zG
abbrev ws_X3_init : List Cond := Cond.code yX3_init cX3_init 1 none :: zG
abbrev ws_X4_accountAt : List Cond := Cond.code yX4_accountAt cX4_accountAt 2 (some (.object "StatementCycle$Account")) :: zG
abbrev ws_X1_init : List Cond := Cond.code yX1_init cX1_init 2 none :: zG
abbrev ws_X4_init : List Cond := Cond.code yX4_init cX4_init 1 none :: zG
abbrev ws_X8_init : List Cond := Cond.code yX8_init cX8_init 1 none :: zG
abbrev ws_X8_isIn : List Cond := Cond.code yX8_isIn cX8_isIn 3 (some .boolean) :: zG
abbrev ws_X8_isAccount : List Cond := Cond.code yX8_isAccount cX8_isAccount 2 (some .boolean) :: zG
abbrev ws_X8_isEvent : List Cond := Cond.code yX8_isEvent cX8_isEvent 3 (some .boolean) :: zG
abbrev ws_X8_thrown : List Cond := Cond.code yX8_thrown cX8_thrown 1 (some .int) :: zG
abbrev ws_X8_no : List Cond := Cond.code yX8_no cX8_no 3 (some .boolean) :: zG
abbrev ws_X4_setLimit : List Cond := Cond.code yX4_setLimit cX4_setLimit 5 (some .int) :: zG
abbrev ws_X4_block : List Cond := Cond.code yX4_block cX4_block 5 (some .boolean) :: zG
abbrev ws_X4_setRate : List Cond := Cond.code yX4_setRate cX4_setRate 7 (some .int) :: zG
abbrev ws_X4_promote : List Cond := Cond.code yX4_promote cX4_promote 6 (some .int) :: zG
abbrev ws_X4_buy : List Cond := Cond.code yX4_buy cX4_buy 6 (some .int) :: zG
abbrev ws_X4_buyOn : List Cond := Cond.code yX4_buyOn cX4_buyOn 7 (some .int) :: zG
abbrev ws_X4_abroad : List Cond := Cond.code yX4_abroad cX4_abroad 7 (some .int) :: zG
abbrev ws_X4_pay : List Cond := Cond.code yX4_pay cX4_pay 4 (some .int) :: zG
abbrev ws_X4_returns : List Cond := Cond.code yX4_returns cX4_returns 5 (some .int) :: zG
abbrev ws_X4_dispute : List Cond := Cond.code yX4_dispute cX4_dispute 5 (some .int) :: zG
abbrev ws_X4_settle : List Cond := Cond.code yX4_settle cX4_settle 6 (some .long) :: zG
abbrev ws_X4_reverse : List Cond := Cond.code yX4_reverse cX4_reverse 5 (some .long) :: zG
abbrev ws_X4_plan : List Cond := Cond.code yX4_plan cX4_plan 3 (some .int) :: zG
abbrev ws_X4_redeem : List Cond := Cond.code yX4_redeem cX4_redeem 4 (some .int) :: zG
abbrev ws_X4_owed : List Cond := Cond.code yX4_owed cX4_owed 2 (some .long) :: zG
abbrev ws_X4_bucket : List Cond := Cond.code yX4_bucket cX4_bucket 5 (some .long) :: zG
abbrev ws_X4_credit : List Cond := Cond.code yX4_credit cX4_credit 2 (some .long) :: zG
abbrev ws_X4_statement : List Cond := Cond.code yX4_statement cX4_statement 3 (some .long) :: zG
abbrev ws_X4_told : List Cond := Cond.code yX4_told cX4_told 3 (some .long) :: zG
abbrev ws_X4_difference : List Cond := Cond.code yX4_difference cX4_difference 6 (some .long) :: zG
abbrev ws_X4_least : List Cond := Cond.code yX4_least cX4_least 3 (some .long) :: zG
abbrev ws_X4_interest : List Cond := Cond.code yX4_interest cX4_interest 3 (some .long) :: zG
abbrev ws_X4_hadGrace : List Cond := Cond.code yX4_hadGrace cX4_hadGrace 3 (some .boolean) :: zG
abbrev ws_X4_paid : List Cond := Cond.code yX4_paid cX4_paid 3 (some .char) :: zG
abbrev ws_X4_missing : List Cond := Cond.code yX4_missing cX4_missing 2 (some .long) :: zG
abbrev ws_X4_missed : List Cond := Cond.code yX4_missed cX4_missed 2 (some .int) :: zG
abbrev ws_X4_isOff : List Cond := Cond.code yX4_isOff cX4_isOff 2 (some .boolean) :: zG
abbrev ws_X4_points : List Cond := Cond.code yX4_points cX4_points 2 (some .long) :: zG
abbrev ws_X4_events : List Cond := Cond.code yX4_events cX4_events 2 (some .int) :: zG
abbrev ws_X4_kindOf : List Cond := Cond.code yX4_kindOf cX4_kindOf 3 (some .char) :: zG
abbrev ws_X4_isBack : List Cond := Cond.code yX4_isBack cX4_isBack 3 (some .boolean) :: zG
abbrev ws_X4_sum : List Cond := Cond.code yX4_sum cX4_sum 3 (some .int) :: zG
abbrev ws_X4_why : List Cond := Cond.code yX4_why cX4_why 7 (some .char) :: zG
abbrev ws_X4_reasons : List Cond := Cond.code yX4_reasons cX4_reasons 6 (some .int) :: zG
abbrev ws_X8_setLimit : List Cond := Cond.code yX8_setLimit cX8_setLimit 4 (some .int) :: zG
abbrev ws_X8_block : List Cond := Cond.code yX8_block cX8_block 4 (some .boolean) :: zG
abbrev ws_X8_setRate : List Cond := Cond.code yX8_setRate cX8_setRate 4 (some .int) :: zG
abbrev ws_X8_promote : List Cond := Cond.code yX8_promote cX8_promote 4 (some .int) :: zG
abbrev ws_X8_buy : List Cond := Cond.code yX8_buy cX8_buy 4 (some .int) :: zG
abbrev ws_X8_buyOn : List Cond := Cond.code yX8_buyOn cX8_buyOn 5 (some .int) :: zG
abbrev ws_X8_abroad : List Cond := Cond.code yX8_abroad cX8_abroad 6 (some .int) :: zG
abbrev ws_X8_pay : List Cond := Cond.code yX8_pay cX8_pay 3 (some .int) :: zG
abbrev ws_X8_returns : List Cond := Cond.code yX8_returns cX8_returns 3 (some .int) :: zG
abbrev ws_X8_dispute : List Cond := Cond.code yX8_dispute cX8_dispute 7 (some .int) :: zG
abbrev ws_X8_settle : List Cond := Cond.code yX8_settle cX8_settle 4 (some .long) :: zG
abbrev ws_X8_reverse : List Cond := Cond.code yX8_reverse cX8_reverse 4 (some .long) :: zG
abbrev ws_X8_plan : List Cond := Cond.code yX8_plan cX8_plan 5 (some .int) :: zG
abbrev ws_X8_redeem : List Cond := Cond.code yX8_redeem cX8_redeem 3 (some .int) :: zG
abbrev ws_X8_owed : List Cond := Cond.code yX8_owed cX8_owed 2 (some .long) :: zG
abbrev ws_X8_bucket : List Cond := Cond.code yX8_bucket cX8_bucket 3 (some .long) :: zG
abbrev ws_X8_credit : List Cond := Cond.code yX8_credit cX8_credit 2 (some .long) :: zG
abbrev ws_X8_statement : List Cond := Cond.code yX8_statement cX8_statement 3 (some .long) :: zG
abbrev ws_X8_told : List Cond := Cond.code yX8_told cX8_told 3 (some .long) :: zG
abbrev ws_X8_difference : List Cond := Cond.code yX8_difference cX8_difference 3 (some .long) :: zG
abbrev ws_X8_least : List Cond := Cond.code yX8_least cX8_least 3 (some .long) :: zG
abbrev ws_X8_interest : List Cond := Cond.code yX8_interest cX8_interest 3 (some .long) :: zG
abbrev ws_X8_hadGrace : List Cond := Cond.code yX8_hadGrace cX8_hadGrace 3 (some .boolean) :: zG
abbrev ws_X8_paid : List Cond := Cond.code yX8_paid cX8_paid 4 (some .char) :: zG
abbrev ws_X8_missing : List Cond := Cond.code yX8_missing cX8_missing 2 (some .long) :: zG
abbrev ws_X8_missed : List Cond := Cond.code yX8_missed cX8_missed 2 (some .int) :: zG
abbrev ws_X8_isOff : List Cond := Cond.code yX8_isOff cX8_isOff 2 (some .boolean) :: zG
abbrev ws_X8_points : List Cond := Cond.code yX8_points cX8_points 2 (some .long) :: zG
abbrev ws_X8_events : List Cond := Cond.code yX8_events cX8_events 2 (some .int) :: zG
abbrev ws_X8_kindOf : List Cond := Cond.code yX8_kindOf cX8_kindOf 3 (some .char) :: zG
abbrev ws_X8_isBack : List Cond := Cond.code yX8_isBack cX8_isBack 3 (some .boolean) :: zG
abbrev ws_X8_sum : List Cond := Cond.code yX8_sum cX8_sum 3 (some .int) :: zG
abbrev ws_X8_why : List Cond := Cond.code yX8_why cX8_why 6 (some .char) :: zG
abbrev ws_X8_reasons : List Cond := Cond.code yX8_reasons cX8_reasons 4 (some .int) :: zG
abbrev ws_L_setLimit : List Cond := Cond.codeWith yL_setLimit cL_setLimit 5 (some .int) [(0, 10, 13, 21), (0, 10, 17, 13)] :: zG
abbrev ws_L_block : List Cond := Cond.codeWith yL_block cL_block 5 (some .int) [(0, 17, 20, 21)] :: zG
abbrev ws_L_setRate : List Cond := Cond.codeWith yL_setRate cL_setRate 6 (some .int) [(0, 12, 15, 21), (0, 12, 19, 13), (0, 12, 23, 15)] :: zG
abbrev ws_L_promote : List Cond := Cond.codeWith yL_promote cL_promote 6 (some .int) [(0, 12, 15, 21), (0, 12, 19, 13), (0, 12, 23, 15)] :: zG
abbrev ws_L_buy : List Cond := Cond.codeWith yL_buy cL_buy 6 (some .int) [(0, 12, 15, 21), (0, 12, 19, 13), (0, 12, 23, 41), (0, 12, 27, 15)] :: zG
abbrev ws_L_buyOn : List Cond := Cond.codeWith yL_buyOn cL_buyOn 7 (some .int) [(0, 14, 17, 21), (0, 14, 21, 13), (0, 14, 25, 15)] :: zG
abbrev ws_L_abroad : List Cond := Cond.codeWith yL_abroad cL_abroad 6 (some .int) [(0, 12, 15, 21), (0, 12, 19, 13), (0, 12, 23, 41), (0, 12, 27, 15)] :: zG
abbrev ws_L_pay : List Cond := Cond.codeWith yL_pay cL_pay 5 (some .int) [(0, 10, 13, 21), (0, 10, 17, 13), (0, 10, 21, 15)] :: zG
abbrev ws_L_returns : List Cond := Cond.codeWith yL_returns cL_returns 5 (some .int) [(0, 10, 13, 21), (0, 10, 17, 41), (0, 10, 21, 15)] :: zG
abbrev ws_L_dispute : List Cond := Cond.codeWith yL_dispute cL_dispute 5 (some .int) [(0, 10, 13, 21), (0, 10, 17, 41)] :: zG
abbrev ws_L_settle : List Cond := Cond.codeWith yL_settle cL_settle 6 (some .int) [(0, 11, 14, 21), (0, 11, 18, 41)] :: zG
abbrev ws_L_reverse : List Cond := Cond.codeWith yL_reverse cL_reverse 5 (some .int) [(0, 9, 12, 21), (0, 9, 16, 41)] :: zG
abbrev ws_L_plan : List Cond := Cond.codeWith yL_plan cL_plan 4 (some .int) [(0, 9, 12, 21), (0, 9, 15, 41), (0, 9, 18, 15)] :: zG
abbrev ws_L_redeem : List Cond := Cond.codeWith yL_redeem cL_redeem 5 (some .int) [(0, 10, 13, 21), (0, 10, 17, 13), (0, 10, 21, 41), (0, 10, 25, 15)] :: zG
abbrev ws_L_owed : List Cond := Cond.codeWith yL_owed cL_owed 4 (some .int) [(0, 8, 11, 21)] :: zG
abbrev ws_L_bucket : List Cond := Cond.codeWith yL_bucket cL_bucket 5 (some .int) [(0, 9, 12, 21), (0, 9, 16, 13)] :: zG
abbrev ws_L_credit : List Cond := Cond.codeWith yL_credit cL_credit 4 (some .int) [(0, 8, 11, 21)] :: zG
abbrev ws_L_statement : List Cond := Cond.codeWith yL_statement cL_statement 5 (some .int) [(0, 9, 12, 21), (0, 9, 16, 90)] :: zG
abbrev ws_L_told : List Cond := Cond.codeWith yL_told cL_told 5 (some .int) [(0, 9, 12, 21), (0, 9, 16, 90)] :: zG
abbrev ws_L_difference : List Cond := Cond.codeWith yL_difference cL_difference 5 (some .int) [(0, 9, 12, 21), (0, 9, 16, 90)] :: zG
abbrev ws_L_least : List Cond := Cond.codeWith yL_least cL_least 5 (some .int) [(0, 9, 12, 21), (0, 9, 16, 90)] :: zG
abbrev ws_L_interest : List Cond := Cond.codeWith yL_interest cL_interest 5 (some .int) [(0, 9, 12, 21), (0, 9, 16, 90)] :: zG
abbrev ws_L_hadGrace : List Cond := Cond.codeWith yL_hadGrace cL_hadGrace 5 (some .int) [(0, 17, 20, 21), (0, 17, 24, 90)] :: zG
abbrev ws_L_paid : List Cond := Cond.codeWith yL_paid cL_paid 5 (some .int) [(0, 10, 13, 21), (0, 10, 17, 90)] :: zG
abbrev ws_L_missing : List Cond := Cond.codeWith yL_missing cL_missing 4 (some .int) [(0, 8, 11, 21)] :: zG
abbrev ws_L_missed : List Cond := Cond.codeWith yL_missed cL_missed 4 (some .int) [(0, 9, 12, 21)] :: zG
abbrev ws_L_isOff : List Cond := Cond.codeWith yL_isOff cL_isOff 4 (some .int) [(0, 16, 19, 21)] :: zG
abbrev ws_L_points : List Cond := Cond.codeWith yL_points cL_points 4 (some .int) [(0, 8, 11, 21)] :: zG
abbrev ws_L_events : List Cond := Cond.codeWith yL_events cL_events 4 (some .int) [(0, 9, 12, 21)] :: zG
abbrev ws_L_kindOf : List Cond := Cond.codeWith yL_kindOf cL_kindOf 5 (some .int) [(0, 10, 13, 21)] :: zG
abbrev ws_L_isBack : List Cond := Cond.codeWith yL_isBack cL_isBack 5 (some .int) [(0, 17, 20, 21)] :: zG
abbrev ws_L_sum : List Cond := Cond.codeWith yL_sum cL_sum 5 (some .int) [(0, 10, 13, 21)] :: zG
abbrev ws_L_why : List Cond := Cond.codeWith yL_why cL_why 6 (some .int) [(0, 12, 15, 21), (0, 12, 19, 13)] :: zG
abbrev ws_L_reasons : List Cond := Cond.codeWith yL_reasons cL_reasons 6 (some .int) [(0, 12, 15, 21), (0, 12, 19, 13)] :: zG
abbrev ws_X4_checkRange : List Cond := Cond.code yX4_checkRange cX4_checkRange 3 none :: zG
abbrev ws_Jx4a65c_grow_92f84 : List Cond := Cond.code yJx4a65c_grow_92f84 cJx4a65c_grow_92f84 4 (some (.array (.object "java/lang/Object"))) :: zG
abbrev ws_Jx4a65c_grow_d5877 : List Cond := Cond.code yJx4a65c_grow_d5877 cJx4a65c_grow_d5877 1 (some (.array (.object "java/lang/Object"))) :: zG
abbrev ws_Jx4a65c_add_72be8 : List Cond := Cond.code yJx4a65c_add_72be8 cJx4a65c_add_72be8 4 none :: zG
abbrev ws_Jx4a65c_add_9ea2d : List Cond := Cond.code yJx4a65c_add_9ea2d cJx4a65c_add_9ea2d 2 (some .boolean) :: zG
abbrev ws_J3_checkIndex_8e157 : List Cond := Cond.code yJ3_checkIndex_8e157 cJ3_checkIndex_8e157 3 (some .int) :: zG
abbrev ws_J15_checkIndex_7cf53 : List Cond := Cond.code yJ15_checkIndex_7cf53 cJ15_checkIndex_7cf53 2 (some .int) :: zG
abbrev ws_Jx4a65c_elementData_915e3 : List Cond := Cond.code yJx4a65c_elementData_915e3 cJx4a65c_elementData_915e3 2 (some (.object "java/lang/Object")) :: zG
abbrev ws_Jx4a65c_get_915e3 : List Cond := Cond.code yJx4a65c_get_915e3 cJx4a65c_get_915e3 2 (some (.object "java/lang/Object")) :: zG
abbrev ws_X0_init : List Cond := Cond.code yX0_init cX0_init 3 none :: zG
abbrev ws_X5_init : List Cond := Cond.code yX5_init cX5_init 1 none :: zG
abbrev ws_X4_open : List Cond := Cond.code yX4_open cX4_open 2 (some .int) :: zG
abbrev ws_X8_open : List Cond := Cond.code yX8_open cX8_open 2 (some .int) :: zG
abbrev ws_X4_setCurrency : List Cond := Cond.code yX4_setCurrency cX4_setCurrency 4 (some .int) :: zG
abbrev ws_X8_setCurrency : List Cond := Cond.code yX8_setCurrency cX8_setCurrency 4 (some .int) :: zG
abbrev ws_X4_pass : List Cond := Cond.code yX4_pass cX4_pass 6 (some .int) :: zG
abbrev ws_X8_pass : List Cond := Cond.code yX8_pass cX8_pass 4 (some .int) :: zG
abbrev ws_X4_collected : List Cond := Cond.code yX4_collected cX4_collected 4 (some .long) :: zG
abbrev ws_X4_today : List Cond := Cond.code yX4_today cX4_today 1 (some .int) :: zG
abbrev ws_X4_checksum : List Cond := Cond.code yX4_checksum cX4_checksum 7 (some .long) :: zG
abbrev ws_X4_missedShare : List Cond := Cond.code yX4_missedShare cX4_missedShare 5 (some .float) :: zG
abbrev ws_X4_meanOwed : List Cond := Cond.code yX4_meanOwed cX4_meanOwed 5 (some .double) :: zG
abbrev ws_X4_isSound : List Cond := Cond.code yX4_isSound cX4_isSound 4 (some .boolean) :: zG
abbrev ws_Jx35411_init_45d68 : List Cond := Cond.code yJx35411_init_45d68 cJx35411_init_45d68 2 none :: zG
abbrev ws_Jx4a65c_iterator_32c93 : List Cond := Cond.code yJx4a65c_iterator_32c93 cJx4a65c_iterator_32c93 1 (some (.object "java/util/Iterator")) :: zG
abbrev ws_Jx35411_hasNext_aae02 : List Cond := Cond.code yJx35411_hasNext_aae02 cJx35411_hasNext_aae02 1 (some .boolean) :: zG
abbrev ws_Jx4a65c_isEmpty_aae02 : List Cond := Cond.code yJx4a65c_isEmpty_aae02 cJx4a65c_isEmpty_aae02 1 (some .boolean) :: zG
abbrev ws_X8_collected : List Cond := Cond.code yX8_collected cX8_collected 7 (some .long) :: zG
abbrev ws_X8_today : List Cond := Cond.code yX8_today cX8_today 1 (some .int) :: zG
abbrev ws_X8_checksum : List Cond := Cond.code yX8_checksum cX8_checksum 10 (some .long) :: zG
abbrev ws_X8_missedShare : List Cond := Cond.code yX8_missedShare cX8_missedShare 5 (some .float) :: zG
abbrev ws_X8_meanOwed : List Cond := Cond.code yX8_meanOwed cX8_meanOwed 4 (some .double) :: zG
abbrev ws_X8_isSound : List Cond := Cond.code yX8_isSound cX8_isSound 1 (some .boolean) :: zG
abbrev ws_L_open : List Cond := Cond.codeWith yL_open cL_open 4 (some .int) [(0, 9, 12, 13), (0, 9, 15, 15)] :: zG
abbrev ws_L_setCurrency : List Cond := Cond.codeWith yL_setCurrency cL_setCurrency 5 (some .int) [(0, 10, 13, 13)] :: zG
abbrev ws_L_pass : List Cond := Cond.codeWith yL_pass cL_pass 4 (some .int) [(0, 9, 12, 13), (0, 9, 15, 15)] :: zG
abbrev ws_L_missedShare : List Cond := Cond.codeWith yL_missedShare cL_missedShare 3 (some .int) [(0, 8, 11, 148)] :: zG
abbrev ws_L_meanOwed : List Cond := Cond.codeWith yL_meanOwed cL_meanOwed 3 (some .int) [(0, 7, 10, 148)] :: zG
def zW : Nat → Int32 := upd (upd (upd (upd (fun _ => 0) (0 : Int32).toNatClampNeg 1000) (1 : Int32).toNatClampNeg 1000) (2 : Int32).toNatClampNeg 1000) (3 : Int32).toNatClampNeg 1000
theorem zi_none (a : Int32) : a < 0 ∨ (-1 : Int32) < a := by
  have h1 := Int32.lt_iff_toInt_lt (x := a) (y := 0)
  have h2 := Int32.lt_iff_toInt_lt (x := -1) (y := a)
  have e0 : ((0 : Int32)).toInt = 0 := by decide
  have e1 : ((-1 : Int32)).toInt = -1 := by decide
  rw [e0] at h1
  rw [e1] at h2
  by_cases h : a.toInt < 0
  · exact Or.inl (h1.mpr h)
  · exact Or.inr (h2.mpr (by omega))
theorem zi_le {v hi : Int32} (h : ¬ hi < v) : v ≤ hi := by
  rw [Int32.lt_iff_toInt_lt] at h
  rw [Int32.le_iff_toInt_le]
  omega
theorem zi_nle {v hi : Int32} (h : hi < v) : ¬ v ≤ hi := by
  rw [Int32.lt_iff_toInt_lt] at h
  rw [Int32.le_iff_toInt_le]
  omega
def zE (e : Nat) : Nat → Option Nat := va_up (fun _ => none) (0 : Int32).toNatClampNeg (some e)
theorem zi_in4 {a : Int32} (h1 : ¬ a < 0) (h2 : ¬ 3 < a) : vp_in a 4 := by
  rw [Int32.lt_iff_toInt_lt] at h1 h2
  have e0 : ((0 : Int32)).toInt = 0 := by decide
  have e3 : ((3 : Int32)).toInt = 3 := by decide
  rw [e0] at h1
  rw [e3] at h2
  exact vp_in_iff.mpr ⟨by omega, by omega⟩
theorem zi_360 {a : Int32} (h2 : ¬ 30 < a) : a ≤ 360 := by
  rw [Int32.lt_iff_toInt_lt] at h2
  rw [Int32.le_iff_toInt_le]
  have e0 : ((30 : Int32)).toInt = 30 := by decide
  have e3 : ((360 : Int32)).toInt = 360 := by decide
  omega
theorem zi_n0 {a : Int32} (h1 : ¬ a < 1) : ¬ a ≤ 0 := by
  rw [Int32.lt_iff_toInt_lt] at h1
  rw [Int32.le_iff_toInt_le]
  have e0 : ((1 : Int32)).toInt = 1 := by decide
  have e3 : ((0 : Int32)).toInt = 0 := by decide
  omega
theorem zi_n30 {a : Int32} (h : ¬ a ≤ 30) : ¬ a ≤ 30 := h
theorem zi_pin {a x y : Int32} (h1 : ¬ a ≤ x) (h2 : a ≤ y) (h3 : y.toInt = x.toInt + 1 := by decide) : y = a := by
  rw [Int32.le_iff_toInt_le] at h1 h2
  exact Int32.toInt_inj.mp (by omega)
theorem zi_cmp (x : Int64) : lg_cmp x x = 0 := by
  have h1 := (lg_cmp_ge x x).mpr (Int64.le_refl x)
  have h2 := (lg_cmp_le x x).mpr (Int64.le_refl x)
  exact Int32.le_antisymm h2 h1
