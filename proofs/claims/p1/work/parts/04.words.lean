theorem zi_sub {ws : List Cond} (ps : List Nat) (h : ws = ps.filterMap (fun i => lw_tbl[i]?)) : ∀ w ∈ ws, w ∈ lw_tbl := fun w hw => by
  rw [h] at hw
  obtain ⟨i, -, hi⟩ := List.mem_filterMap.mp hw
  exact List.mem_of_getElem? hi
theorem kw_30 : Cond.selects RX4 yX4_accountAt yX4_accountAt ∈ zG := zg_mem 30 (by decide +kernel) (by decide +kernel)
theorem kw_40 : Cond.selects RX8 yX8_no yX8_no ∈ zG := zg_mem 40 (by decide +kernel) (by decide +kernel)
theorem kw_41 : Cond.selects RX8 yX8_isAccount yX8_isAccount ∈ zG := zg_mem 41 (by decide +kernel) (by decide +kernel)
theorem kw_58 : Cond.selects RX8 yX8_isEvent yX8_isEvent ∈ zG := zg_mem 58 (by decide +kernel) (by decide +kernel)
theorem kw_64 : Cond.initialized RX4 ∈ zG := zg_mem 64 (by decide +kernel) (by decide +kernel)
theorem kw_65 : Cond.initialized RJxa1e45 ∈ zG := zg_mem 65 (by decide +kernel) (by decide +kernel)
theorem kw_66 : Cond.initialized RJxc12de ∈ zG := zg_mem 66 (by decide +kernel) (by decide +kernel)
theorem kw_67 : Cond.initialized RJx4a65c ∈ zG := zg_mem 67 (by decide +kernel) (by decide +kernel)
theorem kw_68 : Cond.initialized RX1 ∈ zG := zg_mem 68 (by decide +kernel) (by decide +kernel)
theorem kw_69 : Cond.initialized RX3 ∈ zG := zg_mem 69 (by decide +kernel) (by decide +kernel)
theorem kw_70 : Cond.initialized RX8 ∈ zG := zg_mem 70 (by decide +kernel) (by decide +kernel)
theorem kw_84 : Cond.initialized "java/lang/IndexOutOfBoundsException" ∈ zG := zg_mem 84 (by decide +kernel) (by decide +kernel)
theorem kw_107 : Cond.code yX4_init cX4_init 1 none ∈ zG := zg_mem 107 (by decide +kernel) (by decide +kernel)
theorem kw_108 : Cond.methodLink RX4 1 objectInit ∈ zG := zg_mem 108 (by decide +kernel) (by decide +kernel)
theorem kw_109 : Cond.instanceMethod objectInit ∈ zG := zg_mem 109 (by decide +kernel) (by decide +kernel)
theorem kw_110 : Cond.code objectInit ⟨#[0xb1]⟩ 1 none ∈ zG := zg_mem 110 (by decide +kernel) (by decide +kernel)
theorem kw_111 : Cond.classLink RX4 7 RJx4a65c ∈ zG := zg_mem 111 (by decide +kernel) (by decide +kernel)
theorem kw_112 : Cond.instantiable RJx4a65c 3 ∈ zG := zg_mem 112 (by decide +kernel) (by decide +kernel)
theorem kw_113 : Cond.methodLink RX4 9 yJx4a65c_init_da8c8 ∈ zG := zg_mem 113 (by decide +kernel) (by decide +kernel)
theorem kw_114 : Cond.instanceMethod yJx4a65c_init_da8c8 ∈ zG := zg_mem 114 (by decide +kernel) (by decide +kernel)
theorem kw_115 : Cond.code yJx4a65c_init_da8c8 cJx4a65c_init_da8c8 1 none ∈ zG := zg_mem 115 (by decide +kernel) (by decide +kernel)
theorem kw_116 : Cond.methodLink RJx4a65c 1 yJxc12de_init_da8c8 ∈ zG := zg_mem 116 (by decide +kernel) (by decide +kernel)
theorem kw_117 : Cond.instanceMethod yJxc12de_init_da8c8 ∈ zG := zg_mem 117 (by decide +kernel) (by decide +kernel)
theorem kw_118 : Cond.code yJxc12de_init_da8c8 cJxc12de_init_da8c8 1 none ∈ zG := zg_mem 118 (by decide +kernel) (by decide +kernel)
theorem kw_119 : Cond.methodLink RJxc12de 1 yJxa1e45_init_da8c8 ∈ zG := zg_mem 119 (by decide +kernel) (by decide +kernel)
theorem kw_120 : Cond.instanceMethod yJxa1e45_init_da8c8 ∈ zG := zg_mem 120 (by decide +kernel) (by decide +kernel)
theorem kw_121 : Cond.code yJxa1e45_init_da8c8 cJxa1e45_init_da8c8 1 none ∈ zG := zg_mem 121 (by decide +kernel) (by decide +kernel)
theorem kw_122 : Cond.methodLink RJxa1e45 1 objectInit ∈ zG := zg_mem 122 (by decide +kernel) (by decide +kernel)
theorem kw_123 : Cond.fieldLink RJx4a65c 39 "java/util/ArrayList" "DEFAULTCAPACITY_EMPTY_ELEMENTDATA" "[Ljava/lang/Object;" ∈ zG := zg_mem 123 (by decide +kernel) (by decide +kernel)
theorem kw_125 : Cond.fieldLink RJx4a65c 9 "java/util/ArrayList" "elementData" "[Ljava/lang/Object;" ∈ zG := zg_mem 125 (by decide +kernel) (by decide +kernel)
theorem kw_128 : Cond.fieldLink RJx4a65c 48 "java/util/ArrayList" "size" "I" ∈ zG := zg_mem 128 (by decide +kernel) (by decide +kernel)
theorem kw_129 : Cond.fieldLink RJxc12de 7 "java/util/AbstractList" "modCount" "I" ∈ zG := zg_mem 129 (by decide +kernel) (by decide +kernel)
theorem kw_140 : Cond.classLink RX4 20 RX1 ∈ zG := zg_mem 140 (by decide +kernel) (by decide +kernel)
theorem kw_141 : Cond.instantiable RX1 17 ∈ zG := zg_mem 141 (by decide +kernel) (by decide +kernel)
theorem kw_143 : Cond.instanceMethod yX1_init ∈ zG := zg_mem 143 (by decide +kernel) (by decide +kernel)
theorem kw_144 : Cond.code yX1_init cX1_init 2 none ∈ zG := zg_mem 144 (by decide +kernel) (by decide +kernel)
theorem kw_145 : Cond.methodLink RX1 3 objectInit ∈ zG := zg_mem 145 (by decide +kernel) (by decide +kernel)
theorem kw_146 : Cond.classLink RX1 25 RX3 ∈ zG := zg_mem 146 (by decide +kernel) (by decide +kernel)
theorem kw_148 : Cond.instantiable RX3 5 ∈ zG := zg_mem 148 (by decide +kernel) (by decide +kernel)
theorem kw_150 : Cond.instanceMethod yX3_init ∈ zG := zg_mem 150 (by decide +kernel) (by decide +kernel)
theorem kw_151 : Cond.code yX3_init cX3_init 1 none ∈ zG := zg_mem 151 (by decide +kernel) (by decide +kernel)
theorem kw_152 : Cond.methodLink RX3 1 objectInit ∈ zG := zg_mem 152 (by decide +kernel) (by decide +kernel)
theorem kw_179 : Cond.arrayClass .int ∈ zG := zg_mem 179 (by decide +kernel) (by decide +kernel)
theorem kw_180 : Cond.arrayClass .long ∈ zG := zg_mem 180 (by decide +kernel) (by decide +kernel)
theorem kw_181 : Cond.fieldLink RX1 9 "StatementCycle$Books" "owed" "[J" ∈ zG := zg_mem 181 (by decide +kernel) (by decide +kernel)
theorem kw_183 : Cond.fieldLink RX1 15 "StatementCycle$Books" "accrued" "[J" ∈ zG := zg_mem 183 (by decide +kernel) (by decide +kernel)
theorem kw_184 : Cond.fieldLink RX1 18 "StatementCycle$Books" "rates" "[I" ∈ zG := zg_mem 184 (by decide +kernel) (by decide +kernel)
theorem kw_185 : Cond.fieldLink RX1 22 "StatementCycle$Books" "ratesOfDay" "[I" ∈ zG := zg_mem 185 (by decide +kernel) (by decide +kernel)
theorem kw_186 : Cond.fieldLink RX1 27 "StatementCycle$Books" "statements" "[LStatementCycle$Statement;" ∈ zG := zg_mem 186 (by decide +kernel) (by decide +kernel)
theorem kw_240 : Cond.fieldLink RX4 10 "StatementCycle" "accounts" "Ljava/util/ArrayList;" ∈ zG := zg_mem 240 (by decide +kernel) (by decide +kernel)
theorem kw_241 : Cond.fieldLink RX4 16 "StatementCycle" "worths" "[I" ∈ zG := zg_mem 241 (by decide +kernel) (by decide +kernel)
theorem kw_242 : Cond.fieldLink RX4 23 "StatementCycle" "recomputed" "LStatementCycle$Books;" ∈ zG := zg_mem 242 (by decide +kernel) (by decide +kernel)
theorem kw_257 : Cond.methodLink RX4 32 yJx4a65c_size_8abf5 ∈ zG := zg_mem 257 (by decide +kernel) (by decide +kernel)
theorem kw_258 : Cond.instanceMethod yJx4a65c_size_8abf5 ∈ zG := zg_mem 258 (by decide +kernel) (by decide +kernel)
theorem kw_259 : Cond.selects RJx4a65c yJx4a65c_size_8abf5 yJx4a65c_size_8abf5 ∈ zG := zg_mem 259 (by decide +kernel) (by decide +kernel)
theorem kw_260 : Cond.code yJx4a65c_size_8abf5 cJx4a65c_size_8abf5 1 (some .int) ∈ zG := zg_mem 260 (by decide +kernel) (by decide +kernel)
theorem kw_667 : Cond.code yX4_setLimit cX4_setLimit 5 (some .int) ∈ zG := zg_mem 667 (by decide +kernel) (by decide +kernel)
theorem kw_668 : Cond.methodLink RX4 52 yX4_accountAt ∈ zG := zg_mem 668 (by decide +kernel) (by decide +kernel)
theorem kw_670 : Cond.instanceMethod yX4_accountAt ∈ zG := zg_mem 670 (by decide +kernel) (by decide +kernel)
theorem kw_671 : Cond.code yX4_accountAt cX4_accountAt 2 (some (.object "StatementCycle$Account")) ∈ zG := zg_mem 671 (by decide +kernel) (by decide +kernel)
theorem kw_672 : Cond.classLink RX4 234 "java/lang/IndexOutOfBoundsException" ∈ zG := zg_mem 672 (by decide +kernel) (by decide +kernel)
theorem kw_693 : Cond.code yX4_block cX4_block 5 (some .boolean) ∈ zG := zg_mem 693 (by decide +kernel) (by decide +kernel)
theorem kw_700 : Cond.code yX4_setRate cX4_setRate 7 (some .int) ∈ zG := zg_mem 700 (by decide +kernel) (by decide +kernel)
theorem kw_1012 : Cond.code yX4_promote cX4_promote 6 (some .int) ∈ zG := zg_mem 1012 (by decide +kernel) (by decide +kernel)
theorem kw_1028 : Cond.code yX4_buy cX4_buy 6 (some .int) ∈ zG := zg_mem 1028 (by decide +kernel) (by decide +kernel)
theorem kw_1056 : Cond.code yX4_buyOn cX4_buyOn 7 (some .int) ∈ zG := zg_mem 1056 (by decide +kernel) (by decide +kernel)
theorem kw_1063 : Cond.code yX4_abroad cX4_abroad 7 (some .int) ∈ zG := zg_mem 1063 (by decide +kernel) (by decide +kernel)
theorem kw_1070 : Cond.code yX4_pay cX4_pay 4 (some .int) ∈ zG := zg_mem 1070 (by decide +kernel) (by decide +kernel)
theorem kw_1077 : Cond.code yX4_returns cX4_returns 5 (some .int) ∈ zG := zg_mem 1077 (by decide +kernel) (by decide +kernel)
theorem kw_1091 : Cond.code yX4_dispute cX4_dispute 5 (some .int) ∈ zG := zg_mem 1091 (by decide +kernel) (by decide +kernel)
theorem kw_1106 : Cond.code yX4_settle cX4_settle 6 (some .long) ∈ zG := zg_mem 1106 (by decide +kernel) (by decide +kernel)
theorem kw_1114 : Cond.code yX4_reverse cX4_reverse 5 (some .long) ∈ zG := zg_mem 1114 (by decide +kernel) (by decide +kernel)
theorem kw_1121 : Cond.code yX4_plan cX4_plan 3 (some .int) ∈ zG := zg_mem 1121 (by decide +kernel) (by decide +kernel)
theorem kw_1132 : Cond.code yX4_redeem cX4_redeem 4 (some .int) ∈ zG := zg_mem 1132 (by decide +kernel) (by decide +kernel)
theorem kw_1146 : Cond.code yX4_owed cX4_owed 2 (some .long) ∈ zG := zg_mem 1146 (by decide +kernel) (by decide +kernel)
theorem kw_1153 : Cond.code yX4_bucket cX4_bucket 5 (some .long) ∈ zG := zg_mem 1153 (by decide +kernel) (by decide +kernel)
theorem kw_1160 : Cond.code yX4_credit cX4_credit 2 (some .long) ∈ zG := zg_mem 1160 (by decide +kernel) (by decide +kernel)
theorem kw_1168 : Cond.code yX4_statement cX4_statement 3 (some .long) ∈ zG := zg_mem 1168 (by decide +kernel) (by decide +kernel)
theorem kw_1194 : Cond.code yX4_told cX4_told 3 (some .long) ∈ zG := zg_mem 1194 (by decide +kernel) (by decide +kernel)
theorem kw_1205 : Cond.code yX4_difference cX4_difference 6 (some .long) ∈ zG := zg_mem 1205 (by decide +kernel) (by decide +kernel)
theorem kw_1212 : Cond.code yX4_least cX4_least 3 (some .long) ∈ zG := zg_mem 1212 (by decide +kernel) (by decide +kernel)
theorem kw_1219 : Cond.code yX4_interest cX4_interest 3 (some .long) ∈ zG := zg_mem 1219 (by decide +kernel) (by decide +kernel)
theorem kw_1226 : Cond.code yX4_hadGrace cX4_hadGrace 3 (some .boolean) ∈ zG := zg_mem 1226 (by decide +kernel) (by decide +kernel)
theorem kw_1233 : Cond.code yX4_paid cX4_paid 3 (some .char) ∈ zG := zg_mem 1233 (by decide +kernel) (by decide +kernel)
theorem kw_1240 : Cond.code yX4_missing cX4_missing 2 (some .long) ∈ zG := zg_mem 1240 (by decide +kernel) (by decide +kernel)
theorem kw_1248 : Cond.code yX4_missed cX4_missed 2 (some .int) ∈ zG := zg_mem 1248 (by decide +kernel) (by decide +kernel)
theorem kw_1255 : Cond.code yX4_isOff cX4_isOff 2 (some .boolean) ∈ zG := zg_mem 1255 (by decide +kernel) (by decide +kernel)
theorem kw_1262 : Cond.code yX4_points cX4_points 2 (some .long) ∈ zG := zg_mem 1262 (by decide +kernel) (by decide +kernel)
theorem kw_1269 : Cond.code yX4_events cX4_events 2 (some .int) ∈ zG := zg_mem 1269 (by decide +kernel) (by decide +kernel)
theorem kw_1276 : Cond.code yX4_kindOf cX4_kindOf 3 (some .char) ∈ zG := zg_mem 1276 (by decide +kernel) (by decide +kernel)
theorem kw_1283 : Cond.code yX4_isBack cX4_isBack 3 (some .boolean) ∈ zG := zg_mem 1283 (by decide +kernel) (by decide +kernel)
theorem kw_1290 : Cond.code yX4_sum cX4_sum 3 (some .int) ∈ zG := zg_mem 1290 (by decide +kernel) (by decide +kernel)
theorem kw_1297 : Cond.code yX4_why cX4_why 7 (some .char) ∈ zG := zg_mem 1297 (by decide +kernel) (by decide +kernel)
theorem kw_1304 : Cond.code yX4_reasons cX4_reasons 6 (some .int) ∈ zG := zg_mem 1304 (by decide +kernel) (by decide +kernel)
theorem kw_1348 : Cond.code yX8_init cX8_init 1 none ∈ zG := zg_mem 1348 (by decide +kernel) (by decide +kernel)
theorem kw_1349 : Cond.methodLink RX8 1 objectInit ∈ zG := zg_mem 1349 (by decide +kernel) (by decide +kernel)
theorem kw_1350 : Cond.classLink RX8 7 RJx4a65c ∈ zG := zg_mem 1350 (by decide +kernel) (by decide +kernel)
theorem kw_1351 : Cond.methodLink RX8 9 yJx4a65c_init_da8c8 ∈ zG := zg_mem 1351 (by decide +kernel) (by decide +kernel)
theorem kw_1352 : Cond.fieldLink RX8 10 "StatementCycleModel" "accounts" "Ljava/util/List;" ∈ zG := zg_mem 1352 (by decide +kernel) (by decide +kernel)
theorem kw_1353 : Cond.fieldLink RX8 16 "StatementCycleModel" "currencies" "[I" ∈ zG := zg_mem 1353 (by decide +kernel) (by decide +kernel)
theorem kw_1355 : Cond.fieldLink RX8 20 "StatementCycleModel" "thrown" "I" ∈ zG := zg_mem 1355 (by decide +kernel) (by decide +kernel)
theorem kw_1368 : Cond.code yX8_thrown cX8_thrown 1 (some .int) ∈ zG := zg_mem 1368 (by decide +kernel) (by decide +kernel)
theorem kw_1374 : Cond.methodLink RX8 30 yX8_isIn ∈ zG := zg_mem 1374 (by decide +kernel) (by decide +kernel)
theorem kw_1375 : Cond.static yX8_isIn ∈ zG := zg_mem 1375 (by decide +kernel) (by decide +kernel)
theorem kw_1376 : Cond.code yX8_isIn cX8_isIn 3 (some .boolean) ∈ zG := zg_mem 1376 (by decide +kernel) (by decide +kernel)
theorem kw_1377 : Cond.methodLink RX8 70 yX8_no ∈ zG := zg_mem 1377 (by decide +kernel) (by decide +kernel)
theorem kw_1379 : Cond.instanceMethod yX8_no ∈ zG := zg_mem 1379 (by decide +kernel) (by decide +kernel)
theorem kw_1380 : Cond.code yX8_no cX8_no 3 (some .boolean) ∈ zG := zg_mem 1380 (by decide +kernel) (by decide +kernel)
theorem kw_1382 : Cond.methodLink RX8 24 ⟨"java/util/List", "size", "()I"⟩ ∈ zG := zg_mem 1382 (by decide +kernel) (by decide +kernel)
theorem kw_1386 : Cond.selects RJx4a65c ⟨"java/util/List", "size", "()I"⟩ yJx4a65c_size_8abf5 ∈ zG := zg_mem 1386 (by decide +kernel) (by decide +kernel)
theorem kw_1431 : Cond.code yX8_setLimit cX8_setLimit 4 (some .int) ∈ zG := zg_mem 1431 (by decide +kernel) (by decide +kernel)
theorem kw_1432 : Cond.methodLink RX8 34 yX8_isAccount ∈ zG := zg_mem 1432 (by decide +kernel) (by decide +kernel)
theorem kw_1434 : Cond.instanceMethod yX8_isAccount ∈ zG := zg_mem 1434 (by decide +kernel) (by decide +kernel)
theorem kw_1435 : Cond.code yX8_isAccount cX8_isAccount 2 (some .boolean) ∈ zG := zg_mem 1435 (by decide +kernel) (by decide +kernel)
theorem kw_1439 : Cond.code yX8_block cX8_block 4 (some .boolean) ∈ zG := zg_mem 1439 (by decide +kernel) (by decide +kernel)
theorem kw_1443 : Cond.code yX8_setRate cX8_setRate 4 (some .int) ∈ zG := zg_mem 1443 (by decide +kernel) (by decide +kernel)
theorem kw_1555 : Cond.code yX8_promote cX8_promote 4 (some .int) ∈ zG := zg_mem 1555 (by decide +kernel) (by decide +kernel)
theorem kw_1564 : Cond.code yX8_buy cX8_buy 4 (some .int) ∈ zG := zg_mem 1564 (by decide +kernel) (by decide +kernel)
theorem kw_1787 : Cond.code yX8_buyOn cX8_buyOn 5 (some .int) ∈ zG := zg_mem 1787 (by decide +kernel) (by decide +kernel)
theorem kw_1791 : Cond.code yX8_abroad cX8_abroad 6 (some .int) ∈ zG := zg_mem 1791 (by decide +kernel) (by decide +kernel)
theorem kw_1797 : Cond.code yX8_pay cX8_pay 3 (some .int) ∈ zG := zg_mem 1797 (by decide +kernel) (by decide +kernel)
theorem kw_1801 : Cond.code yX8_returns cX8_returns 3 (some .int) ∈ zG := zg_mem 1801 (by decide +kernel) (by decide +kernel)
theorem kw_1802 : Cond.methodLink RX8 134 yX8_isEvent ∈ zG := zg_mem 1802 (by decide +kernel) (by decide +kernel)
theorem kw_1804 : Cond.instanceMethod yX8_isEvent ∈ zG := zg_mem 1804 (by decide +kernel) (by decide +kernel)
theorem kw_1805 : Cond.code yX8_isEvent cX8_isEvent 3 (some .boolean) ∈ zG := zg_mem 1805 (by decide +kernel) (by decide +kernel)
theorem kw_1813 : Cond.code yX8_dispute cX8_dispute 7 (some .int) ∈ zG := zg_mem 1813 (by decide +kernel) (by decide +kernel)
theorem kw_1827 : Cond.code yX8_settle cX8_settle 4 (some .long) ∈ zG := zg_mem 1827 (by decide +kernel) (by decide +kernel)
theorem kw_1831 : Cond.code yX8_reverse cX8_reverse 4 (some .long) ∈ zG := zg_mem 1831 (by decide +kernel) (by decide +kernel)
theorem kw_1835 : Cond.code yX8_plan cX8_plan 5 (some .int) ∈ zG := zg_mem 1835 (by decide +kernel) (by decide +kernel)
theorem kw_1839 : Cond.code yX8_redeem cX8_redeem 3 (some .int) ∈ zG := zg_mem 1839 (by decide +kernel) (by decide +kernel)
theorem kw_1871 : Cond.code yX8_owed cX8_owed 2 (some .long) ∈ zG := zg_mem 1871 (by decide +kernel) (by decide +kernel)
theorem kw_1875 : Cond.code yX8_bucket cX8_bucket 3 (some .long) ∈ zG := zg_mem 1875 (by decide +kernel) (by decide +kernel)
theorem kw_1879 : Cond.code yX8_credit cX8_credit 2 (some .long) ∈ zG := zg_mem 1879 (by decide +kernel) (by decide +kernel)
theorem kw_1883 : Cond.code yX8_statement cX8_statement 3 (some .long) ∈ zG := zg_mem 1883 (by decide +kernel) (by decide +kernel)
theorem kw_1891 : Cond.code yX8_told cX8_told 3 (some .long) ∈ zG := zg_mem 1891 (by decide +kernel) (by decide +kernel)
theorem kw_1903 : Cond.code yX8_difference cX8_difference 3 (some .long) ∈ zG := zg_mem 1903 (by decide +kernel) (by decide +kernel)
theorem kw_1907 : Cond.code yX8_least cX8_least 3 (some .long) ∈ zG := zg_mem 1907 (by decide +kernel) (by decide +kernel)
theorem kw_1911 : Cond.code yX8_interest cX8_interest 3 (some .long) ∈ zG := zg_mem 1911 (by decide +kernel) (by decide +kernel)
theorem kw_1915 : Cond.code yX8_hadGrace cX8_hadGrace 3 (some .boolean) ∈ zG := zg_mem 1915 (by decide +kernel) (by decide +kernel)
theorem kw_1919 : Cond.code yX8_paid cX8_paid 4 (some .char) ∈ zG := zg_mem 1919 (by decide +kernel) (by decide +kernel)
theorem kw_1924 : Cond.code yX8_missing cX8_missing 2 (some .long) ∈ zG := zg_mem 1924 (by decide +kernel) (by decide +kernel)
theorem kw_1929 : Cond.code yX8_missed cX8_missed 2 (some .int) ∈ zG := zg_mem 1929 (by decide +kernel) (by decide +kernel)
theorem kw_1937 : Cond.code yX8_isOff cX8_isOff 2 (some .boolean) ∈ zG := zg_mem 1937 (by decide +kernel) (by decide +kernel)
theorem kw_1941 : Cond.code yX8_points cX8_points 2 (some .long) ∈ zG := zg_mem 1941 (by decide +kernel) (by decide +kernel)
theorem kw_1945 : Cond.code yX8_events cX8_events 2 (some .int) ∈ zG := zg_mem 1945 (by decide +kernel) (by decide +kernel)
theorem kw_1949 : Cond.code yX8_kindOf cX8_kindOf 3 (some .char) ∈ zG := zg_mem 1949 (by decide +kernel) (by decide +kernel)
theorem kw_1953 : Cond.code yX8_isBack cX8_isBack 3 (some .boolean) ∈ zG := zg_mem 1953 (by decide +kernel) (by decide +kernel)
theorem kw_1957 : Cond.code yX8_sum cX8_sum 3 (some .int) ∈ zG := zg_mem 1957 (by decide +kernel) (by decide +kernel)
theorem kw_1961 : Cond.code yX8_why cX8_why 6 (some .char) ∈ zG := zg_mem 1961 (by decide +kernel) (by decide +kernel)
theorem kw_1984 : Cond.code yX8_reasons cX8_reasons 4 (some .int) ∈ zG := zg_mem 1984 (by decide +kernel) (by decide +kernel)
theorem iJx4a65c : ∀ w ∈ u_ws RJx4a65c TJx4a65c 3, w ∈ zG := fun w h => List.mem_filter.mpr ⟨zi_sub [137, 133, 135] (by decide +kernel) w h, List.all_eq_true.mp (show (u_ws RJx4a65c TJx4a65c 3).all goodWord = true by decide +kernel) w h⟩
theorem iX1 : ∀ w ∈ u_ws RX1 TX1 17, w ∈ zG := fun w h => List.mem_filter.mpr ⟨zi_sub [205, 207, 209, 211, 213, 215, 217, 219, 221, 223, 225, 227, 229, 231, 233, 235, 237] (by decide +kernel) w h, List.all_eq_true.mp (show (u_ws RX1 TX1 17).all goodWord = true by decide +kernel) w h⟩
theorem iX3 : ∀ w ∈ u_ws RX3 TX3 5, w ∈ zG := fun w h => List.mem_filter.mpr ⟨zi_sub [168, 170, 172, 174, 176] (by decide +kernel) w h, List.all_eq_true.mp (show (u_ws RX3 TX3 5).all goodWord = true by decide +kernel) w h⟩
theorem iX4 : ∀ w ∈ u_ws RX4 TX4 4, w ∈ zG := fun w h => List.mem_filter.mpr ⟨zi_sub [244, 246, 248, 250] (by decide +kernel) w h, List.all_eq_true.mp (show (u_ws RX4 TX4 4).all goodWord = true by decide +kernel) w h⟩
theorem iX8 : ∀ w ∈ u_ws RX8 TX8 4, w ∈ zG := fun w h => List.mem_filter.mpr ⟨zi_sub [1356, 1358, 1360, 1362] (by decide +kernel) w h, List.all_eq_true.mp (show (u_ws RX8 TX8 4).all goodWord = true by decide +kernel) w h⟩
theorem z_dfJx4a65c : ∀ j, j < 3 → defaultValue (tyJx4a65c j) = vp_V [.int 0, .null, .int 0] j := fun j hj => by
  rcases (show j = 0 ∨ j = 1 ∨ j = 2 by omega) with rfl | rfl | rfl <;> rfl
theorem z_dfX1 : ∀ j, j < 17 → defaultValue (tyX1 j) = vp_V [.null, .null, .null, .null, .null, .long 0, .int 0, .int 0, .int 0, .int 0, .long 0, .long 0, .long 0, .int 0, .int 0, .int 0, .int 0] j := fun j hj => by
  rcases (show j = 0 ∨ j = 1 ∨ j = 2 ∨ j = 3 ∨ j = 4 ∨ j = 5 ∨ j = 6 ∨ j = 7 ∨ j = 8 ∨ j = 9 ∨ j = 10 ∨ j = 11 ∨ j = 12 ∨ j = 13 ∨ j = 14 ∨ j = 15 ∨ j = 16 by omega) with rfl | rfl | rfl | rfl | rfl | rfl | rfl | rfl | rfl | rfl | rfl | rfl | rfl | rfl | rfl | rfl | rfl <;> rfl
theorem z_dfX3 : ∀ j, j < 5 → defaultValue (tyX3 j) = vp_V [.long 0, .long 0, .long 0, .int 0, .int 0] j := fun j hj => by
  rcases (show j = 0 ∨ j = 1 ∨ j = 2 ∨ j = 3 ∨ j = 4 by omega) with rfl | rfl | rfl | rfl | rfl <;> rfl
set_option maxRecDepth 100000 in
theorem za_X4_236 : ∀ w ∈ vx_at0 RX4 236 "java/lang/IndexOutOfBoundsException" ["java/lang/RuntimeException", "java/lang/Exception"], (w ∈ zG ∨ w ∈ zK "java/lang/IndexOutOfBoundsException") ∧ vx_ot w = true := by
  have h1 : (vx_at0 RX4 236 "java/lang/IndexOutOfBoundsException" ["java/lang/RuntimeException", "java/lang/Exception"]).all (fun w => (decide (w ∈ lw_tbl) && goodWord w || decide (w ∈ zK "java/lang/IndexOutOfBoundsException")) && vx_ot w) = true := by decide +kernel
  intro w hw
  have h2 := List.all_eq_true.mp h1 w hw
  simp only [Bool.and_eq_true, Bool.or_eq_true, decide_eq_true_eq] at h2
  exact ⟨h2.1.imp (fun h => List.mem_filter.mpr h) id, h2.2⟩
abbrev ws_Jxa1e45_init_da8c8 : List Cond := Cond.code yJxa1e45_init_da8c8 cJxa1e45_init_da8c8 1 none :: zG
abbrev ws_Jxc12de_init_da8c8 : List Cond := Cond.code yJxc12de_init_da8c8 cJxc12de_init_da8c8 1 none :: zG
abbrev ws_Jx4a65c_init_da8c8 : List Cond := Cond.code yJx4a65c_init_da8c8 cJx4a65c_init_da8c8 1 none :: zG
abbrev ws_Jx4a65c_size_8abf5 : List Cond := Cond.code yJx4a65c_size_8abf5 cJx4a65c_size_8abf5 1 (some .int) :: zG
abbrev ws_X3_init : List Cond := Cond.code yX3_init cX3_init 1 none :: zG
abbrev ws_X4_accountAt : List Cond := Cond.code yX4_accountAt cX4_accountAt 2 (some (.object "StatementCycle$Account")) :: zG
abbrev ws_X1_init : List Cond := Cond.code yX1_init cX1_init 2 none :: zG
abbrev ws_X4_init : List Cond := Cond.code yX4_init cX4_init 1 none :: zG
abbrev ws_X8_init : List Cond := Cond.code yX8_init cX8_init 1 none :: zG
abbrev ws_X8_isIn : List Cond := Cond.code yX8_isIn cX8_isIn 3 (some .boolean) :: zG
abbrev ws_X8_isAccount : List Cond := Cond.code yX8_isAccount cX8_isAccount 2 (some .boolean) :: zG
abbrev ws_X8_isEvent : List Cond := Cond.code yX8_isEvent cX8_isEvent 3 (some .boolean) :: zG
abbrev ws_X8_thrown : List Cond := Cond.code yX8_thrown cX8_thrown 1 (some .int) :: zG
abbrev ws_X8_no : List Cond := Cond.code yX8_no cX8_no 3 (some .boolean) :: zG
abbrev ws_X4_setLimit : List Cond := Cond.code yX4_setLimit cX4_setLimit 5 (some .int) :: zG
abbrev ws_X4_block : List Cond := Cond.code yX4_block cX4_block 5 (some .boolean) :: zG
abbrev ws_X4_setRate : List Cond := Cond.code yX4_setRate cX4_setRate 7 (some .int) :: zG
abbrev ws_X4_promote : List Cond := Cond.code yX4_promote cX4_promote 6 (some .int) :: zG
abbrev ws_X4_buy : List Cond := Cond.code yX4_buy cX4_buy 6 (some .int) :: zG
abbrev ws_X4_buyOn : List Cond := Cond.code yX4_buyOn cX4_buyOn 7 (some .int) :: zG
abbrev ws_X4_abroad : List Cond := Cond.code yX4_abroad cX4_abroad 7 (some .int) :: zG
abbrev ws_X4_pay : List Cond := Cond.code yX4_pay cX4_pay 4 (some .int) :: zG
abbrev ws_X4_returns : List Cond := Cond.code yX4_returns cX4_returns 5 (some .int) :: zG
abbrev ws_X4_dispute : List Cond := Cond.code yX4_dispute cX4_dispute 5 (some .int) :: zG
abbrev ws_X4_settle : List Cond := Cond.code yX4_settle cX4_settle 6 (some .long) :: zG
abbrev ws_X4_reverse : List Cond := Cond.code yX4_reverse cX4_reverse 5 (some .long) :: zG
abbrev ws_X4_plan : List Cond := Cond.code yX4_plan cX4_plan 3 (some .int) :: zG
abbrev ws_X4_redeem : List Cond := Cond.code yX4_redeem cX4_redeem 4 (some .int) :: zG
abbrev ws_X4_owed : List Cond := Cond.code yX4_owed cX4_owed 2 (some .long) :: zG
abbrev ws_X4_bucket : List Cond := Cond.code yX4_bucket cX4_bucket 5 (some .long) :: zG
abbrev ws_X4_credit : List Cond := Cond.code yX4_credit cX4_credit 2 (some .long) :: zG
abbrev ws_X4_statement : List Cond := Cond.code yX4_statement cX4_statement 3 (some .long) :: zG
abbrev ws_X4_told : List Cond := Cond.code yX4_told cX4_told 3 (some .long) :: zG
abbrev ws_X4_difference : List Cond := Cond.code yX4_difference cX4_difference 6 (some .long) :: zG
abbrev ws_X4_least : List Cond := Cond.code yX4_least cX4_least 3 (some .long) :: zG
abbrev ws_X4_interest : List Cond := Cond.code yX4_interest cX4_interest 3 (some .long) :: zG
abbrev ws_X4_hadGrace : List Cond := Cond.code yX4_hadGrace cX4_hadGrace 3 (some .boolean) :: zG
abbrev ws_X4_paid : List Cond := Cond.code yX4_paid cX4_paid 3 (some .char) :: zG
abbrev ws_X4_missing : List Cond := Cond.code yX4_missing cX4_missing 2 (some .long) :: zG
abbrev ws_X4_missed : List Cond := Cond.code yX4_missed cX4_missed 2 (some .int) :: zG
abbrev ws_X4_isOff : List Cond := Cond.code yX4_isOff cX4_isOff 2 (some .boolean) :: zG
abbrev ws_X4_points : List Cond := Cond.code yX4_points cX4_points 2 (some .long) :: zG
abbrev ws_X4_events : List Cond := Cond.code yX4_events cX4_events 2 (some .int) :: zG
abbrev ws_X4_kindOf : List Cond := Cond.code yX4_kindOf cX4_kindOf 3 (some .char) :: zG
abbrev ws_X4_isBack : List Cond := Cond.code yX4_isBack cX4_isBack 3 (some .boolean) :: zG
abbrev ws_X4_sum : List Cond := Cond.code yX4_sum cX4_sum 3 (some .int) :: zG
abbrev ws_X4_why : List Cond := Cond.code yX4_why cX4_why 7 (some .char) :: zG
abbrev ws_X4_reasons : List Cond := Cond.code yX4_reasons cX4_reasons 6 (some .int) :: zG
abbrev ws_X8_setLimit : List Cond := Cond.code yX8_setLimit cX8_setLimit 4 (some .int) :: zG
abbrev ws_X8_block : List Cond := Cond.code yX8_block cX8_block 4 (some .boolean) :: zG
abbrev ws_X8_setRate : List Cond := Cond.code yX8_setRate cX8_setRate 4 (some .int) :: zG
abbrev ws_X8_promote : List Cond := Cond.code yX8_promote cX8_promote 4 (some .int) :: zG
abbrev ws_X8_buy : List Cond := Cond.code yX8_buy cX8_buy 4 (some .int) :: zG
abbrev ws_X8_buyOn : List Cond := Cond.code yX8_buyOn cX8_buyOn 5 (some .int) :: zG
abbrev ws_X8_abroad : List Cond := Cond.code yX8_abroad cX8_abroad 6 (some .int) :: zG
abbrev ws_X8_pay : List Cond := Cond.code yX8_pay cX8_pay 3 (some .int) :: zG
abbrev ws_X8_returns : List Cond := Cond.code yX8_returns cX8_returns 3 (some .int) :: zG
abbrev ws_X8_dispute : List Cond := Cond.code yX8_dispute cX8_dispute 7 (some .int) :: zG
abbrev ws_X8_settle : List Cond := Cond.code yX8_settle cX8_settle 4 (some .long) :: zG
abbrev ws_X8_reverse : List Cond := Cond.code yX8_reverse cX8_reverse 4 (some .long) :: zG
abbrev ws_X8_plan : List Cond := Cond.code yX8_plan cX8_plan 5 (some .int) :: zG
abbrev ws_X8_redeem : List Cond := Cond.code yX8_redeem cX8_redeem 3 (some .int) :: zG
abbrev ws_X8_owed : List Cond := Cond.code yX8_owed cX8_owed 2 (some .long) :: zG
abbrev ws_X8_bucket : List Cond := Cond.code yX8_bucket cX8_bucket 3 (some .long) :: zG
abbrev ws_X8_credit : List Cond := Cond.code yX8_credit cX8_credit 2 (some .long) :: zG
abbrev ws_X8_statement : List Cond := Cond.code yX8_statement cX8_statement 3 (some .long) :: zG
abbrev ws_X8_told : List Cond := Cond.code yX8_told cX8_told 3 (some .long) :: zG
abbrev ws_X8_difference : List Cond := Cond.code yX8_difference cX8_difference 3 (some .long) :: zG
abbrev ws_X8_least : List Cond := Cond.code yX8_least cX8_least 3 (some .long) :: zG
abbrev ws_X8_interest : List Cond := Cond.code yX8_interest cX8_interest 3 (some .long) :: zG
abbrev ws_X8_hadGrace : List Cond := Cond.code yX8_hadGrace cX8_hadGrace 3 (some .boolean) :: zG
abbrev ws_X8_paid : List Cond := Cond.code yX8_paid cX8_paid 4 (some .char) :: zG
abbrev ws_X8_missing : List Cond := Cond.code yX8_missing cX8_missing 2 (some .long) :: zG
abbrev ws_X8_missed : List Cond := Cond.code yX8_missed cX8_missed 2 (some .int) :: zG
abbrev ws_X8_isOff : List Cond := Cond.code yX8_isOff cX8_isOff 2 (some .boolean) :: zG
abbrev ws_X8_points : List Cond := Cond.code yX8_points cX8_points 2 (some .long) :: zG
abbrev ws_X8_events : List Cond := Cond.code yX8_events cX8_events 2 (some .int) :: zG
abbrev ws_X8_kindOf : List Cond := Cond.code yX8_kindOf cX8_kindOf 3 (some .char) :: zG
abbrev ws_X8_isBack : List Cond := Cond.code yX8_isBack cX8_isBack 3 (some .boolean) :: zG
abbrev ws_X8_sum : List Cond := Cond.code yX8_sum cX8_sum 3 (some .int) :: zG
abbrev ws_X8_why : List Cond := Cond.code yX8_why cX8_why 6 (some .char) :: zG
abbrev ws_X8_reasons : List Cond := Cond.code yX8_reasons cX8_reasons 4 (some .int) :: zG
def zW : Nat → Int32 := upd (upd (upd (upd (fun _ => 0) (0 : Int32).toNatClampNeg 1000) (1 : Int32).toNatClampNeg 1000) (2 : Int32).toNatClampNeg 1000) (3 : Int32).toNatClampNeg 1000
theorem zi_none (a : Int32) : a < 0 ∨ (-1 : Int32) < a := by
  have h1 := Int32.lt_iff_toInt_lt (x := a) (y := 0)
  have h2 := Int32.lt_iff_toInt_lt (x := -1) (y := a)
  have e0 : ((0 : Int32)).toInt = 0 := by decide
  have e1 : ((-1 : Int32)).toInt = -1 := by decide
  rw [e0] at h1
  rw [e1] at h2
  by_cases h : a.toInt < 0
  · exact Or.inl (h1.mpr h)
  · exact Or.inr (h2.mpr (by omega))
