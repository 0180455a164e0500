section TOOLS9
theorem kn_1195 : (Jvm.Cond.castable "RainIndex$Books" "java/lang/Object") ∈ lw_tbl := List.mem_append_right _ (tb_c5 _ (List.mem_of_getElem? (i := 235) (by decide +kernel)))
theorem kn_1204 : (Jvm.Cond.castable "RainIndex$Cover" "java/lang/Object") ∈ lw_tbl := List.mem_append_right _ (tb_c6 _ (List.mem_of_getElem? (i := 4) (by decide +kernel)))
theorem kn_1203 : (Jvm.Cond.castable "RainIndex$Farm" "java/lang/Object") ∈ lw_tbl := List.mem_append_right _ (tb_c6 _ (List.mem_of_getElem? (i := 3) (by decide +kernel)))
theorem kn_1202 : (Jvm.Cond.castable "RainIndex$Phase" "java/lang/Object") ∈ lw_tbl := List.mem_append_right _ (tb_c6 _ (List.mem_of_getElem? (i := 2) (by decide +kernel)))
theorem kn_1196 : (Jvm.Cond.castable "RainIndex$Product" "java/lang/Object") ∈ lw_tbl := List.mem_append_right _ (tb_c5 _ (List.mem_of_getElem? (i := 236) (by decide +kernel)))
theorem kn_1194 : (Jvm.Cond.castable "RainIndex$SeasonRain" "java/lang/Object") ∈ lw_tbl := List.mem_append_right _ (tb_c5 _ (List.mem_of_getElem? (i := 234) (by decide +kernel)))
theorem kn_1200 : (Jvm.Cond.castable "RainIndex$Station" "java/lang/Object") ∈ lw_tbl := List.mem_append_right _ (tb_c6 _ (List.mem_of_getElem? (i := 0) (by decide +kernel)))
theorem kn_1190 : (Jvm.Cond.castable "RainIndex$Telling" "java/lang/Object") ∈ lw_tbl := List.mem_append_right _ (tb_c5 _ (List.mem_of_getElem? (i := 230) (by decide +kernel)))
theorem kn_1192 : (Jvm.Cond.castable "RainIndex$Weather" "java/lang/Object") ∈ lw_tbl := List.mem_append_right _ (tb_c5 _ (List.mem_of_getElem? (i := 232) (by decide +kernel)))
theorem kn_1191 : (Jvm.Cond.castable "RainIndex" "java/lang/Object") ∈ lw_tbl := List.mem_append_right _ (tb_c5 _ (List.mem_of_getElem? (i := 231) (by decide +kernel)))
theorem kn_1197 : (Jvm.Cond.castable "RainIndexModel" "java/lang/Object") ∈ lw_tbl := List.mem_append_right _ (tb_c5 _ (List.mem_of_getElem? (i := 237) (by decide +kernel)))
theorem kn_1211 : (Jvm.Cond.castable "[B" "java/lang/Object") ∈ lw_tbl := List.mem_append_right _ (tb_c6 _ (List.mem_of_getElem? (i := 11) (by decide +kernel)))
theorem kn_1210 : (Jvm.Cond.castable "[I" "java/lang/Object") ∈ lw_tbl := List.mem_append_right _ (tb_c6 _ (List.mem_of_getElem? (i := 10) (by decide +kernel)))
theorem kn_1215 : (Jvm.Cond.castable "[J" "java/lang/Object") ∈ lw_tbl := List.mem_append_right _ (tb_c6 _ (List.mem_of_getElem? (i := 15) (by decide +kernel)))
theorem kn_1212 : (Jvm.Cond.castable "[LRainIndex$Telling;" "java/lang/Object") ∈ lw_tbl := List.mem_append_right _ (tb_c6 _ (List.mem_of_getElem? (i := 12) (by decide +kernel)))
theorem kn_1214 : (Jvm.Cond.castable "[Ljava/lang/Object;" "java/lang/Object") ∈ lw_tbl := List.mem_append_right _ (tb_c6 _ (List.mem_of_getElem? (i := 14) (by decide +kernel)))
theorem kn_1213 : (Jvm.Cond.castable "[Z" "java/lang/Object") ∈ lw_tbl := List.mem_append_right _ (tb_c6 _ (List.mem_of_getElem? (i := 13) (by decide +kernel)))
theorem kn_194 : (Jvm.Cond.castable "java/lang/IllegalArgumentException" "java/lang/IllegalArgumentException") ∈ lw_tbl := List.mem_append_right _ (tb_c1 _ (List.mem_of_getElem? (i := 194) (by decide +kernel)))
theorem kn_1198 : (Jvm.Cond.castable "java/lang/IllegalArgumentException" "java/lang/Object") ∈ lw_tbl := List.mem_append_right _ (tb_c5 _ (List.mem_of_getElem? (i := 238) (by decide +kernel)))
theorem kn_266 : (Jvm.Cond.castable "java/lang/IllegalStateException" "java/lang/IllegalStateException") ∈ lw_tbl := List.mem_append_right _ (tb_c2 _ (List.mem_of_getElem? (i := 26) (by decide +kernel)))
theorem kn_1199 : (Jvm.Cond.castable "java/lang/IllegalStateException" "java/lang/Object") ∈ lw_tbl := List.mem_append_right _ (tb_c5 _ (List.mem_of_getElem? (i := 239) (by decide +kernel)))
theorem kn_385 : (Jvm.Cond.castable "java/lang/IndexOutOfBoundsException" "java/lang/IndexOutOfBoundsException") ∈ lw_tbl := List.mem_append_right _ (tb_c2 _ (List.mem_of_getElem? (i := 145) (by decide +kernel)))
theorem kn_1201 : (Jvm.Cond.castable "java/lang/IndexOutOfBoundsException" "java/lang/Object") ∈ lw_tbl := List.mem_append_right _ (tb_c6 _ (List.mem_of_getElem? (i := 1) (by decide +kernel)))
theorem kn_1206 : (Jvm.Cond.castable "java/lang/String" "java/lang/Object") ∈ lw_tbl := List.mem_append_right _ (tb_c6 _ (List.mem_of_getElem? (i := 6) (by decide +kernel)))
theorem kn_1205 : (Jvm.Cond.castable "java/lang/Throwable" "java/lang/Object") ∈ lw_tbl := List.mem_append_right _ (tb_c6 _ (List.mem_of_getElem? (i := 5) (by decide +kernel)))
theorem kn_1193 : (Jvm.Cond.castable "java/util/ArrayList" "java/lang/Object") ∈ lw_tbl := List.mem_append_right _ (tb_c5 _ (List.mem_of_getElem? (i := 233) (by decide +kernel)))
theorem kn_639 : (Jvm.Cond.methodLinkNest "RainIndex$SeasonRain" (15 : Nat) ({ cls := "RainIndex", name := "firstDay", desc := "(I)I" } : Jvm.MethodName) "RainIndex") ∈ lw_tbl := List.mem_append_right _ (tb_c3 _ (List.mem_of_getElem? (i := 159) (by decide +kernel)))
theorem kn_78 : (Jvm.Cond.methodLinkNest "RainIndex" (18 : Nat) ({ cls := "RainIndex$SeasonRain", name := "<init>", desc := "()V" } : Jvm.MethodName) "RainIndex") ∈ lw_tbl := List.mem_append_right _ (tb_c1 _ (List.mem_of_getElem? (i := 78) (by decide +kernel)))
theorem kn_91 : (Jvm.Cond.methodLinkNest "RainIndex" (38 : Nat) ({ cls := "RainIndex$Books", name := "<init>", desc := "()V" } : Jvm.MethodName) "RainIndex") ∈ lw_tbl := List.mem_append_right _ (tb_c1 _ (List.mem_of_getElem? (i := 91) (by decide +kernel)))
theorem kn_37 : (Jvm.Cond.methodLinkNest "RainIndex" (9 : Nat) ({ cls := "RainIndex$Weather", name := "<init>", desc := "()V" } : Jvm.MethodName) "RainIndex") ∈ lw_tbl := List.mem_append_right _ (tb_c1 _ (List.mem_of_getElem? (i := 37) (by decide +kernel)))
theorem dv_0 : ∀ k, k < 3 → defaultValue (tyJx4a65c k) = if isRf 0 k then Value.null else Value.int 0 := by decide +kernel
theorem dv_1 : ∀ k, k < 4 → defaultValue (tyX0 k) = if isRf 1 k then Value.null else Value.int 0 := by decide +kernel
theorem dv_2 : ∀ k, k < 12 → defaultValue (tyX1 k) = if isRf 2 k then Value.null else Value.int 0 := by decide +kernel
theorem dv_3 : ∀ k, k < 7 → defaultValue (tyX2 k) = if isRf 3 k then Value.null else Value.int 0 := by decide +kernel
theorem dv_4 : ∀ k, k < 5 → defaultValue (tyX3 k) = if isRf 4 k then Value.null else Value.int 0 := by decide +kernel
theorem dv_5 : ∀ k, k < 3 → defaultValue (tyX4 k) = if isRf 5 k then Value.null else Value.int 0 := by decide +kernel
theorem dv_6 : ∀ k, k < 1 → defaultValue (tyX5 k) = if isRf 6 k then Value.null else Value.int 0 := by decide +kernel
theorem dv_7 : ∀ k, k < 5 → defaultValue (tyX6 k) = if isRf 7 k then Value.null else Value.int 0 := by decide +kernel
theorem dv_8 : ∀ k, k < 4 → defaultValue (tyX7 k) = if isRf 8 k then Value.null else Value.int 0 := by decide +kernel
theorem dv_9 : ∀ k, k < 2 → defaultValue (tyX8 k) = if isRf 9 k then Value.null else Value.int 0 := by decide +kernel
theorem dv_10 : ∀ k, k < 12 → defaultValue (tyX9 k) = if isRf 10 k then Value.null else Value.int 0 := by decide +kernel
theorem dv_11 : ∀ k, k < 30 → defaultValue (tyX10 k) = if isRf 11 k then Value.null else Value.int 0 := by decide +kernel
theorem mt_X0_init : MthI yX0_init cX0_init 1 0 := ⟨⟨k_93, k_7, by decide, by decide, by decide +kernel⟩, k_92, rfl⟩
theorem mt_X0_tell : MthV yX0_tell cX0_tell 2 (some .int) 1 := ⟨⟨k_908, k_7, by decide, by decide, by decide +kernel⟩, k_906, k_907⟩
theorem mt_X1_init : MthI yX1_init cX1_init 7 6 := ⟨⟨k_690, k_26, by decide, by decide, by decide +kernel⟩, k_689, rfl⟩
theorem mt_X1_isOf : MthV yX1_isOf cX1_isOf 3 (some .boolean) 2 := ⟨⟨k_808, k_26, by decide, by decide, by decide +kernel⟩, k_806, k_807⟩
theorem mt_X1_dueBy : MthV yX1_dueBy cX1_dueBy 2 (some .int) 1 := ⟨⟨k_753, k_26, by decide, by decide, by decide +kernel⟩, k_751, k_752⟩
theorem mt_X1_payMore : MthV yX1_payMore cX1_payMore 3 (some .int) 1 := ⟨⟨k_817, k_26, by decide, by decide, by decide +kernel⟩, k_815, k_816⟩
theorem mt_X1_tell : MthV yX1_tell cX1_tell 2 (some .int) 1 := ⟨⟨k_879, k_26, by decide, by decide, by decide +kernel⟩, k_877, k_878⟩
theorem mt_X2_init : MthI yX2_init cX2_init 3 2 := ⟨⟨k_529, k_25, by decide, by decide, by decide +kernel⟩, k_528, rfl⟩
theorem mt_X2_lossIn : MthV yX2_lossIn cX2_lossIn 2 (some .int) 1 := ⟨⟨k_774, k_25, by decide, by decide, by decide +kernel⟩, k_772, k_773⟩
theorem mt_X2_receive : MthV yX2_receive cX2_receive 3 (some .int) 1 := ⟨⟨k_765, k_25, by decide, by decide, by decide +kernel⟩, k_763, k_764⟩
theorem mt_X2_judge : MthV yX2_judge cX2_judge 3 none 2 := ⟨⟨k_770, k_25, by decide, by decide, by decide +kernel⟩, k_768, k_769⟩
theorem mt_X2_tell : MthV yX2_tell cX2_tell 2 (some .int) 1 := ⟨⟨k_897, k_25, by decide, by decide, by decide +kernel⟩, k_895, k_896⟩
theorem mt_X3_init : MthI yX3_init cX3_init 6 5 := ⟨⟨k_470, k_24, by decide, by decide, by decide +kernel⟩, k_469, rfl⟩
theorem mt_X3_look : MthV yX3_look cX3_look 3 (some .int) 2 := ⟨⟨k_671, k_24, by decide, by decide, by decide +kernel⟩, k_669, k_670⟩
theorem mt_X3_pays : MthV yX3_pays cX3_pays 4 (some .int) 1 := ⟨⟨k_677, k_24, by decide, by decide, by decide +kernel⟩, k_675, k_676⟩
theorem mt_X4_init : MthI yX4_init cX4_init 2 1 := ⟨⟨k_116, k_8, by decide, by decide, by decide +kernel⟩, k_115, rfl⟩
theorem mt_X4_startOf : MthV yX4_startOf cX4_startOf 6 (some .int) 2 := ⟨⟨k_651, k_8, by decide, by decide, by decide +kernel⟩, k_649, k_650⟩
theorem mt_X4_rateIn : MthV yX4_rateIn cX4_rateIn 6 (some .int) 1 := ⟨⟨k_647, k_8, by decide, by decide, by decide +kernel⟩, k_645, k_646⟩
theorem mt_X5_init : MthI yX5_init cX5_init 1 0 := ⟨⟨k_80, k_6, by decide, by decide, by decide +kernel⟩, k_79, rfl⟩
theorem mt_X5_fill : MthV yX5_fill cX5_fill 7 none 5 := ⟨⟨k_638, k_6, by decide, by decide, by decide +kernel⟩, k_636, k_637⟩
theorem mt_X5_sum : MthV yX5_sum cX5_sum 5 (some .int) 2 := ⟨⟨k_659, k_6, by decide, by decide, by decide +kernel⟩, k_657, k_658⟩
theorem mt_X5_drySpell : MthV yX5_drySpell cX5_drySpell 6 (some .int) 2 := ⟨⟨k_664, k_6, by decide, by decide, by decide +kernel⟩, k_662, k_663⟩
theorem mt_X5_start : MthV yX5_start cX5_start 2 (some .int) 0 := ⟨⟨k_655, k_6, by decide, by decide, by decide +kernel⟩, k_653, k_654⟩
theorem mt_X6_init : MthI yX6_init cX6_init 4 3 := ⟨⟨k_284, k_16, by decide, by decide, by decide +kernel⟩, k_283, rfl⟩
theorem mt_X6_distanceTo : MthV yX6_distanceTo cX6_distanceTo 3 (some .int) 2 := ⟨⟨k_523, k_16, by decide, by decide, by decide +kernel⟩, k_521, k_522⟩
theorem mt_X6_keep : MthV yX6_keep cX6_keep 4 none 3 := ⟨⟨k_425, k_16, by decide, by decide, by decide +kernel⟩, k_423, k_424⟩
theorem mt_X6_datum : MthV yX6_datum cX6_datum 5 (some .int) 3 := ⟨⟨k_421, k_16, by decide, by decide, by decide +kernel⟩, k_419, k_420⟩
theorem mt_X7_init : MthI yX7_init cX7_init 4 3 := ⟨⟨k_429, k_23, by decide, by decide, by decide +kernel⟩, k_428, rfl⟩
theorem mt_X8_init : MthI yX8_init cX8_init 1 0 := ⟨⟨k_39, k_2, by decide, by decide, by decide +kernel⟩, k_38, rfl⟩
theorem mt_X8_tell : MthV yX8_tell cX8_tell 5 (some .int) 3 := ⟨⟨k_417, k_2, by decide, by decide, by decide +kernel⟩, k_415, k_416⟩
theorem mt_X8_nearestTo : MthV yX8_nearestTo cX8_nearestTo 6 (some (.object "RainIndex$Station")) 2 := ⟨⟨k_516, k_2, by decide, by decide, by decide +kernel⟩, k_514, k_515⟩
theorem mt_X8_rainOn : MthV yX8_rainOn cX8_rainOn 10 (some .int) 4 := ⟨⟨k_643, k_2, by decide, by decide, by decide +kernel⟩, k_641, k_642⟩
theorem mt_X9_init : MthI yX9_init cX9_init 1 0 := ⟨⟨k_31, k_1, by decide, by decide, by decide +kernel⟩, k_30, rfl⟩
theorem mt_X9_station : MthV yX9_station cX9_station 3 (some .int) 2 := ⟨⟨k_185, k_1, by decide, by decide, by decide +kernel⟩, k_183, k_184⟩
theorem mt_X9_rain : MthV yX9_rain cX9_rain 5 (some .int) 3 := ⟨⟨k_378, k_1, by decide, by decide, by decide +kernel⟩, k_376, k_377⟩
theorem mt_X9_pass : MthV yX9_pass cX9_pass 2 (some .int) 1 := ⟨⟨k_454, k_1, by decide, by decide, by decide +kernel⟩, k_452, k_453⟩
theorem mt_X9_phase : MthV yX9_phase cX9_phase 6 (some .int) 5 := ⟨⟨k_463, k_1, by decide, by decide, by decide +kernel⟩, k_461, k_462⟩
theorem mt_X9_product : MthV yX9_product cX9_product 2 (some .int) 1 := ⟨⟨k_496, k_1, by decide, by decide, by decide +kernel⟩, k_494, k_495⟩
theorem mt_X9_farm : MthV yX9_farm cX9_farm 4 (some .int) 2 := ⟨⟨k_512, k_1, by decide, by decide, by decide +kernel⟩, k_510, k_511⟩
theorem mt_X9_lend : MthV yX9_lend cX9_lend 4 (some .int) 2 := ⟨⟨k_568, k_1, by decide, by decide, by decide +kernel⟩, k_566, k_567⟩
theorem mt_X9_loading : MthV yX9_loading cX9_loading 3 (some .int) 1 := ⟨⟨k_583, k_1, by decide, by decide, by decide +kernel⟩, k_581, k_582⟩
theorem mt_X9_layer : MthV yX9_layer cX9_layer 4 (some .int) 2 := ⟨⟨k_591, k_1, by decide, by decide, by decide +kernel⟩, k_589, k_590⟩
theorem mt_X9_sell : MthV yX9_sell cX9_sell 9 (some .int) 4 := ⟨⟨k_599, k_1, by decide, by decide, by decide +kernel⟩, k_597, k_598⟩
theorem mt_X9_settle : MthV yX9_settle cX9_settle 3 (some .int) 1 := ⟨⟨k_744, k_1, by decide, by decide, by decide +kernel⟩, k_742, k_743⟩
theorem mt_X9_loss : MthV yX9_loss cX9_loss 6 (some .int) 3 := ⟨⟨k_783, k_1, by decide, by decide, by decide +kernel⟩, k_781, k_782⟩
theorem mt_X9_complain : MthV yX9_complain cX9_complain 5 (some .int) 2 := ⟨⟨k_795, k_1, by decide, by decide, by decide +kernel⟩, k_793, k_794⟩
theorem mt_X9_day : MthV yX9_day cX9_day 1 (some .int) 0 := ⟨⟨k_176, k_1, by decide, by decide, by decide +kernel⟩, k_174, k_175⟩
theorem mt_X9_filled : MthV yX9_filled cX9_filled 5 (some .int) 3 := ⟨⟨k_825, k_1, by decide, by decide, by decide +kernel⟩, k_823, k_824⟩
theorem mt_X9_onset : MthV yX9_onset cX9_onset 6 (some .int) 3 := ⟨⟨k_834, k_1, by decide, by decide, by decide +kernel⟩, k_832, k_833⟩
theorem mt_X9_index : MthV yX9_index cX9_index 7 (some .int) 4 := ⟨⟨k_842, k_1, by decide, by decide, by decide +kernel⟩, k_840, k_841⟩
theorem mt_X9_rate : MthV yX9_rate cX9_rate 5 (some .int) 3 := ⟨⟨k_852, k_1, by decide, by decide, by decide +kernel⟩, k_850, k_851⟩
theorem mt_X9_priced : MthV yX9_priced cX9_priced 3 (some .int) 2 := ⟨⟨k_859, k_1, by decide, by decide, by decide +kernel⟩, k_857, k_858⟩
theorem mt_X9_cover : MthV yX9_cover cX9_cover 4 (some .int) 2 := ⟨⟨k_866, k_1, by decide, by decide, by decide +kernel⟩, k_864, k_865⟩
theorem mt_X9_dueAnew : MthV yX9_dueAnew cX9_dueAnew 3 (some .int) 1 := ⟨⟨k_886, k_1, by decide, by decide, by decide +kernel⟩, k_884, k_885⟩
theorem mt_X9_told : MthV yX9_told cX9_told 4 (some .int) 2 := ⟨⟨k_893, k_1, by decide, by decide, by decide +kernel⟩, k_891, k_892⟩
theorem mt_X9_books : MthV yX9_books cX9_books 2 (some .int) 1 := ⟨⟨k_904, k_1, by decide, by decide, by decide +kernel⟩, k_902, k_903⟩
theorem mt_X9_isWithin : MthS yX9_isWithin cX9_isWithin 3 (some .boolean) 3 := ⟨⟨k_191, k_1, by decide, by decide, by decide +kernel⟩, k_190⟩
theorem mt_X9_testPlace : MthS yX9_testPlace cX9_testPlace 2 none 2 := ⟨⟨k_188, k_1, by decide, by decide, by decide +kernel⟩, k_187⟩
theorem mt_X9_testKnown : MthS yX9_testKnown cX9_testKnown 1 none 1 := ⟨⟨k_499, k_1, by decide, by decide, by decide +kernel⟩, k_498⟩
theorem mt_X9_testWhat : MthS yX9_testWhat cX9_testWhat 2 none 2 := ⟨⟨k_874, k_1, by decide, by decide, by decide +kernel⟩, k_873⟩
theorem mt_X9_testSeason : MthS yX9_testSeason cX9_testSeason 1 none 1 := ⟨⟨k_607, k_1, by decide, by decide, by decide +kernel⟩, k_606⟩
theorem mt_X9_stationNumbered : MthV yX9_stationNumbered cX9_stationNumbered 2 (some (.object "RainIndex$Station")) 1 := ⟨⟨k_382, k_1, by decide, by decide, by decide +kernel⟩, k_381, ks_4⟩
theorem mt_X9_productNumbered : MthV yX9_productNumbered cX9_productNumbered 2 (some (.object "RainIndex$Product")) 1 := ⟨⟨k_603, k_1, by decide, by decide, by decide +kernel⟩, k_602, ks_6⟩
theorem mt_X9_farmNumbered : MthV yX9_farmNumbered cX9_farmNumbered 2 (some (.object "RainIndex$Farm")) 1 := ⟨⟨k_572, k_1, by decide, by decide, by decide +kernel⟩, k_571, ks_5⟩
theorem mt_X9_coverNumbered : MthV yX9_coverNumbered cX9_coverNumbered 2 (some (.object "RainIndex$Cover")) 1 := ⟨⟨k_870, k_1, by decide, by decide, by decide +kernel⟩, k_869, ks_20⟩
theorem mt_X9_firstDay : MthS yX9_firstDay cX9_firstDay 1 (some .int) 1 := ⟨⟨k_616, k_1, by decide, by decide, by decide +kernel⟩, k_615⟩
theorem mt_X9_hasBegun : MthV yX9_hasBegun cX9_hasBegun 2 (some .boolean) 1 := ⟨⟨k_787, k_1, by decide, by decide, by decide +kernel⟩, k_786, ks_16⟩
theorem mt_X9_isOver : MthV yX9_isOver cX9_isOver 2 (some .boolean) 1 := ⟨⟨k_630, k_1, by decide, by decide, by decide +kernel⟩, k_629, ks_10⟩
theorem mt_X9_isOnSale : MthV yX9_isOnSale cX9_isOnSale 2 (some .boolean) 1 := ⟨⟨k_613, k_1, by decide, by decide, by decide +kernel⟩, k_612, ks_7⟩
theorem mt_X9_rateBy : MthV yX9_rateBy cX9_rateBy 5 (some .int) 4 := ⟨⟨k_634, k_1, by decide, by decide, by decide +kernel⟩, k_633, ks_11⟩
theorem mt_X9_pricesRate : MthV yX9_pricesRate cX9_pricesRate 6 (some .int) 2 := ⟨⟨k_626, k_1, by decide, by decide, by decide +kernel⟩, k_625, ks_9⟩
theorem mt_X9_priceOf : MthV yX9_priceOf cX9_priceOf 4 (some .int) 2 := ⟨⟨k_682, k_1, by decide, by decide, by decide +kernel⟩, k_681, ks_12⟩
theorem mt_X9_stateShare : MthS yX9_stateShare cX9_stateShare 2 (some .int) 2 := ⟨⟨k_685, k_1, by decide, by decide, by decide +kernel⟩, k_684⟩
theorem mt_X9_coverOf : MthV yX9_coverOf cX9_coverOf 5 (some (.object "RainIndex$Cover")) 2 := ⟨⟨k_620, k_1, by decide, by decide, by decide +kernel⟩, k_619, ks_8⟩
theorem mt_X9_findDues : MthV yX9_findDues cX9_findDues 5 (some .int) 1 := ⟨⟨k_749, k_1, by decide, by decide, by decide +kernel⟩, k_748, ks_13⟩
theorem mt_X9_payOut : MthV yX9_payOut cX9_payOut 6 (some .int) 2 := ⟨⟨k_757, k_1, by decide, by decide, by decide +kernel⟩, k_756, ks_14⟩
theorem mt_X9_cutToCap : MthV yX9_cutToCap cX9_cutToCap 4 (some .int) 2 := ⟨⟨k_761, k_1, by decide, by decide, by decide +kernel⟩, k_760, ks_15⟩
theorem mt_X9_lookAgain : MthV yX9_lookAgain cX9_lookAgain 7 (some .int) 2 := ⟨⟨k_800, k_1, by decide, by decide, by decide +kernel⟩, k_799, ks_17⟩
theorem mt_X9_meanLoss : MthV yX9_meanLoss cX9_meanLoss 7 (some .int) 2 := ⟨⟨k_804, k_1, by decide, by decide, by decide +kernel⟩, k_803, ks_18⟩
theorem mt_X9_mostComplained : MthV yX9_mostComplained cX9_mostComplained 7 (some .boolean) 2 := ⟨⟨k_813, k_1, by decide, by decide, by decide +kernel⟩, k_812, ks_19⟩
theorem mt_X10_init : MthI yX10_init cX10_init 1 0 := ⟨⟨k_913, k_10, by decide, by decide, by decide +kernel⟩, k_912, rfl⟩
theorem mt_X10_thrown : MthV yX10_thrown cX10_thrown 1 (some .int) 0 := ⟨⟨k_1009, k_10, by decide, by decide, by decide +kernel⟩, k_1007, k_1008⟩
theorem mt_X10_in : MthS yX10_in cX10_in 3 (some .boolean) 3 := ⟨⟨k_1016, k_10, by decide, by decide, by decide +kernel⟩, k_1015⟩
theorem mt_X10_goes : MthV yX10_goes cX10_goes 4 (some .boolean) 3 := ⟨⟨k_1020, k_10, by decide, by decide, by decide +kernel⟩, k_1019, ks_21⟩
theorem mt_X10_isStation : MthV yX10_isStation cX10_isStation 2 (some .boolean) 1 := ⟨⟨k_1028, k_10, by decide, by decide, by decide +kernel⟩, k_1027, ks_22⟩
theorem mt_X10_isSeason : MthS yX10_isSeason cX10_isSeason 1 (some .boolean) 1 := ⟨⟨k_1055, k_10, by decide, by decide, by decide +kernel⟩, k_1054⟩
theorem mt_X10_isProduct : MthV yX10_isProduct cX10_isProduct 2 (some .boolean) 1 := ⟨⟨k_1083, k_10, by decide, by decide, by decide +kernel⟩, k_1082, ks_28⟩
theorem mt_X10_isFarm : MthV yX10_isFarm cX10_isFarm 2 (some .boolean) 1 := ⟨⟨k_1126, k_10, by decide, by decide, by decide +kernel⟩, k_1125, ks_34⟩
theorem mt_X10_lesser : MthS yX10_lesser cX10_lesser 2 (some .int) 2 := ⟨⟨k_1102, k_10, by decide, by decide, by decide +kernel⟩, k_1101⟩
theorem mt_X10_station : MthV yX10_station cX10_station 3 (some .int) 2 := ⟨⟨k_1013, k_10, by decide, by decide, by decide +kernel⟩, k_1011, k_1012⟩
theorem mt_X10_rain : MthV yX10_rain cX10_rain 6 (some .int) 3 := ⟨⟨k_1024, k_10, by decide, by decide, by decide +kernel⟩, k_1022, k_1023⟩
theorem mt_X10_pass : MthV yX10_pass cX10_pass 3 (some .int) 1 := ⟨⟨k_1032, k_10, by decide, by decide, by decide +kernel⟩, k_1030, k_1031⟩
theorem mt_X10_day : MthV yX10_day cX10_day 1 (some .int) 0 := ⟨⟨k_1036, k_10, by decide, by decide, by decide +kernel⟩, k_1034, k_1035⟩
theorem mt_X10_off : MthV yX10_off cX10_off 4 (some .int) 3 := ⟨⟨k_1048, k_10, by decide, by decide, by decide +kernel⟩, k_1047, ks_24⟩
theorem mt_X10_rainOn : MthV yX10_rainOn cX10_rainOn 8 (some .int) 3 := ⟨⟨k_1044, k_10, by decide, by decide, by decide +kernel⟩, k_1043, ks_23⟩
theorem mt_X10_filled : MthV yX10_filled cX10_filled 5 (some .int) 3 := ⟨⟨k_1040, k_10, by decide, by decide, by decide +kernel⟩, k_1038, k_1039⟩
theorem mt_X10_lays : MthV yX10_lays cX10_lays 5 none 3 := ⟨⟨k_1059, k_10, by decide, by decide, by decide +kernel⟩, k_1058, ks_25⟩
theorem mt_X10_isFalse : MthV yX10_isFalse cX10_isFalse 5 (some .boolean) 1 := ⟨⟨k_1067, k_10, by decide, by decide, by decide +kernel⟩, k_1066, ks_27⟩
theorem mt_X10_beginning : MthV yX10_beginning cX10_beginning 2 (some .int) 0 := ⟨⟨k_1063, k_10, by decide, by decide, by decide +kernel⟩, k_1062, ks_26⟩
theorem mt_X10_onset : MthV yX10_onset cX10_onset 4 (some .int) 3 := ⟨⟨k_1052, k_10, by decide, by decide, by decide +kernel⟩, k_1050, k_1051⟩
theorem mt_X10_phase : MthV yX10_phase cX10_phase 8 (some .int) 5 := ⟨⟨k_1071, k_10, by decide, by decide, by decide +kernel⟩, k_1069, k_1070⟩
theorem mt_X10_product : MthV yX10_product cX10_product 3 (some .int) 1 := ⟨⟨k_1075, k_10, by decide, by decide, by decide +kernel⟩, k_1073, k_1074⟩
theorem mt_X10_looksAt : MthV yX10_looksAt cX10_looksAt 10 (some .int) 2 := ⟨⟨k_1087, k_10, by decide, by decide, by decide +kernel⟩, k_1086, ks_29⟩
theorem mt_X10_pays : MthV yX10_pays cX10_pays 7 (some .int) 2 := ⟨⟨k_1099, k_10, by decide, by decide, by decide +kernel⟩, k_1098, ks_31⟩
theorem mt_X10_rateOf : MthV yX10_rateOf cX10_rateOf 6 (some .int) 3 := ⟨⟨k_1095, k_10, by decide, by decide, by decide +kernel⟩, k_1094, ks_30⟩
theorem mt_X10_index : MthV yX10_index cX10_index 6 (some .int) 4 := ⟨⟨k_1079, k_10, by decide, by decide, by decide +kernel⟩, k_1077, k_1078⟩
theorem mt_X10_rate : MthV yX10_rate cX10_rate 4 (some .int) 3 := ⟨⟨k_1091, k_10, by decide, by decide, by decide +kernel⟩, k_1089, k_1090⟩
theorem mt_X10_isOver : MthV yX10_isOver cX10_isOver 2 (some .boolean) 1 := ⟨⟨k_1114, k_10, by decide, by decide, by decide +kernel⟩, k_1113, ks_33⟩
theorem mt_X10_pricedOf : MthV yX10_pricedOf cX10_pricedOf 6 (some .int) 2 := ⟨⟨k_1110, k_10, by decide, by decide, by decide +kernel⟩, k_1109, ks_32⟩
theorem mt_X10_priced : MthV yX10_priced cX10_priced 3 (some .int) 2 := ⟨⟨k_1106, k_10, by decide, by decide, by decide +kernel⟩, k_1104, k_1105⟩
theorem mt_X10_farm : MthV yX10_farm cX10_farm 5 (some .int) 2 := ⟨⟨k_1118, k_10, by decide, by decide, by decide +kernel⟩, k_1116, k_1117⟩
theorem mt_X10_lend : MthV yX10_lend cX10_lend 5 (some .int) 2 := ⟨⟨k_1122, k_10, by decide, by decide, by decide +kernel⟩, k_1120, k_1121⟩
theorem mt_X10_loading : MthV yX10_loading cX10_loading 3 (some .int) 1 := ⟨⟨k_1131, k_10, by decide, by decide, by decide +kernel⟩, k_1129, k_1130⟩
theorem mt_X10_layer : MthV yX10_layer cX10_layer 4 (some .int) 2 := ⟨⟨k_1135, k_10, by decide, by decide, by decide +kernel⟩, k_1133, k_1134⟩
theorem mt_X10_coverOf : MthV yX10_coverOf cX10_coverOf 5 (some .int) 2 := ⟨⟨k_1143, k_10, by decide, by decide, by decide +kernel⟩, k_1142, ks_35⟩
theorem mt_X10_sell : MthV yX10_sell cX10_sell 11 (some .int) 4 := ⟨⟨k_1139, k_10, by decide, by decide, by decide +kernel⟩, k_1137, k_1138⟩
theorem mt_X10_trusts : MthV yX10_trusts cX10_trusts 6 none 3 := ⟨⟨k_1151, k_10, by decide, by decide, by decide +kernel⟩, k_1150, ks_36⟩
theorem mt_X10_settle : MthV yX10_settle cX10_settle 12 (some .int) 1 := ⟨⟨k_1147, k_10, by decide, by decide, by decide +kernel⟩, k_1145, k_1146⟩
theorem mt_X10_loss : MthV yX10_loss cX10_loss 6 (some .int) 3 := ⟨⟨k_1155, k_10, by decide, by decide, by decide +kernel⟩, k_1153, k_1154⟩
theorem mt_X10_isOf : MthV yX10_isOf cX10_isOf 4 (some .boolean) 3 := ⟨⟨k_1167, k_10, by decide, by decide, by decide +kernel⟩, k_1166, ks_38⟩
theorem mt_X10_looks : MthV yX10_looks cX10_looks 11 (some .int) 2 := ⟨⟨k_1163, k_10, by decide, by decide, by decide +kernel⟩, k_1162, ks_37⟩
theorem mt_X10_complain : MthV yX10_complain cX10_complain 5 (some .int) 2 := ⟨⟨k_1159, k_10, by decide, by decide, by decide +kernel⟩, k_1157, k_1158⟩
theorem mt_X10_cover : MthV yX10_cover cX10_cover 3 (some .int) 2 := ⟨⟨k_1171, k_10, by decide, by decide, by decide +kernel⟩, k_1169, k_1170⟩
theorem mt_X10_dueAnew : MthV yX10_dueAnew cX10_dueAnew 2 (some .int) 1 := ⟨⟨k_1175, k_10, by decide, by decide, by decide +kernel⟩, k_1173, k_1174⟩
theorem mt_X10_told : MthV yX10_told cX10_told 3 (some .int) 2 := ⟨⟨k_1179, k_10, by decide, by decide, by decide +kernel⟩, k_1177, k_1178⟩
theorem mt_X10_sumOf : MthV yX10_sumOf cX10_sumOf 4 (some .int) 1 := ⟨⟨k_1187, k_10, by decide, by decide, by decide +kernel⟩, k_1186, ks_39⟩
theorem mt_X10_books : MthV yX10_books cX10_books 2 (some .int) 1 := ⟨⟨k_1183, k_10, by decide, by decide, by decide +kernel⟩, k_1181, k_1182⟩
theorem mt_Jxa1e45_init_da8c8 : MthI yJxa1e45_init_da8c8 cJxa1e45_init_da8c8 1 0 := ⟨⟨k_51, k_3, by decide, by decide, by decide +kernel⟩, k_50, rfl⟩
theorem mt_Jxc12de_init_da8c8 : MthI yJxc12de_init_da8c8 cJxc12de_init_da8c8 1 0 := ⟨⟨k_48, k_4, by decide, by decide, by decide +kernel⟩, k_47, rfl⟩
theorem mt_Jx4a65c_init_da8c8 : MthI yJx4a65c_init_da8c8 cJx4a65c_init_da8c8 1 0 := ⟨⟨k_45, k_5, by decide, by decide, by decide +kernel⟩, k_44, rfl⟩
theorem mt_Jx4a65c_grow_92f84 : MthV yJx4a65c_grow_92f84 cJx4a65c_grow_92f84 4 (some (.array (.object "java/lang/Object"))) 1 := ⟨⟨k_324, k_5, by decide, by decide, by decide +kernel⟩, k_323, ks_3⟩
theorem mt_Jx4a65c_grow_d5877 : MthV yJx4a65c_grow_d5877 cJx4a65c_grow_d5877 1 (some (.array (.object "java/lang/Object"))) 0 := ⟨⟨k_320, k_5, by decide, by decide, by decide +kernel⟩, k_319, ks_2⟩
theorem mt_Jx4a65c_size_8abf5 : MthV yJx4a65c_size_8abf5 cJx4a65c_size_8abf5 1 (some .int) 0 := ⟨⟨k_263, k_5, by decide, by decide, by decide +kernel⟩, k_261, k_262⟩
theorem mt_Jx4a65c_isEmpty_aae02 : MthV yJx4a65c_isEmpty_aae02 cJx4a65c_isEmpty_aae02 1 (some .boolean) 0 := ⟨⟨k_504, k_5, by decide, by decide, by decide +kernel⟩, k_502, k_503⟩
theorem mt_Jx4a65c_elementData_915e3 : MthV yJx4a65c_elementData_915e3 cJx4a65c_elementData_915e3 2 (some (.object "java/lang/Object")) 1 := ⟨⟨k_412, k_5, by decide, by decide, by decide +kernel⟩, k_410, k_411⟩
theorem mt_Jx4a65c_get_915e3 : MthV yJx4a65c_get_915e3 cJx4a65c_get_915e3 2 (some (.object "java/lang/Object")) 1 := ⟨⟨k_402, k_5, by decide, by decide, by decide +kernel⟩, k_400, k_401⟩
theorem mt_Jx4a65c_add_72be8 : MthV yJx4a65c_add_72be8 cJx4a65c_add_72be8 4 none 3 := ⟨⟨k_316, k_5, by decide, by decide, by decide +kernel⟩, k_315, ks_1⟩
theorem mt_Jx4a65c_add_9ea2d : MthV yJx4a65c_add_9ea2d cJx4a65c_add_9ea2d 2 (some .boolean) 1 := ⟨⟨k_312, k_5, by decide, by decide, by decide +kernel⟩, k_310, k_311⟩
theorem mt_J7_fill_53178 : MthS yJ7_fill_53178 cJ7_fill_53178 4 none 2 := ⟨⟨k_135, k_9, by decide, by decide, by decide +kernel⟩, k_134⟩
theorem mt_J7_copyOf_1904c : MthS yJ7_copyOf_1904c cJ7_copyOf_1904c 2 (some (.array (.object "java/lang/Object"))) 2 := ⟨⟨k_337, k_9, by decide, by decide, by decide +kernel⟩, k_336⟩
theorem mt_J7_copyOf_6403c : MthS yJ7_copyOf_6403c cJ7_copyOf_6403c 4 (some (.array (.object "java/lang/Object"))) 3 := ⟨⟨k_359, k_9, by decide, by decide, by decide +kernel⟩, k_358⟩
theorem mt_J15_checkIndex_7cf53 : MthS yJ15_checkIndex_7cf53 cJ15_checkIndex_7cf53 2 (some .int) 2 := ⟨⟨k_405, k_21, by decide, by decide, by decide +kernel⟩, k_404⟩
theorem mt_J8_newLength_cabcc : MthS yJ8_newLength_cabcc cJ8_newLength_cabcc 4 (some .int) 3 := ⟨⟨k_327, k_17, by decide, by decide, by decide +kernel⟩, k_326⟩
theorem mt_J8_hugeLength_7cf53 : MthS yJ8_hugeLength_7cf53 cJ8_hugeLength_7cf53 3 (some .int) 2 := ⟨⟨k_334, k_17, by decide, by decide, by decide +kernel⟩, k_333⟩
theorem mt_J3_checkIndex_8e157 : MthS yJ3_checkIndex_8e157 cJ3_checkIndex_8e157 3 (some .int) 3 := ⟨⟨k_408, k_22, by decide, by decide, by decide +kernel⟩, k_407⟩
theorem th_X9_93 : ThOk RX9 93 "java/lang/IllegalStateException" ["java/lang/RuntimeException", "java/lang/Exception"] := ThOk.of (by decide +kernel) (by decide +kernel) (by decide +kernel)
theorem th_X9_117 : ThOk RX9 117 "java/lang/IllegalArgumentException" ["java/lang/RuntimeException", "java/lang/Exception"] := ThOk.of (by decide +kernel) (by decide +kernel) (by decide +kernel)
theorem th_X9_291 : ThOk RX9 291 "java/lang/IndexOutOfBoundsException" ["java/lang/RuntimeException", "java/lang/Exception"] := ThOk.of (by decide +kernel) (by decide +kernel) (by decide +kernel)
def bI (b : Bool) : Int32 := if b then 1 else 0
theorem bI_t : bI true = 1 := rfl
theorem bI_f : bI false = 0 := rfl
theorem bI_0 {b : Bool} : bI b = 0 ↔ b = false := by cases b <;> simp [bI]
theorem bI_n0 {b : Bool} : ¬ bI b = 0 ↔ b = true := by cases b <;> simp [bI]
theorem bI_nar (b : Bool) : narrow .boolean (.int (bI b)) = .int (bI b) := by cases b <;> rfl
theorem bI_fit (b : Bool) : fits .boolean (.int (bI b)) = true := by cases b <;> rfl
theorem bI_vp (b : Bool) : vp_nar .boolean (bI b) = bI b := by cases b <;> rfl
def inR (n lo hi : Int32) : Bool := decide (lo ≤ n) && decide (n ≤ hi)
theorem g_lv2 {p : Program} {l : Launch} {e : Env} {R : Room} {s : State} {m : MethodId} {args : Array Value} {below : List Frame} {meth : Method} {c : Code} {D : va_G} {cy : Nat → ClassId} {z nL : Nat} {w : Wd} {kc ns pc : Nat} {lv : List (Nat × Value)} {st : List Value} {Q : State → Prop} (lv' : List (Nat × Value)) (h : lv'.map (fun q => lvg lv q.1) = lv'.map (fun q => some q.2)) (k : G p l e R s m args below meth c D cy z nL w kc ns pc lv' st Q) : G p l e R s m args below meth c D cy z nL w kc ns pc lv st Q := by
  refine g_lv lv' (fun q hq => ?_) k
  obtain ⟨i, hi⟩ := List.getElem?_of_mem hq
  have h2 := congrArg (fun l => l[i]?) h
  simp only [List.getElem?_map, hi, Option.map_some] at h2
  exact Option.some.inj h2
theorem g_tabIn {p : Program} {l : Launch} {e : Env} {R : Room} {s : State} {m : MethodId} {args : Array Value} {below : List Frame} {meth : Method} {c : Code} {D : va_G} {cy : Nat → ClassId} {z : Nat} {cc : ByteArray} {own : String} {nL : Nat} {ret : Option FieldType} {fr lo mc ms de : Nat} {w : Wd} {kc ns pc : Nat} {lv : List (Nat × Value)} {st : List Value} {Q : State → Prop} (C : Cx p l R s m args meth c D cy z cc own nL ret fr lo mc ms de) {dflt tlo thi : Int} {offs : Array Int} {len : Nat} {x : Int32} {off : Int} (tgt : Nat) {v : Int} (hdg : decode cc pc = .ok (.tableswitch dflt tlo thi offs, len)) (hx : x.toInt = v) (h1 : ¬ v < tlo) (h2 : ¬ thi < v) (ho : offs[(v - tlo).toNat]? = some off) (ht : (pc : Int) + off = (tgt : Int)) (k : G p l e R s m args below meth c D cy z nL w kc ns tgt lv st Q) : G p l e R s m args below meth c D cy z nL w kc ns pc lv (.int x :: st) Q := fun H locs ls hH hS hl => lv_tableIn C.1 C.2.1 hdg (by rw [hx]; exact h1) (by rw [hx]; exact h2) (by rw [hx]; exact ho) ht (k H locs ls hH hS hl)
theorem g_tabOut {p : Program} {l : Launch} {e : Env} {R : Room} {s : State} {m : MethodId} {args : Array Value} {below : List Frame} {meth : Method} {c : Code} {D : va_G} {cy : Nat → ClassId} {z : Nat} {cc : ByteArray} {own : String} {nL : Nat} {ret : Option FieldType} {fr lo mc ms de : Nat} {w : Wd} {kc ns pc : Nat} {lv : List (Nat × Value)} {st : List Value} {Q : State → Prop} (C : Cx p l R s m args meth c D cy z cc own nL ret fr lo mc ms de) {dflt tlo thi : Int} {offs : Array Int} {len : Nat} {x : Int32} (tgt : Nat) (hdg : decode cc pc = .ok (.tableswitch dflt tlo thi offs, len)) (h : x.toInt < tlo ∨ thi < x.toInt) (ht : (pc : Int) + dflt = (tgt : Int)) (k : G p l e R s m args below meth c D cy z nL w kc ns tgt lv st Q) : G p l e R s m args below meth c D cy z nL w kc ns pc lv (.int x :: st) Q := fun H locs ls hH hS hl => lv_tableOut C.1 C.2.1 hdg h ht (k H locs ls hH hS hl)
theorem g_astoreR {p : Program} {l : Launch} {e : Env} {R : Room} {s : State} {m : MethodId} {args : Array Value} {below : List Frame} {meth : Method} {c : Code} {D : va_G} {cy : Nat → ClassId} {z : Nat} {cc : ByteArray} {own : String} {nL : Nat} {ret : Option FieldType} {fr lo mc ms de : Nat} {w : Wd} {kc ns pc : Nat} {lv : List (Nat × Value)} {st : List Value} {Q : State → Prop} (C : Cx p l R s m args meth c D cy z cc own nL ret fr lo mc ms de) {i : Nat} {r : Option Nat} (hdg : decode cc pc = .ok (.astore i, 2)) (hn : i < nL) (k : G p l e R s m args below meth c D cy z nL w kc ns (pc + 2) (lvs lv i (va_rf r)) st Q) : G p l e R s m args below meth c D cy z nL w kc ns pc lv (va_rf r :: st) Q := by
  cases r with
  | none => exact g_astoreN C hdg hn k
  | some x => exact g_astore C hdg hn k
theorem g_astore_nR {p : Program} {l : Launch} {e : Env} {R : Room} {s : State} {m : MethodId} {args : Array Value} {below : List Frame} {meth : Method} {c : Code} {D : va_G} {cy : Nat → ClassId} {z : Nat} {cc : ByteArray} {own : String} {nL : Nat} {ret : Option FieldType} {fr lo mc ms de : Nat} {w : Wd} {kc ns pc : Nat} {lv : List (Nat × Value)} {st : List Value} {Q : State → Prop} (C : Cx p l R s m args meth c D cy z cc own nL ret fr lo mc ms de) {i : Fin 4} {r : Option Nat} (hdg : decode cc pc = .ok (.astore_n i, 1)) (hn : (i : Nat) < nL) (k : G p l e R s m args below meth c D cy z nL w kc ns (pc + 1) (lvs lv (i : Nat) (va_rf r)) st Q) : G p l e R s m args below meth c D cy z nL w kc ns pc lv (va_rf r :: st) Q := by
  cases r with
  | none => exact g_astore_nN C hdg hn k
  | some x => exact g_astore_n C hdg hn k
theorem g_aloadR {p : Program} {l : Launch} {e : Env} {R : Room} {s : State} {m : MethodId} {args : Array Value} {below : List Frame} {meth : Method} {c : Code} {D : va_G} {cy : Nat → ClassId} {z : Nat} {cc : ByteArray} {own : String} {nL : Nat} {ret : Option FieldType} {fr lo mc ms de : Nat} {w : Wd} {kc ns pc : Nat} {lv : List (Nat × Value)} {st : List Value} {Q : State → Prop} (C : Cx p l R s m args meth c D cy z cc own nL ret fr lo mc ms de) {i : Nat} {r : Option Nat} (hdg : decode cc pc = .ok (.aload i, 2)) (hl0 : lvg lv i = some (va_rf r)) (k : G p l e R s m args below meth c D cy z nL w kc ns (pc + 2) lv (va_rf r :: st) Q) : G p l e R s m args below meth c D cy z nL w kc ns pc lv st Q := by
  cases r with
  | none => exact g_aloadN C hdg hl0 k
  | some x => exact g_aload C hdg hl0 k
theorem g_aload_nR {p : Program} {l : Launch} {e : Env} {R : Room} {s : State} {m : MethodId} {args : Array Value} {below : List Frame} {meth : Method} {c : Code} {D : va_G} {cy : Nat → ClassId} {z : Nat} {cc : ByteArray} {own : String} {nL : Nat} {ret : Option FieldType} {fr lo mc ms de : Nat} {w : Wd} {kc ns pc : Nat} {lv : List (Nat × Value)} {st : List Value} {Q : State → Prop} (C : Cx p l R s m args meth c D cy z cc own nL ret fr lo mc ms de) {i : Fin 4} {r : Option Nat} (hdg : decode cc pc = .ok (.aload_n i, 1)) (hl0 : lvg lv (i : Nat) = some (va_rf r)) (k : G p l e R s m args below meth c D cy z nL w kc ns (pc + 1) lv (va_rf r :: st) Q) : G p l e R s m args below meth c D cy z nL w kc ns pc lv st Q := by
  cases r with
  | none => exact g_aload_nN C hdg hl0 k
  | some x => exact g_aload_n C hdg hl0 k
theorem g_getO {p : Program} {l : Launch} {e : Env} {R : Room} {s : State} {m : MethodId} {args : Array Value} {below : List Frame} {meth : Method} {c : Code} {D : va_G} {cy : Nat → ClassId} {z : Nat} {cc : ByteArray} {own : String} {nL : Nat} {ret : Option FieldType} {fr lo mc ms de : Nat} {w : Wd} {kc ns pc : Nat} {lv : List (Nat × Value)} {st : List Value} {Q : State → Prop} (C : Cx p l R s m args meth c D cy z cc own nL ret fr lo mc ms de) {ci N : Nat} {Cn : String} {T : u_T} {ty0 : Nat → FieldType} (hcl : ClsOk ci Cn T N ty0) (K k : Nat) {a index : Nat} (hk : kd w a = K) (hK : okF ci N K k true = true)
    (hlink : Cond.fieldLink own index (T k).1 (T k).2.1 (T k).2.2.1 ∈ TBL) (hdg : decode cc pc = .ok (.getfield index, 3))
    (kk : G p l e R s m args below meth c D cy z nL w kc ns (pc + 3) lv (va_rf (fR w K k a) :: st) Q) : G p l e R s m args below meth c D cy z nL w kc ns pc lv (.ref a :: st) Q := by
  obtain ⟨h1, h2, h3, h4, h5, h6⟩ := okF_spec hK
  refine g_getV C hcl hk hK hlink (fun _ h => h) hdg ?_
  rw [fval_R (by rw [h3]; exact h6)]
  exact kk
/-- what a new cell leaves as it was -/
theorem nw_ne {w : Wd} {q a K : Nat} (h : kd w a = K) (hK : K ≠ 0) (hq : kd w q = 0) : a ≠ q := fun e => hK (by rw [← h, e, hq])
theorem kd_nw {w : Wd} {q a K K' n : Nat} (h : kd w a = K) (hK : K ≠ 0) (hq : kd w q = 0) : kd (nw w q K' n) a = K := (nw_kd (nw_ne h hK hq)).trans h
theorem fI_nw {w : Wd} {q a K' n K k : Nat} (h : a ≠ q) : fI (nw w q K' n) K k a = fI w K k a := if_neg h
theorem fR_nw {w : Wd} {q a K' n K k : Nat} (h : a ≠ q) : fR (nw w q K' n) K k a = fR w K k a := if_neg h
theorem aL_nw {w : Wd} {q a K' n : Nat} (h : a ≠ q) : aL (nw w q K' n) a = aL w a := va_up_ne _ _ h
theorem aI_nw {w : Wd} {q a K' n K : Nat} (h : a ≠ q) : aI (nw w q K' n) K a = aI w K a := funext fun _ => if_neg h
theorem aR_nw {w : Wd} {q a K' n K : Nat} (h : a ≠ q) : aR (nw w q K' n) K a = aR w K a := funext fun _ => if_neg h
theorem aJ_nw {w : Wd} {q a K' n K : Nat} (h : a ≠ q) : aJ (nw w q K' n) K a = aJ w K a := funext fun _ => if_neg h
/-- the cell at a is as it was -/
def SmA (w w' : Wd) (a : Nat) : Prop := kd w' a = kd w a ∧ aL w' a = aL w a ∧ (∀ K k, fI w' K k a = fI w K k a) ∧ (∀ K k, fR w' K k a = fR w K k a) ∧ (∀ K, aI w' K a = aI w K a) ∧ (∀ K, aR w' K a = aR w K a) ∧ ∀ K, aJ w' K a = aJ w K a
/-- all cells but those of X are as they were -/
def Fr (w w' : Wd) (X : Nat → Prop) : Prop := ∀ a, kd w a ≠ 0 → ¬ X a → SmA w w' a
theorem SmA.rf {w : Wd} {a : Nat} : SmA w w a := ⟨rfl, rfl, fun _ _ => rfl, fun _ _ => rfl, fun _ => rfl, fun _ => rfl, fun _ => rfl⟩
theorem SmA.tr {w w1 w2 : Wd} {a : Nat} (h : SmA w w1 a) (k : SmA w1 w2 a) : SmA w w2 a := ⟨k.1.trans h.1, k.2.1.trans h.2.1, fun K j => (k.2.2.1 K j).trans (h.2.2.1 K j), fun K j => (k.2.2.2.1 K j).trans (h.2.2.2.1 K j), fun K => (k.2.2.2.2.1 K).trans (h.2.2.2.2.1 K), fun K => (k.2.2.2.2.2.1 K).trans (h.2.2.2.2.2.1 K), fun K => (k.2.2.2.2.2.2 K).trans (h.2.2.2.2.2.2 K)⟩
theorem SmA.nw {w : Wd} {q a K n : Nat} (h : a ≠ q) : SmA w (nw w q K n) a := ⟨nw_kd h, aL_nw h, fun _ _ => fI_nw h, fun _ _ => fR_nw h, fun _ => aI_nw h, fun _ => aR_nw h, fun _ => aJ_nw h⟩
theorem SmA.pI {w : Wd} {K k b a : Nat} {v : Int32} (h : a ≠ b) : SmA w (pI w K k b v) a := ⟨rfl, rfl, fun _ _ => up3_z h, fun _ _ => rfl, fun _ => rfl, fun _ => rfl, fun _ => rfl⟩
theorem SmA.pR {w : Wd} {K k b a : Nat} {v : Option Nat} (h : a ≠ b) : SmA w (pR w K k b v) a := ⟨rfl, rfl, fun _ _ => rfl, fun _ _ => up3_z h, fun _ => rfl, fun _ => rfl, fun _ => rfl⟩
theorem SmA.pAI {w : Wd} {K j b a : Nat} {v : Int32} (h : a ≠ b) : SmA w (pAI w K b j v) a := ⟨rfl, rfl, fun _ _ => rfl, fun _ _ => rfl, fun _ => funext fun _ => up3_y h, fun _ => rfl, fun _ => rfl⟩
theorem SmA.pAR {w : Wd} {K j b a : Nat} {v : Option Nat} (h : a ≠ b) : SmA w (pAR w K b j v) a := ⟨rfl, rfl, fun _ _ => rfl, fun _ _ => rfl, fun _ => rfl, fun _ => funext fun _ => up3_y h, fun _ => rfl⟩
theorem SmA.pAJ {w : Wd} {K j b a : Nat} {v : Int64} (h : a ≠ b) : SmA w (pAJ w K b j v) a := ⟨rfl, rfl, fun _ _ => rfl, fun _ _ => rfl, fun _ => rfl, fun _ => rfl, fun _ => funext fun _ => up3_y h⟩
theorem Fr.rf {w : Wd} {X : Nat → Prop} : Fr w w X := fun _ _ _ => SmA.rf
theorem Fr.tr {w w1 w2 : Wd} {X : Nat → Prop} (h : Fr w w1 X) (k : Fr w1 w2 X) : Fr w w2 X := fun a ha hX => (h a ha hX).tr (k a (by rw [(h a ha hX).1]; exact ha) hX)
theorem Fr.mono {w w1 : Wd} {X Y : Nat → Prop} (h : Fr w w1 X) (hXY : ∀ a, kd w a ≠ 0 → X a → Y a) : Fr w w1 Y := fun a ha hY => h a ha (fun hx => hY (hXY a ha hx))
end TOOLS9
