theorem mi_X0_init : MI yX0_init cX0_init 3 none 2 := ⟨tb_553, tb_81, by decide +kernel, by decide⟩
theorem mi_X0_kind : MI yX0_kind cX0_kind 1 ((some .int)) 0 := ⟨tb_583, tb_81, by decide +kernel, by decide⟩
theorem mi_X0_comes : MI yX0_comes cX0_comes 2 ((some .int)) 1 := ⟨tb_608, tb_81, by decide +kernel, by decide⟩
theorem mi_X0_flight : MI yX0_flight cX0_flight 3 ((some .int)) 2 := ⟨tb_662, tb_81, by decide +kernel, by decide⟩
theorem mi_X1_init : MI yX1_init cX1_init 2 none 1 := ⟨tb_326, tb_73, by decide +kernel, by decide⟩
theorem mi_X1_take : MI yX1_take cX1_take 2 none 1 := ⟨tb_754, tb_73, by decide +kernel, by decide⟩
theorem mi_X1_one : MI yX1_one cX1_one 2 ((some (.object "MiddleOfCourt$Player"))) 1 := ⟨tb_464, tb_73, by decide +kernel, by decide⟩
theorem mi_X1_needsOf : MI yX1_needsOf cX1_needsOf 5 ((some .int)) 3 := ⟨tb_709, tb_73, by decide +kernel, by decide⟩
theorem mi_X1_tenthsOf : MI yX1_tenthsOf cX1_tenthsOf 6 ((some .int)) 2 := ⟨tb_628, tb_73, by decide +kernel, by decide⟩
theorem mi_X1_slipsOf : MI yX1_slipsOf cX1_slipsOf 5 ((some .int)) 2 := ⟨tb_685, tb_73, by decide +kernel, by decide⟩
theorem mi_X1_wouldWin : MI yX1_wouldWin cX1_wouldWin 6 ((some .boolean)) 2 := ⟨tb_815, tb_73, by decide +kernel, by decide⟩
theorem mi_X1_strike : MI yX1_strike cX1_strike 7 ((some .boolean)) 2 := ⟨tb_767, tb_73, by decide +kernel, by decide⟩
theorem mi_X2_init : MI yX2_init cX2_init 3 none 2 := ⟨tb_562, tb_82, by decide +kernel, by decide⟩
theorem mi_X2_kind : MI yX2_kind cX2_kind 1 ((some .int)) 0 := ⟨tb_586, tb_82, by decide +kernel, by decide⟩
theorem mi_X2_comes : MI yX2_comes cX2_comes 3 ((some .int)) 1 := ⟨tb_614, tb_82, by decide +kernel, by decide⟩
theorem mi_X2_flight : MI yX2_flight cX2_flight 3 ((some .int)) 2 := ⟨tb_669, tb_82, by decide +kernel, by decide⟩
theorem mi_X2_spends : MI yX2_spends cX2_spends 1 ((some .int)) 0 := ⟨tb_696, tb_82, by decide +kernel, by decide⟩
theorem mi_X3_init : MI yX3_init cX3_init 3 none 2 := ⟨tb_535, tb_79, by decide +kernel, by decide⟩
theorem mi_X3_kind : MI yX3_kind cX3_kind 1 ((some .int)) 0 := ⟨tb_589, tb_79, by decide +kernel, by decide⟩
theorem mi_X3_flight : MI yX3_flight cX3_flight 4 ((some .int)) 2 := ⟨tb_665, tb_79, by decide +kernel, by decide⟩
theorem mi_X3_spends : MI yX3_spends cX3_spends 1 ((some .int)) 0 := ⟨tb_692, tb_79, by decide +kernel, by decide⟩
theorem mi_X4_init : MI yX4_init cX4_init 3 none 2 := ⟨tb_508, tb_78, by decide +kernel, by decide⟩
theorem mi_X4_kind : MI yX4_kind cX4_kind 1 ((some .int)) 0 := ⟨tb_592, tb_78, by decide +kernel, by decide⟩
theorem mi_X4_flight : MI yX4_flight cX4_flight 3 ((some .int)) 2 := ⟨tb_672, tb_78, by decide +kernel, by decide⟩
theorem mi_X5_init : MI yX5_init cX5_init 3 none 2 := ⟨tb_544, tb_80, by decide +kernel, by decide⟩
theorem mi_X5_kind : MI yX5_kind cX5_kind 1 ((some .int)) 0 := ⟨tb_595, tb_80, by decide +kernel, by decide⟩
theorem mi_X5_comes : MI yX5_comes cX5_comes 2 ((some .int)) 1 := ⟨tb_623, tb_80, by decide +kernel, by decide⟩
theorem mi_X5_flight : MI yX5_flight cX5_flight 3 ((some .int)) 2 := ⟨tb_678, tb_80, by decide +kernel, by decide⟩
theorem mi_X5_spends : MI yX5_spends cX5_spends 1 ((some .int)) 0 := ⟨tb_704, tb_80, by decide +kernel, by decide⟩
theorem mi_X6_init : MI yX6_init cX6_init 1 none 0 := ⟨tb_332, tb_74, by decide +kernel, by decide⟩
theorem mi_X6_take : MI yX6_take cX6_take 2 none 1 := ⟨tb_758, tb_74, by decide +kernel, by decide⟩
theorem mi_X6_tire : MI yX6_tire cX6_tire 2 none 1 := ⟨tb_774, tb_74, by decide +kernel, by decide⟩
theorem mi_X6_go : MI yX6_go cX6_go 2 none 1 := ⟨tb_780, tb_74, by decide +kernel, by decide⟩
theorem mi_X6_value : MI yX6_value cX6_value 2 ((some .int)) 1 := ⟨tb_472, tb_74, by decide +kernel, by decide⟩
theorem mi_X6_change : MI yX6_change cX6_change 4 ((some .int)) 2 := ⟨tb_468, tb_74, by decide +kernel, by decide⟩
theorem mi_X7_init : MI yX7_init cX7_init 1 none 0 := ⟨tb_375, tb_75, by decide +kernel, by decide⟩
theorem mi_X7_isMissing : MI yX7_isMissing cX7_isMissing 1 ((some .boolean)) 0 := ⟨tb_742, tb_75, by decide +kernel, by decide⟩
theorem mi_X7_holds : MI yX7_holds cX7_holds 3 ((some .boolean)) 2 := ⟨tb_903, tb_75, by decide +kernel, by decide⟩
theorem mi_X7_become : MI yX7_become cX7_become 4 none 2 := ⟨tb_864, tb_75, by decide +kernel, by decide⟩
theorem mi_X7_item : MI yX7_item cX7_item 2 ((some .int)) 1 := ⟨tb_746, tb_75, by decide +kernel, by decide⟩
theorem mi_X7_put : MI yX7_put cX7_put 3 none 2 := ⟨tb_869, tb_75, by decide +kernel, by decide⟩
theorem mi_X8_init : MI yX8_init cX8_init 3 none 2 := ⟨tb_511, tb_77, by decide +kernel, by decide⟩
theorem mi_X8_kind : MI yX8_kind cX8_kind 1 ((some .int)) 0 := ⟨tb_596, tb_77, by decide +kernel, by decide⟩
theorem mi_X8_comes : MI yX8_comes cX8_comes 2 ((some .int)) 1 := ⟨tb_624, tb_77, by decide +kernel, by decide⟩
theorem mi_X8_flight : MI yX8_flight cX8_flight 3 ((some .int)) 2 := ⟨tb_680, tb_77, by decide +kernel, by decide⟩
theorem mi_X8_spends : MI yX8_spends cX8_spends 1 ((some .int)) 0 := ⟨tb_705, tb_77, by decide +kernel, by decide⟩
theorem mi_X8_value : MI yX8_value cX8_value 2 ((some .int)) 1 := ⟨tb_496, tb_77, by decide +kernel, by decide⟩
theorem mi_X8_change : MI yX8_change cX8_change 4 ((some .int)) 2 := ⟨tb_486, tb_77, by decide +kernel, by decide⟩
theorem mi_X9_init : MI yX9_init cX9_init 1 none 0 := ⟨tb_100, tb_67, by decide +kernel, by decide⟩
theorem mi_X9_add : MI yX9_add cX9_add 2 ((some .boolean)) 1 := ⟨tb_217, tb_67, by decide +kernel, by decide⟩
theorem mi_X9_write : MI yX9_write cX9_write 3 none 1 := ⟨tb_165, tb_67, by decide +kernel, by decide⟩
theorem mi_X9_readInto : MI yX9_readInto cX9_readInto 3 ((some .int)) 1 := ⟨tb_221, tb_67, by decide +kernel, by decide⟩
theorem mi_X9_fail : MI yX9_fail cX9_fail 1 none 0 := ⟨tb_282, tb_67, by decide +kernel, by decide⟩
theorem mi_X9_expect : MI yX9_expect cX9_expect 2 none 1 := ⟨tb_278, tb_67, by decide +kernel, by decide⟩
theorem mi_X9_emit : MI yX9_emit cX9_emit 2 none 1 := ⟨tb_302, tb_67, by decide +kernel, by decide⟩
theorem mi_X9_readEither : MI yX9_readEither cX9_readEither 3 none 1 := ⟨tb_286, tb_67, by decide +kernel, by decide⟩
theorem mi_X9_readBoth : MI yX9_readBoth cX9_readBoth 3 none 1 := ⟨tb_290, tb_67, by decide +kernel, by decide⟩
theorem mi_X9_readNot : MI yX9_readNot cX9_readNot 3 none 1 := ⟨tb_294, tb_67, by decide +kernel, by decide⟩
theorem mi_X9_readSum : MI yX9_readSum cX9_readSum 4 none 1 := ⟨tb_310, tb_67, by decide +kernel, by decide⟩
theorem mi_X9_readTerm : MI yX9_readTerm cX9_readTerm 3 none 1 := ⟨tb_314, tb_67, by decide +kernel, by decide⟩
theorem mi_X9_readOne : MI yX9_readOne cX9_readOne 2 none 1 := ⟨tb_318, tb_67, by decide +kernel, by decide⟩
theorem mi_X9_opens : MI yX9_opens cX9_opens 2 ((some .boolean)) 1 := ⟨tb_298, tb_67, by decide +kernel, by decide⟩
theorem mi_X9_letterAt : MI yX9_letterAt cX9_letterAt 2 ((some .int)) 1 := ⟨tb_233, tb_67, by decide +kernel, by decide⟩
theorem mi_X9_next : MI yX9_next cX9_next 2 none 0 := ⟨tb_229, tb_67, by decide +kernel, by decide⟩
theorem mi_X9_isLetter : MI yX9_isLetter cX9_isLetter 1 ((some .boolean)) 1 := ⟨tb_236, tb_67, by decide +kernel, by decide⟩
theorem mi_X9_isDigit : MI yX9_isDigit cX9_isDigit 1 ((some .boolean)) 1 := ⟨tb_267, tb_67, by decide +kernel, by decide⟩
theorem mi_X9_isSign : MI yX9_isSign cX9_isSign 1 ((some .boolean)) 1 := ⟨tb_274, tb_67, by decide +kernel, by decide⟩
theorem mi_X9_nextNumber : MI yX9_nextNumber cX9_nextNumber 1 none 0 := ⟨tb_271, tb_67, by decide +kernel, by decide⟩
theorem mi_X9_nextWord : MI yX9_nextWord cX9_nextWord 1 none 0 := ⟨tb_240, tb_67, by decide +kernel, by decide⟩
theorem mi_X9_nameOfWord : MI yX9_nameOfWord cX9_nameOfWord 1 ((some .int)) 0 := ⟨tb_244, tb_67, by decide +kernel, by decide⟩
theorem mi_X9_keyOfWord : MI yX9_keyOfWord cX9_keyOfWord 1 ((some .int)) 0 := ⟨tb_258, tb_67, by decide +kernel, by decide⟩
theorem mi_X9_isWord : MI yX9_isWord cX9_isWord 4 ((some .boolean)) 1 := ⟨tb_249, tb_67, by decide +kernel, by decide⟩
theorem mi_X10_init : MI yX10_init cX10_init 2 none 1 := ⟨tb_139, tb_68, by decide +kernel, by decide⟩
theorem mi_X10_clear : MI yX10_clear cX10_clear 1 none 0 := ⟨tb_225, tb_68, by decide +kernel, by decide⟩
theorem mi_X10_add : MI yX10_add cX10_add 2 none 1 := ⟨tb_306, tb_68, by decide +kernel, by decide⟩
theorem mi_X10_endPart : MI yX10_endPart cX10_endPart 2 none 1 := ⟨tb_322, tb_68, by decide +kernel, by decide⟩
theorem mi_X10_reckon : MI yX10_reckon cX10_reckon 9 ((some .int)) 6 := ⟨tb_642, tb_68, by decide +kernel, by decide⟩
theorem mi_X10_work : MI yX10_work cX10_work 3 ((some .int)) 2 := ⟨tb_646, tb_68, by decide +kernel, by decide⟩
theorem mi_X10_join : MI yX10_join cX10_join 3 ((some .int)) 3 := ⟨tb_649, tb_68, by decide +kernel, by decide⟩
theorem mi_X11_init : MI yX11_init cX11_init 2 none 0 := ⟨tb_90, tb_66, by decide +kernel, by decide⟩
theorem mi_X11_set : MI yX11_set cX11_set 5 ((some .int)) 3 := ⟨tb_451, tb_66, by decide +kernel, by decide⟩
theorem mi_X11_stroke : MI yX11_stroke cX11_stroke 4 ((some .int)) 3 := ⟨tb_500, tb_66, by decide +kernel, by decide⟩
theorem mi_X11_told : MI yX11_told cX11_told 4 ((some .int)) 2 := ⟨tb_575, tb_66, by decide +kernel, by decide⟩
theorem mi_X11_shot : MI yX11_shot cX11_shot 7 ((some .int)) 3 := ⟨tb_601, tb_66, by decide +kernel, by decide⟩
theorem mi_X11_needs : MI yX11_needs cX11_needs 5 ((some .int)) 2 := ⟨tb_713, tb_66, by decide +kernel, by decide⟩
theorem mi_X11_feed : MI yX11_feed cX11_feed 2 ((some .int)) 1 := ⟨tb_717, tb_66, by decide +kernel, by decide⟩
theorem mi_X11_text : MI yX11_text cX11_text 2 ((some .int)) 0 := ⟨tb_722, tb_66, by decide +kernel, by decide⟩
theorem mi_X11_force : MI yX11_force cX11_force 3 ((some .int)) 1 := ⟨tb_726, tb_66, by decide +kernel, by decide⟩
theorem mi_X11_rally : MI yX11_rally cX11_rally 5 ((some .int)) 2 := ⟨tb_730, tb_66, by decide +kernel, by decide⟩
theorem mi_X11_play : MI yX11_play cX11_play 3 ((some .int)) 1 := ⟨tb_794, tb_66, by decide +kernel, by decide⟩
theorem mi_X11_likely : MI yX11_likely cX11_likely 2 ((some .long)) 1 := ⟨tb_798, tb_66, by decide +kernel, by decide⟩
theorem mi_X11_best : MI yX11_best cX11_best 5 ((some .int)) 3 := ⟨tb_803, tb_66, by decide +kernel, by decide⟩
theorem mi_X11_sure : MI yX11_sure cX11_sure 3 ((some .int)) 1 := ⟨tb_819, tb_66, by decide +kernel, by decide⟩
theorem mi_X11_stand : MI yX11_stand cX11_stand 7 ((some .int)) 2 := ⟨tb_823, tb_66, by decide +kernel, by decide⟩
theorem mi_X11_tires : MI yX11_tires cX11_tires 9 ((some .int)) 1 := ⟨tb_832, tb_66, by decide +kernel, by decide⟩
theorem mi_X11_inTheWay : MI yX11_inTheWay cX11_inTheWay 3 ((some .int)) 1 := ⟨tb_836, tb_66, by decide +kernel, by decide⟩
theorem mi_X11_balls : MI yX11_balls cX11_balls 5 ((some .int)) 2 := ⟨tb_840, tb_66, by decide +kernel, by decide⟩
theorem mi_X11_quicks : MI yX11_quicks cX11_quicks 6 ((some .int)) 3 := ⟨tb_848, tb_66, by decide +kernel, by decide⟩
theorem mi_X11_film : MI yX11_film cX11_film 6 ((some .int)) 2 := ⟨tb_860, tb_66, by decide +kernel, by decide⟩
theorem mi_X11_drawn : MI yX11_drawn cX11_drawn 6 ((some .int)) 1 := ⟨tb_873, tb_66, by decide +kernel, by decide⟩
theorem mi_X11_chance : MI yX11_chance cX11_chance 6 ((some .long)) 3 := ⟨tb_878, tb_66, by decide +kernel, by decide⟩
theorem mi_X11_image : MI yX11_image cX11_image 3 ((some .int)) 0 := ⟨tb_883, tb_66, by decide +kernel, by decide⟩
theorem mi_X11_back : MI yX11_back cX11_back 3 ((some .int)) 0 := ⟨tb_887, tb_66, by decide +kernel, by decide⟩
theorem mi_X11_count : MI yX11_count cX11_count 2 ((some .int)) 1 := ⟨tb_891, tb_66, by decide +kernel, by decide⟩
theorem mi_X11_sheet : MI yX11_sheet cX11_sheet 5 ((some .int)) 3 := ⟨tb_895, tb_66, by decide +kernel, by decide⟩
theorem mi_X11_cell : MI yX11_cell cX11_cell 5 ((some .int)) 3 := ⟨tb_899, tb_66, by decide +kernel, by decide⟩
theorem mi_X11_copy : MI yX11_copy cX11_copy 8 ((some .int)) 5 := ⟨tb_907, tb_66, by decide +kernel, by decide⟩
theorem mi_X11_strokes : MI yX11_strokes cX11_strokes 9 ((some .int)) 4 := ⟨tb_914, tb_66, by decide +kernel, by decide⟩
theorem mi_X11_taken : MI yX11_taken cX11_taken 4 ((some .int)) 2 := ⟨tb_919, tb_66, by decide +kernel, by decide⟩
theorem mi_X11_isPlayer : MI yX11_isPlayer cX11_isPlayer 1 ((some .boolean)) 1 := ⟨tb_460, tb_66, by decide +kernel, by decide⟩
theorem mi_X11_isCell : MI yX11_isCell cX11_isCell 1 ((some .boolean)) 1 := ⟨tb_457, tb_66, by decide +kernel, by decide⟩
theorem mi_X11_strokeAt : MI yX11_strokeAt cX11_strokeAt 2 ((some (.object "MiddleOfCourt$Stroke"))) 1 := ⟨tb_476, tb_66, by decide +kernel, by decide⟩
theorem mi_X11_sheetAt : MI yX11_sheetAt cX11_sheetAt 2 ((some (.object "MiddleOfCourt$Sheet"))) 1 := ⟨tb_738, tb_66, by decide +kernel, by decide⟩
theorem mi_X11_fits : MI yX11_fits cX11_fits 2 ((some .boolean)) 2 := ⟨tb_454, tb_66, by decide +kernel, by decide⟩
theorem mi_X11_newStroke : MI yX11_newStroke cX11_newStroke 3 ((some (.object "MiddleOfCourt$Stroke"))) 3 := ⟨tb_503, tb_66, by decide +kernel, by decide⟩
theorem mi_X11_isUnder : MI yX11_isUnder cX11_isUnder 2 ((some .boolean)) 2 := ⟨tb_922, tb_66, by decide +kernel, by decide⟩
theorem mi_X11_apart : MI yX11_apart cX11_apart 2 ((some .int)) 2 := ⟨tb_632, tb_66, by decide +kernel, by decide⟩
theorem mi_X11_across : MI yX11_across cX11_across 1 ((some .int)) 1 := ⟨tb_611, tb_66, by decide +kernel, by decide⟩
theorem mi_X11_within : MI yX11_within cX11_within 2 ((some .int)) 2 := ⟨tb_652, tb_66, by decide +kernel, by decide⟩
theorem mi_X11_goesOver : MI yX11_goesOver cX11_goesOver 6 ((some .boolean)) 3 := ⟨tb_786, tb_66, by decide +kernel, by decide⟩
theorem mi_X11_refusalOfRally : MI yX11_refusalOfRally cX11_refusalOfRally 4 ((some .int)) 1 := ⟨tb_734, tb_66, by decide +kernel, by decide⟩
theorem mi_X11_playInThought : MI yX11_playInThought cX11_playInThought 2 ((some .int)) 1 := ⟨tb_750, tb_66, by decide +kernel, by decide⟩
theorem mi_X11_playOut : MI yX11_playOut cX11_playOut 9 ((some .int)) 2 := ⟨tb_762, tb_66, by decide +kernel, by decide⟩
theorem mi_X11_valueFor : MI yX11_valueFor cX11_valueFor 9 ((some .int)) 4 := ⟨tb_807, tb_66, by decide +kernel, by decide⟩
theorem mi_X11_valueBy : MI yX11_valueBy cX11_valueBy 7 ((some .int)) 5 := ⟨tb_811, tb_66, by decide +kernel, by decide⟩
theorem mi_X11_badness : MI yX11_badness cX11_badness 10 ((some .int)) 2 := ⟨tb_828, tb_66, by decide +kernel, by decide⟩
theorem mi_X11_rowsBy : MI yX11_rowsBy cX11_rowsBy 11 ((some .int)) 4 := ⟨tb_844, tb_66, by decide +kernel, by decide⟩
theorem mi_X11_quicksBy : MI yX11_quicksBy cX11_quicksBy 6 ((some .int)) 3 := ⟨tb_856, tb_66, by decide +kernel, by decide⟩
theorem mi_X11_rulesBy : MI yX11_rulesBy cX11_rulesBy 5 ((some .int)) 2 := ⟨tb_852, tb_66, by decide +kernel, by decide⟩
theorem mi_X12_in : MI yX12_in cX12_in 6 ((some .boolean)) 3 := ⟨tb_1094, tb_76, by decide +kernel, by decide⟩
theorem mi_X12_within : MI yX12_within cX12_within 3 ((some .int)) 3 := ⟨tb_1226, tb_76, by decide +kernel, by decide⟩
theorem mi_X12_init : MI yX12_init cX12_init 2 none 0 := ⟨tb_927, tb_76, by decide +kernel, by decide⟩
theorem mi_X12_spell : MI yX12_spell cX12_spell 10 none 9 := ⟨tb_932, tb_76, by decide +kernel, by decide⟩
theorem mi_X12_isStroke : MI yX12_isStroke cX12_isStroke 2 ((some .boolean)) 1 := ⟨tb_1103, tb_76, by decide +kernel, by decide⟩
theorem mi_X12_isPlayer : MI yX12_isPlayer cX12_isPlayer 1 ((some .boolean)) 1 := ⟨tb_1097, tb_76, by decide +kernel, by decide⟩
theorem mi_X12_isCell : MI yX12_isCell cX12_isCell 1 ((some .boolean)) 1 := ⟨tb_1119, tb_76, by decide +kernel, by decide⟩
theorem mi_X12_set : MI yX12_set cX12_set 5 ((some .int)) 3 := ⟨tb_1090, tb_76, by decide +kernel, by decide⟩
theorem mi_X12_stroke : MI yX12_stroke cX12_stroke 4 ((some .int)) 3 := ⟨tb_1116, tb_76, by decide +kernel, by decide⟩
theorem mi_X12_told : MI yX12_told cX12_told 3 ((some .int)) 2 := ⟨tb_1112, tb_76, by decide +kernel, by decide⟩
theorem mi_X12_feed : MI yX12_feed cX12_feed 2 ((some .int)) 1 := ⟨tb_1124, tb_76, by decide +kernel, by decide⟩
theorem mi_X12_byteAt : MI yX12_byteAt cX12_byteAt 2 ((some .int)) 1 := ⟨tb_1141, tb_76, by decide +kernel, by decide⟩
theorem mi_X12_next : MI yX12_next cX12_next 3 none 0 := ⟨tb_1137, tb_76, by decide +kernel, by decide⟩
theorem mi_X12_fail : MI yX12_fail cX12_fail 1 none 0 := ⟨tb_1162, tb_76, by decide +kernel, by decide⟩
theorem mi_X12_isLetter : MI yX12_isLetter cX12_isLetter 3 ((some .boolean)) 2 := ⟨tb_1154, tb_76, by decide +kernel, by decide⟩
theorem mi_X12_isWord : MI yX12_isWord cX12_isWord 9 ((some .boolean)) 8 := ⟨tb_1150, tb_76, by decide +kernel, by decide⟩
theorem mi_X12_isSign : MI yX12_isSign cX12_isSign 2 ((some .boolean)) 1 := ⟨tb_1194, tb_76, by decide +kernel, by decide⟩
theorem mi_X12_opens : MI yX12_opens cX12_opens 1 ((some .boolean)) 0 := ⟨tb_1178, tb_76, by decide +kernel, by decide⟩
theorem mi_X12_name : MI yX12_name cX12_name 1 ((some .int)) 0 := ⟨tb_1198, tb_76, by decide +kernel, by decide⟩
theorem mi_X12_atom : MI yX12_atom cX12_atom 2 ((some .int)) 0 := ⟨tb_1190, tb_76, by decide +kernel, by decide⟩
theorem mi_X12_term : MI yX12_term cX12_term 2 ((some .int)) 0 := ⟨tb_1186, tb_76, by decide +kernel, by decide⟩
theorem mi_X12_added : MI yX12_added cX12_added 4 ((some .int)) 0 := ⟨tb_1182, tb_76, by decide +kernel, by decide⟩
theorem mi_X12_not : MI yX12_not cX12_not 4 ((some .int)) 0 := ⟨tb_1174, tb_76, by decide +kernel, by decide⟩
theorem mi_X12_both : MI yX12_both cX12_both 3 ((some .int)) 0 := ⟨tb_1170, tb_76, by decide +kernel, by decide⟩
theorem mi_X12_either : MI yX12_either cX12_either 3 ((some .int)) 0 := ⟨tb_1166, tb_76, by decide +kernel, by decide⟩
theorem mi_X12_part : MI yX12_part cX12_part 3 ((some .int)) 1 := ⟨tb_1158, tb_76, by decide +kernel, by decide⟩
theorem mi_X12_read : MI yX12_read cX12_read 6 ((some .int)) 2 := ⟨tb_1133, tb_76, by decide +kernel, by decide⟩
theorem mi_X12_text : MI yX12_text cX12_text 2 ((some .int)) 0 := ⟨tb_1129, tb_76, by decide +kernel, by decide⟩
theorem mi_X12_force : MI yX12_force cX12_force 3 ((some .int)) 1 := ⟨tb_1204, tb_76, by decide +kernel, by decide⟩
theorem mi_X12_says : MI yX12_says cX12_says 6 ((some .int)) 5 := ⟨tb_1223, tb_76, by decide +kernel, by decide⟩
theorem mi_X12_plain : MI yX12_plain cX12_plain 1 ((some .int)) 1 := ⟨tb_1219, tb_76, by decide +kernel, by decide⟩
theorem mi_X12_farOf : MI yX12_farOf cX12_farOf 4 ((some .int)) 2 := ⟨tb_1216, tb_76, by decide +kernel, by decide⟩
theorem mi_X12_across : MI yX12_across cX12_across 1 ((some .int)) 1 := ⟨tb_1237, tb_76, by decide +kernel, by decide⟩
theorem mi_X12_comesTo : MI yX12_comesTo cX12_comesTo 5 ((some .int)) 2 := ⟨tb_1234, tb_76, by decide +kernel, by decide⟩
theorem mi_X12_tenthsOf : MI yX12_tenthsOf cX12_tenthsOf 9 ((some .int)) 2 := ⟨tb_1241, tb_76, by decide +kernel, by decide⟩
theorem mi_X12_slipsOf : MI yX12_slipsOf cX12_slipsOf 4 ((some .int)) 2 := ⟨tb_1245, tb_76, by decide +kernel, by decide⟩
theorem mi_X12_spendsOf : MI yX12_spendsOf cX12_spendsOf 3 ((some .int)) 1 := ⟨tb_1249, tb_76, by decide +kernel, by decide⟩
theorem mi_X12_needsOf : MI yX12_needsOf cX12_needsOf 5 ((some .int)) 3 := ⟨tb_1213, tb_76, by decide +kernel, by decide⟩
theorem mi_X12_needs : MI yX12_needs cX12_needs 3 ((some .int)) 2 := ⟨tb_1208, tb_76, by decide +kernel, by decide⟩
theorem mi_X12_shot : MI yX12_shot cX12_shot 5 ((some .int)) 3 := ⟨tb_1230, tb_76, by decide +kernel, by decide⟩
theorem mi_X12_tire : MI yX12_tire cX12_tire 3 none 2 := ⟨tb_1279, tb_76, by decide +kernel, by decide⟩
theorem mi_X12_strikes : MI yX12_strikes cX12_strikes 5 ((some .boolean)) 2 := ⟨tb_1275, tb_76, by decide +kernel, by decide⟩
theorem mi_X12_layAside : MI yX12_layAside cX12_layAside 2 none 0 := ⟨tb_1265, tb_76, by decide +kernel, by decide⟩
theorem mi_X12_takeBack : MI yX12_takeBack cX12_takeBack 2 none 0 := ⟨tb_1286, tb_76, by decide +kernel, by decide⟩
theorem mi_X12_goesOver : MI yX12_goesOver cX12_goesOver 6 ((some .boolean)) 3 := ⟨tb_1282, tb_76, by decide +kernel, by decide⟩
theorem mi_X12_rallies : MI yX12_rallies cX12_rallies 6 none 1 := ⟨tb_1269, tb_76, by decide +kernel, by decide⟩
theorem mi_X12_rallyBad : MI yX12_rallyBad cX12_rallyBad 3 ((some .int)) 1 := ⟨tb_1261, tb_76, by decide +kernel, by decide⟩
theorem mi_X12_rally : MI yX12_rally cX12_rally 5 ((some .int)) 2 := ⟨tb_1253, tb_76, by decide +kernel, by decide⟩
theorem mi_X12_play : MI yX12_play cX12_play 3 ((some .int)) 1 := ⟨tb_1290, tb_76, by decide +kernel, by decide⟩
theorem mi_X12_likely : MI yX12_likely cX12_likely 2 ((some .long)) 1 := ⟨tb_1294, tb_76, by decide +kernel, by decide⟩
theorem mi_X12_valueOf : MI yX12_valueOf cX12_valueOf 7 ((some .int)) 2 := ⟨tb_1303, tb_76, by decide +kernel, by decide⟩
theorem mi_X12_best : MI yX12_best cX12_best 5 ((some .int)) 3 := ⟨tb_1299, tb_76, by decide +kernel, by decide⟩
theorem mi_X12_sure : MI yX12_sure cX12_sure 3 ((some .int)) 1 := ⟨tb_1307, tb_76, by decide +kernel, by decide⟩
theorem mi_X12_badness : MI yX12_badness cX12_badness 7 ((some .int)) 2 := ⟨tb_1316, tb_76, by decide +kernel, by decide⟩
theorem mi_X12_stand : MI yX12_stand cX12_stand 7 ((some .int)) 2 := ⟨tb_1311, tb_76, by decide +kernel, by decide⟩
theorem mi_X12_tires : MI yX12_tires cX12_tires 8 ((some .int)) 1 := ⟨tb_1320, tb_76, by decide +kernel, by decide⟩
theorem mi_X12_inTheWay : MI yX12_inTheWay cX12_inTheWay 3 ((some .int)) 1 := ⟨tb_1324, tb_76, by decide +kernel, by decide⟩
theorem mi_X12_goesOn : MI yX12_goesOn cX12_goesOn 6 none 3 := ⟨tb_1332, tb_76, by decide +kernel, by decide⟩
theorem mi_X12_balls : MI yX12_balls cX12_balls 3 ((some .int)) 2 := ⟨tb_1328, tb_76, by decide +kernel, by decide⟩
theorem mi_X12_winsSo : MI yX12_winsSo cX12_winsSo 3 ((some .boolean)) 2 := ⟨tb_1345, tb_76, by decide +kernel, by decide⟩
theorem mi_X12_quicks : MI yX12_quicks cX12_quicks 8 ((some .int)) 3 := ⟨tb_1336, tb_76, by decide +kernel, by decide⟩
theorem mi_X12_tries : MI yX12_tries cX12_tries 3 none 2 := ⟨tb_1341, tb_76, by decide +kernel, by decide⟩
theorem mi_X12_film : MI yX12_film cX12_film 5 ((some .int)) 2 := ⟨tb_1349, tb_76, by decide +kernel, by decide⟩
theorem mi_X12_draws : MI yX12_draws cX12_draws 5 ((some .int)) 1 := ⟨tb_1361, tb_76, by decide +kernel, by decide⟩
theorem mi_X12_drawn : MI yX12_drawn cX12_drawn 2 ((some .int)) 1 := ⟨tb_1357, tb_76, by decide +kernel, by decide⟩
theorem mi_X12_chance : MI yX12_chance cX12_chance 12 ((some .long)) 3 := ⟨tb_1366, tb_76, by decide +kernel, by decide⟩
theorem mi_X12_image : MI yX12_image cX12_image 2 ((some .int)) 0 := ⟨tb_1371, tb_76, by decide +kernel, by decide⟩
theorem mi_X12_back : MI yX12_back cX12_back 2 ((some .int)) 0 := ⟨tb_1375, tb_76, by decide +kernel, by decide⟩
theorem mi_X12_count : MI yX12_count cX12_count 2 ((some .int)) 1 := ⟨tb_1379, tb_76, by decide +kernel, by decide⟩
theorem mi_X12_isSheet : MI yX12_isSheet cX12_isSheet 1 ((some .boolean)) 1 := ⟨tb_1256, tb_76, by decide +kernel, by decide⟩
theorem mi_X12_sheet : MI yX12_sheet cX12_sheet 5 ((some .int)) 3 := ⟨tb_1353, tb_76, by decide +kernel, by decide⟩
theorem mi_X12_cell : MI yX12_cell cX12_cell 4 ((some .int)) 3 := ⟨tb_1384, tb_76, by decide +kernel, by decide⟩
theorem mi_X12_copy : MI yX12_copy cX12_copy 9 ((some .int)) 5 := ⟨tb_1388, tb_76, by decide +kernel, by decide⟩
theorem mi_X12_strokes : MI yX12_strokes cX12_strokes 8 ((some .int)) 4 := ⟨tb_1392, tb_76, by decide +kernel, by decide⟩
theorem mi_X12_over : MI yX12_over cX12_over 1 ((some .int)) 1 := ⟨tb_1400, tb_76, by decide +kernel, by decide⟩
theorem mi_X12_taken : MI yX12_taken cX12_taken 4 ((some .int)) 2 := ⟨tb_1397, tb_76, by decide +kernel, by decide⟩
theorem mi_J6_compare_7cf53 : MI yJ6_compare_7cf53 cJ6_compare_7cf53 2 ((some .int)) 2 := ⟨tb_790, tb_84, by decide +kernel, by decide⟩
theorem mi_J9_abs_0f7a4 : MI yJ9_abs_0f7a4 cJ9_abs_0f7a4 1 ((some .int)) 1 := ⟨tb_635, tb_83, by decide +kernel, by decide⟩
theorem mi_J9_max_7cf53 : MI yJ9_max_7cf53 cJ9_max_7cf53 2 ((some .int)) 2 := ⟨tb_638, tb_83, by decide +kernel, by decide⟩
theorem mi_J9_min_7cf53 : MI yJ9_min_7cf53 cJ9_min_7cf53 2 ((some .int)) 2 := ⟨tb_655, tb_83, by decide +kernel, by decide⟩
theorem mi_J0_length_8abf5 : MI yJ0_length_8abf5 cJ0_length_8abf5 1 ((some .int)) 0 := ⟨tb_169, tb_69, by decide +kernel, by decide⟩
theorem mi_J0_charAt_5068e : MI yJ0_charAt_5068e cJ0_charAt_5068e 2 ((some .char)) 1 := ⟨tb_179, tb_69, by decide +kernel, by decide⟩
theorem mi_J0_coder_7d493 : MI yJ0_coder_7d493 cJ0_coder_7d493 1 ((some .byte)) 0 := ⟨tb_173, tb_69, by decide +kernel, by decide⟩
theorem mi_J0_isLatin1_aae02 : MI yJ0_isLatin1_aae02 cJ0_isLatin1_aae02 1 ((some .boolean)) 0 := ⟨tb_183, tb_69, by decide +kernel, by decide⟩
theorem mi_J0_checkIndex_df160 : MI yJ0_checkIndex_df160 cJ0_checkIndex_df160 2 none 2 := ⟨tb_189, tb_69, by decide +kernel, by decide⟩
theorem mi_J1_charAt_3b067 : MI yJ1_charAt_3b067 cJ1_charAt_3b067 2 ((some .char)) 2 := ⟨tb_186, tb_70, by decide +kernel, by decide⟩
theorem mi_J2_getChar_3b067 : MI yJ2_getChar_3b067 cJ2_getChar_3b067 2 ((some .char)) 2 := ⟨tb_207, tb_72, by decide +kernel, by decide⟩
theorem mi_J2_length_9d52b : MI yJ2_length_9d52b cJ2_length_9d52b 1 ((some .int)) 1 := ⟨tb_203, tb_72, by decide +kernel, by decide⟩
theorem mi_J2_charAt_3b067 : MI yJ2_charAt_3b067 cJ2_charAt_3b067 2 ((some .char)) 2 := ⟨tb_197, tb_72, by decide +kernel, by decide⟩
theorem mi_J2_checkIndex_2214a : MI yJ2_checkIndex_2214a cJ2_checkIndex_2214a 2 none 2 := ⟨tb_200, tb_72, by decide +kernel, by decide⟩
theorem mi_J3_checkIndex_8e157 : MI yJ3_checkIndex_8e157 cJ3_checkIndex_8e157 3 ((some .int)) 3 := ⟨tb_194, tb_71, by decide +kernel, by decide⟩
theorem fa_X9_9 : FA RX9 9 [9] 0 := by
  intro ci h
  cases List.mem_singleton.mp h
  exact ⟨(RX9, TX9, 8), "MiddleOfCourt$Tape", rfl, by decide, tb_102, Or.inl rfl⟩
theorem fa_X9_15 : FA RX9 15 [9] 1 := by
  intro ci h
  cases List.mem_singleton.mp h
  exact ⟨(RX9, TX9, 8), "MiddleOfCourt$Tape", rfl, by decide, tb_103, Or.inl rfl⟩
theorem fa_X11_91 : FA RX11 91 [9] 1 := by
  intro ci h
  cases List.mem_singleton.mp h
  exact ⟨(RX9, TX9, 8), "MiddleOfCourt$Tape", rfl, by decide, tb_104, Or.inl rfl⟩
theorem fa_X9_19 : FA RX9 19 [9] 2 := by
  intro ci h
  cases List.mem_singleton.mp h
  exact ⟨(RX9, TX9, 8), "MiddleOfCourt$Tape", rfl, by decide, tb_105, Or.inl rfl⟩
theorem fa_X9_23 : FA RX9 23 [9] 3 := by
  intro ci h
  cases List.mem_singleton.mp h
  exact ⟨(RX9, TX9, 8), "MiddleOfCourt$Tape", rfl, by decide, tb_106, Or.inl rfl⟩
theorem fa_X9_26 : FA RX9 26 [9] 4 := by
  intro ci h
  cases List.mem_singleton.mp h
  exact ⟨(RX9, TX9, 8), "MiddleOfCourt$Tape", rfl, by decide, tb_107, Or.inl rfl⟩
theorem fa_X9_29 : FA RX9 29 [9] 5 := by
  intro ci h
  cases List.mem_singleton.mp h
  exact ⟨(RX9, TX9, 8), "MiddleOfCourt$Tape", rfl, by decide, tb_108, Or.inl rfl⟩
theorem fa_X9_32 : FA RX9 32 [9] 6 := by
  intro ci h
  cases List.mem_singleton.mp h
  exact ⟨(RX9, TX9, 8), "MiddleOfCourt$Tape", rfl, by decide, tb_109, Or.inl rfl⟩
theorem fa_X9_35 : FA RX9 35 [9] 7 := by
  intro ci h
  cases List.mem_singleton.mp h
  exact ⟨(RX9, TX9, 8), "MiddleOfCourt$Tape", rfl, by decide, tb_110, Or.inl rfl⟩
theorem fa_X10_28 : FA RX10 28 [10] 0 := by
  intro ci h
  cases List.mem_singleton.mp h
  exact ⟨(RX10, TX10, 6), "MiddleOfCourt$Text", rfl, by decide, tb_141, Or.inl rfl⟩
theorem fa_X11_177 : FA RX11 177 [10] 0 := by
  intro ci h
  cases List.mem_singleton.mp h
  exact ⟨(RX10, TX10, 6), "MiddleOfCourt$Text", rfl, by decide, tb_142, Or.inl rfl⟩
theorem fa_X10_9 : FA RX10 9 [10] 1 := by
  intro ci h
  cases List.mem_singleton.mp h
  exact ⟨(RX10, TX10, 6), "MiddleOfCourt$Text", rfl, by decide, tb_143, Or.inl rfl⟩
theorem fa_X10_15 : FA RX10 15 [10] 2 := by
  intro ci h
  cases List.mem_singleton.mp h
  exact ⟨(RX10, TX10, 6), "MiddleOfCourt$Text", rfl, by decide, tb_144, Or.inl rfl⟩
theorem fa_X10_18 : FA RX10 18 [10] 3 := by
  intro ci h
  cases List.mem_singleton.mp h
  exact ⟨(RX10, TX10, 6), "MiddleOfCourt$Text", rfl, by decide, tb_145, Or.inl rfl⟩
theorem fa_X10_21 : FA RX10 21 [10] 4 := by
  intro ci h
  cases List.mem_singleton.mp h
  exact ⟨(RX10, TX10, 6), "MiddleOfCourt$Text", rfl, by decide, tb_146, Or.inl rfl⟩
theorem fa_X10_24 : FA RX10 24 [10] 5 := by
  intro ci h
  cases List.mem_singleton.mp h
  exact ⟨(RX10, TX10, 6), "MiddleOfCourt$Text", rfl, by decide, tb_147, Or.inl rfl⟩
theorem fa_X6_9 : FA RX6 9 [6] 0 := by
  intro ci h
  cases List.mem_singleton.mp h
  exact ⟨(RX6, TX6, 4), "MiddleOfCourt$Player", rfl, by decide, tb_334, Or.inl rfl⟩
theorem fa_X1_46 : FA RX1 46 [6] 0 := by
  intro ci h
  cases List.mem_singleton.mp h
  exact ⟨(RX6, TX6, 4), "MiddleOfCourt$Player", rfl, by decide, tb_335, Or.inl rfl⟩
theorem fa_X11_150 : FA RX11 150 [6] 0 := by
  intro ci h
  cases List.mem_singleton.mp h
  exact ⟨(RX6, TX6, 4), "MiddleOfCourt$Player", rfl, by decide, tb_336, Or.inl rfl⟩
theorem fa_X6_15 : FA RX6 15 [6] 1 := by
  intro ci h
  cases List.mem_singleton.mp h
  exact ⟨(RX6, TX6, 4), "MiddleOfCourt$Player", rfl, by decide, tb_337, Or.inl rfl⟩
theorem fa_X10_31 : FA RX10 31 [6] 1 := by
  intro ci h
  cases List.mem_singleton.mp h
  exact ⟨(RX6, TX6, 4), "MiddleOfCourt$Player", rfl, by decide, tb_338, Or.inl rfl⟩
theorem fa_X11_190 : FA RX11 190 [6] 1 := by
  intro ci h
  cases List.mem_singleton.mp h
  exact ⟨(RX6, TX6, 4), "MiddleOfCourt$Player", rfl, by decide, tb_339, Or.inl rfl⟩
theorem fa_X6_18 : FA RX6 18 [6] 2 := by
  intro ci h
  cases List.mem_singleton.mp h
  exact ⟨(RX6, TX6, 4), "MiddleOfCourt$Player", rfl, by decide, tb_340, Or.inl rfl⟩
theorem fa_X10_36 : FA RX10 36 [6] 2 := by
  intro ci h
  cases List.mem_singleton.mp h
  exact ⟨(RX6, TX6, 4), "MiddleOfCourt$Player", rfl, by decide, tb_341, Or.inl rfl⟩
theorem fa_X11_331 : FA RX11 331 [6] 2 := by
  intro ci h
  cases List.mem_singleton.mp h
  exact ⟨(RX6, TX6, 4), "MiddleOfCourt$Player", rfl, by decide, tb_342, Or.inl rfl⟩
theorem fa_X6_21 : FA RX6 21 [6] 3 := by
  intro ci h
  cases List.mem_singleton.mp h
  exact ⟨(RX6, TX6, 4), "MiddleOfCourt$Player", rfl, by decide, tb_343, Or.inl rfl⟩
theorem fa_X1_89 : FA RX1 89 [6] 3 := by
  intro ci h
  cases List.mem_singleton.mp h
  exact ⟨(RX6, TX6, 4), "MiddleOfCourt$Player", rfl, by decide, tb_344, Or.inl rfl⟩
theorem fa_X1_12 : FA RX1 12 [1] 0 := by
  intro ci h
  cases List.mem_singleton.mp h
  exact ⟨(RX1, TX1, 4), "MiddleOfCourt$Court", rfl, by decide, tb_355, Or.inl rfl⟩
theorem fa_X11_186 : FA RX11 186 [1] 0 := by
  intro ci h
  cases List.mem_singleton.mp h
  exact ⟨(RX1, TX1, 4), "MiddleOfCourt$Court", rfl, by decide, tb_356, Or.inl rfl⟩
theorem fa_X1_18 : FA RX1 18 [1] 1 := by
  intro ci h
  cases List.mem_singleton.mp h
  exact ⟨(RX1, TX1, 4), "MiddleOfCourt$Court", rfl, by decide, tb_357, Or.inl rfl⟩
theorem fa_X11_193 : FA RX11 193 [1] 1 := by
  intro ci h
  cases List.mem_singleton.mp h
  exact ⟨(RX1, TX1, 4), "MiddleOfCourt$Court", rfl, by decide, tb_358, Or.inl rfl⟩
theorem fa_X1_21 : FA RX1 21 [1] 2 := by
  intro ci h
  cases List.mem_singleton.mp h
  exact ⟨(RX1, TX1, 4), "MiddleOfCourt$Court", rfl, by decide, tb_359, Or.inl rfl⟩
theorem fa_X11_112 : FA RX11 112 [1] 2 := by
  intro ci h
  cases List.mem_singleton.mp h
  exact ⟨(RX1, TX1, 4), "MiddleOfCourt$Court", rfl, by decide, tb_360, Or.inl rfl⟩
theorem fa_X1_25 : FA RX1 25 [1] 3 := by
  intro ci h
  cases List.mem_singleton.mp h
  exact ⟨(RX1, TX1, 4), "MiddleOfCourt$Court", rfl, by decide, tb_361, Or.inl rfl⟩
theorem fa_X11_173 : FA RX11 173 [1] 3 := by
  intro ci h
  cases List.mem_singleton.mp h
  exact ⟨(RX1, TX1, 4), "MiddleOfCourt$Court", rfl, by decide, tb_362, Or.inl rfl⟩
theorem fa_X7_9 : FA RX7 9 [7] 0 := by
  intro ci h
  cases List.mem_singleton.mp h
  exact ⟨(RX7, TX7, 3), "MiddleOfCourt$Sheet", rfl, by decide, tb_377, Or.inl rfl⟩
theorem fa_X11_268 : FA RX11 268 [7] 0 := by
  intro ci h
  cases List.mem_singleton.mp h
  exact ⟨(RX7, TX7, 3), "MiddleOfCourt$Sheet", rfl, by decide, tb_378, Or.inl rfl⟩
theorem fa_X7_15 : FA RX7 15 [7] 1 := by
  intro ci h
  cases List.mem_singleton.mp h
  exact ⟨(RX7, TX7, 3), "MiddleOfCourt$Sheet", rfl, by decide, tb_379, Or.inl rfl⟩
theorem fa_X11_265 : FA RX11 265 [7] 1 := by
  intro ci h
  cases List.mem_singleton.mp h
  exact ⟨(RX7, TX7, 3), "MiddleOfCourt$Sheet", rfl, by decide, tb_380, Or.inl rfl⟩
theorem fa_X7_19 : FA RX7 19 [7] 2 := by
  intro ci h
  cases List.mem_singleton.mp h
  exact ⟨(RX7, TX7, 3), "MiddleOfCourt$Sheet", rfl, by decide, tb_381, Or.inl rfl⟩
theorem fa_X11_225 : FA RX11 225 [7] 2 := by
  intro ci h
  cases List.mem_singleton.mp h
  exact ⟨(RX7, TX7, 3), "MiddleOfCourt$Sheet", rfl, by decide, tb_382, Or.inl rfl⟩
theorem fa_X11_11 : FA RX11 11 [11] 0 := by
  intro ci h
  cases List.mem_singleton.mp h
  exact ⟨(RX11, TX11, 19), "MiddleOfCourt", rfl, by decide, tb_390, Or.inl rfl⟩
theorem fa_X11_18 : FA RX11 18 [11] 1 := by
  intro ci h
  cases List.mem_singleton.mp h
  exact ⟨(RX11, TX11, 19), "MiddleOfCourt", rfl, by decide, tb_391, Or.inl rfl⟩
theorem fa_X11_22 : FA RX11 22 [11] 2 := by
  intro ci h
  cases List.mem_singleton.mp h
  exact ⟨(RX11, TX11, 19), "MiddleOfCourt", rfl, by decide, tb_392, Or.inl rfl⟩
theorem fa_X11_28 : FA RX11 28 [11] 3 := by
  intro ci h
  cases List.mem_singleton.mp h
  exact ⟨(RX11, TX11, 19), "MiddleOfCourt", rfl, by decide, tb_393, Or.inl rfl⟩
theorem fa_X11_32 : FA RX11 32 [11] 4 := by
  intro ci h
  cases List.mem_singleton.mp h
  exact ⟨(RX11, TX11, 19), "MiddleOfCourt", rfl, by decide, tb_394, Or.inl rfl⟩
theorem fa_X11_97 : FA RX11 97 [11] 5 := by
  intro ci h
  cases List.mem_singleton.mp h
  exact ⟨(RX11, TX11, 19), "MiddleOfCourt", rfl, by decide, tb_395, Or.inl rfl⟩
theorem fa_X11_101 : FA RX11 101 [11] 6 := by
  intro ci h
  cases List.mem_singleton.mp h
  exact ⟨(RX11, TX11, 19), "MiddleOfCourt", rfl, by decide, tb_396, Or.inl rfl⟩
theorem fa_X11_37 : FA RX11 37 [11] 7 := by
  intro ci h
  cases List.mem_singleton.mp h
  exact ⟨(RX11, TX11, 19), "MiddleOfCourt", rfl, by decide, tb_397, Or.inl rfl⟩
theorem fa_X11_104 : FA RX11 104 [11] 8 := by
  intro ci h
  cases List.mem_singleton.mp h
  exact ⟨(RX11, TX11, 19), "MiddleOfCourt", rfl, by decide, tb_398, Or.inl rfl⟩
theorem fa_X11_41 : FA RX11 41 [11] 9 := by
  intro ci h
  cases List.mem_singleton.mp h
  exact ⟨(RX11, TX11, 19), "MiddleOfCourt", rfl, by decide, tb_399, Or.inl rfl⟩
theorem fa_X11_45 : FA RX11 45 [11] 10 := by
  intro ci h
  cases List.mem_singleton.mp h
  exact ⟨(RX11, TX11, 19), "MiddleOfCourt", rfl, by decide, tb_400, Or.inl rfl⟩
theorem fa_X11_48 : FA RX11 48 [11] 11 := by
  intro ci h
  cases List.mem_singleton.mp h
  exact ⟨(RX11, TX11, 19), "MiddleOfCourt", rfl, by decide, tb_401, Or.inl rfl⟩
theorem fa_X11_53 : FA RX11 53 [11] 12 := by
  intro ci h
  cases List.mem_singleton.mp h
  exact ⟨(RX11, TX11, 19), "MiddleOfCourt", rfl, by decide, tb_402, Or.inl rfl⟩
theorem fa_X11_57 : FA RX11 57 [11] 13 := by
  intro ci h
  cases List.mem_singleton.mp h
  exact ⟨(RX11, TX11, 19), "MiddleOfCourt", rfl, by decide, tb_403, Or.inl rfl⟩
theorem fa_X11_60 : FA RX11 60 [11] 14 := by
  intro ci h
  cases List.mem_singleton.mp h
  exact ⟨(RX11, TX11, 19), "MiddleOfCourt", rfl, by decide, tb_404, Or.inl rfl⟩
theorem fa_X11_65 : FA RX11 65 [11] 15 := by
  intro ci h
  cases List.mem_singleton.mp h
  exact ⟨(RX11, TX11, 19), "MiddleOfCourt", rfl, by decide, tb_405, Or.inl rfl⟩
theorem fa_X11_69 : FA RX11 69 [11] 16 := by
  intro ci h
  cases List.mem_singleton.mp h
  exact ⟨(RX11, TX11, 19), "MiddleOfCourt", rfl, by decide, tb_406, Or.inl rfl⟩
theorem fa_X11_72 : FA RX11 72 [11] 17 := by
  intro ci h
  cases List.mem_singleton.mp h
  exact ⟨(RX11, TX11, 19), "MiddleOfCourt", rfl, by decide, tb_407, Or.inl rfl⟩
theorem fa_X11_75 : FA RX11 75 [11] 18 := by
  intro ci h
  cases List.mem_singleton.mp h
  exact ⟨(RX11, TX11, 19), "MiddleOfCourt", rfl, by decide, tb_408, Or.inl rfl⟩
theorem fa_X8_9 : FA RX8 9 [0, 2, 3, 4, 5, 8] 0 := by
  intro ci h
  simp only [List.mem_cons, List.not_mem_nil, or_false] at h
  rcases h with rfl | rfl | rfl | rfl | rfl | rfl
  · exact ⟨(RX0, TX0, 2), "MiddleOfCourt$Stroke", rfl, by decide, tb_513, Or.inl rfl⟩
  · exact ⟨(RX2, TX2, 2), "MiddleOfCourt$Stroke", rfl, by decide, tb_513, Or.inl rfl⟩
  · exact ⟨(RX3, TX3, 2), "MiddleOfCourt$Stroke", rfl, by decide, tb_513, Or.inl rfl⟩
  · exact ⟨(RX4, TX4, 2), "MiddleOfCourt$Stroke", rfl, by decide, tb_513, Or.inl rfl⟩
  · exact ⟨(RX5, TX5, 2), "MiddleOfCourt$Stroke", rfl, by decide, tb_513, Or.inl rfl⟩
  · exact ⟨(RX8, TX8, 2), "MiddleOfCourt$Stroke", rfl, by decide, tb_513, Or.inl rfl⟩
theorem fa_X4_13 : FA RX4 13 [0, 2, 3, 4, 5, 8] 0 := by
  intro ci h
  simp only [List.mem_cons, List.not_mem_nil, or_false] at h
  rcases h with rfl | rfl | rfl | rfl | rfl | rfl
  · exact ⟨(RX0, TX0, 2), "MiddleOfCourt$Length", rfl, by decide, tb_514, Or.inr tb_515⟩
  · exact ⟨(RX2, TX2, 2), "MiddleOfCourt$Length", rfl, by decide, tb_514, Or.inr tb_515⟩
  · exact ⟨(RX3, TX3, 2), "MiddleOfCourt$Length", rfl, by decide, tb_514, Or.inr tb_515⟩
  · exact ⟨(RX4, TX4, 2), "MiddleOfCourt$Length", rfl, by decide, tb_514, Or.inr tb_515⟩
  · exact ⟨(RX5, TX5, 2), "MiddleOfCourt$Length", rfl, by decide, tb_514, Or.inr tb_515⟩
  · exact ⟨(RX8, TX8, 2), "MiddleOfCourt$Length", rfl, by decide, tb_514, Or.inr tb_515⟩
theorem fa_X3_17 : FA RX3 17 [0, 2, 3, 4, 5, 8] 0 := by
  intro ci h
  simp only [List.mem_cons, List.not_mem_nil, or_false] at h
  rcases h with rfl | rfl | rfl | rfl | rfl | rfl
  · exact ⟨(RX0, TX0, 2), "MiddleOfCourt$Drop", rfl, by decide, tb_516, Or.inr tb_517⟩
  · exact ⟨(RX2, TX2, 2), "MiddleOfCourt$Drop", rfl, by decide, tb_516, Or.inr tb_517⟩
  · exact ⟨(RX3, TX3, 2), "MiddleOfCourt$Drop", rfl, by decide, tb_516, Or.inr tb_517⟩
  · exact ⟨(RX4, TX4, 2), "MiddleOfCourt$Drop", rfl, by decide, tb_516, Or.inr tb_517⟩
  · exact ⟨(RX5, TX5, 2), "MiddleOfCourt$Drop", rfl, by decide, tb_516, Or.inr tb_517⟩
  · exact ⟨(RX8, TX8, 2), "MiddleOfCourt$Drop", rfl, by decide, tb_516, Or.inr tb_517⟩
theorem fa_X1_55 : FA RX1 55 [0, 2, 3, 4, 5, 8] 0 := by
  intro ci h
  simp only [List.mem_cons, List.not_mem_nil, or_false] at h
  rcases h with rfl | rfl | rfl | rfl | rfl | rfl
  · exact ⟨(RX0, TX0, 2), "MiddleOfCourt$Stroke", rfl, by decide, tb_518, Or.inl rfl⟩
  · exact ⟨(RX2, TX2, 2), "MiddleOfCourt$Stroke", rfl, by decide, tb_518, Or.inl rfl⟩
  · exact ⟨(RX3, TX3, 2), "MiddleOfCourt$Stroke", rfl, by decide, tb_518, Or.inl rfl⟩
  · exact ⟨(RX4, TX4, 2), "MiddleOfCourt$Stroke", rfl, by decide, tb_518, Or.inl rfl⟩
  · exact ⟨(RX5, TX5, 2), "MiddleOfCourt$Stroke", rfl, by decide, tb_518, Or.inl rfl⟩
  · exact ⟨(RX8, TX8, 2), "MiddleOfCourt$Stroke", rfl, by decide, tb_518, Or.inl rfl⟩
theorem fa_X11_256 : FA RX11 256 [0, 2, 3, 4, 5, 8] 0 := by
  intro ci h
  simp only [List.mem_cons, List.not_mem_nil, or_false] at h
  rcases h with rfl | rfl | rfl | rfl | rfl | rfl
  · exact ⟨(RX0, TX0, 2), "MiddleOfCourt$Stroke", rfl, by decide, tb_519, Or.inl rfl⟩
  · exact ⟨(RX2, TX2, 2), "MiddleOfCourt$Stroke", rfl, by decide, tb_519, Or.inl rfl⟩
  · exact ⟨(RX3, TX3, 2), "MiddleOfCourt$Stroke", rfl, by decide, tb_519, Or.inl rfl⟩
  · exact ⟨(RX4, TX4, 2), "MiddleOfCourt$Stroke", rfl, by decide, tb_519, Or.inl rfl⟩
  · exact ⟨(RX5, TX5, 2), "MiddleOfCourt$Stroke", rfl, by decide, tb_519, Or.inl rfl⟩
  · exact ⟨(RX8, TX8, 2), "MiddleOfCourt$Stroke", rfl, by decide, tb_519, Or.inl rfl⟩
theorem fa_X8_15 : FA RX8 15 [0, 2, 3, 4, 5, 8] 1 := by
  intro ci h
  simp only [List.mem_cons, List.not_mem_nil, or_false] at h
  rcases h with rfl | rfl | rfl | rfl | rfl | rfl
  · exact ⟨(RX0, TX0, 2), "MiddleOfCourt$Stroke", rfl, by decide, tb_520, Or.inl rfl⟩
  · exact ⟨(RX2, TX2, 2), "MiddleOfCourt$Stroke", rfl, by decide, tb_520, Or.inl rfl⟩
  · exact ⟨(RX3, TX3, 2), "MiddleOfCourt$Stroke", rfl, by decide, tb_520, Or.inl rfl⟩
  · exact ⟨(RX4, TX4, 2), "MiddleOfCourt$Stroke", rfl, by decide, tb_520, Or.inl rfl⟩
  · exact ⟨(RX5, TX5, 2), "MiddleOfCourt$Stroke", rfl, by decide, tb_520, Or.inl rfl⟩
  · exact ⟨(RX8, TX8, 2), "MiddleOfCourt$Stroke", rfl, by decide, tb_520, Or.inl rfl⟩
theorem fa_X0_9 : FA RX0 9 [0, 2, 3, 4, 5, 8] 1 := by
  intro ci h
  simp only [List.mem_cons, List.not_mem_nil, or_false] at h
  rcases h with rfl | rfl | rfl | rfl | rfl | rfl
  · exact ⟨(RX0, TX0, 2), "MiddleOfCourt$Boast", rfl, by decide, tb_521, Or.inr tb_522⟩
  · exact ⟨(RX2, TX2, 2), "MiddleOfCourt$Boast", rfl, by decide, tb_521, Or.inr tb_522⟩
  · exact ⟨(RX3, TX3, 2), "MiddleOfCourt$Boast", rfl, by decide, tb_521, Or.inr tb_522⟩
  · exact ⟨(RX4, TX4, 2), "MiddleOfCourt$Boast", rfl, by decide, tb_521, Or.inr tb_522⟩
  · exact ⟨(RX5, TX5, 2), "MiddleOfCourt$Boast", rfl, by decide, tb_521, Or.inr tb_522⟩
  · exact ⟨(RX8, TX8, 2), "MiddleOfCourt$Boast", rfl, by decide, tb_521, Or.inr tb_522⟩
theorem fa_X5_9 : FA RX5 9 [0, 2, 3, 4, 5, 8] 1 := by
  intro ci h
  simp only [List.mem_cons, List.not_mem_nil, or_false] at h
  rcases h with rfl | rfl | rfl | rfl | rfl | rfl
  · exact ⟨(RX0, TX0, 2), "MiddleOfCourt$Lob", rfl, by decide, tb_523, Or.inr tb_524⟩
  · exact ⟨(RX2, TX2, 2), "MiddleOfCourt$Lob", rfl, by decide, tb_523, Or.inr tb_524⟩
  · exact ⟨(RX3, TX3, 2), "MiddleOfCourt$Lob", rfl, by decide, tb_523, Or.inr tb_524⟩
  · exact ⟨(RX4, TX4, 2), "MiddleOfCourt$Lob", rfl, by decide, tb_523, Or.inr tb_524⟩
  · exact ⟨(RX5, TX5, 2), "MiddleOfCourt$Lob", rfl, by decide, tb_523, Or.inr tb_524⟩
  · exact ⟨(RX8, TX8, 2), "MiddleOfCourt$Lob", rfl, by decide, tb_523, Or.inr tb_524⟩
theorem fa_X11_259 : FA RX11 259 [0, 2, 3, 4, 5, 8] 1 := by
  intro ci h
  simp only [List.mem_cons, List.not_mem_nil, or_false] at h
  rcases h with rfl | rfl | rfl | rfl | rfl | rfl
  · exact ⟨(RX0, TX0, 2), "MiddleOfCourt$Stroke", rfl, by decide, tb_525, Or.inl rfl⟩
  · exact ⟨(RX2, TX2, 2), "MiddleOfCourt$Stroke", rfl, by decide, tb_525, Or.inl rfl⟩
  · exact ⟨(RX3, TX3, 2), "MiddleOfCourt$Stroke", rfl, by decide, tb_525, Or.inl rfl⟩
  · exact ⟨(RX4, TX4, 2), "MiddleOfCourt$Stroke", rfl, by decide, tb_525, Or.inl rfl⟩
  · exact ⟨(RX5, TX5, 2), "MiddleOfCourt$Stroke", rfl, by decide, tb_525, Or.inl rfl⟩
  · exact ⟨(RX8, TX8, 2), "MiddleOfCourt$Stroke", rfl, by decide, tb_525, Or.inl rfl⟩
theorem fa_X12_13 : FA RX12 13 [12] 1 := by
  intro ci h
  cases List.mem_singleton.mp h
  exact ⟨(RX12, TX12, 51), "MiddleOfCourtModel", rfl, by decide, tb_933, Or.inl rfl⟩
theorem fa_X12_17 : FA RX12 17 [12] 2 := by
  intro ci h
  cases List.mem_singleton.mp h
  exact ⟨(RX12, TX12, 51), "MiddleOfCourtModel", rfl, by decide, tb_934, Or.inl rfl⟩
theorem fa_X12_76 : FA RX12 76 [12] 3 := by
  intro ci h
  cases List.mem_singleton.mp h
  exact ⟨(RX12, TX12, 51), "MiddleOfCourtModel", rfl, by decide, tb_935, Or.inl rfl⟩
theorem fa_X12_239 : FA RX12 239 [12] 4 := by
  intro ci h
  cases List.mem_singleton.mp h
  exact ⟨(RX12, TX12, 51), "MiddleOfCourtModel", rfl, by decide, tb_936, Or.inl rfl⟩
theorem fa_X12_20 : FA RX12 20 [12] 5 := by
  intro ci h
  cases List.mem_singleton.mp h
  exact ⟨(RX12, TX12, 51), "MiddleOfCourtModel", rfl, by decide, tb_937, Or.inl rfl⟩
theorem fa_X12_121 : FA RX12 121 [12] 6 := by
  intro ci h
  cases List.mem_singleton.mp h
  exact ⟨(RX12, TX12, 51), "MiddleOfCourtModel", rfl, by decide, tb_938, Or.inl rfl⟩
theorem fa_X12_23 : FA RX12 23 [12] 7 := by
  intro ci h
  cases List.mem_singleton.mp h
  exact ⟨(RX12, TX12, 51), "MiddleOfCourtModel", rfl, by decide, tb_939, Or.inl rfl⟩
theorem fa_X12_26 : FA RX12 26 [12] 8 := by
  intro ci h
  cases List.mem_singleton.mp h
  exact ⟨(RX12, TX12, 51), "MiddleOfCourtModel", rfl, by decide, tb_940, Or.inl rfl⟩
theorem fa_X12_29 : FA RX12 29 [12] 9 := by
  intro ci h
  cases List.mem_singleton.mp h
  exact ⟨(RX12, TX12, 51), "MiddleOfCourtModel", rfl, by decide, tb_941, Or.inl rfl⟩
theorem fa_X12_32 : FA RX12 32 [12] 10 := by
  intro ci h
  cases List.mem_singleton.mp h
  exact ⟨(RX12, TX12, 51), "MiddleOfCourtModel", rfl, by decide, tb_942, Or.inl rfl⟩
theorem fa_X12_109 : FA RX12 109 [12] 11 := by
  intro ci h
  cases List.mem_singleton.mp h
  exact ⟨(RX12, TX12, 51), "MiddleOfCourtModel", rfl, by decide, tb_943, Or.inl rfl⟩
theorem fa_X12_35 : FA RX12 35 [12] 12 := by
  intro ci h
  cases List.mem_singleton.mp h
  exact ⟨(RX12, TX12, 51), "MiddleOfCourtModel", rfl, by decide, tb_944, Or.inl rfl⟩
theorem fa_X12_38 : FA RX12 38 [12] 13 := by
  intro ci h
  cases List.mem_singleton.mp h
  exact ⟨(RX12, TX12, 51), "MiddleOfCourtModel", rfl, by decide, tb_945, Or.inl rfl⟩
theorem fa_X12_41 : FA RX12 41 [12] 14 := by
  intro ci h
  cases List.mem_singleton.mp h
  exact ⟨(RX12, TX12, 51), "MiddleOfCourtModel", rfl, by decide, tb_946, Or.inl rfl⟩
theorem fa_X12_79 : FA RX12 79 [12] 15 := by
  intro ci h
  cases List.mem_singleton.mp h
  exact ⟨(RX12, TX12, 51), "MiddleOfCourtModel", rfl, by decide, tb_947, Or.inl rfl⟩
theorem fa_X12_181 : FA RX12 181 [12] 16 := by
  intro ci h
  cases List.mem_singleton.mp h
  exact ⟨(RX12, TX12, 51), "MiddleOfCourtModel", rfl, by decide, tb_948, Or.inl rfl⟩
theorem fa_X12_184 : FA RX12 184 [12] 17 := by
  intro ci h
  cases List.mem_singleton.mp h
  exact ⟨(RX12, TX12, 51), "MiddleOfCourtModel", rfl, by decide, tb_949, Or.inl rfl⟩
theorem fa_X12_187 : FA RX12 187 [12] 18 := by
  intro ci h
  cases List.mem_singleton.mp h
  exact ⟨(RX12, TX12, 51), "MiddleOfCourtModel", rfl, by decide, tb_950, Or.inl rfl⟩
theorem fa_X12_190 : FA RX12 190 [12] 19 := by
  intro ci h
  cases List.mem_singleton.mp h
  exact ⟨(RX12, TX12, 51), "MiddleOfCourtModel", rfl, by decide, tb_951, Or.inl rfl⟩
theorem fa_X12_193 : FA RX12 193 [12] 20 := by
  intro ci h
  cases List.mem_singleton.mp h
  exact ⟨(RX12, TX12, 51), "MiddleOfCourtModel", rfl, by decide, tb_952, Or.inl rfl⟩
theorem fa_X12_196 : FA RX12 196 [12] 21 := by
  intro ci h
  cases List.mem_singleton.mp h
  exact ⟨(RX12, TX12, 51), "MiddleOfCourtModel", rfl, by decide, tb_953, Or.inl rfl⟩
theorem fa_X12_127 : FA RX12 127 [12] 22 := by
  intro ci h
  cases List.mem_singleton.mp h
  exact ⟨(RX12, TX12, 51), "MiddleOfCourtModel", rfl, by decide, tb_954, Or.inl rfl⟩
theorem fa_X12_124 : FA RX12 124 [12] 23 := by
  intro ci h
  cases List.mem_singleton.mp h
  exact ⟨(RX12, TX12, 51), "MiddleOfCourtModel", rfl, by decide, tb_955, Or.inl rfl⟩
theorem fa_X12_130 : FA RX12 130 [12] 24 := by
  intro ci h
  cases List.mem_singleton.mp h
  exact ⟨(RX12, TX12, 51), "MiddleOfCourtModel", rfl, by decide, tb_956, Or.inl rfl⟩
theorem fa_X12_140 : FA RX12 140 [12] 25 := by
  intro ci h
  cases List.mem_singleton.mp h
  exact ⟨(RX12, TX12, 51), "MiddleOfCourtModel", rfl, by decide, tb_957, Or.inl rfl⟩
theorem fa_X12_137 : FA RX12 137 [12] 26 := by
  intro ci h
  cases List.mem_singleton.mp h
  exact ⟨(RX12, TX12, 51), "MiddleOfCourtModel", rfl, by decide, tb_958, Or.inl rfl⟩
theorem fa_X12_151 : FA RX12 151 [12] 27 := by
  intro ci h
  cases List.mem_singleton.mp h
  exact ⟨(RX12, TX12, 51), "MiddleOfCourtModel", rfl, by decide, tb_959, Or.inl rfl⟩
theorem fa_X12_168 : FA RX12 168 [12] 28 := by
  intro ci h
  cases List.mem_singleton.mp h
  exact ⟨(RX12, TX12, 51), "MiddleOfCourtModel", rfl, by decide, tb_960, Or.inl rfl⟩
theorem fa_X12_157 : FA RX12 157 [12] 29 := by
  intro ci h
  cases List.mem_singleton.mp h
  exact ⟨(RX12, TX12, 51), "MiddleOfCourtModel", rfl, by decide, tb_961, Or.inl rfl⟩
theorem fa_X12_161 : FA RX12 161 [12] 30 := by
  intro ci h
  cases List.mem_singleton.mp h
  exact ⟨(RX12, TX12, 51), "MiddleOfCourtModel", rfl, by decide, tb_962, Or.inl rfl⟩
theorem fa_X12_276 : FA RX12 276 [12] 31 := by
  intro ci h
  cases List.mem_singleton.mp h
  exact ⟨(RX12, TX12, 51), "MiddleOfCourtModel", rfl, by decide, tb_963, Or.inl rfl⟩
theorem fa_X12_44 : FA RX12 44 [12] 32 := by
  intro ci h
  cases List.mem_singleton.mp h
  exact ⟨(RX12, TX12, 51), "MiddleOfCourtModel", rfl, by decide, tb_964, Or.inl rfl⟩
theorem fa_X12_283 : FA RX12 283 [12] 33 := by
  intro ci h
  cases List.mem_singleton.mp h
  exact ⟨(RX12, TX12, 51), "MiddleOfCourtModel", rfl, by decide, tb_965, Or.inl rfl⟩
theorem fa_X12_286 : FA RX12 286 [12] 34 := by
  intro ci h
  cases List.mem_singleton.mp h
  exact ⟨(RX12, TX12, 51), "MiddleOfCourtModel", rfl, by decide, tb_966, Or.inl rfl⟩
theorem fa_X12_289 : FA RX12 289 [12] 35 := by
  intro ci h
  cases List.mem_singleton.mp h
  exact ⟨(RX12, TX12, 51), "MiddleOfCourtModel", rfl, by decide, tb_967, Or.inl rfl⟩
theorem fa_X12_294 : FA RX12 294 [12] 36 := by
  intro ci h
  cases List.mem_singleton.mp h
  exact ⟨(RX12, TX12, 51), "MiddleOfCourtModel", rfl, by decide, tb_968, Or.inl rfl⟩
theorem fa_X12_297 : FA RX12 297 [12] 37 := by
  intro ci h
  cases List.mem_singleton.mp h
  exact ⟨(RX12, TX12, 51), "MiddleOfCourtModel", rfl, by decide, tb_969, Or.inl rfl⟩
theorem fa_X12_47 : FA RX12 47 [12] 38 := by
  intro ci h
  cases List.mem_singleton.mp h
  exact ⟨(RX12, TX12, 51), "MiddleOfCourtModel", rfl, by decide, tb_970, Or.inl rfl⟩
theorem fa_X12_327 : FA RX12 327 [12] 39 := by
  intro ci h
  cases List.mem_singleton.mp h
  exact ⟨(RX12, TX12, 51), "MiddleOfCourtModel", rfl, by decide, tb_971, Or.inl rfl⟩
theorem fa_X12_337 : FA RX12 337 [12] 40 := by
  intro ci h
  cases List.mem_singleton.mp h
  exact ⟨(RX12, TX12, 51), "MiddleOfCourtModel", rfl, by decide, tb_972, Or.inl rfl⟩
theorem fa_X12_340 : FA RX12 340 [12] 41 := by
  intro ci h
  cases List.mem_singleton.mp h
  exact ⟨(RX12, TX12, 51), "MiddleOfCourtModel", rfl, by decide, tb_973, Or.inl rfl⟩
theorem fa_X12_50 : FA RX12 50 [12] 42 := by
  intro ci h
  cases List.mem_singleton.mp h
  exact ⟨(RX12, TX12, 51), "MiddleOfCourtModel", rfl, by decide, tb_974, Or.inl rfl⟩
theorem fa_X12_53 : FA RX12 53 [12] 43 := by
  intro ci h
  cases List.mem_singleton.mp h
  exact ⟨(RX12, TX12, 51), "MiddleOfCourtModel", rfl, by decide, tb_975, Or.inl rfl⟩
theorem fa_X12_56 : FA RX12 56 [12] 44 := by
  intro ci h
  cases List.mem_singleton.mp h
  exact ⟨(RX12, TX12, 51), "MiddleOfCourtModel", rfl, by decide, tb_976, Or.inl rfl⟩
theorem fa_X12_364 : FA RX12 364 [12] 45 := by
  intro ci h
  cases List.mem_singleton.mp h
  exact ⟨(RX12, TX12, 51), "MiddleOfCourtModel", rfl, by decide, tb_977, Or.inl rfl⟩
theorem fa_X12_367 : FA RX12 367 [12] 46 := by
  intro ci h
  cases List.mem_singleton.mp h
  exact ⟨(RX12, TX12, 51), "MiddleOfCourtModel", rfl, by decide, tb_978, Or.inl rfl⟩
theorem fa_X12_59 : FA RX12 59 [12] 47 := by
  intro ci h
  cases List.mem_singleton.mp h
  exact ⟨(RX12, TX12, 51), "MiddleOfCourtModel", rfl, by decide, tb_979, Or.inl rfl⟩
theorem fa_X12_63 : FA RX12 63 [12] 48 := by
  intro ci h
  cases List.mem_singleton.mp h
  exact ⟨(RX12, TX12, 51), "MiddleOfCourtModel", rfl, by decide, tb_980, Or.inl rfl⟩
theorem fa_X12_66 : FA RX12 66 [12] 49 := by
  intro ci h
  cases List.mem_singleton.mp h
  exact ⟨(RX12, TX12, 51), "MiddleOfCourtModel", rfl, by decide, tb_981, Or.inl rfl⟩
theorem fa_X12_69 : FA RX12 69 [12] 50 := by
  intro ci h
  cases List.mem_singleton.mp h
  exact ⟨(RX12, TX12, 51), "MiddleOfCourtModel", rfl, by decide, tb_982, Or.inl rfl⟩
theorem lk_X11_1 : Cond.methodLink RX11 1 objectInit ∈ TBL := tb_91
theorem lk_X11_17 : LIN RX11 17 yX9_init := ⟨⟨"MiddleOfCourt", by decide +kernel⟩, tb_99, rfl⟩
theorem lk_X11_78 : LI RX11 78 yX10_init := ⟨tb_137, tb_138, rfl⟩
theorem lk_X11_83 : LV RX11 83 yX9_write := ⟨tb_162, tb_163, tb_164⟩
theorem lk_X11_87 : LV RX11 87 yX9_readInto := ⟨tb_218, tb_219, tb_220⟩
theorem lk_X11_94 : LI RX11 94 yX1_init := ⟨tb_324, tb_325, rfl⟩
theorem lk_X11_107 : LIN RX11 107 yX7_init := ⟨⟨"MiddleOfCourt", by decide +kernel⟩, tb_374, rfl⟩
theorem lk_X11_108 : LkS RX11 108 yX11_fits := ⟨tb_452, tb_453⟩
theorem lk_X11_115 : LkS RX11 115 yX11_isPlayer := ⟨tb_458, tb_459⟩
theorem lk_X11_119 : LV RX11 119 yX1_one := ⟨tb_461, tb_462, tb_463⟩
theorem lk_X11_123 : LV RX11 123 yX6_change := ⟨tb_465, tb_466, tb_467⟩
theorem lk_X11_129 : LV RX11 129 yX11_strokeAt := ⟨tb_473, tb_475, tb_17⟩
theorem lk_X11_133_0 : LU RX11 133 yX8_change RX0 yX8_change := ⟨tb_477, tb_480, tb_481, tb_478, by decide +kernel, by decide +kernel, tb_478, _, _, _, tb_486⟩
theorem lk_X11_133_2 : LU RX11 133 yX8_change RX2 yX8_change := ⟨tb_477, tb_480, tb_482, tb_478, by decide +kernel, by decide +kernel, tb_478, _, _, _, tb_486⟩
theorem lk_X11_133_3 : LU RX11 133 yX8_change RX3 yX8_change := ⟨tb_477, tb_480, tb_483, tb_478, by decide +kernel, by decide +kernel, tb_478, _, _, _, tb_486⟩
theorem lk_X11_133_4 : LU RX11 133 yX8_change RX4 yX8_change := ⟨tb_477, tb_480, tb_484, tb_478, by decide +kernel, by decide +kernel, tb_478, _, _, _, tb_486⟩
theorem lk_X11_133_5 : LU RX11 133 yX8_change RX5 yX8_change := ⟨tb_477, tb_480, tb_485, tb_478, by decide +kernel, by decide +kernel, tb_478, _, _, _, tb_486⟩
theorem lk_X11_133_8 : LU RX11 133 yX8_change RX8 yX8_change := ⟨tb_477, tb_480, tb_479, tb_478, by decide +kernel, by decide +kernel, tb_478, _, _, _, tb_486⟩
theorem lk_X11_134 : LkS RX11 134 yX11_isCell := ⟨tb_455, tb_456⟩
theorem lk_X11_137 : LkS RX11 137 yX11_newStroke := ⟨tb_501, tb_502⟩
theorem lk_X11_141 : LV RX11 141 yX6_value := ⟨tb_576, tb_470, tb_471⟩
theorem lk_X11_145_0 : LU RX11 145 yX8_kind RX0 yX0_kind := ⟨tb_577, tb_580, tb_581, tb_582, by decide +kernel, by decide +kernel, tb_578, _, _, _, tb_596⟩
theorem lk_X11_145_2 : LU RX11 145 yX8_kind RX2 yX2_kind := ⟨tb_577, tb_580, tb_584, tb_585, by decide +kernel, by decide +kernel, tb_578, _, _, _, tb_596⟩
theorem lk_X11_145_3 : LU RX11 145 yX8_kind RX3 yX3_kind := ⟨tb_577, tb_580, tb_587, tb_588, by decide +kernel, by decide +kernel, tb_578, _, _, _, tb_596⟩
theorem lk_X11_145_4 : LU RX11 145 yX8_kind RX4 yX4_kind := ⟨tb_577, tb_580, tb_590, tb_591, by decide +kernel, by decide +kernel, tb_578, _, _, _, tb_596⟩
theorem lk_X11_145_5 : LU RX11 145 yX8_kind RX5 yX5_kind := ⟨tb_577, tb_580, tb_593, tb_594, by decide +kernel, by decide +kernel, tb_578, _, _, _, tb_596⟩
theorem lk_X11_145_8 : LU RX11 145 yX8_kind RX8 yX8_kind := ⟨tb_577, tb_580, tb_579, tb_578, by decide +kernel, by decide +kernel, tb_578, _, _, _, tb_596⟩
theorem lk_X11_149_0 : LU RX11 149 yX8_value RX0 yX8_value := ⟨tb_597, tb_490, tb_491, tb_488, by decide +kernel, by decide +kernel, tb_488, _, _, _, tb_496⟩
theorem lk_X11_149_2 : LU RX11 149 yX8_value RX2 yX8_value := ⟨tb_597, tb_490, tb_492, tb_488, by decide +kernel, by decide +kernel, tb_488, _, _, _, tb_496⟩
theorem lk_X11_149_3 : LU RX11 149 yX8_value RX3 yX8_value := ⟨tb_597, tb_490, tb_493, tb_488, by decide +kernel, by decide +kernel, tb_488, _, _, _, tb_496⟩
theorem lk_X11_149_4 : LU RX11 149 yX8_value RX4 yX8_value := ⟨tb_597, tb_490, tb_494, tb_488, by decide +kernel, by decide +kernel, tb_488, _, _, _, tb_496⟩
theorem lk_X11_149_5 : LU RX11 149 yX8_value RX5 yX8_value := ⟨tb_597, tb_490, tb_495, tb_488, by decide +kernel, by decide +kernel, tb_488, _, _, _, tb_496⟩
theorem lk_X11_149_8 : LU RX11 149 yX8_value RX8 yX8_value := ⟨tb_597, tb_490, tb_489, tb_488, by decide +kernel, by decide +kernel, tb_488, _, _, _, tb_496⟩
theorem lk_X11_153_0 : LU RX11 153 yX8_comes RX0 yX0_comes := ⟨tb_602, tb_605, tb_606, tb_607, by decide +kernel, by decide +kernel, tb_603, _, _, _, tb_624⟩
theorem lk_X11_153_2 : LU RX11 153 yX8_comes RX2 yX2_comes := ⟨tb_602, tb_605, tb_612, tb_613, by decide +kernel, by decide +kernel, tb_603, _, _, _, tb_624⟩
theorem lk_X11_153_3 : LU RX11 153 yX8_comes RX3 yX8_comes := ⟨tb_602, tb_605, tb_619, tb_603, by decide +kernel, by decide +kernel, tb_603, _, _, _, tb_624⟩
theorem lk_X11_153_4 : LU RX11 153 yX8_comes RX4 yX8_comes := ⟨tb_602, tb_605, tb_620, tb_603, by decide +kernel, by decide +kernel, tb_603, _, _, _, tb_624⟩
theorem lk_X11_153_5 : LU RX11 153 yX8_comes RX5 yX5_comes := ⟨tb_602, tb_605, tb_621, tb_622, by decide +kernel, by decide +kernel, tb_603, _, _, _, tb_624⟩
theorem lk_X11_153_8 : LU RX11 153 yX8_comes RX8 yX8_comes := ⟨tb_602, tb_605, tb_604, tb_603, by decide +kernel, by decide +kernel, tb_603, _, _, _, tb_624⟩
theorem lk_X11_156 : LV RX11 156 yX1_tenthsOf := ⟨tb_625, tb_626, tb_627⟩
theorem lk_X11_160 : LV RX11 160 yX1_slipsOf := ⟨tb_682, tb_683, tb_684⟩
theorem lk_X11_163_0 : LU RX11 163 yX8_spends RX0 yX3_spends := ⟨tb_686, tb_689, tb_690, tb_691, by decide +kernel, by decide +kernel, tb_687, _, _, _, tb_705⟩
theorem lk_X11_163_2 : LU RX11 163 yX8_spends RX2 yX2_spends := ⟨tb_686, tb_689, tb_694, tb_695, by decide +kernel, by decide +kernel, tb_687, _, _, _, tb_705⟩
theorem lk_X11_163_3 : LU RX11 163 yX8_spends RX3 yX3_spends := ⟨tb_686, tb_689, tb_700, tb_691, by decide +kernel, by decide +kernel, tb_687, _, _, _, tb_705⟩
theorem lk_X11_163_4 : LU RX11 163 yX8_spends RX4 yX8_spends := ⟨tb_686, tb_689, tb_701, tb_687, by decide +kernel, by decide +kernel, tb_687, _, _, _, tb_705⟩
theorem lk_X11_163_5 : LU RX11 163 yX8_spends RX5 yX5_spends := ⟨tb_686, tb_689, tb_702, tb_703, by decide +kernel, by decide +kernel, tb_687, _, _, _, tb_705⟩
theorem lk_X11_163_8 : LU RX11 163 yX8_spends RX8 yX8_spends := ⟨tb_686, tb_689, tb_688, tb_687, by decide +kernel, by decide +kernel, tb_687, _, _, _, tb_705⟩
theorem lk_X11_166 : LV RX11 166 yX1_needsOf := ⟨tb_706, tb_707, tb_708⟩
theorem lk_X11_170 : LV RX11 170 yX9_add := ⟨tb_718, tb_215, tb_216⟩
theorem lk_X11_180 : LV RX11 180 yX11_refusalOfRally := ⟨tb_731, tb_733, tb_19⟩
theorem lk_X11_183 : LV RX11 183 yX11_playInThought := ⟨tb_747, tb_749, tb_21⟩
theorem lk_X11_196 : LV RX11 196 yX11_sheetAt := ⟨tb_735, tb_737, tb_20⟩
theorem lk_X11_200 : LV RX11 200 yX11_playOut := ⟨tb_759, tb_761, tb_22⟩
theorem lk_X11_206 : LV RX11 206 yX11_valueFor := ⟨tb_804, tb_806, tb_23⟩
theorem lk_X11_211 : LV RX11 211 yX11_badness := ⟨tb_825, tb_827, tb_25⟩
theorem lk_X11_214 : LkS RX11 214 yX11_apart := ⟨tb_787, tb_631⟩
theorem lk_X11_217 : LV RX11 217 yX1_wouldWin := ⟨tb_812, tb_813, tb_814⟩
theorem lk_X11_221 : LV RX11 221 yX7_isMissing := ⟨tb_739, tb_740, tb_741⟩
theorem lk_X11_226 : LV RX11 226 yX11_rowsBy := ⟨tb_841, tb_843, tb_26⟩
theorem lk_X11_230 : LV RX11 230 yX11_rulesBy := ⟨tb_849, tb_851, tb_27⟩
theorem lk_X11_234 : LV RX11 234 yX11_quicksBy := ⟨tb_853, tb_855, tb_28⟩
theorem lk_X11_238 : LV RX11 238 yX7_become := ⟨tb_861, tb_862, tb_863⟩
theorem lk_X11_242 : LV RX11 242 yX7_put := ⟨tb_866, tb_867, tb_868⟩
theorem lk_X11_245 : LV RX11 245 yX1_take := ⟨tb_751, tb_752, tb_753⟩
theorem lk_X11_250 : LV RX11 250 yX1_strike := ⟨tb_764, tb_765, tb_766⟩
theorem lk_X11_253 : LV RX11 253 yX11_drawn := ⟨tb_879, tb_871, tb_872⟩
theorem lk_X11_262 : LV RX11 262 yX7_holds := ⟨tb_900, tb_901, tb_902⟩
theorem lk_X11_271 : Cond.methodLink RX11 271 arraycopyName ∈ TBL := tb_908
theorem lk_X11_277 : LV RX11 277 yX7_item := ⟨tb_743, tb_744, tb_745⟩
theorem lk_X11_280 : LV RX11 280 yX11_stroke := ⟨tb_915, tb_498, tb_499⟩
theorem lk_X11_284 : LkS RX11 284 yX11_isUnder := ⟨tb_920, tb_921⟩
theorem lk_X11_290 : LI RX11 290 yX4_init := ⟨tb_506, tb_507, rfl⟩
theorem lk_X11_294 : LI RX11 294 yX3_init := ⟨tb_533, tb_534, rfl⟩
theorem lk_X11_297 : LI RX11 297 yX5_init := ⟨tb_542, tb_543, rfl⟩
theorem lk_X11_300 : LI RX11 300 yX0_init := ⟨tb_551, tb_552, rfl⟩
theorem lk_X11_303 : LI RX11 303 yX2_init := ⟨tb_560, tb_561, rfl⟩
theorem lk_X11_304 : LI RX11 304 yX8_init := ⟨tb_568, tb_510, rfl⟩
theorem lk_X11_305 : Cond.methodLink RX11 305 Lib.Math.abs.name ∈ TBL := tb_633
theorem lk_X11_310 : Cond.methodLink RX11 310 Lib.Math.max.name ∈ TBL := tb_636
theorem lk_X11_313 : Cond.methodLink RX11 313 Lib.Math.min.name ∈ TBL := tb_653
theorem lk_X11_316 : LkS RX11 316 yJ6_compare_7cf53 := ⟨tb_788, tb_789⟩
theorem lk_X11_323 : LkS RX11 323 yX11_goesOver := ⟨tb_784, tb_785⟩
theorem lk_X11_327 : LV RX11 327 yX11_valueBy := ⟨tb_808, tb_810, tb_24⟩
theorem lk_X12_7 : Cond.methodLink RX12 7 objectInit ∈ TBL := tb_928
theorem lk_X12_72 : LV RX12 72 yX12_spell := ⟨tb_929, tb_931, tb_29⟩
theorem lk_X12_82 : LkS RX12 82 yX12_in := ⟨tb_1092, tb_1093⟩
theorem lk_X12_90 : LkS RX12 90 yX12_isPlayer := ⟨tb_1095, tb_1096⟩
theorem lk_X12_98 : LV RX12 98 yX12_isStroke := ⟨tb_1100, tb_1102, tb_30⟩
theorem lk_X12_112 : LV RX12 112 yX12_told := ⟨tb_1109, tb_1110, tb_1111⟩
theorem lk_X12_116 : LkS RX12 116 yX12_isCell := ⟨tb_1117, tb_1118⟩
theorem lk_X12_133 : LV RX12 133 yX12_byteAt := ⟨tb_1138, tb_1140, tb_33⟩
theorem lk_X12_164 : LV RX12 164 yX12_isLetter := ⟨tb_1151, tb_1153, tb_35⟩
theorem lk_X12_171 : LV RX12 171 yX12_fail := ⟨tb_1159, tb_1161, tb_37⟩
theorem lk_X12_174 : LV RX12 174 yX12_next := ⟨tb_1134, tb_1136, tb_32⟩
theorem lk_X12_177 : LV RX12 177 yX12_isWord := ⟨tb_1147, tb_1149, tb_34⟩
theorem lk_X12_199 : LV RX12 199 yX12_isSign := ⟨tb_1191, tb_1193, tb_45⟩
theorem lk_X12_202 : LV RX12 202 yX12_opens := ⟨tb_1175, tb_1177, tb_41⟩
theorem lk_X12_206 : LV RX12 206 yX12_atom := ⟨tb_1187, tb_1189, tb_44⟩
theorem lk_X12_210 : LV RX12 210 yX12_either := ⟨tb_1163, tb_1165, tb_38⟩
theorem lk_X12_213 : LV RX12 213 yX12_name := ⟨tb_1195, tb_1197, tb_46⟩
theorem lk_X12_216 : LV RX12 216 yX12_term := ⟨tb_1183, tb_1185, tb_43⟩
theorem lk_X12_221 : LV RX12 221 yX12_not := ⟨tb_1171, tb_1173, tb_40⟩
theorem lk_X12_224 : LV RX12 224 yX12_added := ⟨tb_1179, tb_1181, tb_42⟩
theorem lk_X12_229 : LV RX12 229 yX12_both := ⟨tb_1167, tb_1169, tb_39⟩
theorem lk_X12_232 : LV RX12 232 yX12_part := ⟨tb_1155, tb_1157, tb_36⟩
theorem lk_X12_236 : LV RX12 236 yX12_read := ⟨tb_1130, tb_1132, tb_31⟩
theorem lk_X12_242 : LkS RX12 242 yX12_within := ⟨tb_1224, tb_1225⟩
theorem lk_X12_246 : LkS RX12 246 yX12_plain := ⟨tb_1217, tb_1218⟩
theorem lk_X12_249 : LkS RX12 249 yX12_across := ⟨tb_1235, tb_1236⟩
theorem lk_X12_252 : LV RX12 252 yX12_comesTo := ⟨tb_1231, tb_1233, tb_49⟩
theorem lk_X12_255 : LkS RX12 255 yX12_farOf := ⟨tb_1214, tb_1215⟩
theorem lk_X12_258 : LV RX12 258 yX12_says := ⟨tb_1220, tb_1222, tb_48⟩
theorem lk_X12_264 : LV RX12 264 yX12_needsOf := ⟨tb_1210, tb_1212, tb_47⟩
theorem lk_X12_267 : LV RX12 267 yX12_tenthsOf := ⟨tb_1238, tb_1240, tb_50⟩
theorem lk_X12_270 : LV RX12 270 yX12_slipsOf := ⟨tb_1242, tb_1244, tb_51⟩
theorem lk_X12_273 : LV RX12 273 yX12_spendsOf := ⟨tb_1246, tb_1248, tb_52⟩
theorem lk_X12_279 : LV RX12 279 yX12_tire := ⟨tb_1276, tb_1278, tb_57⟩
theorem lk_X12_302 : LV RX12 302 yX12_strikes := ⟨tb_1272, tb_1274, tb_56⟩
theorem lk_X12_305 : LkS RX12 305 yX12_goesOver := ⟨tb_1280, tb_1281⟩
theorem lk_X12_309 : LkS RX12 309 yX12_isSheet := ⟨tb_1254, tb_1255⟩
theorem lk_X12_312 : LV RX12 312 yX12_rallyBad := ⟨tb_1258, tb_1260, tb_53⟩
theorem lk_X12_315 : LV RX12 315 yX12_layAside := ⟨tb_1262, tb_1264, tb_54⟩
theorem lk_X12_318 : LV RX12 318 yX12_rallies := ⟨tb_1266, tb_1268, tb_55⟩
theorem lk_X12_322 : LV RX12 322 yX12_takeBack := ⟨tb_1283, tb_1285, tb_58⟩
theorem lk_X12_330 : LV RX12 330 yX12_valueOf := ⟨tb_1300, tb_1302, tb_59⟩
theorem lk_X12_334 : LV RX12 334 yX12_badness := ⟨tb_1313, tb_1315, tb_60⟩
theorem lk_X12_343 : LV RX12 343 yX12_goesOn := ⟨tb_1329, tb_1331, tb_61⟩
theorem lk_X12_349 : LV RX12 349 yX12_tries := ⟨tb_1338, tb_1340, tb_62⟩
theorem lk_X12_352 : LV RX12 352 yX12_winsSo := ⟨tb_1342, tb_1344, tb_63⟩
theorem lk_X12_355 : LV RX12 355 yX12_sheet := ⟨tb_1350, tb_1351, tb_1352⟩
theorem lk_X12_359 : LV RX12 359 yX12_draws := ⟨tb_1358, tb_1360, tb_64⟩
theorem lk_X12_372 : LV RX12 372 yX12_stroke := ⟨tb_1393, tb_1114, tb_1115⟩
theorem lk_X12_375 : LkS RX12 375 yX12_over := ⟨tb_1398, tb_1399⟩
theorem lk_X0_3 : LI RX0 3 yX3_init := ⟨tb_554, tb_534, rfl⟩
theorem lk_X0_15 : LkSN RX0 15 yX11_across := ⟨⟨"MiddleOfCourt", by decide +kernel⟩, tb_610⟩
theorem lk_X0_19 : LSU RX0 19 yX3_flight := ⟨tb_663, tb_1401, tb_557, tb_664, by decide⟩
theorem lk_X1_3 : Cond.methodLink RX1 3 objectInit ∈ TBL := tb_327
theorem lk_X1_11 : LIN RX1 11 yX6_init := ⟨⟨"MiddleOfCourt", by decide +kernel⟩, tb_331, rfl⟩
theorem lk_X1_29 : LV RX1 29 yX6_take := ⟨tb_755, tb_756, tb_757⟩
theorem lk_X1_33 : LkSN RX1 33 yX11_apart := ⟨⟨"MiddleOfCourt", by decide +kernel⟩, tb_631⟩
theorem lk_X1_39 : LV RX1 39 yX10_reckon := ⟨tb_639, tb_640, tb_641⟩
theorem lk_X1_43 : LkSN RX1 43 yX11_within := ⟨⟨"MiddleOfCourt", by decide +kernel⟩, tb_651⟩
theorem lk_X1_49_0 : LU RX1 49 yX8_comes RX0 yX0_comes := ⟨tb_629, tb_605, tb_606, tb_607, by decide +kernel, by decide +kernel, tb_603, _, _, _, tb_624⟩
theorem lk_X1_49_2 : LU RX1 49 yX8_comes RX2 yX2_comes := ⟨tb_629, tb_605, tb_612, tb_613, by decide +kernel, by decide +kernel, tb_603, _, _, _, tb_624⟩
theorem lk_X1_49_3 : LU RX1 49 yX8_comes RX3 yX8_comes := ⟨tb_629, tb_605, tb_619, tb_603, by decide +kernel, by decide +kernel, tb_603, _, _, _, tb_624⟩
theorem lk_X1_49_4 : LU RX1 49 yX8_comes RX4 yX8_comes := ⟨tb_629, tb_605, tb_620, tb_603, by decide +kernel, by decide +kernel, tb_603, _, _, _, tb_624⟩
theorem lk_X1_49_5 : LU RX1 49 yX8_comes RX5 yX5_comes := ⟨tb_629, tb_605, tb_621, tb_622, by decide +kernel, by decide +kernel, tb_603, _, _, _, tb_624⟩
theorem lk_X1_49_8 : LU RX1 49 yX8_comes RX8 yX8_comes := ⟨tb_629, tb_605, tb_604, tb_603, by decide +kernel, by decide +kernel, tb_603, _, _, _, tb_624⟩
theorem lk_X1_58_0 : LU RX1 58 yX8_flight RX0 yX0_flight := ⟨tb_656, tb_659, tb_660, tb_661, by decide +kernel, by decide +kernel, tb_657, _, _, _, tb_680⟩
theorem lk_X1_58_2 : LU RX1 58 yX8_flight RX2 yX2_flight := ⟨tb_656, tb_659, tb_667, tb_668, by decide +kernel, by decide +kernel, tb_657, _, _, _, tb_680⟩
theorem lk_X1_58_3 : LU RX1 58 yX8_flight RX3 yX3_flight := ⟨tb_656, tb_659, tb_674, tb_664, by decide +kernel, by decide +kernel, tb_657, _, _, _, tb_680⟩
theorem lk_X1_58_4 : LU RX1 58 yX8_flight RX4 yX4_flight := ⟨tb_656, tb_659, tb_675, tb_671, by decide +kernel, by decide +kernel, tb_657, _, _, _, tb_680⟩
theorem lk_X1_58_5 : LU RX1 58 yX8_flight RX5 yX5_flight := ⟨tb_656, tb_659, tb_676, tb_677, by decide +kernel, by decide +kernel, tb_657, _, _, _, tb_680⟩
theorem lk_X1_58_8 : LU RX1 58 yX8_flight RX8 yX8_flight := ⟨tb_656, tb_659, tb_658, tb_657, by decide +kernel, by decide +kernel, tb_657, _, _, _, tb_680⟩
theorem lk_X1_61 : Cond.methodLink RX1 61 Lib.Math.max.name ∈ TBL := tb_681
theorem lk_X1_66 : LV RX1 66 yX1_one := ⟨tb_768, tb_462, tb_463⟩
theorem lk_X1_70 : LV RX1 70 yX1_needsOf := ⟨tb_776, tb_707, tb_708⟩
theorem lk_X1_74 : LV RX1 74 yX1_tenthsOf := ⟨tb_769, tb_626, tb_627⟩
theorem lk_X1_78_0 : LU RX1 78 yX8_spends RX0 yX3_spends := ⟨tb_770, tb_689, tb_690, tb_691, by decide +kernel, by decide +kernel, tb_687, _, _, _, tb_705⟩
theorem lk_X1_78_2 : LU RX1 78 yX8_spends RX2 yX2_spends := ⟨tb_770, tb_689, tb_694, tb_695, by decide +kernel, by decide +kernel, tb_687, _, _, _, tb_705⟩
theorem lk_X1_78_3 : LU RX1 78 yX8_spends RX3 yX3_spends := ⟨tb_770, tb_689, tb_700, tb_691, by decide +kernel, by decide +kernel, tb_687, _, _, _, tb_705⟩
theorem lk_X1_78_4 : LU RX1 78 yX8_spends RX4 yX8_spends := ⟨tb_770, tb_689, tb_701, tb_687, by decide +kernel, by decide +kernel, tb_687, _, _, _, tb_705⟩
theorem lk_X1_78_5 : LU RX1 78 yX8_spends RX5 yX5_spends := ⟨tb_770, tb_689, tb_702, tb_703, by decide +kernel, by decide +kernel, tb_687, _, _, _, tb_705⟩
theorem lk_X1_78_8 : LU RX1 78 yX8_spends RX8 yX8_spends := ⟨tb_770, tb_689, tb_688, tb_687, by decide +kernel, by decide +kernel, tb_687, _, _, _, tb_705⟩
theorem lk_X1_82 : LV RX1 82 yX6_tire := ⟨tb_771, tb_772, tb_773⟩
theorem lk_X1_86 : LV RX1 86 yX6_go := ⟨tb_777, tb_778, tb_779⟩
theorem lk_X1_92 : Cond.methodLink RX1 92 Lib.Math.min.name ∈ TBL := tb_783
theorem lk_X2_3 : LI RX2 3 yX4_init := ⟨tb_563, tb_507, rfl⟩
theorem lk_X2_13 : LkSN RX2 13 yX11_across := ⟨⟨"MiddleOfCourt", by decide +kernel⟩, tb_610⟩
theorem lk_X2_16 : LSU RX2 16 yX4_flight := ⟨tb_670, tb_1402, tb_566, tb_671, by decide⟩
theorem lk_X3_3 : LI RX3 3 yX8_init := ⟨tb_536, tb_510, rfl⟩
theorem lk_X3_9 : LSU RX3 9 yX8_flight := ⟨tb_666, tb_659, tb_539, tb_657, by decide⟩
theorem lk_X3_13 : LSU RX3 13 yX8_spends := ⟨tb_693, tb_689, tb_539, tb_687, by decide⟩
theorem lk_X4_3 : LI RX4 3 yX8_init := ⟨tb_509, tb_510, rfl⟩
theorem lk_X4_9 : LSU RX4 9 yX8_flight := ⟨tb_673, tb_659, tb_530, tb_657, by decide⟩
theorem lk_X5_3 : LI RX5 3 yX4_init := ⟨tb_545, tb_507, rfl⟩
theorem lk_X5_15 : LSU RX5 15 yX4_flight := ⟨tb_679, tb_1402, tb_548, tb_671, by decide⟩
theorem lk_X6_3 : Cond.methodLink RX6 3 objectInit ∈ TBL := tb_333
theorem lk_X6_24 : Cond.methodLink RX6 24 Lib.Math.max.name ∈ TBL := tb_775
theorem lk_X6_30 : LkSN RX6 30 yX11_apart := ⟨⟨"MiddleOfCourt", by decide +kernel⟩, tb_631⟩
theorem lk_X6_33 : LV RX6 33 yX6_tire := ⟨tb_782, tb_772, tb_773⟩
theorem lk_X6_37 : LV RX6 37 yX6_value := ⟨tb_469, tb_470, tb_471⟩
theorem lk_X7_3 : Cond.methodLink RX7 3 objectInit ∈ TBL := tb_376
theorem lk_X7_22 : LkSN RX7 22 yX11_within := ⟨⟨"MiddleOfCourt", by decide +kernel⟩, tb_651⟩
theorem lk_X8_3 : Cond.methodLink RX8 3 objectInit ∈ TBL := tb_512
theorem lk_X8_18_0 : LU RX8 18 yX8_value RX0 yX8_value := ⟨tb_487, tb_490, tb_491, tb_488, by decide +kernel, by decide +kernel, tb_488, _, _, _, tb_496⟩
theorem lk_X8_18_2 : LU RX8 18 yX8_value RX2 yX8_value := ⟨tb_487, tb_490, tb_492, tb_488, by decide +kernel, by decide +kernel, tb_488, _, _, _, tb_496⟩
theorem lk_X8_18_3 : LU RX8 18 yX8_value RX3 yX8_value := ⟨tb_487, tb_490, tb_493, tb_488, by decide +kernel, by decide +kernel, tb_488, _, _, _, tb_496⟩
theorem lk_X8_18_4 : LU RX8 18 yX8_value RX4 yX8_value := ⟨tb_487, tb_490, tb_494, tb_488, by decide +kernel, by decide +kernel, tb_488, _, _, _, tb_496⟩
theorem lk_X8_18_5 : LU RX8 18 yX8_value RX5 yX8_value := ⟨tb_487, tb_490, tb_495, tb_488, by decide +kernel, by decide +kernel, tb_488, _, _, _, tb_496⟩
theorem lk_X8_18_8 : LU RX8 18 yX8_value RX8 yX8_value := ⟨tb_487, tb_490, tb_489, tb_488, by decide +kernel, by decide +kernel, tb_488, _, _, _, tb_496⟩
theorem lk_X9_3 : Cond.methodLink RX9 3 objectInit ∈ TBL := tb_101
theorem lk_X9_38 : LV RX9 38 yJ0_length_8abf5 := ⟨tb_166, tb_167, tb_168⟩
theorem lk_X9_44 : LV RX9 44 yJ0_charAt_5068e := ⟨tb_176, tb_177, tb_178⟩
theorem lk_X9_48 : LV RX9 48 yX9_add := ⟨tb_214, tb_215, tb_216⟩
theorem lk_X9_52 : LV RX9 52 yX10_clear := ⟨tb_222, tb_223, tb_224⟩
theorem lk_X9_57 : LV RX9 57 yX9_next := ⟨tb_226, tb_228, tb_0⟩
theorem lk_X9_60 : LV RX9 60 yX9_expect := ⟨tb_275, tb_277, tb_7⟩
theorem lk_X9_64 : LV RX9 64 yX9_readEither := ⟨tb_283, tb_285, tb_9⟩
theorem lk_X9_67 : LV RX9 67 yX10_endPart := ⟨tb_319, tb_320, tb_321⟩
theorem lk_X9_70 : LV RX9 70 yX9_fail := ⟨tb_279, tb_281, tb_8⟩
theorem lk_X9_73 : LV RX9 73 yX10_add := ⟨tb_303, tb_304, tb_305⟩
theorem lk_X9_75 : LV RX9 75 yX9_readBoth := ⟨tb_287, tb_289, tb_10⟩
theorem lk_X9_78 : LV RX9 78 yX9_emit := ⟨tb_299, tb_301, tb_13⟩
theorem lk_X9_81 : LV RX9 81 yX9_readNot := ⟨tb_291, tb_293, tb_11⟩
theorem lk_X9_84 : LV RX9 84 yX9_opens := ⟨tb_295, tb_297, tb_12⟩
theorem lk_X9_87 : LV RX9 87 yX9_readSum := ⟨tb_307, tb_309, tb_14⟩
theorem lk_X9_90 : LV RX9 90 yX9_readTerm := ⟨tb_311, tb_313, tb_15⟩
theorem lk_X9_93 : LV RX9 93 yX9_readOne := ⟨tb_315, tb_317, tb_16⟩
theorem lk_X9_96 : LV RX9 96 yX9_letterAt := ⟨tb_230, tb_232, tb_1⟩
theorem lk_X9_100 : LkS RX9 100 yX9_isLetter := ⟨tb_234, tb_235⟩
theorem lk_X9_103 : LV RX9 103 yX9_nextWord := ⟨tb_237, tb_239, tb_2⟩
theorem lk_X9_106 : LkS RX9 106 yX9_isDigit := ⟨tb_265, tb_266⟩
theorem lk_X9_109 : LV RX9 109 yX9_nextNumber := ⟨tb_268, tb_270, tb_6⟩
theorem lk_X9_112 : LkS RX9 112 yX9_isSign := ⟨tb_272, tb_273⟩
theorem lk_X9_115 : LV RX9 115 yX9_nameOfWord := ⟨tb_241, tb_243, tb_3⟩
theorem lk_X9_118 : LV RX9 118 yX9_keyOfWord := ⟨tb_255, tb_257, tb_5⟩
theorem lk_X9_123 : LV RX9 123 yX9_isWord := ⟨tb_246, tb_248, tb_4⟩
theorem lk_X10_3 : Cond.methodLink RX10 3 objectInit ∈ TBL := tb_140
theorem lk_X10_39 : LV RX10 39 yX10_work := ⟨tb_643, tb_645, tb_18⟩
theorem lk_X10_43 : LkS RX10 43 yX10_join := ⟨tb_647, tb_648⟩
theorem lk_L_9 : LI RL 9 yX11_init := ⟨tb_88, tb_89, rfl⟩
theorem lk_L_12 : LI RL 12 yX12_init := ⟨tb_925, tb_926, rfl⟩
theorem lk_L_13 : LV RL 13 yX11_set := ⟨tb_448, tb_449, tb_450⟩
theorem lk_L_17 : LV RL 17 yX12_set := ⟨tb_1087, tb_1088, tb_1089⟩
theorem lk_L_18 : LV RL 18 yX11_stroke := ⟨tb_497, tb_498, tb_499⟩
theorem lk_L_21 : LV RL 21 yX12_stroke := ⟨tb_1113, tb_1114, tb_1115⟩
theorem lk_L_22 : LV RL 22 yX11_told := ⟨tb_572, tb_573, tb_574⟩
theorem lk_L_26 : LV RL 26 yX12_told := ⟨tb_1120, tb_1110, tb_1111⟩
theorem lk_L_27 : LV RL 27 yX11_shot := ⟨tb_598, tb_599, tb_600⟩
theorem lk_L_30 : LV RL 30 yX12_shot := ⟨tb_1227, tb_1228, tb_1229⟩
theorem lk_L_31 : LV RL 31 yX11_needs := ⟨tb_710, tb_711, tb_712⟩
theorem lk_L_34 : LV RL 34 yX12_needs := ⟨tb_1205, tb_1206, tb_1207⟩
theorem lk_L_35 : LV RL 35 yX11_feed := ⟨tb_714, tb_715, tb_716⟩
theorem lk_L_39 : LV RL 39 yX12_feed := ⟨tb_1121, tb_1122, tb_1123⟩
theorem lk_L_40 : LV RL 40 yX11_text := ⟨tb_719, tb_720, tb_721⟩
theorem lk_L_44 : LV RL 44 yX12_text := ⟨tb_1126, tb_1127, tb_1128⟩
theorem lk_L_45 : LV RL 45 yX11_force := ⟨tb_723, tb_724, tb_725⟩
theorem lk_L_48 : LV RL 48 yX12_force := ⟨tb_1201, tb_1202, tb_1203⟩
theorem lk_L_49 : LV RL 49 yX11_rally := ⟨tb_727, tb_728, tb_729⟩
theorem lk_L_52 : LV RL 52 yX12_rally := ⟨tb_1250, tb_1251, tb_1252⟩
theorem lk_L_53 : LV RL 53 yX11_play := ⟨tb_791, tb_792, tb_793⟩
theorem lk_L_56 : LV RL 56 yX12_play := ⟨tb_1287, tb_1288, tb_1289⟩
theorem lk_L_57 : LV RL 57 yX11_likely := ⟨tb_795, tb_796, tb_797⟩
theorem lk_L_61 : LV RL 61 yX12_likely := ⟨tb_1291, tb_1292, tb_1293⟩
theorem lk_L_62 : LV RL 62 yX11_best := ⟨tb_800, tb_801, tb_802⟩
theorem lk_L_65 : LV RL 65 yX12_best := ⟨tb_1296, tb_1297, tb_1298⟩
theorem lk_L_66 : LV RL 66 yX11_sure := ⟨tb_816, tb_817, tb_818⟩
theorem lk_L_69 : LV RL 69 yX12_sure := ⟨tb_1304, tb_1305, tb_1306⟩
theorem lk_L_70 : LV RL 70 yX11_stand := ⟨tb_820, tb_821, tb_822⟩
theorem lk_L_73 : LV RL 73 yX12_stand := ⟨tb_1308, tb_1309, tb_1310⟩
theorem lk_L_74 : LV RL 74 yX11_tires := ⟨tb_829, tb_830, tb_831⟩
theorem lk_L_77 : LV RL 77 yX12_tires := ⟨tb_1317, tb_1318, tb_1319⟩
theorem lk_L_78 : LV RL 78 yX11_inTheWay := ⟨tb_833, tb_834, tb_835⟩
theorem lk_L_81 : LV RL 81 yX12_inTheWay := ⟨tb_1321, tb_1322, tb_1323⟩
theorem lk_L_82 : LV RL 82 yX11_balls := ⟨tb_837, tb_838, tb_839⟩
theorem lk_L_85 : LV RL 85 yX12_balls := ⟨tb_1325, tb_1326, tb_1327⟩
theorem lk_L_86 : LV RL 86 yX11_quicks := ⟨tb_845, tb_846, tb_847⟩
theorem lk_L_89 : LV RL 89 yX12_quicks := ⟨tb_1333, tb_1334, tb_1335⟩
theorem lk_L_90 : LV RL 90 yX11_film := ⟨tb_857, tb_858, tb_859⟩
theorem lk_L_93 : LV RL 93 yX12_film := ⟨tb_1346, tb_1347, tb_1348⟩
theorem lk_L_94 : LV RL 94 yX11_drawn := ⟨tb_870, tb_871, tb_872⟩
theorem lk_L_97 : LV RL 97 yX12_drawn := ⟨tb_1354, tb_1355, tb_1356⟩
theorem lk_L_98 : LV RL 98 yX11_chance := ⟨tb_875, tb_876, tb_877⟩
theorem lk_L_102 : LV RL 102 yX12_chance := ⟨tb_1363, tb_1364, tb_1365⟩
theorem lk_L_103 : LV RL 103 yX11_image := ⟨tb_880, tb_881, tb_882⟩
theorem lk_L_106 : LV RL 106 yX12_image := ⟨tb_1368, tb_1369, tb_1370⟩
theorem lk_L_107 : LV RL 107 yX11_back := ⟨tb_884, tb_885, tb_886⟩
theorem lk_L_110 : LV RL 110 yX12_back := ⟨tb_1372, tb_1373, tb_1374⟩
theorem lk_L_111 : LV RL 111 yX11_count := ⟨tb_888, tb_889, tb_890⟩
theorem lk_L_114 : LV RL 114 yX12_count := ⟨tb_1376, tb_1377, tb_1378⟩
theorem lk_L_115 : LV RL 115 yX11_sheet := ⟨tb_892, tb_893, tb_894⟩
theorem lk_L_118 : LV RL 118 yX12_sheet := ⟨tb_1380, tb_1351, tb_1352⟩
theorem lk_L_119 : LV RL 119 yX11_cell := ⟨tb_896, tb_897, tb_898⟩
theorem lk_L_122 : LV RL 122 yX12_cell := ⟨tb_1381, tb_1382, tb_1383⟩
theorem lk_L_123 : LV RL 123 yX11_copy := ⟨tb_904, tb_905, tb_906⟩
theorem lk_L_127 : LV RL 127 yX12_copy := ⟨tb_1385, tb_1386, tb_1387⟩
theorem lk_L_128 : LV RL 128 yX11_strokes := ⟨tb_911, tb_912, tb_913⟩
theorem lk_L_132 : LV RL 132 yX12_strokes := ⟨tb_1389, tb_1390, tb_1391⟩
theorem lk_L_133 : LV RL 133 yX11_taken := ⟨tb_916, tb_917, tb_918⟩
theorem lk_L_136 : LV RL 136 yX12_taken := ⟨tb_1394, tb_1395, tb_1396⟩
