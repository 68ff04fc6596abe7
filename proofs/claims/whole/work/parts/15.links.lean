theorem tp_0 : Cond.selects "PartMaker$Expressions" ⟨"PartMaker$Growth", "merge", "(IIII)V"⟩ ⟨"PartMaker$Growth", "merge", "(IIII)V"⟩ ∈ xtg := tp_of 0 rfl (by decide +kernel)
theorem tp_1 : Cond.selects "PartMaker$Tests" ⟨"PartMaker$Growth", "merge", "(IIII)V"⟩ ⟨"PartMaker$Growth", "merge", "(IIII)V"⟩ ∈ xtg := tp_of 1 rfl (by decide +kernel)
theorem tp_2 : Cond.selects "PartMaker$Expressions" ⟨"PartMaker$Growth", "unsettleBehind", "(I)V"⟩ ⟨"PartMaker$Growth", "unsettleBehind", "(I)V"⟩ ∈ xtg := tp_of 2 rfl (by decide +kernel)
theorem tp_3 : Cond.selects "PartMaker$Tests" ⟨"PartMaker$Growth", "unsettleBehind", "(I)V"⟩ ⟨"PartMaker$Growth", "unsettleBehind", "(I)V"⟩ ∈ xtg := tp_of 3 rfl (by decide +kernel)
theorem xb_X0_all : xcb mX0_all 0 := ⟨tw_920, tw_81, by decide +kernel, ⟨by decide +kernel, by decide +kernel⟩, by decide +kernel, by decide⟩
theorem xb_X0_mayBe : xcb mX0_mayBe 2 := ⟨tw_1141, tw_81, by decide +kernel, ⟨by decide +kernel, by decide +kernel⟩, by decide +kernel, by decide⟩
theorem xb_X0_areThere : xcb mX0_areThere 3 := ⟨tw_1147, tw_81, by decide +kernel, ⟨by decide +kernel, by decide +kernel⟩, by decide +kernel, by decide⟩
theorem xb_X0_add : xcb mX0_add 4 := ⟨tw_1167, tw_81, by decide +kernel, ⟨by decide +kernel, by decide +kernel⟩, by decide +kernel, by decide⟩
theorem xb_X0_remove : xcb mX0_remove 1 := ⟨tw_1199, tw_81, by decide +kernel, ⟨by decide +kernel, by decide +kernel⟩, by decide +kernel, by decide⟩
theorem xb_X1_firstSize : xcb mX1_firstSize 0 := ⟨tw_569, tw_84, by decide +kernel, ⟨by decide +kernel, by decide +kernel⟩, by decide +kernel, by decide⟩
theorem xb_X1_makeAll : xcb mX1_makeAll 1 := ⟨tw_578, tw_84, by decide +kernel, ⟨by decide +kernel, by decide +kernel⟩, by decide +kernel, by decide⟩
theorem xb_X1_makeInputs : xcb mX1_makeInputs 0 := ⟨tw_582, tw_84, by decide +kernel, ⟨by decide +kernel, by decide +kernel⟩, by decide +kernel, by decide⟩
theorem xb_X1_makeConstants : xcb mX1_makeConstants 0 := ⟨tw_984, tw_84, by decide +kernel, ⟨by decide +kernel, by decide +kernel⟩, by decide +kernel, by decide⟩
theorem xb_X1_makeOfOne : xcb mX1_makeOfOne 2 := ⟨tw_992, tw_84, by decide +kernel, ⟨by decide +kernel, by decide +kernel⟩, by decide +kernel, by decide⟩
theorem xb_X1_makeOfTwo : xcb mX1_makeOfTwo 2 := ⟨tw_1008, tw_84, by decide +kernel, ⟨by decide +kernel, by decide +kernel⟩, by decide +kernel, by decide⟩
theorem xb_X1_reckon : xcb mX1_reckon 3 := ⟨tw_594, tw_84, by decide +kernel, ⟨by decide +kernel, by decide +kernel⟩, by decide +kernel, by decide⟩
theorem xb_X1_slotOf : xcb mX1_slotOf 1 := ⟨tw_912, tw_84, by decide +kernel, ⟨by decide +kernel, by decide +kernel⟩, by decide +kernel, by decide⟩
theorem xb_X1_saysNothing : xcb mX1_saysNothing 0 := ⟨tw_934, tw_84, by decide +kernel, ⟨by decide +kernel, by decide +kernel⟩, by decide +kernel, by decide⟩
theorem xb_X1_holder : xcb mX1_holder 0 := ⟨tw_943, tw_84, by decide +kernel, ⟨by decide +kernel, by decide +kernel⟩, by decide +kernel, by decide⟩
theorem xb_X1_comesToReckoned : xcb mX1_comesToReckoned 1 := ⟨tw_947, tw_84, by decide +kernel, ⟨by decide +kernel, by decide +kernel⟩, by decide +kernel, by decide⟩
theorem xb_X1_settleOutputs : xcb mX1_settleOutputs 1 := ⟨tw_976, tw_84, by decide +kernel, ⟨by decide +kernel, by decide +kernel⟩, by decide +kernel, by decide⟩
theorem xb_X1_unsettleOutputs : xcb mX1_unsettleOutputs 1 := ⟨tw_535, tw_84, by decide +kernel, ⟨by decide +kernel, by decide +kernel⟩, by decide +kernel, by decide⟩
theorem xb_X1_usageOf : xcb mX1_usageOf 3 := ⟨tw_964, tw_84, by decide +kernel, ⟨by decide +kernel, by decide +kernel⟩, by decide +kernel, by decide⟩
theorem xb_X1_outputOn : xcb mX1_outputOn 2 := ⟨tw_928, tw_84, by decide +kernel, ⟨by decide +kernel, by decide +kernel⟩, by decide +kernel, by decide⟩
theorem xb_X1_come : xcb mX1_come 4 := ⟨tw_1295, tw_84, by decide +kernel, ⟨by decide +kernel, by decide +kernel⟩, by decide +kernel, by decide⟩
theorem xb_X1_spell : xcb mX1_spell 4 := ⟨tw_1327, tw_84, by decide +kernel, ⟨by decide +kernel, by decide +kernel⟩, by decide +kernel, by decide⟩
theorem xb_X1_farness : xcb mX1_farness 1 := ⟨tw_1064, tw_84, by decide +kernel, ⟨by decide +kernel, by decide +kernel⟩, by decide +kernel, by decide⟩
theorem xb_X2_put : xcb mX2_put 4 := ⟨tw_958, tw_85, by decide +kernel, ⟨by decide +kernel, by decide +kernel⟩, by decide +kernel, by decide⟩
theorem xb_X3_comesTo : xcb mX3_comesTo 2 := ⟨tw_1289, tw_83, by decide +kernel, ⟨by decide +kernel, by decide +kernel⟩, by decide +kernel, by decide⟩
theorem xb_X3_firstMergedComesTo : xcb mX3_firstMergedComesTo 2 := ⟨tw_1469, tw_83, by decide +kernel, ⟨by decide +kernel, by decide +kernel⟩, by decide +kernel, by decide⟩
theorem xb_X3_spellKept : xcb mX3_spellKept 2 := ⟨tw_1321, tw_83, by decide +kernel, ⟨by decide +kernel, by decide +kernel⟩, by decide +kernel, by decide⟩
theorem xb_X3_spellFirstMerged : xcb mX3_spellFirstMerged 2 := ⟨tw_1448, tw_83, by decide +kernel, ⟨by decide +kernel, by decide +kernel⟩, by decide +kernel, by decide⟩
theorem xb_X3_partsIn : xcb mX3_partsIn 2 := ⟨tw_1092, tw_83, by decide +kernel, ⟨by decide +kernel, by decide +kernel⟩, by decide +kernel, by decide⟩
theorem xb_X3_lacks : xcb mX3_lacks 2 := ⟨tw_1086, tw_83, by decide +kernel, ⟨by decide +kernel, by decide +kernel⟩, by decide +kernel, by decide⟩
theorem xb_X3_begin : xcb mX3_begin 1 := ⟨tw_998, tw_83, by decide +kernel, ⟨by decide +kernel, by decide +kernel⟩, by decide +kernel, by decide⟩
theorem xb_X3_end : xcb mX3_end 1 := ⟨tw_1004, tw_83, by decide +kernel, ⟨by decide +kernel, by decide +kernel⟩, by decide +kernel, by decide⟩
theorem xb_X3_forget : xcb mX3_forget 0 := ⟨tw_525, tw_83, by decide +kernel, ⟨by decide +kernel, by decide +kernel⟩, by decide +kernel, by decide⟩
theorem xb_X3_advance : xcb mX3_advance 1 := ⟨tw_560, tw_83, by decide +kernel, ⟨by decide +kernel, by decide +kernel⟩, by decide +kernel, by decide⟩
theorem xb_X3_offer : xcb mX3_offer 3 := ⟨tw_588, tw_83, by decide +kernel, ⟨by decide +kernel, by decide +kernel⟩, by decide +kernel, by decide⟩
theorem xb_X3_offerEach : xcb mX3_offerEach 4 := ⟨tw_1017, tw_83, by decide +kernel, ⟨by decide +kernel, by decide +kernel⟩, by decide +kernel, by decide⟩
theorem xb_X3_merge : xcb mX3_merge 4 := ⟨tw_954, tw_83, by decide +kernel, ⟨by decide +kernel, by decide +kernel⟩, by decide +kernel, by decide⟩
theorem xb_X3_unsettleBehind : xcb mX3_unsettleBehind 1 := ⟨tw_529, tw_83, by decide +kernel, ⟨by decide +kernel, by decide +kernel⟩, by decide +kernel, by decide⟩
theorem xb_X4_isOfOne : xcb mX4_isOfOne 1 := ⟨tw_967, tw_110, by decide +kernel, ⟨by decide +kernel, by decide +kernel⟩, by decide +kernel, by decide⟩
theorem xb_X4_isEvenHanded : xcb mX4_isEvenHanded 1 := ⟨tw_1011, tw_110, by decide +kernel, ⟨by decide +kernel, by decide +kernel⟩, by decide +kernel, by decide⟩
theorem xb_X4_apply : xcb mX4_apply 3 := ⟨tw_908, tw_110, by decide +kernel, ⟨by decide +kernel, by decide +kernel⟩, by decide +kernel, by decide⟩
theorem xb_X4_opening : xcb mX4_opening 1 := ⟨tw_1339, tw_110, by decide +kernel, ⟨by decide +kernel, by decide +kernel⟩, by decide +kernel, by decide⟩
theorem xb_X5_put : xcb mX5_put 3 := ⟨tw_1283, tw_90, by decide +kernel, ⟨by decide +kernel, by decide +kernel⟩, by decide +kernel, by decide⟩
theorem xb_X5_start : xcb mX5_start 1 := ⟨tw_1463, tw_90, by decide +kernel, ⟨by decide +kernel, by decide +kernel⟩, by decide +kernel, by decide⟩
theorem xb_X5_step : xcb mX5_step 1 := ⟨tw_1473, tw_90, by decide +kernel, ⟨by decide +kernel, by decide +kernel⟩, by decide +kernel, by decide⟩
theorem xb_X6_nodeBehind : xcb mX6_nodeBehind 2 := ⟨tw_1535, tw_89, by decide +kernel, ⟨by decide +kernel, by decide +kernel⟩, by decide +kernel, by decide⟩
theorem xb_X6_mayAsk : xcb mX6_mayAsk 1 := ⟨tw_1528, tw_89, by decide +kernel, ⟨by decide +kernel, by decide +kernel⟩, by decide +kernel, by decide⟩
theorem xb_X6_clear : xcb mX6_clear 0 := ⟨tw_1520, tw_89, by decide +kernel, ⟨by decide +kernel, by decide +kernel⟩, by decide +kernel, by decide⟩
theorem xb_X6_isSameAs : xcb mX6_isSameAs 1 := ⟨tw_1699, tw_89, by decide +kernel, ⟨by decide +kernel, by decide +kernel⟩, by decide +kernel, by decide⟩
theorem xb_X6_countIfs : xcb mX6_countIfs 0 := ⟨tw_1559, tw_89, by decide +kernel, ⟨by decide +kernel, by decide +kernel⟩, by decide +kernel, by decide⟩
theorem xb_X6_deepestIf : xcb mX6_deepestIf 0 := ⟨tw_1563, tw_89, by decide +kernel, ⟨by decide +kernel, by decide +kernel⟩, by decide +kernel, by decide⟩
theorem xb_X6_countLeaves : xcb mX6_countLeaves 0 := ⟨tw_1567, tw_89, by decide +kernel, ⟨by decide +kernel, by decide +kernel⟩, by decide +kernel, by decide⟩
theorem xb_X6_standsAhead : xcb mX6_standsAhead 1 := ⟨tw_1571, tw_89, by decide +kernel, ⟨by decide +kernel, by decide +kernel⟩, by decide +kernel, by decide⟩
theorem xb_X6_comesTo : xcb mX6_comesTo 1 := ⟨tw_1582, tw_89, by decide +kernel, ⟨by decide +kernel, by decide +kernel⟩, by decide +kernel, by decide⟩
theorem xb_X6_leafOf : xcb mX6_leafOf 1 := ⟨tw_1616, tw_89, by decide +kernel, ⟨by decide +kernel, by decide +kernel⟩, by decide +kernel, by decide⟩
theorem xb_X6_askedOnWay : xcb mX6_askedOnWay 2 := ⟨tw_1688, tw_89, by decide +kernel, ⟨by decide +kernel, by decide +kernel⟩, by decide +kernel, by decide⟩
theorem xb_X6_partsIn : xcb mX6_partsIn 1 := ⟨tw_1670, tw_89, by decide +kernel, ⟨by decide +kernel, by decide +kernel⟩, by decide +kernel, by decide⟩
theorem xb_X6_spellFrom : xcb mX6_spellFrom 2 := ⟨tw_1598, tw_89, by decide +kernel, ⟨by decide +kernel, by decide +kernel⟩, by decide +kernel, by decide⟩
theorem xb_X7_forget : xcb mX7_forget 0 := ⟨tw_546, tw_88, by decide +kernel, ⟨by decide +kernel, by decide +kernel⟩, by decide +kernel, by decide⟩
theorem xb_X7_prepare : xcb mX7_prepare 1 := ⟨tw_1074, tw_88, by decide +kernel, ⟨by decide +kernel, by decide +kernel⟩, by decide +kernel, by decide⟩
theorem xb_X7_findUsable : xcb mX7_findUsable 0 := ⟨tw_1080, tw_88, by decide +kernel, ⟨by decide +kernel, by decide +kernel⟩, by decide +kernel, by decide⟩
theorem xb_X7_findLeast : xcb mX7_findLeast 1 := ⟨tw_1096, tw_88, by decide +kernel, ⟨by decide +kernel, by decide +kernel⟩, by decide +kernel, by decide⟩
theorem xb_X7_sizeOrNone : xcb mX7_sizeOrNone 2 := ⟨tw_1504, tw_88, by decide +kernel, ⟨by decide +kernel, by decide +kernel⟩, by decide +kernel, by decide⟩
theorem xb_X7_sizeOf : xcb mX7_sizeOf 2 := ⟨tw_1508, tw_88, by decide +kernel, ⟨by decide +kernel, by decide +kernel⟩, by decide +kernel, by decide⟩
theorem xb_X7_mayDo : xcb mX7_mayDo 2 := ⟨tw_1512, tw_88, by decide +kernel, ⟨by decide +kernel, by decide +kernel⟩, by decide +kernel, by decide⟩
theorem xb_X7_sizeWith : xcb mX7_sizeWith 3 := ⟨tw_1516, tw_88, by decide +kernel, ⟨by decide +kernel, by decide +kernel⟩, by decide +kernel, by decide⟩
theorem xb_X7_place : xcb mX7_place 4 := ⟨tw_1525, tw_88, by decide +kernel, ⟨by decide +kernel, by decide +kernel⟩, by decide +kernel, by decide⟩
theorem xb_X7_firstTestWith : xcb mX7_firstTestWith 3 := ⟨tw_1532, tw_88, by decide +kernel, ⟨by decide +kernel, by decide +kernel⟩, by decide +kernel, by decide⟩
theorem xb_X7_waysOf : xcb mX7_waysOf 2 := ⟨tw_1643, tw_88, by decide +kernel, ⟨by decide +kernel, by decide +kernel⟩, by decide +kernel, by decide⟩
theorem xb_X7_countFitting : xcb mX7_countFitting 2 := ⟨tw_1647, tw_88, by decide +kernel, ⟨by decide +kernel, by decide +kernel⟩, by decide +kernel, by decide⟩
theorem xb_X7_fewestOrNone : xcb mX7_fewestOrNone 1 := ⟨tw_1105, tw_88, by decide +kernel, ⟨by decide +kernel, by decide +kernel⟩, by decide +kernel, by decide⟩
theorem xb_X7_fewestFor : xcb mX7_fewestFor 1 := ⟨tw_1109, tw_88, by decide +kernel, ⟨by decide +kernel, by decide +kernel⟩, by decide +kernel, by decide⟩
theorem xb_X8_isNoConstant : xcb mX8_isNoConstant 1 := ⟨tw_503, tw_82, by decide +kernel, ⟨by decide +kernel, by decide +kernel⟩, by decide +kernel, by decide⟩
theorem xb_X8_mayUse : xcb mX8_mayUse 1 := ⟨tw_988, tw_82, by decide +kernel, ⟨by decide +kernel, by decide +kernel⟩, by decide +kernel, by decide⟩
theorem xb_X8_isFull : xcb mX8_isFull 0 := ⟨tw_511, tw_82, by decide +kernel, ⟨by decide +kernel, by decide +kernel⟩, by decide +kernel, by decide⟩
theorem xb_X8_hasConstant : xcb mX8_hasConstant 1 := ⟨tw_507, tw_82, by decide +kernel, ⟨by decide +kernel, by decide +kernel⟩, by decide +kernel, by decide⟩
theorem xb_X8_addConstant : xcb mX8_addConstant 1 := ⟨tw_515, tw_82, by decide +kernel, ⟨by decide +kernel, by decide +kernel⟩, by decide +kernel, by decide⟩
theorem xb_X8_offerConstant : xcb mX8_offerConstant 1 := ⟨tw_500, tw_82, by decide +kernel, ⟨by decide +kernel, by decide +kernel⟩, by decide +kernel, by decide⟩
theorem xb_X9_firstSize : xcb mX9_firstSize 0 := ⟨tw_572, tw_87, by decide +kernel, ⟨by decide +kernel, by decide +kernel⟩, by decide +kernel, by decide⟩
theorem xb_X9_makeAll : xcb mX9_makeAll 1 := ⟨tw_1021, tw_87, by decide +kernel, ⟨by decide +kernel, by decide +kernel⟩, by decide +kernel, by decide⟩
theorem xb_X9_makeCompared : xcb mX9_makeCompared 2 := ⟨tw_1025, tw_87, by decide +kernel, ⟨by decide +kernel, by decide +kernel⟩, by decide +kernel, by decide⟩
theorem xb_X9_makeNots : xcb mX9_makeNots 1 := ⟨tw_1034, tw_87, by decide +kernel, ⟨by decide +kernel, by decide +kernel⟩, by decide +kernel, by decide⟩
theorem xb_X9_makeAnds : xcb mX9_makeAnds 1 := ⟨tw_1047, tw_87, by decide +kernel, ⟨by decide +kernel, by decide +kernel⟩, by decide +kernel, by decide⟩
theorem xb_X9_reckon : xcb mX9_reckon 3 := ⟨tw_916, tw_87, by decide +kernel, ⟨by decide +kernel, by decide +kernel⟩, by decide +kernel, by decide⟩
theorem xb_X9_compared : xcb mX9_compared 3 := ⟨tw_924, tw_87, by decide +kernel, ⟨by decide +kernel, by decide +kernel⟩, by decide +kernel, by decide⟩
theorem xb_X9_saysNothing : xcb mX9_saysNothing 0 := ⟨tw_937, tw_87, by decide +kernel, ⟨by decide +kernel, by decide +kernel⟩, by decide +kernel, by decide⟩
theorem xb_X9_holder : xcb mX9_holder 0 := ⟨tw_950, tw_87, by decide +kernel, ⟨by decide +kernel, by decide +kernel⟩, by decide +kernel, by decide⟩
theorem xb_X9_settleOutputs : xcb mX9_settleOutputs 1 := ⟨tw_980, tw_87, by decide +kernel, ⟨by decide +kernel, by decide +kernel⟩, by decide +kernel, by decide⟩
theorem xb_X9_unsettleOutputs : xcb mX9_unsettleOutputs 1 := ⟨tw_538, tw_87, by decide +kernel, ⟨by decide +kernel, by decide +kernel⟩, by decide +kernel, by decide⟩
theorem xb_X9_usageOf : xcb mX9_usageOf 3 := ⟨tw_970, tw_87, by decide +kernel, ⟨by decide +kernel, by decide +kernel⟩, by decide +kernel, by decide⟩
theorem xb_X9_outputOn : xcb mX9_outputOn 2 := ⟨tw_1272, tw_87, by decide +kernel, ⟨by decide +kernel, by decide +kernel⟩, by decide +kernel, by decide⟩
theorem xb_X9_come : xcb mX9_come 4 := ⟨tw_1299, tw_87, by decide +kernel, ⟨by decide +kernel, by decide +kernel⟩, by decide +kernel, by decide⟩
theorem xb_X9_spell : xcb mX9_spell 4 := ⟨tw_1380, tw_87, by decide +kernel, ⟨by decide +kernel, by decide +kernel⟩, by decide +kernel, by decide⟩
theorem xb_X10_clear : xcb mX10_clear 0 := ⟨tw_1315, tw_91, by decide +kernel, ⟨by decide +kernel, by decide +kernel⟩, by decide +kernel, by decide⟩
theorem xb_X10_add : xcb mX10_add 1 := ⟨tw_1331, tw_91, by decide +kernel, ⟨by decide +kernel, by decide +kernel⟩, by decide +kernel, by decide⟩
theorem xb_X10_addAll : xcb mX10_addAll 1 := ⟨tw_1349, tw_91, by decide +kernel, ⟨by decide +kernel, by decide +kernel⟩, by decide +kernel, by decide⟩
theorem xb_X10_addNumber : xcb mX10_addNumber 1 := ⟨tw_1335, tw_91, by decide +kernel, ⟨by decide +kernel, by decide +kernel⟩, by decide +kernel, by decide⟩
theorem xb_X11_forgetAllMade : xcb mX11_forgetAllMade 0 := ⟨tw_519, tw_80, by decide +kernel, ⟨by decide +kernel, by decide +kernel⟩, by decide +kernel, by decide⟩
theorem xb_X11_settle : xcb mX11_settle 1 := ⟨tw_1500, tw_80, by decide +kernel, ⟨by decide +kernel, by decide +kernel⟩, by decide +kernel, by decide⟩
theorem xb_X11_growthOf : xcb mX11_growthOf 1 := ⟨tw_554, tw_80, by decide +kernel, ⟨by decide +kernel, by decide +kernel⟩, by decide +kernel, by decide⟩
theorem xb_X11_growthWith : xcb mX11_growthWith 2 := ⟨tw_1252, tw_80, by decide +kernel, ⟨by decide +kernel, by decide +kernel⟩, by decide +kernel, by decide⟩
theorem xb_X11_refuseNotKept : xcb mX11_refuseNotKept 2 := ⟨tw_1256, tw_80, by decide +kernel, ⟨by decide +kernel, by decide +kernel⟩, by decide +kernel, by decide⟩
theorem xb_X11_refuseNoExample : xcb mX11_refuseNoExample 1 := ⟨tw_1179, tw_80, by decide +kernel, ⟨by decide +kernel, by decide +kernel⟩, by decide +kernel, by decide⟩
theorem xb_X11_refuseNoExamples : xcb mX11_refuseNoExamples 0 := ⟨tw_1495, tw_80, by decide +kernel, ⟨by decide +kernel, by decide +kernel⟩, by decide +kernel, by decide⟩
theorem xb_X11_refuseNotSolved : xcb mX11_refuseNotSolved 0 := ⟨tw_1554, tw_80, by decide +kernel, ⟨by decide +kernel, by decide +kernel⟩, by decide +kernel, by decide⟩
theorem xb_X11_refuseNoInputs : xcb mX11_refuseNoInputs 3 := ⟨tw_1137, tw_80, by decide +kernel, ⟨by decide +kernel, by decide +kernel⟩, by decide +kernel, by decide⟩
theorem xb_X11_refuseNoInputNumber : xcb mX11_refuseNoInputNumber 1 := ⟨tw_1458, tw_80, by decide +kernel, ⟨by decide +kernel, by decide +kernel⟩, by decide +kernel, by decide⟩
theorem xb_X11_refuseNoPart : xcb mX11_refuseNoPart 1 := ⟨tw_1210, tw_80, by decide +kernel, ⟨by decide +kernel, by decide +kernel⟩, by decide +kernel, by decide⟩
theorem xb_X11_refuseNoIfs : xcb mX11_refuseNoIfs 1 := ⟨tw_1490, tw_80, by decide +kernel, ⟨by decide +kernel, by decide +kernel⟩, by decide +kernel, by decide⟩
theorem xb_X11_refuseEmpty : xcb mX11_refuseEmpty 1 := ⟨tw_1709, tw_80, by decide +kernel, ⟨by decide +kernel, by decide +kernel⟩, by decide +kernel, by decide⟩
theorem xb_X11_refuseStrangers : xcb mX11_refuseStrangers 1 := ⟨tw_1402, tw_80, by decide +kernel, ⟨by decide +kernel, by decide +kernel⟩, by decide +kernel, by decide⟩
theorem xb_X12_isIn : xcb mX12_isIn 3 := ⟨tw_1949, tw_92, by decide +kernel, ⟨by decide +kernel, by decide +kernel⟩, by decide +kernel, by decide⟩
theorem xb_X12_all : xcb mX12_all 0 := ⟨tw_2080, tw_92, by decide +kernel, ⟨by decide +kernel, by decide +kernel⟩, by decide +kernel, by decide⟩
theorem xb_X12_goes : xcb mX12_goes 0 := ⟨tw_1953, tw_92, by decide +kernel, ⟨by decide +kernel, by decide +kernel⟩, by decide +kernel, by decide⟩
theorem xb_X12_areInputs : xcb mX12_areInputs 3 := ⟨tw_1961, tw_92, by decide +kernel, ⟨by decide +kernel, by decide +kernel⟩, by decide +kernel, by decide⟩
theorem xb_X12_isThere : xcb mX12_isThere 3 := ⟨tw_1965, tw_92, by decide +kernel, ⟨by decide +kernel, by decide +kernel⟩, by decide +kernel, by decide⟩
theorem xb_X12_isExample : xcb mX12_isExample 1 := ⟨tw_1973, tw_92, by decide +kernel, ⟨by decide +kernel, by decide +kernel⟩, by decide +kernel, by decide⟩
theorem xb_X12_isPart : xcb mX12_isPart 1 := ⟨tw_1980, tw_92, by decide +kernel, ⟨by decide +kernel, by decide +kernel⟩, by decide +kernel, by decide⟩
theorem xb_X12_isConstant : xcb mX12_isConstant 1 := ⟨tw_1988, tw_92, by decide +kernel, ⟨by decide +kernel, by decide +kernel⟩, by decide +kernel, by decide⟩
theorem xb_X12_comesConstant : xcb mX12_comesConstant 1 := ⟨tw_1992, tw_92, by decide +kernel, ⟨by decide +kernel, by decide +kernel⟩, by decide +kernel, by decide⟩
theorem xb_X12_triesConstant : xcb mX12_triesConstant 1 := ⟨tw_2000, tw_92, by decide +kernel, ⟨by decide +kernel, by decide +kernel⟩, by decide +kernel, by decide⟩
theorem xb_X12_absolute : xcb mX12_absolute 1 := ⟨tw_2057, tw_92, by decide +kernel, ⟨by decide +kernel, by decide +kernel⟩, by decide +kernel, by decide⟩
theorem xb_X12_does : xcb mX12_does 3 := ⟨tw_2054, tw_92, by decide +kernel, ⟨by decide +kernel, by decide +kernel⟩, by decide +kernel, by decide⟩
theorem xb_X12_isOfOne : xcb mX12_isOfOne 1 := ⟨tw_2047, tw_92, by decide +kernel, ⟨by decide +kernel, by decide +kernel⟩, by decide +kernel, by decide⟩
theorem xb_X12_isAlikeRound : xcb mX12_isAlikeRound 1 := ⟨tw_2060, tw_92, by decide +kernel, ⟨by decide +kernel, by decide +kernel⟩, by decide +kernel, by decide⟩
theorem xb_X12_may : xcb mX12_may 0 := ⟨tw_2032, tw_92, by decide +kernel, ⟨by decide +kernel, by decide +kernel⟩, by decide +kernel, by decide⟩
theorem xb_X12_like : xcb mX12_like 0 := ⟨tw_2036, tw_92, by decide +kernel, ⟨by decide +kernel, by decide +kernel⟩, by decide +kernel, by decide⟩
theorem xb_X12_coverNow : xcb mX12_coverNow 0 := ⟨tw_2040, tw_92, by decide +kernel, ⟨by decide +kernel, by decide +kernel⟩, by decide +kernel, by decide⟩
theorem xb_X12_keeps : xcb mX12_keeps 4 := ⟨tw_2028, tw_92, by decide +kernel, ⟨by decide +kernel, by decide +kernel⟩, by decide +kernel, by decide⟩
theorem xb_X12_makesLeaves : xcb mX12_makesLeaves 0 := ⟨tw_2024, tw_92, by decide +kernel, ⟨by decide +kernel, by decide +kernel⟩, by decide +kernel, by decide⟩
theorem xb_X12_makesOf : xcb mX12_makesOf 4 := ⟨tw_2051, tw_92, by decide +kernel, ⟨by decide +kernel, by decide +kernel⟩, by decide +kernel, by decide⟩
theorem xb_X12_makesBy : xcb mX12_makesBy 3 := ⟨tw_2044, tw_92, by decide +kernel, ⟨by decide +kernel, by decide +kernel⟩, by decide +kernel, by decide⟩
theorem xb_X12_makesSize : xcb mX12_makesSize 1 := ⟨tw_2020, tw_92, by decide +kernel, ⟨by decide +kernel, by decide +kernel⟩, by decide +kernel, by decide⟩
theorem xb_X12_keepsTest : xcb mX12_keepsTest 5 := ⟨tw_2076, tw_92, by decide +kernel, ⟨by decide +kernel, by decide +kernel⟩, by decide +kernel, by decide⟩
theorem xb_X12_compared : xcb mX12_compared 3 := ⟨tw_2072, tw_92, by decide +kernel, ⟨by decide +kernel, by decide +kernel⟩, by decide +kernel, by decide⟩
theorem xb_X12_makesCompared : xcb mX12_makesCompared 2 := ⟨tw_2068, tw_92, by decide +kernel, ⟨by decide +kernel, by decide +kernel⟩, by decide +kernel, by decide⟩
theorem xb_X12_makesTests : xcb mX12_makesTests 1 := ⟨tw_2064, tw_92, by decide +kernel, ⟨by decide +kernel, by decide +kernel⟩, by decide +kernel, by decide⟩
theorem xb_X12_remembers : xcb mX12_remembers 1 := ⟨tw_2016, tw_92, by decide +kernel, ⟨by decide +kernel, by decide +kernel⟩, by decide +kernel, by decide⟩
theorem xb_X12_putsBack : xcb mX12_putsBack 1 := ⟨tw_2084, tw_92, by decide +kernel, ⟨by decide +kernel, by decide +kernel⟩, by decide +kernel, by decide⟩
theorem xb_X12_grows : xcb mX12_grows 1 := ⟨tw_2012, tw_92, by decide +kernel, ⟨by decide +kernel, by decide +kernel⟩, by decide +kernel, by decide⟩
theorem xb_X12_isKept : xcb mX12_isKept 2 := ⟨tw_2096, tw_92, by decide +kernel, ⟨by decide +kernel, by decide +kernel⟩, by decide +kernel, by decide⟩
theorem xb_X12_valueOf : xcb mX12_valueOf 4 := ⟨tw_2116, tw_92, by decide +kernel, ⟨by decide +kernel, by decide +kernel⟩, by decide +kernel, by decide⟩
theorem xb_X12_holdsNow : xcb mX12_holdsNow 1 := ⟨tw_2120, tw_92, by decide +kernel, ⟨by decide +kernel, by decide +kernel⟩, by decide +kernel, by decide⟩
theorem xb_X12_reckons : xcb mX12_reckons 3 := ⟨tw_2112, tw_92, by decide +kernel, ⟨by decide +kernel, by decide +kernel⟩, by decide +kernel, by decide⟩
theorem xb_X12_laysMerged : xcb mX12_laysMerged 2 := ⟨tw_2108, tw_92, by decide +kernel, ⟨by decide +kernel, by decide +kernel⟩, by decide +kernel, by decide⟩
theorem xb_X12_pushes : xcb mX12_pushes 1 := ⟨tw_2140, tw_92, by decide +kernel, ⟨by decide +kernel, by decide +kernel⟩, by decide +kernel, by decide⟩
theorem xb_X12_pushesWord : xcb mX12_pushesWord 1 := ⟨tw_2157, tw_92, by decide +kernel, ⟨by decide +kernel, by decide +kernel⟩, by decide +kernel, by decide⟩
theorem xb_X12_puts : xcb mX12_puts 1 := ⟨tw_2144, tw_92, by decide +kernel, ⟨by decide +kernel, by decide +kernel⟩, by decide +kernel, by decide⟩
theorem xb_X12_putsNumber : xcb mX12_putsNumber 1 := ⟨tw_2171, tw_92, by decide +kernel, ⟨by decide +kernel, by decide +kernel⟩, by decide +kernel, by decide⟩
theorem xb_X12_pushesTwo : xcb mX12_pushesTwo 4 := ⟨tw_2163, tw_92, by decide +kernel, ⟨by decide +kernel, by decide +kernel⟩, by decide +kernel, by decide⟩
theorem xb_X12_signOf : xcb mX12_signOf 1 := ⟨tw_2177, tw_92, by decide +kernel, ⟨by decide +kernel, by decide +kernel⟩, by decide +kernel, by decide⟩
theorem xb_X12_writesExpression : xcb mX12_writesExpression 1 := ⟨tw_2167, tw_92, by decide +kernel, ⟨by decide +kernel, by decide +kernel⟩, by decide +kernel, by decide⟩
theorem xb_X12_writesTest : xcb mX12_writesTest 1 := ⟨tw_2152, tw_92, by decide +kernel, ⟨by decide +kernel, by decide +kernel⟩, by decide +kernel, by decide⟩
theorem xb_X12_writesNode : xcb mX12_writesNode 1 := ⟨tw_2148, tw_92, by decide +kernel, ⟨by decide +kernel, by decide +kernel⟩, by decide +kernel, by decide⟩
theorem xb_X12_writes : xcb mX12_writes 1 := ⟨tw_2136, tw_92, by decide +kernel, ⟨by decide +kernel, by decide +kernel⟩, by decide +kernel, by decide⟩
theorem xb_X12_isSet : xcb mX12_isSet 1 := ⟨tw_2195, tw_92, by decide +kernel, ⟨by decide +kernel, by decide +kernel⟩, by decide +kernel, by decide⟩
theorem xb_X12_countsPart : xcb mX12_countsPart 1 := ⟨tw_2215, tw_92, by decide +kernel, ⟨by decide +kernel, by decide +kernel⟩, by decide +kernel, by decide⟩
theorem xb_X12_farOf : xcb mX12_farOf 1 := ⟨tw_2223, tw_92, by decide +kernel, ⟨by decide +kernel, by decide +kernel⟩, by decide +kernel, by decide⟩
theorem xb_X12_leafOf : xcb mX12_leafOf 1 := ⟨tw_2249, tw_92, by decide +kernel, ⟨by decide +kernel, by decide +kernel⟩, by decide +kernel, by decide⟩
theorem xb_X12_laysSet : xcb mX12_laysSet 2 := ⟨tw_2253, tw_92, by decide +kernel, ⟨by decide +kernel, by decide +kernel⟩, by decide +kernel, by decide⟩
theorem xb_X12_lays : xcb mX12_lays 2 := ⟨tw_2245, tw_92, by decide +kernel, ⟨by decide +kernel, by decide +kernel⟩, by decide +kernel, by decide⟩
theorem xb_X12_bars : xcb mX12_bars 1 := ⟨tw_2241, tw_92, by decide +kernel, ⟨by decide +kernel, by decide +kernel⟩, by decide +kernel, by decide⟩
theorem xb_X12_laysTree : xcb mX12_laysTree 2 := ⟨tw_2257, tw_92, by decide +kernel, ⟨by decide +kernel, by decide +kernel⟩, by decide +kernel, by decide⟩
theorem xb_X12_solves : xcb mX12_solves 1 := ⟨tw_2237, tw_92, by decide +kernel, ⟨by decide +kernel, by decide +kernel⟩, by decide +kernel, by decide⟩
theorem xb_X12_laysWays : xcb mX12_laysWays 2 := ⟨tw_2269, tw_92, by decide +kernel, ⟨by decide +kernel, by decide +kernel⟩, by decide +kernel, by decide⟩
theorem xb_X12_innermost : xcb mX12_innermost 1 := ⟨tw_2290, tw_92, by decide +kernel, ⟨by decide +kernel, by decide +kernel⟩, by decide +kernel, by decide⟩
theorem xb_X12_comesNow : xcb mX12_comesNow 0 := ⟨tw_2298, tw_92, by decide +kernel, ⟨by decide +kernel, by decide +kernel⟩, by decide +kernel, by decide⟩
theorem xb_J7_rangeCheck_23922 : xcb mJ7_rangeCheck_23922 3 := ⟨tw_601, tw_86, by decide +kernel, ⟨by decide +kernel, by decide +kernel⟩, by decide +kernel, by decide⟩
theorem xb_J7_fill_53178 : xcb mJ7_fill_53178 2 := ⟨tw_200, tw_86, by decide +kernel, ⟨by decide +kernel, by decide +kernel⟩, by decide +kernel, by decide⟩
theorem xb_J7_fill_fda19 : xcb mJ7_fill_fda19 4 := ⟨tw_598, tw_86, by decide +kernel, ⟨by decide +kernel, by decide +kernel⟩, by decide +kernel, by decide⟩
theorem lfg_X0_0 : xfl vcl RX0 18 false (0, 2) := ⟨_, "PartMaker$Examples", rfl, by decide, tw_133, Or.inl rfl, fun h => by cases h⟩
theorem lfg_X0_1 : xfl vcl RX0 14 false (0, 1) := ⟨_, "PartMaker$Examples", rfl, by decide, tw_130, Or.inl rfl, fun h => by cases h⟩
theorem lfg_X0_2 : xfl vcl RX0 11 false (0, 0) := ⟨_, "PartMaker$Examples", rfl, by decide, tw_127, Or.inl rfl, fun h => by cases h⟩
theorem lfp_X0_0 : xfl vcl RX0 18 true (0, 2) := ⟨_, "PartMaker$Examples", rfl, by decide, tw_133, Or.inl rfl, fun _ => rfl⟩
theorem lfg_X1_0 : xfl vcl RX1 28 false (1, 18) := ⟨_, "PartMaker$Expressions", rfl, by decide, tw_201, Or.inl rfl, fun h => by cases h⟩
theorem lfg_X1_1 : xfl vcl RX1 61 false (1, 0) := ⟨_, "PartMaker$Expressions", rfl, by decide, tw_208, Or.inr tw_209, fun h => by cases h⟩
theorem lfg_X1_2 : xfl vcl RX1 65 false (0, 1) := ⟨_, "PartMaker$Examples", rfl, by decide, tw_132, Or.inl rfl, fun h => by cases h⟩
theorem lfg_X1_3 : xfl vcl RX1 73 false (6, 1) := ⟨_, "PartMaker$Supply", rfl, by decide, tw_156, Or.inl rfl, fun h => by cases h⟩
theorem lfg_X1_4 : xfl vcl RX1 76 false (6, 0) := ⟨_, "PartMaker$Supply", rfl, by decide, tw_153, Or.inl rfl, fun h => by cases h⟩
theorem lfg_X1_5 : xfl vcl RX1 93 false (1, 9) := ⟨_, "PartMaker$Expressions", rfl, by decide, tw_249, Or.inr tw_246, fun h => by cases h⟩
theorem lfg_X1_6 : xfl vcl RX1 96 false (0, 0) := ⟨_, "PartMaker$Examples", rfl, by decide, tw_129, Or.inl rfl, fun h => by cases h⟩
theorem lfg_X1_7 : xfl vcl RX1 15 false (1, 19) := ⟨_, "PartMaker$Expressions", rfl, by decide, tw_202, Or.inl rfl, fun h => by cases h⟩
theorem lfg_X1_8 : xfl vcl RX1 100 false (0, 2) := ⟨_, "PartMaker$Examples", rfl, by decide, tw_136, Or.inl rfl, fun h => by cases h⟩
theorem lfg_X1_9 : xfl vcl RX1 19 false (1, 20) := ⟨_, "PartMaker$Expressions", rfl, by decide, tw_203, Or.inl rfl, fun h => by cases h⟩
theorem lfg_X1_10 : xfl vcl RX1 119 false (1, 23) := ⟨_, "PartMaker$Expressions", rfl, by decide, tw_206, Or.inl rfl, fun h => by cases h⟩
theorem lfg_X1_11 : xfl vcl RX1 22 false (1, 21) := ⟨_, "PartMaker$Expressions", rfl, by decide, tw_204, Or.inl rfl, fun h => by cases h⟩
theorem lfg_X1_12 : xfl vcl RX1 25 false (1, 22) := ⟨_, "PartMaker$Expressions", rfl, by decide, tw_205, Or.inl rfl, fun h => by cases h⟩
theorem lfg_X1_13 : xfl vcl RX1 130 false (1, 5) := ⟨_, "PartMaker$Expressions", rfl, by decide, tw_238, Or.inr tw_233, fun h => by cases h⟩
theorem lfg_X1_14 : xfl vcl RX1 133 false (1, 4) := ⟨_, "PartMaker$Expressions", rfl, by decide, tw_230, Or.inr tw_229, fun h => by cases h⟩
theorem lfg_X1_15 : xfl vcl RX1 137 false (2, 0) := ⟨_, "PartMaker$Forms", rfl, by decide, tw_184, Or.inl rfl, fun h => by cases h⟩
theorem lfg_X1_16 : xfl vcl RX1 142 false (2, 1) := ⟨_, "PartMaker$Forms", rfl, by decide, tw_187, Or.inl rfl, fun h => by cases h⟩
theorem lfg_X1_17 : xfl vcl RX1 145 false (1, 1) := ⟨_, "PartMaker$Expressions", rfl, by decide, tw_215, Or.inr tw_216, fun h => by cases h⟩
theorem lfg_X1_18 : xfl vcl RX1 153 false (2, 2) := ⟨_, "PartMaker$Forms", rfl, by decide, tw_190, Or.inl rfl, fun h => by cases h⟩
theorem lfp_X1_0 : xfl vcl RX1 119 true (1, 23) := ⟨_, "PartMaker$Expressions", rfl, by decide, tw_206, Or.inl rfl, fun _ => rfl⟩
theorem lfs_X1_0 : xcS MT RX1 51 1 38 := ⟨mX4_isOfOne, rfl, xb_X4_isOfOne, tw_965, tw_966⟩
theorem lfs_X1_1 : xcS MT RX1 86 1 39 := ⟨mX4_isEvenHanded, rfl, xb_X4_isEvenHanded, tw_1009, tw_1010⟩
theorem lfs_X1_2 : xcS MT RX1 109 4 256 := ⟨mJ7_fill_fda19, rfl, xb_J7_fill_fda19, tw_596, tw_597⟩
theorem lfs_X1_3 : xcS MT RX1 112 3 40 := ⟨mX4_apply, rfl, xb_X4_apply, tw_906, tw_907⟩
theorem lfs_X1_4 : xcS MT RX1 166 1 41 := ⟨mX4_opening, rfl, xb_X4_opening, tw_1337, tw_1338⟩
theorem lfv_X1_0 : xcV MT vcl RX1 38 0 (some 0) (1, 7) := ⟨mX1_makeInputs, _, rfl, rfl, xb_X1_makeInputs, tw_581, Or.inl ⟨rfl, tw_579, tw_2⟩⟩
theorem lfv_X1_1 : xcV MT vcl RX1 42 0 (some 0) (1, 8) := ⟨mX1_makeConstants, _, rfl, rfl, xb_X1_makeConstants, tw_983, Or.inl ⟨rfl, tw_981, tw_7⟩⟩
theorem lfv_X1_2 : xcV MT vcl RX1 45 1 (some 0) (6, 73) := ⟨mX8_mayUse, _, rfl, rfl, xb_X8_mayUse, tw_986, Or.inl ⟨rfl, tw_985, tw_987⟩⟩
theorem lfv_X1_3 : xcV MT vcl RX1 54 2 (some 0) (1, 9) := ⟨mX1_makeOfOne, _, rfl, rfl, xb_X1_makeOfOne, tw_991, Or.inl ⟨rfl, tw_989, tw_8⟩⟩
theorem lfv_X1_4 : xcV MT vcl RX1 58 2 (some 0) (1, 10) := ⟨mX1_makeOfTwo, _, rfl, rfl, xb_X1_makeOfTwo, tw_1007, Or.inl ⟨rfl, tw_1005, tw_9⟩⟩
theorem lfv_X1_5 : xcV MT vcl RX1 69 3 (some 1) (1, 34) := ⟨mX3_offer, _, rfl, rfl, xb_X3_offer, tw_587, Or.inr ⟨rfl, ⟨"PartMaker$Expressions", "offer", "(III)Z"⟩, "PartMaker$Growth", tw_583, tw_584, tw_586, ⟨by decide +kernel, by decide +kernel⟩, rfl, Or.inl ⟨tw_587, _, _, _, tw_588⟩⟩⟩
theorem lfv_X1_6 : xcV MT vcl RX1 79 1 (some 1) (1, 30) := ⟨mX3_begin, _, rfl, rfl, xb_X3_begin, tw_997, Or.inr ⟨rfl, ⟨"PartMaker$Expressions", "begin", "(I)I"⟩, "PartMaker$Growth", tw_993, tw_994, tw_996, ⟨by decide +kernel, by decide +kernel⟩, rfl, Or.inl ⟨tw_997, _, _, _, tw_998⟩⟩⟩
theorem lfv_X1_7 : xcV MT vcl RX1 83 1 (some 1) (1, 31) := ⟨mX3_end, _, rfl, rfl, xb_X3_end, tw_1003, Or.inr ⟨rfl, ⟨"PartMaker$Expressions", "end", "(I)I"⟩, "PartMaker$Growth", tw_999, tw_1000, tw_1002, ⟨by decide +kernel, by decide +kernel⟩, rfl, Or.inl ⟨tw_1003, _, _, _, tw_1004⟩⟩⟩
theorem lfv_X1_8 : xcV MT vcl RX1 89 4 (some 1) (1, 35) := ⟨mX3_offerEach, _, rfl, rfl, xb_X3_offerEach, tw_1016, Or.inr ⟨rfl, ⟨"PartMaker$Expressions", "offerEach", "(IIII)Z"⟩, "PartMaker$Growth", tw_1012, tw_1013, tw_1015, ⟨by decide +kernel, by decide +kernel⟩, rfl, Or.inl ⟨tw_1016, _, _, _, tw_1017⟩⟩⟩
theorem lfv_X1_9 : xcV MT vcl RX1 116 1 (some 0) (1, 12) := ⟨mX1_slotOf, _, rfl, rfl, xb_X1_slotOf, tw_911, Or.inl ⟨rfl, tw_909, tw_4⟩⟩
theorem lfv_X1_10 : xcV MT vcl RX1 123 1 (some 0) (1, 15) := ⟨mX1_comesToReckoned, _, rfl, rfl, xb_X1_comesToReckoned, tw_946, Or.inl ⟨rfl, tw_944, tw_6⟩⟩
theorem lfv_X1_11 : xcV MT vcl RX1 126 2 (some 0) (1, 19) := ⟨mX1_outputOn, _, rfl, rfl, xb_X1_outputOn, tw_926, Or.inl ⟨rfl, tw_977, tw_927⟩⟩
theorem lfv_X1_12 : xcV MT vcl RX1 149 4 (some 0) (1, 20) := ⟨mX1_come, _, rfl, rfl, xb_X1_come, tw_1294, Or.inl ⟨rfl, tw_1296, tw_2357⟩⟩
theorem lfv_X1_13 : xcV MT vcl RX1 156 1 (some 0) (8, 94) := ⟨mX10_add, _, rfl, rfl, xb_X10_add, tw_1329, Or.inl ⟨rfl, tw_1328, tw_1330⟩⟩
theorem lfv_X1_14 : xcV MT vcl RX1 162 1 (some 0) (8, 96) := ⟨mX10_addNumber, _, rfl, rfl, xb_X10_addNumber, tw_1333, Or.inl ⟨rfl, tw_1332, tw_1334⟩⟩
theorem lfv_X1_15 : xcV MT vcl RX1 170 1 (some 0) (8, 95) := ⟨mX10_addAll, _, rfl, rfl, xb_X10_addAll, tw_1347, Or.inl ⟨rfl, tw_1346, tw_1348⟩⟩
theorem lfv_X1_16 : xcV MT vcl RX1 174 4 (some 0) (1, 21) := ⟨mX1_spell, _, rfl, rfl, xb_X1_spell, tw_1326, Or.inl ⟨rfl, tw_1375, tw_2359⟩⟩
theorem lfg_X2_0 : xfl vcl RX2 7 false (2, 0) := ⟨_, "PartMaker$Forms", rfl, by decide, tw_182, Or.inl rfl, fun h => by cases h⟩
theorem lfg_X2_1 : xfl vcl RX2 13 false (2, 1) := ⟨_, "PartMaker$Forms", rfl, by decide, tw_185, Or.inl rfl, fun h => by cases h⟩
theorem lfg_X2_2 : xfl vcl RX2 16 false (2, 2) := ⟨_, "PartMaker$Forms", rfl, by decide, tw_188, Or.inl rfl, fun h => by cases h⟩
theorem lfg_X3_0 : xfl vcl RX3 20 false (1, 1) := ⟨_, "PartMaker$Growth", rfl, by decide, tw_212, Or.inl rfl, fun h => by cases h⟩
theorem lfg_X3_1 : xfl vcl RX3 20 false (7, 1) := ⟨_, "PartMaker$Growth", rfl, by decide, tw_212, Or.inl rfl, fun h => by cases h⟩
theorem lfg_X3_2 : xfl vcl RX3 24 false (1, 2) := ⟨_, "PartMaker$Growth", rfl, by decide, tw_217, Or.inl rfl, fun h => by cases h⟩
theorem lfg_X3_3 : xfl vcl RX3 24 false (7, 2) := ⟨_, "PartMaker$Growth", rfl, by decide, tw_217, Or.inl rfl, fun h => by cases h⟩
theorem lfg_X3_4 : xfl vcl RX3 31 false (1, 4) := ⟨_, "PartMaker$Growth", rfl, by decide, tw_225, Or.inl rfl, fun h => by cases h⟩
theorem lfg_X3_5 : xfl vcl RX3 31 false (7, 4) := ⟨_, "PartMaker$Growth", rfl, by decide, tw_225, Or.inl rfl, fun h => by cases h⟩
theorem lfg_X3_6 : xfl vcl RX3 44 false (1, 8) := ⟨_, "PartMaker$Growth", rfl, by decide, tw_244, Or.inl rfl, fun h => by cases h⟩
theorem lfg_X3_7 : xfl vcl RX3 44 false (7, 8) := ⟨_, "PartMaker$Growth", rfl, by decide, tw_244, Or.inl rfl, fun h => by cases h⟩
theorem lfg_X3_8 : xfl vcl RX3 9 false (1, 0) := ⟨_, "PartMaker$Growth", rfl, by decide, tw_207, Or.inl rfl, fun h => by cases h⟩
theorem lfg_X3_9 : xfl vcl RX3 9 false (7, 0) := ⟨_, "PartMaker$Growth", rfl, by decide, tw_207, Or.inl rfl, fun h => by cases h⟩
theorem lfg_X3_10 : xfl vcl RX3 85 false (0, 2) := ⟨_, "PartMaker$Examples", rfl, by decide, tw_137, Or.inl rfl, fun h => by cases h⟩
theorem lfg_X3_11 : xfl vcl RX3 75 false (1, 14) := ⟨_, "PartMaker$Growth", rfl, by decide, tw_263, Or.inl rfl, fun h => by cases h⟩
theorem lfg_X3_12 : xfl vcl RX3 75 false (7, 14) := ⟨_, "PartMaker$Growth", rfl, by decide, tw_263, Or.inl rfl, fun h => by cases h⟩
theorem lfg_X3_13 : xfl vcl RX3 72 false (1, 13) := ⟨_, "PartMaker$Growth", rfl, by decide, tw_261, Or.inl rfl, fun h => by cases h⟩
theorem lfg_X3_14 : xfl vcl RX3 72 false (7, 13) := ⟨_, "PartMaker$Growth", rfl, by decide, tw_261, Or.inl rfl, fun h => by cases h⟩
theorem lfg_X3_15 : xfl vcl RX3 90 false (1, 9) := ⟨_, "PartMaker$Growth", rfl, by decide, tw_252, Or.inl rfl, fun h => by cases h⟩
theorem lfg_X3_16 : xfl vcl RX3 90 false (7, 9) := ⟨_, "PartMaker$Growth", rfl, by decide, tw_252, Or.inl rfl, fun h => by cases h⟩
theorem lfg_X3_17 : xfl vcl RX3 62 false (1, 10) := ⟨_, "PartMaker$Growth", rfl, by decide, tw_255, Or.inl rfl, fun h => by cases h⟩
theorem lfg_X3_18 : xfl vcl RX3 62 false (7, 10) := ⟨_, "PartMaker$Growth", rfl, by decide, tw_255, Or.inl rfl, fun h => by cases h⟩
theorem lfg_X3_19 : xfl vcl RX3 66 false (1, 11) := ⟨_, "PartMaker$Growth", rfl, by decide, tw_257, Or.inl rfl, fun h => by cases h⟩
theorem lfg_X3_20 : xfl vcl RX3 66 false (7, 11) := ⟨_, "PartMaker$Growth", rfl, by decide, tw_257, Or.inl rfl, fun h => by cases h⟩
theorem lfg_X3_21 : xfl vcl RX3 69 false (1, 12) := ⟨_, "PartMaker$Growth", rfl, by decide, tw_259, Or.inl rfl, fun h => by cases h⟩
theorem lfg_X3_22 : xfl vcl RX3 69 false (7, 12) := ⟨_, "PartMaker$Growth", rfl, by decide, tw_259, Or.inl rfl, fun h => by cases h⟩
theorem lfg_X3_23 : xfl vcl RX3 38 false (1, 6) := ⟨_, "PartMaker$Growth", rfl, by decide, tw_241, Or.inl rfl, fun h => by cases h⟩
theorem lfg_X3_24 : xfl vcl RX3 38 false (7, 6) := ⟨_, "PartMaker$Growth", rfl, by decide, tw_241, Or.inl rfl, fun h => by cases h⟩
theorem lfg_X3_25 : xfl vcl RX3 41 false (1, 7) := ⟨_, "PartMaker$Growth", rfl, by decide, tw_243, Or.inl rfl, fun h => by cases h⟩
theorem lfg_X3_26 : xfl vcl RX3 41 false (7, 7) := ⟨_, "PartMaker$Growth", rfl, by decide, tw_243, Or.inl rfl, fun h => by cases h⟩
theorem lfg_X3_27 : xfl vcl RX3 103 false (1, 15) := ⟨_, "PartMaker$Growth", rfl, by decide, tw_264, Or.inl rfl, fun h => by cases h⟩
theorem lfg_X3_28 : xfl vcl RX3 103 false (7, 15) := ⟨_, "PartMaker$Growth", rfl, by decide, tw_264, Or.inl rfl, fun h => by cases h⟩
theorem lfg_X3_29 : xfl vcl RX3 109 false (1, 17) := ⟨_, "PartMaker$Growth", rfl, by decide, tw_266, Or.inl rfl, fun h => by cases h⟩
theorem lfg_X3_30 : xfl vcl RX3 109 false (7, 17) := ⟨_, "PartMaker$Growth", rfl, by decide, tw_266, Or.inl rfl, fun h => by cases h⟩
theorem lfg_X3_31 : xfl vcl RX3 106 false (1, 16) := ⟨_, "PartMaker$Growth", rfl, by decide, tw_265, Or.inl rfl, fun h => by cases h⟩
theorem lfg_X3_32 : xfl vcl RX3 106 false (7, 16) := ⟨_, "PartMaker$Growth", rfl, by decide, tw_265, Or.inl rfl, fun h => by cases h⟩
theorem lfg_X3_33 : xfl vcl RX3 27 false (1, 3) := ⟨_, "PartMaker$Growth", rfl, by decide, tw_218, Or.inl rfl, fun h => by cases h⟩
theorem lfg_X3_34 : xfl vcl RX3 27 false (7, 3) := ⟨_, "PartMaker$Growth", rfl, by decide, tw_218, Or.inl rfl, fun h => by cases h⟩
theorem lfp_X3_0 : xfl vcl RX3 62 true (1, 10) := ⟨_, "PartMaker$Growth", rfl, by decide, tw_255, Or.inl rfl, fun _ => rfl⟩
theorem lfp_X3_1 : xfl vcl RX3 62 true (7, 10) := ⟨_, "PartMaker$Growth", rfl, by decide, tw_255, Or.inl rfl, fun _ => rfl⟩
theorem lfp_X3_2 : xfl vcl RX3 66 true (1, 11) := ⟨_, "PartMaker$Growth", rfl, by decide, tw_257, Or.inl rfl, fun _ => rfl⟩
theorem lfp_X3_3 : xfl vcl RX3 66 true (7, 11) := ⟨_, "PartMaker$Growth", rfl, by decide, tw_257, Or.inl rfl, fun _ => rfl⟩
theorem lfp_X3_4 : xfl vcl RX3 69 true (1, 12) := ⟨_, "PartMaker$Growth", rfl, by decide, tw_259, Or.inl rfl, fun _ => rfl⟩
theorem lfp_X3_5 : xfl vcl RX3 69 true (7, 12) := ⟨_, "PartMaker$Growth", rfl, by decide, tw_259, Or.inl rfl, fun _ => rfl⟩
theorem lfp_X3_6 : xfl vcl RX3 72 true (1, 13) := ⟨_, "PartMaker$Growth", rfl, by decide, tw_261, Or.inl rfl, fun _ => rfl⟩
theorem lfp_X3_7 : xfl vcl RX3 72 true (7, 13) := ⟨_, "PartMaker$Growth", rfl, by decide, tw_261, Or.inl rfl, fun _ => rfl⟩
theorem lfp_X3_8 : xfl vcl RX3 75 true (1, 14) := ⟨_, "PartMaker$Growth", rfl, by decide, tw_263, Or.inl rfl, fun _ => rfl⟩
theorem lfp_X3_9 : xfl vcl RX3 75 true (7, 14) := ⟨_, "PartMaker$Growth", rfl, by decide, tw_263, Or.inl rfl, fun _ => rfl⟩
theorem lfp_X3_10 : xfl vcl RX3 103 true (1, 15) := ⟨_, "PartMaker$Growth", rfl, by decide, tw_264, Or.inl rfl, fun _ => rfl⟩
theorem lfp_X3_11 : xfl vcl RX3 103 true (7, 15) := ⟨_, "PartMaker$Growth", rfl, by decide, tw_264, Or.inl rfl, fun _ => rfl⟩
theorem lfp_X3_12 : xfl vcl RX3 106 true (1, 16) := ⟨_, "PartMaker$Growth", rfl, by decide, tw_265, Or.inl rfl, fun _ => rfl⟩
theorem lfp_X3_13 : xfl vcl RX3 106 true (7, 16) := ⟨_, "PartMaker$Growth", rfl, by decide, tw_265, Or.inl rfl, fun _ => rfl⟩
theorem lfp_X3_14 : xfl vcl RX3 109 true (1, 17) := ⟨_, "PartMaker$Growth", rfl, by decide, tw_266, Or.inl rfl, fun _ => rfl⟩
theorem lfp_X3_15 : xfl vcl RX3 109 true (7, 17) := ⟨_, "PartMaker$Growth", rfl, by decide, tw_266, Or.inl rfl, fun _ => rfl⟩
theorem lfp_X3_16 : xfl vcl RX3 90 true (1, 9) := ⟨_, "PartMaker$Growth", rfl, by decide, tw_252, Or.inl rfl, fun _ => rfl⟩
theorem lfp_X3_17 : xfl vcl RX3 90 true (7, 9) := ⟨_, "PartMaker$Growth", rfl, by decide, tw_252, Or.inl rfl, fun _ => rfl⟩
theorem lfs_X3_0 : xcS MT RX3 79 2 255 := ⟨mJ7_fill_53178, rfl, xb_J7_fill_53178, tw_539, tw_199⟩
theorem lfs_X3_1 : xcS MT RX3 116 4 256 := ⟨mJ7_fill_fda19, rfl, xb_J7_fill_fda19, tw_1048, tw_597⟩
theorem lfv_X3_0 : xcV MT vcl RX3 47 4 (some 1) (1, 20) := ⟨mX1_come, _, rfl, rfl, xb_X1_come, tw_1294, Or.inr ⟨rfl, ⟨"PartMaker$Growth", "come", "(LPartMaker$Forms;I[II)I"⟩, "PartMaker$Growth", tw_1290, tw_1292, tw_1293, ⟨by decide +kernel, by decide +kernel⟩, rfl, Or.inr (List.mem_of_getElem? (i := 1291) (by decide +kernel))⟩⟩
theorem lfv_X3_1 : xcV MT vcl RX3 47 4 (some 1) (7, 91) := ⟨mX9_come, _, rfl, rfl, xb_X9_come, tw_1298, Or.inr ⟨rfl, ⟨"PartMaker$Growth", "come", "(LPartMaker$Forms;I[II)I"⟩, "PartMaker$Growth", tw_1290, tw_1292, tw_1297, ⟨by decide +kernel, by decide +kernel⟩, rfl, Or.inr (List.mem_of_getElem? (i := 1291) (by decide +kernel))⟩⟩
theorem lfv_X3_2 : xcV MT vcl RX3 51 4 (some 1) (1, 21) := ⟨mX1_spell, _, rfl, rfl, xb_X1_spell, tw_1326, Or.inr ⟨rfl, ⟨"PartMaker$Growth", "spell", "(LPartMaker$Text;LPartMaker$Forms;II)V"⟩, "PartMaker$Growth", tw_1322, tw_1324, tw_1325, ⟨by decide +kernel, by decide +kernel⟩, rfl, Or.inr (List.mem_of_getElem? (i := 1323) (by decide +kernel))⟩⟩
theorem lfv_X3_3 : xcV MT vcl RX3 51 4 (some 1) (7, 92) := ⟨mX9_spell, _, rfl, rfl, xb_X9_spell, tw_1379, Or.inr ⟨rfl, ⟨"PartMaker$Growth", "spell", "(LPartMaker$Text;LPartMaker$Forms;II)V"⟩, "PartMaker$Growth", tw_1322, tw_1324, tw_1378, ⟨by decide +kernel, by decide +kernel⟩, rfl, Or.inr (List.mem_of_getElem? (i := 1323) (by decide +kernel))⟩⟩
theorem lfv_X3_4 : xcV MT vcl RX3 55 2 (some 1) (1, 28) := ⟨mX3_partsIn, _, rfl, rfl, xb_X3_partsIn, tw_1088, Or.inr ⟨rfl, ⟨"PartMaker$Growth", "partsIn", "(II)I"⟩, "PartMaker$Growth", tw_1087, tw_1089, tw_1090, ⟨by decide +kernel, by decide +kernel⟩, rfl, Or.inl ⟨tw_1088, _, _, _, tw_1092⟩⟩⟩
theorem lfv_X3_5 : xcV MT vcl RX3 55 2 (some 1) (7, 28) := ⟨mX3_partsIn, _, rfl, rfl, xb_X3_partsIn, tw_1088, Or.inr ⟨rfl, ⟨"PartMaker$Growth", "partsIn", "(II)I"⟩, "PartMaker$Growth", tw_1087, tw_1089, tw_1091, ⟨by decide +kernel, by decide +kernel⟩, rfl, Or.inl ⟨tw_1088, _, _, _, tw_1092⟩⟩⟩
theorem lfv_X3_6 : xcV MT vcl RX3 59 1 (some 1) (1, 37) := ⟨mX3_unsettleBehind, _, rfl, rfl, xb_X3_unsettleBehind, tw_528, Or.inr ⟨rfl, ⟨"PartMaker$Growth", "unsettleBehind", "(I)V"⟩, "PartMaker$Growth", tw_526, tw_2343, tp_2, ⟨by decide +kernel, by decide +kernel⟩, rfl, Or.inl ⟨tw_528, _, _, _, tw_529⟩⟩⟩
theorem lfv_X3_7 : xcV MT vcl RX3 59 1 (some 1) (7, 37) := ⟨mX3_unsettleBehind, _, rfl, rfl, xb_X3_unsettleBehind, tw_528, Or.inr ⟨rfl, ⟨"PartMaker$Growth", "unsettleBehind", "(I)V"⟩, "PartMaker$Growth", tw_526, tw_2343, tp_3, ⟨by decide +kernel, by decide +kernel⟩, rfl, Or.inl ⟨tw_528, _, _, _, tw_529⟩⟩⟩
theorem lfv_X3_8 : xcV MT vcl RX3 99 0 (some 1) (1, 5) := ⟨mX1_firstSize, _, rfl, rfl, xb_X1_firstSize, tw_568, Or.inr ⟨rfl, ⟨"PartMaker$Growth", "firstSize", "()I"⟩, "PartMaker$Growth", tw_564, tw_566, tw_567, ⟨by decide +kernel, by decide +kernel⟩, rfl, Or.inr (List.mem_of_getElem? (i := 565) (by decide +kernel))⟩⟩
theorem lfv_X3_9 : xcV MT vcl RX3 99 0 (some 1) (7, 78) := ⟨mX9_firstSize, _, rfl, rfl, xb_X9_firstSize, tw_571, Or.inr ⟨rfl, ⟨"PartMaker$Growth", "firstSize", "()I"⟩, "PartMaker$Growth", tw_564, tw_566, tw_570, ⟨by decide +kernel, by decide +kernel⟩, rfl, Or.inr (List.mem_of_getElem? (i := 565) (by decide +kernel))⟩⟩
theorem lfv_X3_10 : xcV MT vcl RX3 112 1 (some 1) (1, 6) := ⟨mX1_makeAll, _, rfl, rfl, xb_X1_makeAll, tw_577, Or.inr ⟨rfl, ⟨"PartMaker$Growth", "makeAll", "(I)Z"⟩, "PartMaker$Growth", tw_573, tw_575, tw_576, ⟨by decide +kernel, by decide +kernel⟩, rfl, Or.inr (List.mem_of_getElem? (i := 574) (by decide +kernel))⟩⟩
theorem lfv_X3_11 : xcV MT vcl RX3 112 1 (some 1) (7, 79) := ⟨mX9_makeAll, _, rfl, rfl, xb_X9_makeAll, tw_1020, Or.inr ⟨rfl, ⟨"PartMaker$Growth", "makeAll", "(I)Z"⟩, "PartMaker$Growth", tw_573, tw_575, tw_1019, ⟨by decide +kernel, by decide +kernel⟩, rfl, Or.inr (List.mem_of_getElem? (i := 574) (by decide +kernel))⟩⟩
theorem lfv_X3_12 : xcV MT vcl RX3 119 3 (some 1) (1, 11) := ⟨mX1_reckon, _, rfl, rfl, xb_X1_reckon, tw_593, Or.inr ⟨rfl, ⟨"PartMaker$Growth", "reckon", "(III)V"⟩, "PartMaker$Growth", tw_589, tw_591, tw_592, ⟨by decide +kernel, by decide +kernel⟩, rfl, Or.inr (List.mem_of_getElem? (i := 590) (by decide +kernel))⟩⟩
theorem lfv_X3_13 : xcV MT vcl RX3 119 3 (some 1) (7, 83) := ⟨mX9_reckon, _, rfl, rfl, xb_X9_reckon, tw_915, Or.inr ⟨rfl, ⟨"PartMaker$Growth", "reckon", "(III)V"⟩, "PartMaker$Growth", tw_589, tw_591, tw_914, ⟨by decide +kernel, by decide +kernel⟩, rfl, Or.inr (List.mem_of_getElem? (i := 590) (by decide +kernel))⟩⟩
theorem lfv_X3_14 : xcV MT vcl RX3 123 0 (some 1) (1, 13) := ⟨mX1_saysNothing, _, rfl, rfl, xb_X1_saysNothing, tw_933, Or.inr ⟨rfl, ⟨"PartMaker$Growth", "saysNothing", "()Z"⟩, "PartMaker$Growth", tw_929, tw_931, tw_932, ⟨by decide +kernel, by decide +kernel⟩, rfl, Or.inr (List.mem_of_getElem? (i := 930) (by decide +kernel))⟩⟩
theorem lfv_X3_15 : xcV MT vcl RX3 123 0 (some 1) (7, 85) := ⟨mX9_saysNothing, _, rfl, rfl, xb_X9_saysNothing, tw_936, Or.inr ⟨rfl, ⟨"PartMaker$Growth", "saysNothing", "()Z"⟩, "PartMaker$Growth", tw_929, tw_931, tw_935, ⟨by decide +kernel, by decide +kernel⟩, rfl, Or.inr (List.mem_of_getElem? (i := 930) (by decide +kernel))⟩⟩
theorem lfv_X3_16 : xcV MT vcl RX3 127 0 (some 1) (1, 14) := ⟨mX1_holder, _, rfl, rfl, xb_X1_holder, tw_942, Or.inr ⟨rfl, ⟨"PartMaker$Growth", "holder", "()I"⟩, "PartMaker$Growth", tw_938, tw_940, tw_941, ⟨by decide +kernel, by decide +kernel⟩, rfl, Or.inr (List.mem_of_getElem? (i := 939) (by decide +kernel))⟩⟩
theorem lfv_X3_17 : xcV MT vcl RX3 127 0 (some 1) (7, 86) := ⟨mX9_holder, _, rfl, rfl, xb_X9_holder, tw_949, Or.inr ⟨rfl, ⟨"PartMaker$Growth", "holder", "()I"⟩, "PartMaker$Growth", tw_938, tw_940, tw_948, ⟨by decide +kernel, by decide +kernel⟩, rfl, Or.inr (List.mem_of_getElem? (i := 939) (by decide +kernel))⟩⟩
theorem lfv_X3_18 : xcV MT vcl RX3 130 4 (some 1) (1, 36) := ⟨mX3_merge, _, rfl, rfl, xb_X3_merge, tw_953, Or.inr ⟨rfl, ⟨"PartMaker$Growth", "merge", "(IIII)V"⟩, "PartMaker$Growth", tw_951, tw_2353, tp_0, ⟨by decide +kernel, by decide +kernel⟩, rfl, Or.inl ⟨tw_953, _, _, _, tw_954⟩⟩⟩
theorem lfv_X3_19 : xcV MT vcl RX3 130 4 (some 1) (7, 36) := ⟨mX3_merge, _, rfl, rfl, xb_X3_merge, tw_953, Or.inr ⟨rfl, ⟨"PartMaker$Growth", "merge", "(IIII)V"⟩, "PartMaker$Growth", tw_951, tw_2353, tp_1, ⟨by decide +kernel, by decide +kernel⟩, rfl, Or.inl ⟨tw_953, _, _, _, tw_954⟩⟩⟩
theorem lfv_X3_20 : xcV MT vcl RX3 134 4 (some 0) (2, 23) := ⟨mX2_put, _, rfl, rfl, xb_X2_put, tw_956, Or.inl ⟨rfl, tw_955, tw_957⟩⟩
theorem lfv_X3_21 : xcV MT vcl RX3 137 3 (some 1) (1, 18) := ⟨mX1_usageOf, _, rfl, rfl, xb_X1_usageOf, tw_963, Or.inr ⟨rfl, ⟨"PartMaker$Growth", "usageOf", "(III)J"⟩, "PartMaker$Growth", tw_959, tw_961, tw_962, ⟨by decide +kernel, by decide +kernel⟩, rfl, Or.inr (List.mem_of_getElem? (i := 960) (by decide +kernel))⟩⟩
theorem lfv_X3_22 : xcV MT vcl RX3 137 3 (some 1) (7, 89) := ⟨mX9_usageOf, _, rfl, rfl, xb_X9_usageOf, tw_969, Or.inr ⟨rfl, ⟨"PartMaker$Growth", "usageOf", "(III)J"⟩, "PartMaker$Growth", tw_959, tw_961, tw_968, ⟨by decide +kernel, by decide +kernel⟩, rfl, Or.inr (List.mem_of_getElem? (i := 960) (by decide +kernel))⟩⟩
theorem lfv_X3_23 : xcV MT vcl RX3 141 1 (some 1) (1, 16) := ⟨mX1_settleOutputs, _, rfl, rfl, xb_X1_settleOutputs, tw_975, Or.inr ⟨rfl, ⟨"PartMaker$Growth", "settleOutputs", "(I)V"⟩, "PartMaker$Growth", tw_971, tw_973, tw_974, ⟨by decide +kernel, by decide +kernel⟩, rfl, Or.inr (List.mem_of_getElem? (i := 972) (by decide +kernel))⟩⟩
theorem lfv_X3_24 : xcV MT vcl RX3 141 1 (some 1) (7, 87) := ⟨mX9_settleOutputs, _, rfl, rfl, xb_X9_settleOutputs, tw_979, Or.inr ⟨rfl, ⟨"PartMaker$Growth", "settleOutputs", "(I)V"⟩, "PartMaker$Growth", tw_971, tw_973, tw_978, ⟨by decide +kernel, by decide +kernel⟩, rfl, Or.inr (List.mem_of_getElem? (i := 972) (by decide +kernel))⟩⟩
theorem lfv_X3_25 : xcV MT vcl RX3 144 3 (some 1) (1, 34) := ⟨mX3_offer, _, rfl, rfl, xb_X3_offer, tw_587, Or.inr ⟨rfl, ⟨"PartMaker$Growth", "offer", "(III)Z"⟩, "PartMaker$Growth", tw_1018, tw_2354, tw_2355, ⟨by decide +kernel, by decide +kernel⟩, rfl, Or.inl ⟨tw_587, _, _, _, tw_588⟩⟩⟩
theorem lfv_X3_26 : xcV MT vcl RX3 144 3 (some 1) (7, 34) := ⟨mX3_offer, _, rfl, rfl, xb_X3_offer, tw_587, Or.inr ⟨rfl, ⟨"PartMaker$Growth", "offer", "(III)Z"⟩, "PartMaker$Growth", tw_1018, tw_2354, tw_2356, ⟨by decide +kernel, by decide +kernel⟩, rfl, Or.inl ⟨tw_587, _, _, _, tw_588⟩⟩⟩
theorem lfv_X3_27 : xcV MT vcl RX3 148 1 (some 1) (1, 17) := ⟨mX1_unsettleOutputs, _, rfl, rfl, xb_X1_unsettleOutputs, tw_534, Or.inr ⟨rfl, ⟨"PartMaker$Growth", "unsettleOutputs", "(I)V"⟩, "PartMaker$Growth", tw_530, tw_532, tw_533, ⟨by decide +kernel, by decide +kernel⟩, rfl, Or.inr (List.mem_of_getElem? (i := 531) (by decide +kernel))⟩⟩
theorem lfv_X3_28 : xcV MT vcl RX3 148 1 (some 1) (7, 88) := ⟨mX9_unsettleOutputs, _, rfl, rfl, xb_X9_unsettleOutputs, tw_537, Or.inr ⟨rfl, ⟨"PartMaker$Growth", "unsettleOutputs", "(I)V"⟩, "PartMaker$Growth", tw_530, tw_532, tw_536, ⟨by decide +kernel, by decide +kernel⟩, rfl, Or.inr (List.mem_of_getElem? (i := 531) (by decide +kernel))⟩⟩
theorem lfg_X5_0 : xfl vcl RX5 9 false (3, 0) := ⟨_, "PartMaker$Point", rfl, by decide, tw_441, Or.inl rfl, fun h => by cases h⟩
theorem lfg_X6_0 : xfl vcl RX6 11 false (4, 2) := ⟨_, "PartMaker$Program", rfl, by decide, tw_411, Or.inl rfl, fun h => by cases h⟩
theorem lfg_X6_1 : xfl vcl RX6 15 false (4, 3) := ⟨_, "PartMaker$Program", rfl, by decide, tw_414, Or.inl rfl, fun h => by cases h⟩
theorem lfg_X6_2 : xfl vcl RX6 22 false (4, 1) := ⟨_, "PartMaker$Program", rfl, by decide, tw_410, Or.inl rfl, fun h => by cases h⟩
theorem lfg_X6_3 : xfl vcl RX6 18 false (4, 0) := ⟨_, "PartMaker$Program", rfl, by decide, tw_409, Or.inl rfl, fun h => by cases h⟩
theorem lfs_X6_0 : xcS MT RX6 26 2 255 := ⟨mJ7_fill_53178, rfl, xb_J7_fill_53178, tw_1521, tw_199⟩
theorem lfs_X6_1 : xcS MT RX6 42 2 45 := ⟨mX6_nodeBehind, rfl, xb_X6_nodeBehind, tw_1586, tw_1534⟩
theorem lfs_X6_2 : xcS MT RX6 57 1 46 := ⟨mX6_mayAsk, rfl, xb_X6_mayAsk, tw_1599, tw_1527⟩
theorem lfv_X6_0 : xcV MT vcl RX6 32 1 (some 0) (4, 52) := ⟨mX6_standsAhead, _, rfl, rfl, xb_X6_standsAhead, tw_1570, Or.inl ⟨rfl, tw_1568, tw_28⟩⟩
theorem lfv_X6_1 : xcV MT vcl RX6 36 2 (some 1) (7, 24) := ⟨mX3_comesTo, _, rfl, rfl, xb_X3_comesTo, tw_1285, Or.inr ⟨rfl, ⟨"PartMaker$Tests", "comesTo", "(I[I)I"⟩, "PartMaker$Growth", tw_1583, tw_1584, tw_1585, ⟨by decide +kernel, by decide +kernel⟩, rfl, Or.inl ⟨tw_1285, _, _, _, tw_1289⟩⟩⟩
theorem lfv_X6_2 : xcV MT vcl RX6 46 2 (some 1) (1, 24) := ⟨mX3_comesTo, _, rfl, rfl, xb_X3_comesTo, tw_1285, Or.inr ⟨rfl, ⟨"PartMaker$Expressions", "comesTo", "(I[I)I"⟩, "PartMaker$Growth", tw_1587, tw_1301, tw_1303, ⟨by decide +kernel, by decide +kernel⟩, rfl, Or.inl ⟨tw_1285, _, _, _, tw_1289⟩⟩⟩
theorem lfv_X6_3 : xcV MT vcl RX6 49 2 (some 0) (7, 90) := ⟨mX9_outputOn, _, rfl, rfl, xb_X9_outputOn, tw_1271, Or.inl ⟨rfl, tw_1617, tw_2363⟩⟩
theorem lfv_X6_4 : xcV MT vcl RX6 53 2 (some 1) (7, 28) := ⟨mX3_partsIn, _, rfl, rfl, xb_X3_partsIn, tw_1088, Or.inr ⟨rfl, ⟨"PartMaker$Tests", "partsIn", "(II)I"⟩, "PartMaker$Growth", tw_1671, tw_1672, tw_1674, ⟨by decide +kernel, by decide +kernel⟩, rfl, Or.inl ⟨tw_1088, _, _, _, tw_1092⟩⟩⟩
theorem lfv_X6_5 : xcV MT vcl RX6 56 2 (some 1) (1, 28) := ⟨mX3_partsIn, _, rfl, rfl, xb_X3_partsIn, tw_1088, Or.inr ⟨rfl, ⟨"PartMaker$Expressions", "partsIn", "(II)I"⟩, "PartMaker$Growth", tw_1675, tw_1676, tw_1677, ⟨by decide +kernel, by decide +kernel⟩, rfl, Or.inl ⟨tw_1088, _, _, _, tw_1092⟩⟩⟩
theorem lfv_X6_6 : xcV MT vcl RX6 60 2 (some 1) (1, 26) := ⟨mX3_spellKept, _, rfl, rfl, xb_X3_spellKept, tw_1317, Or.inr ⟨rfl, ⟨"PartMaker$Expressions", "spellKept", "(LPartMaker$Text;I)V"⟩, "PartMaker$Growth", tw_1600, tw_1385, tw_1387, ⟨by decide +kernel, by decide +kernel⟩, rfl, Or.inl ⟨tw_1317, _, _, _, tw_1321⟩⟩⟩
theorem lfv_X6_7 : xcV MT vcl RX6 64 1 (some 0) (8, 94) := ⟨mX10_add, _, rfl, rfl, xb_X10_add, tw_1329, Or.inl ⟨rfl, tw_1601, tw_1330⟩⟩
theorem lfv_X6_8 : xcV MT vcl RX6 70 2 (some 1) (7, 26) := ⟨mX3_spellKept, _, rfl, rfl, xb_X3_spellKept, tw_1317, Or.inr ⟨rfl, ⟨"PartMaker$Tests", "spellKept", "(LPartMaker$Text;I)V"⟩, "PartMaker$Growth", tw_1602, tw_1603, tw_1604, ⟨by decide +kernel, by decide +kernel⟩, rfl, Or.inl ⟨tw_1317, _, _, _, tw_1321⟩⟩⟩
theorem lfv_X6_9 : xcV MT vcl RX6 71 2 (some 0) (4, 57) := ⟨mX6_spellFrom, _, rfl, rfl, xb_X6_spellFrom, tw_1596, Or.inl ⟨rfl, tw_1605, tw_1597⟩⟩
theorem lfg_X7_0 : xfl vcl RX7 51 false (5, 11) := ⟨_, "PartMaker$Solver", rfl, by decide, tw_371, Or.inl rfl, fun h => by cases h⟩
theorem lfg_X7_1 : xfl vcl RX7 39 false (5, 1) := ⟨_, "PartMaker$Solver", rfl, by decide, tw_361, Or.inl rfl, fun h => by cases h⟩
theorem lfg_X7_2 : xfl vcl RX7 55 false (1, 9) := ⟨_, "PartMaker$Expressions", rfl, by decide, tw_245, Or.inr tw_246, fun h => by cases h⟩
theorem lfg_X7_3 : xfl vcl RX7 58 false (5, 12) := ⟨_, "PartMaker$Solver", rfl, by decide, tw_372, Or.inl rfl, fun h => by cases h⟩
theorem lfg_X7_4 : xfl vcl RX7 43 false (5, 2) := ⟨_, "PartMaker$Solver", rfl, by decide, tw_362, Or.inl rfl, fun h => by cases h⟩
theorem lfg_X7_5 : xfl vcl RX7 61 false (7, 9) := ⟨_, "PartMaker$Tests", rfl, by decide, tw_247, Or.inr tw_248, fun h => by cases h⟩
theorem lfg_X7_6 : xfl vcl RX7 47 false (5, 13) := ⟨_, "PartMaker$Solver", rfl, by decide, tw_373, Or.inl rfl, fun h => by cases h⟩
theorem lfg_X7_7 : xfl vcl RX7 62 false (5, 10) := ⟨_, "PartMaker$Solver", rfl, by decide, tw_370, Or.inl rfl, fun h => by cases h⟩
theorem lfg_X7_8 : xfl vcl RX7 35 false (5, 0) := ⟨_, "PartMaker$Solver", rfl, by decide, tw_360, Or.inl rfl, fun h => by cases h⟩
theorem lfg_X7_9 : xfl vcl RX7 21 false (5, 4) := ⟨_, "PartMaker$Solver", rfl, by decide, tw_364, Or.inl rfl, fun h => by cases h⟩
theorem lfg_X7_10 : xfl vcl RX7 24 false (5, 5) := ⟨_, "PartMaker$Solver", rfl, by decide, tw_365, Or.inl rfl, fun h => by cases h⟩
theorem lfg_X7_11 : xfl vcl RX7 27 false (5, 6) := ⟨_, "PartMaker$Solver", rfl, by decide, tw_366, Or.inl rfl, fun h => by cases h⟩
theorem lfg_X7_12 : xfl vcl RX7 13 false (5, 3) := ⟨_, "PartMaker$Solver", rfl, by decide, tw_363, Or.inl rfl, fun h => by cases h⟩
theorem lfg_X7_13 : xfl vcl RX7 83 false (1, 3) := ⟨_, "PartMaker$Expressions", rfl, by decide, tw_219, Or.inr tw_220, fun h => by cases h⟩
theorem lfg_X7_14 : xfl vcl RX7 32 false (5, 7) := ⟨_, "PartMaker$Solver", rfl, by decide, tw_367, Or.inl rfl, fun h => by cases h⟩
theorem lfg_X7_15 : xfl vcl RX7 85 false (5, 8) := ⟨_, "PartMaker$Solver", rfl, by decide, tw_368, Or.inl rfl, fun h => by cases h⟩
theorem lfg_X7_16 : xfl vcl RX7 96 false (1, 5) := ⟨_, "PartMaker$Expressions", rfl, by decide, tw_232, Or.inr tw_233, fun h => by cases h⟩
theorem lfg_X7_17 : xfl vcl RX7 92 false (5, 9) := ⟨_, "PartMaker$Solver", rfl, by decide, tw_369, Or.inl rfl, fun h => by cases h⟩
theorem lfg_X7_18 : xfl vcl RX7 110 false (7, 3) := ⟨_, "PartMaker$Tests", rfl, by decide, tw_221, Or.inr tw_222, fun h => by cases h⟩
theorem lfg_X7_19 : xfl vcl RX7 111 false (7, 5) := ⟨_, "PartMaker$Tests", rfl, by decide, tw_236, Or.inr tw_235, fun h => by cases h⟩
theorem lfg_X7_20 : xfl vcl RX7 121 false (4, 2) := ⟨_, "PartMaker$Program", rfl, by decide, tw_412, Or.inl rfl, fun h => by cases h⟩
theorem lfg_X7_21 : xfl vcl RX7 124 false (4, 3) := ⟨_, "PartMaker$Program", rfl, by decide, tw_415, Or.inl rfl, fun h => by cases h⟩
theorem lfp_X7_0 : xfl vcl RX7 47 true (5, 13) := ⟨_, "PartMaker$Solver", rfl, by decide, tw_373, Or.inl rfl, fun _ => rfl⟩
theorem lfp_X7_1 : xfl vcl RX7 62 true (5, 10) := ⟨_, "PartMaker$Solver", rfl, by decide, tw_370, Or.inl rfl, fun _ => rfl⟩
theorem lfp_X7_2 : xfl vcl RX7 51 true (5, 11) := ⟨_, "PartMaker$Solver", rfl, by decide, tw_371, Or.inl rfl, fun _ => rfl⟩
theorem lfp_X7_3 : xfl vcl RX7 58 true (5, 12) := ⟨_, "PartMaker$Solver", rfl, by decide, tw_372, Or.inl rfl, fun _ => rfl⟩
theorem lfp_X7_4 : xfl vcl RX7 85 true (5, 8) := ⟨_, "PartMaker$Solver", rfl, by decide, tw_368, Or.inl rfl, fun _ => rfl⟩
theorem lfp_X7_5 : xfl vcl RX7 92 true (5, 9) := ⟨_, "PartMaker$Solver", rfl, by decide, tw_369, Or.inl rfl, fun _ => rfl⟩
theorem lfs_X7_0 : xcS MT RX7 69 4 256 := ⟨mJ7_fill_fda19, rfl, xb_J7_fill_fda19, tw_1076, tw_597⟩
theorem lfs_X7_1 : xcS MT RX7 112 1 46 := ⟨mX6_mayAsk, rfl, xb_X6_mayAsk, tw_1526, tw_1527⟩
theorem lfs_X7_2 : xcS MT RX7 127 2 45 := ⟨mX6_nodeBehind, rfl, xb_X6_nodeBehind, tw_1533, tw_1534⟩
theorem lfv_X7_0 : xcV MT vcl RX7 65 0 (some 0) (0, 0) := ⟨mX0_all, _, rfl, rfl, xb_X0_all, tw_918, Or.inl ⟨rfl, tw_1075, tw_919⟩⟩
theorem lfv_X7_1 : xcV MT vcl RX7 75 0 (some 0) (5, 60) := ⟨mX7_findUsable, _, rfl, rfl, xb_X7_findUsable, tw_1079, Or.inl ⟨rfl, tw_1077, tw_13⟩⟩
theorem lfv_X7_2 : xcV MT vcl RX7 78 1 (some 0) (5, 61) := ⟨mX7_findLeast, _, rfl, rfl, xb_X7_findLeast, tw_1095, Or.inl ⟨rfl, tw_1093, tw_14⟩⟩
theorem lfv_X7_3 : xcV MT vcl RX7 88 2 (some 1) (7, 29) := ⟨mX3_lacks, _, rfl, rfl, xb_X3_lacks, tw_1085, Or.inr ⟨rfl, ⟨"PartMaker$Tests", "lacks", "(II)Z"⟩, "PartMaker$Growth", tw_1081, tw_1082, tw_1084, ⟨by decide +kernel, by decide +kernel⟩, rfl, Or.inl ⟨tw_1085, _, _, _, tw_1086⟩⟩⟩
theorem lfv_X7_4 : xcV MT vcl RX7 95 2 (some 1) (1, 29) := ⟨mX3_lacks, _, rfl, rfl, xb_X3_lacks, tw_1085, Or.inr ⟨rfl, ⟨"PartMaker$Expressions", "lacks", "(II)Z"⟩, "PartMaker$Growth", tw_1097, tw_1098, tw_1099, ⟨by decide +kernel, by decide +kernel⟩, rfl, Or.inl ⟨tw_1085, _, _, _, tw_1086⟩⟩⟩
theorem lfv_X7_5 : xcV MT vcl RX7 99 2 (some 0) (5, 63) := ⟨mX7_sizeOf, _, rfl, rfl, xb_X7_sizeOf, tw_1507, Or.inl ⟨rfl, tw_1505, tw_23⟩⟩
theorem lfv_X7_6 : xcV MT vcl RX7 103 2 (some 0) (5, 64) := ⟨mX7_mayDo, _, rfl, rfl, xb_X7_mayDo, tw_1511, Or.inl ⟨rfl, tw_1509, tw_24⟩⟩
theorem lfv_X7_7 : xcV MT vcl RX7 106 3 (some 0) (5, 65) := ⟨mX7_sizeWith, _, rfl, rfl, xb_X7_sizeWith, tw_1515, Or.inl ⟨rfl, tw_1513, tw_25⟩⟩
theorem lfv_X7_8 : xcV MT vcl RX7 118 3 (some 0) (5, 67) := ⟨mX7_firstTestWith, _, rfl, rfl, xb_X7_firstTestWith, tw_1531, Or.inl ⟨rfl, tw_1529, tw_26⟩⟩
theorem lfv_X7_9 : xcV MT vcl RX7 131 4 (some 0) (5, 66) := ⟨mX7_place, _, rfl, rfl, xb_X7_place, tw_1523, Or.inl ⟨rfl, tw_1536, tw_1524⟩⟩
theorem lfv_X7_10 : xcV MT vcl RX7 135 2 (some 0) (5, 69) := ⟨mX7_countFitting, _, rfl, rfl, xb_X7_countFitting, tw_1646, Or.inl ⟨rfl, tw_1644, tw_29⟩⟩
theorem lfv_X7_11 : xcV MT vcl RX7 138 2 (some 0) (5, 68) := ⟨mX7_waysOf, _, rfl, rfl, xb_X7_waysOf, tw_1641, Or.inl ⟨rfl, tw_1648, tw_1642⟩⟩
theorem lfv_X7_12 : xcV MT vcl RX7 149 1 (some 0) (5, 71) := ⟨mX7_fewestFor, _, rfl, rfl, xb_X7_fewestFor, tw_1108, Or.inl ⟨rfl, tw_1106, tw_15⟩⟩
theorem lfg_X8_0 : xfl vcl RX8 17 false (6, 2) := ⟨_, "PartMaker$Supply", rfl, by decide, tw_158, Or.inl rfl, fun h => by cases h⟩
theorem lfg_X8_1 : xfl vcl RX8 13 false (6, 1) := ⟨_, "PartMaker$Supply", rfl, by decide, tw_155, Or.inl rfl, fun h => by cases h⟩
theorem lfg_X8_2 : xfl vcl RX8 9 false (6, 0) := ⟨_, "PartMaker$Supply", rfl, by decide, tw_152, Or.inl rfl, fun h => by cases h⟩
theorem lfp_X8_0 : xfl vcl RX8 13 true (6, 1) := ⟨_, "PartMaker$Supply", rfl, by decide, tw_155, Or.inl rfl, fun _ => rfl⟩
theorem lfs_X8_0 : xcS MT RX8 20 1 72 := ⟨mX8_isNoConstant, rfl, xb_X8_isNoConstant, tw_501, tw_502⟩
theorem lfv_X8_0 : xcV MT vcl RX8 24 1 (some 0) (6, 75) := ⟨mX8_hasConstant, _, rfl, rfl, xb_X8_hasConstant, tw_505, Or.inl ⟨rfl, tw_504, tw_506⟩⟩
theorem lfv_X8_1 : xcV MT vcl RX8 27 0 (some 0) (6, 74) := ⟨mX8_isFull, _, rfl, rfl, xb_X8_isFull, tw_509, Or.inl ⟨rfl, tw_508, tw_510⟩⟩
theorem lfv_X8_2 : xcV MT vcl RX8 31 1 (some 0) (6, 76) := ⟨mX8_addConstant, _, rfl, rfl, xb_X8_addConstant, tw_513, Or.inl ⟨rfl, tw_512, tw_514⟩⟩
theorem lfg_X9_0 : xfl vcl RX9 17 false (7, 18) := ⟨_, "PartMaker$Tests", rfl, by decide, tw_324, Or.inl rfl, fun h => by cases h⟩
theorem lfg_X9_1 : xfl vcl RX9 57 false (7, 0) := ⟨_, "PartMaker$Tests", rfl, by decide, tw_210, Or.inr tw_211, fun h => by cases h⟩
theorem lfg_X9_2 : xfl vcl RX9 65 false (7, 5) := ⟨_, "PartMaker$Tests", rfl, by decide, tw_234, Or.inr tw_235, fun h => by cases h⟩
theorem lfg_X9_3 : xfl vcl RX9 76 false (0, 2) := ⟨_, "PartMaker$Examples", rfl, by decide, tw_135, Or.inl rfl, fun h => by cases h⟩
theorem lfg_X9_4 : xfl vcl RX9 68 false (7, 20) := ⟨_, "PartMaker$Tests", rfl, by decide, tw_327, Or.inl rfl, fun h => by cases h⟩
theorem lfg_X9_5 : xfl vcl RX9 13 false (7, 19) := ⟨_, "PartMaker$Tests", rfl, by decide, tw_325, Or.inl rfl, fun h => by cases h⟩
theorem lfg_X9_6 : xfl vcl RX9 83 false (7, 4) := ⟨_, "PartMaker$Tests", rfl, by decide, tw_226, Or.inr tw_227, fun h => by cases h⟩
theorem lfg_X9_7 : xfl vcl RX9 87 false (1, 4) := ⟨_, "PartMaker$Expressions", rfl, by decide, tw_228, Or.inr tw_229, fun h => by cases h⟩
theorem lfg_X9_8 : xfl vcl RX9 88 false (2, 0) := ⟨_, "PartMaker$Forms", rfl, by decide, tw_183, Or.inl rfl, fun h => by cases h⟩
theorem lfg_X9_9 : xfl vcl RX9 93 false (2, 1) := ⟨_, "PartMaker$Forms", rfl, by decide, tw_186, Or.inl rfl, fun h => by cases h⟩
theorem lfg_X9_10 : xfl vcl RX9 96 false (2, 2) := ⟨_, "PartMaker$Forms", rfl, by decide, tw_189, Or.inl rfl, fun h => by cases h⟩
theorem lfg_X9_11 : xfl vcl RX9 103 false (7, 1) := ⟨_, "PartMaker$Tests", rfl, by decide, tw_213, Or.inr tw_214, fun h => by cases h⟩
theorem lfp_X9_0 : xfl vcl RX9 68 true (7, 20) := ⟨_, "PartMaker$Tests", rfl, by decide, tw_327, Or.inl rfl, fun _ => rfl⟩
theorem lfv_X9_0 : xcV MT vcl RX9 27 2 (some 0) (7, 80) := ⟨mX9_makeCompared, _, rfl, rfl, xb_X9_makeCompared, tw_1024, Or.inl ⟨rfl, tw_1022, tw_10⟩⟩
theorem lfv_X9_1 : xcV MT vcl RX9 31 1 (some 0) (7, 81) := ⟨mX9_makeNots, _, rfl, rfl, xb_X9_makeNots, tw_1033, Or.inl ⟨rfl, tw_1031, tw_11⟩⟩
theorem lfv_X9_2 : xcV MT vcl RX9 35 1 (some 0) (7, 82) := ⟨mX9_makeAnds, _, rfl, rfl, xb_X9_makeAnds, tw_1046, Or.inl ⟨rfl, tw_1044, tw_12⟩⟩
theorem lfv_X9_3 : xcV MT vcl RX9 38 1 (some 1) (1, 31) := ⟨mX3_end, _, rfl, rfl, xb_X3_end, tw_1003, Or.inr ⟨rfl, ⟨"PartMaker$Expressions", "end", "(I)I"⟩, "PartMaker$Growth", tw_1026, tw_1000, tw_1002, ⟨by decide +kernel, by decide +kernel⟩, rfl, Or.inl ⟨tw_1003, _, _, _, tw_1004⟩⟩⟩
theorem lfv_X9_4 : xcV MT vcl RX9 44 1 (some 1) (1, 30) := ⟨mX3_begin, _, rfl, rfl, xb_X3_begin, tw_997, Or.inr ⟨rfl, ⟨"PartMaker$Expressions", "begin", "(I)I"⟩, "PartMaker$Growth", tw_1027, tw_994, tw_996, ⟨by decide +kernel, by decide +kernel⟩, rfl, Or.inl ⟨tw_997, _, _, _, tw_998⟩⟩⟩
theorem lfv_X9_5 : xcV MT vcl RX9 47 4 (some 1) (7, 35) := ⟨mX3_offerEach, _, rfl, rfl, xb_X3_offerEach, tw_1016, Or.inr ⟨rfl, ⟨"PartMaker$Tests", "offerEach", "(IIII)Z"⟩, "PartMaker$Growth", tw_1028, tw_1029, tw_1030, ⟨by decide +kernel, by decide +kernel⟩, rfl, Or.inl ⟨tw_1016, _, _, _, tw_1017⟩⟩⟩
theorem lfv_X9_6 : xcV MT vcl RX9 51 1 (some 1) (7, 30) := ⟨mX3_begin, _, rfl, rfl, xb_X3_begin, tw_997, Or.inr ⟨rfl, ⟨"PartMaker$Tests", "begin", "(I)I"⟩, "PartMaker$Growth", tw_1035, tw_1036, tw_1037, ⟨by decide +kernel, by decide +kernel⟩, rfl, Or.inl ⟨tw_997, _, _, _, tw_998⟩⟩⟩
theorem lfv_X9_7 : xcV MT vcl RX9 52 1 (some 1) (7, 31) := ⟨mX3_end, _, rfl, rfl, xb_X3_end, tw_1003, Or.inr ⟨rfl, ⟨"PartMaker$Tests", "end", "(I)I"⟩, "PartMaker$Growth", tw_1038, tw_1039, tw_1040, ⟨by decide +kernel, by decide +kernel⟩, rfl, Or.inl ⟨tw_1003, _, _, _, tw_1004⟩⟩⟩
theorem lfv_X9_8 : xcV MT vcl RX9 53 3 (some 1) (7, 34) := ⟨mX3_offer, _, rfl, rfl, xb_X3_offer, tw_587, Or.inr ⟨rfl, ⟨"PartMaker$Tests", "offer", "(III)Z"⟩, "PartMaker$Growth", tw_1041, tw_1042, tw_1043, ⟨by decide +kernel, by decide +kernel⟩, rfl, Or.inl ⟨tw_587, _, _, _, tw_588⟩⟩⟩
theorem lfv_X9_9 : xcV MT vcl RX9 61 0 (some 0) (0, 0) := ⟨mX0_all, _, rfl, rfl, xb_X0_all, tw_918, Or.inl ⟨rfl, tw_917, tw_919⟩⟩
theorem lfv_X9_10 : xcV MT vcl RX9 72 3 (some 0) (7, 84) := ⟨mX9_compared, _, rfl, rfl, xb_X9_compared, tw_923, Or.inl ⟨rfl, tw_921, tw_5⟩⟩
theorem lfv_X9_11 : xcV MT vcl RX9 79 2 (some 0) (1, 19) := ⟨mX1_outputOn, _, rfl, rfl, xb_X1_outputOn, tw_926, Or.inl ⟨rfl, tw_925, tw_927⟩⟩
theorem lfv_X9_12 : xcV MT vcl RX9 99 2 (some 1) (1, 24) := ⟨mX3_comesTo, _, rfl, rfl, xb_X3_comesTo, tw_1285, Or.inr ⟨rfl, ⟨"PartMaker$Expressions", "comesTo", "(I[I)I"⟩, "PartMaker$Growth", tw_1300, tw_1301, tw_1303, ⟨by decide +kernel, by decide +kernel⟩, rfl, Or.inl ⟨tw_1285, _, _, _, tw_1289⟩⟩⟩
theorem lfv_X9_13 : xcV MT vcl RX9 107 4 (some 0) (7, 91) := ⟨mX9_come, _, rfl, rfl, xb_X9_come, tw_1298, Or.inl ⟨rfl, tw_1304, tw_2358⟩⟩
theorem lfv_X9_14 : xcV MT vcl RX9 115 1 (some 0) (8, 95) := ⟨mX10_addAll, _, rfl, rfl, xb_X10_addAll, tw_1347, Or.inl ⟨rfl, tw_1383, tw_1348⟩⟩
theorem lfv_X9_15 : xcV MT vcl RX9 121 2 (some 1) (1, 26) := ⟨mX3_spellKept, _, rfl, rfl, xb_X3_spellKept, tw_1317, Or.inr ⟨rfl, ⟨"PartMaker$Expressions", "spellKept", "(LPartMaker$Text;I)V"⟩, "PartMaker$Growth", tw_1384, tw_1385, tw_1387, ⟨by decide +kernel, by decide +kernel⟩, rfl, Or.inl ⟨tw_1317, _, _, _, tw_1321⟩⟩⟩
theorem lfv_X9_16 : xcV MT vcl RX9 129 1 (some 0) (8, 94) := ⟨mX10_add, _, rfl, rfl, xb_X10_add, tw_1329, Or.inl ⟨rfl, tw_1390, tw_1330⟩⟩
theorem lfv_X9_17 : xcV MT vcl RX9 133 4 (some 0) (7, 92) := ⟨mX9_spell, _, rfl, rfl, xb_X9_spell, tw_1379, Or.inl ⟨rfl, tw_1391, tw_2360⟩⟩
theorem lfg_X10_0 : xfl vcl RX10 13 false (8, 1) := ⟨_, "PartMaker$Text", rfl, by decide, tw_454, Or.inl rfl, fun h => by cases h⟩
theorem lfg_X10_1 : xfl vcl RX10 9 false (8, 0) := ⟨_, "PartMaker$Text", rfl, by decide, tw_452, Or.inl rfl, fun h => by cases h⟩
theorem lfp_X10_0 : xfl vcl RX10 13 true (8, 1) := ⟨_, "PartMaker$Text", rfl, by decide, tw_454, Or.inl rfl, fun _ => rfl⟩
theorem lfv_X10_0 : xcV MT vcl RX10 26 1 (some 0) (8, 94) := ⟨mX10_add, _, rfl, rfl, xb_X10_add, tw_1329, Or.inl ⟨rfl, tw_1336, tw_1330⟩⟩
theorem lfg_X11_0 : xfl vcl RX11 10 false (9, 0) := ⟨_, "PartMaker", rfl, by decide, tw_462, Or.inl rfl, fun h => by cases h⟩
theorem lfg_X11_1 : xfl vcl RX11 87 false (0, 2) := ⟨_, "PartMaker$Examples", rfl, by decide, tw_134, Or.inl rfl, fun h => by cases h⟩
theorem lfg_X11_2 : xfl vcl RX11 19 false (9, 1) := ⟨_, "PartMaker", rfl, by decide, tw_463, Or.inl rfl, fun h => by cases h⟩
theorem lfg_X11_3 : xfl vcl RX11 129 false (6, 2) := ⟨_, "PartMaker$Supply", rfl, by decide, tw_159, Or.inl rfl, fun h => by cases h⟩
theorem lfg_X11_4 : xfl vcl RX11 149 false (6, 1) := ⟨_, "PartMaker$Supply", rfl, by decide, tw_157, Or.inl rfl, fun h => by cases h⟩
theorem lfg_X11_5 : xfl vcl RX11 152 false (0, 0) := ⟨_, "PartMaker$Examples", rfl, by decide, tw_128, Or.inl rfl, fun h => by cases h⟩
theorem lfg_X11_6 : xfl vcl RX11 76 false (9, 9) := ⟨_, "PartMaker", rfl, by decide, tw_471, Or.inl rfl, fun h => by cases h⟩
theorem lfg_X11_7 : xfl vcl RX11 171 false (1, 9) := ⟨_, "PartMaker$Growth", rfl, by decide, tw_250, Or.inl rfl, fun h => by cases h⟩
theorem lfg_X11_8 : xfl vcl RX11 171 false (7, 9) := ⟨_, "PartMaker$Growth", rfl, by decide, tw_250, Or.inl rfl, fun h => by cases h⟩
theorem lfg_X11_9 : xfl vcl RX11 174 false (1, 10) := ⟨_, "PartMaker$Growth", rfl, by decide, tw_254, Or.inl rfl, fun h => by cases h⟩
theorem lfg_X11_10 : xfl vcl RX11 174 false (7, 10) := ⟨_, "PartMaker$Growth", rfl, by decide, tw_254, Or.inl rfl, fun h => by cases h⟩
theorem lfg_X11_11 : xfl vcl RX11 177 false (1, 13) := ⟨_, "PartMaker$Growth", rfl, by decide, tw_260, Or.inl rfl, fun h => by cases h⟩
theorem lfg_X11_12 : xfl vcl RX11 177 false (7, 13) := ⟨_, "PartMaker$Growth", rfl, by decide, tw_260, Or.inl rfl, fun h => by cases h⟩
theorem lfg_X11_13 : xfl vcl RX11 180 false (1, 14) := ⟨_, "PartMaker$Growth", rfl, by decide, tw_262, Or.inl rfl, fun h => by cases h⟩
theorem lfg_X11_14 : xfl vcl RX11 180 false (7, 14) := ⟨_, "PartMaker$Growth", rfl, by decide, tw_262, Or.inl rfl, fun h => by cases h⟩
theorem lfg_X11_15 : xfl vcl RX11 183 false (1, 11) := ⟨_, "PartMaker$Growth", rfl, by decide, tw_256, Or.inl rfl, fun h => by cases h⟩
theorem lfg_X11_16 : xfl vcl RX11 183 false (7, 11) := ⟨_, "PartMaker$Growth", rfl, by decide, tw_256, Or.inl rfl, fun h => by cases h⟩
theorem lfg_X11_17 : xfl vcl RX11 186 false (1, 12) := ⟨_, "PartMaker$Growth", rfl, by decide, tw_258, Or.inl rfl, fun h => by cases h⟩
theorem lfg_X11_18 : xfl vcl RX11 186 false (7, 12) := ⟨_, "PartMaker$Growth", rfl, by decide, tw_258, Or.inl rfl, fun h => by cases h⟩
theorem lfg_X11_19 : xfl vcl RX11 198 false (1, 3) := ⟨_, "PartMaker$Growth", rfl, by decide, tw_223, Or.inl rfl, fun h => by cases h⟩
theorem lfg_X11_20 : xfl vcl RX11 198 false (7, 3) := ⟨_, "PartMaker$Growth", rfl, by decide, tw_223, Or.inl rfl, fun h => by cases h⟩
theorem lfg_X11_21 : xfl vcl RX11 202 false (1, 6) := ⟨_, "PartMaker$Growth", rfl, by decide, tw_242, Or.inl rfl, fun h => by cases h⟩
theorem lfg_X11_22 : xfl vcl RX11 202 false (7, 6) := ⟨_, "PartMaker$Growth", rfl, by decide, tw_242, Or.inl rfl, fun h => by cases h⟩
theorem lfg_X11_23 : xfl vcl RX11 205 false (1, 5) := ⟨_, "PartMaker$Growth", rfl, by decide, tw_237, Or.inl rfl, fun h => by cases h⟩
theorem lfg_X11_24 : xfl vcl RX11 205 false (7, 5) := ⟨_, "PartMaker$Growth", rfl, by decide, tw_237, Or.inl rfl, fun h => by cases h⟩
theorem lfg_X11_25 : xfl vcl RX11 65 false (9, 7) := ⟨_, "PartMaker", rfl, by decide, tw_469, Or.inl rfl, fun h => by cases h⟩
theorem lfg_X11_26 : xfl vcl RX11 217 false (3, 0) := ⟨_, "PartMaker$Point", rfl, by decide, tw_442, Or.inl rfl, fun h => by cases h⟩
theorem lfg_X11_27 : xfl vcl RX11 72 false (9, 8) := ⟨_, "PartMaker", rfl, by decide, tw_470, Or.inl rfl, fun h => by cases h⟩
theorem lfg_X11_28 : xfl vcl RX11 231 false (8, 1) := ⟨_, "PartMaker$Text", rfl, by decide, tw_455, Or.inl rfl, fun h => by cases h⟩
theorem lfg_X11_29 : xfl vcl RX11 234 false (8, 0) := ⟨_, "PartMaker$Text", rfl, by decide, tw_453, Or.inl rfl, fun h => by cases h⟩
theorem lfg_X11_30 : xfl vcl RX11 37 false (9, 3) := ⟨_, "PartMaker", rfl, by decide, tw_465, Or.inl rfl, fun h => by cases h⟩
theorem lfg_X11_31 : xfl vcl RX11 241 false (7, 19) := ⟨_, "PartMaker$Tests", rfl, by decide, tw_326, Or.inl rfl, fun h => by cases h⟩
theorem lfg_X11_32 : xfl vcl RX11 28 false (9, 2) := ⟨_, "PartMaker", rfl, by decide, tw_464, Or.inl rfl, fun h => by cases h⟩
theorem lfg_X11_33 : xfl vcl RX11 266 false (1, 9) := ⟨_, "PartMaker$Expressions", rfl, by decide, tw_251, Or.inr tw_246, fun h => by cases h⟩
theorem lfg_X11_34 : xfl vcl RX11 90 false (0, 1) := ⟨_, "PartMaker$Examples", rfl, by decide, tw_131, Or.inl rfl, fun h => by cases h⟩
theorem lfg_X11_35 : xfl vcl RX11 55 false (9, 5) := ⟨_, "PartMaker", rfl, by decide, tw_467, Or.inl rfl, fun h => by cases h⟩
theorem lfg_X11_36 : xfl vcl RX11 294 false (4, 5) := ⟨_, "PartMaker$Program", rfl, by decide, tw_418, Or.inl rfl, fun h => by cases h⟩
theorem lfg_X11_37 : xfl vcl RX11 304 false (4, 2) := ⟨_, "PartMaker$Program", rfl, by decide, tw_413, Or.inl rfl, fun h => by cases h⟩
theorem lfg_X11_38 : xfl vcl RX11 307 false (4, 3) := ⟨_, "PartMaker$Program", rfl, by decide, tw_416, Or.inl rfl, fun h => by cases h⟩
theorem lfg_X11_39 : xfl vcl RX11 46 false (9, 4) := ⟨_, "PartMaker", rfl, by decide, tw_466, Or.inl rfl, fun h => by cases h⟩
theorem lfg_X11_40 : xfl vcl RX11 338 false (4, 6) := ⟨_, "PartMaker$Program", rfl, by decide, tw_419, Or.inl rfl, fun h => by cases h⟩
theorem lfg_X11_41 : xfl vcl RX11 59 false (9, 6) := ⟨_, "PartMaker", rfl, by decide, tw_468, Or.inl rfl, fun h => by cases h⟩
theorem lfg_X11_42 : xfl vcl RX11 355 false (1, 5) := ⟨_, "PartMaker$Expressions", rfl, by decide, tw_239, Or.inr tw_233, fun h => by cases h⟩
theorem lfg_X11_43 : xfl vcl RX11 356 false (1, 3) := ⟨_, "PartMaker$Expressions", rfl, by decide, tw_224, Or.inr tw_220, fun h => by cases h⟩
theorem lfg_X11_44 : xfl vcl RX11 362 false (7, 9) := ⟨_, "PartMaker$Tests", rfl, by decide, tw_253, Or.inr tw_248, fun h => by cases h⟩
theorem lfg_X11_45 : xfl vcl RX11 363 false (7, 5) := ⟨_, "PartMaker$Tests", rfl, by decide, tw_240, Or.inr tw_235, fun h => by cases h⟩
theorem lfg_X11_46 : xfl vcl RX11 364 false (4, 4) := ⟨_, "PartMaker$Program", rfl, by decide, tw_417, Or.inl rfl, fun h => by cases h⟩
theorem lfg_X11_47 : xfl vcl RX11 371 false (6, 0) := ⟨_, "PartMaker$Supply", rfl, by decide, tw_154, Or.inl rfl, fun h => by cases h⟩
theorem lfp_X11_0 : xfl vcl RX11 87 true (0, 2) := ⟨_, "PartMaker$Examples", rfl, by decide, tw_134, Or.inl rfl, fun _ => rfl⟩
theorem lfp_X11_1 : xfl vcl RX11 90 true (0, 1) := ⟨_, "PartMaker$Examples", rfl, by decide, tw_131, Or.inl rfl, fun _ => rfl⟩
theorem lfp_X11_2 : xfl vcl RX11 129 true (6, 2) := ⟨_, "PartMaker$Supply", rfl, by decide, tw_159, Or.inl rfl, fun _ => rfl⟩
theorem lfp_X11_3 : xfl vcl RX11 76 true (9, 9) := ⟨_, "PartMaker", rfl, by decide, tw_471, Or.inl rfl, fun _ => rfl⟩
theorem lfp_X11_4 : xfl vcl RX11 364 true (4, 4) := ⟨_, "PartMaker$Program", rfl, by decide, tw_417, Or.inl rfl, fun _ => rfl⟩
theorem lfp_X11_5 : xfl vcl RX11 294 true (4, 5) := ⟨_, "PartMaker$Program", rfl, by decide, tw_418, Or.inl rfl, fun _ => rfl⟩
theorem lfp_X11_6 : xfl vcl RX11 338 true (4, 6) := ⟨_, "PartMaker$Program", rfl, by decide, tw_419, Or.inl rfl, fun _ => rfl⟩
theorem lfs_X11_0 : xcS MT RX11 122 1 150 := ⟨mX11_refuseNoPart, rfl, xb_X11_refuseNoPart, tw_1208, tw_1209⟩
theorem lfs_X11_1 : xcS MT RX11 132 1 72 := ⟨mX8_isNoConstant, rfl, xb_X8_isNoConstant, tw_1220, tw_502⟩
theorem lfs_X11_2 : xcS MT RX11 248 1 38 := ⟨mX4_isOfOne, rfl, xb_X4_isOfOne, tw_1411, tw_966⟩
theorem lfs_X11_3 : xcS MT RX11 270 1 149 := ⟨mX11_refuseNoInputNumber, rfl, xb_X11_refuseNoInputNumber, tw_1456, tw_1457⟩
theorem lfs_X11_4 : xcS MT RX11 282 1 151 := ⟨mX11_refuseNoIfs, rfl, xb_X11_refuseNoIfs, tw_1488, tw_1489⟩
theorem lfs_X11_5 : xcS MT RX11 350 1 152 := ⟨mX11_refuseEmpty, rfl, xb_X11_refuseEmpty, tw_1707, tw_1708⟩
theorem lfv_X11_0 : xcV MT vcl RX11 93 0 (some 0) (9, 140) := ⟨mX11_forgetAllMade, _, rfl, rfl, xb_X11_forgetAllMade, tw_518, Or.inl ⟨rfl, tw_516, tw_0⟩⟩
theorem lfv_X11_1 : xcV MT vcl RX11 96 3 (some 0) (9, 148) := ⟨mX11_refuseNoInputs, _, rfl, rfl, xb_X11_refuseNoInputs, tw_1136, Or.inl ⟨rfl, tw_1134, tw_16⟩⟩
theorem lfv_X11_2 : xcV MT vcl RX11 102 3 (some 0) (0, 2) := ⟨mX0_areThere, _, rfl, rfl, xb_X0_areThere, tw_1145, Or.inl ⟨rfl, tw_1144, tw_1146⟩⟩
theorem lfv_X11_3 : xcV MT vcl RX11 111 4 (some 0) (0, 3) := ⟨mX0_add, _, rfl, rfl, xb_X0_add, tw_1165, Or.inl ⟨rfl, tw_1164, tw_1166⟩⟩
theorem lfv_X11_4 : xcV MT vcl RX11 115 1 (some 0) (9, 145) := ⟨mX11_refuseNoExample, _, rfl, rfl, xb_X11_refuseNoExample, tw_1178, Or.inl ⟨rfl, tw_1176, tw_17⟩⟩
theorem lfv_X11_5 : xcV MT vcl RX11 119 1 (some 0) (0, 4) := ⟨mX0_remove, _, rfl, rfl, xb_X0_remove, tw_1197, Or.inl ⟨rfl, tw_1196, tw_1198⟩⟩
theorem lfv_X11_6 : xcV MT vcl RX11 125 1 (some 0) (6, 73) := ⟨mX8_mayUse, _, rfl, rfl, xb_X8_mayUse, tw_986, Or.inl ⟨rfl, tw_1212, tw_987⟩⟩
theorem lfv_X11_7 : xcV MT vcl RX11 137 1 (some 0) (6, 75) := ⟨mX8_hasConstant, _, rfl, rfl, xb_X8_hasConstant, tw_505, Or.inl ⟨rfl, tw_1222, tw_506⟩⟩
theorem lfv_X11_8 : xcV MT vcl RX11 140 0 (some 0) (6, 74) := ⟨mX8_isFull, _, rfl, rfl, xb_X8_isFull, tw_509, Or.inl ⟨rfl, tw_1223, tw_510⟩⟩
theorem lfv_X11_9 : xcV MT vcl RX11 146 1 (some 0) (6, 76) := ⟨mX8_addConstant, _, rfl, rfl, xb_X8_addConstant, tw_513, Or.inl ⟨rfl, tw_1225, tw_514⟩⟩
theorem lfv_X11_10 : xcV MT vcl RX11 156 1 (some 0) (6, 77) := ⟨mX8_offerConstant, _, rfl, rfl, xb_X8_offerConstant, tw_498, Or.inl ⟨rfl, tw_497, tw_499⟩⟩
theorem lfv_X11_11 : xcV MT vcl RX11 161 1 (some 0) (9, 142) := ⟨mX11_growthOf, _, rfl, rfl, xb_X11_growthOf, tw_553, Or.inl ⟨rfl, tw_551, tw_1⟩⟩
theorem lfv_X11_12 : xcV MT vcl RX11 165 1 (some 1) (1, 33) := ⟨mX3_advance, _, rfl, rfl, xb_X3_advance, tw_556, Or.inr ⟨rfl, ⟨"PartMaker$Growth", "advance", "(I)I"⟩, "PartMaker$Growth", tw_555, tw_557, tw_558, ⟨by decide +kernel, by decide +kernel⟩, rfl, Or.inl ⟨tw_556, _, _, _, tw_560⟩⟩⟩
theorem lfv_X11_13 : xcV MT vcl RX11 165 1 (some 1) (7, 33) := ⟨mX3_advance, _, rfl, rfl, xb_X3_advance, tw_556, Or.inr ⟨rfl, ⟨"PartMaker$Growth", "advance", "(I)I"⟩, "PartMaker$Growth", tw_555, tw_557, tw_559, ⟨by decide +kernel, by decide +kernel⟩, rfl, Or.inl ⟨tw_556, _, _, _, tw_560⟩⟩⟩
theorem lfv_X11_14 : xcV MT vcl RX11 194 2 (some 0) (9, 143) := ⟨mX11_growthWith, _, rfl, rfl, xb_X11_growthWith, tw_1251, Or.inl ⟨rfl, tw_1249, tw_18⟩⟩
theorem lfv_X11_15 : xcV MT vcl RX11 210 2 (some 1) (1, 19) := ⟨mX1_outputOn, _, rfl, rfl, xb_X1_outputOn, tw_926, Or.inr ⟨rfl, ⟨"PartMaker$Growth", "outputOn", "(II)I"⟩, "PartMaker$Growth", tw_1266, tw_1268, tw_1269, ⟨by decide +kernel, by decide +kernel⟩, rfl, Or.inr (List.mem_of_getElem? (i := 1267) (by decide +kernel))⟩⟩
theorem lfv_X11_16 : xcV MT vcl RX11 210 2 (some 1) (7, 90) := ⟨mX9_outputOn, _, rfl, rfl, xb_X9_outputOn, tw_1271, Or.inr ⟨rfl, ⟨"PartMaker$Growth", "outputOn", "(II)I"⟩, "PartMaker$Growth", tw_1266, tw_1268, tw_1270, ⟨by decide +kernel, by decide +kernel⟩, rfl, Or.inr (List.mem_of_getElem? (i := 1267) (by decide +kernel))⟩⟩
theorem lfv_X11_17 : xcV MT vcl RX11 214 3 (some 0) (3, 42) := ⟨mX5_put, _, rfl, rfl, xb_X5_put, tw_1281, Or.inl ⟨rfl, tw_1280, tw_1282⟩⟩
theorem lfv_X11_18 : xcV MT vcl RX11 220 2 (some 1) (1, 24) := ⟨mX3_comesTo, _, rfl, rfl, xb_X3_comesTo, tw_1285, Or.inr ⟨rfl, ⟨"PartMaker$Growth", "comesTo", "(I[I)I"⟩, "PartMaker$Growth", tw_1284, tw_1286, tw_1287, ⟨by decide +kernel, by decide +kernel⟩, rfl, Or.inl ⟨tw_1285, _, _, _, tw_1289⟩⟩⟩
theorem lfv_X11_19 : xcV MT vcl RX11 220 2 (some 1) (7, 24) := ⟨mX3_comesTo, _, rfl, rfl, xb_X3_comesTo, tw_1285, Or.inr ⟨rfl, ⟨"PartMaker$Growth", "comesTo", "(I[I)I"⟩, "PartMaker$Growth", tw_1284, tw_1286, tw_1288, ⟨by decide +kernel, by decide +kernel⟩, rfl, Or.inl ⟨tw_1285, _, _, _, tw_1289⟩⟩⟩
theorem lfv_X11_20 : xcV MT vcl RX11 224 0 (some 0) (8, 93) := ⟨mX10_clear, _, rfl, rfl, xb_X10_clear, tw_1313, Or.inl ⟨rfl, tw_1312, tw_1314⟩⟩
theorem lfv_X11_21 : xcV MT vcl RX11 227 2 (some 1) (1, 26) := ⟨mX3_spellKept, _, rfl, rfl, xb_X3_spellKept, tw_1317, Or.inr ⟨rfl, ⟨"PartMaker$Growth", "spellKept", "(LPartMaker$Text;I)V"⟩, "PartMaker$Growth", tw_1316, tw_1318, tw_1319, ⟨by decide +kernel, by decide +kernel⟩, rfl, Or.inl ⟨tw_1317, _, _, _, tw_1321⟩⟩⟩
theorem lfv_X11_22 : xcV MT vcl RX11 227 2 (some 1) (7, 26) := ⟨mX3_spellKept, _, rfl, rfl, xb_X3_spellKept, tw_1317, Or.inr ⟨rfl, ⟨"PartMaker$Growth", "spellKept", "(LPartMaker$Text;I)V"⟩, "PartMaker$Growth", tw_1316, tw_1318, tw_1320, ⟨by decide +kernel, by decide +kernel⟩, rfl, Or.inl ⟨tw_1317, _, _, _, tw_1321⟩⟩⟩
theorem lfv_X11_23 : xcV MT vcl RX11 238 1 (some 0) (9, 153) := ⟨mX11_refuseStrangers, _, rfl, rfl, xb_X11_refuseStrangers, tw_1401, Or.inl ⟨rfl, tw_1399, tw_20⟩⟩
theorem lfv_X11_24 : xcV MT vcl RX11 244 2 (some 0) (9, 144) := ⟨mX11_refuseNotKept, _, rfl, rfl, xb_X11_refuseNotKept, tw_1255, Or.inl ⟨rfl, tw_1253, tw_19⟩⟩
theorem lfv_X11_25 : xcV MT vcl RX11 253 3 (some 0) (1, 11) := ⟨mX1_reckon, _, rfl, rfl, xb_X1_reckon, tw_593, Or.inl ⟨rfl, tw_1412, tw_2361⟩⟩
theorem lfv_X11_26 : xcV MT vcl RX11 256 0 (some 0) (1, 14) := ⟨mX1_holder, _, rfl, rfl, xb_X1_holder, tw_942, Or.inl ⟨rfl, tw_1413, tw_2362⟩⟩
theorem lfv_X11_27 : xcV MT vcl RX11 260 2 (some 1) (1, 28) := ⟨mX3_partsIn, _, rfl, rfl, xb_X3_partsIn, tw_1088, Or.inr ⟨rfl, ⟨"PartMaker$Growth", "partsIn", "(II)I"⟩, "PartMaker$Growth", tw_1428, tw_1089, tw_1090, ⟨by decide +kernel, by decide +kernel⟩, rfl, Or.inl ⟨tw_1088, _, _, _, tw_1092⟩⟩⟩
theorem lfv_X11_28 : xcV MT vcl RX11 260 2 (some 1) (7, 28) := ⟨mX3_partsIn, _, rfl, rfl, xb_X3_partsIn, tw_1088, Or.inr ⟨rfl, ⟨"PartMaker$Growth", "partsIn", "(II)I"⟩, "PartMaker$Growth", tw_1428, tw_1089, tw_1091, ⟨by decide +kernel, by decide +kernel⟩, rfl, Or.inl ⟨tw_1088, _, _, _, tw_1092⟩⟩⟩
theorem lfv_X11_29 : xcV MT vcl RX11 263 1 (some 0) (1, 22) := ⟨mX1_farness, _, rfl, rfl, xb_X1_farness, tw_1062, Or.inl ⟨rfl, tw_1061, tw_1063⟩⟩
theorem lfv_X11_30 : xcV MT vcl RX11 267 2 (some 1) (1, 27) := ⟨mX3_spellFirstMerged, _, rfl, rfl, xb_X3_spellFirstMerged, tw_1444, Or.inr ⟨rfl, ⟨"PartMaker$Growth", "spellFirstMerged", "(LPartMaker$Text;I)V"⟩, "PartMaker$Growth", tw_1443, tw_1445, tw_1446, ⟨by decide +kernel, by decide +kernel⟩, rfl, Or.inl ⟨tw_1444, _, _, _, tw_1448⟩⟩⟩
theorem lfv_X11_31 : xcV MT vcl RX11 267 2 (some 1) (7, 27) := ⟨mX3_spellFirstMerged, _, rfl, rfl, xb_X3_spellFirstMerged, tw_1444, Or.inr ⟨rfl, ⟨"PartMaker$Growth", "spellFirstMerged", "(LPartMaker$Text;I)V"⟩, "PartMaker$Growth", tw_1443, tw_1445, tw_1447, ⟨by decide +kernel, by decide +kernel⟩, rfl, Or.inl ⟨tw_1444, _, _, _, tw_1448⟩⟩⟩
theorem lfv_X11_32 : xcV MT vcl RX11 273 1 (some 0) (3, 43) := ⟨mX5_start, _, rfl, rfl, xb_X5_start, tw_1461, Or.inl ⟨rfl, tw_1460, tw_1462⟩⟩
theorem lfv_X11_33 : xcV MT vcl RX11 276 2 (some 1) (1, 25) := ⟨mX3_firstMergedComesTo, _, rfl, rfl, xb_X3_firstMergedComesTo, tw_1465, Or.inr ⟨rfl, ⟨"PartMaker$Growth", "firstMergedComesTo", "(I[I)I"⟩, "PartMaker$Growth", tw_1464, tw_1466, tw_1467, ⟨by decide +kernel, by decide +kernel⟩, rfl, Or.inl ⟨tw_1465, _, _, _, tw_1469⟩⟩⟩
theorem lfv_X11_34 : xcV MT vcl RX11 276 2 (some 1) (7, 25) := ⟨mX3_firstMergedComesTo, _, rfl, rfl, xb_X3_firstMergedComesTo, tw_1465, Or.inr ⟨rfl, ⟨"PartMaker$Growth", "firstMergedComesTo", "(I[I)I"⟩, "PartMaker$Growth", tw_1464, tw_1466, tw_1468, ⟨by decide +kernel, by decide +kernel⟩, rfl, Or.inl ⟨tw_1465, _, _, _, tw_1469⟩⟩⟩
theorem lfv_X11_35 : xcV MT vcl RX11 279 1 (some 0) (3, 44) := ⟨mX5_step, _, rfl, rfl, xb_X5_step, tw_1471, Or.inl ⟨rfl, tw_1470, tw_1472⟩⟩
theorem lfv_X11_36 : xcV MT vcl RX11 285 0 (some 0) (9, 146) := ⟨mX11_refuseNoExamples, _, rfl, rfl, xb_X11_refuseNoExamples, tw_1494, Or.inl ⟨rfl, tw_1492, tw_21⟩⟩
theorem lfv_X11_37 : xcV MT vcl RX11 288 1 (some 0) (9, 141) := ⟨mX11_settle, _, rfl, rfl, xb_X11_settle, tw_1499, Or.inl ⟨rfl, tw_1497, tw_22⟩⟩
theorem lfv_X11_38 : xcV MT vcl RX11 291 0 (some 0) (9, 147) := ⟨mX11_refuseNotSolved, _, rfl, rfl, xb_X11_refuseNotSolved, tw_1553, Or.inl ⟨rfl, tw_1551, tw_27⟩⟩
theorem lfv_X11_39 : xcV MT vcl RX11 295 0 (some 0) (4, 49) := ⟨mX6_countIfs, _, rfl, rfl, xb_X6_countIfs, tw_1557, Or.inl ⟨rfl, tw_1556, tw_1558⟩⟩
theorem lfv_X11_40 : xcV MT vcl RX11 298 0 (some 0) (4, 50) := ⟨mX6_deepestIf, _, rfl, rfl, xb_X6_deepestIf, tw_1561, Or.inl ⟨rfl, tw_1560, tw_1562⟩⟩
theorem lfv_X11_41 : xcV MT vcl RX11 301 0 (some 0) (4, 51) := ⟨mX6_countLeaves, _, rfl, rfl, xb_X6_countLeaves, tw_1565, Or.inl ⟨rfl, tw_1564, tw_1566⟩⟩
theorem lfv_X11_42 : xcV MT vcl RX11 310 1 (some 0) (4, 53) := ⟨mX6_comesTo, _, rfl, rfl, xb_X6_comesTo, tw_1580, Or.inl ⟨rfl, tw_1579, tw_1581⟩⟩
theorem lfv_X11_43 : xcV MT vcl RX11 313 2 (some 0) (4, 57) := ⟨mX6_spellFrom, _, rfl, rfl, xb_X6_spellFrom, tw_1596, Or.inl ⟨rfl, tw_1595, tw_1597⟩⟩
theorem lfv_X11_44 : xcV MT vcl RX11 316 1 (some 0) (4, 54) := ⟨mX6_leafOf, _, rfl, rfl, xb_X6_leafOf, tw_1614, Or.inl ⟨rfl, tw_1613, tw_1615⟩⟩
theorem lfv_X11_45 : xcV MT vcl RX11 319 2 (some 1) (1, 24) := ⟨mX3_comesTo, _, rfl, rfl, xb_X3_comesTo, tw_1285, Or.inr ⟨rfl, ⟨"PartMaker$Expressions", "comesTo", "(I[I)I"⟩, "PartMaker$Growth", tw_1625, tw_1301, tw_1303, ⟨by decide +kernel, by decide +kernel⟩, rfl, Or.inl ⟨tw_1285, _, _, _, tw_1289⟩⟩⟩
theorem lfv_X11_46 : xcV MT vcl RX11 320 1 (some 0) (5, 59) := ⟨mX7_prepare, _, rfl, rfl, xb_X7_prepare, tw_1072, Or.inl ⟨rfl, tw_1071, tw_1073⟩⟩
theorem lfv_X11_47 : xcV MT vcl RX11 323 0 (some 0) (0, 0) := ⟨mX0_all, _, rfl, rfl, xb_X0_all, tw_918, Or.inl ⟨rfl, tw_1101, tw_919⟩⟩
theorem lfv_X11_48 : xcV MT vcl RX11 326 2 (some 0) (5, 62) := ⟨mX7_sizeOrNone, _, rfl, rfl, xb_X7_sizeOrNone, tw_1502, Or.inl ⟨rfl, tw_1501, tw_1503⟩⟩
theorem lfv_X11_49 : xcV MT vcl RX11 329 2 (some 0) (5, 68) := ⟨mX7_waysOf, _, rfl, rfl, xb_X7_waysOf, tw_1641, Or.inl ⟨rfl, tw_1640, tw_1642⟩⟩
theorem lfv_X11_50 : xcV MT vcl RX11 332 1 (some 0) (4, 56) := ⟨mX6_partsIn, _, rfl, rfl, xb_X6_partsIn, tw_1668, Or.inl ⟨rfl, tw_1667, tw_1669⟩⟩
theorem lfv_X11_51 : xcV MT vcl RX11 334 2 (some 0) (4, 55) := ⟨mX6_askedOnWay, _, rfl, rfl, xb_X6_askedOnWay, tw_1686, Or.inl ⟨rfl, tw_1685, tw_1687⟩⟩
theorem lfv_X11_52 : xcV MT vcl RX11 341 0 (some 0) (4, 47) := ⟨mX6_clear, _, rfl, rfl, xb_X6_clear, tw_1518, Or.inl ⟨rfl, tw_1517, tw_1519⟩⟩
theorem lfv_X11_53 : xcV MT vcl RX11 342 4 (some 0) (5, 66) := ⟨mX7_place, _, rfl, rfl, xb_X7_place, tw_1523, Or.inl ⟨rfl, tw_1522, tw_1524⟩⟩
theorem lfv_X11_54 : xcV MT vcl RX11 346 1 (some 0) (4, 48) := ⟨mX6_isSameAs, _, rfl, rfl, xb_X6_isSameAs, tw_1697, Or.inl ⟨rfl, tw_1696, tw_1698⟩⟩
theorem lfv_X11_55 : xcV MT vcl RX11 357 1 (some 0) (5, 70) := ⟨mX7_fewestOrNone, _, rfl, rfl, xb_X7_fewestOrNone, tw_1103, Or.inl ⟨rfl, tw_1102, tw_1104⟩⟩
theorem lfv_X11_56 : xcV MT vcl RX11 374 0 (some 1) (1, 32) := ⟨mX3_forget, _, rfl, rfl, xb_X3_forget, tw_524, Or.inr ⟨rfl, ⟨"PartMaker$Expressions", "forget", "()V"⟩, "PartMaker$Growth", tw_520, tw_521, tw_523, ⟨by decide +kernel, by decide +kernel⟩, rfl, Or.inl ⟨tw_524, _, _, _, tw_525⟩⟩⟩
theorem lfv_X11_57 : xcV MT vcl RX11 377 0 (some 1) (7, 32) := ⟨mX3_forget, _, rfl, rfl, xb_X3_forget, tw_524, Or.inr ⟨rfl, ⟨"PartMaker$Tests", "forget", "()V"⟩, "PartMaker$Growth", tw_540, tw_541, tw_542, ⟨by decide +kernel, by decide +kernel⟩, rfl, Or.inl ⟨tw_524, _, _, _, tw_525⟩⟩⟩
theorem lfv_X11_58 : xcV MT vcl RX11 378 0 (some 0) (5, 58) := ⟨mX7_forget, _, rfl, rfl, xb_X7_forget, tw_544, Or.inl ⟨rfl, tw_543, tw_545⟩⟩
theorem lfv_X11_59 : xcV MT vcl RX11 387 2 (some 0) (0, 1) := ⟨mX0_mayBe, _, rfl, rfl, xb_X0_mayBe, tw_1139, Or.inl ⟨rfl, tw_1138, tw_1140⟩⟩
theorem lfg_X12_0 : xfl vcl RX12 164 false (10, 0) := ⟨_, "PartMakerModel", rfl, by decide, tw_1742, Or.inl rfl, fun h => by cases h⟩
theorem lfg_X12_1 : xfl vcl RX12 161 false (10, 4) := ⟨_, "PartMakerModel", rfl, by decide, tw_1746, Or.inl rfl, fun h => by cases h⟩
theorem lfg_X12_2 : xfl vcl RX12 86 false (10, 29) := ⟨_, "PartMakerModel", rfl, by decide, tw_1771, Or.inl rfl, fun h => by cases h⟩
theorem lfg_X12_3 : xfl vcl RX12 89 false (10, 30) := ⟨_, "PartMakerModel", rfl, by decide, tw_1772, Or.inl rfl, fun h => by cases h⟩
theorem lfg_X12_4 : xfl vcl RX12 92 false (10, 31) := ⟨_, "PartMakerModel", rfl, by decide, tw_1773, Or.inl rfl, fun h => by cases h⟩
theorem lfg_X12_5 : xfl vcl RX12 95 false (10, 32) := ⟨_, "PartMakerModel", rfl, by decide, tw_1774, Or.inl rfl, fun h => by cases h⟩
theorem lfg_X12_6 : xfl vcl RX12 7 false (10, 1) := ⟨_, "PartMakerModel", rfl, by decide, tw_1743, Or.inl rfl, fun h => by cases h⟩
theorem lfg_X12_7 : xfl vcl RX12 19 false (10, 5) := ⟨_, "PartMakerModel", rfl, by decide, tw_1747, Or.inl rfl, fun h => by cases h⟩
theorem lfg_X12_8 : xfl vcl RX12 16 false (10, 3) := ⟨_, "PartMakerModel", rfl, by decide, tw_1745, Or.inl rfl, fun h => by cases h⟩
theorem lfg_X12_9 : xfl vcl RX12 23 false (10, 6) := ⟨_, "PartMakerModel", rfl, by decide, tw_1748, Or.inl rfl, fun h => by cases h⟩
theorem lfg_X12_10 : xfl vcl RX12 26 false (10, 7) := ⟨_, "PartMakerModel", rfl, by decide, tw_1749, Or.inl rfl, fun h => by cases h⟩
theorem lfg_X12_11 : xfl vcl RX12 13 false (10, 2) := ⟨_, "PartMakerModel", rfl, by decide, tw_1744, Or.inl rfl, fun h => by cases h⟩
theorem lfg_X12_12 : xfl vcl RX12 214 false (10, 35) := ⟨_, "PartMakerModel", rfl, by decide, tw_1777, Or.inl rfl, fun h => by cases h⟩
theorem lfg_X12_13 : xfl vcl RX12 220 false (10, 37) := ⟨_, "PartMakerModel", rfl, by decide, tw_1779, Or.inl rfl, fun h => by cases h⟩
theorem lfg_X12_14 : xfl vcl RX12 167 false (10, 8) := ⟨_, "PartMakerModel", rfl, by decide, tw_1750, Or.inl rfl, fun h => by cases h⟩
theorem lfg_X12_15 : xfl vcl RX12 53 false (10, 17) := ⟨_, "PartMakerModel", rfl, by decide, tw_1759, Or.inl rfl, fun h => by cases h⟩
theorem lfg_X12_16 : xfl vcl RX12 99 false (10, 34) := ⟨_, "PartMakerModel", rfl, by decide, tw_1776, Or.inl rfl, fun h => by cases h⟩
theorem lfg_X12_17 : xfl vcl RX12 50 false (10, 16) := ⟨_, "PartMakerModel", rfl, by decide, tw_1758, Or.inl rfl, fun h => by cases h⟩
theorem lfg_X12_18 : xfl vcl RX12 38 false (10, 12) := ⟨_, "PartMakerModel", rfl, by decide, tw_1754, Or.inl rfl, fun h => by cases h⟩
theorem lfg_X12_19 : xfl vcl RX12 41 false (10, 13) := ⟨_, "PartMakerModel", rfl, by decide, tw_1755, Or.inl rfl, fun h => by cases h⟩
theorem lfg_X12_20 : xfl vcl RX12 44 false (10, 14) := ⟨_, "PartMakerModel", rfl, by decide, tw_1756, Or.inl rfl, fun h => by cases h⟩
theorem lfg_X12_21 : xfl vcl RX12 29 false (10, 9) := ⟨_, "PartMakerModel", rfl, by decide, tw_1751, Or.inl rfl, fun h => by cases h⟩
theorem lfg_X12_22 : xfl vcl RX12 32 false (10, 10) := ⟨_, "PartMakerModel", rfl, by decide, tw_1752, Or.inl rfl, fun h => by cases h⟩
theorem lfg_X12_23 : xfl vcl RX12 35 false (10, 11) := ⟨_, "PartMakerModel", rfl, by decide, tw_1753, Or.inl rfl, fun h => by cases h⟩
theorem lfg_X12_24 : xfl vcl RX12 47 false (10, 15) := ⟨_, "PartMakerModel", rfl, by decide, tw_1757, Or.inl rfl, fun h => by cases h⟩
theorem lfg_X12_25 : xfl vcl RX12 56 false (10, 18) := ⟨_, "PartMakerModel", rfl, by decide, tw_1760, Or.inl rfl, fun h => by cases h⟩
theorem lfg_X12_26 : xfl vcl RX12 173 false (10, 33) := ⟨_, "PartMakerModel", rfl, by decide, tw_1775, Or.inl rfl, fun h => by cases h⟩
theorem lfg_X12_27 : xfl vcl RX12 170 false (10, 19) := ⟨_, "PartMakerModel", rfl, by decide, tw_1761, Or.inl rfl, fun h => by cases h⟩
theorem lfg_X12_28 : xfl vcl RX12 83 false (10, 28) := ⟨_, "PartMakerModel", rfl, by decide, tw_1770, Or.inl rfl, fun h => by cases h⟩
theorem lfg_X12_29 : xfl vcl RX12 80 false (10, 27) := ⟨_, "PartMakerModel", rfl, by decide, tw_1769, Or.inl rfl, fun h => by cases h⟩
theorem lfg_X12_30 : xfl vcl RX12 68 false (10, 23) := ⟨_, "PartMakerModel", rfl, by decide, tw_1765, Or.inl rfl, fun h => by cases h⟩
theorem lfg_X12_31 : xfl vcl RX12 71 false (10, 24) := ⟨_, "PartMakerModel", rfl, by decide, tw_1766, Or.inl rfl, fun h => by cases h⟩
theorem lfg_X12_32 : xfl vcl RX12 74 false (10, 25) := ⟨_, "PartMakerModel", rfl, by decide, tw_1767, Or.inl rfl, fun h => by cases h⟩
theorem lfg_X12_33 : xfl vcl RX12 59 false (10, 20) := ⟨_, "PartMakerModel", rfl, by decide, tw_1762, Or.inl rfl, fun h => by cases h⟩
theorem lfg_X12_34 : xfl vcl RX12 62 false (10, 21) := ⟨_, "PartMakerModel", rfl, by decide, tw_1763, Or.inl rfl, fun h => by cases h⟩
theorem lfg_X12_35 : xfl vcl RX12 65 false (10, 22) := ⟨_, "PartMakerModel", rfl, by decide, tw_1764, Or.inl rfl, fun h => by cases h⟩
theorem lfg_X12_36 : xfl vcl RX12 77 false (10, 26) := ⟨_, "PartMakerModel", rfl, by decide, tw_1768, Or.inl rfl, fun h => by cases h⟩
theorem lfg_X12_37 : xfl vcl RX12 271 false (10, 39) := ⟨_, "PartMakerModel", rfl, by decide, tw_1781, Or.inl rfl, fun h => by cases h⟩
theorem lfg_X12_38 : xfl vcl RX12 102 false (10, 38) := ⟨_, "PartMakerModel", rfl, by decide, tw_1780, Or.inl rfl, fun h => by cases h⟩
theorem lfg_X12_39 : xfl vcl RX12 274 false (10, 40) := ⟨_, "PartMakerModel", rfl, by decide, tw_1782, Or.inl rfl, fun h => by cases h⟩
theorem lfg_X12_40 : xfl vcl RX12 277 false (10, 41) := ⟨_, "PartMakerModel", rfl, by decide, tw_1783, Or.inl rfl, fun h => by cases h⟩
theorem lfg_X12_41 : xfl vcl RX12 217 false (10, 36) := ⟨_, "PartMakerModel", rfl, by decide, tw_1778, Or.inl rfl, fun h => by cases h⟩
theorem lfg_X12_42 : xfl vcl RX12 105 false (10, 42) := ⟨_, "PartMakerModel", rfl, by decide, tw_1784, Or.inl rfl, fun h => by cases h⟩
theorem lfg_X12_43 : xfl vcl RX12 108 false (10, 43) := ⟨_, "PartMakerModel", rfl, by decide, tw_1785, Or.inl rfl, fun h => by cases h⟩
theorem lfg_X12_44 : xfl vcl RX12 115 false (10, 46) := ⟨_, "PartMakerModel", rfl, by decide, tw_1788, Or.inl rfl, fun h => by cases h⟩
theorem lfg_X12_45 : xfl vcl RX12 313 false (10, 47) := ⟨_, "PartMakerModel", rfl, by decide, tw_1789, Or.inl rfl, fun h => by cases h⟩
theorem lfg_X12_46 : xfl vcl RX12 111 false (10, 44) := ⟨_, "PartMakerModel", rfl, by decide, tw_1786, Or.inl rfl, fun h => by cases h⟩
theorem lfg_X12_47 : xfl vcl RX12 328 false (10, 45) := ⟨_, "PartMakerModel", rfl, by decide, tw_1787, Or.inl rfl, fun h => by cases h⟩
theorem lfg_X12_48 : xfl vcl RX12 139 false (10, 57) := ⟨_, "PartMakerModel", rfl, by decide, tw_1799, Or.inl rfl, fun h => by cases h⟩
theorem lfg_X12_49 : xfl vcl RX12 142 false (10, 58) := ⟨_, "PartMakerModel", rfl, by decide, tw_1800, Or.inl rfl, fun h => by cases h⟩
theorem lfg_X12_50 : xfl vcl RX12 118 false (10, 48) := ⟨_, "PartMakerModel", rfl, by decide, tw_1790, Or.inl rfl, fun h => by cases h⟩
theorem lfg_X12_51 : xfl vcl RX12 121 false (10, 49) := ⟨_, "PartMakerModel", rfl, by decide, tw_1791, Or.inl rfl, fun h => by cases h⟩
theorem lfg_X12_52 : xfl vcl RX12 133 false (10, 55) := ⟨_, "PartMakerModel", rfl, by decide, tw_1797, Or.inl rfl, fun h => by cases h⟩
theorem lfg_X12_53 : xfl vcl RX12 127 false (10, 53) := ⟨_, "PartMakerModel", rfl, by decide, tw_1795, Or.inl rfl, fun h => by cases h⟩
theorem lfg_X12_54 : xfl vcl RX12 124 false (10, 52) := ⟨_, "PartMakerModel", rfl, by decide, tw_1794, Or.inl rfl, fun h => by cases h⟩
theorem lfg_X12_55 : xfl vcl RX12 130 false (10, 54) := ⟨_, "PartMakerModel", rfl, by decide, tw_1796, Or.inl rfl, fun h => by cases h⟩
theorem lfg_X12_56 : xfl vcl RX12 136 false (10, 56) := ⟨_, "PartMakerModel", rfl, by decide, tw_1798, Or.inl rfl, fun h => by cases h⟩
theorem lfg_X12_57 : xfl vcl RX12 145 false (10, 59) := ⟨_, "PartMakerModel", rfl, by decide, tw_1801, Or.inl rfl, fun h => by cases h⟩
theorem lfg_X12_58 : xfl vcl RX12 176 false (10, 50) := ⟨_, "PartMakerModel", rfl, by decide, tw_1792, Or.inl rfl, fun h => by cases h⟩
theorem lfg_X12_59 : xfl vcl RX12 154 false (10, 63) := ⟨_, "PartMakerModel", rfl, by decide, tw_1805, Or.inl rfl, fun h => by cases h⟩
theorem lfg_X12_60 : xfl vcl RX12 401 false (10, 60) := ⟨_, "PartMakerModel", rfl, by decide, tw_1802, Or.inl rfl, fun h => by cases h⟩
theorem lfg_X12_61 : xfl vcl RX12 148 false (10, 61) := ⟨_, "PartMakerModel", rfl, by decide, tw_1803, Or.inl rfl, fun h => by cases h⟩
theorem lfg_X12_62 : xfl vcl RX12 151 false (10, 62) := ⟨_, "PartMakerModel", rfl, by decide, tw_1804, Or.inl rfl, fun h => by cases h⟩
theorem lfg_X12_63 : xfl vcl RX12 398 false (10, 51) := ⟨_, "PartMakerModel", rfl, by decide, tw_1793, Or.inl rfl, fun h => by cases h⟩
theorem lfg_X12_64 : xfl vcl RX12 158 false (10, 64) := ⟨_, "PartMakerModel", rfl, by decide, tw_1806, Or.inl rfl, fun h => by cases h⟩
theorem lfp_X12_0 : xfl vcl RX12 167 true (10, 8) := ⟨_, "PartMakerModel", rfl, by decide, tw_1750, Or.inl rfl, fun _ => rfl⟩
theorem lfp_X12_1 : xfl vcl RX12 170 true (10, 19) := ⟨_, "PartMakerModel", rfl, by decide, tw_1761, Or.inl rfl, fun _ => rfl⟩
theorem lfp_X12_2 : xfl vcl RX12 173 true (10, 33) := ⟨_, "PartMakerModel", rfl, by decide, tw_1775, Or.inl rfl, fun _ => rfl⟩
theorem lfp_X12_3 : xfl vcl RX12 176 true (10, 50) := ⟨_, "PartMakerModel", rfl, by decide, tw_1792, Or.inl rfl, fun _ => rfl⟩
theorem lfp_X12_4 : xfl vcl RX12 164 true (10, 0) := ⟨_, "PartMakerModel", rfl, by decide, tw_1742, Or.inl rfl, fun _ => rfl⟩
theorem lfp_X12_5 : xfl vcl RX12 7 true (10, 1) := ⟨_, "PartMakerModel", rfl, by decide, tw_1743, Or.inl rfl, fun _ => rfl⟩
theorem lfp_X12_6 : xfl vcl RX12 161 true (10, 4) := ⟨_, "PartMakerModel", rfl, by decide, tw_1746, Or.inl rfl, fun _ => rfl⟩
theorem lfp_X12_7 : xfl vcl RX12 16 true (10, 3) := ⟨_, "PartMakerModel", rfl, by decide, tw_1745, Or.inl rfl, fun _ => rfl⟩
theorem lfp_X12_8 : xfl vcl RX12 23 true (10, 6) := ⟨_, "PartMakerModel", rfl, by decide, tw_1748, Or.inl rfl, fun _ => rfl⟩
theorem lfp_X12_9 : xfl vcl RX12 13 true (10, 2) := ⟨_, "PartMakerModel", rfl, by decide, tw_1744, Or.inl rfl, fun _ => rfl⟩
theorem lfp_X12_10 : xfl vcl RX12 217 true (10, 36) := ⟨_, "PartMakerModel", rfl, by decide, tw_1778, Or.inl rfl, fun _ => rfl⟩
theorem lfp_X12_11 : xfl vcl RX12 214 true (10, 35) := ⟨_, "PartMakerModel", rfl, by decide, tw_1777, Or.inl rfl, fun _ => rfl⟩
theorem lfp_X12_12 : xfl vcl RX12 220 true (10, 37) := ⟨_, "PartMakerModel", rfl, by decide, tw_1779, Or.inl rfl, fun _ => rfl⟩
theorem lfp_X12_13 : xfl vcl RX12 271 true (10, 39) := ⟨_, "PartMakerModel", rfl, by decide, tw_1781, Or.inl rfl, fun _ => rfl⟩
theorem lfp_X12_14 : xfl vcl RX12 274 true (10, 40) := ⟨_, "PartMakerModel", rfl, by decide, tw_1782, Or.inl rfl, fun _ => rfl⟩
theorem lfp_X12_15 : xfl vcl RX12 277 true (10, 41) := ⟨_, "PartMakerModel", rfl, by decide, tw_1783, Or.inl rfl, fun _ => rfl⟩
theorem lfp_X12_16 : xfl vcl RX12 313 true (10, 47) := ⟨_, "PartMakerModel", rfl, by decide, tw_1789, Or.inl rfl, fun _ => rfl⟩
theorem lfp_X12_17 : xfl vcl RX12 328 true (10, 45) := ⟨_, "PartMakerModel", rfl, by decide, tw_1787, Or.inl rfl, fun _ => rfl⟩
theorem lfp_X12_18 : xfl vcl RX12 398 true (10, 51) := ⟨_, "PartMakerModel", rfl, by decide, tw_1793, Or.inl rfl, fun _ => rfl⟩
theorem lfp_X12_19 : xfl vcl RX12 401 true (10, 60) := ⟨_, "PartMakerModel", rfl, by decide, tw_1802, Or.inl rfl, fun _ => rfl⟩
theorem lfs_X12_0 : xcS MT RX12 180 3 155 := ⟨mX12_isIn, rfl, xb_X12_isIn, tw_1947, tw_1948⟩
theorem lfs_X12_1 : xcS MT RX12 197 1 164 := ⟨mX12_isPart, rfl, xb_X12_isPart, tw_1978, tw_1979⟩
theorem lfs_X12_2 : xcS MT RX12 211 1 172 := ⟨mX12_absolute, rfl, xb_X12_absolute, tw_2055, tw_2056⟩
theorem lfs_X12_3 : xcS MT RX12 238 3 173 := ⟨mX12_does, rfl, xb_X12_does, tw_2052, tw_2053⟩
theorem lfs_X12_4 : xcS MT RX12 242 1 174 := ⟨mX12_isOfOne, rfl, xb_X12_isOfOne, tw_2045, tw_2046⟩
theorem lfs_X12_5 : xcS MT RX12 248 1 175 := ⟨mX12_isAlikeRound, rfl, xb_X12_isAlikeRound, tw_2058, tw_2059⟩
theorem lfs_X12_6 : xcS MT RX12 347 1 208 := ⟨mX12_signOf, rfl, xb_X12_signOf, tw_2175, tw_2176⟩
theorem lfv_X12_0 : xcV MT vcl RX12 184 0 (some 0) (10, 157) := ⟨mX12_goes, _, rfl, rfl, xb_X12_goes, tw_1952, Or.inl ⟨rfl, tw_1950, tw_30⟩⟩
theorem lfv_X12_1 : xcV MT vcl RX12 187 3 (some 0) (10, 159) := ⟨mX12_areInputs, _, rfl, rfl, xb_X12_areInputs, tw_1960, Or.inl ⟨rfl, tw_1958, tw_31⟩⟩
theorem lfv_X12_2 : xcV MT vcl RX12 190 3 (some 0) (10, 160) := ⟨mX12_isThere, _, rfl, rfl, xb_X12_isThere, tw_1964, Or.inl ⟨rfl, tw_1962, tw_32⟩⟩
theorem lfv_X12_3 : xcV MT vcl RX12 193 1 (some 0) (10, 162) := ⟨mX12_isExample, _, rfl, rfl, xb_X12_isExample, tw_1972, Or.inl ⟨rfl, tw_1970, tw_33⟩⟩
theorem lfv_X12_4 : xcV MT vcl RX12 200 1 (some 0) (10, 166) := ⟨mX12_isConstant, _, rfl, rfl, xb_X12_isConstant, tw_1987, Or.inl ⟨rfl, tw_1985, tw_34⟩⟩
theorem lfv_X12_5 : xcV MT vcl RX12 203 1 (some 0) (10, 167) := ⟨mX12_comesConstant, _, rfl, rfl, xb_X12_comesConstant, tw_1991, Or.inl ⟨rfl, tw_1989, tw_35⟩⟩
theorem lfv_X12_6 : xcV MT vcl RX12 207 1 (some 0) (10, 169) := ⟨mX12_triesConstant, _, rfl, rfl, xb_X12_triesConstant, tw_1999, Or.inl ⟨rfl, tw_1997, tw_36⟩⟩
theorem lfv_X12_7 : xcV MT vcl RX12 223 0 (some 0) (10, 176) := ⟨mX12_may, _, rfl, rfl, xb_X12_may, tw_2031, Or.inl ⟨rfl, tw_2029, tw_42⟩⟩
theorem lfv_X12_8 : xcV MT vcl RX12 227 0 (some 0) (10, 177) := ⟨mX12_like, _, rfl, rfl, xb_X12_like, tw_2035, Or.inl ⟨rfl, tw_2033, tw_43⟩⟩
theorem lfv_X12_9 : xcV MT vcl RX12 231 0 (some 0) (10, 178) := ⟨mX12_coverNow, _, rfl, rfl, xb_X12_coverNow, tw_2039, Or.inl ⟨rfl, tw_2037, tw_44⟩⟩
theorem lfv_X12_10 : xcV MT vcl RX12 234 4 (some 0) (10, 179) := ⟨mX12_keeps, _, rfl, rfl, xb_X12_keeps, tw_2027, Or.inl ⟨rfl, tw_2025, tw_41⟩⟩
theorem lfv_X12_11 : xcV MT vcl RX12 245 4 (some 0) (10, 181) := ⟨mX12_makesOf, _, rfl, rfl, xb_X12_makesOf, tw_2050, Or.inl ⟨rfl, tw_2048, tw_46⟩⟩
theorem lfv_X12_12 : xcV MT vcl RX12 251 0 (some 0) (10, 180) := ⟨mX12_makesLeaves, _, rfl, rfl, xb_X12_makesLeaves, tw_2023, Or.inl ⟨rfl, tw_2021, tw_40⟩⟩
theorem lfv_X12_13 : xcV MT vcl RX12 254 3 (some 0) (10, 182) := ⟨mX12_makesBy, _, rfl, rfl, xb_X12_makesBy, tw_2043, Or.inl ⟨rfl, tw_2041, tw_45⟩⟩
theorem lfv_X12_14 : xcV MT vcl RX12 257 0 (some 0) (10, 156) := ⟨mX12_all, _, rfl, rfl, xb_X12_all, tw_2079, Or.inl ⟨rfl, tw_2077, tw_51⟩⟩
theorem lfv_X12_15 : xcV MT vcl RX12 260 3 (some 0) (10, 185) := ⟨mX12_compared, _, rfl, rfl, xb_X12_compared, tw_2071, Or.inl ⟨rfl, tw_2069, tw_49⟩⟩
theorem lfv_X12_16 : xcV MT vcl RX12 263 5 (some 0) (10, 184) := ⟨mX12_keepsTest, _, rfl, rfl, xb_X12_keepsTest, tw_2075, Or.inl ⟨rfl, tw_2073, tw_50⟩⟩
theorem lfv_X12_17 : xcV MT vcl RX12 267 2 (some 0) (10, 186) := ⟨mX12_makesCompared, _, rfl, rfl, xb_X12_makesCompared, tw_2067, Or.inl ⟨rfl, tw_2065, tw_48⟩⟩
theorem lfv_X12_18 : xcV MT vcl RX12 280 1 (some 0) (10, 188) := ⟨mX12_remembers, _, rfl, rfl, xb_X12_remembers, tw_2015, Or.inl ⟨rfl, tw_2013, tw_38⟩⟩
theorem lfv_X12_19 : xcV MT vcl RX12 283 1 (some 0) (10, 183) := ⟨mX12_makesSize, _, rfl, rfl, xb_X12_makesSize, tw_2019, Or.inl ⟨rfl, tw_2017, tw_39⟩⟩
theorem lfv_X12_20 : xcV MT vcl RX12 286 1 (some 0) (10, 187) := ⟨mX12_makesTests, _, rfl, rfl, xb_X12_makesTests, tw_2063, Or.inl ⟨rfl, tw_2061, tw_47⟩⟩
theorem lfv_X12_21 : xcV MT vcl RX12 289 1 (some 0) (10, 189) := ⟨mX12_putsBack, _, rfl, rfl, xb_X12_putsBack, tw_2083, Or.inl ⟨rfl, tw_2081, tw_52⟩⟩
theorem lfv_X12_22 : xcV MT vcl RX12 292 1 (some 0) (10, 190) := ⟨mX12_grows, _, rfl, rfl, xb_X12_grows, tw_2011, Or.inl ⟨rfl, tw_2009, tw_37⟩⟩
theorem lfv_X12_23 : xcV MT vcl RX12 295 2 (some 0) (10, 193) := ⟨mX12_isKept, _, rfl, rfl, xb_X12_isKept, tw_2095, Or.inl ⟨rfl, tw_2093, tw_53⟩⟩
theorem lfv_X12_24 : xcV MT vcl RX12 299 4 (some 0) (10, 196) := ⟨mX12_valueOf, _, rfl, rfl, xb_X12_valueOf, tw_2115, Or.inl ⟨rfl, tw_2113, tw_56⟩⟩
theorem lfv_X12_25 : xcV MT vcl RX12 303 1 (some 0) (10, 197) := ⟨mX12_holdsNow, _, rfl, rfl, xb_X12_holdsNow, tw_2119, Or.inl ⟨rfl, tw_2117, tw_57⟩⟩
theorem lfv_X12_26 : xcV MT vcl RX12 306 2 (some 0) (10, 199) := ⟨mX12_laysMerged, _, rfl, rfl, xb_X12_laysMerged, tw_2107, Or.inl ⟨rfl, tw_2105, tw_54⟩⟩
theorem lfv_X12_27 : xcV MT vcl RX12 309 3 (some 0) (10, 198) := ⟨mX12_reckons, _, rfl, rfl, xb_X12_reckons, tw_2111, Or.inl ⟨rfl, tw_2109, tw_55⟩⟩
theorem lfv_X12_28 : xcV MT vcl RX12 325 1 (some 0) (10, 203) := ⟨mX12_pushes, _, rfl, rfl, xb_X12_pushes, tw_2139, Or.inl ⟨rfl, tw_2137, tw_59⟩⟩
theorem lfv_X12_29 : xcV MT vcl RX12 331 1 (some 0) (10, 205) := ⟨mX12_puts, _, rfl, rfl, xb_X12_puts, tw_2143, Or.inl ⟨rfl, tw_2141, tw_60⟩⟩
theorem lfv_X12_30 : xcV MT vcl RX12 334 1 (some 0) (10, 206) := ⟨mX12_putsNumber, _, rfl, rfl, xb_X12_putsNumber, tw_2170, Or.inl ⟨rfl, tw_2168, tw_66⟩⟩
theorem lfv_X12_31 : xcV MT vcl RX12 343 1 (some 0) (10, 204) := ⟨mX12_pushesWord, _, rfl, rfl, xb_X12_pushesWord, tw_2156, Or.inl ⟨rfl, tw_2154, tw_63⟩⟩
theorem lfv_X12_32 : xcV MT vcl RX12 350 4 (some 0) (10, 207) := ⟨mX12_pushesTwo, _, rfl, rfl, xb_X12_pushesTwo, tw_2162, Or.inl ⟨rfl, tw_2160, tw_64⟩⟩
theorem lfv_X12_33 : xcV MT vcl RX12 360 1 (some 0) (10, 211) := ⟨mX12_writesNode, _, rfl, rfl, xb_X12_writesNode, tw_2147, Or.inl ⟨rfl, tw_2145, tw_61⟩⟩
theorem lfv_X12_34 : xcV MT vcl RX12 363 1 (some 0) (10, 210) := ⟨mX12_writesTest, _, rfl, rfl, xb_X12_writesTest, tw_2151, Or.inl ⟨rfl, tw_2149, tw_62⟩⟩
theorem lfv_X12_35 : xcV MT vcl RX12 366 1 (some 0) (10, 209) := ⟨mX12_writesExpression, _, rfl, rfl, xb_X12_writesExpression, tw_2166, Or.inl ⟨rfl, tw_2164, tw_65⟩⟩
theorem lfv_X12_36 : xcV MT vcl RX12 369 1 (some 0) (10, 212) := ⟨mX12_writes, _, rfl, rfl, xb_X12_writes, tw_2135, Or.inl ⟨rfl, tw_2133, tw_58⟩⟩
theorem lfv_X12_37 : xcV MT vcl RX12 372 1 (some 0) (10, 216) := ⟨mX12_isSet, _, rfl, rfl, xb_X12_isSet, tw_2194, Or.inl ⟨rfl, tw_2192, tw_67⟩⟩
theorem lfv_X12_38 : xcV MT vcl RX12 375 1 (some 0) (10, 221) := ⟨mX12_countsPart, _, rfl, rfl, xb_X12_countsPart, tw_2214, Or.inl ⟨rfl, tw_2212, tw_68⟩⟩
theorem lfv_X12_39 : xcV MT vcl RX12 381 1 (some 0) (10, 223) := ⟨mX12_farOf, _, rfl, rfl, xb_X12_farOf, tw_2222, Or.inl ⟨rfl, tw_2220, tw_69⟩⟩
theorem lfv_X12_40 : xcV MT vcl RX12 384 1 (some 0) (10, 226) := ⟨mX12_leafOf, _, rfl, rfl, xb_X12_leafOf, tw_2248, Or.inl ⟨rfl, tw_2246, tw_73⟩⟩
theorem lfv_X12_41 : xcV MT vcl RX12 387 2 (some 0) (10, 227) := ⟨mX12_laysSet, _, rfl, rfl, xb_X12_laysSet, tw_2252, Or.inl ⟨rfl, tw_2250, tw_74⟩⟩
theorem lfv_X12_42 : xcV MT vcl RX12 391 1 (some 0) (10, 229) := ⟨mX12_bars, _, rfl, rfl, xb_X12_bars, tw_2240, Or.inl ⟨rfl, tw_2238, tw_71⟩⟩
theorem lfv_X12_43 : xcV MT vcl RX12 394 2 (some 0) (10, 228) := ⟨mX12_lays, _, rfl, rfl, xb_X12_lays, tw_2244, Or.inl ⟨rfl, tw_2242, tw_72⟩⟩
theorem lfv_X12_44 : xcV MT vcl RX12 404 2 (some 0) (10, 230) := ⟨mX12_laysTree, _, rfl, rfl, xb_X12_laysTree, tw_2256, Or.inl ⟨rfl, tw_2254, tw_75⟩⟩
theorem lfv_X12_45 : xcV MT vcl RX12 407 1 (some 0) (10, 231) := ⟨mX12_solves, _, rfl, rfl, xb_X12_solves, tw_2236, Or.inl ⟨rfl, tw_2234, tw_70⟩⟩
theorem lfv_X12_46 : xcV MT vcl RX12 412 2 (some 0) (10, 234) := ⟨mX12_laysWays, _, rfl, rfl, xb_X12_laysWays, tw_2268, Or.inl ⟨rfl, tw_2266, tw_76⟩⟩
theorem lfv_X12_47 : xcV MT vcl RX12 415 1 (some 0) (10, 239) := ⟨mX12_innermost, _, rfl, rfl, xb_X12_innermost, tw_2289, Or.inl ⟨rfl, tw_2287, tw_77⟩⟩
theorem lfv_X12_48 : xcV MT vcl RX12 418 0 (some 0) (10, 241) := ⟨mX12_comesNow, _, rfl, rfl, xb_X12_comesNow, tw_2297, Or.inl ⟨rfl, tw_2295, tw_78⟩⟩
theorem lfs_J7_0 : xcS MT RJ7 13 3 254 := ⟨mJ7_rangeCheck_23922, rfl, xb_J7_rangeCheck_23922, tw_599, tw_600⟩
def ltX0 : xLT := ([(18, 0, 2), (14, 0, 1), (11, 0, 0)], [(18, 0, 2)], [], [], [], [], [21], [], [])
theorem ltokX0 : xLTok MT RX0 ltX0 := ⟨(List.forall_mem_cons.mpr ⟨lfg_X0_0, List.forall_mem_cons.mpr ⟨lfg_X0_1, List.forall_mem_cons.mpr ⟨lfg_X0_2, fun _ h => absurd h List.not_mem_nil⟩⟩⟩), (List.forall_mem_cons.mpr ⟨lfp_X0_0, fun _ h => absurd h List.not_mem_nil⟩), (fun _ h => absurd h List.not_mem_nil), (fun _ h => absurd h List.not_mem_nil), (fun _ h => absurd h List.not_mem_nil), (fun _ h => absurd h List.not_mem_nil), (List.forall_mem_cons.mpr ⟨tw_1200, fun _ h => absurd h List.not_mem_nil⟩), (fun _ h => absurd h List.not_mem_nil), (fun _ h => absurd h List.not_mem_nil)⟩
def ltX1 : xLT := ([(28, 1, 18), (61, 1, 0), (65, 0, 1), (73, 6, 1), (76, 6, 0), (93, 1, 9), (96, 0, 0), (15, 1, 19), (100, 0, 2), (19, 1, 20), (119, 1, 23), (22, 1, 21), (25, 1, 22), (130, 1, 5), (133, 1, 4), (137, 2, 0), (142, 2, 1), (145, 1, 1), (153, 2, 2)], [(119, 1, 23)], [(51, 1, 38), (86, 1, 39), (109, 4, 256), (112, 3, 40), (166, 1, 41)], [(38, 0, 0, 1, 7), (42, 0, 0, 1, 8), (45, 1, 0, 6, 73), (54, 2, 0, 1, 9), (58, 2, 0, 1, 10), (69, 3, 1, 1, 34), (79, 1, 1, 1, 30), (83, 1, 1, 1, 31), (89, 4, 1, 1, 35), (116, 1, 0, 1, 12), (123, 1, 0, 1, 15), (126, 2, 0, 1, 19), (149, 4, 0, 1, 20), (156, 1, 0, 8, 94), (162, 1, 0, 8, 96), (170, 1, 0, 8, 95), (174, 4, 0, 1, 21)], [(122, (-1640531535)), (184, 1000000)], [(182, 1000000)], [103], [], [])
theorem ltokX1 : xLTok MT RX1 ltX1 := ⟨(List.forall_mem_cons.mpr ⟨lfg_X1_0, List.forall_mem_cons.mpr ⟨lfg_X1_1, List.forall_mem_cons.mpr ⟨lfg_X1_2, List.forall_mem_cons.mpr ⟨lfg_X1_3, List.forall_mem_cons.mpr ⟨lfg_X1_4, List.forall_mem_cons.mpr ⟨lfg_X1_5, List.forall_mem_cons.mpr ⟨lfg_X1_6, List.forall_mem_cons.mpr ⟨lfg_X1_7, List.forall_mem_cons.mpr ⟨lfg_X1_8, List.forall_mem_cons.mpr ⟨lfg_X1_9, List.forall_mem_cons.mpr ⟨lfg_X1_10, List.forall_mem_cons.mpr ⟨lfg_X1_11, List.forall_mem_cons.mpr ⟨lfg_X1_12, List.forall_mem_cons.mpr ⟨lfg_X1_13, List.forall_mem_cons.mpr ⟨lfg_X1_14, List.forall_mem_cons.mpr ⟨lfg_X1_15, List.forall_mem_cons.mpr ⟨lfg_X1_16, List.forall_mem_cons.mpr ⟨lfg_X1_17, List.forall_mem_cons.mpr ⟨lfg_X1_18, fun _ h => absurd h List.not_mem_nil⟩⟩⟩⟩⟩⟩⟩⟩⟩⟩⟩⟩⟩⟩⟩⟩⟩⟩⟩), (List.forall_mem_cons.mpr ⟨lfp_X1_0, fun _ h => absurd h List.not_mem_nil⟩), (List.forall_mem_cons.mpr ⟨lfs_X1_0, List.forall_mem_cons.mpr ⟨lfs_X1_1, List.forall_mem_cons.mpr ⟨lfs_X1_2, List.forall_mem_cons.mpr ⟨lfs_X1_3, List.forall_mem_cons.mpr ⟨lfs_X1_4, fun _ h => absurd h List.not_mem_nil⟩⟩⟩⟩⟩), (List.forall_mem_cons.mpr ⟨lfv_X1_0, List.forall_mem_cons.mpr ⟨lfv_X1_1, List.forall_mem_cons.mpr ⟨lfv_X1_2, List.forall_mem_cons.mpr ⟨lfv_X1_3, List.forall_mem_cons.mpr ⟨lfv_X1_4, List.forall_mem_cons.mpr ⟨lfv_X1_5, List.forall_mem_cons.mpr ⟨lfv_X1_6, List.forall_mem_cons.mpr ⟨lfv_X1_7, List.forall_mem_cons.mpr ⟨lfv_X1_8, List.forall_mem_cons.mpr ⟨lfv_X1_9, List.forall_mem_cons.mpr ⟨lfv_X1_10, List.forall_mem_cons.mpr ⟨lfv_X1_11, List.forall_mem_cons.mpr ⟨lfv_X1_12, List.forall_mem_cons.mpr ⟨lfv_X1_13, List.forall_mem_cons.mpr ⟨lfv_X1_14, List.forall_mem_cons.mpr ⟨lfv_X1_15, List.forall_mem_cons.mpr ⟨lfv_X1_16, fun _ h => absurd h List.not_mem_nil⟩⟩⟩⟩⟩⟩⟩⟩⟩⟩⟩⟩⟩⟩⟩⟩⟩), (List.forall_mem_cons.mpr ⟨tw_913, List.forall_mem_cons.mpr ⟨tw_1066, fun _ h => absurd h List.not_mem_nil⟩⟩), (List.forall_mem_cons.mpr ⟨tw_1065, fun _ h => absurd h List.not_mem_nil⟩), (List.forall_mem_cons.mpr ⟨tw_595, fun _ h => absurd h List.not_mem_nil⟩), (fun _ h => absurd h List.not_mem_nil), (fun _ h => absurd h List.not_mem_nil)⟩
def ltX2 : xLT := ([(7, 2, 0), (13, 2, 1), (16, 2, 2)], [], [], [], [], [], [], [], [])
theorem ltokX2 : xLTok MT RX2 ltX2 := ⟨(List.forall_mem_cons.mpr ⟨lfg_X2_0, List.forall_mem_cons.mpr ⟨lfg_X2_1, List.forall_mem_cons.mpr ⟨lfg_X2_2, fun _ h => absurd h List.not_mem_nil⟩⟩⟩), (fun _ h => absurd h List.not_mem_nil), (fun _ h => absurd h List.not_mem_nil), (fun _ h => absurd h List.not_mem_nil), (fun _ h => absurd h List.not_mem_nil), (fun _ h => absurd h List.not_mem_nil), (fun _ h => absurd h List.not_mem_nil), (fun _ h => absurd h List.not_mem_nil), (fun _ h => absurd h List.not_mem_nil)⟩
def ltX3 : xLT := ([(20, 1, 1), (20, 7, 1), (24, 1, 2), (24, 7, 2), (31, 1, 4), (31, 7, 4), (44, 1, 8), (44, 7, 8), (9, 1, 0), (9, 7, 0), (85, 0, 2), (75, 1, 14), (75, 7, 14), (72, 1, 13), (72, 7, 13), (90, 1, 9), (90, 7, 9), (62, 1, 10), (62, 7, 10), (66, 1, 11), (66, 7, 11), (69, 1, 12), (69, 7, 12), (38, 1, 6), (38, 7, 6), (41, 1, 7), (41, 7, 7), (103, 1, 15), (103, 7, 15), (109, 1, 17), (109, 7, 17), (106, 1, 16), (106, 7, 16), (27, 1, 3), (27, 7, 3)], [(62, 1, 10), (62, 7, 10), (66, 1, 11), (66, 7, 11), (69, 1, 12), (69, 7, 12), (72, 1, 13), (72, 7, 13), (75, 1, 14), (75, 7, 14), (103, 1, 15), (103, 7, 15), (106, 1, 16), (106, 7, 16), (109, 1, 17), (109, 7, 17), (90, 1, 9), (90, 7, 9)], [(79, 2, 255), (116, 4, 256)], [(47, 4, 1, 1, 20), (47, 4, 1, 7, 91), (51, 4, 1, 1, 21), (51, 4, 1, 7, 92), (55, 2, 1, 1, 28), (55, 2, 1, 7, 28), (59, 1, 1, 1, 37), (59, 1, 1, 7, 37), (99, 0, 1, 1, 5), (99, 0, 1, 7, 78), (112, 1, 1, 1, 6), (112, 1, 1, 7, 79), (119, 3, 1, 1, 11), (119, 3, 1, 7, 83), (123, 0, 1, 1, 13), (123, 0, 1, 7, 85), (127, 0, 1, 1, 14), (127, 0, 1, 7, 86), (130, 4, 1, 1, 36), (130, 4, 1, 7, 36), (134, 4, 0, 2, 23), (137, 3, 1, 1, 18), (137, 3, 1, 7, 89), (141, 1, 1, 1, 16), (141, 1, 1, 7, 87), (144, 3, 1, 1, 34), (144, 3, 1, 7, 34), (148, 1, 1, 1, 17), (148, 1, 1, 7, 88)], [], [], [93], [], [])
theorem ltokX3 : xLTok MT RX3 ltX3 := ⟨(List.forall_mem_cons.mpr ⟨lfg_X3_0, List.forall_mem_cons.mpr ⟨lfg_X3_1, List.forall_mem_cons.mpr ⟨lfg_X3_2, List.forall_mem_cons.mpr ⟨lfg_X3_3, List.forall_mem_cons.mpr ⟨lfg_X3_4, List.forall_mem_cons.mpr ⟨lfg_X3_5, List.forall_mem_cons.mpr ⟨lfg_X3_6, List.forall_mem_cons.mpr ⟨lfg_X3_7, List.forall_mem_cons.mpr ⟨lfg_X3_8, List.forall_mem_cons.mpr ⟨lfg_X3_9, List.forall_mem_cons.mpr ⟨lfg_X3_10, List.forall_mem_cons.mpr ⟨lfg_X3_11, List.forall_mem_cons.mpr ⟨lfg_X3_12, List.forall_mem_cons.mpr ⟨lfg_X3_13, List.forall_mem_cons.mpr ⟨lfg_X3_14, List.forall_mem_cons.mpr ⟨lfg_X3_15, List.forall_mem_cons.mpr ⟨lfg_X3_16, List.forall_mem_cons.mpr ⟨lfg_X3_17, List.forall_mem_cons.mpr ⟨lfg_X3_18, List.forall_mem_cons.mpr ⟨lfg_X3_19, List.forall_mem_cons.mpr ⟨lfg_X3_20, List.forall_mem_cons.mpr ⟨lfg_X3_21, List.forall_mem_cons.mpr ⟨lfg_X3_22, List.forall_mem_cons.mpr ⟨lfg_X3_23, List.forall_mem_cons.mpr ⟨lfg_X3_24, List.forall_mem_cons.mpr ⟨lfg_X3_25, List.forall_mem_cons.mpr ⟨lfg_X3_26, List.forall_mem_cons.mpr ⟨lfg_X3_27, List.forall_mem_cons.mpr ⟨lfg_X3_28, List.forall_mem_cons.mpr ⟨lfg_X3_29, List.forall_mem_cons.mpr ⟨lfg_X3_30, List.forall_mem_cons.mpr ⟨lfg_X3_31, List.forall_mem_cons.mpr ⟨lfg_X3_32, List.forall_mem_cons.mpr ⟨lfg_X3_33, List.forall_mem_cons.mpr ⟨lfg_X3_34, fun _ h => absurd h List.not_mem_nil⟩⟩⟩⟩⟩⟩⟩⟩⟩⟩⟩⟩⟩⟩⟩⟩⟩⟩⟩⟩⟩⟩⟩⟩⟩⟩⟩⟩⟩⟩⟩⟩⟩⟩⟩), (List.forall_mem_cons.mpr ⟨lfp_X3_0, List.forall_mem_cons.mpr ⟨lfp_X3_1, List.forall_mem_cons.mpr ⟨lfp_X3_2, List.forall_mem_cons.mpr ⟨lfp_X3_3, List.forall_mem_cons.mpr ⟨lfp_X3_4, List.forall_mem_cons.mpr ⟨lfp_X3_5, List.forall_mem_cons.mpr ⟨lfp_X3_6, List.forall_mem_cons.mpr ⟨lfp_X3_7, List.forall_mem_cons.mpr ⟨lfp_X3_8, List.forall_mem_cons.mpr ⟨lfp_X3_9, List.forall_mem_cons.mpr ⟨lfp_X3_10, List.forall_mem_cons.mpr ⟨lfp_X3_11, List.forall_mem_cons.mpr ⟨lfp_X3_12, List.forall_mem_cons.mpr ⟨lfp_X3_13, List.forall_mem_cons.mpr ⟨lfp_X3_14, List.forall_mem_cons.mpr ⟨lfp_X3_15, List.forall_mem_cons.mpr ⟨lfp_X3_16, List.forall_mem_cons.mpr ⟨lfp_X3_17, fun _ h => absurd h List.not_mem_nil⟩⟩⟩⟩⟩⟩⟩⟩⟩⟩⟩⟩⟩⟩⟩⟩⟩⟩), (List.forall_mem_cons.mpr ⟨lfs_X3_0, List.forall_mem_cons.mpr ⟨lfs_X3_1, fun _ h => absurd h List.not_mem_nil⟩⟩), (List.forall_mem_cons.mpr ⟨lfv_X3_0, List.forall_mem_cons.mpr ⟨lfv_X3_1, List.forall_mem_cons.mpr ⟨lfv_X3_2, List.forall_mem_cons.mpr ⟨lfv_X3_3, List.forall_mem_cons.mpr ⟨lfv_X3_4, List.forall_mem_cons.mpr ⟨lfv_X3_5, List.forall_mem_cons.mpr ⟨lfv_X3_6, List.forall_mem_cons.mpr ⟨lfv_X3_7, List.forall_mem_cons.mpr ⟨lfv_X3_8, List.forall_mem_cons.mpr ⟨lfv_X3_9, List.forall_mem_cons.mpr ⟨lfv_X3_10, List.forall_mem_cons.mpr ⟨lfv_X3_11, List.forall_mem_cons.mpr ⟨lfv_X3_12, List.forall_mem_cons.mpr ⟨lfv_X3_13, List.forall_mem_cons.mpr ⟨lfv_X3_14, List.forall_mem_cons.mpr ⟨lfv_X3_15, List.forall_mem_cons.mpr ⟨lfv_X3_16, List.forall_mem_cons.mpr ⟨lfv_X3_17, List.forall_mem_cons.mpr ⟨lfv_X3_18, List.forall_mem_cons.mpr ⟨lfv_X3_19, List.forall_mem_cons.mpr ⟨lfv_X3_20, List.forall_mem_cons.mpr ⟨lfv_X3_21, List.forall_mem_cons.mpr ⟨lfv_X3_22, List.forall_mem_cons.mpr ⟨lfv_X3_23, List.forall_mem_cons.mpr ⟨lfv_X3_24, List.forall_mem_cons.mpr ⟨lfv_X3_25, List.forall_mem_cons.mpr ⟨lfv_X3_26, List.forall_mem_cons.mpr ⟨lfv_X3_27, List.forall_mem_cons.mpr ⟨lfv_X3_28, fun _ h => absurd h List.not_mem_nil⟩⟩⟩⟩⟩⟩⟩⟩⟩⟩⟩⟩⟩⟩⟩⟩⟩⟩⟩⟩⟩⟩⟩⟩⟩⟩⟩⟩⟩), (fun _ h => absurd h List.not_mem_nil), (fun _ h => absurd h List.not_mem_nil), (List.forall_mem_cons.mpr ⟨tw_561, fun _ h => absurd h List.not_mem_nil⟩), (fun _ h => absurd h List.not_mem_nil), (fun _ h => absurd h List.not_mem_nil)⟩
def ltX4 : xLT := ([], [], [], [], [], [], [], [], [])
theorem ltokX4 : xLTok MT RX4 ltX4 := ⟨(fun _ h => absurd h List.not_mem_nil), (fun _ h => absurd h List.not_mem_nil), (fun _ h => absurd h List.not_mem_nil), (fun _ h => absurd h List.not_mem_nil), (fun _ h => absurd h List.not_mem_nil), (fun _ h => absurd h List.not_mem_nil), (fun _ h => absurd h List.not_mem_nil), (fun _ h => absurd h List.not_mem_nil), (fun _ h => absurd h List.not_mem_nil)⟩
def ltX5 : xLT := ([(9, 3, 0)], [], [], [], [], [], [], [], [])
theorem ltokX5 : xLTok MT RX5 ltX5 := ⟨(List.forall_mem_cons.mpr ⟨lfg_X5_0, fun _ h => absurd h List.not_mem_nil⟩), (fun _ h => absurd h List.not_mem_nil), (fun _ h => absurd h List.not_mem_nil), (fun _ h => absurd h List.not_mem_nil), (fun _ h => absurd h List.not_mem_nil), (fun _ h => absurd h List.not_mem_nil), (fun _ h => absurd h List.not_mem_nil), (fun _ h => absurd h List.not_mem_nil), (fun _ h => absurd h List.not_mem_nil)⟩
def ltX6 : xLT := ([(11, 4, 2), (15, 4, 3), (22, 4, 1), (18, 4, 0)], [], [(26, 2, 255), (42, 2, 45), (57, 1, 46)], [(32, 1, 0, 4, 52), (36, 2, 1, 7, 24), (46, 2, 1, 1, 24), (49, 2, 0, 7, 90), (53, 2, 1, 7, 28), (56, 2, 1, 1, 28), (60, 2, 1, 1, 26), (64, 1, 0, 8, 94), (70, 2, 1, 7, 26), (71, 2, 0, 4, 57)], [], [], [], [], [])
theorem ltokX6 : xLTok MT RX6 ltX6 := ⟨(List.forall_mem_cons.mpr ⟨lfg_X6_0, List.forall_mem_cons.mpr ⟨lfg_X6_1, List.forall_mem_cons.mpr ⟨lfg_X6_2, List.forall_mem_cons.mpr ⟨lfg_X6_3, fun _ h => absurd h List.not_mem_nil⟩⟩⟩⟩), (fun _ h => absurd h List.not_mem_nil), (List.forall_mem_cons.mpr ⟨lfs_X6_0, List.forall_mem_cons.mpr ⟨lfs_X6_1, List.forall_mem_cons.mpr ⟨lfs_X6_2, fun _ h => absurd h List.not_mem_nil⟩⟩⟩), (List.forall_mem_cons.mpr ⟨lfv_X6_0, List.forall_mem_cons.mpr ⟨lfv_X6_1, List.forall_mem_cons.mpr ⟨lfv_X6_2, List.forall_mem_cons.mpr ⟨lfv_X6_3, List.forall_mem_cons.mpr ⟨lfv_X6_4, List.forall_mem_cons.mpr ⟨lfv_X6_5, List.forall_mem_cons.mpr ⟨lfv_X6_6, List.forall_mem_cons.mpr ⟨lfv_X6_7, List.forall_mem_cons.mpr ⟨lfv_X6_8, List.forall_mem_cons.mpr ⟨lfv_X6_9, fun _ h => absurd h List.not_mem_nil⟩⟩⟩⟩⟩⟩⟩⟩⟩⟩), (fun _ h => absurd h List.not_mem_nil), (fun _ h => absurd h List.not_mem_nil), (fun _ h => absurd h List.not_mem_nil), (fun _ h => absurd h List.not_mem_nil), (fun _ h => absurd h List.not_mem_nil)⟩
def ltX7 : xLT := ([(51, 5, 11), (39, 5, 1), (55, 1, 9), (58, 5, 12), (43, 5, 2), (61, 7, 9), (47, 5, 13), (62, 5, 10), (35, 5, 0), (21, 5, 4), (24, 5, 5), (27, 5, 6), (13, 5, 3), (83, 1, 3), (32, 5, 7), (85, 5, 8), (96, 1, 5), (92, 5, 9), (110, 7, 3), (111, 7, 5), (121, 4, 2), (124, 4, 3)], [(47, 5, 13), (62, 5, 10), (51, 5, 11), (58, 5, 12), (85, 5, 8), (92, 5, 9)], [(69, 4, 256), (112, 1, 46), (127, 2, 45)], [(65, 0, 0, 0, 0), (75, 0, 0, 5, 60), (78, 1, 0, 5, 61), (88, 2, 1, 7, 29), (95, 2, 1, 1, 29), (99, 2, 0, 5, 63), (103, 2, 0, 5, 64), (106, 3, 0, 5, 65), (118, 3, 0, 5, 67), (131, 4, 0, 5, 66), (135, 2, 0, 5, 69), (138, 2, 0, 5, 68), (149, 1, 0, 5, 71)], [(82, 1000000)], [(141, 1000000000)], [], [153], [143])
theorem ltokX7 : xLTok MT RX7 ltX7 := ⟨(List.forall_mem_cons.mpr ⟨lfg_X7_0, List.forall_mem_cons.mpr ⟨lfg_X7_1, List.forall_mem_cons.mpr ⟨lfg_X7_2, List.forall_mem_cons.mpr ⟨lfg_X7_3, List.forall_mem_cons.mpr ⟨lfg_X7_4, List.forall_mem_cons.mpr ⟨lfg_X7_5, List.forall_mem_cons.mpr ⟨lfg_X7_6, List.forall_mem_cons.mpr ⟨lfg_X7_7, List.forall_mem_cons.mpr ⟨lfg_X7_8, List.forall_mem_cons.mpr ⟨lfg_X7_9, List.forall_mem_cons.mpr ⟨lfg_X7_10, List.forall_mem_cons.mpr ⟨lfg_X7_11, List.forall_mem_cons.mpr ⟨lfg_X7_12, List.forall_mem_cons.mpr ⟨lfg_X7_13, List.forall_mem_cons.mpr ⟨lfg_X7_14, List.forall_mem_cons.mpr ⟨lfg_X7_15, List.forall_mem_cons.mpr ⟨lfg_X7_16, List.forall_mem_cons.mpr ⟨lfg_X7_17, List.forall_mem_cons.mpr ⟨lfg_X7_18, List.forall_mem_cons.mpr ⟨lfg_X7_19, List.forall_mem_cons.mpr ⟨lfg_X7_20, List.forall_mem_cons.mpr ⟨lfg_X7_21, fun _ h => absurd h List.not_mem_nil⟩⟩⟩⟩⟩⟩⟩⟩⟩⟩⟩⟩⟩⟩⟩⟩⟩⟩⟩⟩⟩⟩), (List.forall_mem_cons.mpr ⟨lfp_X7_0, List.forall_mem_cons.mpr ⟨lfp_X7_1, List.forall_mem_cons.mpr ⟨lfp_X7_2, List.forall_mem_cons.mpr ⟨lfp_X7_3, List.forall_mem_cons.mpr ⟨lfp_X7_4, List.forall_mem_cons.mpr ⟨lfp_X7_5, fun _ h => absurd h List.not_mem_nil⟩⟩⟩⟩⟩⟩), (List.forall_mem_cons.mpr ⟨lfs_X7_0, List.forall_mem_cons.mpr ⟨lfs_X7_1, List.forall_mem_cons.mpr ⟨lfs_X7_2, fun _ h => absurd h List.not_mem_nil⟩⟩⟩), (List.forall_mem_cons.mpr ⟨lfv_X7_0, List.forall_mem_cons.mpr ⟨lfv_X7_1, List.forall_mem_cons.mpr ⟨lfv_X7_2, List.forall_mem_cons.mpr ⟨lfv_X7_3, List.forall_mem_cons.mpr ⟨lfv_X7_4, List.forall_mem_cons.mpr ⟨lfv_X7_5, List.forall_mem_cons.mpr ⟨lfv_X7_6, List.forall_mem_cons.mpr ⟨lfv_X7_7, List.forall_mem_cons.mpr ⟨lfv_X7_8, List.forall_mem_cons.mpr ⟨lfv_X7_9, List.forall_mem_cons.mpr ⟨lfv_X7_10, List.forall_mem_cons.mpr ⟨lfv_X7_11, List.forall_mem_cons.mpr ⟨lfv_X7_12, fun _ h => absurd h List.not_mem_nil⟩⟩⟩⟩⟩⟩⟩⟩⟩⟩⟩⟩⟩), (List.forall_mem_cons.mpr ⟨tw_1100, fun _ h => absurd h List.not_mem_nil⟩), (List.forall_mem_cons.mpr ⟨tw_1649, fun _ h => absurd h List.not_mem_nil⟩), (fun _ h => absurd h List.not_mem_nil), (List.forall_mem_cons.mpr ⟨tw_1110, fun _ h => absurd h List.not_mem_nil⟩), (List.forall_mem_cons.mpr ⟨tw_1650, fun _ h => absurd h List.not_mem_nil⟩)⟩
def ltX8 : xLT := ([(17, 6, 2), (13, 6, 1), (9, 6, 0)], [(13, 6, 1)], [(20, 1, 72)], [(24, 1, 0, 6, 75), (27, 0, 0, 6, 74), (31, 1, 0, 6, 76)], [], [], [], [], [])
theorem ltokX8 : xLTok MT RX8 ltX8 := ⟨(List.forall_mem_cons.mpr ⟨lfg_X8_0, List.forall_mem_cons.mpr ⟨lfg_X8_1, List.forall_mem_cons.mpr ⟨lfg_X8_2, fun _ h => absurd h List.not_mem_nil⟩⟩⟩), (List.forall_mem_cons.mpr ⟨lfp_X8_0, fun _ h => absurd h List.not_mem_nil⟩), (List.forall_mem_cons.mpr ⟨lfs_X8_0, fun _ h => absurd h List.not_mem_nil⟩), (List.forall_mem_cons.mpr ⟨lfv_X8_0, List.forall_mem_cons.mpr ⟨lfv_X8_1, List.forall_mem_cons.mpr ⟨lfv_X8_2, fun _ h => absurd h List.not_mem_nil⟩⟩⟩), (fun _ h => absurd h List.not_mem_nil), (fun _ h => absurd h List.not_mem_nil), (fun _ h => absurd h List.not_mem_nil), (fun _ h => absurd h List.not_mem_nil), (fun _ h => absurd h List.not_mem_nil)⟩
def ltX9 : xLT := ([(17, 7, 18), (57, 7, 0), (65, 7, 5), (76, 0, 2), (68, 7, 20), (13, 7, 19), (83, 7, 4), (87, 1, 4), (88, 2, 0), (93, 2, 1), (96, 2, 2), (103, 7, 1)], [(68, 7, 20)], [], [(27, 2, 0, 7, 80), (31, 1, 0, 7, 81), (35, 1, 0, 7, 82), (38, 1, 1, 1, 31), (44, 1, 1, 1, 30), (47, 4, 1, 7, 35), (51, 1, 1, 7, 30), (52, 1, 1, 7, 31), (53, 3, 1, 7, 34), (61, 0, 0, 0, 0), (72, 3, 0, 7, 84), (79, 2, 0, 1, 19), (99, 2, 1, 1, 24), (107, 4, 0, 7, 91), (115, 1, 0, 8, 95), (121, 2, 1, 1, 26), (129, 1, 0, 8, 94), (133, 4, 0, 7, 92)], [], [], [], [], [])
theorem ltokX9 : xLTok MT RX9 ltX9 := ⟨(List.forall_mem_cons.mpr ⟨lfg_X9_0, List.forall_mem_cons.mpr ⟨lfg_X9_1, List.forall_mem_cons.mpr ⟨lfg_X9_2, List.forall_mem_cons.mpr ⟨lfg_X9_3, List.forall_mem_cons.mpr ⟨lfg_X9_4, List.forall_mem_cons.mpr ⟨lfg_X9_5, List.forall_mem_cons.mpr ⟨lfg_X9_6, List.forall_mem_cons.mpr ⟨lfg_X9_7, List.forall_mem_cons.mpr ⟨lfg_X9_8, List.forall_mem_cons.mpr ⟨lfg_X9_9, List.forall_mem_cons.mpr ⟨lfg_X9_10, List.forall_mem_cons.mpr ⟨lfg_X9_11, fun _ h => absurd h List.not_mem_nil⟩⟩⟩⟩⟩⟩⟩⟩⟩⟩⟩⟩), (List.forall_mem_cons.mpr ⟨lfp_X9_0, fun _ h => absurd h List.not_mem_nil⟩), (fun _ h => absurd h List.not_mem_nil), (List.forall_mem_cons.mpr ⟨lfv_X9_0, List.forall_mem_cons.mpr ⟨lfv_X9_1, List.forall_mem_cons.mpr ⟨lfv_X9_2, List.forall_mem_cons.mpr ⟨lfv_X9_3, List.forall_mem_cons.mpr ⟨lfv_X9_4, List.forall_mem_cons.mpr ⟨lfv_X9_5, List.forall_mem_cons.mpr ⟨lfv_X9_6, List.forall_mem_cons.mpr ⟨lfv_X9_7, List.forall_mem_cons.mpr ⟨lfv_X9_8, List.forall_mem_cons.mpr ⟨lfv_X9_9, List.forall_mem_cons.mpr ⟨lfv_X9_10, List.forall_mem_cons.mpr ⟨lfv_X9_11, List.forall_mem_cons.mpr ⟨lfv_X9_12, List.forall_mem_cons.mpr ⟨lfv_X9_13, List.forall_mem_cons.mpr ⟨lfv_X9_14, List.forall_mem_cons.mpr ⟨lfv_X9_15, List.forall_mem_cons.mpr ⟨lfv_X9_16, List.forall_mem_cons.mpr ⟨lfv_X9_17, fun _ h => absurd h List.not_mem_nil⟩⟩⟩⟩⟩⟩⟩⟩⟩⟩⟩⟩⟩⟩⟩⟩⟩⟩), (fun _ h => absurd h List.not_mem_nil), (fun _ h => absurd h List.not_mem_nil), (fun _ h => absurd h List.not_mem_nil), (fun _ h => absurd h List.not_mem_nil), (fun _ h => absurd h List.not_mem_nil)⟩
def ltX10 : xLT := ([(13, 8, 1), (9, 8, 0)], [(13, 8, 1)], [], [(26, 1, 0, 8, 94)], [], [], [], [], [])
theorem ltokX10 : xLTok MT RX10 ltX10 := ⟨(List.forall_mem_cons.mpr ⟨lfg_X10_0, List.forall_mem_cons.mpr ⟨lfg_X10_1, fun _ h => absurd h List.not_mem_nil⟩⟩), (List.forall_mem_cons.mpr ⟨lfp_X10_0, fun _ h => absurd h List.not_mem_nil⟩), (fun _ h => absurd h List.not_mem_nil), (List.forall_mem_cons.mpr ⟨lfv_X10_0, fun _ h => absurd h List.not_mem_nil⟩), (fun _ h => absurd h List.not_mem_nil), (fun _ h => absurd h List.not_mem_nil), (fun _ h => absurd h List.not_mem_nil), (fun _ h => absurd h List.not_mem_nil), (fun _ h => absurd h List.not_mem_nil)⟩
def ltX11 : xLT := ([(10, 9, 0), (87, 0, 2), (19, 9, 1), (129, 6, 2), (149, 6, 1), (152, 0, 0), (76, 9, 9), (171, 1, 9), (171, 7, 9), (174, 1, 10), (174, 7, 10), (177, 1, 13), (177, 7, 13), (180, 1, 14), (180, 7, 14), (183, 1, 11), (183, 7, 11), (186, 1, 12), (186, 7, 12), (198, 1, 3), (198, 7, 3), (202, 1, 6), (202, 7, 6), (205, 1, 5), (205, 7, 5), (65, 9, 7), (217, 3, 0), (72, 9, 8), (231, 8, 1), (234, 8, 0), (37, 9, 3), (241, 7, 19), (28, 9, 2), (266, 1, 9), (90, 0, 1), (55, 9, 5), (294, 4, 5), (304, 4, 2), (307, 4, 3), (46, 9, 4), (338, 4, 6), (59, 9, 6), (355, 1, 5), (356, 1, 3), (362, 7, 9), (363, 7, 5), (364, 4, 4), (371, 6, 0)], [(87, 0, 2), (90, 0, 1), (129, 6, 2), (76, 9, 9), (364, 4, 4), (294, 4, 5), (338, 4, 6)], [(122, 1, 150), (132, 1, 72), (248, 1, 38), (270, 1, 149), (282, 1, 151), (350, 1, 152)], [(93, 0, 0, 9, 140), (96, 3, 0, 9, 148), (102, 3, 0, 0, 2), (111, 4, 0, 0, 3), (115, 1, 0, 9, 145), (119, 1, 0, 0, 4), (125, 1, 0, 6, 73), (137, 1, 0, 6, 75), (140, 0, 0, 6, 74), (146, 1, 0, 6, 76), (156, 1, 0, 6, 77), (161, 1, 0, 9, 142), (165, 1, 1, 1, 33), (165, 1, 1, 7, 33), (194, 2, 0, 9, 143), (210, 2, 1, 1, 19), (210, 2, 1, 7, 90), (214, 3, 0, 3, 42), (220, 2, 1, 1, 24), (220, 2, 1, 7, 24), (224, 0, 0, 8, 93), (227, 2, 1, 1, 26), (227, 2, 1, 7, 26), (238, 1, 0, 9, 153), (244, 2, 0, 9, 144), (253, 3, 0, 1, 11), (256, 0, 0, 1, 14), (260, 2, 1, 1, 28), (260, 2, 1, 7, 28), (263, 1, 0, 1, 22), (267, 2, 1, 1, 27), (267, 2, 1, 7, 27), (273, 1, 0, 3, 43), (276, 2, 1, 1, 25), (276, 2, 1, 7, 25), (279, 1, 0, 3, 44), (285, 0, 0, 9, 146), (288, 1, 0, 9, 141), (291, 0, 0, 9, 147), (295, 0, 0, 4, 49), (298, 0, 0, 4, 50), (301, 0, 0, 4, 51), (310, 1, 0, 4, 53), (313, 2, 0, 4, 57), (316, 1, 0, 4, 54), (319, 2, 1, 1, 24), (320, 1, 0, 5, 59), (323, 0, 0, 0, 0), (326, 2, 0, 5, 62), (329, 2, 0, 5, 68), (332, 1, 0, 4, 56), (334, 2, 0, 4, 55), (341, 0, 0, 4, 47), (342, 4, 0, 5, 66), (346, 1, 0, 4, 48), (357, 1, 0, 5, 70), (374, 0, 1, 1, 32), (377, 0, 1, 7, 32), (378, 0, 0, 5, 58), (387, 2, 0, 0, 1)], [], [], [], [], [])
theorem ltokX11 : xLTok MT RX11 ltX11 := ⟨(List.forall_mem_cons.mpr ⟨lfg_X11_0, List.forall_mem_cons.mpr ⟨lfg_X11_1, List.forall_mem_cons.mpr ⟨lfg_X11_2, List.forall_mem_cons.mpr ⟨lfg_X11_3, List.forall_mem_cons.mpr ⟨lfg_X11_4, List.forall_mem_cons.mpr ⟨lfg_X11_5, List.forall_mem_cons.mpr ⟨lfg_X11_6, List.forall_mem_cons.mpr ⟨lfg_X11_7, List.forall_mem_cons.mpr ⟨lfg_X11_8, List.forall_mem_cons.mpr ⟨lfg_X11_9, List.forall_mem_cons.mpr ⟨lfg_X11_10, List.forall_mem_cons.mpr ⟨lfg_X11_11, List.forall_mem_cons.mpr ⟨lfg_X11_12, List.forall_mem_cons.mpr ⟨lfg_X11_13, List.forall_mem_cons.mpr ⟨lfg_X11_14, List.forall_mem_cons.mpr ⟨lfg_X11_15, List.forall_mem_cons.mpr ⟨lfg_X11_16, List.forall_mem_cons.mpr ⟨lfg_X11_17, List.forall_mem_cons.mpr ⟨lfg_X11_18, List.forall_mem_cons.mpr ⟨lfg_X11_19, List.forall_mem_cons.mpr ⟨lfg_X11_20, List.forall_mem_cons.mpr ⟨lfg_X11_21, List.forall_mem_cons.mpr ⟨lfg_X11_22, List.forall_mem_cons.mpr ⟨lfg_X11_23, List.forall_mem_cons.mpr ⟨lfg_X11_24, List.forall_mem_cons.mpr ⟨lfg_X11_25, List.forall_mem_cons.mpr ⟨lfg_X11_26, List.forall_mem_cons.mpr ⟨lfg_X11_27, List.forall_mem_cons.mpr ⟨lfg_X11_28, List.forall_mem_cons.mpr ⟨lfg_X11_29, List.forall_mem_cons.mpr ⟨lfg_X11_30, List.forall_mem_cons.mpr ⟨lfg_X11_31, List.forall_mem_cons.mpr ⟨lfg_X11_32, List.forall_mem_cons.mpr ⟨lfg_X11_33, List.forall_mem_cons.mpr ⟨lfg_X11_34, List.forall_mem_cons.mpr ⟨lfg_X11_35, List.forall_mem_cons.mpr ⟨lfg_X11_36, List.forall_mem_cons.mpr ⟨lfg_X11_37, List.forall_mem_cons.mpr ⟨lfg_X11_38, List.forall_mem_cons.mpr ⟨lfg_X11_39, List.forall_mem_cons.mpr ⟨lfg_X11_40, List.forall_mem_cons.mpr ⟨lfg_X11_41, List.forall_mem_cons.mpr ⟨lfg_X11_42, List.forall_mem_cons.mpr ⟨lfg_X11_43, List.forall_mem_cons.mpr ⟨lfg_X11_44, List.forall_mem_cons.mpr ⟨lfg_X11_45, List.forall_mem_cons.mpr ⟨lfg_X11_46, List.forall_mem_cons.mpr ⟨lfg_X11_47, fun _ h => absurd h List.not_mem_nil⟩⟩⟩⟩⟩⟩⟩⟩⟩⟩⟩⟩⟩⟩⟩⟩⟩⟩⟩⟩⟩⟩⟩⟩⟩⟩⟩⟩⟩⟩⟩⟩⟩⟩⟩⟩⟩⟩⟩⟩⟩⟩⟩⟩⟩⟩⟩⟩), (List.forall_mem_cons.mpr ⟨lfp_X11_0, List.forall_mem_cons.mpr ⟨lfp_X11_1, List.forall_mem_cons.mpr ⟨lfp_X11_2, List.forall_mem_cons.mpr ⟨lfp_X11_3, List.forall_mem_cons.mpr ⟨lfp_X11_4, List.forall_mem_cons.mpr ⟨lfp_X11_5, List.forall_mem_cons.mpr ⟨lfp_X11_6, fun _ h => absurd h List.not_mem_nil⟩⟩⟩⟩⟩⟩⟩), (List.forall_mem_cons.mpr ⟨lfs_X11_0, List.forall_mem_cons.mpr ⟨lfs_X11_1, List.forall_mem_cons.mpr ⟨lfs_X11_2, List.forall_mem_cons.mpr ⟨lfs_X11_3, List.forall_mem_cons.mpr ⟨lfs_X11_4, List.forall_mem_cons.mpr ⟨lfs_X11_5, fun _ h => absurd h List.not_mem_nil⟩⟩⟩⟩⟩⟩), (List.forall_mem_cons.mpr ⟨lfv_X11_0, List.forall_mem_cons.mpr ⟨lfv_X11_1, List.forall_mem_cons.mpr ⟨lfv_X11_2, List.forall_mem_cons.mpr ⟨lfv_X11_3, List.forall_mem_cons.mpr ⟨lfv_X11_4, List.forall_mem_cons.mpr ⟨lfv_X11_5, List.forall_mem_cons.mpr ⟨lfv_X11_6, List.forall_mem_cons.mpr ⟨lfv_X11_7, List.forall_mem_cons.mpr ⟨lfv_X11_8, List.forall_mem_cons.mpr ⟨lfv_X11_9, List.forall_mem_cons.mpr ⟨lfv_X11_10, List.forall_mem_cons.mpr ⟨lfv_X11_11, List.forall_mem_cons.mpr ⟨lfv_X11_12, List.forall_mem_cons.mpr ⟨lfv_X11_13, List.forall_mem_cons.mpr ⟨lfv_X11_14, List.forall_mem_cons.mpr ⟨lfv_X11_15, List.forall_mem_cons.mpr ⟨lfv_X11_16, List.forall_mem_cons.mpr ⟨lfv_X11_17, List.forall_mem_cons.mpr ⟨lfv_X11_18, List.forall_mem_cons.mpr ⟨lfv_X11_19, List.forall_mem_cons.mpr ⟨lfv_X11_20, List.forall_mem_cons.mpr ⟨lfv_X11_21, List.forall_mem_cons.mpr ⟨lfv_X11_22, List.forall_mem_cons.mpr ⟨lfv_X11_23, List.forall_mem_cons.mpr ⟨lfv_X11_24, List.forall_mem_cons.mpr ⟨lfv_X11_25, List.forall_mem_cons.mpr ⟨lfv_X11_26, List.forall_mem_cons.mpr ⟨lfv_X11_27, List.forall_mem_cons.mpr ⟨lfv_X11_28, List.forall_mem_cons.mpr ⟨lfv_X11_29, List.forall_mem_cons.mpr ⟨lfv_X11_30, List.forall_mem_cons.mpr ⟨lfv_X11_31, List.forall_mem_cons.mpr ⟨lfv_X11_32, List.forall_mem_cons.mpr ⟨lfv_X11_33, List.forall_mem_cons.mpr ⟨lfv_X11_34, List.forall_mem_cons.mpr ⟨lfv_X11_35, List.forall_mem_cons.mpr ⟨lfv_X11_36, List.forall_mem_cons.mpr ⟨lfv_X11_37, List.forall_mem_cons.mpr ⟨lfv_X11_38, List.forall_mem_cons.mpr ⟨lfv_X11_39, List.forall_mem_cons.mpr ⟨lfv_X11_40, List.forall_mem_cons.mpr ⟨lfv_X11_41, List.forall_mem_cons.mpr ⟨lfv_X11_42, List.forall_mem_cons.mpr ⟨lfv_X11_43, List.forall_mem_cons.mpr ⟨lfv_X11_44, List.forall_mem_cons.mpr ⟨lfv_X11_45, List.forall_mem_cons.mpr ⟨lfv_X11_46, List.forall_mem_cons.mpr ⟨lfv_X11_47, List.forall_mem_cons.mpr ⟨lfv_X11_48, List.forall_mem_cons.mpr ⟨lfv_X11_49, List.forall_mem_cons.mpr ⟨lfv_X11_50, List.forall_mem_cons.mpr ⟨lfv_X11_51, List.forall_mem_cons.mpr ⟨lfv_X11_52, List.forall_mem_cons.mpr ⟨lfv_X11_53, List.forall_mem_cons.mpr ⟨lfv_X11_54, List.forall_mem_cons.mpr ⟨lfv_X11_55, List.forall_mem_cons.mpr ⟨lfv_X11_56, List.forall_mem_cons.mpr ⟨lfv_X11_57, List.forall_mem_cons.mpr ⟨lfv_X11_58, List.forall_mem_cons.mpr ⟨lfv_X11_59, fun _ h => absurd h List.not_mem_nil⟩⟩⟩⟩⟩⟩⟩⟩⟩⟩⟩⟩⟩⟩⟩⟩⟩⟩⟩⟩⟩⟩⟩⟩⟩⟩⟩⟩⟩⟩⟩⟩⟩⟩⟩⟩⟩⟩⟩⟩⟩⟩⟩⟩⟩⟩⟩⟩⟩⟩⟩⟩⟩⟩⟩⟩⟩⟩⟩⟩), (fun _ h => absurd h List.not_mem_nil), (fun _ h => absurd h List.not_mem_nil), (fun _ h => absurd h List.not_mem_nil), (fun _ h => absurd h List.not_mem_nil), (fun _ h => absurd h List.not_mem_nil)⟩
def ltX12 : xLT := ([(164, 10, 0), (161, 10, 4), (86, 10, 29), (89, 10, 30), (92, 10, 31), (95, 10, 32), (7, 10, 1), (19, 10, 5), (16, 10, 3), (23, 10, 6), (26, 10, 7), (13, 10, 2), (214, 10, 35), (220, 10, 37), (167, 10, 8), (53, 10, 17), (99, 10, 34), (50, 10, 16), (38, 10, 12), (41, 10, 13), (44, 10, 14), (29, 10, 9), (32, 10, 10), (35, 10, 11), (47, 10, 15), (56, 10, 18), (173, 10, 33), (170, 10, 19), (83, 10, 28), (80, 10, 27), (68, 10, 23), (71, 10, 24), (74, 10, 25), (59, 10, 20), (62, 10, 21), (65, 10, 22), (77, 10, 26), (271, 10, 39), (102, 10, 38), (274, 10, 40), (277, 10, 41), (217, 10, 36), (105, 10, 42), (108, 10, 43), (115, 10, 46), (313, 10, 47), (111, 10, 44), (328, 10, 45), (139, 10, 57), (142, 10, 58), (118, 10, 48), (121, 10, 49), (133, 10, 55), (127, 10, 53), (124, 10, 52), (130, 10, 54), (136, 10, 56), (145, 10, 59), (176, 10, 50), (154, 10, 63), (401, 10, 60), (148, 10, 61), (151, 10, 62), (398, 10, 51), (158, 10, 64)], [(167, 10, 8), (170, 10, 19), (173, 10, 33), (176, 10, 50), (164, 10, 0), (7, 10, 1), (161, 10, 4), (16, 10, 3), (23, 10, 6), (13, 10, 2), (217, 10, 36), (214, 10, 35), (220, 10, 37), (271, 10, 39), (274, 10, 40), (277, 10, 41), (313, 10, 47), (328, 10, 45), (398, 10, 51), (401, 10, 60)], [(180, 3, 155), (197, 1, 164), (211, 1, 172), (238, 3, 173), (242, 1, 174), (248, 1, 175), (347, 1, 208)], [(184, 0, 0, 10, 157), (187, 3, 0, 10, 159), (190, 3, 0, 10, 160), (193, 1, 0, 10, 162), (200, 1, 0, 10, 166), (203, 1, 0, 10, 167), (207, 1, 0, 10, 169), (223, 0, 0, 10, 176), (227, 0, 0, 10, 177), (231, 0, 0, 10, 178), (234, 4, 0, 10, 179), (245, 4, 0, 10, 181), (251, 0, 0, 10, 180), (254, 3, 0, 10, 182), (257, 0, 0, 10, 156), (260, 3, 0, 10, 185), (263, 5, 0, 10, 184), (267, 2, 0, 10, 186), (280, 1, 0, 10, 188), (283, 1, 0, 10, 183), (286, 1, 0, 10, 187), (289, 1, 0, 10, 189), (292, 1, 0, 10, 190), (295, 2, 0, 10, 193), (299, 4, 0, 10, 196), (303, 1, 0, 10, 197), (306, 2, 0, 10, 199), (309, 3, 0, 10, 198), (325, 1, 0, 10, 203), (331, 1, 0, 10, 205), (334, 1, 0, 10, 206), (343, 1, 0, 10, 204), (350, 4, 0, 10, 207), (360, 1, 0, 10, 211), (363, 1, 0, 10, 210), (366, 1, 0, 10, 209), (369, 1, 0, 10, 212), (372, 1, 0, 10, 216), (375, 1, 0, 10, 221), (381, 1, 0, 10, 223), (384, 1, 0, 10, 226), (387, 2, 0, 10, 227), (391, 1, 0, 10, 229), (394, 2, 0, 10, 228), (404, 2, 0, 10, 230), (407, 1, 0, 10, 231), (412, 2, 0, 10, 234), (415, 1, 0, 10, 239), (418, 0, 0, 10, 241)], [(380, 1000000)], [(378, 1000000), (410, 1000000000)], [], [], [])
theorem ltokX12 : xLTok MT RX12 ltX12 := ⟨(List.forall_mem_cons.mpr ⟨lfg_X12_0, List.forall_mem_cons.mpr ⟨lfg_X12_1, List.forall_mem_cons.mpr ⟨lfg_X12_2, List.forall_mem_cons.mpr ⟨lfg_X12_3, List.forall_mem_cons.mpr ⟨lfg_X12_4, List.forall_mem_cons.mpr ⟨lfg_X12_5, List.forall_mem_cons.mpr ⟨lfg_X12_6, List.forall_mem_cons.mpr ⟨lfg_X12_7, List.forall_mem_cons.mpr ⟨lfg_X12_8, List.forall_mem_cons.mpr ⟨lfg_X12_9, List.forall_mem_cons.mpr ⟨lfg_X12_10, List.forall_mem_cons.mpr ⟨lfg_X12_11, List.forall_mem_cons.mpr ⟨lfg_X12_12, List.forall_mem_cons.mpr ⟨lfg_X12_13, List.forall_mem_cons.mpr ⟨lfg_X12_14, List.forall_mem_cons.mpr ⟨lfg_X12_15, List.forall_mem_cons.mpr ⟨lfg_X12_16, List.forall_mem_cons.mpr ⟨lfg_X12_17, List.forall_mem_cons.mpr ⟨lfg_X12_18, List.forall_mem_cons.mpr ⟨lfg_X12_19, List.forall_mem_cons.mpr ⟨lfg_X12_20, List.forall_mem_cons.mpr ⟨lfg_X12_21, List.forall_mem_cons.mpr ⟨lfg_X12_22, List.forall_mem_cons.mpr ⟨lfg_X12_23, List.forall_mem_cons.mpr ⟨lfg_X12_24, List.forall_mem_cons.mpr ⟨lfg_X12_25, List.forall_mem_cons.mpr ⟨lfg_X12_26, List.forall_mem_cons.mpr ⟨lfg_X12_27, List.forall_mem_cons.mpr ⟨lfg_X12_28, List.forall_mem_cons.mpr ⟨lfg_X12_29, List.forall_mem_cons.mpr ⟨lfg_X12_30, List.forall_mem_cons.mpr ⟨lfg_X12_31, List.forall_mem_cons.mpr ⟨lfg_X12_32, List.forall_mem_cons.mpr ⟨lfg_X12_33, List.forall_mem_cons.mpr ⟨lfg_X12_34, List.forall_mem_cons.mpr ⟨lfg_X12_35, List.forall_mem_cons.mpr ⟨lfg_X12_36, List.forall_mem_cons.mpr ⟨lfg_X12_37, List.forall_mem_cons.mpr ⟨lfg_X12_38, List.forall_mem_cons.mpr ⟨lfg_X12_39, List.forall_mem_cons.mpr ⟨lfg_X12_40, List.forall_mem_cons.mpr ⟨lfg_X12_41, List.forall_mem_cons.mpr ⟨lfg_X12_42, List.forall_mem_cons.mpr ⟨lfg_X12_43, List.forall_mem_cons.mpr ⟨lfg_X12_44, List.forall_mem_cons.mpr ⟨lfg_X12_45, List.forall_mem_cons.mpr ⟨lfg_X12_46, List.forall_mem_cons.mpr ⟨lfg_X12_47, List.forall_mem_cons.mpr ⟨lfg_X12_48, List.forall_mem_cons.mpr ⟨lfg_X12_49, List.forall_mem_cons.mpr ⟨lfg_X12_50, List.forall_mem_cons.mpr ⟨lfg_X12_51, List.forall_mem_cons.mpr ⟨lfg_X12_52, List.forall_mem_cons.mpr ⟨lfg_X12_53, List.forall_mem_cons.mpr ⟨lfg_X12_54, List.forall_mem_cons.mpr ⟨lfg_X12_55, List.forall_mem_cons.mpr ⟨lfg_X12_56, List.forall_mem_cons.mpr ⟨lfg_X12_57, List.forall_mem_cons.mpr ⟨lfg_X12_58, List.forall_mem_cons.mpr ⟨lfg_X12_59, List.forall_mem_cons.mpr ⟨lfg_X12_60, List.forall_mem_cons.mpr ⟨lfg_X12_61, List.forall_mem_cons.mpr ⟨lfg_X12_62, List.forall_mem_cons.mpr ⟨lfg_X12_63, List.forall_mem_cons.mpr ⟨lfg_X12_64, fun _ h => absurd h List.not_mem_nil⟩⟩⟩⟩⟩⟩⟩⟩⟩⟩⟩⟩⟩⟩⟩⟩⟩⟩⟩⟩⟩⟩⟩⟩⟩⟩⟩⟩⟩⟩⟩⟩⟩⟩⟩⟩⟩⟩⟩⟩⟩⟩⟩⟩⟩⟩⟩⟩⟩⟩⟩⟩⟩⟩⟩⟩⟩⟩⟩⟩⟩⟩⟩⟩⟩), (List.forall_mem_cons.mpr ⟨lfp_X12_0, List.forall_mem_cons.mpr ⟨lfp_X12_1, List.forall_mem_cons.mpr ⟨lfp_X12_2, List.forall_mem_cons.mpr ⟨lfp_X12_3, List.forall_mem_cons.mpr ⟨lfp_X12_4, List.forall_mem_cons.mpr ⟨lfp_X12_5, List.forall_mem_cons.mpr ⟨lfp_X12_6, List.forall_mem_cons.mpr ⟨lfp_X12_7, List.forall_mem_cons.mpr ⟨lfp_X12_8, List.forall_mem_cons.mpr ⟨lfp_X12_9, List.forall_mem_cons.mpr ⟨lfp_X12_10, List.forall_mem_cons.mpr ⟨lfp_X12_11, List.forall_mem_cons.mpr ⟨lfp_X12_12, List.forall_mem_cons.mpr ⟨lfp_X12_13, List.forall_mem_cons.mpr ⟨lfp_X12_14, List.forall_mem_cons.mpr ⟨lfp_X12_15, List.forall_mem_cons.mpr ⟨lfp_X12_16, List.forall_mem_cons.mpr ⟨lfp_X12_17, List.forall_mem_cons.mpr ⟨lfp_X12_18, List.forall_mem_cons.mpr ⟨lfp_X12_19, fun _ h => absurd h List.not_mem_nil⟩⟩⟩⟩⟩⟩⟩⟩⟩⟩⟩⟩⟩⟩⟩⟩⟩⟩⟩⟩), (List.forall_mem_cons.mpr ⟨lfs_X12_0, List.forall_mem_cons.mpr ⟨lfs_X12_1, List.forall_mem_cons.mpr ⟨lfs_X12_2, List.forall_mem_cons.mpr ⟨lfs_X12_3, List.forall_mem_cons.mpr ⟨lfs_X12_4, List.forall_mem_cons.mpr ⟨lfs_X12_5, List.forall_mem_cons.mpr ⟨lfs_X12_6, fun _ h => absurd h List.not_mem_nil⟩⟩⟩⟩⟩⟩⟩), (List.forall_mem_cons.mpr ⟨lfv_X12_0, List.forall_mem_cons.mpr ⟨lfv_X12_1, List.forall_mem_cons.mpr ⟨lfv_X12_2, List.forall_mem_cons.mpr ⟨lfv_X12_3, List.forall_mem_cons.mpr ⟨lfv_X12_4, List.forall_mem_cons.mpr ⟨lfv_X12_5, List.forall_mem_cons.mpr ⟨lfv_X12_6, List.forall_mem_cons.mpr ⟨lfv_X12_7, List.forall_mem_cons.mpr ⟨lfv_X12_8, List.forall_mem_cons.mpr ⟨lfv_X12_9, List.forall_mem_cons.mpr ⟨lfv_X12_10, List.forall_mem_cons.mpr ⟨lfv_X12_11, List.forall_mem_cons.mpr ⟨lfv_X12_12, List.forall_mem_cons.mpr ⟨lfv_X12_13, List.forall_mem_cons.mpr ⟨lfv_X12_14, List.forall_mem_cons.mpr ⟨lfv_X12_15, List.forall_mem_cons.mpr ⟨lfv_X12_16, List.forall_mem_cons.mpr ⟨lfv_X12_17, List.forall_mem_cons.mpr ⟨lfv_X12_18, List.forall_mem_cons.mpr ⟨lfv_X12_19, List.forall_mem_cons.mpr ⟨lfv_X12_20, List.forall_mem_cons.mpr ⟨lfv_X12_21, List.forall_mem_cons.mpr ⟨lfv_X12_22, List.forall_mem_cons.mpr ⟨lfv_X12_23, List.forall_mem_cons.mpr ⟨lfv_X12_24, List.forall_mem_cons.mpr ⟨lfv_X12_25, List.forall_mem_cons.mpr ⟨lfv_X12_26, List.forall_mem_cons.mpr ⟨lfv_X12_27, List.forall_mem_cons.mpr ⟨lfv_X12_28, List.forall_mem_cons.mpr ⟨lfv_X12_29, List.forall_mem_cons.mpr ⟨lfv_X12_30, List.forall_mem_cons.mpr ⟨lfv_X12_31, List.forall_mem_cons.mpr ⟨lfv_X12_32, List.forall_mem_cons.mpr ⟨lfv_X12_33, List.forall_mem_cons.mpr ⟨lfv_X12_34, List.forall_mem_cons.mpr ⟨lfv_X12_35, List.forall_mem_cons.mpr ⟨lfv_X12_36, List.forall_mem_cons.mpr ⟨lfv_X12_37, List.forall_mem_cons.mpr ⟨lfv_X12_38, List.forall_mem_cons.mpr ⟨lfv_X12_39, List.forall_mem_cons.mpr ⟨lfv_X12_40, List.forall_mem_cons.mpr ⟨lfv_X12_41, List.forall_mem_cons.mpr ⟨lfv_X12_42, List.forall_mem_cons.mpr ⟨lfv_X12_43, List.forall_mem_cons.mpr ⟨lfv_X12_44, List.forall_mem_cons.mpr ⟨lfv_X12_45, List.forall_mem_cons.mpr ⟨lfv_X12_46, List.forall_mem_cons.mpr ⟨lfv_X12_47, List.forall_mem_cons.mpr ⟨lfv_X12_48, fun _ h => absurd h List.not_mem_nil⟩⟩⟩⟩⟩⟩⟩⟩⟩⟩⟩⟩⟩⟩⟩⟩⟩⟩⟩⟩⟩⟩⟩⟩⟩⟩⟩⟩⟩⟩⟩⟩⟩⟩⟩⟩⟩⟩⟩⟩⟩⟩⟩⟩⟩⟩⟩⟩⟩), (List.forall_mem_cons.mpr ⟨tw_2225, fun _ h => absurd h List.not_mem_nil⟩), (List.forall_mem_cons.mpr ⟨tw_2224, List.forall_mem_cons.mpr ⟨tw_2270, fun _ h => absurd h List.not_mem_nil⟩⟩), (fun _ h => absurd h List.not_mem_nil), (fun _ h => absurd h List.not_mem_nil), (fun _ h => absurd h List.not_mem_nil)⟩
def ltJ7 : xLT := ([], [], [(13, 3, 254)], [], [], [], [], [], [])
theorem ltokJ7 : xLTok MT RJ7 ltJ7 := ⟨(fun _ h => absurd h List.not_mem_nil), (fun _ h => absurd h List.not_mem_nil), (List.forall_mem_cons.mpr ⟨lfs_J7_0, fun _ h => absurd h List.not_mem_nil⟩), (fun _ h => absurd h List.not_mem_nil), (fun _ h => absurd h List.not_mem_nil), (fun _ h => absurd h List.not_mem_nil), (fun _ h => absurd h List.not_mem_nil), (fun _ h => absurd h List.not_mem_nil), (fun _ h => absurd h List.not_mem_nil)⟩
def ltJ9 : xLT := ([], [], [], [], [], [], [], [], [])
theorem ltokJ9 : xLTok MT RJ9 ltJ9 := ⟨(fun _ h => absurd h List.not_mem_nil), (fun _ h => absurd h List.not_mem_nil), (fun _ h => absurd h List.not_mem_nil), (fun _ h => absurd h List.not_mem_nil), (fun _ h => absurd h List.not_mem_nil), (fun _ h => absurd h List.not_mem_nil), (fun _ h => absurd h List.not_mem_nil), (fun _ h => absurd h List.not_mem_nil), (fun _ h => absurd h List.not_mem_nil)⟩
