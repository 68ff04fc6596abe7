set_option maxRecDepth 20000 in
theorem ok_X0_all : ∀ (i : Nat) (x : xI), cdX0_all[i]? = some x → xok MT vcl RX0 cX0_all 1 pcX0_all i x := x_chk (o := 0) (L := ltX0) (by decide +kernel) ltokX0 (by decide +kernel)
set_option maxRecDepth 20000 in
theorem ok_X0_mayBe : ∀ (i : Nat) (x : xI), cdX0_mayBe[i]? = some x → xok MT vcl RX0 cX0_mayBe 3 pcX0_mayBe i x := x_chk (o := 0) (L := ltX0) (by decide +kernel) ltokX0 (by decide +kernel)
set_option maxRecDepth 20000 in
theorem ok_X0_areThere : ∀ (i : Nat) (x : xI), cdX0_areThere[i]? = some x → xok MT vcl RX0 cX0_areThere 5 pcX0_areThere i x := x_chk (o := 0) (L := ltX0) (by decide +kernel) ltokX0 (by decide +kernel)
set_option maxRecDepth 20000 in
theorem ok_X0_add : ∀ (i : Nat) (x : xI), cdX0_add[i]? = some x → xok MT vcl RX0 cX0_add 5 pcX0_add i x := x_chk (o := 0) (L := ltX0) (by decide +kernel) ltokX0 (by decide +kernel)
set_option maxRecDepth 20000 in
theorem ok_X0_remove : ∀ (i : Nat) (x : xI), cdX0_remove[i]? = some x → xok MT vcl RX0 cX0_remove 3 pcX0_remove i x := x_chk (o := 0) (L := ltX0) (by decide +kernel) ltokX0 (by decide +kernel)
set_option maxRecDepth 20000 in
theorem ok_X1_firstSize : ∀ (i : Nat) (x : xI), cdX1_firstSize[i]? = some x → xok MT vcl RX1 cX1_firstSize 1 pcX1_firstSize i x := x_chk (o := 1) (L := ltX1) (by decide +kernel) ltokX1 (by decide +kernel)
set_option maxRecDepth 20000 in
theorem ok_X1_makeAll : ∀ (i : Nat) (x : xI), cdX1_makeAll[i]? = some x → xok MT vcl RX1 cX1_makeAll 4 pcX1_makeAll i x := x_chk (o := 1) (L := ltX1) (by decide +kernel) ltokX1 (by decide +kernel)
set_option maxRecDepth 20000 in
theorem ok_X1_makeInputs : ∀ (i : Nat) (x : xI), cdX1_makeInputs[i]? = some x → xok MT vcl RX1 cX1_makeInputs 2 pcX1_makeInputs i x := x_chk (o := 1) (L := ltX1) (by decide +kernel) ltokX1 (by decide +kernel)
set_option maxRecDepth 20000 in
theorem ok_X1_makeConstants : ∀ (i : Nat) (x : xI), cdX1_makeConstants[i]? = some x → xok MT vcl RX1 cX1_makeConstants 2 pcX1_makeConstants i x := x_chk (o := 1) (L := ltX1) (by decide +kernel) ltokX1 (by decide +kernel)
set_option maxRecDepth 20000 in
theorem ok_X1_makeOfOne : ∀ (i : Nat) (x : xI), cdX1_makeOfOne[i]? = some x → xok MT vcl RX1 cX1_makeOfOne 4 pcX1_makeOfOne i x := x_chk (o := 1) (L := ltX1) (by decide +kernel) ltokX1 (by decide +kernel)
set_option maxRecDepth 20000 in
theorem ok_X1_makeOfTwo : ∀ (i : Nat) (x : xI), cdX1_makeOfTwo[i]? = some x → xok MT vcl RX1 cX1_makeOfTwo 8 pcX1_makeOfTwo i x := x_chk (o := 1) (L := ltX1) (by decide +kernel) ltokX1 (by decide +kernel)
set_option maxRecDepth 20000 in
theorem ok_X1_reckon : ∀ (i : Nat) (x : xI), cdX1_reckon[i]? = some x → xok MT vcl RX1 cX1_reckon 8 pcX1_reckon i x := x_chk (o := 1) (L := ltX1) (by decide +kernel) ltokX1 (by decide +kernel)
set_option maxRecDepth 20000 in
theorem ok_X1_slotOf : ∀ (i : Nat) (x : xI), cdX1_slotOf[i]? = some x → xok MT vcl RX1 cX1_slotOf 4 pcX1_slotOf i x := x_chk (o := 1) (L := ltX1) (by decide +kernel) ltokX1 (by decide +kernel)
set_option maxRecDepth 20000 in
theorem ok_X1_saysNothing : ∀ (i : Nat) (x : xI), cdX1_saysNothing[i]? = some x → xok MT vcl RX1 cX1_saysNothing 1 pcX1_saysNothing i x := x_chk (o := 1) (L := ltX1) (by decide +kernel) ltokX1 (by decide +kernel)
set_option maxRecDepth 20000 in
theorem ok_X1_holder : ∀ (i : Nat) (x : xI), cdX1_holder[i]? = some x → xok MT vcl RX1 cX1_holder 3 pcX1_holder i x := x_chk (o := 1) (L := ltX1) (by decide +kernel) ltokX1 (by decide +kernel)
set_option maxRecDepth 20000 in
theorem ok_X1_comesToReckoned : ∀ (i : Nat) (x : xI), cdX1_comesToReckoned[i]? = some x → xok MT vcl RX1 cX1_comesToReckoned 4 pcX1_comesToReckoned i x := x_chk (o := 1) (L := ltX1) (by decide +kernel) ltokX1 (by decide +kernel)
set_option maxRecDepth 20000 in
theorem ok_X1_settleOutputs : ∀ (i : Nat) (x : xI), cdX1_settleOutputs[i]? = some x → xok MT vcl RX1 cX1_settleOutputs 4 pcX1_settleOutputs i x := x_chk (o := 1) (L := ltX1) (by decide +kernel) ltokX1 (by decide +kernel)
set_option maxRecDepth 20000 in
theorem ok_X1_unsettleOutputs : ∀ (i : Nat) (x : xI), cdX1_unsettleOutputs[i]? = some x → xok MT vcl RX1 cX1_unsettleOutputs 2 pcX1_unsettleOutputs i x := x_chk (o := 1) (L := ltX1) (by decide +kernel) ltokX1 (by decide +kernel)
set_option maxRecDepth 20000 in
theorem ok_X1_usageOf : ∀ (i : Nat) (x : xI), cdX1_usageOf[i]? = some x → xok MT vcl RX1 cX1_usageOf 6 pcX1_usageOf i x := x_chk (o := 1) (L := ltX1) (by decide +kernel) ltokX1 (by decide +kernel)
set_option maxRecDepth 20000 in
theorem ok_X1_outputOn : ∀ (i : Nat) (x : xI), cdX1_outputOn[i]? = some x → xok MT vcl RX1 cX1_outputOn 3 pcX1_outputOn i x := x_chk (o := 1) (L := ltX1) (by decide +kernel) ltokX1 (by decide +kernel)
set_option maxRecDepth 20000 in
theorem ok_X1_come : ∀ (i : Nat) (x : xI), cdX1_come[i]? = some x → xok MT vcl RX1 cX1_come 8 pcX1_come i x := x_chk (o := 1) (L := ltX1) (by decide +kernel) ltokX1 (by decide +kernel)
set_option maxRecDepth 20000 in
theorem ok_X1_spell : ∀ (i : Nat) (x : xI), cdX1_spell[i]? = some x → xok MT vcl RX1 cX1_spell 6 pcX1_spell i x := x_chk (o := 1) (L := ltX1) (by decide +kernel) ltokX1 (by decide +kernel)
set_option maxRecDepth 20000 in
theorem ok_X1_farness : ∀ (i : Nat) (x : xI), cdX1_farness[i]? = some x → xok MT vcl RX1 cX1_farness 8 pcX1_farness i x := x_chk (o := 1) (L := ltX1) (by decide +kernel) ltokX1 (by decide +kernel)
set_option maxRecDepth 20000 in
theorem ok_X2_put : ∀ (i : Nat) (x : xI), cdX2_put[i]? = some x → xok MT vcl RX2 cX2_put 5 pcX2_put i x := x_chk (o := 2) (L := ltX2) (by decide +kernel) ltokX2 (by decide +kernel)
set_option maxRecDepth 20000 in
theorem ok_X3_comesTo : ∀ (i : Nat) (x : xI), cdX3_comesTo[i]? = some x → xok MT vcl RX3 cX3_comesTo 3 pcX3_comesTo i x := x_chk (o := 3) (L := ltX3) (by decide +kernel) ltokX3 (by decide +kernel)
set_option maxRecDepth 20000 in
theorem ok_X3_firstMergedComesTo : ∀ (i : Nat) (x : xI), cdX3_firstMergedComesTo[i]? = some x → xok MT vcl RX3 cX3_firstMergedComesTo 3 pcX3_firstMergedComesTo i x := x_chk (o := 3) (L := ltX3) (by decide +kernel) ltokX3 (by decide +kernel)
set_option maxRecDepth 20000 in
theorem ok_X3_spellKept : ∀ (i : Nat) (x : xI), cdX3_spellKept[i]? = some x → xok MT vcl RX3 cX3_spellKept 3 pcX3_spellKept i x := x_chk (o := 3) (L := ltX3) (by decide +kernel) ltokX3 (by decide +kernel)
set_option maxRecDepth 20000 in
theorem ok_X3_spellFirstMerged : ∀ (i : Nat) (x : xI), cdX3_spellFirstMerged[i]? = some x → xok MT vcl RX3 cX3_spellFirstMerged 3 pcX3_spellFirstMerged i x := x_chk (o := 3) (L := ltX3) (by decide +kernel) ltokX3 (by decide +kernel)
set_option maxRecDepth 20000 in
theorem ok_X3_partsIn : ∀ (i : Nat) (x : xI), cdX3_partsIn[i]? = some x → xok MT vcl RX3 cX3_partsIn 3 pcX3_partsIn i x := x_chk (o := 3) (L := ltX3) (by decide +kernel) ltokX3 (by decide +kernel)
set_option maxRecDepth 20000 in
theorem ok_X3_lacks : ∀ (i : Nat) (x : xI), cdX3_lacks[i]? = some x → xok MT vcl RX3 cX3_lacks 3 pcX3_lacks i x := x_chk (o := 3) (L := ltX3) (by decide +kernel) ltokX3 (by decide +kernel)
set_option maxRecDepth 20000 in
theorem ok_X3_begin : ∀ (i : Nat) (x : xI), cdX3_begin[i]? = some x → xok MT vcl RX3 cX3_begin 2 pcX3_begin i x := x_chk (o := 3) (L := ltX3) (by decide +kernel) ltokX3 (by decide +kernel)
set_option maxRecDepth 20000 in
theorem ok_X3_end : ∀ (i : Nat) (x : xI), cdX3_end[i]? = some x → xok MT vcl RX3 cX3_end 2 pcX3_end i x := x_chk (o := 3) (L := ltX3) (by decide +kernel) ltokX3 (by decide +kernel)
set_option maxRecDepth 20000 in
theorem ok_X3_forget : ∀ (i : Nat) (x : xI), cdX3_forget[i]? = some x → xok MT vcl RX3 cX3_forget 1 pcX3_forget i x := x_chk (o := 3) (L := ltX3) (by decide +kernel) ltokX3 (by decide +kernel)
set_option maxRecDepth 20000 in
theorem ok_X3_advance : ∀ (i : Nat) (x : xI), cdX3_advance[i]? = some x → xok MT vcl RX3 cX3_advance 6 pcX3_advance i x := x_chk (o := 3) (L := ltX3) (by decide +kernel) ltokX3 (by decide +kernel)
set_option maxRecDepth 20000 in
theorem ok_X3_offer : ∀ (i : Nat) (x : xI), cdX3_offer[i]? = some x → xok MT vcl RX3 cX3_offer 5 pcX3_offer i x := x_chk (o := 3) (L := ltX3) (by decide +kernel) ltokX3 (by decide +kernel)
set_option maxRecDepth 20000 in
theorem ok_X3_offerEach : ∀ (i : Nat) (x : xI), cdX3_offerEach[i]? = some x → xok MT vcl RX3 cX3_offerEach 6 pcX3_offerEach i x := x_chk (o := 3) (L := ltX3) (by decide +kernel) ltokX3 (by decide +kernel)
set_option maxRecDepth 20000 in
theorem ok_X3_merge : ∀ (i : Nat) (x : xI), cdX3_merge[i]? = some x → xok MT vcl RX3 cX3_merge 5 pcX3_merge i x := x_chk (o := 3) (L := ltX3) (by decide +kernel) ltokX3 (by decide +kernel)
set_option maxRecDepth 20000 in
theorem ok_X3_unsettleBehind : ∀ (i : Nat) (x : xI), cdX3_unsettleBehind[i]? = some x → xok MT vcl RX3 cX3_unsettleBehind 3 pcX3_unsettleBehind i x := x_chk (o := 3) (L := ltX3) (by decide +kernel) ltokX3 (by decide +kernel)
set_option maxRecDepth 20000 in
theorem ok_X4_isOfOne : ∀ (i : Nat) (x : xI), cdX4_isOfOne[i]? = some x → xok MT vcl RX4 cX4_isOfOne 1 pcX4_isOfOne i x := x_chk (o := 4) (L := ltX4) (by decide +kernel) ltokX4 (by decide +kernel)
set_option maxRecDepth 20000 in
theorem ok_X4_isEvenHanded : ∀ (i : Nat) (x : xI), cdX4_isEvenHanded[i]? = some x → xok MT vcl RX4 cX4_isEvenHanded 1 pcX4_isEvenHanded i x := x_chk (o := 4) (L := ltX4) (by decide +kernel) ltokX4 (by decide +kernel)
set_option maxRecDepth 20000 in
theorem ok_X4_apply : ∀ (i : Nat) (x : xI), cdX4_apply[i]? = some x → xok MT vcl RX4 cX4_apply 3 pcX4_apply i x := x_chk (o := 4) (L := ltX4) (by decide +kernel) ltokX4 (by decide +kernel)
set_option maxRecDepth 20000 in
theorem ok_X4_opening : ∀ (i : Nat) (x : xI), cdX4_opening[i]? = some x → xok MT vcl RX4 cX4_opening 1 pcX4_opening i x := x_chk (o := 4) (L := ltX4) (by decide +kernel) ltokX4 (by decide +kernel)
set_option maxRecDepth 20000 in
theorem ok_X5_put : ∀ (i : Nat) (x : xI), cdX5_put[i]? = some x → xok MT vcl RX5 cX5_put 4 pcX5_put i x := x_chk (o := 5) (L := ltX5) (by decide +kernel) ltokX5 (by decide +kernel)
set_option maxRecDepth 20000 in
theorem ok_X5_start : ∀ (i : Nat) (x : xI), cdX5_start[i]? = some x → xok MT vcl RX5 cX5_start 4 pcX5_start i x := x_chk (o := 5) (L := ltX5) (by decide +kernel) ltokX5 (by decide +kernel)
set_option maxRecDepth 20000 in
theorem ok_X5_step : ∀ (i : Nat) (x : xI), cdX5_step[i]? = some x → xok MT vcl RX5 cX5_step 3 pcX5_step i x := x_chk (o := 5) (L := ltX5) (by decide +kernel) ltokX5 (by decide +kernel)
set_option maxRecDepth 20000 in
theorem ok_X6_nodeBehind : ∀ (i : Nat) (x : xI), cdX6_nodeBehind[i]? = some x → xok MT vcl RX6 cX6_nodeBehind 2 pcX6_nodeBehind i x := x_chk (o := 6) (L := ltX6) (by decide +kernel) ltokX6 (by decide +kernel)
set_option maxRecDepth 20000 in
theorem ok_X6_mayAsk : ∀ (i : Nat) (x : xI), cdX6_mayAsk[i]? = some x → xok MT vcl RX6 cX6_mayAsk 1 pcX6_mayAsk i x := x_chk (o := 6) (L := ltX6) (by decide +kernel) ltokX6 (by decide +kernel)
set_option maxRecDepth 20000 in
theorem ok_X6_clear : ∀ (i : Nat) (x : xI), cdX6_clear[i]? = some x → xok MT vcl RX6 cX6_clear 1 pcX6_clear i x := x_chk (o := 6) (L := ltX6) (by decide +kernel) ltokX6 (by decide +kernel)
set_option maxRecDepth 20000 in
theorem ok_X6_isSameAs : ∀ (i : Nat) (x : xI), cdX6_isSameAs[i]? = some x → xok MT vcl RX6 cX6_isSameAs 3 pcX6_isSameAs i x := x_chk (o := 6) (L := ltX6) (by decide +kernel) ltokX6 (by decide +kernel)
set_option maxRecDepth 20000 in
theorem ok_X6_countIfs : ∀ (i : Nat) (x : xI), cdX6_countIfs[i]? = some x → xok MT vcl RX6 cX6_countIfs 3 pcX6_countIfs i x := x_chk (o := 6) (L := ltX6) (by decide +kernel) ltokX6 (by decide +kernel)
set_option maxRecDepth 20000 in
theorem ok_X6_deepestIf : ∀ (i : Nat) (x : xI), cdX6_deepestIf[i]? = some x → xok MT vcl RX6 cX6_deepestIf 3 pcX6_deepestIf i x := x_chk (o := 6) (L := ltX6) (by decide +kernel) ltokX6 (by decide +kernel)
set_option maxRecDepth 20000 in
theorem ok_X6_countLeaves : ∀ (i : Nat) (x : xI), cdX6_countLeaves[i]? = some x → xok MT vcl RX6 cX6_countLeaves 3 pcX6_countLeaves i x := x_chk (o := 6) (L := ltX6) (by decide +kernel) ltokX6 (by decide +kernel)
set_option maxRecDepth 20000 in
theorem ok_X6_standsAhead : ∀ (i : Nat) (x : xI), cdX6_standsAhead[i]? = some x → xok MT vcl RX6 cX6_standsAhead 3 pcX6_standsAhead i x := x_chk (o := 6) (L := ltX6) (by decide +kernel) ltokX6 (by decide +kernel)
set_option maxRecDepth 20000 in
theorem ok_X6_comesTo : ∀ (i : Nat) (x : xI), cdX6_comesTo[i]? = some x → xok MT vcl RX6 cX6_comesTo 4 pcX6_comesTo i x := x_chk (o := 6) (L := ltX6) (by decide +kernel) ltokX6 (by decide +kernel)
set_option maxRecDepth 20000 in
theorem ok_X6_leafOf : ∀ (i : Nat) (x : xI), cdX6_leafOf[i]? = some x → xok MT vcl RX6 cX6_leafOf 4 pcX6_leafOf i x := x_chk (o := 6) (L := ltX6) (by decide +kernel) ltokX6 (by decide +kernel)
set_option maxRecDepth 20000 in
theorem ok_X6_askedOnWay : ∀ (i : Nat) (x : xI), cdX6_askedOnWay[i]? = some x → xok MT vcl RX6 cX6_askedOnWay 6 pcX6_askedOnWay i x := x_chk (o := 6) (L := ltX6) (by decide +kernel) ltokX6 (by decide +kernel)
set_option maxRecDepth 20000 in
theorem ok_X6_partsIn : ∀ (i : Nat) (x : xI), cdX6_partsIn[i]? = some x → xok MT vcl RX6 cX6_partsIn 4 pcX6_partsIn i x := x_chk (o := 6) (L := ltX6) (by decide +kernel) ltokX6 (by decide +kernel)
set_option maxRecDepth 20000 in
theorem ok_X6_spellFrom : ∀ (i : Nat) (x : xI), cdX6_spellFrom[i]? = some x → xok MT vcl RX6 cX6_spellFrom 3 pcX6_spellFrom i x := x_chk (o := 6) (L := ltX6) (by decide +kernel) ltokX6 (by decide +kernel)
set_option maxRecDepth 20000 in
theorem ok_X7_forget : ∀ (i : Nat) (x : xI), cdX7_forget[i]? = some x → xok MT vcl RX7 cX7_forget 1 pcX7_forget i x := x_chk (o := 7) (L := ltX7) (by decide +kernel) ltokX7 (by decide +kernel)
set_option maxRecDepth 20000 in
theorem ok_X7_prepare : ∀ (i : Nat) (x : xI), cdX7_prepare[i]? = some x → xok MT vcl RX7 cX7_prepare 5 pcX7_prepare i x := x_chk (o := 7) (L := ltX7) (by decide +kernel) ltokX7 (by decide +kernel)
