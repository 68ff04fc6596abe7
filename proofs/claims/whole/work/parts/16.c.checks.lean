set_option maxRecDepth 20000 in
theorem ok_X11_differs : ∀ (i : Nat) (x : xI), cdX11_differs[i]? = some x → xok MT vcl RX11 cX11_differs 8 pcX11_differs i x := x_chk (o := 11) (L := ltX11) (by decide +kernel) ltokX11 (by decide +kernel)
set_option maxRecDepth 20000 in
theorem ok_X11_solve : ∀ (i : Nat) (x : xI), cdX11_solve[i]? = some x → xok MT vcl RX11 cX11_solve 2 pcX11_solve i x := x_chk (o := 11) (L := ltX11) (by decide +kernel) ltokX11 (by decide +kernel)
set_option maxRecDepth 20000 in
theorem ok_X11_make : ∀ (i : Nat) (x : xI), cdX11_make[i]? = some x → xok MT vcl RX11 cX11_make 11 pcX11_make i x := x_chk (o := 11) (L := ltX11) (by decide +kernel) ltokX11 (by decide +kernel)
set_option maxRecDepth 20000 in
theorem ok_X11_solved : ∀ (i : Nat) (x : xI), cdX11_solved[i]? = some x → xok MT vcl RX11 cX11_solved 2 pcX11_solved i x := x_chk (o := 11) (L := ltX11) (by decide +kernel) ltokX11 (by decide +kernel)
set_option maxRecDepth 20000 in
theorem ok_X11_comes : ∀ (i : Nat) (x : xI), cdX11_comes[i]? = some x → xok MT vcl RX11 cX11_comes 4 pcX11_comes i x := x_chk (o := 11) (L := ltX11) (by decide +kernel) ltokX11 (by decide +kernel)
set_option maxRecDepth 20000 in
theorem ok_X11_writeSolved : ∀ (i : Nat) (x : xI), cdX11_writeSolved[i]? = some x → xok MT vcl RX11 cX11_writeSolved 1 pcX11_writeSolved i x := x_chk (o := 11) (L := ltX11) (by decide +kernel) ltokX11 (by decide +kernel)
set_option maxRecDepth 20000 in
theorem ok_X11_leaf : ∀ (i : Nat) (x : xI), cdX11_leaf[i]? = some x → xok MT vcl RX11 cX11_leaf 2 pcX11_leaf i x := x_chk (o := 11) (L := ltX11) (by decide +kernel) ltokX11 (by decide +kernel)
set_option maxRecDepth 20000 in
theorem ok_X11_apart : ∀ (i : Nat) (x : xI), cdX11_apart[i]? = some x → xok MT vcl RX11 cX11_apart 5 pcX11_apart i x := x_chk (o := 11) (L := ltX11) (by decide +kernel) ltokX11 (by decide +kernel)
set_option maxRecDepth 20000 in
theorem ok_X11_without : ∀ (i : Nat) (x : xI), cdX11_without[i]? = some x → xok MT vcl RX11 cX11_without 3 pcX11_without i x := x_chk (o := 11) (L := ltX11) (by decide +kernel) ltokX11 (by decide +kernel)
set_option maxRecDepth 20000 in
theorem ok_X11_ties : ∀ (i : Nat) (x : xI), cdX11_ties[i]? = some x → xok MT vcl RX11 cX11_ties 2 pcX11_ties i x := x_chk (o := 11) (L := ltX11) (by decide +kernel) ltokX11 (by decide +kernel)
set_option maxRecDepth 20000 in
theorem ok_X11_needed : ∀ (i : Nat) (x : xI), cdX11_needed[i]? = some x → xok MT vcl RX11 cX11_needed 2 pcX11_needed i x := x_chk (o := 11) (L := ltX11) (by decide +kernel) ltokX11 (by decide +kernel)
set_option maxRecDepth 20000 in
theorem ok_X11_solvedUses : ∀ (i : Nat) (x : xI), cdX11_solvedUses[i]? = some x → xok MT vcl RX11 cX11_solvedUses 2 pcX11_solvedUses i x := x_chk (o := 11) (L := ltX11) (by decide +kernel) ltokX11 (by decide +kernel)
set_option maxRecDepth 20000 in
theorem ok_X11_way : ∀ (i : Nat) (x : xI), cdX11_way[i]? = some x → xok MT vcl RX11 cX11_way 5 pcX11_way i x := x_chk (o := 11) (L := ltX11) (by decide +kernel) ltokX11 (by decide +kernel)
set_option maxRecDepth 20000 in
theorem ok_X11_isIdle : ∀ (i : Nat) (x : xI), cdX11_isIdle[i]? = some x → xok MT vcl RX11 cX11_isIdle 3 pcX11_isIdle i x := x_chk (o := 11) (L := ltX11) (by decide +kernel) ltokX11 (by decide +kernel)
set_option maxRecDepth 20000 in
theorem ok_X11_fits : ∀ (i : Nat) (x : xI), cdX11_fits[i]? = some x → xok MT vcl RX11 cX11_fits 4 pcX11_fits i x := x_chk (o := 11) (L := ltX11) (by decide +kernel) ltokX11 (by decide +kernel)
set_option maxRecDepth 20000 in
theorem ok_X11_fewest : ∀ (i : Nat) (x : xI), cdX11_fewest[i]? = some x → xok MT vcl RX11 cX11_fewest 1 pcX11_fewest i x := x_chk (o := 11) (L := ltX11) (by decide +kernel) ltokX11 (by decide +kernel)
set_option maxRecDepth 20000 in
theorem ok_X11_splits : ∀ (i : Nat) (x : xI), cdX11_splits[i]? = some x → xok MT vcl RX11 cX11_splits 5 pcX11_splits i x := x_chk (o := 11) (L := ltX11) (by decide +kernel) ltokX11 (by decide +kernel)
set_option maxRecDepth 20000 in
theorem ok_X11_count : ∀ (i : Nat) (x : xI), cdX11_count[i]? = some x → xok MT vcl RX11 cX11_count 2 pcX11_count i x := x_chk (o := 11) (L := ltX11) (by decide +kernel) ltokX11 (by decide +kernel)
set_option maxRecDepth 20000 in
theorem ok_X11_told : ∀ (i : Nat) (x : xI), cdX11_told[i]? = some x → xok MT vcl RX11 cX11_told 3 pcX11_told i x := x_chk (o := 11) (L := ltX11) (by decide +kernel) ltokX11 (by decide +kernel)
set_option maxRecDepth 20000 in
theorem ok_X11_constantAt : ∀ (i : Nat) (x : xI), cdX11_constantAt[i]? = some x → xok MT vcl RX11 cX11_constantAt 2 pcX11_constantAt i x := x_chk (o := 11) (L := ltX11) (by decide +kernel) ltokX11 (by decide +kernel)
set_option maxRecDepth 20000 in
theorem ok_X11_forgetAllMade : ∀ (i : Nat) (x : xI), cdX11_forgetAllMade[i]? = some x → xok MT vcl RX11 cX11_forgetAllMade 1 pcX11_forgetAllMade i x := x_chk (o := 11) (L := ltX11) (by decide +kernel) ltokX11 (by decide +kernel)
set_option maxRecDepth 20000 in
theorem ok_X11_settle : ∀ (i : Nat) (x : xI), cdX11_settle[i]? = some x → xok MT vcl RX11 cX11_settle 3 pcX11_settle i x := x_chk (o := 11) (L := ltX11) (by decide +kernel) ltokX11 (by decide +kernel)
set_option maxRecDepth 20000 in
theorem ok_X11_growthOf : ∀ (i : Nat) (x : xI), cdX11_growthOf[i]? = some x → xok MT vcl RX11 cX11_growthOf 2 pcX11_growthOf i x := x_chk (o := 11) (L := ltX11) (by decide +kernel) ltokX11 (by decide +kernel)
set_option maxRecDepth 20000 in
theorem ok_X11_growthWith : ∀ (i : Nat) (x : xI), cdX11_growthWith[i]? = some x → xok MT vcl RX11 cX11_growthWith 3 pcX11_growthWith i x := x_chk (o := 11) (L := ltX11) (by decide +kernel) ltokX11 (by decide +kernel)
set_option maxRecDepth 20000 in
theorem ok_X11_refuseNotKept : ∀ (i : Nat) (x : xI), cdX11_refuseNotKept[i]? = some x → xok MT vcl RX11 cX11_refuseNotKept 3 pcX11_refuseNotKept i x := x_chk (o := 11) (L := ltX11) (by decide +kernel) ltokX11 (by decide +kernel)
set_option maxRecDepth 20000 in
theorem ok_X11_refuseNoExample : ∀ (i : Nat) (x : xI), cdX11_refuseNoExample[i]? = some x → xok MT vcl RX11 cX11_refuseNoExample 2 pcX11_refuseNoExample i x := x_chk (o := 11) (L := ltX11) (by decide +kernel) ltokX11 (by decide +kernel)
set_option maxRecDepth 20000 in
theorem ok_X11_refuseNoExamples : ∀ (i : Nat) (x : xI), cdX11_refuseNoExamples[i]? = some x → xok MT vcl RX11 cX11_refuseNoExamples 1 pcX11_refuseNoExamples i x := x_chk (o := 11) (L := ltX11) (by decide +kernel) ltokX11 (by decide +kernel)
set_option maxRecDepth 20000 in
theorem ok_X11_refuseNotSolved : ∀ (i : Nat) (x : xI), cdX11_refuseNotSolved[i]? = some x → xok MT vcl RX11 cX11_refuseNotSolved 1 pcX11_refuseNotSolved i x := x_chk (o := 11) (L := ltX11) (by decide +kernel) ltokX11 (by decide +kernel)
set_option maxRecDepth 20000 in
theorem ok_X11_refuseNoInputs : ∀ (i : Nat) (x : xI), cdX11_refuseNoInputs[i]? = some x → xok MT vcl RX11 cX11_refuseNoInputs 4 pcX11_refuseNoInputs i x := x_chk (o := 11) (L := ltX11) (by decide +kernel) ltokX11 (by decide +kernel)
set_option maxRecDepth 20000 in
theorem ok_X11_refuseNoInputNumber : ∀ (i : Nat) (x : xI), cdX11_refuseNoInputNumber[i]? = some x → xok MT vcl RX11 cX11_refuseNoInputNumber 1 pcX11_refuseNoInputNumber i x := x_chk (o := 11) (L := ltX11) (by decide +kernel) ltokX11 (by decide +kernel)
set_option maxRecDepth 20000 in
theorem ok_X11_refuseNoPart : ∀ (i : Nat) (x : xI), cdX11_refuseNoPart[i]? = some x → xok MT vcl RX11 cX11_refuseNoPart 1 pcX11_refuseNoPart i x := x_chk (o := 11) (L := ltX11) (by decide +kernel) ltokX11 (by decide +kernel)
set_option maxRecDepth 20000 in
theorem ok_X11_refuseNoIfs : ∀ (i : Nat) (x : xI), cdX11_refuseNoIfs[i]? = some x → xok MT vcl RX11 cX11_refuseNoIfs 1 pcX11_refuseNoIfs i x := x_chk (o := 11) (L := ltX11) (by decide +kernel) ltokX11 (by decide +kernel)
set_option maxRecDepth 20000 in
theorem ok_X11_refuseEmpty : ∀ (i : Nat) (x : xI), cdX11_refuseEmpty[i]? = some x → xok MT vcl RX11 cX11_refuseEmpty 1 pcX11_refuseEmpty i x := x_chk (o := 11) (L := ltX11) (by decide +kernel) ltokX11 (by decide +kernel)
set_option maxRecDepth 20000 in
theorem ok_X11_refuseStrangers : ∀ (i : Nat) (x : xI), cdX11_refuseStrangers[i]? = some x → xok MT vcl RX11 cX11_refuseStrangers 2 pcX11_refuseStrangers i x := x_chk (o := 11) (L := ltX11) (by decide +kernel) ltokX11 (by decide +kernel)
set_option maxRecDepth 20000 in
theorem ok_X12_thrown : ∀ (i : Nat) (x : xI), cdX12_thrown[i]? = some x → xok MT vcl RX12 cX12_thrown 1 pcX12_thrown i x := x_chk (o := 12) (L := ltX12) (by decide +kernel) ltokX12 (by decide +kernel)
set_option maxRecDepth 20000 in
theorem ok_X12_isIn : ∀ (i : Nat) (x : xI), cdX12_isIn[i]? = some x → xok MT vcl RX12 cX12_isIn 3 pcX12_isIn i x := x_chk (o := 12) (L := ltX12) (by decide +kernel) ltokX12 (by decide +kernel)
set_option maxRecDepth 20000 in
theorem ok_X12_all : ∀ (i : Nat) (x : xI), cdX12_all[i]? = some x → xok MT vcl RX12 cX12_all 1 pcX12_all i x := x_chk (o := 12) (L := ltX12) (by decide +kernel) ltokX12 (by decide +kernel)
set_option maxRecDepth 20000 in
theorem ok_X12_goes : ∀ (i : Nat) (x : xI), cdX12_goes[i]? = some x → xok MT vcl RX12 cX12_goes 2 pcX12_goes i x := x_chk (o := 12) (L := ltX12) (by decide +kernel) ltokX12 (by decide +kernel)
set_option maxRecDepth 20000 in
theorem ok_X12_many : ∀ (i : Nat) (x : xI), cdX12_many[i]? = some x → xok MT vcl RX12 cX12_many 3 pcX12_many i x := x_chk (o := 12) (L := ltX12) (by decide +kernel) ltokX12 (by decide +kernel)
set_option maxRecDepth 20000 in
theorem ok_X12_areInputs : ∀ (i : Nat) (x : xI), cdX12_areInputs[i]? = some x → xok MT vcl RX12 cX12_areInputs 4 pcX12_areInputs i x := x_chk (o := 12) (L := ltX12) (by decide +kernel) ltokX12 (by decide +kernel)
set_option maxRecDepth 20000 in
theorem ok_X12_isThere : ∀ (i : Nat) (x : xI), cdX12_isThere[i]? = some x → xok MT vcl RX12 cX12_isThere 5 pcX12_isThere i x := x_chk (o := 12) (L := ltX12) (by decide +kernel) ltokX12 (by decide +kernel)
set_option maxRecDepth 20000 in
theorem ok_X12_example : ∀ (i : Nat) (x : xI), cdX12_example[i]? = some x → xok MT vcl RX12 cX12_example 5 pcX12_example i x := x_chk (o := 12) (L := ltX12) (by decide +kernel) ltokX12 (by decide +kernel)
set_option maxRecDepth 20000 in
theorem ok_X12_isExample : ∀ (i : Nat) (x : xI), cdX12_isExample[i]? = some x → xok MT vcl RX12 cX12_isExample 2 pcX12_isExample i x := x_chk (o := 12) (L := ltX12) (by decide +kernel) ltokX12 (by decide +kernel)
set_option maxRecDepth 20000 in
theorem ok_X12_drop : ∀ (i : Nat) (x : xI), cdX12_drop[i]? = some x → xok MT vcl RX12 cX12_drop 3 pcX12_drop i x := x_chk (o := 12) (L := ltX12) (by decide +kernel) ltokX12 (by decide +kernel)
set_option maxRecDepth 20000 in
theorem ok_X12_isPart : ∀ (i : Nat) (x : xI), cdX12_isPart[i]? = some x → xok MT vcl RX12 cX12_isPart 1 pcX12_isPart i x := x_chk (o := 12) (L := ltX12) (by decide +kernel) ltokX12 (by decide +kernel)
set_option maxRecDepth 20000 in
theorem ok_X12_part : ∀ (i : Nat) (x : xI), cdX12_part[i]? = some x → xok MT vcl RX12 cX12_part 4 pcX12_part i x := x_chk (o := 12) (L := ltX12) (by decide +kernel) ltokX12 (by decide +kernel)
set_option maxRecDepth 20000 in
theorem ok_X12_isConstant : ∀ (i : Nat) (x : xI), cdX12_isConstant[i]? = some x → xok MT vcl RX12 cX12_isConstant 3 pcX12_isConstant i x := x_chk (o := 12) (L := ltX12) (by decide +kernel) ltokX12 (by decide +kernel)
set_option maxRecDepth 20000 in
theorem ok_X12_comesConstant : ∀ (i : Nat) (x : xI), cdX12_comesConstant[i]? = some x → xok MT vcl RX12 cX12_comesConstant 3 pcX12_comesConstant i x := x_chk (o := 12) (L := ltX12) (by decide +kernel) ltokX12 (by decide +kernel)
set_option maxRecDepth 20000 in
theorem ok_X12_constant : ∀ (i : Nat) (x : xI), cdX12_constant[i]? = some x → xok MT vcl RX12 cX12_constant 3 pcX12_constant i x := x_chk (o := 12) (L := ltX12) (by decide +kernel) ltokX12 (by decide +kernel)
set_option maxRecDepth 20000 in
theorem ok_X12_triesConstant : ∀ (i : Nat) (x : xI), cdX12_triesConstant[i]? = some x → xok MT vcl RX12 cX12_triesConstant 2 pcX12_triesConstant i x := x_chk (o := 12) (L := ltX12) (by decide +kernel) ltokX12 (by decide +kernel)
set_option maxRecDepth 20000 in
theorem ok_X12_constants : ∀ (i : Nat) (x : xI), cdX12_constants[i]? = some x → xok MT vcl RX12 cX12_constants 3 pcX12_constants i x := x_chk (o := 12) (L := ltX12) (by decide +kernel) ltokX12 (by decide +kernel)
set_option maxRecDepth 20000 in
theorem ok_X12_budget : ∀ (i : Nat) (x : xI), cdX12_budget[i]? = some x → xok MT vcl RX12 cX12_budget 3 pcX12_budget i x := x_chk (o := 12) (L := ltX12) (by decide +kernel) ltokX12 (by decide +kernel)
set_option maxRecDepth 20000 in
theorem ok_X12_absolute : ∀ (i : Nat) (x : xI), cdX12_absolute[i]? = some x → xok MT vcl RX12 cX12_absolute 1 pcX12_absolute i x := x_chk (o := 12) (L := ltX12) (by decide +kernel) ltokX12 (by decide +kernel)
set_option maxRecDepth 20000 in
theorem ok_X12_does : ∀ (i : Nat) (x : xI), cdX12_does[i]? = some x → xok MT vcl RX12 cX12_does 3 pcX12_does i x := x_chk (o := 12) (L := ltX12) (by decide +kernel) ltokX12 (by decide +kernel)
set_option maxRecDepth 20000 in
theorem ok_X12_isOfOne : ∀ (i : Nat) (x : xI), cdX12_isOfOne[i]? = some x → xok MT vcl RX12 cX12_isOfOne 1 pcX12_isOfOne i x := x_chk (o := 12) (L := ltX12) (by decide +kernel) ltokX12 (by decide +kernel)
set_option maxRecDepth 20000 in
theorem ok_X12_isAlikeRound : ∀ (i : Nat) (x : xI), cdX12_isAlikeRound[i]? = some x → xok MT vcl RX12 cX12_isAlikeRound 1 pcX12_isAlikeRound i x := x_chk (o := 12) (L := ltX12) (by decide +kernel) ltokX12 (by decide +kernel)
set_option maxRecDepth 20000 in
theorem ok_X12_may : ∀ (i : Nat) (x : xI), cdX12_may[i]? = some x → xok MT vcl RX12 cX12_may 1 pcX12_may i x := x_chk (o := 12) (L := ltX12) (by decide +kernel) ltokX12 (by decide +kernel)
set_option maxRecDepth 20000 in
theorem ok_X12_like : ∀ (i : Nat) (x : xI), cdX12_like[i]? = some x → xok MT vcl RX12 cX12_like 4 pcX12_like i x := x_chk (o := 12) (L := ltX12) (by decide +kernel) ltokX12 (by decide +kernel)
set_option maxRecDepth 20000 in
theorem ok_X12_coverNow : ∀ (i : Nat) (x : xI), cdX12_coverNow[i]? = some x → xok MT vcl RX12 cX12_coverNow 3 pcX12_coverNow i x := x_chk (o := 12) (L := ltX12) (by decide +kernel) ltokX12 (by decide +kernel)
set_option maxRecDepth 20000 in
theorem ok_X12_keeps : ∀ (i : Nat) (x : xI), cdX12_keeps[i]? = some x → xok MT vcl RX12 cX12_keeps 7 pcX12_keeps i x := x_chk (o := 12) (L := ltX12) (by decide +kernel) ltokX12 (by decide +kernel)
