set_option maxRecDepth 20000 in
theorem ok_X7_findUsable : ∀ (i : Nat) (x : xI), cdX7_findUsable[i]? = some x → xok MT vcl RX7 cX7_findUsable 2 pcX7_findUsable i x := x_chk (o := 7) (L := ltX7) (by decide +kernel) ltokX7 (by decide +kernel)
set_option maxRecDepth 20000 in
theorem ok_X7_findLeast : ∀ (i : Nat) (x : xI), cdX7_findLeast[i]? = some x → xok MT vcl RX7 cX7_findLeast 4 pcX7_findLeast i x := x_chk (o := 7) (L := ltX7) (by decide +kernel) ltokX7 (by decide +kernel)
set_option maxRecDepth 20000 in
theorem ok_X7_sizeOrNone : ∀ (i : Nat) (x : xI), cdX7_sizeOrNone[i]? = some x → xok MT vcl RX7 cX7_sizeOrNone 4 pcX7_sizeOrNone i x := x_chk (o := 7) (L := ltX7) (by decide +kernel) ltokX7 (by decide +kernel)
set_option maxRecDepth 20000 in
theorem ok_X7_sizeOf : ∀ (i : Nat) (x : xI), cdX7_sizeOf[i]? = some x → xok MT vcl RX7 cX7_sizeOf 7 pcX7_sizeOf i x := x_chk (o := 7) (L := ltX7) (by decide +kernel) ltokX7 (by decide +kernel)
set_option maxRecDepth 20000 in
theorem ok_X7_mayDo : ∀ (i : Nat) (x : xI), cdX7_mayDo[i]? = some x → xok MT vcl RX7 cX7_mayDo 3 pcX7_mayDo i x := x_chk (o := 7) (L := ltX7) (by decide +kernel) ltokX7 (by decide +kernel)
set_option maxRecDepth 20000 in
theorem ok_X7_sizeWith : ∀ (i : Nat) (x : xI), cdX7_sizeWith[i]? = some x → xok MT vcl RX7 cX7_sizeWith 7 pcX7_sizeWith i x := x_chk (o := 7) (L := ltX7) (by decide +kernel) ltokX7 (by decide +kernel)
set_option maxRecDepth 20000 in
theorem ok_X7_place : ∀ (i : Nat) (x : xI), cdX7_place[i]? = some x → xok MT vcl RX7 cX7_place 8 pcX7_place i x := x_chk (o := 7) (L := ltX7) (by decide +kernel) ltokX7 (by decide +kernel)
set_option maxRecDepth 20000 in
theorem ok_X7_firstTestWith : ∀ (i : Nat) (x : xI), cdX7_firstTestWith[i]? = some x → xok MT vcl RX7 cX7_firstTestWith 5 pcX7_firstTestWith i x := x_chk (o := 7) (L := ltX7) (by decide +kernel) ltokX7 (by decide +kernel)
set_option maxRecDepth 20000 in
theorem ok_X7_waysOf : ∀ (i : Nat) (x : xI), cdX7_waysOf[i]? = some x → xok MT vcl RX7 cX7_waysOf 11 pcX7_waysOf i x := x_chk (o := 7) (L := ltX7) (by decide +kernel) ltokX7 (by decide +kernel)
set_option maxRecDepth 20000 in
theorem ok_X7_countFitting : ∀ (i : Nat) (x : xI), cdX7_countFitting[i]? = some x → xok MT vcl RX7 cX7_countFitting 5 pcX7_countFitting i x := x_chk (o := 7) (L := ltX7) (by decide +kernel) ltokX7 (by decide +kernel)
set_option maxRecDepth 20000 in
theorem ok_X7_fewestOrNone : ∀ (i : Nat) (x : xI), cdX7_fewestOrNone[i]? = some x → xok MT vcl RX7 cX7_fewestOrNone 2 pcX7_fewestOrNone i x := x_chk (o := 7) (L := ltX7) (by decide +kernel) ltokX7 (by decide +kernel)
set_option maxRecDepth 20000 in
theorem ok_X7_fewestFor : ∀ (i : Nat) (x : xI), cdX7_fewestFor[i]? = some x → xok MT vcl RX7 cX7_fewestFor 5 pcX7_fewestFor i x := x_chk (o := 7) (L := ltX7) (by decide +kernel) ltokX7 (by decide +kernel)
set_option maxRecDepth 20000 in
theorem ok_X8_isNoConstant : ∀ (i : Nat) (x : xI), cdX8_isNoConstant[i]? = some x → xok MT vcl RX8 cX8_isNoConstant 1 pcX8_isNoConstant i x := x_chk (o := 8) (L := ltX8) (by decide +kernel) ltokX8 (by decide +kernel)
set_option maxRecDepth 20000 in
theorem ok_X8_mayUse : ∀ (i : Nat) (x : xI), cdX8_mayUse[i]? = some x → xok MT vcl RX8 cX8_mayUse 2 pcX8_mayUse i x := x_chk (o := 8) (L := ltX8) (by decide +kernel) ltokX8 (by decide +kernel)
set_option maxRecDepth 20000 in
theorem ok_X8_isFull : ∀ (i : Nat) (x : xI), cdX8_isFull[i]? = some x → xok MT vcl RX8 cX8_isFull 1 pcX8_isFull i x := x_chk (o := 8) (L := ltX8) (by decide +kernel) ltokX8 (by decide +kernel)
set_option maxRecDepth 20000 in
theorem ok_X8_hasConstant : ∀ (i : Nat) (x : xI), cdX8_hasConstant[i]? = some x → xok MT vcl RX8 cX8_hasConstant 3 pcX8_hasConstant i x := x_chk (o := 8) (L := ltX8) (by decide +kernel) ltokX8 (by decide +kernel)
set_option maxRecDepth 20000 in
theorem ok_X8_addConstant : ∀ (i : Nat) (x : xI), cdX8_addConstant[i]? = some x → xok MT vcl RX8 cX8_addConstant 3 pcX8_addConstant i x := x_chk (o := 8) (L := ltX8) (by decide +kernel) ltokX8 (by decide +kernel)
set_option maxRecDepth 20000 in
theorem ok_X8_offerConstant : ∀ (i : Nat) (x : xI), cdX8_offerConstant[i]? = some x → xok MT vcl RX8 cX8_offerConstant 2 pcX8_offerConstant i x := x_chk (o := 8) (L := ltX8) (by decide +kernel) ltokX8 (by decide +kernel)
set_option maxRecDepth 20000 in
theorem ok_X9_firstSize : ∀ (i : Nat) (x : xI), cdX9_firstSize[i]? = some x → xok MT vcl RX9 cX9_firstSize 1 pcX9_firstSize i x := x_chk (o := 9) (L := ltX9) (by decide +kernel) ltokX9 (by decide +kernel)
set_option maxRecDepth 20000 in
theorem ok_X9_makeAll : ∀ (i : Nat) (x : xI), cdX9_makeAll[i]? = some x → xok MT vcl RX9 cX9_makeAll 2 pcX9_makeAll i x := x_chk (o := 9) (L := ltX9) (by decide +kernel) ltokX9 (by decide +kernel)
set_option maxRecDepth 20000 in
theorem ok_X9_makeCompared : ∀ (i : Nat) (x : xI), cdX9_makeCompared[i]? = some x → xok MT vcl RX9 cX9_makeCompared 8 pcX9_makeCompared i x := x_chk (o := 9) (L := ltX9) (by decide +kernel) ltokX9 (by decide +kernel)
set_option maxRecDepth 20000 in
theorem ok_X9_makeNots : ∀ (i : Nat) (x : xI), cdX9_makeNots[i]? = some x → xok MT vcl RX9 cX9_makeNots 3 pcX9_makeNots i x := x_chk (o := 9) (L := ltX9) (by decide +kernel) ltokX9 (by decide +kernel)
set_option maxRecDepth 20000 in
theorem ok_X9_makeAnds : ∀ (i : Nat) (x : xI), cdX9_makeAnds[i]? = some x → xok MT vcl RX9 cX9_makeAnds 6 pcX9_makeAnds i x := x_chk (o := 9) (L := ltX9) (by decide +kernel) ltokX9 (by decide +kernel)
set_option maxRecDepth 20000 in
theorem ok_X9_reckon : ∀ (i : Nat) (x : xI), cdX9_reckon[i]? = some x → xok MT vcl RX9 cX9_reckon 4 pcX9_reckon i x := x_chk (o := 9) (L := ltX9) (by decide +kernel) ltokX9 (by decide +kernel)
set_option maxRecDepth 20000 in
theorem ok_X9_compared : ∀ (i : Nat) (x : xI), cdX9_compared[i]? = some x → xok MT vcl RX9 cX9_compared 8 pcX9_compared i x := x_chk (o := 9) (L := ltX9) (by decide +kernel) ltokX9 (by decide +kernel)
set_option maxRecDepth 20000 in
theorem ok_X9_saysNothing : ∀ (i : Nat) (x : xI), cdX9_saysNothing[i]? = some x → xok MT vcl RX9 cX9_saysNothing 1 pcX9_saysNothing i x := x_chk (o := 9) (L := ltX9) (by decide +kernel) ltokX9 (by decide +kernel)
set_option maxRecDepth 20000 in
theorem ok_X9_holder : ∀ (i : Nat) (x : xI), cdX9_holder[i]? = some x → xok MT vcl RX9 cX9_holder 1 pcX9_holder i x := x_chk (o := 9) (L := ltX9) (by decide +kernel) ltokX9 (by decide +kernel)
set_option maxRecDepth 20000 in
theorem ok_X9_settleOutputs : ∀ (i : Nat) (x : xI), cdX9_settleOutputs[i]? = some x → xok MT vcl RX9 cX9_settleOutputs 2 pcX9_settleOutputs i x := x_chk (o := 9) (L := ltX9) (by decide +kernel) ltokX9 (by decide +kernel)
set_option maxRecDepth 20000 in
theorem ok_X9_unsettleOutputs : ∀ (i : Nat) (x : xI), cdX9_unsettleOutputs[i]? = some x → xok MT vcl RX9 cX9_unsettleOutputs 2 pcX9_unsettleOutputs i x := x_chk (o := 9) (L := ltX9) (by decide +kernel) ltokX9 (by decide +kernel)
set_option maxRecDepth 20000 in
theorem ok_X9_usageOf : ∀ (i : Nat) (x : xI), cdX9_usageOf[i]? = some x → xok MT vcl RX9 cX9_usageOf 4 pcX9_usageOf i x := x_chk (o := 9) (L := ltX9) (by decide +kernel) ltokX9 (by decide +kernel)
set_option maxRecDepth 20000 in
theorem ok_X9_outputOn : ∀ (i : Nat) (x : xI), cdX9_outputOn[i]? = some x → xok MT vcl RX9 cX9_outputOn 3 pcX9_outputOn i x := x_chk (o := 9) (L := ltX9) (by decide +kernel) ltokX9 (by decide +kernel)
set_option maxRecDepth 20000 in
theorem ok_X9_come : ∀ (i : Nat) (x : xI), cdX9_come[i]? = some x → xok MT vcl RX9 cX9_come 9 pcX9_come i x := x_chk (o := 9) (L := ltX9) (by decide +kernel) ltokX9 (by decide +kernel)
set_option maxRecDepth 20000 in
theorem ok_X9_spell : ∀ (i : Nat) (x : xI), cdX9_spell[i]? = some x → xok MT vcl RX9 cX9_spell 6 pcX9_spell i x := x_chk (o := 9) (L := ltX9) (by decide +kernel) ltokX9 (by decide +kernel)
set_option maxRecDepth 20000 in
theorem ok_X10_clear : ∀ (i : Nat) (x : xI), cdX10_clear[i]? = some x → xok MT vcl RX10 cX10_clear 1 pcX10_clear i x := x_chk (o := 10) (L := ltX10) (by decide +kernel) ltokX10 (by decide +kernel)
set_option maxRecDepth 20000 in
theorem ok_X10_add : ∀ (i : Nat) (x : xI), cdX10_add[i]? = some x → xok MT vcl RX10 cX10_add 2 pcX10_add i x := x_chk (o := 10) (L := ltX10) (by decide +kernel) ltokX10 (by decide +kernel)
set_option maxRecDepth 20000 in
theorem ok_X10_addAll : ∀ (i : Nat) (x : xI), cdX10_addAll[i]? = some x → xok MT vcl RX10 cX10_addAll 3 pcX10_addAll i x := x_chk (o := 10) (L := ltX10) (by decide +kernel) ltokX10 (by decide +kernel)
set_option maxRecDepth 20000 in
theorem ok_X10_addNumber : ∀ (i : Nat) (x : xI), cdX10_addNumber[i]? = some x → xok MT vcl RX10 cX10_addNumber 3 pcX10_addNumber i x := x_chk (o := 10) (L := ltX10) (by decide +kernel) ltokX10 (by decide +kernel)
set_option maxRecDepth 20000 in
theorem ok_X11_many : ∀ (i : Nat) (x : xI), cdX11_many[i]? = some x → xok MT vcl RX11 cX11_many 3 pcX11_many i x := x_chk (o := 11) (L := ltX11) (by decide +kernel) ltokX11 (by decide +kernel)
set_option maxRecDepth 20000 in
theorem ok_X11_example : ∀ (i : Nat) (x : xI), cdX11_example[i]? = some x → xok MT vcl RX11 cX11_example 6 pcX11_example i x := x_chk (o := 11) (L := ltX11) (by decide +kernel) ltokX11 (by decide +kernel)
set_option maxRecDepth 20000 in
theorem ok_X11_drop : ∀ (i : Nat) (x : xI), cdX11_drop[i]? = some x → xok MT vcl RX11 cX11_drop 2 pcX11_drop i x := x_chk (o := 11) (L := ltX11) (by decide +kernel) ltokX11 (by decide +kernel)
set_option maxRecDepth 20000 in
theorem ok_X11_part : ∀ (i : Nat) (x : xI), cdX11_part[i]? = some x → xok MT vcl RX11 cX11_part 4 pcX11_part i x := x_chk (o := 11) (L := ltX11) (by decide +kernel) ltokX11 (by decide +kernel)
set_option maxRecDepth 20000 in
theorem ok_X11_constant : ∀ (i : Nat) (x : xI), cdX11_constant[i]? = some x → xok MT vcl RX11 cX11_constant 3 pcX11_constant i x := x_chk (o := 11) (L := ltX11) (by decide +kernel) ltokX11 (by decide +kernel)
set_option maxRecDepth 20000 in
theorem ok_X11_constants : ∀ (i : Nat) (x : xI), cdX11_constants[i]? = some x → xok MT vcl RX11 cX11_constants 4 pcX11_constants i x := x_chk (o := 11) (L := ltX11) (by decide +kernel) ltokX11 (by decide +kernel)
set_option maxRecDepth 20000 in
theorem ok_X11_budget : ∀ (i : Nat) (x : xI), cdX11_budget[i]? = some x → xok MT vcl RX11 cX11_budget 3 pcX11_budget i x := x_chk (o := 11) (L := ltX11) (by decide +kernel) ltokX11 (by decide +kernel)
set_option maxRecDepth 20000 in
theorem ok_X11_grow : ∀ (i : Nat) (x : xI), cdX11_grow[i]? = some x → xok MT vcl RX11 cX11_grow 2 pcX11_grow i x := x_chk (o := 11) (L := ltX11) (by decide +kernel) ltokX11 (by decide +kernel)
set_option maxRecDepth 20000 in
theorem ok_X11_grown : ∀ (i : Nat) (x : xI), cdX11_grown[i]? = some x → xok MT vcl RX11 cX11_grown 4 pcX11_grown i x := x_chk (o := 11) (L := ltX11) (by decide +kernel) ltokX11 (by decide +kernel)
set_option maxRecDepth 20000 in
theorem ok_X11_kept : ∀ (i : Nat) (x : xI), cdX11_kept[i]? = some x → xok MT vcl RX11 cX11_kept 5 pcX11_kept i x := x_chk (o := 11) (L := ltX11) (by decide +kernel) ltokX11 (by decide +kernel)
set_option maxRecDepth 20000 in
theorem ok_X11_output : ∀ (i : Nat) (x : xI), cdX11_output[i]? = some x → xok MT vcl RX11 cX11_output 5 pcX11_output i x := x_chk (o := 11) (L := ltX11) (by decide +kernel) ltokX11 (by decide +kernel)
set_option maxRecDepth 20000 in
theorem ok_X11_value : ∀ (i : Nat) (x : xI), cdX11_value[i]? = some x → xok MT vcl RX11 cX11_value 7 pcX11_value i x := x_chk (o := 11) (L := ltX11) (by decide +kernel) ltokX11 (by decide +kernel)
set_option maxRecDepth 20000 in
theorem ok_X11_write : ∀ (i : Nat) (x : xI), cdX11_write[i]? = some x → xok MT vcl RX11 cX11_write 4 pcX11_write i x := x_chk (o := 11) (L := ltX11) (by decide +kernel) ltokX11 (by decide +kernel)
set_option maxRecDepth 20000 in
theorem ok_X11_octet : ∀ (i : Nat) (x : xI), cdX11_octet[i]? = some x → xok MT vcl RX11 cX11_octet 2 pcX11_octet i x := x_chk (o := 11) (L := ltX11) (by decide +kernel) ltokX11 (by decide +kernel)
set_option maxRecDepth 20000 in
theorem ok_X11_testOf : ∀ (i : Nat) (x : xI), cdX11_testOf[i]? = some x → xok MT vcl RX11 cX11_testOf 2 pcX11_testOf i x := x_chk (o := 11) (L := ltX11) (by decide +kernel) ltokX11 (by decide +kernel)
set_option maxRecDepth 20000 in
theorem ok_X11_joins : ∀ (i : Nat) (x : xI), cdX11_joins[i]? = some x → xok MT vcl RX11 cX11_joins 4 pcX11_joins i x := x_chk (o := 11) (L := ltX11) (by decide +kernel) ltokX11 (by decide +kernel)
set_option maxRecDepth 20000 in
theorem ok_X11_ofSize : ∀ (i : Nat) (x : xI), cdX11_ofSize[i]? = some x → xok MT vcl RX11 cX11_ofSize 6 pcX11_ofSize i x := x_chk (o := 11) (L := ltX11) (by decide +kernel) ltokX11 (by decide +kernel)
set_option maxRecDepth 20000 in
theorem ok_X11_unlike : ∀ (i : Nat) (x : xI), cdX11_unlike[i]? = some x → xok MT vcl RX11 cX11_unlike 7 pcX11_unlike i x := x_chk (o := 11) (L := ltX11) (by decide +kernel) ltokX11 (by decide +kernel)
set_option maxRecDepth 20000 in
theorem ok_X11_uses : ∀ (i : Nat) (x : xI), cdX11_uses[i]? = some x → xok MT vcl RX11 cX11_uses 5 pcX11_uses i x := x_chk (o := 11) (L := ltX11) (by decide +kernel) ltokX11 (by decide +kernel)
set_option maxRecDepth 20000 in
theorem ok_X11_far : ∀ (i : Nat) (x : xI), cdX11_far[i]? = some x → xok MT vcl RX11 cX11_far 2 pcX11_far i x := x_chk (o := 11) (L := ltX11) (by decide +kernel) ltokX11 (by decide +kernel)
set_option maxRecDepth 20000 in
theorem ok_X11_nearest : ∀ (i : Nat) (x : xI), cdX11_nearest[i]? = some x → xok MT vcl RX11 cX11_nearest 5 pcX11_nearest i x := x_chk (o := 11) (L := ltX11) (by decide +kernel) ltokX11 (by decide +kernel)
set_option maxRecDepth 20000 in
theorem ok_X11_writeMerged : ∀ (i : Nat) (x : xI), cdX11_writeMerged[i]? = some x → xok MT vcl RX11 cX11_writeMerged 4 pcX11_writeMerged i x := x_chk (o := 11) (L := ltX11) (by decide +kernel) ltokX11 (by decide +kernel)
set_option maxRecDepth 20000 in
theorem ok_X11_mergedApart : ∀ (i : Nat) (x : xI), cdX11_mergedApart[i]? = some x → xok MT vcl RX11 cX11_mergedApart 7 pcX11_mergedApart i x := x_chk (o := 11) (L := ltX11) (by decide +kernel) ltokX11 (by decide +kernel)
