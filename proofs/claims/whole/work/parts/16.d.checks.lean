set_option maxRecDepth 20000 in
theorem ok_X12_makesLeaves : ∀ (i : Nat) (x : xI), cdX12_makesLeaves[i]? = some x → xok MT vcl RX12 cX12_makesLeaves 3 pcX12_makesLeaves i x := x_chk (o := 12) (L := ltX12) (by decide +kernel) ltokX12 (by decide +kernel)
set_option maxRecDepth 20000 in
theorem ok_X12_makesOf : ∀ (i : Nat) (x : xI), cdX12_makesOf[i]? = some x → xok MT vcl RX12 cX12_makesOf 6 pcX12_makesOf i x := x_chk (o := 12) (L := ltX12) (by decide +kernel) ltokX12 (by decide +kernel)
set_option maxRecDepth 20000 in
theorem ok_X12_makesBy : ∀ (i : Nat) (x : xI), cdX12_makesBy[i]? = some x → xok MT vcl RX12 cX12_makesBy 6 pcX12_makesBy i x := x_chk (o := 12) (L := ltX12) (by decide +kernel) ltokX12 (by decide +kernel)
set_option maxRecDepth 20000 in
theorem ok_X12_makesSize : ∀ (i : Nat) (x : xI), cdX12_makesSize[i]? = some x → xok MT vcl RX12 cX12_makesSize 4 pcX12_makesSize i x := x_chk (o := 12) (L := ltX12) (by decide +kernel) ltokX12 (by decide +kernel)
set_option maxRecDepth 20000 in
theorem ok_X12_keepsTest : ∀ (i : Nat) (x : xI), cdX12_keepsTest[i]? = some x → xok MT vcl RX12 cX12_keepsTest 7 pcX12_keepsTest i x := x_chk (o := 12) (L := ltX12) (by decide +kernel) ltokX12 (by decide +kernel)
set_option maxRecDepth 20000 in
theorem ok_X12_compared : ∀ (i : Nat) (x : xI), cdX12_compared[i]? = some x → xok MT vcl RX12 cX12_compared 8 pcX12_compared i x := x_chk (o := 12) (L := ltX12) (by decide +kernel) ltokX12 (by decide +kernel)
set_option maxRecDepth 20000 in
theorem ok_X12_makesCompared : ∀ (i : Nat) (x : xI), cdX12_makesCompared[i]? = some x → xok MT vcl RX12 cX12_makesCompared 5 pcX12_makesCompared i x := x_chk (o := 12) (L := ltX12) (by decide +kernel) ltokX12 (by decide +kernel)
set_option maxRecDepth 20000 in
theorem ok_X12_makesTests : ∀ (i : Nat) (x : xI), cdX12_makesTests[i]? = some x → xok MT vcl RX12 cX12_makesTests 5 pcX12_makesTests i x := x_chk (o := 12) (L := ltX12) (by decide +kernel) ltokX12 (by decide +kernel)
set_option maxRecDepth 20000 in
theorem ok_X12_remembers : ∀ (i : Nat) (x : xI), cdX12_remembers[i]? = some x → xok MT vcl RX12 cX12_remembers 3 pcX12_remembers i x := x_chk (o := 12) (L := ltX12) (by decide +kernel) ltokX12 (by decide +kernel)
set_option maxRecDepth 20000 in
theorem ok_X12_putsBack : ∀ (i : Nat) (x : xI), cdX12_putsBack[i]? = some x → xok MT vcl RX12 cX12_putsBack 3 pcX12_putsBack i x := x_chk (o := 12) (L := ltX12) (by decide +kernel) ltokX12 (by decide +kernel)
set_option maxRecDepth 20000 in
theorem ok_X12_grows : ∀ (i : Nat) (x : xI), cdX12_grows[i]? = some x → xok MT vcl RX12 cX12_grows 4 pcX12_grows i x := x_chk (o := 12) (L := ltX12) (by decide +kernel) ltokX12 (by decide +kernel)
set_option maxRecDepth 20000 in
theorem ok_X12_grow : ∀ (i : Nat) (x : xI), cdX12_grow[i]? = some x → xok MT vcl RX12 cX12_grow 2 pcX12_grow i x := x_chk (o := 12) (L := ltX12) (by decide +kernel) ltokX12 (by decide +kernel)
set_option maxRecDepth 20000 in
theorem ok_X12_grown : ∀ (i : Nat) (x : xI), cdX12_grown[i]? = some x → xok MT vcl RX12 cX12_grown 4 pcX12_grown i x := x_chk (o := 12) (L := ltX12) (by decide +kernel) ltokX12 (by decide +kernel)
set_option maxRecDepth 20000 in
theorem ok_X12_isKept : ∀ (i : Nat) (x : xI), cdX12_isKept[i]? = some x → xok MT vcl RX12 cX12_isKept 3 pcX12_isKept i x := x_chk (o := 12) (L := ltX12) (by decide +kernel) ltokX12 (by decide +kernel)
set_option maxRecDepth 20000 in
theorem ok_X12_kept : ∀ (i : Nat) (x : xI), cdX12_kept[i]? = some x → xok MT vcl RX12 cX12_kept 4 pcX12_kept i x := x_chk (o := 12) (L := ltX12) (by decide +kernel) ltokX12 (by decide +kernel)
set_option maxRecDepth 20000 in
theorem ok_X12_output : ∀ (i : Nat) (x : xI), cdX12_output[i]? = some x → xok MT vcl RX12 cX12_output 4 pcX12_output i x := x_chk (o := 12) (L := ltX12) (by decide +kernel) ltokX12 (by decide +kernel)
set_option maxRecDepth 20000 in
theorem ok_X12_valueOf : ∀ (i : Nat) (x : xI), cdX12_valueOf[i]? = some x → xok MT vcl RX12 cX12_valueOf 6 pcX12_valueOf i x := x_chk (o := 12) (L := ltX12) (by decide +kernel) ltokX12 (by decide +kernel)
set_option maxRecDepth 20000 in
theorem ok_X12_holdsNow : ∀ (i : Nat) (x : xI), cdX12_holdsNow[i]? = some x → xok MT vcl RX12 cX12_holdsNow 3 pcX12_holdsNow i x := x_chk (o := 12) (L := ltX12) (by decide +kernel) ltokX12 (by decide +kernel)
set_option maxRecDepth 20000 in
theorem ok_X12_reckons : ∀ (i : Nat) (x : xI), cdX12_reckons[i]? = some x → xok MT vcl RX12 cX12_reckons 5 pcX12_reckons i x := x_chk (o := 12) (L := ltX12) (by decide +kernel) ltokX12 (by decide +kernel)
set_option maxRecDepth 20000 in
theorem ok_X12_laysMerged : ∀ (i : Nat) (x : xI), cdX12_laysMerged[i]? = some x → xok MT vcl RX12 cX12_laysMerged 3 pcX12_laysMerged i x := x_chk (o := 12) (L := ltX12) (by decide +kernel) ltokX12 (by decide +kernel)
set_option maxRecDepth 20000 in
theorem ok_X12_mergedApart : ∀ (i : Nat) (x : xI), cdX12_mergedApart[i]? = some x → xok MT vcl RX12 cX12_mergedApart 10 pcX12_mergedApart i x := x_chk (o := 12) (L := ltX12) (by decide +kernel) ltokX12 (by decide +kernel)
set_option maxRecDepth 20000 in
theorem ok_X12_differs : ∀ (i : Nat) (x : xI), cdX12_differs[i]? = some x → xok MT vcl RX12 cX12_differs 10 pcX12_differs i x := x_chk (o := 12) (L := ltX12) (by decide +kernel) ltokX12 (by decide +kernel)
set_option maxRecDepth 20000 in
theorem ok_X12_value : ∀ (i : Nat) (x : xI), cdX12_value[i]? = some x → xok MT vcl RX12 cX12_value 6 pcX12_value i x := x_chk (o := 12) (L := ltX12) (by decide +kernel) ltokX12 (by decide +kernel)
set_option maxRecDepth 20000 in
theorem ok_X12_pushes : ∀ (i : Nat) (x : xI), cdX12_pushes[i]? = some x → xok MT vcl RX12 cX12_pushes 2 pcX12_pushes i x := x_chk (o := 12) (L := ltX12) (by decide +kernel) ltokX12 (by decide +kernel)
set_option maxRecDepth 20000 in
theorem ok_X12_pushesWord : ∀ (i : Nat) (x : xI), cdX12_pushesWord[i]? = some x → xok MT vcl RX12 cX12_pushesWord 3 pcX12_pushesWord i x := x_chk (o := 12) (L := ltX12) (by decide +kernel) ltokX12 (by decide +kernel)
set_option maxRecDepth 20000 in
theorem ok_X12_puts : ∀ (i : Nat) (x : xI), cdX12_puts[i]? = some x → xok MT vcl RX12 cX12_puts 2 pcX12_puts i x := x_chk (o := 12) (L := ltX12) (by decide +kernel) ltokX12 (by decide +kernel)
set_option maxRecDepth 20000 in
theorem ok_X12_putsNumber : ∀ (i : Nat) (x : xI), cdX12_putsNumber[i]? = some x → xok MT vcl RX12 cX12_putsNumber 3 pcX12_putsNumber i x := x_chk (o := 12) (L := ltX12) (by decide +kernel) ltokX12 (by decide +kernel)
set_option maxRecDepth 20000 in
theorem ok_X12_pushesTwo : ∀ (i : Nat) (x : xI), cdX12_pushesTwo[i]? = some x → xok MT vcl RX12 cX12_pushesTwo 5 pcX12_pushesTwo i x := x_chk (o := 12) (L := ltX12) (by decide +kernel) ltokX12 (by decide +kernel)
set_option maxRecDepth 20000 in
theorem ok_X12_signOf : ∀ (i : Nat) (x : xI), cdX12_signOf[i]? = some x → xok MT vcl RX12 cX12_signOf 1 pcX12_signOf i x := x_chk (o := 12) (L := ltX12) (by decide +kernel) ltokX12 (by decide +kernel)
set_option maxRecDepth 20000 in
theorem ok_X12_writesExpression : ∀ (i : Nat) (x : xI), cdX12_writesExpression[i]? = some x → xok MT vcl RX12 cX12_writesExpression 3 pcX12_writesExpression i x := x_chk (o := 12) (L := ltX12) (by decide +kernel) ltokX12 (by decide +kernel)
set_option maxRecDepth 20000 in
theorem ok_X12_writesTest : ∀ (i : Nat) (x : xI), cdX12_writesTest[i]? = some x → xok MT vcl RX12 cX12_writesTest 2 pcX12_writesTest i x := x_chk (o := 12) (L := ltX12) (by decide +kernel) ltokX12 (by decide +kernel)
set_option maxRecDepth 20000 in
theorem ok_X12_writesNode : ∀ (i : Nat) (x : xI), cdX12_writesNode[i]? = some x → xok MT vcl RX12 cX12_writesNode 2 pcX12_writesNode i x := x_chk (o := 12) (L := ltX12) (by decide +kernel) ltokX12 (by decide +kernel)
set_option maxRecDepth 20000 in
theorem ok_X12_writes : ∀ (i : Nat) (x : xI), cdX12_writes[i]? = some x → xok MT vcl RX12 cX12_writes 3 pcX12_writes i x := x_chk (o := 12) (L := ltX12) (by decide +kernel) ltokX12 (by decide +kernel)
set_option maxRecDepth 20000 in
theorem ok_X12_write : ∀ (i : Nat) (x : xI), cdX12_write[i]? = some x → xok MT vcl RX12 cX12_write 3 pcX12_write i x := x_chk (o := 12) (L := ltX12) (by decide +kernel) ltokX12 (by decide +kernel)
set_option maxRecDepth 20000 in
theorem ok_X12_writeMerged : ∀ (i : Nat) (x : xI), cdX12_writeMerged[i]? = some x → xok MT vcl RX12 cX12_writeMerged 3 pcX12_writeMerged i x := x_chk (o := 12) (L := ltX12) (by decide +kernel) ltokX12 (by decide +kernel)
set_option maxRecDepth 20000 in
theorem ok_X12_octet : ∀ (i : Nat) (x : xI), cdX12_octet[i]? = some x → xok MT vcl RX12 cX12_octet 2 pcX12_octet i x := x_chk (o := 12) (L := ltX12) (by decide +kernel) ltokX12 (by decide +kernel)
set_option maxRecDepth 20000 in
theorem ok_X12_isSet : ∀ (i : Nat) (x : xI), cdX12_isSet[i]? = some x → xok MT vcl RX12 cX12_isSet 2 pcX12_isSet i x := x_chk (o := 12) (L := ltX12) (by decide +kernel) ltokX12 (by decide +kernel)
set_option maxRecDepth 20000 in
theorem ok_X12_testOf : ∀ (i : Nat) (x : xI), cdX12_testOf[i]? = some x → xok MT vcl RX12 cX12_testOf 3 pcX12_testOf i x := x_chk (o := 12) (L := ltX12) (by decide +kernel) ltokX12 (by decide +kernel)
set_option maxRecDepth 20000 in
theorem ok_X12_joins : ∀ (i : Nat) (x : xI), cdX12_joins[i]? = some x → xok MT vcl RX12 cX12_joins 5 pcX12_joins i x := x_chk (o := 12) (L := ltX12) (by decide +kernel) ltokX12 (by decide +kernel)
set_option maxRecDepth 20000 in
theorem ok_X12_ofSize : ∀ (i : Nat) (x : xI), cdX12_ofSize[i]? = some x → xok MT vcl RX12 cX12_ofSize 5 pcX12_ofSize i x := x_chk (o := 12) (L := ltX12) (by decide +kernel) ltokX12 (by decide +kernel)
set_option maxRecDepth 20000 in
theorem ok_X12_unlike : ∀ (i : Nat) (x : xI), cdX12_unlike[i]? = some x → xok MT vcl RX12 cX12_unlike 6 pcX12_unlike i x := x_chk (o := 12) (L := ltX12) (by decide +kernel) ltokX12 (by decide +kernel)
set_option maxRecDepth 20000 in
theorem ok_X12_countsPart : ∀ (i : Nat) (x : xI), cdX12_countsPart[i]? = some x → xok MT vcl RX12 cX12_countsPart 3 pcX12_countsPart i x := x_chk (o := 12) (L := ltX12) (by decide +kernel) ltokX12 (by decide +kernel)
set_option maxRecDepth 20000 in
theorem ok_X12_uses : ∀ (i : Nat) (x : xI), cdX12_uses[i]? = some x → xok MT vcl RX12 cX12_uses 4 pcX12_uses i x := x_chk (o := 12) (L := ltX12) (by decide +kernel) ltokX12 (by decide +kernel)
set_option maxRecDepth 20000 in
theorem ok_X12_farOf : ∀ (i : Nat) (x : xI), cdX12_farOf[i]? = some x → xok MT vcl RX12 cX12_farOf 8 pcX12_farOf i x := x_chk (o := 12) (L := ltX12) (by decide +kernel) ltokX12 (by decide +kernel)
set_option maxRecDepth 20000 in
theorem ok_X12_far : ∀ (i : Nat) (x : xI), cdX12_far[i]? = some x → xok MT vcl RX12 cX12_far 2 pcX12_far i x := x_chk (o := 12) (L := ltX12) (by decide +kernel) ltokX12 (by decide +kernel)
set_option maxRecDepth 20000 in
theorem ok_X12_nearest : ∀ (i : Nat) (x : xI), cdX12_nearest[i]? = some x → xok MT vcl RX12 cX12_nearest 3 pcX12_nearest i x := x_chk (o := 12) (L := ltX12) (by decide +kernel) ltokX12 (by decide +kernel)
set_option maxRecDepth 20000 in
theorem ok_X12_leafOf : ∀ (i : Nat) (x : xI), cdX12_leafOf[i]? = some x → xok MT vcl RX12 cX12_leafOf 3 pcX12_leafOf i x := x_chk (o := 12) (L := ltX12) (by decide +kernel) ltokX12 (by decide +kernel)
set_option maxRecDepth 20000 in
theorem ok_X12_laysSet : ∀ (i : Nat) (x : xI), cdX12_laysSet[i]? = some x → xok MT vcl RX12 cX12_laysSet 7 pcX12_laysSet i x := x_chk (o := 12) (L := ltX12) (by decide +kernel) ltokX12 (by decide +kernel)
set_option maxRecDepth 20000 in
theorem ok_X12_lays : ∀ (i : Nat) (x : xI), cdX12_lays[i]? = some x → xok MT vcl RX12 cX12_lays 5 pcX12_lays i x := x_chk (o := 12) (L := ltX12) (by decide +kernel) ltokX12 (by decide +kernel)
set_option maxRecDepth 20000 in
theorem ok_X12_bars : ∀ (i : Nat) (x : xI), cdX12_bars[i]? = some x → xok MT vcl RX12 cX12_bars 3 pcX12_bars i x := x_chk (o := 12) (L := ltX12) (by decide +kernel) ltokX12 (by decide +kernel)
set_option maxRecDepth 20000 in
theorem ok_X12_laysTree : ∀ (i : Nat) (x : xI), cdX12_laysTree[i]? = some x → xok MT vcl RX12 cX12_laysTree 6 pcX12_laysTree i x := x_chk (o := 12) (L := ltX12) (by decide +kernel) ltokX12 (by decide +kernel)
set_option maxRecDepth 20000 in
theorem ok_X12_solves : ∀ (i : Nat) (x : xI), cdX12_solves[i]? = some x → xok MT vcl RX12 cX12_solves 3 pcX12_solves i x := x_chk (o := 12) (L := ltX12) (by decide +kernel) ltokX12 (by decide +kernel)
set_option maxRecDepth 20000 in
theorem ok_X12_solve : ∀ (i : Nat) (x : xI), cdX12_solve[i]? = some x → xok MT vcl RX12 cX12_solve 2 pcX12_solve i x := x_chk (o := 12) (L := ltX12) (by decide +kernel) ltokX12 (by decide +kernel)
set_option maxRecDepth 20000 in
theorem ok_X12_make : ∀ (i : Nat) (x : xI), cdX12_make[i]? = some x → xok MT vcl RX12 cX12_make 7 pcX12_make i x := x_chk (o := 12) (L := ltX12) (by decide +kernel) ltokX12 (by decide +kernel)
set_option maxRecDepth 20000 in
theorem ok_X12_laysWays : ∀ (i : Nat) (x : xI), cdX12_laysWays[i]? = some x → xok MT vcl RX12 cX12_laysWays 8 pcX12_laysWays i x := x_chk (o := 12) (L := ltX12) (by decide +kernel) ltokX12 (by decide +kernel)
set_option maxRecDepth 20000 in
theorem ok_X12_ties : ∀ (i : Nat) (x : xI), cdX12_ties[i]? = some x → xok MT vcl RX12 cX12_ties 6 pcX12_ties i x := x_chk (o := 12) (L := ltX12) (by decide +kernel) ltokX12 (by decide +kernel)
set_option maxRecDepth 20000 in
theorem ok_X12_needed : ∀ (i : Nat) (x : xI), cdX12_needed[i]? = some x → xok MT vcl RX12 cX12_needed 3 pcX12_needed i x := x_chk (o := 12) (L := ltX12) (by decide +kernel) ltokX12 (by decide +kernel)
set_option maxRecDepth 20000 in
theorem ok_X12_solvedUses : ∀ (i : Nat) (x : xI), cdX12_solvedUses[i]? = some x → xok MT vcl RX12 cX12_solvedUses 4 pcX12_solvedUses i x := x_chk (o := 12) (L := ltX12) (by decide +kernel) ltokX12 (by decide +kernel)
set_option maxRecDepth 20000 in
theorem ok_X12_way : ∀ (i : Nat) (x : xI), cdX12_way[i]? = some x → xok MT vcl RX12 cX12_way 7 pcX12_way i x := x_chk (o := 12) (L := ltX12) (by decide +kernel) ltokX12 (by decide +kernel)
set_option maxRecDepth 20000 in
theorem ok_X12_innermost : ∀ (i : Nat) (x : xI), cdX12_innermost[i]? = some x → xok MT vcl RX12 cX12_innermost 2 pcX12_innermost i x := x_chk (o := 12) (L := ltX12) (by decide +kernel) ltokX12 (by decide +kernel)
