set_option maxRecDepth 20000 in
theorem ok_X12_solved : ∀ (i : Nat) (x : xI), cdX12_solved[i]? = some x → xok MT vcl RX12 cX12_solved 8 pcX12_solved i x := x_chk (o := 12) (L := ltX12) (by decide +kernel) ltokX12 (by decide +kernel)
set_option maxRecDepth 20000 in
theorem ok_X12_comesNow : ∀ (i : Nat) (x : xI), cdX12_comesNow[i]? = some x → xok MT vcl RX12 cX12_comesNow 2 pcX12_comesNow i x := x_chk (o := 12) (L := ltX12) (by decide +kernel) ltokX12 (by decide +kernel)
set_option maxRecDepth 20000 in
theorem ok_X12_comes : ∀ (i : Nat) (x : xI), cdX12_comes[i]? = some x → xok MT vcl RX12 cX12_comes 4 pcX12_comes i x := x_chk (o := 12) (L := ltX12) (by decide +kernel) ltokX12 (by decide +kernel)
set_option maxRecDepth 20000 in
theorem ok_X12_writeSolved : ∀ (i : Nat) (x : xI), cdX12_writeSolved[i]? = some x → xok MT vcl RX12 cX12_writeSolved 1 pcX12_writeSolved i x := x_chk (o := 12) (L := ltX12) (by decide +kernel) ltokX12 (by decide +kernel)
set_option maxRecDepth 20000 in
theorem ok_X12_leaf : ∀ (i : Nat) (x : xI), cdX12_leaf[i]? = some x → xok MT vcl RX12 cX12_leaf 3 pcX12_leaf i x := x_chk (o := 12) (L := ltX12) (by decide +kernel) ltokX12 (by decide +kernel)
set_option maxRecDepth 20000 in
theorem ok_X12_apart : ∀ (i : Nat) (x : xI), cdX12_apart[i]? = some x → xok MT vcl RX12 cX12_apart 8 pcX12_apart i x := x_chk (o := 12) (L := ltX12) (by decide +kernel) ltokX12 (by decide +kernel)
set_option maxRecDepth 20000 in
theorem ok_X12_without : ∀ (i : Nat) (x : xI), cdX12_without[i]? = some x → xok MT vcl RX12 cX12_without 4 pcX12_without i x := x_chk (o := 12) (L := ltX12) (by decide +kernel) ltokX12 (by decide +kernel)
set_option maxRecDepth 20000 in
theorem ok_X12_isIdle : ∀ (i : Nat) (x : xI), cdX12_isIdle[i]? = some x → xok MT vcl RX12 cX12_isIdle 5 pcX12_isIdle i x := x_chk (o := 12) (L := ltX12) (by decide +kernel) ltokX12 (by decide +kernel)
set_option maxRecDepth 20000 in
theorem ok_X12_fits : ∀ (i : Nat) (x : xI), cdX12_fits[i]? = some x → xok MT vcl RX12 cX12_fits 4 pcX12_fits i x := x_chk (o := 12) (L := ltX12) (by decide +kernel) ltokX12 (by decide +kernel)
set_option maxRecDepth 20000 in
theorem ok_X12_fewest : ∀ (i : Nat) (x : xI), cdX12_fewest[i]? = some x → xok MT vcl RX12 cX12_fewest 5 pcX12_fewest i x := x_chk (o := 12) (L := ltX12) (by decide +kernel) ltokX12 (by decide +kernel)
set_option maxRecDepth 20000 in
theorem ok_X12_splits : ∀ (i : Nat) (x : xI), cdX12_splits[i]? = some x → xok MT vcl RX12 cX12_splits 4 pcX12_splits i x := x_chk (o := 12) (L := ltX12) (by decide +kernel) ltokX12 (by decide +kernel)
set_option maxRecDepth 20000 in
theorem ok_X12_count : ∀ (i : Nat) (x : xI), cdX12_count[i]? = some x → xok MT vcl RX12 cX12_count 2 pcX12_count i x := x_chk (o := 12) (L := ltX12) (by decide +kernel) ltokX12 (by decide +kernel)
set_option maxRecDepth 20000 in
theorem ok_X12_told : ∀ (i : Nat) (x : xI), cdX12_told[i]? = some x → xok MT vcl RX12 cX12_told 3 pcX12_told i x := x_chk (o := 12) (L := ltX12) (by decide +kernel) ltokX12 (by decide +kernel)
set_option maxRecDepth 20000 in
theorem ok_X12_constantAt : ∀ (i : Nat) (x : xI), cdX12_constantAt[i]? = some x → xok MT vcl RX12 cX12_constantAt 2 pcX12_constantAt i x := x_chk (o := 12) (L := ltX12) (by decide +kernel) ltokX12 (by decide +kernel)
set_option maxRecDepth 20000 in
theorem ok_J7_rangeCheck_23922 : ∀ (i : Nat) (x : xI), cdJ7_rangeCheck_23922[i]? = some x → xok MT vcl RJ7 cJ7_rangeCheck_23922 3 pcJ7_rangeCheck_23922 i x := x_chk (o := 13) (L := ltJ7) (by decide +kernel) ltokJ7 (by decide +kernel)
set_option maxRecDepth 20000 in
theorem ok_J7_fill_53178 : ∀ (i : Nat) (x : xI), cdJ7_fill_53178[i]? = some x → xok MT vcl RJ7 cJ7_fill_53178 4 pcJ7_fill_53178 i x := x_chk (o := 13) (L := ltJ7) (by decide +kernel) ltokJ7 (by decide +kernel)
set_option maxRecDepth 20000 in
theorem ok_J7_fill_fda19 : ∀ (i : Nat) (x : xI), cdJ7_fill_fda19[i]? = some x → xok MT vcl RJ7 cJ7_fill_fda19 5 pcJ7_fill_fda19 i x := x_chk (o := 13) (L := ltJ7) (by decide +kernel) ltokJ7 (by decide +kernel)
