/-! TEXTS, as pure things -/
def tx1 (κ u w : Int) (f : Int → List Int) : List Int := if κ = 10 then [120 + u] else if κ = 11 then dgt u else if κ = 5 ∨ κ = 8 ∨ κ = 9 then wrU κ ++ f u ++ [41] else (if κ = 3 then [109, 105, 110] else if κ = 4 then [109, 97, 120] else []) ++ [40] ++ f u ++ [sgB κ] ++ f w ++ [41]
def txE (S : xH) : Nat → Int → List Int
  | 0 => fun _ => []
  | n + 1 => fun k => tx1 (S 1 k) (S 2 k) (S 3 k) (txE S n)
def tt1 (κ u w : Int) (f g : Int → List Int) : List Int := if κ = 2 then [33, 40] ++ g u ++ [41] else if κ = 3 then [40] ++ g u ++ [38] ++ g w ++ [41] else [40] ++ f u ++ [if κ = 0 then 60 else 61] ++ f w ++ [41]
def txT (S T : xH) : Nat → Int → List Int
  | 0 => fun _ => []
  | n + 1 => fun k => tt1 (T 1 k) (T 2 k) (T 3 k) (txE S 9) (txT S T n)
def txN (S T : xH) (as le : Int → Int) : Nat → Int → List Int
  | 0, nd => txE S 9 (le nd)
  | d + 1, nd => if as nd = -1 then txE S 9 (le nd) else [91] ++ txT S T 9 (as nd) ++ [63] ++ txN S T as le d (2 * nd + 1) ++ [58] ++ txN S T as le d (2 * nd + 2) ++ [93]
