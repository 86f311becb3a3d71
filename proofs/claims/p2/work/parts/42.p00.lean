def F_X11_law_231 : List (Nat × Nat) := [(231, 0), (231, 1), (231, 8), (231, 9), (231, 10), (231, 11), (231, 12), (231, 13), (231, 14), (231, 15), (231, 17), (231, 20), (231, 23), (231, 24)]
def A_X11_law_231 : List Nat := [232, 233, 237, 238, 239, 240, 241]
theorem T_X11_law_231 (d : Nat) {N : Nat} {g0 : List en_E} (hI0 : HI g0) : Ev (d + 60) 210 [.ref 231] (g0, N) (fun w h' => ∃ g', h' = (g', N) ∧ HI g' ∧ Fr F_X11_law_231 A_X11_law_231 g0 g' ∧ ∃ r : Int32, w = some (.int r) ∧ True ∧ ((eA g' 233 0).toInt = (eA g0 233 0).toInt)) := sorry
