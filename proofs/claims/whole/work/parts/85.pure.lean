/-! what is wanting: the law's function answers 1 -/
theorem law_pure (xs : Nat → Int32) {L : Nat} (hL : L ≤ 2560) : ∃ μ' : Mem, f_L_law xs L (0, fun _ => (0, 0), fun _ _ => 0, fun _ _ => 0) = some (.inl 1, μ') := sorry
