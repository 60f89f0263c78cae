/-- the numbers: on every script the class and the reference answer alike -/
theorem wp_all (L : Nat) (xs : Nat → Int32) (hL : L ≤ 2560) : wp_LA_law L xs := sorry
