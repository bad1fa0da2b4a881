theorem law_pure {L : Nat} {xs : Nat → Int32} (hL : L ≤ 2048) : lawPure L xs := by
  sorry
