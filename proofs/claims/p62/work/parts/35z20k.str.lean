def chS_ (i k : Nat) : Int32 := (bytS_.getD i []).getD k 0
theorem chS_ok : ∀ i : Nat, i < 14 → ∀ k : Nat, k < lenS_.getD i 0 → ((chS_ i k &&& 255).toUInt32 % 65536).toInt32 = chS_ i k ∧ narrow .char (.int (chS_ i k)) = .int (chS_ i k) ∧ 0 ≤ (chS_ i k).toInt ∧ (chS_ i k).toInt ≤ 122 := by decide +kernel
theorem lenS_ok : ∀ i : Nat, i < 14 → 1 ≤ lenS_.getD i 0 ∧ lenS_.getD i 0 ≤ 5 := by decide +kernel
