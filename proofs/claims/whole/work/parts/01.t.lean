theorem zz_a (a b : Int32) (h : a < b) (h2: b ≤ 7) (h3 : 0 ≤ a) : a + 1 ≤ 7 := by grind
theorem zz_b (a b : Int32) (h : a < b) (h2: b ≤ 7) (h3 : 0 ≤ a) : a + 1 ≤ 7 := by lia
theorem zz_c (a b c : Int32) (h : 0 ≤ a) (h1 : a < 100) (h2: 0 ≤ b) (h3 : b < 100) : a + b < 200 ∧ a + b + c - a = b + c := by grind
theorem zz_d (a b : Int32) (h : 0 ≤ a) (h1 : a < 100) (h2: 0 ≤ b) (h3 : b < 100) : (a + b).toInt = a.toInt + b.toInt := by grind
theorem zz_e (i n : Nat) (h : n ≤ 12) (h2 : ¬ nI i < nI n) (hi : i ≤ n) : i = n := by
  rcases Nat.lt_or_ge i n with q | q
  · exact absurd (nI_lt q (by omega)) h2
  · omega
theorem zz_f (i n : Nat) (h : n ≤ 12) (h2 : ¬ Int32.ofNat i < Int32.ofNat n) (hi : i ≤ n) : i = n := by grind
