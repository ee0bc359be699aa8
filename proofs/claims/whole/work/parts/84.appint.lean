/-! ===== the JDK: a number put behind a builder's signs ===== -/
theorem ng_i {n : Nat} (h : n < 2147483648) : (-nI n).toInt = -(n : Int) := by
  rw [← Int32.zero_sub, i_sub] <;> rw [i_0, nI_toInt (by omega)] <;> omega
theorem ng_le {n m : Nat} (hn : n < 2147483648) (hm : m < 2147483648) : -nI n ≤ -nI m ↔ m ≤ n := by
  rw [i_le, ng_i hn, ng_i hm]
  omega
theorem ng_lt {n m : Nat} (hn : n < 2147483648) (hm : m < 2147483648) : -nI n < -nI m ↔ m < n := by
  rw [i_lt, ng_i hn, ng_i hm]
  omega
theorem ng_div {n : Nat} (hn : n < 2147483648) : -nI n / 100 = -nI (n / 100) := by
  refine Int32.toInt_inj.mp ?_
  have hd : n / 100 ≤ n := Nat.div_le_self n 100
  rw [Int32.toInt_div, ng_i hn, ng_i (by omega), show (100 : Int32).toInt = 100 from rfl]
  rw [Int.neg_tdiv, show (100 : Int) = ((100 : Nat) : Int) from rfl, ← Int.ofNat_tdiv]
  generalize n / 100 = q at *
  exact Int.bmod_eq_of_le (by omega) (by omega)
theorem ng_mul {n : Nat} (hn : n < 20000000) : (-nI n * 100).toInt = -((n * 100 : Nat) : Int) := by
  rw [i_mul] <;> rw [ng_i (by omega), show (100 : Int32).toInt = 100 from rfl] <;> omega
theorem ng_rem {n : Nat} (hn : n < 20000000) : -nI (n / 100) * 100 - -nI n = nI (n % 100) := by
  refine Int32.toInt_inj.mp ?_
  have hd : n / 100 ≤ n := Nat.div_le_self n 100
  rw [i_sub] <;> rw [ng_mul (by omega), ng_i (by omega)]
  · rw [nI_toInt (by omega)]
    omega
  · omega
  · omega
theorem ng_neg (n : Nat) : - -nI n = nI n := Int32.neg_neg
theorem nI_100 : ∀ n, n < 100 → 0 ≤ nI n ∧ (nI n).toNatClampNeg = n := by decide
theorem nJ_sub {a b : Nat} (h : b ≤ a) : nI a - nI b = nI (a - b) := by
  have e := nI_plus (a - b) b
  rw [Nat.sub_add_cancel h] at e
  rw [← e, Int32.add_sub_cancel]
/-- the signs below place c + k: the k last decimal signs of n -/
def Wr (n c k : Nat) (f F : Int32 → Int32) : Prop := (∀ j, j < k → F (nI (c + k - 1 - j)) = nI (48 + n / 10 ^ j % 10)) ∧ ∀ i, i < 100000 → (i < c ∨ c + k ≤ i) → F (nI i) = f (nI i)
theorem nJ_ne {a b : Nat} (ha : a < 100000) (hb : b < 100000) (h : ¬ a = b) : ¬ nI a = nI b := fun z => h (by
  have q := congrArg Int32.toNatClampNeg z
  rwa [nI_clamp (by omega), nI_clamp (by omega)] at q)
theorem Wr.one {n c : Nat} {f : Int32 → Int32} (hn : n < 10) (hc : c < 90000) : Wr n c 1 f (ui f (nI c) (nI (48 + n % 10))) := by
  refine ⟨fun j hj => ?_, fun i hi h => ui_n (nJ_ne hi (by omega) (by omega))⟩
  obtain rfl : j = 0 := by omega
  rw [show c + 1 - 1 - 0 = c by omega, ui_s, Nat.pow_zero, Nat.div_one]
theorem Wr.two {n c : Nat} {f : Int32 → Int32} (hn : n < 100) (hc : c < 90000) : Wr n c 2 f (ui (ui f (nI (c + 1)) (nI (48 + n % 10))) (nI c) (nI (48 + n / 10))) := by
  refine ⟨fun j hj => ?_, fun i hi h => ?_⟩
  · rcases (by omega : j = 0 ∨ j = 1) with rfl | rfl
    · rw [show c + 2 - 1 - 0 = c + 1 by omega, ui_n (nJ_ne (by omega) (by omega) (by omega)), ui_s, Nat.pow_zero, Nat.div_one]
    · rw [show c + 2 - 1 - 1 = c by omega, ui_s, Nat.pow_one, Nat.mod_eq_of_lt (by omega : n / 10 < 10)]
  · rw [ui_n (nJ_ne hi (by omega) (by omega)), ui_n (nJ_ne hi (by omega) (by omega))]
theorem Wr.step {n c k : Nat} {f F : Int32 → Int32} (hc : c + k < 90000) (h : Wr (n / 100) c k (ui (ui f (nI (c + k + 1)) (nI (48 + n % 100 % 10))) (nI (c + k)) (nI (48 + n % 100 / 10))) F) : Wr n c (k + 2) f F := by
  obtain ⟨a, b⟩ := h
  refine ⟨fun j hj => ?_, fun i hi q => ?_⟩
  · rcases (by omega : j = 0 ∨ j = 1 ∨ 2 ≤ j) with rfl | rfl | e
    · rw [show c + (k + 2) - 1 - 0 = c + k + 1 by omega, b _ (by omega) (Or.inr (by omega)), ui_n (nJ_ne (by omega) (by omega) (by omega)), ui_s, Nat.pow_zero, Nat.div_one, show n % 100 % 10 = n % 10 by omega]
    · rw [show c + (k + 2) - 1 - 1 = c + k by omega, b _ (by omega) (Or.inr (by omega)), ui_s, Nat.pow_one, show n % 100 / 10 = n / 10 % 10 by omega]
    · obtain ⟨j', rfl⟩ : ∃ j', j = j' + 2 := ⟨j - 2, by omega⟩
      have q := a j' (by omega)
      rw [show c + (k + 2) - 1 - (j' + 2) = c + k - 1 - j' by omega, q, Nat.div_div_eq_div_mul, show 100 * 10 ^ j' = 10 ^ (j' + 2) by rw [Nat.pow_add]; omega]
  · rw [b i hi (by omega), ui_n (nJ_ne hi (by omega) (by omega)), ui_n (nJ_ne hi (by omega) (by omega))]
theorem DL.dn {n k : Nat} (h : DL n k) (hn : 100 ≤ n) : 3 ≤ k ∧ DL (n / 100) (k - 2) := by
  obtain ⟨a, b, c⟩ := h
  have hk : 3 ≤ k := by
    rcases (by omega : k = 1 ∨ k = 2 ∨ 3 ≤ k) with rfl | rfl | e
    · exact absurd a (by omega)
    · exact absurd a (by omega)
    · exact e
  obtain ⟨j, rfl⟩ : ∃ j, k = j + 3 := ⟨k - 3, by omega⟩
  refine ⟨hk, ?_, by omega, ?_⟩
  · rw [show j + 3 - 2 = j + 1 by omega]
    rw [show 10 ^ (j + 3) = 10 ^ (j + 1) * 100 by rw [show j + 3 = (j + 1) + 2 by omega, Nat.pow_add]] at a
    omega
  · right
    rw [show j + 3 - 2 - 1 = j by omega]
    rcases c with c | c
    · omega
    · rw [show j + 3 - 1 = j + 2 by omega, Nat.pow_add] at c
      omega
theorem DL.sm {n k : Nat} (h : DL n k) (hn : n < 100) : (n < 10 ∧ k = 1) ∨ (10 ≤ n ∧ k = 2) := by
  by_cases q : n < 10
  · exact Or.inl ⟨q, DL.uniq h ⟨q, by omega, Or.inl rfl⟩⟩
  · exact Or.inr ⟨by omega, DL.uniq h ⟨hn, by omega, Or.inr (by show 10 ≤ n; omega)⟩⟩
theorem Wr.num {n c k : Nat} {f F : Int32 → Int32} (h : Wr n c k f F) : ∀ i, i < k → F (nI (c + i)) = (dgs n k).getD i 0 := by
  have key : ∀ k i, i < k → (dgs n k).getD i 0 = nI (48 + n / 10 ^ (k - 1 - i) % 10) := by
    intro k
    induction k with
    | zero => exact fun i hi => absurd hi (Nat.not_lt_zero i)
    | succ k ih =>
      intro i hi
      match i with
      | 0 => rfl
      | i + 1 =>
        rw [show k + 1 - 1 - (i + 1) = k - 1 - i by omega]
        exact ih i (by omega)
  intro i hi
  have q := h.1 (k - 1 - i) (by omega)
  rw [show c + k - 1 - (k - 1 - i) = c + i by omega] at q
  rw [q, key k i hi]
theorem dJ6_stringSize_0f7a4_0 : decode cJ6_stringSize_0f7a4 0 = .ok (.iconst 1, 1) := by decide +kernel
theorem dJ6_stringSize_0f7a4_1 : decode cJ6_stringSize_0f7a4 1 = .ok (.istore_n 1, 1) := by decide +kernel
theorem dJ6_stringSize_0f7a4_2 : decode cJ6_stringSize_0f7a4 2 = .ok (.iload_n 0, 1) := by decide +kernel
theorem dJ6_stringSize_0f7a4_3 : decode cJ6_stringSize_0f7a4 3 = .ok (.ifCond .lt 8, 3) := by decide +kernel
theorem dJ6_stringSize_0f7a4_6 : decode cJ6_stringSize_0f7a4 6 = .ok (.iconst 0, 1) := by decide +kernel
theorem dJ6_stringSize_0f7a4_7 : decode cJ6_stringSize_0f7a4 7 = .ok (.istore_n 1, 1) := by decide +kernel
theorem dJ6_stringSize_0f7a4_8 : decode cJ6_stringSize_0f7a4 8 = .ok (.iload_n 0, 1) := by decide +kernel
theorem dJ6_stringSize_0f7a4_9 : decode cJ6_stringSize_0f7a4 9 = .ok (.ineg, 1) := by decide +kernel
theorem dJ6_stringSize_0f7a4_10 : decode cJ6_stringSize_0f7a4 10 = .ok (.istore_n 0, 1) := by decide +kernel
theorem dJ6_stringSize_0f7a4_11 : decode cJ6_stringSize_0f7a4 11 = .ok (.bipush (-10), 2) := by decide +kernel
theorem dJ6_stringSize_0f7a4_13 : decode cJ6_stringSize_0f7a4 13 = .ok (.istore_n 2, 1) := by decide +kernel
theorem dJ6_stringSize_0f7a4_14 : decode cJ6_stringSize_0f7a4 14 = .ok (.iconst 1, 1) := by decide +kernel
theorem dJ6_stringSize_0f7a4_15 : decode cJ6_stringSize_0f7a4 15 = .ok (.istore_n 3, 1) := by decide +kernel
theorem dJ6_stringSize_0f7a4_16 : decode cJ6_stringSize_0f7a4 16 = .ok (.iload_n 3, 1) := by decide +kernel
theorem dJ6_stringSize_0f7a4_17 : decode cJ6_stringSize_0f7a4 17 = .ok (.bipush 10, 2) := by decide +kernel
theorem dJ6_stringSize_0f7a4_19 : decode cJ6_stringSize_0f7a4 19 = .ok (.if_icmp .ge 23, 3) := by decide +kernel
theorem dJ6_stringSize_0f7a4_22 : decode cJ6_stringSize_0f7a4 22 = .ok (.iload_n 0, 1) := by decide +kernel
theorem dJ6_stringSize_0f7a4_23 : decode cJ6_stringSize_0f7a4 23 = .ok (.iload_n 2, 1) := by decide +kernel
theorem dJ6_stringSize_0f7a4_24 : decode cJ6_stringSize_0f7a4 24 = .ok (.if_icmp .le 7, 3) := by decide +kernel
theorem dJ6_stringSize_0f7a4_27 : decode cJ6_stringSize_0f7a4 27 = .ok (.iload_n 3, 1) := by decide +kernel
theorem dJ6_stringSize_0f7a4_28 : decode cJ6_stringSize_0f7a4 28 = .ok (.iload_n 1, 1) := by decide +kernel
theorem dJ6_stringSize_0f7a4_29 : decode cJ6_stringSize_0f7a4 29 = .ok (.iadd, 1) := by decide +kernel
theorem dJ6_stringSize_0f7a4_30 : decode cJ6_stringSize_0f7a4 30 = .ok (.ireturn, 1) := by decide +kernel
theorem dJ6_stringSize_0f7a4_31 : decode cJ6_stringSize_0f7a4 31 = .ok (.bipush 10, 2) := by decide +kernel
theorem dJ6_stringSize_0f7a4_33 : decode cJ6_stringSize_0f7a4 33 = .ok (.iload_n 2, 1) := by decide +kernel
theorem dJ6_stringSize_0f7a4_34 : decode cJ6_stringSize_0f7a4 34 = .ok (.imul, 1) := by decide +kernel
theorem dJ6_stringSize_0f7a4_35 : decode cJ6_stringSize_0f7a4 35 = .ok (.istore_n 2, 1) := by decide +kernel
theorem dJ6_stringSize_0f7a4_36 : decode cJ6_stringSize_0f7a4 36 = .ok (.iinc 3 1, 3) := by decide +kernel
theorem dJ6_stringSize_0f7a4_39 : decode cJ6_stringSize_0f7a4 39 = .ok (.goto (-23), 3) := by decide +kernel
theorem dJ6_stringSize_0f7a4_42 : decode cJ6_stringSize_0f7a4 42 = .ok (.bipush 10, 2) := by decide +kernel
theorem dJ6_stringSize_0f7a4_44 : decode cJ6_stringSize_0f7a4 44 = .ok (.iload_n 1, 1) := by decide +kernel
theorem dJ6_stringSize_0f7a4_45 : decode cJ6_stringSize_0f7a4 45 = .ok (.iadd, 1) := by decide +kernel
theorem dJ6_stringSize_0f7a4_46 : decode cJ6_stringSize_0f7a4 46 = .ok (.ireturn, 1) := by decide +kernel
set_option maxRecDepth 100000 in
set_option maxHeartbeats 4000000 in
theorem c_size {l : Launch} {g : Nat → Nat} {M : LH} (htr : l.stackTraces = false) {n : Nat} (hn : n < 1000000) : K_J6_stringSize_0f7a4 l g 0 0 0 [.int (nI n)] M (RI (fun v M9 => v = nI (dl6 n) ∧ M9 = M) nX) := by
  refine Ko_J6_stringSize_0f7a4 htr (fun X => ?_)
  refine v_iconst (v := 1) dJ6_stringSize_0f7a4_0 (by decide) ?_
  refine v_istore_1 dJ6_stringSize_0f7a4_1 ?_
  refine v_iload_n dJ6_stringSize_0f7a4_2 rfl rfl ?_
  refine v_if_lt (tgt := 11) dJ6_stringSize_0f7a4_3 (by decide) (fun h3 => ?_) (fun h3 => ?_)
  · exact absurd h3 (nI_pos (by omega))
  · refine v_iconst (v := 0) dJ6_stringSize_0f7a4_6 (by decide) ?_
    refine v_istore_1 dJ6_stringSize_0f7a4_7 ?_
    refine v_iload_n dJ6_stringSize_0f7a4_8 rfl rfl ?_
    refine v_ineg dJ6_stringSize_0f7a4_9 ?_
    refine v_istore_0 dJ6_stringSize_0f7a4_10 ?_
    refine v_bipush (v := (-10)) dJ6_stringSize_0f7a4_11 (by decide) ?_
    refine v_istore_2 dJ6_stringSize_0f7a4_13 ?_
    refine v_iconst (v := 1) dJ6_stringSize_0f7a4_14 (by decide) ?_
    refine v_istore_3 dJ6_stringSize_0f7a4_15 ?_
    refine v_iload_n dJ6_stringSize_0f7a4_16 rfl rfl ?_
    refine v_bipush (v := (10)) dJ6_stringSize_0f7a4_17 (by decide) ?_
    refine v_icmp_ge (tgt := 42) dJ6_stringSize_0f7a4_19 (by decide) (fun h19 => ?_) (fun h19 => ?_)
    · exact absurd h19 (by decide)
    · refine v_iload_n dJ6_stringSize_0f7a4_22 rfl rfl ?_
      refine v_iload_n dJ6_stringSize_0f7a4_23 rfl rfl ?_
      refine v_icmp_le (tgt := 31) dJ6_stringSize_0f7a4_24 (by decide) (fun h24 => ?_) (fun h24 => ?_)
      · have g1 : 10 ≤ n := by
          rw [show (-10 : Int32) = -nI 10 by decide] at h24
          exact (ng_le (by omega) (by decide)).mp h24
        refine v_bipush (v := (10)) dJ6_stringSize_0f7a4_31 (by decide) ?_
        refine v_iload_n dJ6_stringSize_0f7a4_33 rfl rfl ?_
        refine v_imul dJ6_stringSize_0f7a4_34 ?_
        refine v_istore_2 dJ6_stringSize_0f7a4_35 ?_
        refine v_iinc_3 dJ6_stringSize_0f7a4_36 rfl ?_
        refine v_goto (tgt := 16) dJ6_stringSize_0f7a4_39 (by decide) ?_
        rw [show (10 : Int32) * -10 = -100 by decide, show (1 : Int32) + Int32.ofInt 1 = 2 by decide]
        refine v_iload_n dJ6_stringSize_0f7a4_16 rfl rfl ?_
        refine v_bipush (v := (10)) dJ6_stringSize_0f7a4_17 (by decide) ?_
        refine v_icmp_ge (tgt := 42) dJ6_stringSize_0f7a4_19 (by decide) (fun h19 => ?_) (fun h19 => ?_)
        · exact absurd h19 (by decide)
        · refine v_iload_n dJ6_stringSize_0f7a4_22 rfl rfl ?_
          refine v_iload_n dJ6_stringSize_0f7a4_23 rfl rfl ?_
          refine v_icmp_le (tgt := 31) dJ6_stringSize_0f7a4_24 (by decide) (fun h24 => ?_) (fun h24 => ?_)
          · have g2 : 100 ≤ n := by
              rw [show (-100 : Int32) = -nI 100 by decide] at h24
              exact (ng_le (by omega) (by decide)).mp h24
            refine v_bipush (v := (10)) dJ6_stringSize_0f7a4_31 (by decide) ?_
            refine v_iload_n dJ6_stringSize_0f7a4_33 rfl rfl ?_
            refine v_imul dJ6_stringSize_0f7a4_34 ?_
            refine v_istore_2 dJ6_stringSize_0f7a4_35 ?_
            refine v_iinc_3 dJ6_stringSize_0f7a4_36 rfl ?_
            refine v_goto (tgt := 16) dJ6_stringSize_0f7a4_39 (by decide) ?_
            rw [show (10 : Int32) * -100 = -1000 by decide, show (2 : Int32) + Int32.ofInt 1 = 3 by decide]
            refine v_iload_n dJ6_stringSize_0f7a4_16 rfl rfl ?_
            refine v_bipush (v := (10)) dJ6_stringSize_0f7a4_17 (by decide) ?_
            refine v_icmp_ge (tgt := 42) dJ6_stringSize_0f7a4_19 (by decide) (fun h19 => ?_) (fun h19 => ?_)
            · exact absurd h19 (by decide)
            · refine v_iload_n dJ6_stringSize_0f7a4_22 rfl rfl ?_
              refine v_iload_n dJ6_stringSize_0f7a4_23 rfl rfl ?_
              refine v_icmp_le (tgt := 31) dJ6_stringSize_0f7a4_24 (by decide) (fun h24 => ?_) (fun h24 => ?_)
              · have g3 : 1000 ≤ n := by
                  rw [show (-1000 : Int32) = -nI 1000 by decide] at h24
                  exact (ng_le (by omega) (by decide)).mp h24
                refine v_bipush (v := (10)) dJ6_stringSize_0f7a4_31 (by decide) ?_
                refine v_iload_n dJ6_stringSize_0f7a4_33 rfl rfl ?_
                refine v_imul dJ6_stringSize_0f7a4_34 ?_
                refine v_istore_2 dJ6_stringSize_0f7a4_35 ?_
                refine v_iinc_3 dJ6_stringSize_0f7a4_36 rfl ?_
                refine v_goto (tgt := 16) dJ6_stringSize_0f7a4_39 (by decide) ?_
                rw [show (10 : Int32) * -1000 = -10000 by decide, show (3 : Int32) + Int32.ofInt 1 = 4 by decide]
                refine v_iload_n dJ6_stringSize_0f7a4_16 rfl rfl ?_
                refine v_bipush (v := (10)) dJ6_stringSize_0f7a4_17 (by decide) ?_
                refine v_icmp_ge (tgt := 42) dJ6_stringSize_0f7a4_19 (by decide) (fun h19 => ?_) (fun h19 => ?_)
                · exact absurd h19 (by decide)
                · refine v_iload_n dJ6_stringSize_0f7a4_22 rfl rfl ?_
                  refine v_iload_n dJ6_stringSize_0f7a4_23 rfl rfl ?_
                  refine v_icmp_le (tgt := 31) dJ6_stringSize_0f7a4_24 (by decide) (fun h24 => ?_) (fun h24 => ?_)
                  · have g4 : 10000 ≤ n := by
                      rw [show (-10000 : Int32) = -nI 10000 by decide] at h24
                      exact (ng_le (by omega) (by decide)).mp h24
                    refine v_bipush (v := (10)) dJ6_stringSize_0f7a4_31 (by decide) ?_
                    refine v_iload_n dJ6_stringSize_0f7a4_33 rfl rfl ?_
                    refine v_imul dJ6_stringSize_0f7a4_34 ?_
                    refine v_istore_2 dJ6_stringSize_0f7a4_35 ?_
                    refine v_iinc_3 dJ6_stringSize_0f7a4_36 rfl ?_
                    refine v_goto (tgt := 16) dJ6_stringSize_0f7a4_39 (by decide) ?_
                    rw [show (10 : Int32) * -10000 = -100000 by decide, show (4 : Int32) + Int32.ofInt 1 = 5 by decide]
                    refine v_iload_n dJ6_stringSize_0f7a4_16 rfl rfl ?_
                    refine v_bipush (v := (10)) dJ6_stringSize_0f7a4_17 (by decide) ?_
                    refine v_icmp_ge (tgt := 42) dJ6_stringSize_0f7a4_19 (by decide) (fun h19 => ?_) (fun h19 => ?_)
                    · exact absurd h19 (by decide)
                    · refine v_iload_n dJ6_stringSize_0f7a4_22 rfl rfl ?_
                      refine v_iload_n dJ6_stringSize_0f7a4_23 rfl rfl ?_
                      refine v_icmp_le (tgt := 31) dJ6_stringSize_0f7a4_24 (by decide) (fun h24 => ?_) (fun h24 => ?_)
                      · have g5 : 100000 ≤ n := by
                          rw [show (-100000 : Int32) = -nI 100000 by decide] at h24
                          exact (ng_le (by omega) (by decide)).mp h24
                        refine v_bipush (v := (10)) dJ6_stringSize_0f7a4_31 (by decide) ?_
                        refine v_iload_n dJ6_stringSize_0f7a4_33 rfl rfl ?_
                        refine v_imul dJ6_stringSize_0f7a4_34 ?_
                        refine v_istore_2 dJ6_stringSize_0f7a4_35 ?_
                        refine v_iinc_3 dJ6_stringSize_0f7a4_36 rfl ?_
                        refine v_goto (tgt := 16) dJ6_stringSize_0f7a4_39 (by decide) ?_
                        rw [show (10 : Int32) * -100000 = -1000000 by decide, show (5 : Int32) + Int32.ofInt 1 = 6 by decide]
                        refine v_iload_n dJ6_stringSize_0f7a4_16 rfl rfl ?_
                        refine v_bipush (v := (10)) dJ6_stringSize_0f7a4_17 (by decide) ?_
                        refine v_icmp_ge (tgt := 42) dJ6_stringSize_0f7a4_19 (by decide) (fun h19 => ?_) (fun h19 => ?_)
                        · exact absurd h19 (by decide)
                        · refine v_iload_n dJ6_stringSize_0f7a4_22 rfl rfl ?_
                          refine v_iload_n dJ6_stringSize_0f7a4_23 rfl rfl ?_
                          refine v_icmp_le (tgt := 31) dJ6_stringSize_0f7a4_24 (by decide) (fun h24 => ?_) (fun h24 => ?_)
                          · have g6 : 1000000 ≤ n := by
                              rw [show (-1000000 : Int32) = -nI 1000000 by decide] at h24
                              exact (ng_le (by omega) (by decide)).mp h24
                            refine v_bipush (v := (10)) dJ6_stringSize_0f7a4_31 (by decide) ?_
                            refine v_iload_n dJ6_stringSize_0f7a4_33 rfl rfl ?_
                            refine v_imul dJ6_stringSize_0f7a4_34 ?_
                            refine v_istore_2 dJ6_stringSize_0f7a4_35 ?_
                            refine v_iinc_3 dJ6_stringSize_0f7a4_36 rfl ?_
                            refine v_goto (tgt := 16) dJ6_stringSize_0f7a4_39 (by decide) ?_
                            rw [show (10 : Int32) * -1000000 = -10000000 by decide, show (6 : Int32) + Int32.ofInt 1 = 7 by decide]
                            exact absurd hn (by omega)
                          · have q6 : n < 1000000 := by
                              rw [show (-1000000 : Int32) = -nI 1000000 by decide] at h24
                              exact Nat.lt_of_not_le (fun z => h24 ((ng_le (by omega) (by decide)).mpr z))
                            refine v_iload_n dJ6_stringSize_0f7a4_27 rfl rfl ?_
                            refine v_iload_n dJ6_stringSize_0f7a4_28 rfl rfl ?_
                            refine v_iadd dJ6_stringSize_0f7a4_29 ?_
                            exact v_iret dJ6_stringSize_0f7a4_30 rfl ⟨by (unfold dl6; (repeat rw [if_neg (by omega)]); first | rw [if_pos (by omega)]; decide | decide), rfl⟩ (by omega) (by omega)
                      · have q5 : n < 100000 := by
                          rw [show (-100000 : Int32) = -nI 100000 by decide] at h24
                          exact Nat.lt_of_not_le (fun z => h24 ((ng_le (by omega) (by decide)).mpr z))
                        refine v_iload_n dJ6_stringSize_0f7a4_27 rfl rfl ?_
                        refine v_iload_n dJ6_stringSize_0f7a4_28 rfl rfl ?_
                        refine v_iadd dJ6_stringSize_0f7a4_29 ?_
                        exact v_iret dJ6_stringSize_0f7a4_30 rfl ⟨by (unfold dl6; (repeat rw [if_neg (by omega)]); first | rw [if_pos (by omega)]; decide | decide), rfl⟩ (by omega) (by omega)
                  · have q4 : n < 10000 := by
                      rw [show (-10000 : Int32) = -nI 10000 by decide] at h24
                      exact Nat.lt_of_not_le (fun z => h24 ((ng_le (by omega) (by decide)).mpr z))
                    refine v_iload_n dJ6_stringSize_0f7a4_27 rfl rfl ?_
                    refine v_iload_n dJ6_stringSize_0f7a4_28 rfl rfl ?_
                    refine v_iadd dJ6_stringSize_0f7a4_29 ?_
                    exact v_iret dJ6_stringSize_0f7a4_30 rfl ⟨by (unfold dl6; (repeat rw [if_neg (by omega)]); first | rw [if_pos (by omega)]; decide | decide), rfl⟩ (by omega) (by omega)
              · have q3 : n < 1000 := by
                  rw [show (-1000 : Int32) = -nI 1000 by decide] at h24
                  exact Nat.lt_of_not_le (fun z => h24 ((ng_le (by omega) (by decide)).mpr z))
                refine v_iload_n dJ6_stringSize_0f7a4_27 rfl rfl ?_
                refine v_iload_n dJ6_stringSize_0f7a4_28 rfl rfl ?_
                refine v_iadd dJ6_stringSize_0f7a4_29 ?_
                exact v_iret dJ6_stringSize_0f7a4_30 rfl ⟨by (unfold dl6; (repeat rw [if_neg (by omega)]); first | rw [if_pos (by omega)]; decide | decide), rfl⟩ (by omega) (by omega)
          · have q2 : n < 100 := by
              rw [show (-100 : Int32) = -nI 100 by decide] at h24
              exact Nat.lt_of_not_le (fun z => h24 ((ng_le (by omega) (by decide)).mpr z))
            refine v_iload_n dJ6_stringSize_0f7a4_27 rfl rfl ?_
            refine v_iload_n dJ6_stringSize_0f7a4_28 rfl rfl ?_
            refine v_iadd dJ6_stringSize_0f7a4_29 ?_
            exact v_iret dJ6_stringSize_0f7a4_30 rfl ⟨by (unfold dl6; (repeat rw [if_neg (by omega)]); first | rw [if_pos (by omega)]; decide | decide), rfl⟩ (by omega) (by omega)
      · have q1 : n < 10 := by
          rw [show (-10 : Int32) = -nI 10 by decide] at h24
          exact Nat.lt_of_not_le (fun z => h24 ((ng_le (by omega) (by decide)).mpr z))
        refine v_iload_n dJ6_stringSize_0f7a4_27 rfl rfl ?_
        refine v_iload_n dJ6_stringSize_0f7a4_28 rfl rfl ?_
        refine v_iadd dJ6_stringSize_0f7a4_29 ?_
        exact v_iret dJ6_stringSize_0f7a4_30 rfl ⟨by (unfold dl6; (repeat rw [if_neg (by omega)]); first | rw [if_pos (by omega)]; decide | decide), rfl⟩ (by omega) (by omega)
theorem dig_b : ∀ z, z < 10 → vp_nar .byte (nI (48 + z)) = nI (48 + z) ∧ 0 ≤ nI (48 + z) ∧ nI (48 + z) < 128 := by decide
theorem ui_b {N i x : Int32} {f : Int32 → Int32} (h : ∀ j, 0 ≤ j → j < N → 0 ≤ f j ∧ f j < 128) (hx : 0 ≤ x ∧ x < 128) : ∀ j, 0 ≤ j → j < N → 0 ≤ ui f i x j ∧ ui f i x j < 128 := fun j j0 j1 => by
  by_cases e : j = i
  · rw [e, ui_s]; exact hx
  · rw [ui_n e]; exact h j j0 j1
theorem dJ6_getChars_ba4f3_0 : decode cJ6_getChars_ba4f3 0 = .ok (.iload_n 1, 1) := by decide +kernel
theorem dJ6_getChars_ba4f3_1 : decode cJ6_getChars_ba4f3 1 = .ok (.istore 5, 2) := by decide +kernel
theorem dJ6_getChars_ba4f3_3 : decode cJ6_getChars_ba4f3 3 = .ok (.iload_n 0, 1) := by decide +kernel
theorem dJ6_getChars_ba4f3_4 : decode cJ6_getChars_ba4f3 4 = .ok (.ifCond .ge 7, 3) := by decide +kernel
theorem dJ6_getChars_ba4f3_7 : decode cJ6_getChars_ba4f3 7 = .ok (.iconst 1, 1) := by decide +kernel
theorem dJ6_getChars_ba4f3_8 : decode cJ6_getChars_ba4f3 8 = .ok (.goto 4, 3) := by decide +kernel
theorem dJ6_getChars_ba4f3_11 : decode cJ6_getChars_ba4f3 11 = .ok (.iconst 0, 1) := by decide +kernel
theorem dJ6_getChars_ba4f3_12 : decode cJ6_getChars_ba4f3 12 = .ok (.istore 6, 2) := by decide +kernel
theorem dJ6_getChars_ba4f3_14 : decode cJ6_getChars_ba4f3 14 = .ok (.iload 6, 2) := by decide +kernel
theorem dJ6_getChars_ba4f3_16 : decode cJ6_getChars_ba4f3 16 = .ok (.ifCond .ne 6, 3) := by decide +kernel
theorem dJ6_getChars_ba4f3_19 : decode cJ6_getChars_ba4f3 19 = .ok (.iload_n 0, 1) := by decide +kernel
theorem dJ6_getChars_ba4f3_20 : decode cJ6_getChars_ba4f3 20 = .ok (.ineg, 1) := by decide +kernel
theorem dJ6_getChars_ba4f3_21 : decode cJ6_getChars_ba4f3 21 = .ok (.istore_n 0, 1) := by decide +kernel
theorem dJ6_getChars_ba4f3_22 : decode cJ6_getChars_ba4f3 22 = .ok (.iload_n 0, 1) := by decide +kernel
theorem dJ6_getChars_ba4f3_23 : decode cJ6_getChars_ba4f3 23 = .ok (.bipush (-100), 2) := by decide +kernel
theorem dJ6_getChars_ba4f3_25 : decode cJ6_getChars_ba4f3 25 = .ok (.if_icmp .gt 47, 3) := by decide +kernel
theorem dJ6_getChars_ba4f3_28 : decode cJ6_getChars_ba4f3 28 = .ok (.iload_n 0, 1) := by decide +kernel
theorem dJ6_getChars_ba4f3_29 : decode cJ6_getChars_ba4f3 29 = .ok (.bipush 100, 2) := by decide +kernel
theorem dJ6_getChars_ba4f3_31 : decode cJ6_getChars_ba4f3 31 = .ok (.idiv, 1) := by decide +kernel
theorem dJ6_getChars_ba4f3_32 : decode cJ6_getChars_ba4f3 32 = .ok (.istore_n 3, 1) := by decide +kernel
theorem dJ6_getChars_ba4f3_33 : decode cJ6_getChars_ba4f3 33 = .ok (.iload_n 3, 1) := by decide +kernel
theorem dJ6_getChars_ba4f3_34 : decode cJ6_getChars_ba4f3 34 = .ok (.bipush 100, 2) := by decide +kernel
theorem dJ6_getChars_ba4f3_36 : decode cJ6_getChars_ba4f3 36 = .ok (.imul, 1) := by decide +kernel
theorem dJ6_getChars_ba4f3_37 : decode cJ6_getChars_ba4f3 37 = .ok (.iload_n 0, 1) := by decide +kernel
theorem dJ6_getChars_ba4f3_38 : decode cJ6_getChars_ba4f3 38 = .ok (.isub, 1) := by decide +kernel
theorem dJ6_getChars_ba4f3_39 : decode cJ6_getChars_ba4f3 39 = .ok (.istore 4, 2) := by decide +kernel
theorem dJ6_getChars_ba4f3_41 : decode cJ6_getChars_ba4f3 41 = .ok (.iload_n 3, 1) := by decide +kernel
theorem dJ6_getChars_ba4f3_42 : decode cJ6_getChars_ba4f3 42 = .ok (.istore_n 0, 1) := by decide +kernel
theorem dJ6_getChars_ba4f3_43 : decode cJ6_getChars_ba4f3 43 = .ok (.aload_n 2, 1) := by decide +kernel
theorem dJ6_getChars_ba4f3_44 : decode cJ6_getChars_ba4f3 44 = .ok (.iinc 5 (-1), 3) := by decide +kernel
theorem dJ6_getChars_ba4f3_47 : decode cJ6_getChars_ba4f3 47 = .ok (.iload 5, 2) := by decide +kernel
theorem dJ6_getChars_ba4f3_49 : decode cJ6_getChars_ba4f3 49 = .ok (.getstatic 83, 3) := by decide +kernel
theorem dJ6_getChars_ba4f3_52 : decode cJ6_getChars_ba4f3 52 = .ok (.iload 4, 2) := by decide +kernel
theorem dJ6_getChars_ba4f3_54 : decode cJ6_getChars_ba4f3 54 = .ok (.baload, 1) := by decide +kernel
theorem dJ6_getChars_ba4f3_55 : decode cJ6_getChars_ba4f3 55 = .ok (.bastore, 1) := by decide +kernel
theorem dJ6_getChars_ba4f3_56 : decode cJ6_getChars_ba4f3 56 = .ok (.aload_n 2, 1) := by decide +kernel
theorem dJ6_getChars_ba4f3_57 : decode cJ6_getChars_ba4f3 57 = .ok (.iinc 5 (-1), 3) := by decide +kernel
theorem dJ6_getChars_ba4f3_60 : decode cJ6_getChars_ba4f3 60 = .ok (.iload 5, 2) := by decide +kernel
theorem dJ6_getChars_ba4f3_62 : decode cJ6_getChars_ba4f3 62 = .ok (.getstatic 87, 3) := by decide +kernel
theorem dJ6_getChars_ba4f3_65 : decode cJ6_getChars_ba4f3 65 = .ok (.iload 4, 2) := by decide +kernel
theorem dJ6_getChars_ba4f3_67 : decode cJ6_getChars_ba4f3 67 = .ok (.baload, 1) := by decide +kernel
theorem dJ6_getChars_ba4f3_68 : decode cJ6_getChars_ba4f3 68 = .ok (.bastore, 1) := by decide +kernel
theorem dJ6_getChars_ba4f3_69 : decode cJ6_getChars_ba4f3 69 = .ok (.goto (-47), 3) := by decide +kernel
theorem dJ6_getChars_ba4f3_72 : decode cJ6_getChars_ba4f3 72 = .ok (.aload_n 2, 1) := by decide +kernel
theorem dJ6_getChars_ba4f3_73 : decode cJ6_getChars_ba4f3 73 = .ok (.iinc 5 (-1), 3) := by decide +kernel
theorem dJ6_getChars_ba4f3_76 : decode cJ6_getChars_ba4f3 76 = .ok (.iload 5, 2) := by decide +kernel
theorem dJ6_getChars_ba4f3_78 : decode cJ6_getChars_ba4f3 78 = .ok (.getstatic 83, 3) := by decide +kernel
theorem dJ6_getChars_ba4f3_81 : decode cJ6_getChars_ba4f3 81 = .ok (.iload_n 0, 1) := by decide +kernel
theorem dJ6_getChars_ba4f3_82 : decode cJ6_getChars_ba4f3 82 = .ok (.ineg, 1) := by decide +kernel
theorem dJ6_getChars_ba4f3_83 : decode cJ6_getChars_ba4f3 83 = .ok (.baload, 1) := by decide +kernel
theorem dJ6_getChars_ba4f3_84 : decode cJ6_getChars_ba4f3 84 = .ok (.bastore, 1) := by decide +kernel
theorem dJ6_getChars_ba4f3_85 : decode cJ6_getChars_ba4f3 85 = .ok (.iload_n 0, 1) := by decide +kernel
theorem dJ6_getChars_ba4f3_86 : decode cJ6_getChars_ba4f3 86 = .ok (.bipush (-9), 2) := by decide +kernel
theorem dJ6_getChars_ba4f3_88 : decode cJ6_getChars_ba4f3 88 = .ok (.if_icmp .ge 16, 3) := by decide +kernel
theorem dJ6_getChars_ba4f3_91 : decode cJ6_getChars_ba4f3 91 = .ok (.aload_n 2, 1) := by decide +kernel
theorem dJ6_getChars_ba4f3_92 : decode cJ6_getChars_ba4f3 92 = .ok (.iinc 5 (-1), 3) := by decide +kernel
theorem dJ6_getChars_ba4f3_95 : decode cJ6_getChars_ba4f3 95 = .ok (.iload 5, 2) := by decide +kernel
theorem dJ6_getChars_ba4f3_97 : decode cJ6_getChars_ba4f3 97 = .ok (.getstatic 87, 3) := by decide +kernel
theorem dJ6_getChars_ba4f3_100 : decode cJ6_getChars_ba4f3 100 = .ok (.iload_n 0, 1) := by decide +kernel
theorem dJ6_getChars_ba4f3_101 : decode cJ6_getChars_ba4f3 101 = .ok (.ineg, 1) := by decide +kernel
theorem dJ6_getChars_ba4f3_102 : decode cJ6_getChars_ba4f3 102 = .ok (.baload, 1) := by decide +kernel
theorem dJ6_getChars_ba4f3_103 : decode cJ6_getChars_ba4f3 103 = .ok (.bastore, 1) := by decide +kernel
theorem dJ6_getChars_ba4f3_104 : decode cJ6_getChars_ba4f3 104 = .ok (.iload 6, 2) := by decide +kernel
theorem dJ6_getChars_ba4f3_106 : decode cJ6_getChars_ba4f3 106 = .ok (.ifCond .eq 12, 3) := by decide +kernel
theorem dJ6_getChars_ba4f3_109 : decode cJ6_getChars_ba4f3 109 = .ok (.aload_n 2, 1) := by decide +kernel
theorem dJ6_getChars_ba4f3_110 : decode cJ6_getChars_ba4f3 110 = .ok (.iinc 5 (-1), 3) := by decide +kernel
theorem dJ6_getChars_ba4f3_113 : decode cJ6_getChars_ba4f3 113 = .ok (.iload 5, 2) := by decide +kernel
theorem dJ6_getChars_ba4f3_115 : decode cJ6_getChars_ba4f3 115 = .ok (.bipush 45, 2) := by decide +kernel
theorem dJ6_getChars_ba4f3_117 : decode cJ6_getChars_ba4f3 117 = .ok (.bastore, 1) := by decide +kernel
theorem dJ6_getChars_ba4f3_118 : decode cJ6_getChars_ba4f3 118 = .ok (.iload 5, 2) := by decide +kernel
theorem dJ6_getChars_ba4f3_120 : decode cJ6_getChars_ba4f3 120 = .ok (.ireturn, 1) := by decide +kernel
set_option maxRecDepth 100000 in
set_option maxHeartbeats 4000000 in
theorem c_chars {l : Launch} {g : Nat → Nat} {M : LH} (htr : l.stackTraces = false) {v : Nat} {N : Int32} {f : Int32 → Int32} (hv9 : M v = some (ba N f)) (N0 : 0 ≤ N) (hN9 : N ≤ 10000) (hf9 : ∀ j, 0 ≤ j → j < N → 0 ≤ f j ∧ f j < 128) {n c k : Nat} (hn : n < 1000000) (hD : DL n k) (hc9 : c + k < 100000) (hck : nI (c + k) ≤ N) : K_J6_getChars_ba4f3 l g 0 0 0 [.int (nI n), .int (nI (c + k)), .ref v] M (RI (fun r M9 => ∃ F, M9 = hup M v (ba N F) ∧ Wr n c k f F ∧ ∀ j, 0 ≤ j → j < N → 0 ≤ F j ∧ F j < 128) nX) := by
  refine Ko_J6_getChars_ba4f3 htr (fun X => ?_)
  obtain ⟨e, rfl, he⟩ : ∃ e, N = nI e ∧ e ≤ 10000 := ⟨N.toNatClampNeg, (tc_nI N0).symm, by have := tc_le hN9; exact Nat.le_trans this (Nat.le_of_ble_eq_true rfl)⟩
  have hce : c + k ≤ e := (nJ_le (by omega) (by omega)).mp hck
  have key : ∀ fu n1 k1, n1 < 100 ^ (fu + 1) → n1 < 1000000 → DL n1 k1 → c + k1 ≤ e → ∀ (M1 : LH) (f1 : Int32 → Int32) (p1 p3 p4 : Option Value), M1 = hup M v (ba (nI e) f1) → (∀ j, 0 ≤ j → j < nI e → 0 ≤ f1 j ∧ f1 j < 128) → (∀ F, Wr n1 c k1 f1 F → Wr n c k f F) → V l g yJ6_getChars_ba4f3 cJ6_getChars_ba4f3 ((some .int)) [] 0 0 0 (RI (fun r M9 => ∃ F, M9 = hup M v (ba (nI e) F) ∧ Wr n c k f F ∧ ∀ j, 0 ≤ j → j < nI e → 0 ≤ F j ∧ F j < 128) nX) X M1 0 0 22 [some (.int (-nI n1)), p1, some (.ref v), p3, p4, some (.int (nI (c + k1))), some (.int 0)] [] := by
    intro fu
    induction fu with
    | zero =>
      intro n1 k1 h100 h6 hD hck M1 f1 p1 p3 p4 hM1 hf1 hW
      rw [show 100 ^ (0 + 1) = 100 from rfl] at h100
      have hv1 : M1 v = some (ba (nI e) f1) := by rw [hM1]; exact hup_s
      obtain ⟨r0, r1⟩ := nI_100 n1 h100
      have z0 := dig_b (n1 % 10) (by omega)
      have z1 := dig_b (n1 / 10) (by omega)
      rcases hD.sm h100 with ⟨hs, rfl⟩ | ⟨hs, rfl⟩
      · refine v_iload_n dJ6_getChars_ba4f3_22 rfl rfl ?_
        refine v_bipush (v := (-100)) dJ6_getChars_ba4f3_23 (by decide) ?_
        refine v_icmp_gt (tgt := 72) dJ6_getChars_ba4f3_25 (by decide) (fun h25 => ?_) (fun h25 => ?_)
        · refine v_aload_n dJ6_getChars_ba4f3_72 rfl rfl ?_
          refine v_iinc_5 dJ6_getChars_ba4f3_73 rfl ?_
          rw [show nI (c + 1) + Int32.ofInt (-1) = nI (c) by rw [show Int32.ofInt (-1) = - nI 1 by decide, ← Int32.sub_eq_add_neg, nJ_sub (by omega)]; congr 1]
          refine v_iload dJ6_getChars_ba4f3_76 rfl ?_
          refine gs_J6_83 dJ6_getChars_ba4f3_78 rfl ?_
          refine v_iload_n dJ6_getChars_ba4f3_81 rfl rfl ?_
          refine v_ineg dJ6_getChars_ba4f3_82 ?_
          rw [ng_neg]
          refine v_tB dJ6_getChars_ba4f3_83 (fun A U H h => h.o 10 rfl) r0 (by omega) (v := .int (nI (48 + (nI n1).toNatClampNeg % 10))) rfl ?_
          rw [r1]
          refine v_bast dJ6_getChars_ba4f3_84 hv1 (nI_pos' (by omega)) (nI_lt (by omega) (by omega)) ?_
          rw [z0.1]
          refine v_iload_n dJ6_getChars_ba4f3_85 rfl rfl ?_
          refine v_bipush (v := (-9)) dJ6_getChars_ba4f3_86 (by decide) ?_
          refine v_icmp_ge (tgt := 104) dJ6_getChars_ba4f3_88 (by decide) (fun h88 => ?_) (fun h88 => ?_)
          · 
            refine v_iload dJ6_getChars_ba4f3_104 rfl ?_
            refine v_if_eq (tgt := 118) dJ6_getChars_ba4f3_106 (by decide) (fun h106 => ?_) (fun h106 => ?_)
            · refine v_iload dJ6_getChars_ba4f3_118 rfl ?_
              exact v_iret dJ6_getChars_ba4f3_120 rfl ⟨_, (by rw [hM1, hup_hup]), hW _ (Wr.one hs (by omega)), fun j j0 j1 => ui_b hf1 z0.2 j j0 j1⟩ (by omega) (by omega)
            · exact absurd rfl h106
          · exact absurd (Int32.not_le.mp h88) (fun z => absurd ((ng_lt (m := 9) (n := n1) (by omega) (by decide)).mp z) (by omega))
        · exact absurd ((ng_lt (m := n1) (n := 100) (by decide) (by omega)).mpr h100) h25
      · refine v_iload_n dJ6_getChars_ba4f3_22 rfl rfl ?_
        refine v_bipush (v := (-100)) dJ6_getChars_ba4f3_23 (by decide) ?_
        refine v_icmp_gt (tgt := 72) dJ6_getChars_ba4f3_25 (by decide) (fun h25 => ?_) (fun h25 => ?_)
        · refine v_aload_n dJ6_getChars_ba4f3_72 rfl rfl ?_
          refine v_iinc_5 dJ6_getChars_ba4f3_73 rfl ?_
          rw [show nI (c + 2) + Int32.ofInt (-1) = nI (c + 1) by rw [show Int32.ofInt (-1) = - nI 1 by decide, ← Int32.sub_eq_add_neg, nJ_sub (by omega)]; congr 1]
          refine v_iload dJ6_getChars_ba4f3_76 rfl ?_
          refine gs_J6_83 dJ6_getChars_ba4f3_78 rfl ?_
          refine v_iload_n dJ6_getChars_ba4f3_81 rfl rfl ?_
          refine v_ineg dJ6_getChars_ba4f3_82 ?_
          rw [ng_neg]
          refine v_tB dJ6_getChars_ba4f3_83 (fun A U H h => h.o 10 rfl) r0 (by omega) (v := .int (nI (48 + (nI n1).toNatClampNeg % 10))) rfl ?_
          rw [r1]
          refine v_bast dJ6_getChars_ba4f3_84 hv1 (nI_pos' (by omega)) (nI_lt (by omega) (by omega)) ?_
          rw [z0.1]
          refine v_iload_n dJ6_getChars_ba4f3_85 rfl rfl ?_
          refine v_bipush (v := (-9)) dJ6_getChars_ba4f3_86 (by decide) ?_
          refine v_icmp_ge (tgt := 104) dJ6_getChars_ba4f3_88 (by decide) (fun h88 => ?_) (fun h88 => ?_)
          · exact absurd ((ng_lt (m := 9) (n := n1) (by omega) (by decide)).mpr (by omega)) (Int32.not_lt.mpr h88)
          · refine v_aload_n dJ6_getChars_ba4f3_91 rfl rfl ?_
            refine v_iinc_5 dJ6_getChars_ba4f3_92 rfl ?_
            rw [show nI (c + 1) + Int32.ofInt (-1) = nI c by rw [show Int32.ofInt (-1) = - nI 1 by decide, ← Int32.sub_eq_add_neg, nJ_sub (by omega)]; congr 1]
            refine v_iload dJ6_getChars_ba4f3_95 rfl ?_
            refine gs_J6_87 dJ6_getChars_ba4f3_97 rfl ?_
            refine v_iload_n dJ6_getChars_ba4f3_100 rfl rfl ?_
            refine v_ineg dJ6_getChars_ba4f3_101 ?_
            rw [ng_neg]
            refine v_tB dJ6_getChars_ba4f3_102 (fun A U H h => h.o 11 rfl) r0 (by omega) (v := .int (nI (48 + (nI n1).toNatClampNeg / 10))) rfl ?_
            rw [r1]
            refine v_bast dJ6_getChars_ba4f3_103 hup_s (nI_pos' (by omega)) (nI_lt (by omega) (by omega)) ?_
            rw [z1.1, hup_hup]
            refine v_iload dJ6_getChars_ba4f3_104 rfl ?_
            refine v_if_eq (tgt := 118) dJ6_getChars_ba4f3_106 (by decide) (fun h106 => ?_) (fun h106 => ?_)
            · refine v_iload dJ6_getChars_ba4f3_118 rfl ?_
              exact v_iret dJ6_getChars_ba4f3_120 rfl ⟨_, (by rw [hM1, hup_hup]), hW _ (Wr.two h100 (by omega)), fun j j0 j1 => ui_b (ui_b hf1 z0.2) z1.2 j j0 j1⟩ (by omega) (by omega)
            · exact absurd rfl h106
        · exact absurd ((ng_lt (m := n1) (n := 100) (by decide) (by omega)).mpr h100) h25
    | succ fu ih =>
      intro n1 k1 h100 h6 hD hck M1 f1 p1 p3 p4 hM1 hf1 hW
      have hv1 : M1 v = some (ba (nI e) f1) := by rw [hM1]; exact hup_s
      by_cases hb : 100 ≤ n1
      · obtain ⟨k3, hD2⟩ := hD.dn hb
        obtain ⟨k2, rfl⟩ : ∃ k2, k1 = k2 + 2 := ⟨k1 - 2, by omega⟩
        rw [show k2 + 2 - 2 = k2 by omega] at hD2
        obtain ⟨r0, r1⟩ := nI_100 (n1 % 100) (by omega)
        have z0 := dig_b (n1 % 100 % 10) (by omega)
        have z1 := dig_b (n1 % 100 / 10) (by omega)
        have e1 : nI (c + (k2 + 2)) + Int32.ofInt (-1) = nI (c + k2 + 1) := by rw [show Int32.ofInt (-1) = - nI 1 by decide, ← Int32.sub_eq_add_neg, nJ_sub (by omega)]; congr 1
        have e2 : nI (c + k2 + 1) + Int32.ofInt (-1) = nI (c + k2) := by rw [show Int32.ofInt (-1) = - nI 1 by decide, ← Int32.sub_eq_add_neg, nJ_sub (by omega)]; congr 1
        refine v_iload_n dJ6_getChars_ba4f3_22 rfl rfl ?_
        refine v_bipush (v := (-100)) dJ6_getChars_ba4f3_23 (by decide) ?_
        refine v_icmp_gt (tgt := 72) dJ6_getChars_ba4f3_25 (by decide) (fun h25 => ?_) (fun h25 => ?_)
        · exact absurd ((ng_lt (m := n1) (n := 100) (by decide) (by omega)).mp (by exact h25)) (by omega)
        · refine v_iload_n dJ6_getChars_ba4f3_28 rfl rfl ?_
          refine v_bipush (v := (100)) dJ6_getChars_ba4f3_29 (by decide) ?_
          refine v_idiv dJ6_getChars_ba4f3_31 (by decide) ?_
          rw [ng_div (by omega)]
          refine v_istore_3 dJ6_getChars_ba4f3_32 ?_
          refine v_iload_n dJ6_getChars_ba4f3_33 rfl rfl ?_
          refine v_bipush (v := (100)) dJ6_getChars_ba4f3_34 (by decide) ?_
          refine v_imul dJ6_getChars_ba4f3_36 ?_
          refine v_iload_n dJ6_getChars_ba4f3_37 rfl rfl ?_
          refine v_isub dJ6_getChars_ba4f3_38 ?_
          rw [ng_rem (by omega)]
          refine v_istore_4 dJ6_getChars_ba4f3_39 ?_
          refine v_iload_n dJ6_getChars_ba4f3_41 rfl rfl ?_
          refine v_istore_0 dJ6_getChars_ba4f3_42 ?_
          refine v_aload_n dJ6_getChars_ba4f3_43 rfl rfl ?_
          refine v_iinc_5 dJ6_getChars_ba4f3_44 rfl ?_
          rw [e1]
          refine v_iload dJ6_getChars_ba4f3_47 rfl ?_
          refine gs_J6_83 dJ6_getChars_ba4f3_49 rfl ?_
          refine v_iload dJ6_getChars_ba4f3_52 rfl ?_
          refine v_tB dJ6_getChars_ba4f3_54 (fun A U H h => h.o 10 rfl) r0 (by omega) (v := .int (nI (48 + (nI (n1 % 100)).toNatClampNeg % 10))) rfl ?_
          rw [r1]
          refine v_bast dJ6_getChars_ba4f3_55 hv1 (nI_pos' (by omega)) (nI_lt (by omega) (by omega)) ?_
          rw [z0.1]
          refine v_aload_n dJ6_getChars_ba4f3_56 rfl rfl ?_
          refine v_iinc_5 dJ6_getChars_ba4f3_57 rfl ?_
          rw [e2]
          refine v_iload dJ6_getChars_ba4f3_60 rfl ?_
          refine gs_J6_87 dJ6_getChars_ba4f3_62 rfl ?_
          refine v_iload dJ6_getChars_ba4f3_65 rfl ?_
          refine v_tB dJ6_getChars_ba4f3_67 (fun A U H h => h.o 11 rfl) r0 (by omega) (v := .int (nI (48 + (nI (n1 % 100)).toNatClampNeg / 10))) rfl ?_
          rw [r1]
          refine v_bast dJ6_getChars_ba4f3_68 hup_s (nI_pos' (by omega)) (nI_lt (by omega) (by omega)) ?_
          refine v_goto (tgt := 22) dJ6_getChars_ba4f3_69 (by decide) ?_
          rw [z1.1, hup_hup, hM1, hup_hup]
          refine ih (n1 / 100) k2 (by rw [Nat.pow_succ] at h100; omega) (by omega) hD2 (by omega) _ _ _ _ _ rfl (fun j j0 j1 => ?_) (fun F h => hW F (h.step (by omega)))
          exact ui_b (ui_b hf1 z0.2) z1.2 j j0 j1
      · have h100 : n1 < 100 := by omega
        obtain ⟨r0, r1⟩ := nI_100 n1 h100
        have z0 := dig_b (n1 % 10) (by omega)
        have z1 := dig_b (n1 / 10) (by omega)
        rcases hD.sm h100 with ⟨hs, rfl⟩ | ⟨hs, rfl⟩
        · refine v_iload_n dJ6_getChars_ba4f3_22 rfl rfl ?_
          refine v_bipush (v := (-100)) dJ6_getChars_ba4f3_23 (by decide) ?_
          refine v_icmp_gt (tgt := 72) dJ6_getChars_ba4f3_25 (by decide) (fun h25 => ?_) (fun h25 => ?_)
          · refine v_aload_n dJ6_getChars_ba4f3_72 rfl rfl ?_
            refine v_iinc_5 dJ6_getChars_ba4f3_73 rfl ?_
            rw [show nI (c + 1) + Int32.ofInt (-1) = nI (c) by rw [show Int32.ofInt (-1) = - nI 1 by decide, ← Int32.sub_eq_add_neg, nJ_sub (by omega)]; congr 1]
            refine v_iload dJ6_getChars_ba4f3_76 rfl ?_
            refine gs_J6_83 dJ6_getChars_ba4f3_78 rfl ?_
            refine v_iload_n dJ6_getChars_ba4f3_81 rfl rfl ?_
            refine v_ineg dJ6_getChars_ba4f3_82 ?_
            rw [ng_neg]
            refine v_tB dJ6_getChars_ba4f3_83 (fun A U H h => h.o 10 rfl) r0 (by omega) (v := .int (nI (48 + (nI n1).toNatClampNeg % 10))) rfl ?_
            rw [r1]
            refine v_bast dJ6_getChars_ba4f3_84 hv1 (nI_pos' (by omega)) (nI_lt (by omega) (by omega)) ?_
            rw [z0.1]
            refine v_iload_n dJ6_getChars_ba4f3_85 rfl rfl ?_
            refine v_bipush (v := (-9)) dJ6_getChars_ba4f3_86 (by decide) ?_
            refine v_icmp_ge (tgt := 104) dJ6_getChars_ba4f3_88 (by decide) (fun h88 => ?_) (fun h88 => ?_)
            · 
              refine v_iload dJ6_getChars_ba4f3_104 rfl ?_
              refine v_if_eq (tgt := 118) dJ6_getChars_ba4f3_106 (by decide) (fun h106 => ?_) (fun h106 => ?_)
              · refine v_iload dJ6_getChars_ba4f3_118 rfl ?_
                exact v_iret dJ6_getChars_ba4f3_120 rfl ⟨_, (by rw [hM1, hup_hup]), hW _ (Wr.one hs (by omega)), fun j j0 j1 => ui_b hf1 z0.2 j j0 j1⟩ (by omega) (by omega)
              · exact absurd rfl h106
            · exact absurd (Int32.not_le.mp h88) (fun z => absurd ((ng_lt (m := 9) (n := n1) (by omega) (by decide)).mp z) (by omega))
          · exact absurd ((ng_lt (m := n1) (n := 100) (by decide) (by omega)).mpr h100) h25
        · refine v_iload_n dJ6_getChars_ba4f3_22 rfl rfl ?_
          refine v_bipush (v := (-100)) dJ6_getChars_ba4f3_23 (by decide) ?_
          refine v_icmp_gt (tgt := 72) dJ6_getChars_ba4f3_25 (by decide) (fun h25 => ?_) (fun h25 => ?_)
          · refine v_aload_n dJ6_getChars_ba4f3_72 rfl rfl ?_
            refine v_iinc_5 dJ6_getChars_ba4f3_73 rfl ?_
            rw [show nI (c + 2) + Int32.ofInt (-1) = nI (c + 1) by rw [show Int32.ofInt (-1) = - nI 1 by decide, ← Int32.sub_eq_add_neg, nJ_sub (by omega)]; congr 1]
            refine v_iload dJ6_getChars_ba4f3_76 rfl ?_
            refine gs_J6_83 dJ6_getChars_ba4f3_78 rfl ?_
            refine v_iload_n dJ6_getChars_ba4f3_81 rfl rfl ?_
            refine v_ineg dJ6_getChars_ba4f3_82 ?_
            rw [ng_neg]
            refine v_tB dJ6_getChars_ba4f3_83 (fun A U H h => h.o 10 rfl) r0 (by omega) (v := .int (nI (48 + (nI n1).toNatClampNeg % 10))) rfl ?_
            rw [r1]
            refine v_bast dJ6_getChars_ba4f3_84 hv1 (nI_pos' (by omega)) (nI_lt (by omega) (by omega)) ?_
            rw [z0.1]
            refine v_iload_n dJ6_getChars_ba4f3_85 rfl rfl ?_
            refine v_bipush (v := (-9)) dJ6_getChars_ba4f3_86 (by decide) ?_
            refine v_icmp_ge (tgt := 104) dJ6_getChars_ba4f3_88 (by decide) (fun h88 => ?_) (fun h88 => ?_)
            · exact absurd ((ng_lt (m := 9) (n := n1) (by omega) (by decide)).mpr (by omega)) (Int32.not_lt.mpr h88)
            · refine v_aload_n dJ6_getChars_ba4f3_91 rfl rfl ?_
              refine v_iinc_5 dJ6_getChars_ba4f3_92 rfl ?_
              rw [show nI (c + 1) + Int32.ofInt (-1) = nI c by rw [show Int32.ofInt (-1) = - nI 1 by decide, ← Int32.sub_eq_add_neg, nJ_sub (by omega)]; congr 1]
              refine v_iload dJ6_getChars_ba4f3_95 rfl ?_
              refine gs_J6_87 dJ6_getChars_ba4f3_97 rfl ?_
              refine v_iload_n dJ6_getChars_ba4f3_100 rfl rfl ?_
              refine v_ineg dJ6_getChars_ba4f3_101 ?_
              rw [ng_neg]
              refine v_tB dJ6_getChars_ba4f3_102 (fun A U H h => h.o 11 rfl) r0 (by omega) (v := .int (nI (48 + (nI n1).toNatClampNeg / 10))) rfl ?_
              rw [r1]
              refine v_bast dJ6_getChars_ba4f3_103 hup_s (nI_pos' (by omega)) (nI_lt (by omega) (by omega)) ?_
              rw [z1.1, hup_hup]
              refine v_iload dJ6_getChars_ba4f3_104 rfl ?_
              refine v_if_eq (tgt := 118) dJ6_getChars_ba4f3_106 (by decide) (fun h106 => ?_) (fun h106 => ?_)
              · refine v_iload dJ6_getChars_ba4f3_118 rfl ?_
                exact v_iret dJ6_getChars_ba4f3_120 rfl ⟨_, (by rw [hM1, hup_hup]), hW _ (Wr.two h100 (by omega)), fun j j0 j1 => ui_b (ui_b hf1 z0.2) z1.2 j j0 j1⟩ (by omega) (by omega)
              · exact absurd rfl h106
          · exact absurd ((ng_lt (m := n1) (n := 100) (by decide) (by omega)).mpr h100) h25
  refine v_iload_n dJ6_getChars_ba4f3_0 rfl rfl ?_
  refine v_istore_5 dJ6_getChars_ba4f3_1 ?_
  refine v_iload_n dJ6_getChars_ba4f3_3 rfl rfl ?_
  refine v_if_ge (tgt := 11) dJ6_getChars_ba4f3_4 (by decide) (fun h4 => ?_) (fun h4 => ?_)
  · refine v_iconst (v := 0) dJ6_getChars_ba4f3_11 (by decide) ?_
    refine v_istore_6 dJ6_getChars_ba4f3_12 ?_
    refine v_iload dJ6_getChars_ba4f3_14 rfl ?_
    refine v_if_ne (tgt := 22) dJ6_getChars_ba4f3_16 (by decide) (fun h16 => ?_) (fun h16 => ?_)
    · exact absurd rfl h16
    · refine v_iload_n dJ6_getChars_ba4f3_19 rfl rfl ?_
      refine v_ineg dJ6_getChars_ba4f3_20 ?_
      refine v_istore_0 dJ6_getChars_ba4f3_21 ?_
      exact key 2 n k (by omega) hn hD hce M f _ _ _ (hup_id hv9).symm hf9 (fun F h => h)
  · exact absurd (nI_pos' (by omega)) h4
