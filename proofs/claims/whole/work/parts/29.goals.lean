/-! ===== the goals are a set of stations ===== -/
theorem bit_keep : ∀ j, j < 128 → ∀ h, h < 7 → bitI (nI j) (nI h) = 0 → nI j &&& (sbit (nI h) ^^^ -1) = nI j := by decide +kernel
theorem rm_in {j : Nat} (hj : j < 128) {h : Int32} (h0 : 0 ≤ h) (h1 : h < 7) : ∃ j', j' < 128 ∧ nI j &&& (sbit h ^^^ -1) = nI j' := by
  by_cases b : bitI (nI j) h = 0
  · have q := bit_keep j hj _ (tc7 h0 h1) (by rw [tc_nI h0]; exact b)
    rw [tc_nI h0] at q
    exact ⟨j, hj, q⟩
  · obtain ⟨j', k1, k2, -⟩ := rm_of hj h0 h1 b
    exact ⟨j', by omega, k2⟩
theorem or_in {j : Nat} (hj : j < 128) {h : Int32} (h0 : 0 ≤ h) (h1 : h < 7) : ∃ j', j' < 128 ∧ nI j ||| sbit h = nI j' := by
  have q := or_128 j hj _ (tc7 h0 h1)
  rwa [tc_nI h0] at q
theorem nI_low {n : Int32} (hn : n ≤ 12) {i : Nat} (h : i < n.toNatClampNeg) : 0 ≤ nI i ∧ nI i < n ∧ nI i < 12 := by
  have h12 := tc_le hn
  have e12 : (12 : Int32).toNatClampNeg = 12 := rfl
  obtain ⟨n0, n1⟩ := nI12 i (by omega)
  refine ⟨n0, ?_, n1⟩
  by_cases q : 0 ≤ n
  · rw [i_lt, ← tc_Int n0, ← tc_Int q, nI_t (by omega)]
    omega
  · have e0 : n.toNatClampNeg = 0 := by
      have q1 : n.toInt < 0 := by
        rw [i_le, i_0] at q
        omega
      exact Int.toNat_of_nonpos (by omega)
    omega
theorem goN_in {σ : Int32 → Int32} {k : Int32} (h7 : σ 7 ≤ 12) (hw : ∀ i, 0 ≤ i → i < σ 7 → 0 ≤ lt σ i 1 ∧ lt σ i 1 < 7) : ∀ n, n ≤ (σ 7).toNatClampNeg → ∃ j, j < 128 ∧ goN σ k n = nI j := by
  intro n
  induction n with
  | zero => exact fun _ => ⟨0, by decide, rfl⟩
  | succ n ih =>
    intro hn
    obtain ⟨j, hj, e⟩ := ih (by omega)
    obtain ⟨n0, n1, -⟩ := nI_low h7 (i := n) (by omega)
    obtain ⟨w0, w1⟩ := hw _ n0 n1
    by_cases q : lt σ (nI n) 6 = 10 + k
    · obtain ⟨j', k1, k2⟩ := or_in hj w0 w1
      refine ⟨j', k1, ?_⟩
      rw [← k2, ← e]
      exact if_pos q
    · refine ⟨j, hj, ?_⟩
      rw [← e]
      exact if_neg q
theorem goals_in {σ : Int32 → Int32} {k : Int32} (h : Good σ) (k0 : 0 ≤ k) (k1 : k < σ 6) : ∃ j, j < 128 ∧ goN σ k (σ 7).toNatClampNeg &&& (sbit (sd σ k 1) ^^^ -1) = nI j := by
  obtain ⟨g1, g2, g3, g4, g5, g6, -, -, gL, gS, -⟩ := h
  obtain ⟨j, hj, e⟩ := goN_in (k := k) g6 (fun i i0 i1 => by
    obtain ⟨z1, z2, -⟩ := gL i i0 i1
    clear gL gS
    exact ⟨z1, by lia⟩) _ (Nat.le_refl _)
  rw [e]
  obtain ⟨-, -, u2, u3, -⟩ := gS k k0 k1
  clear gL gS
  exact rm_in hj u2 (by lia)
