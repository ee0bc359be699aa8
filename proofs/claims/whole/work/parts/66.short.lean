/-! ===== no distance is above 120 ===== -/
section CP
noncomputable def cP (P : Nat → Prop) : Nat → Nat
  | 0 => 0
  | n + 1 => cP P n + @ite Nat (P n) (Classical.propDecidable (P n)) 1 0
theorem cP_1 {P : Nat → Prop} {n : Nat} : cP P (n + 1) = cP P n + @ite Nat (P n) (Classical.propDecidable (P n)) 1 0 := rfl
theorem cP_le {P : Nat → Prop} : ∀ n, cP P n ≤ n := by
  intro n
  induction n with
  | zero => exact Nat.le_refl _
  | succ n ih =>
    rw [cP_1]
    split <;> omega
theorem cP_mono {P Q : Nat → Prop} : ∀ n, (∀ i, i < n → P i → Q i) → cP P n ≤ cP Q n := by
  intro n
  induction n with
  | zero => exact fun _ => Nat.le_refl _
  | succ n ih =>
    intro h
    have a := ih (fun i hi => h i (by omega))
    have b := h n (by omega)
    rw [cP_1, cP_1]
    by_cases p : P n
    · rw [if_pos p, if_pos (b p)]
      omega
    · rw [if_neg p]
      split <;> omega
theorem cP_eq {P Q : Nat → Prop} : ∀ n, (∀ i, i < n → P i → Q i) → cP P n = cP Q n → ∀ i, i < n → Q i → P i := by
  intro n
  induction n with
  | zero => exact fun _ _ i hi => absurd hi (by omega)
  | succ n ih =>
    intro h he i hi hq
    have a := cP_mono n (fun i hi => h i (by omega))
    have b := h n (by omega)
    rw [cP_1, cP_1] at he
    by_cases p : P n
    · rw [if_pos p, if_pos (b p)] at he
      by_cases e : i = n
      · rw [e]
        exact p
      · exact ih (fun i hi => h i (by omega)) (by omega) i (by omega) hq
    · rw [if_neg p] at he
      by_cases q : Q n
      · rw [if_pos q] at he
        omega
      · rw [if_neg q] at he
        by_cases e : i = n
        · rw [e] at hq
          exact absurd hq q
        · exact ih (fun i hi => h i (by omega)) (by omega) i (by omega) hq
theorem cP_full {P : Nat → Prop} : ∀ n, n ≤ cP P n → ∀ i, i < n → P i := by
  intro n
  induction n with
  | zero => exact fun _ i hi => absurd hi (by omega)
  | succ n ih =>
    intro h i hi
    have a := cP_le (P := P) n
    rw [cP_1] at h
    by_cases p : P n
    · rw [if_pos p] at h
      by_cases e : i = n
      · rw [e]
        exact p
      · exact ih (by omega) i (by omega)
    · rw [if_neg p] at h
      omega
theorem cP_pos {P : Nat → Prop} {i : Nat} (hp : P i) : ∀ n, i < n → 1 ≤ cP P n := by
  intro n
  induction n with
  | zero => exact fun hi => absurd hi (by omega)
  | succ n ih =>
    intro hi
    rw [cP_1]
    by_cases e : i = n
    · rw [← e, if_pos hp]
      omega
    · have := ih (by omega)
      omega
end CP
/-- i is reached from a over at most k roads -/
def Rk (σ : Int32 → Int32) (a : Int32) (k : Nat) (i : Nat) : Prop := ∃ k', k' ≤ k ∧ ∃ d, Wk σ k' a (nI i) d
theorem Rk.up {σ : Int32 → Int32} {a : Int32} {k i : Nat} (h : Rk σ a k i) : Rk σ a (k + 1) i := by
  obtain ⟨k', h1, h2⟩ := h
  exact ⟨k', by omega, h2⟩
theorem Rk.le {σ : Int32 → Int32} {a : Int32} {k l i : Nat} (h : Rk σ a k i) (hl : k ≤ l) : Rk σ a l i := by
  obtain ⟨k', h1, h2⟩ := h
  exact ⟨k', by omega, h2⟩
theorem Rk.all {σ : Int32 → Int32} {a : Int32} {k : Nat} (h5 : σ 5 ≤ 7) (hs : ∀ i, i < 7 → Rk σ a (k + 1) i → Rk σ a k i) : ∀ (n : Nat) (b : Int32) (d : Int), 0 ≤ b → b < 7 → Wk σ n a b d → Rk σ a k b.toNatClampNeg := by
  intro n
  induction n with
  | zero =>
    rintro b d b0 b1 hw
    exact ⟨0, by omega, d, by rw [tc_nI b0]; exact hw⟩
  | succ n ih =>
    rintro b d b0 b1 ⟨c, c0, c1, hr, hw⟩
    obtain ⟨k', h1, d', h2⟩ := ih c _ c0 (Int32.lt_of_lt_of_le c1 h5) hw
    refine hs _ (tc7 b0 b1) ⟨k' + 1, by omega, d' + (rd σ c b).toInt, c, c0, c1, ?_, ?_⟩
    · rw [tc_nI b0]
      exact hr
    · rw [tc_nI b0, show d' + (rd σ c b).toInt - (rd σ c b).toInt = d' by omega]
      rw [tc_nI c0] at h2
      exact h2
theorem Rk.grow {σ : Int32 → Int32} {a : Int32} (a0 : 0 ≤ a) (a1 : a < 7) : ∀ k, k + 1 ≤ cP (Rk σ a k) 7 ∨ ∃ j, j ≤ k ∧ ∀ i, i < 7 → Rk σ a (j + 1) i → Rk σ a j i := by
  intro k
  induction k with
  | zero => exact Or.inl (cP_pos (i := a.toNatClampNeg) ⟨0, by omega, 0, by rw [tc_nI a0]; exact ⟨rfl, rfl⟩⟩ 7 (tc7 a0 a1))
  | succ k ih =>
    rcases ih with h | ⟨j, j1, j2⟩
    · have m := cP_mono (P := Rk σ a k) (Q := Rk σ a (k + 1)) 7 (fun i _ q => q.up)
      by_cases e : cP (Rk σ a k) 7 = cP (Rk σ a (k + 1)) 7
      · exact Or.inr ⟨k, by omega, fun i hi q => cP_eq 7 (fun i _ q => q.up) e i hi q⟩
      · exact Or.inl (by omega)
    · exact Or.inr ⟨j, by omega, j2⟩
theorem Wk.b {σ : Int32 → Int32} (hG : Good σ) {a : Int32} : ∀ (k : Nat) (b : Int32) (d : Int), 0 ≤ b → b < 7 → Wk σ k a b d → 0 ≤ d ∧ d ≤ 20 * k := by
  intro k
  induction k with
  | zero =>
    rintro b d _ _ ⟨-, rfl⟩
    omega
  | succ k ih =>
    rintro b d b0 b1 ⟨c, c0, c1, hr, hw⟩
    obtain ⟨g1, g2, g3, g4, g5, g6, g7, g8, gL, gS, gR, -⟩ := hG
    have c7 := Int32.lt_of_lt_of_le c1 g2
    obtain ⟨z1, z2, -⟩ := gR c b c0 c7 b0 b1
    obtain ⟨y1, y2⟩ := ih c _ c0 c7 hw
    rw [i_le] at z1 z2
    rw [i_0] at z1
    rw [show ((20 : Int32).toInt) = 20 from rfl] at z2
    omega
theorem Wks.b {σ : Int32 → Int32} (hG : Good σ) {a b : Int32} {d : Int} (b0 : 0 ≤ b) (b1 : b < 7) (h : Wks σ a b d) : 0 ≤ d := by
  obtain ⟨k, hk⟩ := h
  exact (Wk.b hG k b d b0 b1 hk).1
theorem Wks.short {σ : Int32 → Int32} (hG : Good σ) {a b : Int32} {d : Int} (a0 : 0 ≤ a) (a1 : a < 7) (b0 : 0 ≤ b) (b1 : b < 7) (h : Wks σ a b d) : ∃ d', Wks σ a b d' ∧ d' ≤ 120 := by
  obtain ⟨k, hk⟩ := h
  have h6 : Rk σ a 6 b.toNatClampNeg := by
    rcases Rk.grow (σ := σ) a0 a1 6 with q | ⟨j, j1, j2⟩
    · exact cP_full 7 q _ (tc7 b0 b1)
    · exact (Rk.all hG.2.1 j2 k b d b0 b1 hk).le j1
  obtain ⟨k', h1, d', h2⟩ := h6
  rw [tc_nI b0] at h2
  have := (Wk.b hG k' b d' b0 b1 h2).2
  exact ⟨d', ⟨k', h2⟩, by omega⟩
theorem IsD.b {σ : Int32 → Int32} (hG : Good σ) {a b : Int32} {v : Int} (a0 : 0 ≤ a) (a1 : a < 7) (b0 : 0 ≤ b) (b1 : b < 7) (h : IsD σ 1000000 a b v) (hw : ∃ d, Wks σ a b d) : 0 ≤ v ∧ v ≤ 120 ∧ Wks σ a b v := by
  obtain ⟨d, hd⟩ := hw
  rcases h with ⟨c1, c2, c3⟩ | ⟨c1, c2⟩
  · obtain ⟨d', e1, e2⟩ := hd.short hG a0 a1 b0 b1
    have := c3 d' e1
    exact ⟨c2.b hG b0 b1, by omega, c2⟩
  · exact absurd hd (c2 d)
theorem IsD.self {σ : Int32 → Int32} (hG : Good σ) {a : Int32} {v : Int} (a0 : 0 ≤ a) (a1 : a < 7) (h : IsD σ 1000000 a a v) : v = 0 := by
  obtain ⟨h1, h2, h3⟩ := h.b hG a0 a1 a0 a1 ⟨0, Wks.nil⟩
  rcases h with ⟨c1, c2, c3⟩ | ⟨c1, c2⟩
  · have := c3 0 Wks.nil
    omega
  · exact absurd Wks.nil (c2 0)
