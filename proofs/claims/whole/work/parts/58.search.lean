/-! ===== the search over all sets: sets of those that wait, told by their places among them ===== -/
/-- how many letters ahead of place i wait in p -/
def wN (σ : Int32 → Int32) (p : Int32) (i : Nat) : Nat := (wL σ p i).length
theorem wN_1 {σ : Int32 → Int32} {p : Int32} {i : Nat} : wN σ p (i + 1) = if lt σ (nI i) 6 = p then wN σ p i + 1 else wN σ p i := by
  unfold wN
  show (if lt σ (nI i) 6 = p then wL σ p i ++ [nI i] else wL σ p i).length = _
  split
  · rw [List.length_append]
    rfl
  · rfl
theorem wN_le {σ : Int32 → Int32} {p : Int32} {i : Nat} : ∀ j, i ≤ j → wN σ p i ≤ wN σ p j := by
  intro j
  induction j with
  | zero =>
    intro h
    rw [show i = 0 by omega]
    exact Nat.le_refl _
  | succ j ih =>
    intro h
    by_cases e : i = j + 1
    · rw [e]
      exact Nat.le_refl _
    · have := ih (by omega)
      rw [wN_1]
      split <;> omega
/-- the set of letters that s tells -/
def dS (σ : Int32 → Int32) (p : Int32) (s : Nat) : Nat → Bool := fun i => decide (lt σ (nI i) 6 = p) && s.testBit (wN σ p i)
theorem dS_ok {σ : Int32 → Int32} {p : Int32} {s N : Nat} : okS σ p (dS σ p s) N := fun i _ h => by
  unfold dS at h
  rw [Bool.and_eq_true] at h
  exact of_decide_eq_true h.1
/-- the number of a set -/
def eS (σ : Int32 → Int32) (p : Int32) (S : Nat → Bool) : Nat → Nat
  | 0 => 0
  | n + 1 => if lt σ (nI n) 6 = p ∧ S n = true then 2 ^ wN σ p n + eS σ p S n else eS σ p S n
theorem eS_lt {σ : Int32 → Int32} {p : Int32} {S : Nat → Bool} : ∀ n, eS σ p S n < 2 ^ wN σ p n := by
  intro n
  induction n with
  | zero => exact Nat.one_pos
  | succ n ih =>
    unfold eS
    rw [wN_1]
    by_cases h : lt σ (nI n) 6 = p
    · rw [if_pos h, Nat.pow_succ]
      split <;> omega
    · rw [if_neg h, if_neg (fun z => h z.1)]
      exact ih
theorem eS_bit {σ : Int32 → Int32} {p : Int32} {S : Nat → Bool} : ∀ n i, i < n → lt σ (nI i) 6 = p → (eS σ p S n).testBit (wN σ p i) = S i := by
  intro n
  induction n with
  | zero => exact fun i h => absurd h (by omega)
  | succ n ih =>
    intro i hi hp
    unfold eS
    by_cases e : i = n
    · subst e
      have hlt := eS_lt (σ := σ) (p := p) (S := S) i
      by_cases hs : S i = true
      · rw [if_pos ⟨hp, hs⟩, Nat.testBit_two_pow_add_eq, Nat.testBit_lt_two_pow hlt, hs]
        rfl
      · rw [if_neg (fun z => hs z.2), Nat.testBit_lt_two_pow hlt]
        exact (Bool.eq_false_iff.mpr hs).symm
    · have h1 : wN σ p i < wN σ p n := by
        have a := wN_le (σ := σ) (p := p) (i := i + 1) n (by omega)
        rw [wN_1, if_pos hp] at a
        omega
      have h2 := ih i (by omega) hp
      split
      · rw [Nat.testBit_two_pow_add_gt h1, h2]
      · exact h2
theorem dS_eS {σ : Int32 → Int32} {p : Int32} {S : Nat → Bool} {N : Nat} (h : okS σ p S N) (i : Nat) (hi : i < N) : dS σ p (eS σ p S N) i = S i := by
  unfold dS
  by_cases hp : lt σ (nI i) 6 = p
  · rw [decide_eq_true hp, Bool.true_and, eS_bit N i hi hp]
  · rw [decide_eq_false hp, Bool.false_and]
    cases hs : S i with
    | false => rfl
    | true => exact absurd (h i hi hs) hp
/-- the sums over those that wait, as the reference makes them -/
def sumT (f : Int32 → Int32) (L : List Int32) (s : Nat) : Nat → Int32
  | 0 => 0
  | l + 1 => if s.testBit l = true then sumT f L s l + f (L.getD l 0) else sumT f L s l
theorem wL_get {σ : Int32 → Int32} {p : Int32} {i : Nat} (hp : lt σ (nI i) 6 = p) : ∀ N, i < N → (wL σ p N).getD (wN σ p i) 0 = nI i := by
  intro N
  induction N with
  | zero => exact fun h => absurd h (by omega)
  | succ N ih =>
    intro hi
    show (if lt σ (nI N) 6 = p then wL σ p N ++ [nI N] else wL σ p N).getD _ 0 = _
    by_cases e : i = N
    · subst e
      rw [if_pos hp, List.getD_eq_getElem?_getD]
      unfold wN
      rw [List.getElem?_append_right (Nat.le_refl _)]
      show ([nI i] : List Int32)[(wL σ p i).length - (wL σ p i).length]?.getD 0 = _
      rw [Nat.sub_self]
      rfl
    · have h1 : wN σ p i < (wL σ p N).length := by
        have a := wN_le (σ := σ) (p := p) (i := i + 1) N (by omega)
        rw [wN_1, if_pos hp] at a
        show _ < wN σ p N
        omega
      have h2 := ih (by omega)
      split
      · rw [List.getD_eq_getElem?_getD, List.getElem?_append_left h1, ← List.getD_eq_getElem?_getD]
        exact h2
      · exact h2
/-- a sum over the letters of a set -/
def sS (f : Int32 → Int32) (S : Nat → Bool) : Nat → Int32
  | 0 => 0
  | n + 1 => if S n = true then sS f S n + f (nI n) else sS f S n
theorem sumT_S {σ : Int32 → Int32} {p : Int32} {f : Int32 → Int32} {s N : Nat} : ∀ n, n ≤ N → sumT f (wL σ p N) s (wN σ p n) = sS f (dS σ p s) n := by
  intro n
  induction n with
  | zero => exact fun _ => rfl
  | succ n ih =>
    intro hn
    have e := ih (by omega)
    have hd : dS σ p s n = (decide (lt σ (nI n) 6 = p) && s.testBit (wN σ p n)) := rfl
    rw [wN_1]
    by_cases hp : lt σ (nI n) 6 = p
    · rw [if_pos hp]
      rw [decide_eq_true hp, Bool.true_and] at hd
      show (if s.testBit (wN σ p n) = true then sumT f (wL σ p N) s (wN σ p n) + f ((wL σ p N).getD (wN σ p n) 0) else sumT f (wL σ p N) s (wN σ p n)) = (if dS σ p s n = true then _ + f (nI n) else _)
      rw [wL_get hp N (by omega), e, hd]
    · rw [if_neg hp, e]
      rw [decide_eq_false hp, Bool.false_and] at hd
      show _ = (if dS σ p s n = true then _ else _)
      rw [hd, if_neg (by decide)]
theorem sS_w {σ : Int32 → Int32} {S : Nat → Bool} : ∀ n, LB σ n → (sS (fun i => lt σ i 2) S n).toInt = wS σ S n ∧ (sS (fun i => lt σ i 3) S n).toInt = fS σ S n := by
  intro n
  induction n with
  | zero => exact fun _ => ⟨rfl, rfl⟩
  | succ n ih =>
    intro h
    obtain ⟨a, b⟩ := ih h.dn
    obtain ⟨⟨c1, c2⟩, c3, c4⟩ := wf_b (S := S) n h.dn
    obtain ⟨y1, y2, y3, y4⟩ := h.2 n (by omega)
    have h12 := h.1
    rw [wS_1, fS_1]
    show (if S n = true then sS (fun i => lt σ i 2) S n + lt σ (nI n) 2 else sS (fun i => lt σ i 2) S n).toInt = _ ∧ (if S n = true then sS (fun i => lt σ i 3) S n + lt σ (nI n) 3 else sS (fun i => lt σ i 3) S n).toInt = _
    by_cases e : S n = true
    · rw [if_pos e, if_pos e, if_pos e, if_pos e]
      constructor
      · rw [i_add] <;> rw [a] <;> omega
      · rw [i_add] <;> rw [b] <;> omega
    · rw [if_neg e, if_neg e, if_neg e, if_neg e, a, b]
      constructor <;> omega
/-- two sets: the first place where they differ decides -/
theorem bS_up {S : Nat → Bool} {n : Nat} : ∀ m, n ≤ m → m ≤ 12 → bS S n ≤ bS S m ∧ bS S m + ((2 ^ (12 - m) : Nat) : Int) ≤ bS S n + ((2 ^ (12 - n) : Nat) : Int) := by
  intro m
  induction m with
  | zero =>
    intro h _
    rw [show n = 0 by omega]
    exact ⟨Int.le_refl _, Int.le_refl _⟩
  | succ m ih =>
    intro h h12
    by_cases e : n = m + 1
    · rw [e]
      exact ⟨Int.le_refl _, Int.le_refl _⟩
    · obtain ⟨a, b⟩ := ih (by omega) (by omega)
      obtain ⟨e1, e2⟩ := p2_le m (by omega)
      rw [bS_1, e2]
      generalize 2 ^ (11 - m) = x at *
      generalize 2 ^ (12 - m) = z at *
      generalize 2 ^ (12 - n) = u at *
      constructor
      · split <;> omega
      · split <;> omega
theorem bS_first {S T : Nat → Bool} {i N : Nat} (hi : i < N) (hN : N ≤ 12) (h : ∀ j, j < i → S j = T j) (hS : S i = true) (hT : ¬ T i = true) : bS T N < bS S N := by
  have e := (S_cg (σ := fun _ => 0) i h).2.2
  have a := (bS_up (S := S) (n := i + 1) N (by omega) hN).1
  have b := (bS_up (S := T) (n := i + 1) N (by omega) hN).2
  obtain ⟨e1, e2⟩ := p2_le i (by omega)
  have p : 0 < 2 ^ (12 - N) := Nat.two_pow_pos _
  rw [bS_1, if_pos hS] at a
  rw [bS_1, if_neg hT, e2] at b
  generalize 2 ^ (11 - i) = x at *
  generalize 2 ^ (12 - N) = z at *
  omega
theorem lowB' : ∀ a, a < 64 → ∀ b, b < 64 → 64 * a + b = 0 ∨ ∃ d, d < 12 ∧ (nI (64 * a + b) &&& -(nI (64 * a + b)) = nI (2 ^ d)) ∧ (64 * a + b).testBit d = true ∧ ∀ l, l < d → (64 * a + b).testBit l = false := by decide +kernel
theorem lowB {x : Nat} (h : x < 4096) (h0 : ¬ x = 0) : ∃ d, d < 12 ∧ (nI x &&& -(nI x) = nI (2 ^ d)) ∧ x.testBit d = true ∧ ∀ l, l < d → x.testBit l = false := by
  have q := lowB' (x / 64) (by omega) (x % 64) (by omega)
  rw [show 64 * (x / 64) + x % 64 = x by omega] at q
  exact q.resolve_left h0
theorem nI_xor {s t : Nat} (hs : s < 4096) (ht : t < 4096) : nI s ^^^ nI t = nI (s ^^^ t) := by
  have hx : s ^^^ t < 2 ^ 12 := Nat.xor_lt_two_pow (n := 12) hs ht
  apply Int32.toBitVec_inj.mp
  show BitVec.ofNat 32 s ^^^ BitVec.ofNat 32 t = BitVec.ofNat 32 (s ^^^ t)
  apply BitVec.eq_of_toNat_eq
  rw [BitVec.toNat_xor, BitVec.toNat_ofNat, BitVec.toNat_ofNat, BitVec.toNat_ofNat, Nat.mod_eq_of_lt (by omega), Nat.mod_eq_of_lt (by omega), Nat.mod_eq_of_lt (by omega)]
theorem and_p2 {s d : Nat} (hs : s < 4096) (hd : d < 12) : nI s &&& nI (2 ^ d) = 0 ↔ s.testBit d = false := by
  have q : ∀ d, d < 12 → 2 ^ d < 4096 := by decide
  have qd := q d hd
  have e : (nI s &&& nI (2 ^ d)).toBitVec.toNat = s &&& 2 ^ d := by
    show (BitVec.ofNat 32 s &&& BitVec.ofNat 32 (2 ^ d)).toNat = _
    rw [BitVec.toNat_and, BitVec.toNat_ofNat, BitVec.toNat_ofNat, Nat.mod_eq_of_lt (by omega), Nat.mod_eq_of_lt (by omega)]
  constructor
  · intro h
    rw [h] at e
    have h2 := congrArg (fun x => x.testBit d) e.symm
    rw [Nat.testBit_and, Nat.testBit_two_pow_self, Bool.and_true] at h2
    exact h2.trans (Nat.zero_testBit d)
  · intro h
    have e3 : s &&& 2 ^ d = 0 := by
      refine Nat.eq_of_testBit_eq (fun t => ?_)
      rw [Nat.testBit_and, Nat.testBit_two_pow, Nat.zero_testBit]
      by_cases z : d = t
      · rw [← z, h, Bool.false_and]
      · rw [decide_eq_false z, Bool.and_false]
    rw [e3] at e
    exact Int32.toBitVec_inj.mp (BitVec.eq_of_toNat_eq e)
/-- the reference's choice between two sets of the same fee and weight -/
theorem pick {σ : Int32 → Int32} {p : Int32} {s t N : Nat} (hN : N ≤ 12) (hs : s < 2 ^ wN σ p N) (ht : t < 2 ^ wN σ p N) (hst : ¬ s = t) : ((nI s &&& (nI s ^^^ nI t)) &&& -(nI s ^^^ nI t) = 0 → bS (dS σ p s) N < bS (dS σ p t) N) ∧ (¬ (nI s &&& (nI s ^^^ nI t)) &&& -(nI s ^^^ nI t) = 0 → bS (dS σ p t) N < bS (dS σ p s) N) := by
  have hw : wN σ p N ≤ 12 := Nat.le_trans (wL_len N) hN
  have h12 : 2 ^ wN σ p N ≤ 4096 := (Nat.pow_le_pow_right (by decide) hw : 2 ^ wN σ p N ≤ 2 ^ 12)
  have hx : s ^^^ t < 2 ^ wN σ p N := Nat.xor_lt_two_pow hs ht
  have hx0 : ¬ s ^^^ t = 0 := fun z => hst (by
    refine Nat.eq_of_testBit_eq (fun l => ?_)
    have := congrArg (fun y => y.testBit l) z
    rw [Nat.testBit_xor, Nat.zero_testBit] at this
    cases h1 : s.testBit l <;> cases h2 : t.testBit l <;> rw [h1, h2] at this <;> simp_all)
  obtain ⟨d, d12, hd1, hd2, hd3⟩ := lowB (x := s ^^^ t) (by omega) hx0
  have hdw : d < wN σ p N := by
    refine Nat.lt_of_not_le (fun z => ?_)
    have := Nat.testBit_lt_two_pow (Nat.lt_of_lt_of_le hx (Nat.pow_le_pow_right (by decide) z))
    rw [this] at hd2
    exact absurd hd2 (by decide)
  have hA : (nI s &&& (nI s ^^^ nI t)) &&& -(nI s ^^^ nI t) = nI s &&& nI (2 ^ d) := by
    rw [Int32.and_assoc, nI_xor (by omega) (by omega), hd1]
  rw [hA]
  have hiff := and_p2 (s := s) (d := d) (by omega) d12
  -- the place of the d-th that waits
  have hpos : ∀ M, M ≤ N → d < wN σ p M → ∃ i, i < M ∧ lt σ (nI i) 6 = p ∧ wN σ p i = d := by
    intro M
    induction M with
    | zero => exact fun _ h => absurd h (by show ¬ d < 0; omega)
    | succ M ih =>
      intro hM h
      by_cases q : d < wN σ p M
      · obtain ⟨i, i1, i2, i3⟩ := ih (by omega) q
        exact ⟨i, by omega, i2, i3⟩
      · rw [wN_1] at h
        by_cases hp : lt σ (nI M) 6 = p
        · rw [if_pos hp] at h
          exact ⟨M, by omega, hp, by omega⟩
        · rw [if_neg hp] at h
          exact absurd h q
  obtain ⟨i, i1, i2, i3⟩ := hpos N (Nat.le_refl N) hdw
  have heq : ∀ j, j < i → dS σ p s j = dS σ p t j := by
    intro j hj
    unfold dS
    by_cases hp : lt σ (nI j) 6 = p
    · have h1 : wN σ p j < d := by
        have a := wN_le (σ := σ) (p := p) (i := j + 1) i (by omega)
        rw [wN_1, if_pos hp] at a
        omega
      have h2 := hd3 _ h1
      rw [Nat.testBit_xor] at h2
      have h4 : s.testBit (wN σ p j) = t.testBit (wN σ p j) := by
        cases ha : s.testBit (wN σ p j) <;> cases hb : t.testBit (wN σ p j) <;> rw [ha, hb] at h2 <;> simp_all
      rw [h4]
    · rw [decide_eq_false hp, Bool.false_and, Bool.false_and]
  have hsi : dS σ p s i = s.testBit d := by
    unfold dS
    rw [decide_eq_true i2, Bool.true_and, i3]
  have hti : dS σ p t i = t.testBit d := by
    unfold dS
    rw [decide_eq_true i2, Bool.true_and, i3]
  rw [Nat.testBit_xor] at hd2
  constructor
  · intro h
    have hf := hiff.mp h
    rw [hf, Bool.false_xor] at hd2
    exact bS_first i1 hN (fun j hj => (heq j hj).symm) (by rw [hti]; exact hd2) (by rw [hsi, hf]; decide)
  · intro h
    have hf : s.testBit d = true := by
      cases hq : s.testBit d with
      | true => rfl
      | false => exact absurd (hiff.mpr hq) h
    rw [hf, Bool.true_xor] at hd2
    exact bS_first i1 hN heq (by rw [hsi]; exact hf) (by rw [hti]; intro z; rw [z] at hd2; exact absurd hd2 (by decide))
