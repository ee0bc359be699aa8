/-! ===== the best load: what the table's ranks mean ===== -/
theorem i_mul {a b : Int32} (h : -2147483648 ≤ a.toInt * b.toInt) (h2 : a.toInt * b.toInt < 2147483648) : (a * b).toInt = a.toInt * b.toInt := by
  rw [Int32.toInt_mul]
  exact Int.bmod_eq_of_le (by omega) (by omega)
/-- the weights, the fees, the place bits, the ranks of the letters below n that are in S -/
def wS (σ : Int32 → Int32) (S : Nat → Bool) : Nat → Int
  | 0 => 0
  | n + 1 => wS σ S n + if S n = true then (lt σ (nI n) 2).toInt else 0
def fS (σ : Int32 → Int32) (S : Nat → Bool) : Nat → Int
  | 0 => 0
  | n + 1 => fS σ S n + if S n = true then (lt σ (nI n) 3).toInt else 0
def bS (S : Nat → Bool) : Nat → Int
  | 0 => 0
  | n + 1 => bS S n + if S n = true then ((2 ^ (11 - n) : Nat) : Int) else 0
theorem wS_1 {σ : Int32 → Int32} {S : Nat → Bool} {n : Nat} : wS σ S (n + 1) = wS σ S n + if S n = true then (lt σ (nI n) 2).toInt else 0 := rfl
theorem fS_1 {σ : Int32 → Int32} {S : Nat → Bool} {n : Nat} : fS σ S (n + 1) = fS σ S n + if S n = true then (lt σ (nI n) 3).toInt else 0 := rfl
theorem bS_1 {S : Nat → Bool} {n : Nat} : bS S (n + 1) = bS S n + if S n = true then ((2 ^ (11 - n) : Nat) : Int) else 0 := rfl
def rS (σ : Int32 → Int32) (S : Nat → Bool) (n : Nat) : Int := 524288 * fS σ S n - 4096 * wS σ S n + bS S n
theorem S_cg {σ : Int32 → Int32} {S S' : Nat → Bool} : ∀ n : Nat, (∀ i, i < n → S i = S' i) → wS σ S n = wS σ S' n ∧ fS σ S n = fS σ S' n ∧ bS S n = bS S' n := by
  intro n
  induction n with
  | zero => exact fun _ => ⟨rfl, rfl, rfl⟩
  | succ n ih =>
    intro h
    obtain ⟨a, b, c⟩ := ih (fun i hi => h i (by omega))
    have e := h n (by omega)
    rw [wS_1, fS_1, bS_1, wS_1, fS_1, bS_1, a, b, c, e]
    exact ⟨rfl, rfl, rfl⟩
theorem rS_cg {σ : Int32 → Int32} {S S' : Nat → Bool} {n : Nat} (h : ∀ i, i < n → S i = S' i) : rS σ S n = rS σ S' n := by
  obtain ⟨a, b, c⟩ := S_cg (σ := σ) n h
  unfold rS
  rw [a, b, c]
theorem p2_le : ∀ n, n < 12 → 2 ^ (11 - n) + 2 ^ (11 - n) = 2 ^ (12 - n) ∧ 2 ^ (12 - (n + 1)) = 2 ^ (11 - n) := by decide
theorem bS_b {S : Nat → Bool} : ∀ n : Nat, n ≤ 12 → 0 ≤ bS S n ∧ bS S n + ((2 ^ (12 - n) : Nat) : Int) ≤ 4096 := by
  intro n
  induction n with
  | zero => exact fun _ => ⟨Int.le_refl 0, Int.le_refl 4096⟩
  | succ n ih =>
    intro h
    obtain ⟨a, b⟩ := ih (by omega)
    obtain ⟨e1, e2⟩ := p2_le n (by omega)
    rw [bS_1, e2]
    generalize hx : 2 ^ (11 - n) = x at *
    generalize hz : 2 ^ (12 - n) = z at *
    clear hx hz
    constructor
    · split <;> omega
    · split <;> omega
/-- the letters' words, as far as ranks need them -/
def LB (σ : Int32 → Int32) (n : Nat) : Prop := n ≤ 12 ∧ ∀ i : Nat, i < n → 1 ≤ (lt σ (nI i) 2).toInt ∧ (lt σ (nI i) 2).toInt ≤ 9 ∧ 0 ≤ (lt σ (nI i) 3).toInt ∧ (lt σ (nI i) 3).toInt ≤ 99
theorem Good.LB {σ : Int32 → Int32} (h : Good σ) : LB σ (σ 7).toNatClampNeg := by
  obtain ⟨g1, g2, g3, g4, g5, g6, g7, g8, gL, -⟩ := h
  refine ⟨tc_le g6, fun i hi => ?_⟩
  obtain ⟨a, b, -⟩ := nI_below g6 hi
  obtain ⟨z1, z2, z3, z4, z5, z6, -⟩ := gL _ a b
  exact ⟨i_le.mp z3, i_le.mp z4, i_le.mp z5, i_le.mp z6⟩
theorem LB.dn {σ : Int32 → Int32} {n : Nat} (h : LB σ (n + 1)) : LB σ n := ⟨by have := h.1; omega, fun i hi => h.2 i (by omega)⟩
theorem wf_b {σ : Int32 → Int32} {S : Nat → Bool} : ∀ n : Nat, LB σ n → (0 ≤ wS σ S n ∧ wS σ S n ≤ 9 * n) ∧ 0 ≤ fS σ S n ∧ fS σ S n ≤ 99 * n := by
  intro n
  induction n with
  | zero => exact fun _ => ⟨⟨Int.le_refl 0, Int.le_refl 0⟩, Int.le_refl 0, Int.le_refl 0⟩
  | succ n ih =>
    intro h
    obtain ⟨⟨a, b⟩, c, d⟩ := ih h.dn
    obtain ⟨y1, y2, y3, y4⟩ := h.2 n (by omega)
    rw [wS_1, fS_1]
    refine ⟨⟨?_, ?_⟩, ?_, ?_⟩ <;> split <;> omega
theorem rS_b {σ : Int32 → Int32} {S : Nat → Bool} {n : Nat} (h : LB σ n) : -500000 ≤ rS σ S n ∧ rS σ S n ≤ 700000000 := by
  obtain ⟨⟨a, b⟩, c, d⟩ := wf_b (S := S) n h
  obtain ⟨e, f⟩ := bS_b (S := S) n h.1
  have h12 := h.1
  unfold rS
  generalize wS σ S n = x at *
  generalize fS σ S n = y at *
  generalize bS S n = z at *
  have p : 0 ≤ ((2 ^ (12 - n) : Nat) : Int) := Int.natCast_nonneg _
  generalize ((2 ^ (12 - n) : Nat) : Int) = u at *
  constructor <;> omega
theorem sb_11 : ∀ n, n < 12 → (sbit (11 - nI n)).toInt = ((2 ^ (11 - n) : Nat) : Int) := by decide +kernel
theorem rk_int {σ : Int32 → Int32} {n : Nat} (h : LB σ (n + 1)) : (rkI σ (nI n)).toInt = 524288 * (lt σ (nI n) 3).toInt - 4096 * (lt σ (nI n) 2).toInt + ((2 ^ (11 - n) : Nat) : Int) := by
  obtain ⟨y1, y2, y3, y4⟩ := h.2 n (by omega)
  have hn := h.1
  have e1 : (524288 : Int32).toInt = 524288 := rfl
  have e2 : (4096 : Int32).toInt = 4096 := rfl
  have m1 : (lt σ (nI n) 3 * 524288).toInt = (lt σ (nI n) 3).toInt * 524288 := by
    rw [i_mul] <;> rw [e1] <;> omega
  have m2 : (lt σ (nI n) 2 * 4096).toInt = (lt σ (nI n) 2).toInt * 4096 := by
    rw [i_mul] <;> rw [e2] <;> omega
  have m3 : (lt σ (nI n) 3 * 524288 - lt σ (nI n) 2 * 4096).toInt = (lt σ (nI n) 3).toInt * 524288 - (lt σ (nI n) 2).toInt * 4096 := by
    rw [i_sub] <;> rw [m1, m2] <;> omega
  have b := bS_b (S := fun _ => true) (n + 1) hn
  have p : 0 < ((2 ^ (11 - n) : Nat) : Int) ∧ ((2 ^ (11 - n) : Nat) : Int) ≤ 2048 := by
    have q : ∀ n, n < 12 → 0 < 2 ^ (11 - n) ∧ 2 ^ (11 - n) ≤ 2048 := by decide
    have := q n (by omega)
    omega
  have m4 := sb_11 n (by omega)
  unfold rkI
  rw [i_add] <;> rw [m3, m4] <;> omega
theorem mx_int {x z : Int32} : (mxI x z).toInt = if x.toInt < z.toInt then z.toInt else x.toInt := by
  unfold mxI
  by_cases h : x < z
  · rw [if_pos h, if_pos (i_lt.mp h)]
  · rw [if_neg h, if_neg (fun q => h (i_lt.mpr q))]
/-- S holds letters of st alone -/
def okS (σ : Int32 → Int32) (st : Int32) (S : Nat → Bool) (n : Nat) : Prop := ∀ i, i < n → S i = true → lt σ (nI i) 6 = st
def upS (S : Nat → Bool) (n : Nat) (b : Bool) : Nat → Bool := fun i => if i = n then b else S i
theorem up_b {S : Nat → Bool} {n : Nat} {b : Bool} : ∀ i, i < n → upS S n b i = S i := fun i hi => if_neg (by omega)
theorem up_n {S : Nat → Bool} {n : Nat} {b : Bool} : upS S n b n = b := if_pos rfl
theorem up_1 {σ : Int32 → Int32} {S : Nat → Bool} {n : Nat} : wS σ (upS S n true) (n + 1) = wS σ S n + (lt σ (nI n) 2).toInt ∧ rS σ (upS S n true) (n + 1) = rS σ S n + (524288 * (lt σ (nI n) 3).toInt - 4096 * (lt σ (nI n) 2).toInt + ((2 ^ (11 - n) : Nat) : Int)) := by
  obtain ⟨a, b, c⟩ := S_cg (σ := σ) n (up_b (S := S) (n := n) (b := true))
  unfold rS
  rw [wS_1, fS_1, bS_1]
  rw [a, b, c, up_n, if_pos rfl, if_pos rfl, if_pos rfl]
  constructor <;> omega
theorem up_0 {σ : Int32 → Int32} {S : Nat → Bool} {n : Nat} : wS σ (upS S n false) (n + 1) = wS σ S n ∧ rS σ (upS S n false) (n + 1) = rS σ S n := by
  obtain ⟨a, b, c⟩ := S_cg (σ := σ) n (up_b (S := S) (n := n) (b := false))
  unfold rS
  rw [wS_1, fS_1, bS_1]
  rw [a, b, c, up_n, if_neg (by decide), if_neg (by decide), if_neg (by decide)]
  constructor <;> omega
theorem ok_0 {σ : Int32 → Int32} {st : Int32} {S : Nat → Bool} {n : Nat} (h : okS σ st S n) : okS σ st (upS S n false) (n + 1) := fun i hi hs => by
  by_cases e : i = n
  · rw [e, up_n] at hs
    exact absurd hs (by decide)
  · rw [up_b i (by omega)] at hs
    exact h i (by omega) hs
theorem ok_1 {σ : Int32 → Int32} {st : Int32} {S : Nat → Bool} {n : Nat} (h : okS σ st S n) (hn : lt σ (nI n) 6 = st) : okS σ st (upS S n true) (n + 1) := fun i hi hs => by
  by_cases e : i = n
  · rw [e]
    exact hn
  · rw [up_b i (by omega)] at hs
    exact h i (by omega) hs
theorem ok_d {σ : Int32 → Int32} {st : Int32} {S : Nat → Bool} {n : Nat} (h : okS σ st S (n + 1)) : okS σ st S n := fun i hi hs => h i (by omega) hs
/-- the table holds the highest rank of a set that weighs no more -/
theorem bI_best {σ : Int32 → Int32} {st : Int32} : ∀ n : Nat, LB σ n → ∀ w : Int32, 0 ≤ w → w ≤ 30 → (∃ S, okS σ st S n ∧ wS σ S n ≤ w.toInt ∧ (bI σ st n w).toInt = rS σ S n) ∧ ∀ S, okS σ st S n → wS σ S n ≤ w.toInt → rS σ S n ≤ (bI σ st n w).toInt := by
  intro n
  induction n with
  | zero =>
    intro _ w w0 w1
    rw [i_le, i_0] at w0
    exact ⟨⟨fun _ => false, fun i hi => absurd hi (by omega), w0, rfl⟩, fun S _ _ => Int.le_refl 0⟩
  | succ n ih =>
    intro h w w0 w1
    have ih' := ih h.dn
    obtain ⟨y1, y2, y3, y4⟩ := h.2 n (by omega)
    have hk := rk_int h
    have e30 : (30 : Int32).toInt = 30 := rfl
    have W0 := i_le.mp w0
    have W1 := i_le.mp w1
    rw [i_0] at W0
    rw [e30] at W1
    obtain ⟨⟨S0, a1, a2, a3⟩, a4⟩ := ih' w w0 w1
    show (∃ S, _ ∧ _ ∧ (if lt σ (nI n) 6 = st then ofN σ (nI n) (bI σ st n) w else bI σ st n w).toInt = _) ∧ ∀ S, _ → _ → _ ≤ (if lt σ (nI n) 6 = st then ofN σ (nI n) (bI σ st n) w else bI σ st n w).toInt
    have keep : ∀ S, okS σ st S (n + 1) → wS σ S (n + 1) ≤ w.toInt → ¬ S n = true → rS σ S (n + 1) ≤ (bI σ st n w).toInt := fun S s1 s2 s3 => by
      have e1 : wS σ S (n + 1) = wS σ S n := by
        rw [wS_1]
        rw [if_neg s3, Int.add_zero]
      have e2 : rS σ S (n + 1) = rS σ S n := by
        unfold rS
        rw [wS_1, fS_1, bS_1]
        rw [if_neg s3, if_neg s3, if_neg s3]
        omega
      rw [e2]
      exact a4 S (ok_d s1) (by omega)
    by_cases hn : lt σ (nI n) 6 = st
    · rw [if_pos hn]
      unfold ofN
      by_cases hw : lt σ (nI n) 2 ≤ w
      · rw [if_pos hw]
        have hw2 := i_le.mp hw
        have ew : (w - lt σ (nI n) 2).toInt = w.toInt - (lt σ (nI n) 2).toInt := by rw [i_sub] <;> omega
        obtain ⟨⟨S1, b1, b2, b3⟩, b4⟩ := ih' (w - lt σ (nI n) 2) (by rw [i_le, i_0, ew]; omega) (by rw [i_le, e30, ew]; omega)
        have rb := rS_b (S := S1) h.dn
        have p : 0 < ((2 ^ (11 - n) : Nat) : Int) ∧ ((2 ^ (11 - n) : Nat) : Int) ≤ 2048 := by
          have q : ∀ n, n < 12 → 0 < 2 ^ (11 - n) ∧ 2 ^ (11 - n) ≤ 2048 := by decide
          have h1 := h.1
          have := q n (by omega)
          omega
        have es : (bI σ st n (w - lt σ (nI n) 2) + rkI σ (nI n)).toInt = rS σ S1 n + (rkI σ (nI n)).toInt := by
          rw [i_add] <;> rw [b3] <;> omega
        rw [mx_int, es]
        constructor
        · by_cases q : (bI σ st n w).toInt < rS σ S1 n + (rkI σ (nI n)).toInt
          · rw [if_pos q]
            obtain ⟨u1, u2⟩ := up_1 (σ := σ) (S := S1) (n := n)
            exact ⟨upS S1 n true, ok_1 b1 hn, by omega, by omega⟩
          · rw [if_neg q]
            obtain ⟨u1, u2⟩ := up_0 (σ := σ) (S := S0) (n := n)
            exact ⟨upS S0 n false, ok_0 a1, by omega, by omega⟩
        · intro S s1 s2
          by_cases s3 : S n = true
          · have e1 : wS σ S (n + 1) = wS σ S n + (lt σ (nI n) 2).toInt := by
              rw [wS_1]
              rw [if_pos s3]
            have e2 : rS σ S (n + 1) = rS σ S n + (rkI σ (nI n)).toInt := by
              unfold rS
              rw [wS_1, fS_1, bS_1]
              rw [if_pos s3, if_pos s3, if_pos s3]
              omega
            have := b4 S (ok_d s1) (by omega)
            split <;> omega
          · have := keep S s1 s2 s3
            split <;> omega
      · rw [if_neg hw]
        have hw2 : w.toInt < (lt σ (nI n) 2).toInt := by
          rw [i_le] at hw
          omega
        obtain ⟨u1, u2⟩ := up_0 (σ := σ) (S := S0) (n := n)
        refine ⟨⟨upS S0 n false, ok_0 a1, by omega, by omega⟩, fun S s1 s2 => ?_⟩
        by_cases s3 : S n = true
        · exfalso
          have e1 : wS σ S (n + 1) = wS σ S n + (lt σ (nI n) 2).toInt := by
            rw [wS_1]
            rw [if_pos s3]
          have := (wf_b (S := S) n h.dn).1.1
          omega
        · exact keep S s1 s2 s3
    · rw [if_neg hn]
      obtain ⟨u1, u2⟩ := up_0 (σ := σ) (S := S0) (n := n)
      refine ⟨⟨upS S0 n false, ok_0 a1, by omega, by omega⟩, fun S s1 s2 => ?_⟩
      exact keep S s1 s2 (fun s3 => hn (s1 n (by omega) s3))
/-- the bits of a rank tell its set -/
theorem sb_12 : ∀ k, k < 12 → sbit (11 - nI k) = Int32.ofBitVec (BitVec.ofNat 32 (2 ^ (11 - k))) := by decide +kernel
theorem and_b : ∀ j, j < 4096 → ∀ k, k < 12 → (nI j &&& sbit (11 - nI k) = 0 ↔ j / 2 ^ (11 - k) % 2 = 0) := by
  intro j hj k hk
  rw [sb_12 k hk]
  have q : ∀ k, k < 12 → 2 ^ (11 - k) < 4294967296 ∧ 0 < 2 ^ (11 - k) := by decide
  obtain ⟨q1, q2⟩ := q k hk
  have e : (nI j &&& Int32.ofBitVec (BitVec.ofNat 32 (2 ^ (11 - k)))).toBitVec.toNat = j &&& 2 ^ (11 - k) := by
    show (BitVec.ofNat 32 j &&& BitVec.ofNat 32 (2 ^ (11 - k))).toNat = _
    rw [BitVec.toNat_and, BitVec.toNat_ofNat, BitVec.toNat_ofNat, Nat.mod_eq_of_lt (by omega : j < 2 ^ 32), Nat.mod_eq_of_lt (by exact q1)]
  have e2 : (nI j &&& Int32.ofBitVec (BitVec.ofNat 32 (2 ^ (11 - k))) = 0) ↔ j &&& 2 ^ (11 - k) = 0 := by
    rw [← e]
    constructor
    · intro h
      rw [h]
      rfl
    · intro h
      exact Int32.toBitVec_inj.mp (BitVec.eq_of_toNat_eq h)
  have e3 : (j &&& 2 ^ (11 - k) = 0) ↔ j.testBit (11 - k) = false := by
    constructor
    · intro h
      have h2 := congrArg (fun x => x.testBit (11 - k)) h
      rw [Nat.testBit_and, Nat.testBit_two_pow_self, Nat.zero_testBit, Bool.and_true] at h2
      exact h2
    · intro h
      refine Nat.eq_of_testBit_eq (fun t => ?_)
      rw [Nat.testBit_and, Nat.testBit_two_pow, Nat.zero_testBit]
      by_cases z : 11 - k = t
      · rw [← z, h, Bool.false_and]
      · rw [decide_eq_false z, Bool.and_false]
  rw [e2, e3, Nat.testBit_eq_decide_div_mod_eq]
  have m : j / 2 ^ (11 - k) % 2 < 2 := Nat.mod_lt _ (by decide)
  by_cases h : j / 2 ^ (11 - k) % 2 = 1
  · rw [decide_eq_true h, h]
    decide
  · rw [decide_eq_false h]
    exact ⟨fun _ => by omega, fun _ => rfl⟩
def bN (S : Nat → Bool) : Nat → Nat
  | 0 => 0
  | n + 1 => bN S n + if S n = true then 2 ^ (11 - n) else 0
theorem bN_int {S : Nat → Bool} : ∀ n, bS S n = (bN S n : Int) := by
  intro n
  induction n with
  | zero => rfl
  | succ n ih =>
    rw [bS_1, ih]
    show _ = ((bN S n + if S n = true then 2 ^ (11 - n) else 0 : Nat) : Int)
    by_cases h : S n = true
    · rw [if_pos h, if_pos h]
      rfl
    · rw [if_neg h, if_neg h]
      rfl
theorem bN_dv {S : Nat → Bool} : ∀ n, n ≤ 12 → bN S n % 2 ^ (12 - n) = 0 := by
  intro n
  induction n with
  | zero => exact fun _ => rfl
  | succ n ih =>
    intro h
    have a := ih (by omega)
    have e : ∀ n, n < 12 → 2 ^ (12 - n) = 2 ^ (11 - n) * 2 ∧ 12 - (n + 1) = 11 - n := by decide
    obtain ⟨e1, e2⟩ := e n (by omega)
    unfold bN
    rw [e2]
    rw [e1] at a
    have d := Nat.dvd_of_mod_eq_zero a
    have d2 : 2 ^ (11 - n) ∣ bN S n := Nat.dvd_trans (Nat.dvd_mul_right _ 2) d
    apply Nat.mod_eq_zero_of_dvd
    split
    · exact Nat.dvd_add d2 (Nat.dvd_refl _)
    · exact Nat.dvd_add d2 (Nat.dvd_zero _)
theorem bN_bit {S : Nat → Bool} : ∀ n, n ≤ 12 → ∀ i, i < n → (bN S n / 2 ^ (11 - i) % 2 = 0 ↔ ¬ S i = true) := by
  intro n
  induction n with
  | zero => exact fun _ i hi => absurd hi (by omega)
  | succ n ih =>
    intro h i hi
    have dv := bN_dv (S := S) n (by omega)
    have e : ∀ n, n < 12 → 2 ^ (12 - n) = 2 ^ (11 - n) * 2 ∧ 0 < 2 ^ (11 - n) := by decide
    obtain ⟨e1, e2⟩ := e n (by omega)
    rw [e1] at dv
    obtain ⟨c, hc⟩ := Nat.dvd_of_mod_eq_zero dv
    unfold bN
    by_cases hin : i = n
    · subst hin
      rw [hc]
      by_cases hs : S i = true
      · rw [if_pos hs, show 2 ^ (11 - i) * 2 * c + 2 ^ (11 - i) = 2 ^ (11 - i) * (2 * c + 1) by rw [Nat.mul_add, Nat.mul_one, Nat.mul_assoc], Nat.mul_div_cancel_left _ e2]
        constructor
        · intro q
          omega
        · exact fun q => absurd hs q
      · rw [if_neg hs, Nat.add_zero, Nat.mul_assoc, Nat.mul_div_cancel_left _ e2]
        constructor
        · exact fun _ => hs
        · intro _
          omega
    · have hlt : i < n := by omega
      rw [← ih (by omega) i hlt]
      have f : ∀ n, n < 12 → ∀ i, i < n → 2 ^ (11 - i) = 2 ^ (11 - n) * 2 ^ (n - i) ∧ 2 ^ (n - i) = 2 * 2 ^ (n - i - 1) ∧ 0 < 2 ^ (n - i - 1) := by decide
      obtain ⟨f1, f2, f3⟩ := f n (by omega) i hlt
      have q : ∀ x : Nat, x ≤ 1 → (2 ^ (11 - n) * 2 * c + x * 2 ^ (11 - n)) / 2 ^ (11 - i) = c / 2 ^ (n - i - 1) := fun x hx => by
        rw [f1, ← Nat.div_div_eq_div_mul, show 2 ^ (11 - n) * 2 * c + x * 2 ^ (11 - n) = 2 ^ (11 - n) * (2 * c + x) by rw [Nat.mul_add, Nat.mul_assoc, Nat.mul_comm x], Nat.mul_div_cancel_left _ e2, f2, ← Nat.div_div_eq_div_mul]
        congr 1
        omega
      rw [hc]
      have q0 := q 0 (by omega)
      have q1 := q 1 (by omega)
      rw [Nat.zero_mul, Nat.add_zero] at q0
      rw [Nat.one_mul] at q1
      split
      · rw [q0, q1]
      · rw [Nat.add_zero]
/-- the lowest twelve bits of a rank -/
theorem and_12 {x : Int32} {F : Int} {B : Nat} (h : x.toInt = 4096 * F + B) (hB : B < 4096) : x &&& 4095 = nI B := by
  have hx : x = Int32.ofInt (4096 * F + B) := by rw [← h, Int32.ofInt_toInt]
  have e : x.toBitVec = BitVec.ofInt 32 (4096 * F + B) := by rw [hx]; rfl
  have key : (x &&& 4095).toBitVec = (nI B).toBitVec := by
    show x.toBitVec &&& 4095#32 = BitVec.ofNat 32 B
    rw [e]
    apply BitVec.eq_of_toNat_eq
    rw [BitVec.toNat_and]
    show (BitVec.ofInt 32 (4096 * F + B)).toNat &&& 4095 = (BitVec.ofNat 32 B).toNat
    rw [show (4095 : Nat) = 2 ^ 12 - 1 by rfl, Nat.and_two_pow_sub_one_eq_mod, BitVec.toNat_ofInt, BitVec.toNat_ofNat]
    have : (2 ^ 32 : Nat) = 4294967296 := by decide
    omega
  exact Int32.toBitVec_inj.mp key
/-- whether letter i is in the set of a rank -/
theorem bI_bits {σ : Int32 → Int32} {S : Nat → Bool} {n i : Nat} {x : Int32} (hn : n ≤ 12) (hx : x.toInt = rS σ S n) (hi : i < n) : (x &&& 4095) &&& sbit (11 - nI i) = 0 ↔ ¬ S i = true := by
  have b := bS_b (S := S) n hn
  have e := bN_int (S := S) n
  have p : 0 < 2 ^ (12 - n) := Nat.pos_of_ne_zero (fun z => by simp at z)
  have hB : bN S n < 4096 := by omega
  rw [and_12 (F := 128 * fS σ S n - wS σ S n) (B := bN S n) (by rw [hx]; unfold rS; omega) hB, and_b _ hB i (by omega)]
  exact bN_bit n hn i hi
