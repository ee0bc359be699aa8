/-! ===== the best fees, by trying ===== -/
/-- the sums over the k letters from p on -/
def wQ (σ : Int32 → Int32) (S : Nat → Bool) : Nat → Nat → Int
  | 0, _ => 0
  | k + 1, p => (if S p = true then (lt σ (nI p) 2).toInt else 0) + wQ σ S k (p + 1)
def fQ (σ : Int32 → Int32) (S : Nat → Bool) : Nat → Nat → Int
  | 0, _ => 0
  | k + 1, p => (if S p = true then (lt σ (nI p) 3).toInt else 0) + fQ σ S k (p + 1)
theorem wQ_1 {σ : Int32 → Int32} {S : Nat → Bool} {k p : Nat} : wQ σ S (k + 1) p = (if S p = true then (lt σ (nI p) 2).toInt else 0) + wQ σ S k (p + 1) := rfl
theorem fQ_1 {σ : Int32 → Int32} {S : Nat → Bool} {k p : Nat} : fQ σ S (k + 1) p = (if S p = true then (lt σ (nI p) 3).toInt else 0) + fQ σ S k (p + 1) := rfl
theorem Q_S {σ : Int32 → Int32} {S : Nat → Bool} : ∀ k p : Nat, wS σ S (p + k) = wS σ S p + wQ σ S k p ∧ fS σ S (p + k) = fS σ S p + fQ σ S k p := by
  intro k
  induction k with
  | zero => exact fun p => ⟨(Int.add_zero _).symm, (Int.add_zero _).symm⟩
  | succ k ih =>
    intro p
    obtain ⟨a, b⟩ := ih (p + 1)
    rw [show p + (k + 1) = p + 1 + k by omega, a, b, wS_1, fS_1, wQ_1, fQ_1]
    constructor <;> omega
theorem Q_cg {σ : Int32 → Int32} {S S' : Nat → Bool} : ∀ k p : Nat, (∀ i, p ≤ i → S i = S' i) → wQ σ S k p = wQ σ S' k p ∧ fQ σ S k p = fQ σ S' k p := by
  intro k
  induction k with
  | zero => exact fun _ _ => ⟨rfl, rfl⟩
  | succ k ih =>
    intro p h
    obtain ⟨a, b⟩ := ih (p + 1) (fun i hi => h i (by omega))
    rw [wQ_1, fQ_1, wQ_1, fQ_1, a, b, h p (Nat.le_refl p)]
    exact ⟨rfl, rfl⟩
theorem Q_b {σ : Int32 → Int32} {S : Nat → Bool} {N : Nat} (h : LB σ N) : ∀ k p : Nat, p + k ≤ N → (0 ≤ wQ σ S k p ∧ wQ σ S k p ≤ 9 * k) ∧ 0 ≤ fQ σ S k p ∧ fQ σ S k p ≤ 99 * k := by
  intro k
  induction k with
  | zero => exact fun _ _ => ⟨⟨Int.le_refl 0, Int.le_refl 0⟩, Int.le_refl 0, Int.le_refl 0⟩
  | succ k ih =>
    intro p hp
    obtain ⟨⟨a, b⟩, c, d⟩ := ih (p + 1) (by omega)
    obtain ⟨y1, y2, y3, y4⟩ := h.2 p (by omega)
    rw [wQ_1, fQ_1]
    refine ⟨⟨?_, ?_⟩, ?_, ?_⟩ <;> split <;> omega
theorem trI_best {σ : Int32 → Int32} {st : Int32} {N : Nat} (h : LB σ N) : ∀ k p : Nat, p + k ≤ N → ∀ w : Int32, 0 ≤ w → (∃ S : Nat → Bool, (∀ i, p ≤ i → i < p + k → S i = true → lt σ (nI i) 6 = st) ∧ wQ σ S k p ≤ w.toInt ∧ (trI σ st k (nI p) w).toInt = fQ σ S k p) ∧ ∀ S : Nat → Bool, (∀ i, p ≤ i → i < p + k → S i = true → lt σ (nI i) 6 = st) → wQ σ S k p ≤ w.toInt → fQ σ S k p ≤ (trI σ st k (nI p) w).toInt := by
  intro k
  induction k with
  | zero =>
    intro p hp w w0
    rw [i_le, i_0] at w0
    exact ⟨⟨fun _ => false, fun i a b => absurd b (by omega), w0, rfl⟩, fun S _ _ => Int.le_refl 0⟩
  | succ k ih =>
    intro p hp w w0
    obtain ⟨y1, y2, y3, y4⟩ := h.2 p (by omega)
    have W0 := i_le.mp w0
    rw [i_0] at W0
    have hN := h.1
    have ep : nI p + 1 = nI (p + 1) := nI_S p (by omega)
    obtain ⟨⟨S0, a1, a2, a3⟩, a4⟩ := ih (p + 1) (by omega) w w0
    show (∃ S : Nat → Bool, _ ∧ _ ∧ (if lt σ (nI p) 6 = st ∧ lt σ (nI p) 2 ≤ w then mxI (trI σ st k (nI p + 1) w) (lt σ (nI p) 3 + trI σ st k (nI p + 1) (w - lt σ (nI p) 2)) else trI σ st k (nI p + 1) w).toInt = _) ∧ ∀ S : Nat → Bool, _ → _ → _ ≤ (if lt σ (nI p) 6 = st ∧ lt σ (nI p) 2 ≤ w then mxI (trI σ st k (nI p + 1) w) (lt σ (nI p) 3 + trI σ st k (nI p + 1) (w - lt σ (nI p) 2)) else trI σ st k (nI p + 1) w).toInt
    rw [ep]
    have out : ∃ S : Nat → Bool, (∀ i, p ≤ i → i < p + (k + 1) → S i = true → lt σ (nI i) 6 = st) ∧ wQ σ S (k + 1) p ≤ w.toInt ∧ (trI σ st k (nI (p + 1)) w).toInt = fQ σ S (k + 1) p := by
      obtain ⟨c1, c2⟩ := Q_cg (σ := σ) (S := upS S0 p false) (S' := S0) k (p + 1) (fun i hi => if_neg (by omega))
      refine ⟨upS S0 p false, fun i b1 b2 hs => ?_, ?_, ?_⟩
      · by_cases e : i = p
        · rw [e, up_n] at hs
          exact absurd hs (by decide)
        · exact a1 i (by omega) (by omega) (by rw [← hs]; exact (if_neg e).symm)
      · rw [wQ_1, up_n, if_neg (by decide), c1]
        omega
      · rw [fQ_1, up_n, if_neg (by decide), c2, a3]
        omega
    have keep : ∀ S : Nat → Bool, (∀ i, p ≤ i → i < p + (k + 1) → S i = true → lt σ (nI i) 6 = st) → wQ σ S (k + 1) p ≤ w.toInt → ¬ S p = true → fQ σ S (k + 1) p ≤ (trI σ st k (nI (p + 1)) w).toInt := fun S s1 s2 s3 => by
      rw [wQ_1, if_neg s3] at s2
      rw [fQ_1, if_neg s3]
      have := a4 S (fun i b1 b2 => s1 i (by omega) (by omega)) (by omega)
      omega
    by_cases hc : lt σ (nI p) 6 = st ∧ lt σ (nI p) 2 ≤ w
    · rw [if_pos hc]
      obtain ⟨hn, hw⟩ := hc
      have hw2 := i_le.mp hw
      have w31 := w.toInt_lt
      have ew : (w - lt σ (nI p) 2).toInt = w.toInt - (lt σ (nI p) 2).toInt := by rw [i_sub] <;> omega
      obtain ⟨⟨S1, b1, b2, b3⟩, b4⟩ := ih (p + 1) (by omega) (w - lt σ (nI p) 2) (by rw [i_le, i_0, ew]; omega)
      obtain ⟨-, q1, q2⟩ := Q_b (S := S1) h k (p + 1) (by omega)
      have es : (lt σ (nI p) 3 + trI σ st k (nI (p + 1)) (w - lt σ (nI p) 2)).toInt = (lt σ (nI p) 3).toInt + fQ σ S1 k (p + 1) := by
        rw [i_add] <;> rw [b3] <;> omega
      rw [mx_int, es]
      constructor
      · by_cases q : (trI σ st k (nI (p + 1)) w).toInt < (lt σ (nI p) 3).toInt + fQ σ S1 k (p + 1)
        · rw [if_pos q]
          obtain ⟨c1, c2⟩ := Q_cg (σ := σ) (S := upS S1 p true) (S' := S1) k (p + 1) (fun i hi => if_neg (by omega))
          refine ⟨upS S1 p true, fun i d1 d2 hs => ?_, ?_, ?_⟩
          · by_cases e : i = p
            · rw [e]
              exact hn
            · exact b1 i (by omega) (by omega) (by rw [← hs]; exact (if_neg e).symm)
          · rw [wQ_1, up_n, if_pos rfl, c1]
            omega
          · rw [fQ_1, up_n, if_pos rfl, c2]
        · rw [if_neg q]
          exact out
      · intro S s1 s2
        by_cases s3 : S p = true
        · rw [wQ_1, if_pos s3] at s2
          rw [fQ_1, if_pos s3]
          have := b4 S (fun i b1 b2 => s1 i (by omega) (by omega)) (by omega)
          split <;> omega
        · have := keep S s1 s2 s3
          split <;> omega
    · rw [if_neg hc]
      refine ⟨out, fun S s1 s2 => ?_⟩
      by_cases s3 : S p = true
      · exfalso
        refine hc ⟨s1 p (Nat.le_refl p) (by omega) s3, i_le.mpr ?_⟩
        rw [wQ_1, if_pos s3] at s2
        have := (Q_b (S := S) h k (p + 1) (by omega)).1.1
        omega
      · exact keep S s1 s2 s3
theorem feU_S {σ : Int32 → Int32} {S : Nat → Bool} {m n : Int32} (h : LB σ n.toNatClampNeg) (hb : ∀ i, i < n.toNatClampNeg → (m &&& sbit (11 - nI i) = 0 ↔ ¬ S i = true)) : (feU σ m n).toInt = fS σ S n.toNatClampNeg := by
  unfold feU sumU
  generalize n.toNatClampNeg = N at *
  have key : ∀ k, k ≤ N → (sumN (fun i => if m &&& sbit (11 - i) = 0 then 0 else lt σ i 3) k).toInt = fS σ S k := by
    intro k
    induction k with
    | zero => exact fun _ => rfl
    | succ k ih =>
      intro hk
      have a := ih (by omega)
      have hk2 : LB σ k := ⟨by have := h.1; omega, fun i hi => h.2 i (by omega)⟩
      obtain ⟨-, c, d⟩ := wf_b (S := S) k hk2
      have h12 := h.1
      obtain ⟨y1, y2, y3, y4⟩ := h.2 k (by omega)
      show (sumN (fun i => if m &&& sbit (11 - i) = 0 then 0 else lt σ i 3) k + if m &&& sbit (11 - nI k) = 0 then 0 else lt σ (nI k) 3).toInt = _
      rw [fS_1]
      by_cases e : m &&& sbit (11 - nI k) = 0
      · rw [if_pos e, if_neg ((hb k (by omega)).mp e), Int32.add_zero, a]
        omega
      · rw [if_neg e, if_pos (Classical.not_not.mp (fun z => e ((hb k (by omega)).mpr z)))]
        rw [i_add] <;> rw [a] <;> omega
  exact key N (Nat.le_refl N)
/-- the program's two ways to the fees of the best load agree -/
theorem fees_eq {σ : Int32 → Int32} (h : Good σ) {st room : Int32} (r0 : 0 ≤ room) (r1 : room ≤ 30) : feU σ (bI σ st (σ 7).toNatClampNeg room &&& 4095) (σ 7) = trI σ st (σ 7).toNatClampNeg 0 room := by
  have hL := h.LB
  have hN := hL.1
  obtain ⟨⟨S, s1, s2, s3⟩, s4⟩ := bI_best (σ := σ) (st := st) (σ 7).toNatClampNeg hL room r0 r1
  have hf := feU_S (S := S) (m := bI σ st (σ 7).toNatClampNeg room &&& 4095) hL (fun i hi => bI_bits hN s3 hi)
  obtain ⟨⟨T, t1, t2, t3⟩, t4⟩ := trI_best (st := st) hL (σ 7).toNatClampNeg 0 (by omega) room r0
  have e0 : nI 0 = 0 := by decide
  rw [e0] at t3 t4
  have q := fun U : Nat → Bool => Q_S (σ := σ) (S := U) (σ 7).toNatClampNeg 0
  have z : ∀ U : Nat → Bool, wS σ U (σ 7).toNatClampNeg = wQ σ U (σ 7).toNatClampNeg 0 ∧ fS σ U (σ 7).toNatClampNeg = fQ σ U (σ 7).toNatClampNeg 0 := fun U => by
    obtain ⟨a, b⟩ := q U
    rw [Nat.zero_add] at a b
    have c : wS σ U 0 = 0 := rfl
    have d : fS σ U 0 = 0 := rfl
    omega
  have k1 := t4 S (fun i _ hi hs => s1 i (by omega) hs) (by rw [← (z S).1]; exact s2)
  have k2 := s4 T (fun i hi hs => t1 i (Nat.zero_le i) (by omega) hs) (by rw [(z T).1]; exact t2)
  have e30 : (30 : Int32).toInt = 30 := rfl
  have R1 := i_le.mp r1
  rw [e30] at R1
  rw [← s3.symm] at k2
  have b1 := bS_b (S := S) (σ 7).toNatClampNeg hN
  have b2 := bS_b (S := T) (σ 7).toNatClampNeg hN
  have w1 := (wf_b (S := S) (σ 7).toNatClampNeg hL).1.1
  have w2 := (wf_b (S := T) (σ 7).toNatClampNeg hL).1.1
  have z1 := z S
  have z2 := z T
  have p : 0 < ((2 ^ (12 - (σ 7).toNatClampNeg) : Nat) : Int) := by
    have := Nat.two_pow_pos (12 - (σ 7).toNatClampNeg)
    omega
  rw [i_eq, hf, t3]
  unfold rS at k2 s3
  clear q z s4 t4
  omega
