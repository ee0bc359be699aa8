/-! ===== the nearest ways: Dijkstra ===== -/
def pcN (m : Int32) : Nat → Nat
  | 0 => 0
  | n + 1 => pcN m n + if bitI m (nI n) = 1 then 1 else 0
theorem pcN_le (m : Int32) : ∀ n, pcN m n ≤ n := by
  intro n
  induction n with
  | zero => exact Nat.le_refl 0
  | succ n ih =>
    show pcN m n + (if bitI m (nI n) = 1 then 1 else 0) ≤ n + 1
    split <;> omega
theorem pcN_full (m : Int32) : ∀ n, pcN m n = n → ∀ x, x < n → bitI m (nI x) = 1 := by
  intro n
  induction n with
  | zero => exact fun _ x hx => absurd hx (Nat.not_lt_zero x)
  | succ n ih =>
    intro h x hx
    have h1 : pcN m n + (if bitI m (nI n) = 1 then 1 else 0) = n + 1 := h
    have h2 := pcN_le m n
    by_cases q : bitI m (nI n) = 1
    · rw [if_pos q] at h1
      by_cases e : x = n
      · rw [e]; exact q
      · exact ih (by omega) x (by omega)
    · rw [if_neg q] at h1
      omega
theorem pc_or : ∀ j, j < 128 → ∀ h, h < 7 → bitI (nI j) (nI h) = 0 → ∀ n, n < 8 → h < n → pcN (nI j ||| sbit (nI h)) n = pcN (nI j) n + 1 := by decide +kernel
theorem pc_0 : ∀ n, n < 8 → pcN (nI 0) n = 0 := by decide +kernel
theorem bit_0 : ∀ x, x < 7 → bitI (nI 0) (nI x) = 0 := by decide +kernel
theorem tc7 {x : Int32} (h0 : 0 ≤ x) (h1 : x < 7) : x.toNatClampNeg < 7 := tc_lt h0 h1
theorem bit_or {j : Nat} (hj : j < 128) {h x : Int32} (h0 : 0 ≤ h) (h1 : h < 7) (x0 : 0 ≤ x) (x1 : x < 7) : bitI (nI j ||| sbit h) x = if x = h then 1 else bitI (nI j) x := by
  have q := bit_or7 j hj _ (tc7 h0 h1) _ (tc7 x0 x1)
  rw [tc_nI h0, tc_nI x0] at q
  rw [q]
  by_cases e : x = h
  · rw [if_pos e, if_pos (by rw [e])]
  · rw [if_neg e, if_neg (fun z => e (by rw [← tc_nI h0, ← tc_nI x0, z]))]
theorem bit01 {j : Nat} (hj : j < 128) {x : Int32} (x0 : 0 ≤ x) (x1 : x < 7) : bitI (nI j) x = 0 ∨ bitI (nI j) x = 1 := by
  have q := bit_01 j hj _ (tc7 x0 x1)
  rwa [tc_nI x0] at q
/-- what holds after some rounds: m the settled stations, D the lengths, r the rounds -/
def DJ (σ : Int32 → Int32) (s m : Int32) (D : Int32 → Int) (r : Int) : Prop :=
  D s = 0 ∧ (∀ x, 0 ≤ x → x < σ 5 → 0 ≤ D x ∧ D x ≤ 1000000) ∧ (∀ x, 0 ≤ x → x < σ 5 → D x < 1000000 → Wks σ s x (D x) ∧ D x ≤ 20 * r) ∧
  (∀ x, 0 ≤ x → x < σ 5 → bitI m x = 1 → (D x < 1000000 ∧ D x ≤ 20 * (r - 1)) ∧ (∀ y, 0 ≤ y → y < σ 5 → 0 < rd σ x y → D y ≤ D x + (rd σ x y).toInt) ∧ ∀ y, 0 ≤ y → y < σ 5 → bitI m y = 0 → D x ≤ D y)
def Rds (σ : Int32 → Int32) : Prop := ∀ a b, 0 ≤ a → a < σ 5 → 0 ≤ b → b < σ 5 → 0 ≤ (rd σ a b).toInt ∧ (rd σ a b).toInt ≤ 20 ∧ (0 < rd σ a b ↔ 0 < (rd σ a b).toInt)
theorem Rds_of {σ : Int32 → Int32} (h : Good σ) : Rds σ := by
  obtain ⟨g1, g2, -, -, -, -, -, -, -, -, gR, -⟩ := h
  intro a b a0 a1 b0 b1
  obtain ⟨r1, r2, -⟩ := gR a b a0 (by lia) b0 (by lia)
  rw [i_le] at r1 r2
  exact ⟨r1, r2, i_lt⟩
theorem DJ.step {σ : Int32 → Int32} {s m m' h : Int32} {D D' : Int32 → Int} {r : Int} (hR : Rds σ) (hJ : DJ σ s m D r) (s0 : 0 ≤ s) (s1 : s < σ 5) (h0 : 0 ≤ h) (h1 : h < σ 5) (hb : bitI m h = 0) (hf : D h < 1000000)
    (hm : ∀ x, 0 ≤ x → x < σ 5 → bitI m x = 0 → D h ≤ D x) (hD : ∀ y, 0 ≤ y → y < σ 5 → D' y = if 0 < rd σ h y ∧ D h + (rd σ h y).toInt < D y then D h + (rd σ h y).toInt else D y)
    (hm' : ∀ x, 0 ≤ x → x < σ 5 → bitI m' x = if x = h then 1 else bitI m x) : DJ σ s m' D' (r + 1) := by
  obtain ⟨j1, j2, j3, j4⟩ := hJ
  have P3 : ∀ y, 0 ≤ y → y < σ 5 → D' y = D y ∧ ¬ (0 < rd σ h y ∧ D h + (rd σ h y).toInt < D y) ∨ 0 < rd σ h y ∧ D' y = D h + (rd σ h y).toInt ∧ D' y < D y := by
    intro y y0 y1
    by_cases q : 0 < rd σ h y ∧ D h + (rd σ h y).toInt < D y
    · have := hD y y0 y1
      rw [if_pos q] at this
      exact Or.inr ⟨q.1, this, by rw [this]; exact q.2⟩
    · have := hD y y0 y1
      rw [if_neg q] at this
      exact Or.inl ⟨this, q⟩
  have P1 : ∀ y, 0 ≤ y → y < σ 5 → D' y ≤ D y := fun y y0 y1 => by
    rcases P3 y y0 y1 with ⟨q, -⟩ | ⟨-, -, q⟩
    · exact Int.le_of_eq q
    · exact Int.le_of_lt q
  have Ph : ∀ y, 0 ≤ y → y < σ 5 → D y ≤ D h → D' y = D y := fun y y0 y1 q => by
    rcases P3 y y0 y1 with ⟨p, -⟩ | ⟨-, p1, p2⟩
    · exact p
    · have := (hR h y h0 h1 y0 y1).1
      omega
  have P4 : ∀ x, 0 ≤ x → x < σ 5 → bitI m x = 1 → D' x = D x := fun x x0 x1 hx => Ph x x0 x1 ((j4 x x0 x1 hx).2.2 h h0 h1 hb)
  have P5 : D' h = D h := Ph h h0 h1 (Int.le_refl _)
  have hh := j2 h h0 h1
  refine ⟨by rw [Ph s s0 s1 (by omega)]; exact j1, fun x x0 x1 => ?_, fun x x0 x1 q => ?_, fun x x0 x1 hx => ?_⟩
  · have a1 := j2 x x0 x1
    rcases P3 x x0 x1 with ⟨p, -⟩ | ⟨-, p1, p2⟩
    · omega
    · have := (hR h x h0 h1 x0 x1).1
      omega
  · rcases P3 x x0 x1 with ⟨p, -⟩ | ⟨p0, p1, p2⟩
    · rw [p]
      rw [p] at q
      obtain ⟨w, b⟩ := j3 x x0 x1 q
      exact ⟨w, by omega⟩
    · obtain ⟨w, b⟩ := j3 h h0 h1 hf
      rw [p1]
      exact ⟨w.snoc h0 h1 p0, by have := (hR h x h0 h1 x0 x1).2.1; omega⟩
  · rw [hm' x x0 x1] at hx
    by_cases e : x = h
    · subst e
      rw [P5]
      refine ⟨⟨hf, by have := (j3 _ h0 h1 hf).2; omega⟩, fun y y0 y1 hr => ?_, fun y y0 y1 hy => ?_⟩
      · rcases P3 y y0 y1 with ⟨p, p1⟩ | ⟨-, p1, -⟩
        · rw [p]
          have : ¬ (D x + (rd σ x y).toInt < D y) := fun z => p1 ⟨hr, z⟩
          omega
        · omega
      · rw [hm' y y0 y1] at hy
        by_cases ey : y = x
        · rw [ey, P5]; exact Int.le_refl _
        · rw [if_neg ey] at hy
          have a1 := hm y y0 y1 hy
          rcases P3 y y0 y1 with ⟨p, -⟩ | ⟨-, p1, -⟩
          · omega
          · have := (hR x y h0 h1 y0 y1).1
            omega
    · rw [if_neg e] at hx
      obtain ⟨k1, k2, k3⟩ := j4 x x0 x1 hx
      rw [P4 x x0 x1 hx]
      refine ⟨⟨k1.1, by have := k1.2; omega⟩, fun y y0 y1 hr => ?_, fun y y0 y1 hy => ?_⟩
      · have := k2 y y0 y1 hr
        have := P1 y y0 y1
        omega
      · rw [hm' y y0 y1] at hy
        by_cases ey : y = h
        · rw [if_pos ey] at hy
          exact absurd hy (by decide)
        · rw [if_neg ey] at hy
          have a1 := k3 y y0 y1 hy
          have a2 := k3 h h0 h1 hb
          rcases P3 y y0 y1 with ⟨p, -⟩ | ⟨-, p1, -⟩
          · omega
          · have := (hR h y h0 h1 y0 y1).1
            omega
theorem DJ.done {σ : Int32 → Int32} {s m : Int32} {D : Int32 → Int} {r : Int} (hR : Rds σ) (hJ : DJ σ s m D r) (s0 : 0 ≤ s) (s1 : s < σ 5) (hr : r ≤ 7)
    (hb : ∀ x, 0 ≤ x → x < σ 5 → bitI m x = 1 ∨ D x = 1000000) (x : Int32) (x0 : 0 ≤ x) (x1 : x < σ 5) : IsD σ 1000000 s x (D x) ∧ 0 ≤ D x ∧ (D x ≤ 120 ∨ D x = 1000000) := by
  obtain ⟨j1, j2, j3, j4⟩ := hJ
  have key : ∀ (k : Nat) (x : Int32) (d : Int), 0 ≤ x → x < σ 5 → Wk σ k s x d → D x < 1000000 ∧ D x ≤ d := by
    intro k
    induction k with
    | zero =>
      rintro x d x0 x1 ⟨rfl, rfl⟩
      omega
    | succ k ih =>
      rintro x d x0 x1 ⟨c, c0, c1, hr, hw⟩
      obtain ⟨a1, a2⟩ := ih c _ c0 c1 hw
      rcases hb c c0 c1 with b | b
      · have b1 := (j4 c c0 c1 b).2.1 x x0 x1 hr
        have b2 := (j3 c c0 c1 a1).2
        have b3 := (hR c x c0 c1 x0 x1).2.1
        omega
      · omega
  have hx := j2 x x0 x1
  by_cases q : D x < 1000000
  · obtain ⟨w, b⟩ := j3 x x0 x1 q
    have b2 : D x ≤ 20 * (r - 1) := by
      rcases hb x x0 x1 with z | z
      · exact (j4 x x0 x1 z).1.2
      · omega
    exact ⟨Or.inl ⟨q, w, fun d ⟨k, hk⟩ => (key k x d x0 x1 hk).2⟩, hx.1, Or.inl (by omega)⟩
  · have e : D x = 1000000 := by omega
    exact ⟨Or.inr ⟨e, fun d ⟨k, hk⟩ => q (key k x d x0 x1 hk).1⟩, hx.1, Or.inr e⟩
theorem DJ.rlx {σ f f2 : Int32 → Int32} {s m m' h : Int32} {r : Int} (hR : Rds σ) (h5 : σ 5 ≤ 7) (hJ : DJ σ s m (fun x => (f (s * 7 + x)).toInt) r) (s0 : 0 ≤ s) (s1 : s < σ 5) (h0 : 0 ≤ h) (h1 : h < σ 5) (hb : bitI m h = 0) (hf : f (s * 7 + h) < 1000000)
    (hm : ∀ x, 0 ≤ x → x < σ 5 → bitI m x = 0 → f (s * 7 + h) ≤ f (s * 7 + x)) (hq : rlx σ f s h (f (s * 7 + h)) (σ 5) f2)
    (hm' : ∀ x, 0 ≤ x → x < σ 5 → bitI m' x = if x = h then 1 else bitI m x) : DJ σ s m' (fun x => (f2 (s * 7 + x)).toInt) (r + 1) := by
  refine hJ.step hR s0 s1 h0 h1 hb (i_lt.mp hf) (fun x x0 x1 hx => i_le.mp (hm x x0 x1 hx)) (fun y y0 y1 => ?_) hm'
  have b1 := hJ.2.1 h h0 h1
  have b2 := hR h y h0 h1 y0 y1
  have e1 : (f (s * 7 + h) + rd σ h y).toInt = (f (s * 7 + h)).toInt + (rd σ h y).toInt := i_add (by dsimp only at b1; omega) (by dsimp only at b1; omega)
  rw [hq.2 y y0 y1]
  by_cases q : 0 < rd σ h y ∧ f (s * 7 + h) + rd σ h y < f (s * 7 + y)
  · have q' : 0 < rd σ h y ∧ (f (s * 7 + h)).toInt + (rd σ h y).toInt < (f (s * 7 + y)).toInt := ⟨q.1, by rw [← e1]; exact i_lt.mp q.2⟩
    rw [if_pos q, if_pos q', e1]
  · have q' : ¬ (0 < rd σ h y ∧ (f (s * 7 + h)).toInt + (rd σ h y).toInt < (f (s * 7 + y)).toInt) := fun z => q ⟨z.1, i_lt.mpr (by rw [e1]; exact z.2)⟩
    rw [if_neg q, if_neg q']
/-- row s of f' holds the nearest ways, the rest is f's -/
def NR (σ : Int32 → Int32) (s : Int32) (f f' : Int32 → Int32) : Prop :=
  (∀ j, (∀ x, 0 ≤ x → x < σ 5 → ¬ j = s * 7 + x) → f' j = f j) ∧
  ∀ x, 0 ≤ x → x < σ 5 → IsD σ 1000000 s x (f' (s * 7 + x)).toInt ∧ 0 ≤ (f' (s * 7 + x)).toInt ∧ ((f' (s * 7 + x)).toInt ≤ 120 ∨ (f' (s * 7 + x)).toInt = 1000000)
/-- the state of the rounds: j the settled stations, i the rounds done -/
def DR (σ : Int32 → Int32) (s : Int32) (f f' : Int32 → Int32) (j : Nat) (i : Int32) : Prop :=
  j < 128 ∧ pcN (nI j) (σ 5).toNatClampNeg = i.toNatClampNeg ∧ DJ σ s (nI j) (fun x => (f' (s * 7 + x)).toInt) i.toInt ∧ ∀ y, (∀ x, 0 ≤ x → x < σ 5 → ¬ y = s * 7 + x) → f' y = f y
theorem tc_Int {i : Int32} (h0 : 0 ≤ i) : (i.toNatClampNeg : Int) = i.toInt := by
  rw [i_le, i_0] at h0
  exact Int.toNat_of_nonneg h0
theorem tc_le {i N : Int32} (h : i ≤ N) : i.toNatClampNeg ≤ N.toNatClampNeg := Int.toNat_le_toNat (i_le.mp h)
theorem tc_i1 {i : Int32} (h0 : 0 ≤ i) (h1 : i < 7) : (i + 1).toNatClampNeg = i.toNatClampNeg + 1 ∧ (i + 1).toInt = i.toInt + 1 := by
  have a := tc_Int h0
  have b : (i + 1).toInt = i.toInt + 1 := by
    have q1 := i_le.mp h0
    have q2 := i_lt.mp h1
    have q3 : (7 : Int32).toInt = 7 := rfl
    rw [i_0] at q1
    rw [i_add] <;> rw [i_1] <;> omega
  have c := tc_Int (i := i + 1) (by lia)
  exact ⟨by omega, b⟩
theorem DR.z {σ f f' : Int32 → Int32} {s : Int32} (h5 : σ 5 ≤ 7) (s0 : 0 ≤ s) (s1 : s < σ 5) (h : ∀ x, 0 ≤ x → x < σ 5 → f' (s * 7 + x) = if x = s then 0 else 1000000) (ho : ∀ y, (∀ x, 0 ≤ x → x < σ 5 → ¬ y = s * 7 + x) → f' y = f y) : DR σ s f f' 0 0 := by
  have b0 : ∀ x, 0 ≤ x → x < σ 5 → bitI (nI 0) x = 0 := fun x x0 x1 => by
    have q := bit_0 _ (tc7 x0 (by lia))
    rwa [tc_nI x0] at q
  refine ⟨by decide, ?_, ⟨(by rw [h s s0 s1, if_pos rfl]; rfl : (f' (s * 7 + s)).toInt = 0), fun x x0 x1 => ?_, fun x x0 x1 q => ?_, fun x x0 x1 q => ?_⟩, ho⟩
  · exact pc_0 _ (Nat.lt_succ_of_le (tc_le h5))
  · dsimp only
    rw [h x x0 x1]
    split <;> decide
  · dsimp only at q ⊢
    rw [h x x0 x1] at q ⊢
    by_cases e : x = s
    · rw [if_pos e, e]
      exact ⟨Wks.nil, by decide⟩
    · rw [if_neg e] at q
      exact absurd q (by decide)
  · rw [b0 x x0 x1] at q
    exact absurd q (by decide)
theorem DR.step {σ f f' f2 : Int32 → Int32} {s h i : Int32} {j : Nat} (hR : Rds σ) (h5 : σ 5 ≤ 7) (s0 : 0 ≤ s) (s1 : s < σ 5) (i0 : 0 ≤ i) (i7 : i < 7) (h0 : 0 ≤ h) (h1 : h < σ 5) (hD : DR σ s f f' j i) (hb : bitI (nI j) h = 0) (hf : f' (s * 7 + h) < 1000000)
    (hm : ∀ x, 0 ≤ x → x < σ 5 → bitI (nI j) x = 0 → f' (s * 7 + h) ≤ f' (s * 7 + x)) (hq : rlx σ f' s h (f' (s * 7 + h)) (σ 5) f2) : ∃ j', nI j ||| sbit h = nI j' ∧ DR σ s f f2 j' (i + 1) := by
  obtain ⟨d1, d2, d3, d4⟩ := hD
  obtain ⟨j', k1, k2⟩ := or_128 j d1 _ (tc7 h0 (by lia))
  rw [tc_nI h0] at k2
  refine ⟨j', k2, k1, ?_, ?_, fun y hy => (hq.1 y hy).trans (d4 y hy)⟩
  · rw [← k2, (tc_i1 i0 i7).1, ← d2]
    have q := pc_or j d1 _ (tc7 h0 (by lia)) (by rw [tc_nI h0]; exact hb) (σ 5).toNatClampNeg (Nat.lt_succ_of_le (tc_le h5)) (tc_lt h0 h1)
    rwa [tc_nI h0] at q
  · rw [(tc_i1 i0 i7).2]
    refine d3.rlx hR h5 s0 s1 h0 h1 hb hf hm hq (fun x x0 x1 => ?_)
    rw [← k2]
    exact bit_or d1 h0 (by lia) x0 (by lia)
theorem DR.done {σ f f' : Int32 → Int32} {s i : Int32} {j : Nat} (hR : Rds σ) (h5 : σ 5 ≤ 7) (s0 : 0 ≤ s) (s1 : s < σ 5) (i0 : 0 ≤ i) (i7 : i ≤ σ 5) (hD : DR σ s f f' j i) (hend : (∀ x, 0 ≤ x → x < σ 5 → bitI (nI j) x = 0 → 1000000 ≤ f' (s * 7 + x)) ∨ i = σ 5) : NR σ s f f' := by
  obtain ⟨d1, d2, d3, d4⟩ := hD
  refine ⟨d4, fun x x0 x1 => d3.done hR s0 s1 (by have := i_le.mp i7; have h9 := i_le.mp h5; have h8 : (7 : Int32).toInt = 7 := rfl; omega) (fun x x0 x1 => ?_) x x0 x1⟩
  rcases hend with h | h
  · rcases bit01 d1 x0 (by lia : x < 7) with b | b
    · have a1 := d3.2.1 x x0 x1
      have a2 := i_le.mp (h x x0 x1 b)
      have a3 : (1000000 : Int32).toInt = 1000000 := rfl
      exact Or.inr (by dsimp only at a1 ⊢; omega)
    · exact Or.inl b
  · rw [h] at d2
    have q := pcN_full _ _ d2 _ (tc_lt x0 x1)
    rw [tc_nI x0] at q
    exact Or.inl q
theorem dX4_goOnFromNearest_0 : decode cX4_goOnFromNearest 0 = .ok (.iconst 0, 1) := by decide +kernel
theorem dX4_goOnFromNearest_1 : decode cX4_goOnFromNearest 1 = .ok (.istore_n 3, 1) := by decide +kernel
theorem dX4_goOnFromNearest_2 : decode cX4_goOnFromNearest 2 = .ok (.iload_n 3, 1) := by decide +kernel
theorem dX4_goOnFromNearest_3 : decode cX4_goOnFromNearest 3 = .ok (.aload_n 1, 1) := by decide +kernel
theorem dX4_goOnFromNearest_4 : decode cX4_goOnFromNearest 4 = .ok (.getfield 26, 3) := by decide +kernel
theorem dX4_goOnFromNearest_7 : decode cX4_goOnFromNearest 7 = .ok (.if_icmp .ge 30, 3) := by decide +kernel
theorem dX4_goOnFromNearest_10 : decode cX4_goOnFromNearest 10 = .ok (.aload_n 0, 1) := by decide +kernel
theorem dX4_goOnFromNearest_11 : decode cX4_goOnFromNearest 11 = .ok (.getfield 9, 3) := by decide +kernel
theorem dX4_goOnFromNearest_14 : decode cX4_goOnFromNearest 14 = .ok (.iload_n 2, 1) := by decide +kernel
theorem dX4_goOnFromNearest_15 : decode cX4_goOnFromNearest 15 = .ok (.iload_n 3, 1) := by decide +kernel
theorem dX4_goOnFromNearest_16 : decode cX4_goOnFromNearest 16 = .ok (.invokestatic 22, 3) := by decide +kernel
theorem dX4_goOnFromNearest_19 : decode cX4_goOnFromNearest 19 = .ok (.iload_n 3, 1) := by decide +kernel
theorem dX4_goOnFromNearest_20 : decode cX4_goOnFromNearest 20 = .ok (.iload_n 2, 1) := by decide +kernel
theorem dX4_goOnFromNearest_21 : decode cX4_goOnFromNearest 21 = .ok (.if_icmp .ne 7, 3) := by decide +kernel
theorem dX4_goOnFromNearest_24 : decode cX4_goOnFromNearest 24 = .ok (.iconst 0, 1) := by decide +kernel
theorem dX4_goOnFromNearest_25 : decode cX4_goOnFromNearest 25 = .ok (.goto 5, 3) := by decide +kernel
theorem dX4_goOnFromNearest_28 : decode cX4_goOnFromNearest 28 = .ok (.ldc 32, 2) := by decide +kernel
theorem dX4_goOnFromNearest_30 : decode cX4_goOnFromNearest 30 = .ok (.iastore, 1) := by decide +kernel
theorem dX4_goOnFromNearest_31 : decode cX4_goOnFromNearest 31 = .ok (.iinc 3 1, 3) := by decide +kernel
theorem dX4_goOnFromNearest_34 : decode cX4_goOnFromNearest 34 = .ok (.goto (-32), 3) := by decide +kernel
theorem dX4_goOnFromNearest_37 : decode cX4_goOnFromNearest 37 = .ok (.iconst 0, 1) := by decide +kernel
theorem dX4_goOnFromNearest_38 : decode cX4_goOnFromNearest 38 = .ok (.istore_n 3, 1) := by decide +kernel
theorem dX4_goOnFromNearest_39 : decode cX4_goOnFromNearest 39 = .ok (.iconst 0, 1) := by decide +kernel
theorem dX4_goOnFromNearest_40 : decode cX4_goOnFromNearest 40 = .ok (.istore 4, 2) := by decide +kernel
theorem dX4_goOnFromNearest_42 : decode cX4_goOnFromNearest 42 = .ok (.iload 4, 2) := by decide +kernel
theorem dX4_goOnFromNearest_44 : decode cX4_goOnFromNearest 44 = .ok (.aload_n 1, 1) := by decide +kernel
theorem dX4_goOnFromNearest_45 : decode cX4_goOnFromNearest 45 = .ok (.getfield 26, 3) := by decide +kernel
theorem dX4_goOnFromNearest_48 : decode cX4_goOnFromNearest 48 = .ok (.if_icmp .ge 40, 3) := by decide +kernel
theorem dX4_goOnFromNearest_51 : decode cX4_goOnFromNearest 51 = .ok (.aload_n 0, 1) := by decide +kernel
theorem dX4_goOnFromNearest_52 : decode cX4_goOnFromNearest 52 = .ok (.aload_n 1, 1) := by decide +kernel
theorem dX4_goOnFromNearest_53 : decode cX4_goOnFromNearest 53 = .ok (.iload_n 2, 1) := by decide +kernel
theorem dX4_goOnFromNearest_54 : decode cX4_goOnFromNearest 54 = .ok (.iload_n 3, 1) := by decide +kernel
theorem dX4_goOnFromNearest_55 : decode cX4_goOnFromNearest 55 = .ok (.invokevirtual 33, 3) := by decide +kernel
theorem dX4_goOnFromNearest_58 : decode cX4_goOnFromNearest 58 = .ok (.istore 5, 2) := by decide +kernel
theorem dX4_goOnFromNearest_60 : decode cX4_goOnFromNearest 60 = .ok (.iload 5, 2) := by decide +kernel
theorem dX4_goOnFromNearest_62 : decode cX4_goOnFromNearest 62 = .ok (.iconst (-1), 1) := by decide +kernel
theorem dX4_goOnFromNearest_63 : decode cX4_goOnFromNearest 63 = .ok (.if_icmp .ne 4, 3) := by decide +kernel
theorem dX4_goOnFromNearest_66 : decode cX4_goOnFromNearest 66 = .ok (.return_, 1) := by decide +kernel
theorem dX4_goOnFromNearest_67 : decode cX4_goOnFromNearest 67 = .ok (.iload_n 3, 1) := by decide +kernel
theorem dX4_goOnFromNearest_68 : decode cX4_goOnFromNearest 68 = .ok (.iconst 1, 1) := by decide +kernel
theorem dX4_goOnFromNearest_69 : decode cX4_goOnFromNearest 69 = .ok (.iload 5, 2) := by decide +kernel
theorem dX4_goOnFromNearest_71 : decode cX4_goOnFromNearest 71 = .ok (.ishl, 1) := by decide +kernel
theorem dX4_goOnFromNearest_72 : decode cX4_goOnFromNearest 72 = .ok (.ior, 1) := by decide +kernel
theorem dX4_goOnFromNearest_73 : decode cX4_goOnFromNearest 73 = .ok (.istore_n 3, 1) := by decide +kernel
theorem dX4_goOnFromNearest_74 : decode cX4_goOnFromNearest 74 = .ok (.aload_n 0, 1) := by decide +kernel
theorem dX4_goOnFromNearest_75 : decode cX4_goOnFromNearest 75 = .ok (.aload_n 1, 1) := by decide +kernel
theorem dX4_goOnFromNearest_76 : decode cX4_goOnFromNearest 76 = .ok (.iload_n 2, 1) := by decide +kernel
theorem dX4_goOnFromNearest_77 : decode cX4_goOnFromNearest 77 = .ok (.iload 5, 2) := by decide +kernel
theorem dX4_goOnFromNearest_79 : decode cX4_goOnFromNearest 79 = .ok (.invokevirtual 37, 3) := by decide +kernel
theorem dX4_goOnFromNearest_82 : decode cX4_goOnFromNearest 82 = .ok (.iinc 4 1, 3) := by decide +kernel
theorem dX4_goOnFromNearest_85 : decode cX4_goOnFromNearest 85 = .ok (.goto (-43), 3) := by decide +kernel
theorem dX4_goOnFromNearest_88 : decode cX4_goOnFromNearest 88 = .ok (.return_, 1) := by decide +kernel
set_option maxRecDepth 100000 in
set_option maxHeartbeats 4000000 in
theorem c_goOnFromNearest {l : Launch} {g : Nat → Nat} {M : LH} (htr : l.stackTraces = false) {kd : Nat → Nat} {r a : Nat} {ad : Nat → Nat} {sl le : Int32 → Nat} {fg tp : Int32} {F : Nat → Int32 → Int32} {σ : Int32 → Int32} (hC : StR kd r M a ad sl le fg tp F σ) {dd bn bs : Nat} (hDD : M dd = some (ob 3 [.ref bn, .ref bs])) {f : Int32 → Int32} (hB : M bn = some (ia 49 f)) (hkb : ¬ kd bn = r) {s : Int32} (hs0 : 0 ≤ s) (hs : s < σ 5) : K_X4_goOnFromNearest l g 2 0 0 [.ref dd, .ref a, .int s] M (RV (fun M9 => ∃ f', NR σ s f f' ∧ M9 = hup M bn (ia 49 f')) nX) := by
  refine Ko_X4_goOnFromNearest htr (fun X => ?_)
  have hC0 := hC
  obtain ⟨hSt, hRo, -, -, -, -, hkd, -, ⟨-, hRd, -, -⟩, hG⟩ := hC
  have hR := Rds_of hG
  obtain ⟨hg1, hg2, -⟩ := hG
  have nbS : ¬ a = bn := ne_of_cell hSt hB ob_ia
  have nbD : ¬ dd = bn := ne_of_cell hDD hB ob_ia
  have key2 : ∀ i, 0 ≤ i → i ≤ σ 5 → ∀ (f' : Int32 → Int32) (j : Nat) (z5 : Option Value), DR σ s f f' j i → V l g yX4_goOnFromNearest cX4_goOnFromNearest none [] 2 0 0 (RV (fun M9 => ∃ f', NR σ s f f' ∧ M9 = hup M bn (ia 49 f')) nX) X (hup M bn (ia 49 f')) 0 0 42 [some (.ref dd), some (.ref a), some (.int s), some (.int (nI j)), some (.int i), z5] [] := by
    refine up_ind _ (fun i h0 h1 ih f' j z5 hv => ?_)
    have hC1 := StR.kept hC0 (fun z => hkb z.symm) (Frm.up (kd := kd) (M := M) (e := ia 49 f') (rfl : kd bn = kd bn))
    refine v_iload dX4_goOnFromNearest_42 rfl ?_
    refine v_aload_n dX4_goOnFromNearest_44 rfl rfl ?_
    refine gf_X4_26 dX4_goOnFromNearest_45 rfl ((hup_n nbS).trans hSt) ?_
    refine v_icmp_ge (tgt := 88) dX4_goOnFromNearest_48 (by decide) (fun h48 => ?_) (fun h48 => ?_)
    · have hi : i = σ 5 := by lia
      exact v_vret dX4_goOnFromNearest_88 rfl ⟨f', DR.done hR hg2 hs0 hs h0 h1 hv (Or.inr hi), rfl⟩ (by omega) (by omega)
    · have hi : i < σ 5 := by lia
      have hi7 : i < 7 := by lia
      refine v_aload_n dX4_goOnFromNearest_51 rfl rfl ?_
      refine v_aload_n dX4_goOnFromNearest_52 rfl rfl ?_
      refine v_iload_n dX4_goOnFromNearest_53 rfl rfl ?_
      refine v_iload_n dX4_goOnFromNearest_54 rfl rfl ?_
      refine k_X4_33 dX4_goOnFromNearest_55 rfl (c_nearestUnsettled htr hC1 ((hup_n nbD).trans hDD) hup_s hs0 hs) ((hup_n nbD).trans hDD) (Nat.le_of_ble_eq_true rfl) (by omega) (by omega) (Nat.le_of_ble_eq_true rfl) (fun r55 M9 h9 => ?_) (fun _ _ h9 => h9.elim)
      obtain ⟨h9, e9⟩ := h9
      subst M9
      refine v_istore_5 dX4_goOnFromNearest_58 ?_
      refine v_iload dX4_goOnFromNearest_60 rfl ?_
      refine v_iconst (v := (-1)) dX4_goOnFromNearest_62 (by decide) ?_
      refine v_icmp_ne (tgt := 67) dX4_goOnFromNearest_63 (by decide) (fun h63 => ?_) (fun h63 => ?_)
      · have hn9 : σ 5 ≤ 7 ∧ 0 ≤ r55 ∧ r55 < σ 5 ∧ bitI (nI j) r55 = 0 ∧ f' (s * 7 + r55) < 1000000 ∧ ∀ x, 0 ≤ x → x < σ 5 → bitI (nI j) x = 0 → f' (s * 7 + r55) ≤ f' (s * 7 + x) := by
          rcases h9 with ⟨q, -⟩ | q
          · exact absurd q (by assumption)
          · exact ⟨hg2, q⟩
        obtain ⟨-, w1, w2, w3, w4, w5⟩ := hn9
        refine v_iload_n dX4_goOnFromNearest_67 rfl rfl ?_
        refine v_iconst (v := 1) dX4_goOnFromNearest_68 (by decide) ?_
        refine v_iload dX4_goOnFromNearest_69 rfl ?_
        refine v_ishl dX4_goOnFromNearest_71 ?_
        refine v_ior dX4_goOnFromNearest_72 ?_
        refine v_istore_3 dX4_goOnFromNearest_73 ?_
        refine v_aload_n dX4_goOnFromNearest_74 rfl rfl ?_
        refine v_aload_n dX4_goOnFromNearest_75 rfl rfl ?_
        refine v_iload_n dX4_goOnFromNearest_76 rfl rfl ?_
        refine v_iload dX4_goOnFromNearest_77 rfl ?_
        refine k_X4_37 dX4_goOnFromNearest_79 rfl (c_takeRoadsFrom htr hC1 ((hup_n nbD).trans hDD) hup_s hkb hs0 hs w1 w2) ((hup_n nbD).trans hDD) (Nat.le_of_ble_eq_true rfl) (by omega) (by omega) (Nat.le_of_ble_eq_true rfl) (fun M9 h9 => ?_) (fun _ _ h9 => h9.elim)
        obtain ⟨f2, hq9, e9⟩ := h9
        rw [hup_hup] at e9
        subst M9
        obtain ⟨j', e8, e9⟩ := DR.step hR hg2 hs0 hs h0 hi7 w1 w2 hv w3 w4 w5 hq9
        rw [show nI j ||| 1 <<< (r55 &&& 31) = nI j' from e8]
        refine v_iinc_4 dX4_goOnFromNearest_82 rfl ?_
        refine v_goto (tgt := 42) dX4_goOnFromNearest_85 (by decide) ?_
        exact ih hi _ _ _ e9
      · have hend9 : ∀ x, 0 ≤ x → x < σ 5 → bitI (nI j) x = 0 → 1000000 ≤ f' (s * 7 + x) := by
          rcases h9 with ⟨-, q⟩ | ⟨q, -⟩
          · exact q
          · exact absurd q (by rw [(by assumption : r55 = -1)]; decide)
        exact v_vret dX4_goOnFromNearest_66 rfl ⟨f', DR.done hR hg2 hs0 hs h0 h1 hv (Or.inl hend9), rfl⟩ (by omega) (by omega)
  have key1 : ∀ i, 0 ≤ i → i ≤ σ 5 → ∀ (f' : Int32 → Int32) (z4 z5 : Option Value), (∀ x, 0 ≤ x → x < i → f' (s * 7 + x) = if x = s then 0 else 1000000) → (∀ y, (∀ x, 0 ≤ x → x < σ 5 → ¬ y = s * 7 + x) → f' y = f y) → V l g yX4_goOnFromNearest cX4_goOnFromNearest none [] 2 0 0 (RV (fun M9 => ∃ f', NR σ s f f' ∧ M9 = hup M bn (ia 49 f')) nX) X (hup M bn (ia 49 f')) 0 0 2 [some (.ref dd), some (.ref a), some (.int s), some (.int i), z4, z5] [] := by
    refine up_ind _ (fun i h0 h1 ih f' z4 z5 hv ho => ?_)
    refine v_iload_n dX4_goOnFromNearest_2 rfl rfl ?_
    refine v_aload_n dX4_goOnFromNearest_3 rfl rfl ?_
    refine gf_X4_26 dX4_goOnFromNearest_4 rfl ((hup_n nbS).trans hSt) ?_
    refine v_icmp_ge (tgt := 37) dX4_goOnFromNearest_7 (by decide) (fun h7 => ?_) (fun h7 => ?_)
    · have hi : i = σ 5 := by lia
      subst hi
      refine v_iconst (v := 0) dX4_goOnFromNearest_37 (by decide) ?_
      refine v_istore_3 dX4_goOnFromNearest_38 ?_
      refine v_iconst (v := 0) dX4_goOnFromNearest_39 (by decide) ?_
      refine v_istore_4 dX4_goOnFromNearest_40 ?_
      exact key2 0 (by lia) hg1 f' 0 z5 (DR.z hg2 hs0 hs hv ho)
    · have hi : i < σ 5 := by lia
      have hi7 : i < 7 := by lia
      obtain ⟨b0, b1⟩ := cell_in hs0 (by lia) h0 hi7
      refine v_aload_n dX4_goOnFromNearest_10 rfl rfl ?_
      refine gf_X4_9 dX4_goOnFromNearest_11 rfl ((hup_n nbD).trans hDD) ?_
      refine v_iload_n dX4_goOnFromNearest_14 rfl rfl ?_
      refine v_iload_n dX4_goOnFromNearest_15 rfl rfl ?_
      refine k_X4_22 dX4_goOnFromNearest_16 rfl (c_cell htr s i) (Nat.le_of_ble_eq_true rfl) (by omega) (by omega) (Nat.le_of_ble_eq_true rfl) (fun r16 M9 h9 => ?_) (fun _ _ h9 => h9.elim)
      obtain ⟨rfl, e9⟩ := h9
      subst M9
      refine v_iload_n dX4_goOnFromNearest_19 rfl rfl ?_
      refine v_iload_n dX4_goOnFromNearest_20 rfl rfl ?_
      refine v_icmp_ne (tgt := 28) dX4_goOnFromNearest_21 (by decide) (fun h21 => ?_) (fun h21 => ?_)
      · refine lc_X4_32 dX4_goOnFromNearest_28 rfl ?_
        refine v_iast dX4_goOnFromNearest_30 hup_s b0 b1 ?_
        refine v_iinc_3 dX4_goOnFromNearest_31 rfl ?_
        refine v_goto (tgt := 2) dX4_goOnFromNearest_34 (by decide) ?_
        rw [hup_hup]
        refine ih hi _ _ _ (fun x x0 x1 => ?_) (fun y hy => ?_)
        · rcases (by lia : x = i ∨ x < i) with e | e
          · rw [e, ui_s]
            first
              | rw [if_pos (by first | assumption | exact Classical.not_not.mp (by assumption))]
              | rw [if_neg (by assumption)]
          · rw [ui_n (fun z => by have := (cell_inj hs0 (by lia) x0 (by lia) hs0 (by lia) h0 hi7 z).2; lia)]
            exact hv x x0 e
        · rw [ui_n (hy i h0 hi)]
          exact ho y hy
      · refine v_iconst (v := 0) dX4_goOnFromNearest_24 (by decide) ?_
        refine v_goto (tgt := 30) dX4_goOnFromNearest_25 (by decide) ?_
        refine v_iast dX4_goOnFromNearest_30 hup_s b0 b1 ?_
        refine v_iinc_3 dX4_goOnFromNearest_31 rfl ?_
        refine v_goto (tgt := 2) dX4_goOnFromNearest_34 (by decide) ?_
        rw [hup_hup]
        refine ih hi _ _ _ (fun x x0 x1 => ?_) (fun y hy => ?_)
        · rcases (by lia : x = i ∨ x < i) with e | e
          · rw [e, ui_s]
            first
              | rw [if_pos (by first | assumption | exact Classical.not_not.mp (by assumption))]
              | rw [if_neg (by assumption)]
          · rw [ui_n (fun z => by have := (cell_inj hs0 (by lia) x0 (by lia) hs0 (by lia) h0 hi7 z).2; lia)]
            exact hv x x0 e
        · rw [ui_n (hy i h0 hi)]
          exact ho y hy
  refine v_iconst (v := 0) dX4_goOnFromNearest_0 (by decide) ?_
  refine v_istore_3 dX4_goOnFromNearest_1 ?_
  have hk0 := key1 0 (by lia) hg1 f none none (fun x a b => absurd b (by lia)) (fun _ _ => rfl)
  rw [hup_id hB] at hk0
  exact hk0

