/-! ===== tours ===== -/
/-- the way from a over the list to b -/
def cst (d : Int32 → Int32 → Int) : Int32 → List Int32 → Int32 → Int
  | a, [], b => d a b
  | a, x :: l, b => d a x + cst d x l b
/-- the list tells the stations of m, each once -/
def En : Int32 → List Int32 → Prop
  | m, [] => m = 0
  | m, x :: l => (0 ≤ x ∧ x < 7 ∧ ¬ bitI m x = 0) ∧ En (m &&& (sbit x ^^^ -1)) l
theorem cst_snoc {d : Int32 → Int32 → Int} {x b : Int32} : ∀ (l : List Int32) (a : Int32), cst d a (l ++ [x]) b = cst d a l x + d x b := by
  intro l
  induction l with
  | nil => exact fun _ => rfl
  | cons y l ih =>
    intro a
    show d a y + cst d y (l ++ [x]) b = d a y + cst d y l x + d x b
    rw [ih y]
    omega
theorem bits_cm : ∀ j, j < 128 → ∀ x, x < 7 → ∀ y, y < 7 → ((¬ bitI (nI j) (nI y) = 0 ∧ ¬ bitI (nI j &&& (sbit (nI y) ^^^ -1)) (nI x) = 0) ↔ (¬ bitI (nI j) (nI x) = 0 ∧ ¬ bitI (nI j &&& (sbit (nI x) ^^^ -1)) (nI y) = 0)) := by decide +kernel
theorem bits_sub : ∀ j, j < 128 → ∀ x, x < 7 → ∀ y, y < 7 → bitI (nI j &&& (sbit (nI x) ^^^ -1)) (nI y) = 0 ∨ ¬ bitI (nI j) (nI y) = 0 := by decide +kernel
theorem bits_cm2 {j : Nat} {x y : Int32} (hj : j < 128) (x0 : 0 ≤ x) (x1 : x < 7) (y0 : 0 ≤ y) (y1 : y < 7) : (¬ bitI (nI j) y = 0 ∧ ¬ bitI (nI j &&& (sbit y ^^^ -1)) x = 0) ↔ (¬ bitI (nI j) x = 0 ∧ ¬ bitI (nI j &&& (sbit x ^^^ -1)) y = 0) := by
  have q := bits_cm j hj _ (tc7 x0 x1) _ (tc7 y0 y1)
  rwa [tc_nI x0, tc_nI y0] at q
theorem bits_sub2 {j : Nat} {x y : Int32} (hj : j < 128) (x0 : 0 ≤ x) (x1 : x < 7) (y0 : 0 ≤ y) (y1 : y < 7) (h : ¬ bitI (nI j &&& (sbit x ^^^ -1)) y = 0) : ¬ bitI (nI j) y = 0 := by
  have q := bits_sub j hj _ (tc7 x0 x1) _ (tc7 y0 y1)
  rw [tc_nI x0, tc_nI y0] at q
  exact q.resolve_left h
theorem rm_cm {m x y : Int32} : (m &&& (sbit y ^^^ -1)) &&& (sbit x ^^^ -1) = (m &&& (sbit x ^^^ -1)) &&& (sbit y ^^^ -1) := by
  rw [Int32.and_assoc, Int32.and_comm (sbit y ^^^ -1), ← Int32.and_assoc]
theorem En_snoc : ∀ (l : List Int32) (x : Int32) (j : Nat), j < 128 → (En (nI j) (l ++ [x]) ↔ (0 ≤ x ∧ x < 7 ∧ ¬ bitI (nI j) x = 0) ∧ En (nI j &&& (sbit x ^^^ -1)) l) := by
  intro l
  induction l with
  | nil => exact fun _ _ _ => Iff.rfl
  | cons y l ih =>
    intro x j hj
    constructor
    · rintro ⟨⟨a0, a1, a2⟩, b⟩
      obtain ⟨j', k1, k2⟩ := rm_in hj a0 a1
      rw [k2] at b
      obtain ⟨⟨c0, c1, c2⟩, e⟩ := (ih x j' k1).mp b
      rw [← k2] at c2 e
      obtain ⟨u, v⟩ := (bits_cm2 hj c0 c1 a0 a1).mp ⟨a2, c2⟩
      rw [rm_cm] at e
      exact ⟨⟨c0, c1, u⟩, ⟨a0, a1, v⟩, e⟩
    · rintro ⟨⟨c0, c1, u⟩, ⟨a0, a1, v⟩, e⟩
      obtain ⟨a2, c2⟩ := (bits_cm2 hj c0 c1 a0 a1).mpr ⟨u, v⟩
      rw [rm_cm] at e
      refine ⟨⟨a0, a1, a2⟩, ?_⟩
      obtain ⟨j', k1, k2⟩ := rm_in hj a0 a1
      rw [k2] at c2 e
      show En (nI j &&& (sbit y ^^^ -1)) (l ++ [x])
      rw [k2]
      exact (ih x j' k1).mpr ⟨⟨c0, c1, c2⟩, e⟩
theorem sn_of : ∀ l : List Int32, l = [] ∨ ∃ l' x, l = l' ++ [x] := by
  intro l
  induction l with
  | nil => exact Or.inl rfl
  | cons a t ih =>
    refine Or.inr ?_
    rcases ih with rfl | ⟨l', x, rfl⟩
    · exact ⟨[], a, rfl⟩
    · exact ⟨a :: l', x, rfl⟩
/-- v is the least way from a over the stations of m, in any order, to b -/
def Lst (d : Int32 → Int32 → Int) (a m b : Int32) (v : Int) : Prop := (∃ l, En m l ∧ v = cst d a l b) ∧ ∀ l, En m l → v ≤ cst d a l b
theorem Lst.uniq {d : Int32 → Int32 → Int} {a m b : Int32} {v w : Int} (h : Lst d a m b v) (h2 : Lst d a m b w) : v = w := by
  obtain ⟨⟨l, a1, a2⟩, a3⟩ := h
  obtain ⟨⟨l2, b1, b2⟩, b3⟩ := h2
  have := a3 l2 b1
  have := b3 l a1
  omega
/-- v is the least of f over m, far where there is none below -/
def IsM (far : Int) (m : Int32) (f : Int32 → Int) (v : Int) : Prop := (v = far ∨ ∃ x, 0 ≤ x ∧ x < 7 ∧ ¬ bitI m x = 0 ∧ v = f x) ∧ ∀ x, 0 ≤ x → x < 7 → ¬ bitI m x = 0 → v ≤ f x
theorem IsM.at {far : Int} {m : Int32} {f : Int32 → Int} {v : Int} (h : IsM far m f v) (hx : ∃ x, 0 ≤ x ∧ x < 7 ∧ ¬ bitI m x = 0 ∧ f x < far) : ∃ x, 0 ≤ x ∧ x < 7 ∧ ¬ bitI m x = 0 ∧ v = f x := by
  rcases h.1 with q | q
  · obtain ⟨x, x0, x1, x2, x3⟩ := hx
    have := h.2 x x0 x1 x2
    omega
  · exact q
theorem Lst.front {d : Int32 → Int32 → Int} {a m b : Int32} {v : Int} {t : Int32 → Int} (hm : ¬ m = 0) (ht : ∀ x, 0 ≤ x → x < 7 → ¬ bitI m x = 0 → Lst d x (m &&& (sbit x ^^^ -1)) b (t x)) (hv : ∃ x, 0 ≤ x ∧ x < 7 ∧ ¬ bitI m x = 0 ∧ v = d a x + t x) (hl : ∀ x, 0 ≤ x → x < 7 → ¬ bitI m x = 0 → v ≤ d a x + t x) : Lst d a m b v := by
  constructor
  · obtain ⟨x, x0, x1, x2, x3⟩ := hv
    obtain ⟨⟨l, l1, l2⟩, -⟩ := ht x x0 x1 x2
    exact ⟨x :: l, ⟨⟨x0, x1, x2⟩, l1⟩, by rw [x3, l2]; rfl⟩
  · intro l hl2
    match l, hl2 with
    | [], h => exact absurd h hm
    | x :: l, ⟨⟨x0, x1, x2⟩, h⟩ =>
      have := hl x x0 x1 x2
      have := (ht x x0 x1 x2).2 l h
      show v ≤ d a x + cst d x l b
      omega
theorem Lst.back {d : Int32 → Int32 → Int} {a b : Int32} {j : Nat} {v : Int} {t : Int32 → Int} (hj : j < 128) (hm : ¬ nI j = 0) (ht : ∀ x, 0 ≤ x → x < 7 → ¬ bitI (nI j) x = 0 → Lst d a (nI j &&& (sbit x ^^^ -1)) x (t x)) (hv : ∃ x, 0 ≤ x ∧ x < 7 ∧ ¬ bitI (nI j) x = 0 ∧ v = t x + d x b) (hl : ∀ x, 0 ≤ x → x < 7 → ¬ bitI (nI j) x = 0 → v ≤ t x + d x b) : Lst d a (nI j) b v := by
  constructor
  · obtain ⟨x, x0, x1, x2, x3⟩ := hv
    obtain ⟨⟨l, l1, l2⟩, -⟩ := ht x x0 x1 x2
    exact ⟨l ++ [x], (En_snoc l x j hj).mpr ⟨⟨x0, x1, x2⟩, l1⟩, by rw [x3, l2, cst_snoc]⟩
  · intro l hl2
    rcases sn_of l with rfl | ⟨l', x, rfl⟩
    · exact absurd hl2 hm
    · obtain ⟨⟨x0, x1, x2⟩, h⟩ := (En_snoc l' x j hj).mp hl2
      have := hl x x0 x1 x2
      have := (ht x x0 x1 x2).2 l' h
      rw [cst_snoc]
      omega
theorem Lst.z {d : Int32 → Int32 → Int} {a b : Int32} : Lst d a 0 b (d a b) := ⟨⟨[], rfl, rfl⟩, fun l hl => by
  match l, hl with
  | [], _ => exact Int.le_refl _
  | x :: l, ⟨⟨x0, x1, x2⟩, _⟩ => exact absurd (by unfold bitI; rw [show (0 : Int32) >>> (x &&& 31) = 0 by simp]; decide) x2⟩
theorem bit_ex : ∀ j, j < 128 → ¬ j = 0 → ∃ x, x < 7 ∧ ¬ bitI (nI j) (nI x) = 0 := by decide +kernel
theorem bit_some {j : Nat} (hj : j < 128) (h : ¬ nI j = 0) : ∃ x, 0 ≤ x ∧ x < 7 ∧ ¬ bitI (nI j) x = 0 := by
  obtain ⟨x, x1, x2⟩ := bit_ex j hj (fun z => h (by rw [z]; rfl))
  exact ⟨nI x, (nI7 x x1).1, (nI7 x x1).2, x2⟩
theorem mnN_M {m : Int32} {f : Int32 → Int32} : ∀ k, k ≤ 7 → (((mnN m f k).toInt = 1000000 ∨ ∃ x, x < k ∧ ¬ bitI m (nI x) = 0 ∧ (mnN m f k).toInt = (f (nI x)).toInt) ∧ ∀ x, x < k → ¬ bitI m (nI x) = 0 → (mnN m f k).toInt ≤ (f (nI x)).toInt) := by
  intro k
  induction k with
  | zero => exact fun _ => ⟨Or.inl rfl, fun x hx => absurd hx (by omega)⟩
  | succ k ih =>
    intro hk
    obtain ⟨a, b⟩ := ih (by omega)
    have e : mnN m f (k + 1) = if bitI m (nI k) = 0 then mnN m f k else mIx (mnN m f k) (f (nI k)) := rfl
    by_cases hb : bitI m (nI k) = 0
    · rw [e, if_pos hb]
      refine ⟨a.imp id (fun ⟨x, x1, x2, x3⟩ => ⟨x, by omega, x2, x3⟩), fun x hx hx2 => ?_⟩
      by_cases q : x = k
      · rw [q] at hx2
        exact absurd hb hx2
      · exact b x (by omega) hx2
    · rw [e, if_neg hb]
      unfold mIx
      by_cases c : f (nI k) < mnN m f k
      · rw [if_pos c]
        have c2 := i_lt.mp c
        refine ⟨Or.inr ⟨k, by omega, hb, rfl⟩, fun x hx hx2 => ?_⟩
        by_cases q : x = k
        · rw [q]
          exact Int.le_refl _
        · have := b x (by omega) hx2
          omega
      · rw [if_neg c]
        have c2 : (mnN m f k).toInt ≤ (f (nI k)).toInt := by
          rw [i_lt] at c
          omega
        refine ⟨a.imp id (fun ⟨x, x1, x2, x3⟩ => ⟨x, by omega, x2, x3⟩), fun x hx hx2 => ?_⟩
        by_cases q : x = k
        · rw [q]
          exact c2
        · exact b x (by omega) hx2
theorem mnN_I {m : Int32} {f : Int32 → Int32} : IsM 1000000 m (fun x => (f x).toInt) (mnN m f 7).toInt := by
  obtain ⟨a, b⟩ := mnN_M (m := m) (f := f) 7 (Nat.le_refl 7)
  refine ⟨a.imp id (fun ⟨x, x1, x2, x3⟩ => ⟨nI x, (nI7 x x1).1, (nI7 x x1).2, x2, x3⟩), fun x x0 x1 x2 => ?_⟩
  have q := b x.toNatClampNeg (tc7 x0 x1)
  rw [tc_nI x0] at q
  exact q x2
/-- the stations of m lie in g -/
def InG (g : Int32 → Prop) (m : Int32) : Prop := ∀ x, 0 ≤ x → x < 7 → ¬ bitI m x = 0 → g x
theorem InG.rm {g : Int32 → Prop} {j : Nat} {x : Int32} (hj : j < 128) (x0 : 0 ≤ x) (x1 : x < 7) (h : InG g (nI j)) : InG g (nI j &&& (sbit x ^^^ -1)) := fun y y0 y1 hy => h y y0 y1 (bits_sub2 hj x0 x1 y0 y1 hy)
theorem cst_b {d : Int32 → Int32 → Int} {g : Int32 → Prop} (hd : ∀ a b, g a → g b → 0 ≤ d a b ∧ d a b ≤ 120) {b : Int32} (hb : g b) : ∀ (l : List Int32) (a : Int32) (j : Nat), j < 128 → g a → InG g (nI j) → En (nI j) l → 0 ≤ cst d a l b ∧ cst d a l b ≤ 120 * (l.length + 1) ∧ l.length = pcN (nI j) 7 := by
  intro l
  induction l with
  | nil =>
    intro a j hj ha hm he
    have h0 : nI j = 0 := he
    obtain ⟨q1, q2⟩ := hd a b ha hb
    refine ⟨q1, by show d a b ≤ 120 * ((0 : Nat) + 1 : Int); omega, ?_⟩
    rw [h0]
    exact (pc_0 7 (by decide)).symm
  | cons x l ih =>
    intro a j hj ha hm he
    obtain ⟨⟨x0, x1, x2⟩, e⟩ := he
    obtain ⟨j', k1, k2, k3⟩ := rm_of hj x0 x1 x2
    have hx := hm x x0 x1 x2
    have hm2 := hm.rm hj x0 x1
    rw [k2] at e hm2
    obtain ⟨c1, c2, c3⟩ := ih x j' (by omega) hx hm2 e
    obtain ⟨q1, q2⟩ := hd a x ha hx
    have hl : (x :: l).length = l.length + 1 := rfl
    refine ⟨by show 0 ≤ d a x + cst d x l b; omega, by show d a x + cst d x l b ≤ _; rw [hl]; omega, by rw [hl]; omega⟩
theorem Lst.b {d : Int32 → Int32 → Int} {g : Int32 → Prop} (hd : ∀ a b, g a → g b → 0 ≤ d a b ∧ d a b ≤ 120) {a b : Int32} {j : Nat} {v : Int} (hj : j < 128) (ha : g a) (hb : g b) (hm : InG g (nI j)) (h : Lst d a (nI j) b v) : 0 ≤ v ∧ v ≤ 960 := by
  obtain ⟨⟨l, l1, l2⟩, -⟩ := h
  obtain ⟨c1, c2, c3⟩ := cst_b hd hb l a j hj ha hm l1
  have := pcN_le (nI j) 7
  rw [l2]
  omega
