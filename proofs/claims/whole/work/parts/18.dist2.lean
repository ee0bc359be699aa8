/-! ===== all distances, both ways ===== -/
def NX (σ : Int32 → Int32) (K : Int) (s : Int32) (f' : Int32 → Int32) : Prop :=
  ∀ x, 0 ≤ x → x < σ 5 → IsD σ 1000000 s x (f' (s * 7 + x)).toInt ∧ 0 ≤ (f' (s * 7 + x)).toInt ∧ ((f' (s * 7 + x)).toInt ≤ K ∨ (f' (s * 7 + x)).toInt = 1000000)
theorem NR.nx {σ f f' : Int32 → Int32} {s : Int32} (h : NR σ s f f') : NX σ 120 s f' := h.2
theorem NR.ot {σ f f' : Int32 → Int32} {s q : Int32} (h5 : σ 5 ≤ 7) (h : NR σ s f f') (s0 : 0 ≤ s) (s1 : s < σ 5) (q0 : 0 ≤ q) (q1 : q < σ 5) (hn : ¬ q = s) (hx : NX σ 120 q f) : NX σ 120 q f' := by
  intro x x0 x1
  rw [h.1 (q * 7 + x) (fun z z0 z1 e => hn (cell_inj q0 (by lia) x0 (by lia) s0 (by lia) z0 (by lia) e).1)]
  exact hx x x0 x1
/-- a table of rows of seven, new up to (i, j), old from there -/
def Tb (n i j : Int32) (nw od : Int32 → Int32 → Int32) (f : Int32 → Int32) : Prop :=
  ∀ x y, 0 ≤ x → x < n → 0 ≤ y → y < n → f (x * 7 + y) = if x < i ∨ (x = i ∧ y < j) then nw x y else od x y
theorem Tb.z {n : Int32} {nw : Int32 → Int32 → Int32} {f : Int32 → Int32} : Tb n 0 0 nw (fun x y => f (x * 7 + y)) f := by
  intro x y x0 x1 y0 y1
  rw [if_neg (by lia)]
theorem lex_s {x y i j : Int32} (hj : j < 7) (hy : y < 7) (h : ¬ (x = i ∧ y = j)) : (x < i ∨ (x = i ∧ y < j + 1)) ↔ (x < i ∨ (x = i ∧ y < j)) := by
  constructor
  · rintro (q | ⟨q, q2⟩)
    · exact Or.inl q
    · exact Or.inr ⟨q, by lia⟩
  · rintro (q | ⟨q, q2⟩)
    · exact Or.inl q
    · exact Or.inr ⟨q, by lia⟩
theorem Tb.step {n i j v : Int32} {nw od : Int32 → Int32 → Int32} {f : Int32 → Int32} (hn : n ≤ 7) (h : Tb n i j nw od f) (i0 : 0 ≤ i) (i1 : i < n) (j0 : 0 ≤ j) (j1 : j < n) (hv : v = nw i j) : Tb n i (j + 1) nw od (ui f (i * 7 + j) v) := by
  intro x y x0 x1 y0 y1
  by_cases e : x = i ∧ y = j
  · obtain ⟨rfl, rfl⟩ := e
    rw [ui_s, hv, if_pos (Or.inr ⟨rfl, by lia⟩)]
  · rw [ui_n (fun z => e (cell_inj x0 (by lia) y0 (by lia) i0 (by lia) j0 (by lia) z)), h x y x0 x1 y0 y1]
    have q := lex_s (by lia : j < 7) (by lia : y < 7) e
    by_cases w : x < i ∨ (x = i ∧ y < j)
    · rw [if_pos w, if_pos (q.mpr w)]
    · rw [if_neg w, if_neg (fun z => w (q.mp z))]
theorem Tb.row {n i : Int32} {nw od : Int32 → Int32 → Int32} {f : Int32 → Int32} (hn : n ≤ 7) (i1 : i < n) (h : Tb n i n nw od f) : Tb n (i + 1) 0 nw od f := by
  intro x y x0 x1 y0 y1
  rw [h x y x0 x1 y0 y1]
  by_cases w : x < i ∨ (x = i ∧ y < n)
  · rw [if_pos w, if_pos (Or.inl (by rcases w with w | ⟨w, -⟩ <;> lia))]
  · rw [if_neg w, if_neg (fun z => w (by
      rcases z with z | ⟨-, z⟩
      · by_cases e : x = i
        · exact Or.inr ⟨e, y1⟩
        · exact Or.inl (by lia)
      · exact absurd z (by lia)))]
theorem Tb.all {n : Int32} {nw od : Int32 → Int32 → Int32} {f : Int32 → Int32} (h : Tb n n 0 nw od f) : ∀ x y, 0 ≤ x → x < n → 0 ≤ y → y < n → f (x * 7 + y) = nw x y := by
  intro x y x0 x1 y0 y1
  rw [h x y x0 x1 y0 y1, if_pos (Or.inl x1)]
def dirW (σ : Int32 → Int32) (x y : Int32) : Int32 := if x = y then 0 else if 0 < rd σ x y then rd σ x y else 1000000
def mn7 (f : Int32 → Int32) (m x y : Int32) : Int32 := if f (x * 7 + m) + f (m * 7 + y) < f (x * 7 + y) then f (x * 7 + m) + f (m * 7 + y) else f (x * 7 + y)
theorem mn7_row {f : Int32 → Int32} {m y : Int32} (hz : f (m * 7 + m) = 0) : mn7 f m m y = f (m * 7 + y) := by
  unfold mn7
  rw [hz, if_neg (by lia)]
theorem mn7_col {f : Int32 → Int32} {m x : Int32} (hz : f (m * 7 + m) = 0) : mn7 f m x m = f (x * 7 + m) := by
  unfold mn7
  rw [hz, if_neg (by lia)]
theorem Tb.rowm {f f' : Int32 → Int32} {n i j m y : Int32} (hz : f (m * 7 + m) = 0) (h : Tb n i j (mn7 f m) (fun x y => f (x * 7 + y)) f') (m0 : 0 ≤ m) (m1 : m < n) (y0 : 0 ≤ y) (y1 : y < n) : f' (m * 7 + y) = f (m * 7 + y) := by
  rw [h m y m0 m1 y0 y1, mn7_row hz]
  split <;> rfl
theorem Tb.colm {f f' : Int32 → Int32} {n i j m x : Int32} (hz : f (m * 7 + m) = 0) (h : Tb n i j (mn7 f m) (fun x y => f (x * 7 + y)) f') (m0 : 0 ≤ m) (m1 : m < n) (x0 : 0 ≤ x) (x1 : x < n) : f' (x * 7 + m) = f (x * 7 + m) := by
  rw [h x m x0 x1 m0 m1, mn7_col hz]
  split <;> rfl
theorem Tb.hr {f' : Int32 → Int32} {nw od : Int32 → Int32 → Int32} {n i j : Int32} (h : Tb n i j nw od f') (i0 : 0 ≤ i) (i1 : i < n) (j0 : 0 ≤ j) (j1 : j < n) : f' (i * 7 + j) = od i j := by
  rw [h i j i0 i1 j0 j1, if_neg (by lia)]
def FJ (σ : Int32 → Int32) (m : Int32) (K : Int) (B : Int32 → Int32 → Int) : Prop :=
  (∀ a, 0 ≤ a → a < σ 5 → B a a = 0) ∧ ∀ a b, 0 ≤ a → a < σ 5 → 0 ≤ b → b < σ 5 →
    (0 ≤ B a b ∧ B a b ≤ 1000000) ∧ (B a b < 1000000 → Wks σ a b (B a b) ∧ B a b ≤ K) ∧ (0 < rd σ a b → B a b ≤ (rd σ a b).toInt) ∧ ∀ c, 0 ≤ c → c < m → B a b ≤ B a c + B c b
theorem Wks.app {σ : Int32 → Int32} {a c b : Int32} {d e : Int} (h : Wks σ a c d) (h2 : Wks σ c b e) : Wks σ a b (d + e) := by
  obtain ⟨k, hk⟩ := h2
  exact h.cat k b e hk
theorem FJ.step {σ : Int32 → Int32} {m : Int32} {K : Int} {B B' : Int32 → Int32 → Int} (h5 : σ 5 ≤ 7) (h : FJ σ m K B) (m0 : 0 ≤ m) (m1 : m < σ 5) (hK : 0 ≤ K)
    (hB : ∀ a b, 0 ≤ a → a < σ 5 → 0 ≤ b → b < σ 5 → B' a b = if B a m + B m b < B a b then B a m + B m b else B a b) : FJ σ (m + 1) (2 * K) B' := by
  obtain ⟨h0, h⟩ := h
  have e3 : ∀ a b, 0 ≤ a → a < σ 5 → 0 ≤ b → b < σ 5 → B' a b ≤ B a b ∧ B' a b ≤ B a m + B m b ∧ (B' a b = B a b ∨ B' a b = B a m + B m b ∧ B' a b < B a b) := by
    intro a b a0 a1 b0 b1
    rw [hB a b a0 a1 b0 b1]
    split <;> omega
  have hmm := h0 m m0 m1
  refine ⟨fun a a0 a1 => ?_, fun a b a0 a1 b0 b1 => ⟨?_, fun q => ?_, fun hr => ?_, fun c c0 c1 => ?_⟩⟩
  · have p1 := e3 a a a0 a1 a0 a1
    have p2 := h0 a a0 a1
    have p3 := (h a m a0 a1 m0 m1).1
    have p4 := (h m a m0 m1 a0 a1).1
    omega
  · have p1 := e3 a b a0 a1 b0 b1
    have p2 := (h a b a0 a1 b0 b1).1
    have p3 := (h a m a0 a1 m0 m1).1
    have p4 := (h m b m0 m1 b0 b1).1
    omega
  · have p1 := (e3 a b a0 a1 b0 b1).2.2
    have p2 := (h a b a0 a1 b0 b1)
    have p3 := (h a m a0 a1 m0 m1)
    have p4 := (h m b m0 m1 b0 b1)
    rcases p1 with p1 | ⟨p1, p5⟩
    · rw [p1] at q ⊢
      have := p2.2.1 q
      exact ⟨this.1, by omega⟩
    · rw [p1] at q ⊢
      have w1 := p3.2.1 (by omega)
      have w2 := p4.2.1 (by omega)
      exact ⟨w1.1.app w2.1, by omega⟩
  · have p1 := e3 a b a0 a1 b0 b1
    have p2 := (h a b a0 a1 b0 b1).2.2.1 hr
    omega
  · have p1 := e3 a b a0 a1 b0 b1
    have c2 : c < σ 5 := by lia
    have p2 := e3 a c a0 a1 c0 c2
    have p3 := e3 c b c0 c2 b0 b1
    have q1 := (h a m a0 a1 m0 m1).1
    have q2 := (h m b m0 m1 b0 b1).1
    have q3 := (h c m c0 c2 m0 m1).1
    have q4 := (h m c m0 m1 c0 c2).1
    rcases (by lia : c = m ∨ c < m) with e | e
    · rw [e] at p2 p3 ⊢
      omega
    · have t1 := (h a b a0 a1 b0 b1).2.2.2 c c0 e
      have t2 := (h m b m0 m1 b0 b1).2.2.2 c c0 e
      have t3 := (h a m a0 a1 m0 m1).2.2.2 c c0 e
      omega
theorem FJ.done {σ : Int32 → Int32} {K : Int} {B : Int32 → Int32 → Int} (hR : Rds σ) (hK : K ≤ 2560) (h : FJ σ (σ 5) K B) (a b : Int32) (a0 : 0 ≤ a) (a1 : a < σ 5) (b0 : 0 ≤ b) (b1 : b < σ 5) : IsD σ 1000000 a b (B a b) ∧ 0 ≤ B a b ∧ (B a b ≤ 2560 ∨ B a b = 1000000) := by
  obtain ⟨h0, h⟩ := h
  have key : ∀ (k : Nat) (x : Int32) (d : Int), 0 ≤ x → x < σ 5 → Wk σ k a x d → B a x < 1000000 ∧ B a x ≤ d := by
    intro k
    induction k with
    | zero =>
      rintro x d x0 x1 ⟨rfl, rfl⟩
      have := h0 a x0 x1
      omega
    | succ k ih =>
      rintro x d x0 x1 ⟨c, c0, c1, hr, hw⟩
      obtain ⟨w1, w2⟩ := ih c _ c0 c1 hw
      have b1 := (h a x a0 a1 x0 x1).2.2.2 c c0 c1
      have b2 := ((h a c a0 a1 c0 c1).2.1 w1).2
      have b3 := (h c x c0 c1 x0 x1).2.2.1 hr
      have b4 := (hR c x c0 c1 x0 x1).2.1
      omega
  have hx := h a b a0 a1 b0 b1
  by_cases q : B a b < 1000000
  · obtain ⟨w, b⟩ := hx.2.1 q
    exact ⟨Or.inl ⟨q, w, fun d ⟨k, hk⟩ => (key k _ d b0 b1 hk).2⟩, hx.1.1, Or.inl (by omega)⟩
  · have e : B a b = 1000000 := by omega
    exact ⟨Or.inr ⟨e, fun d ⟨k, hk⟩ => q (key k b d b0 b1 hk).1⟩, hx.1.1, Or.inr e⟩
theorem FJ.z {σ : Int32 → Int32} (h5 : σ 5 ≤ 7) (hR : Rds σ) : FJ σ 0 20 (fun a b => (dirW σ a b).toInt) := by
  refine ⟨fun a _ _ => by dsimp only; unfold dirW; rw [if_pos rfl]; rfl, fun a b a0 a1 b0 b1 => ?_⟩
  have r := hR a b a0 a1 b0 b1
  dsimp only
  have e6 : (1000000 : Int32).toInt = 1000000 := rfl
  refine ⟨?_, fun q => ?_, fun hr => ?_, fun c c0 c1 => absurd c1 (by lia)⟩
  · unfold dirW
    split
    · decide
    · split
      · omega
      · decide
  · unfold dirW at q ⊢
    by_cases e : a = b
    · rw [if_pos e, e]
      exact ⟨Wks.nil, by decide⟩
    · rw [if_neg e] at q ⊢
      by_cases e2 : 0 < rd σ a b
      · rw [if_pos e2]
        have w := (Wks.nil (σ := σ) (a := a)).snoc a0 a1 e2
        rw [Int.zero_add] at w
        exact ⟨w, r.2.1⟩
      · rw [if_neg e2, e6] at q
        omega
  · unfold dirW
    by_cases e : a = b
    · rw [if_pos e]
      exact r.1
    · rw [if_neg e, if_pos hr]
      exact Int.le_refl _
theorem FJ.mnS {σ f f' : Int32 → Int32} {m : Int32} {K : Int} (h5 : σ 5 ≤ 7) (h : FJ σ m K (fun x y => (f (x * 7 + y)).toInt)) (m0 : 0 ≤ m) (m1 : m < σ 5) (hK : 0 ≤ K)
    (hq : ∀ x y, 0 ≤ x → x < σ 5 → 0 ≤ y → y < σ 5 → f' (x * 7 + y) = mn7 f m x y) : FJ σ (m + 1) (2 * K) (fun x y => (f' (x * 7 + y)).toInt) := by
  refine h.step h5 m0 m1 hK (fun a b a0 a1 b0 b1 => ?_)
  rw [hq a b a0 a1 b0 b1]
  have p3 := (h.2 a m a0 a1 m0 m1).1
  have p4 := (h.2 m b m0 m1 b0 b1).1
  dsimp only at p3 p4
  have e1 : (f (a * 7 + m) + f (m * 7 + b)).toInt = (f (a * 7 + m)).toInt + (f (m * 7 + b)).toInt := i_add (by omega) (by omega)
  unfold mn7
  by_cases q : f (a * 7 + m) + f (m * 7 + b) < f (a * 7 + b)
  · rw [if_pos q, e1, if_pos (by rw [← e1]; exact i_lt.mp q)]
  · rw [if_neg q, if_neg (fun z => q (i_lt.mpr (by rw [e1]; exact z)))]
theorem FJ.cg {σ f : Int32 → Int32} {B : Int32 → Int32 → Int} {m : Int32} {K : Int} (h : FJ σ m K B) (m1 : m ≤ σ 5) (e : ∀ x y, 0 ≤ x → x < σ 5 → 0 ≤ y → y < σ 5 → (f (x * 7 + y)).toInt = B x y) : FJ σ m K (fun x y => (f (x * 7 + y)).toInt) := by
  refine ⟨fun a a0 a1 => by dsimp only; rw [e a a a0 a1 a0 a1]; exact h.1 a a0 a1, fun a b a0 a1 b0 b1 => ?_⟩
  have q := h.2 a b a0 a1 b0 b1
  dsimp only
  rw [e a b a0 a1 b0 b1]
  refine ⟨q.1, q.2.1, q.2.2.1, fun c c0 c1 => ?_⟩
  rw [e a c a0 a1 c0 (by lia), e c b c0 (by lia) b0 b1]
  exact q.2.2.2 c c0 c1
theorem dX4_nearestWay_0 : decode cX4_nearestWay 0 = .ok (.aload_n 0, 1) := by decide +kernel
theorem dX4_nearestWay_1 : decode cX4_nearestWay 1 = .ok (.aload_n 1, 1) := by decide +kernel
theorem dX4_nearestWay_2 : decode cX4_nearestWay 2 = .ok (.iload_n 2, 1) := by decide +kernel
theorem dX4_nearestWay_3 : decode cX4_nearestWay 3 = .ok (.invokevirtual 18, 3) := by decide +kernel
theorem dX4_nearestWay_6 : decode cX4_nearestWay 6 = .ok (.aload_n 0, 1) := by decide +kernel
theorem dX4_nearestWay_7 : decode cX4_nearestWay 7 = .ok (.getfield 9, 3) := by decide +kernel
theorem dX4_nearestWay_10 : decode cX4_nearestWay 10 = .ok (.iload_n 2, 1) := by decide +kernel
theorem dX4_nearestWay_11 : decode cX4_nearestWay 11 = .ok (.iload_n 3, 1) := by decide +kernel
theorem dX4_nearestWay_12 : decode cX4_nearestWay 12 = .ok (.invokestatic 22, 3) := by decide +kernel
theorem dX4_nearestWay_15 : decode cX4_nearestWay 15 = .ok (.iaload, 1) := by decide +kernel
theorem dX4_nearestWay_16 : decode cX4_nearestWay 16 = .ok (.ireturn, 1) := by decide +kernel
set_option maxRecDepth 100000 in
set_option maxHeartbeats 4000000 in
theorem c_nearestWay {l : Launch} {g : Nat → Nat} {M : LH} (htr : l.stackTraces = false) {kd : Nat → Nat} {r a : Nat} {ad : Nat → Nat} {sl le : Int32 → Nat} {fg tp : Int32} {F : Nat → Int32 → Int32} {σ : Int32 → Int32} (hC : StR kd r M a ad sl le fg tp F σ) {dd bn bs : Nat} (hDD : M dd = some (ob 3 [.ref bn, .ref bs])) {f : Int32 → Int32} (hB : M bn = some (ia 49 f)) (hkb : ¬ kd bn = r) {s t : Int32} (hs0 : 0 ≤ s) (hs : s < σ 5) (ht0 : 0 ≤ t) (ht : t < σ 5) : K_X4_nearestWay l g 3 0 0 [.ref dd, .ref a, .int s, .int t] M (RI (fun v M9 => ∃ f', NR σ s f f' ∧ v = f' (s * 7 + t) ∧ M9 = hup M bn (ia 49 f')) nX) := by
  refine Ko_X4_nearestWay htr (fun X => ?_)
  have hC0 := hC
  obtain ⟨hSt, hRo, -, -, -, -, hkd, -, ⟨-, hRd, -, -⟩, hG⟩ := hC
  have hR := Rds_of hG
  obtain ⟨hg1, hg2, -⟩ := hG
  have nbS : ¬ a = bn := ne_of_cell hSt hB ob_ia
  have nbD : ¬ dd = bn := ne_of_cell hDD hB ob_ia
  refine v_aload_n dX4_nearestWay_0 rfl rfl ?_
  refine v_aload_n dX4_nearestWay_1 rfl rfl ?_
  refine v_iload_n dX4_nearestWay_2 rfl rfl ?_
  refine k_X4_18 dX4_nearestWay_3 rfl (c_goOnFromNearest htr hC0 hDD hB hkb hs0 hs) hDD (Nat.le_of_ble_eq_true rfl) (by omega) (by omega) (Nat.le_of_ble_eq_true rfl) (fun M9 h9 => ?_) (fun _ _ h9 => h9.elim)
  obtain ⟨f', hq, e9⟩ := h9
  subst M9
  refine v_aload_n dX4_nearestWay_6 rfl rfl ?_
  refine gf_X4_9 dX4_nearestWay_7 rfl ((hup_n nbD).trans hDD) ?_
  refine v_iload_n dX4_nearestWay_10 rfl rfl ?_
  refine v_iload_n dX4_nearestWay_11 rfl rfl ?_
  refine k_X4_22 dX4_nearestWay_12 rfl (c_cell htr s t) (Nat.le_of_ble_eq_true rfl) (by omega) (by omega) (Nat.le_of_ble_eq_true rfl) (fun r12 M9 h9 => ?_) (fun _ _ h9 => h9.elim)
  obtain ⟨rfl, e9⟩ := h9
  subst M9
  refine v_iald dX4_nearestWay_15 hup_s (cell_in hs0 (by lia) ht0 (by lia)).1 (cell_in hs0 (by lia) ht0 (by lia)).2 ?_
  exact v_iret dX4_nearestWay_16 rfl ⟨f', hq, rfl, rfl⟩ (by omega) (by omega)
theorem dX4_goOnFromNearestOfAll_0 : decode cX4_goOnFromNearestOfAll 0 = .ok (.iconst 0, 1) := by decide +kernel
theorem dX4_goOnFromNearestOfAll_1 : decode cX4_goOnFromNearestOfAll 1 = .ok (.istore_n 2, 1) := by decide +kernel
theorem dX4_goOnFromNearestOfAll_2 : decode cX4_goOnFromNearestOfAll 2 = .ok (.iload_n 2, 1) := by decide +kernel
theorem dX4_goOnFromNearestOfAll_3 : decode cX4_goOnFromNearestOfAll 3 = .ok (.aload_n 1, 1) := by decide +kernel
theorem dX4_goOnFromNearestOfAll_4 : decode cX4_goOnFromNearestOfAll 4 = .ok (.getfield 26, 3) := by decide +kernel
theorem dX4_goOnFromNearestOfAll_7 : decode cX4_goOnFromNearestOfAll 7 = .ok (.if_icmp .ge 15, 3) := by decide +kernel
theorem dX4_goOnFromNearestOfAll_10 : decode cX4_goOnFromNearestOfAll 10 = .ok (.aload_n 0, 1) := by decide +kernel
theorem dX4_goOnFromNearestOfAll_11 : decode cX4_goOnFromNearestOfAll 11 = .ok (.aload_n 1, 1) := by decide +kernel
theorem dX4_goOnFromNearestOfAll_12 : decode cX4_goOnFromNearestOfAll 12 = .ok (.iload_n 2, 1) := by decide +kernel
theorem dX4_goOnFromNearestOfAll_13 : decode cX4_goOnFromNearestOfAll 13 = .ok (.invokevirtual 18, 3) := by decide +kernel
theorem dX4_goOnFromNearestOfAll_16 : decode cX4_goOnFromNearestOfAll 16 = .ok (.iinc 2 1, 3) := by decide +kernel
theorem dX4_goOnFromNearestOfAll_19 : decode cX4_goOnFromNearestOfAll 19 = .ok (.goto (-17), 3) := by decide +kernel
theorem dX4_goOnFromNearestOfAll_22 : decode cX4_goOnFromNearestOfAll 22 = .ok (.return_, 1) := by decide +kernel
set_option maxRecDepth 100000 in
set_option maxHeartbeats 4000000 in
theorem c_goOnFromNearestOfAll {l : Launch} {g : Nat → Nat} {M : LH} (htr : l.stackTraces = false) {kd : Nat → Nat} {r a : Nat} {ad : Nat → Nat} {sl le : Int32 → Nat} {fg tp : Int32} {F : Nat → Int32 → Int32} {σ : Int32 → Int32} (hC : StR kd r M a ad sl le fg tp F σ) {dd bn bs : Nat} (hDD : M dd = some (ob 3 [.ref bn, .ref bs])) {f : Int32 → Int32} (hB : M bn = some (ia 49 f)) (hkb : ¬ kd bn = r) : K_X4_goOnFromNearestOfAll l g 3 0 0 [.ref dd, .ref a] M (RV (fun M9 => ∃ f', (∀ q, 0 ≤ q → q < σ 5 → NX σ 120 q f') ∧ M9 = hup M bn (ia 49 f')) nX) := by
  refine Ko_X4_goOnFromNearestOfAll htr (fun X => ?_)
  have hC0 := hC
  obtain ⟨hSt, hRo, -, -, -, -, hkd, -, ⟨-, hRd, -, -⟩, hG⟩ := hC
  have hR := Rds_of hG
  obtain ⟨hg1, hg2, -⟩ := hG
  have nbS : ¬ a = bn := ne_of_cell hSt hB ob_ia
  have nbD : ¬ dd = bn := ne_of_cell hDD hB ob_ia
  have key : ∀ i, 0 ≤ i → i ≤ σ 5 → ∀ (f' : Int32 → Int32), (∀ q, 0 ≤ q → q < i → NX σ 120 q f') → V l g yX4_goOnFromNearestOfAll cX4_goOnFromNearestOfAll none [] 3 0 0 (RV (fun M9 => ∃ f', (∀ q, 0 ≤ q → q < σ 5 → NX σ 120 q f') ∧ M9 = hup M bn (ia 49 f')) nX) X (hup M bn (ia 49 f')) 0 0 2 [some (.ref dd), some (.ref a), some (.int i)] [] := by
    refine up_ind _ (fun i h0 h1 ih f' hv => ?_)
    have hC1 := StR.kept hC0 (fun z => hkb z.symm) (Frm.up (kd := kd) (M := M) (e := ia 49 f') (rfl : kd bn = kd bn))
    refine v_iload_n dX4_goOnFromNearestOfAll_2 rfl rfl ?_
    refine v_aload_n dX4_goOnFromNearestOfAll_3 rfl rfl ?_
    refine gf_X4_26 dX4_goOnFromNearestOfAll_4 rfl ((hup_n nbS).trans hSt) ?_
    refine v_icmp_ge (tgt := 22) dX4_goOnFromNearestOfAll_7 (by decide) (fun h7 => ?_) (fun h7 => ?_)
    · have hi : i = σ 5 := by lia
      subst hi
      exact v_vret dX4_goOnFromNearestOfAll_22 rfl ⟨f', hv, rfl⟩ (by omega) (by omega)
    · have hi : i < σ 5 := by lia
      have hi7 : i < 7 := by lia
      refine v_aload_n dX4_goOnFromNearestOfAll_10 rfl rfl ?_
      refine v_aload_n dX4_goOnFromNearestOfAll_11 rfl rfl ?_
      refine v_iload_n dX4_goOnFromNearestOfAll_12 rfl rfl ?_
      refine k_X4_18 dX4_goOnFromNearestOfAll_13 rfl (c_goOnFromNearest htr hC1 ((hup_n nbD).trans hDD) hup_s hkb h0 hi) ((hup_n nbD).trans hDD) (Nat.le_of_ble_eq_true rfl) (by omega) (by omega) (Nat.le_of_ble_eq_true rfl) (fun M9 h9 => ?_) (fun _ _ h9 => h9.elim)
      obtain ⟨f2, hq, e9⟩ := h9
      rw [hup_hup] at e9
      subst M9
      refine v_iinc_2 dX4_goOnFromNearestOfAll_16 rfl ?_
      refine v_goto (tgt := 2) dX4_goOnFromNearestOfAll_19 (by decide) ?_
      refine ih hi _ (fun q q0 q1 => ?_)
      rcases (by lia : q = i ∨ q < i) with e | e
      · rw [e]
        exact hq.nx
      · exact hq.ot hg2 h0 hi q0 (by lia) (by lia) (hv q q0 e)
  refine v_iconst (v := 0) dX4_goOnFromNearestOfAll_0 (by decide) ?_
  refine v_istore_2 dX4_goOnFromNearestOfAll_1 ?_
  have hk0 := key 0 (by lia) hg1 f (fun q a b => absurd b (by lia))
  rw [hup_id hB] at hk0
  exact hk0

theorem dX4_startWithRoads_0 : decode cX4_startWithRoads 0 = .ok (.iconst 0, 1) := by decide +kernel
theorem dX4_startWithRoads_1 : decode cX4_startWithRoads 1 = .ok (.istore_n 2, 1) := by decide +kernel
theorem dX4_startWithRoads_2 : decode cX4_startWithRoads 2 = .ok (.iload_n 2, 1) := by decide +kernel
theorem dX4_startWithRoads_3 : decode cX4_startWithRoads 3 = .ok (.aload_n 1, 1) := by decide +kernel
theorem dX4_startWithRoads_4 : decode cX4_startWithRoads 4 = .ok (.getfield 26, 3) := by decide +kernel
theorem dX4_startWithRoads_7 : decode cX4_startWithRoads 7 = .ok (.if_icmp .ge 72, 3) := by decide +kernel
theorem dX4_startWithRoads_10 : decode cX4_startWithRoads 10 = .ok (.iconst 0, 1) := by decide +kernel
theorem dX4_startWithRoads_11 : decode cX4_startWithRoads 11 = .ok (.istore_n 3, 1) := by decide +kernel
theorem dX4_startWithRoads_12 : decode cX4_startWithRoads 12 = .ok (.iload_n 3, 1) := by decide +kernel
theorem dX4_startWithRoads_13 : decode cX4_startWithRoads 13 = .ok (.aload_n 1, 1) := by decide +kernel
theorem dX4_startWithRoads_14 : decode cX4_startWithRoads 14 = .ok (.getfield 26, 3) := by decide +kernel
theorem dX4_startWithRoads_17 : decode cX4_startWithRoads 17 = .ok (.if_icmp .ge 56, 3) := by decide +kernel
theorem dX4_startWithRoads_20 : decode cX4_startWithRoads 20 = .ok (.aload_n 1, 1) := by decide +kernel
theorem dX4_startWithRoads_21 : decode cX4_startWithRoads 21 = .ok (.getfield 41, 3) := by decide +kernel
theorem dX4_startWithRoads_24 : decode cX4_startWithRoads 24 = .ok (.iload_n 2, 1) := by decide +kernel
theorem dX4_startWithRoads_25 : decode cX4_startWithRoads 25 = .ok (.iload_n 3, 1) := by decide +kernel
theorem dX4_startWithRoads_26 : decode cX4_startWithRoads 26 = .ok (.invokestatic 22, 3) := by decide +kernel
theorem dX4_startWithRoads_29 : decode cX4_startWithRoads 29 = .ok (.iaload, 1) := by decide +kernel
theorem dX4_startWithRoads_30 : decode cX4_startWithRoads 30 = .ok (.istore 4, 2) := by decide +kernel
theorem dX4_startWithRoads_32 : decode cX4_startWithRoads 32 = .ok (.iload 4, 2) := by decide +kernel
theorem dX4_startWithRoads_34 : decode cX4_startWithRoads 34 = .ok (.ifCond .le 8, 3) := by decide +kernel
theorem dX4_startWithRoads_37 : decode cX4_startWithRoads 37 = .ok (.iload 4, 2) := by decide +kernel
theorem dX4_startWithRoads_39 : decode cX4_startWithRoads 39 = .ok (.goto 5, 3) := by decide +kernel
theorem dX4_startWithRoads_42 : decode cX4_startWithRoads 42 = .ok (.ldc 32, 2) := by decide +kernel
theorem dX4_startWithRoads_44 : decode cX4_startWithRoads 44 = .ok (.istore 5, 2) := by decide +kernel
theorem dX4_startWithRoads_46 : decode cX4_startWithRoads 46 = .ok (.aload_n 0, 1) := by decide +kernel
theorem dX4_startWithRoads_47 : decode cX4_startWithRoads 47 = .ok (.getfield 15, 3) := by decide +kernel
theorem dX4_startWithRoads_50 : decode cX4_startWithRoads 50 = .ok (.iload_n 2, 1) := by decide +kernel
theorem dX4_startWithRoads_51 : decode cX4_startWithRoads 51 = .ok (.iload_n 3, 1) := by decide +kernel
theorem dX4_startWithRoads_52 : decode cX4_startWithRoads 52 = .ok (.invokestatic 22, 3) := by decide +kernel
theorem dX4_startWithRoads_55 : decode cX4_startWithRoads 55 = .ok (.iload_n 2, 1) := by decide +kernel
theorem dX4_startWithRoads_56 : decode cX4_startWithRoads 56 = .ok (.iload_n 3, 1) := by decide +kernel
theorem dX4_startWithRoads_57 : decode cX4_startWithRoads 57 = .ok (.if_icmp .ne 7, 3) := by decide +kernel
theorem dX4_startWithRoads_60 : decode cX4_startWithRoads 60 = .ok (.iconst 0, 1) := by decide +kernel
theorem dX4_startWithRoads_61 : decode cX4_startWithRoads 61 = .ok (.goto 5, 3) := by decide +kernel
theorem dX4_startWithRoads_64 : decode cX4_startWithRoads 64 = .ok (.iload 5, 2) := by decide +kernel
theorem dX4_startWithRoads_66 : decode cX4_startWithRoads 66 = .ok (.iastore, 1) := by decide +kernel
theorem dX4_startWithRoads_67 : decode cX4_startWithRoads 67 = .ok (.iinc 3 1, 3) := by decide +kernel
theorem dX4_startWithRoads_70 : decode cX4_startWithRoads 70 = .ok (.goto (-58), 3) := by decide +kernel
theorem dX4_startWithRoads_73 : decode cX4_startWithRoads 73 = .ok (.iinc 2 1, 3) := by decide +kernel
theorem dX4_startWithRoads_76 : decode cX4_startWithRoads 76 = .ok (.goto (-74), 3) := by decide +kernel
theorem dX4_startWithRoads_79 : decode cX4_startWithRoads 79 = .ok (.return_, 1) := by decide +kernel
set_option maxRecDepth 100000 in
set_option maxHeartbeats 4000000 in
theorem c_startWithRoads {l : Launch} {g : Nat → Nat} {M : LH} (htr : l.stackTraces = false) {kd : Nat → Nat} {r a : Nat} {ad : Nat → Nat} {sl le : Int32 → Nat} {fg tp : Int32} {F : Nat → Int32 → Int32} {σ : Int32 → Int32} (hC : StR kd r M a ad sl le fg tp F σ) {dd bn bs : Nat} (hDD : M dd = some (ob 3 [.ref bn, .ref bs])) {f : Int32 → Int32} (hB : M bs = some (ia 49 f)) (hkb : ¬ kd bs = r) : K_X4_startWithRoads l g 1 0 0 [.ref dd, .ref a] M (RV (fun M9 => ∃ f', (∀ x y, 0 ≤ x → x < σ 5 → 0 ≤ y → y < σ 5 → f' (x * 7 + y) = dirW σ x y) ∧ M9 = hup M bs (ia 49 f')) nX) := by
  refine Ko_X4_startWithRoads htr (fun X => ?_)
  have hC0 := hC
  obtain ⟨hSt, hRo, -, -, -, -, hkd, -, ⟨-, hRd, -, -⟩, hG⟩ := hC
  have hR := Rds_of hG
  obtain ⟨hg1, hg2, -⟩ := hG
  have nbS : ¬ a = bs := ne_of_cell hSt hB ob_ia
  have nbD : ¬ dd = bs := ne_of_cell hDD hB ob_ia
  have nbR : ¬ ad 0 = bs := fun z => hkb (by rw [← z]; exact hkd.2.1)
  have key1 : ∀ i, 0 ≤ i → i ≤ σ 5 → ∀ (f' : Int32 → Int32) (z3 z4 z5 : Option Value), Tb (σ 5) i 0 (dirW σ) (fun x y => f (x * 7 + y)) f' → V l g yX4_startWithRoads cX4_startWithRoads none [] 1 0 0 (RV (fun M9 => ∃ f', (∀ x y, 0 ≤ x → x < σ 5 → 0 ≤ y → y < σ 5 → f' (x * 7 + y) = dirW σ x y) ∧ M9 = hup M bs (ia 49 f')) nX) X (hup M bs (ia 49 f')) 0 0 2 [some (.ref dd), some (.ref a), some (.int i), z3, z4, z5] [] := by
    refine up_ind _ (fun i h0 h1 ih f' z3 z4 z5 hv => ?_)
    have key2 : i < σ 5 → ∀ j, 0 ≤ j → j ≤ σ 5 → ∀ (f' : Int32 → Int32) (z4 z5 : Option Value), Tb (σ 5) i j (dirW σ) (fun x y => f (x * 7 + y)) f' → V l g yX4_startWithRoads cX4_startWithRoads none [] 1 0 0 (RV (fun M9 => ∃ f', (∀ x y, 0 ≤ x → x < σ 5 → 0 ≤ y → y < σ 5 → f' (x * 7 + y) = dirW σ x y) ∧ M9 = hup M bs (ia 49 f')) nX) X (hup M bs (ia 49 f')) 0 0 12 [some (.ref dd), some (.ref a), some (.int i), some (.int j), z4, z5] [] := by
      intro hi
      refine up_ind _ (fun j k0 k1 jh f' z4 z5 hv => ?_)
      refine v_iload_n dX4_startWithRoads_12 rfl rfl ?_
      refine v_aload_n dX4_startWithRoads_13 rfl rfl ?_
      refine gf_X4_26 dX4_startWithRoads_14 rfl ((hup_n nbS).trans hSt) ?_
      refine v_icmp_ge (tgt := 73) dX4_startWithRoads_17 (by decide) (fun h17 => ?_) (fun h17 => ?_)
      · have hj : j = σ 5 := by lia
        subst hj
        refine v_iinc_2 dX4_startWithRoads_73 rfl ?_
        refine v_goto (tgt := 2) dX4_startWithRoads_76 (by decide) ?_
        exact ih hi _ _ _ _ (hv.row hg2 hi)
      · have hj : j < σ 5 := by lia
        have hj7 : j < 7 := by lia
        obtain ⟨b0, b1⟩ := cell_in h0 (by lia) k0 hj7
        have hrd : F 11 (i * 7 + j) = rd σ i j := by
          rw [← hRd i j h0 (by lia) k0 hj7, Int32.mul_comm]
        refine v_aload_n dX4_startWithRoads_20 rfl rfl ?_
        refine gf_X4_41 dX4_startWithRoads_21 rfl ((hup_n nbS).trans hSt) ?_
        refine v_iload_n dX4_startWithRoads_24 rfl rfl ?_
        refine v_iload_n dX4_startWithRoads_25 rfl rfl ?_
        refine k_X4_22 dX4_startWithRoads_26 rfl (c_cell htr i j) (Nat.le_of_ble_eq_true rfl) (by omega) (by omega) (Nat.le_of_ble_eq_true rfl) (fun r26 M9 h9 => ?_) (fun _ _ h9 => h9.elim)
        obtain ⟨rfl, e9⟩ := h9
        subst M9
        refine v_iald dX4_startWithRoads_29 ((hup_n nbR).trans hRo) b0 b1 ?_
        rw [hrd]
        refine v_istore_4 dX4_startWithRoads_30 ?_
        refine v_iload dX4_startWithRoads_32 rfl ?_
        refine v_if_le (tgt := 42) dX4_startWithRoads_34 (by decide) (fun h34 => ?_) (fun h34 => ?_)
        · refine lc_X4_32 dX4_startWithRoads_42 rfl ?_
          refine v_istore_5 dX4_startWithRoads_44 ?_
          refine v_aload_n dX4_startWithRoads_46 rfl rfl ?_
          refine gf_X4_15 dX4_startWithRoads_47 rfl ((hup_n nbD).trans hDD) ?_
          refine v_iload_n dX4_startWithRoads_50 rfl rfl ?_
          refine v_iload_n dX4_startWithRoads_51 rfl rfl ?_
          refine k_X4_22 dX4_startWithRoads_52 rfl (c_cell htr i j) (Nat.le_of_ble_eq_true rfl) (by omega) (by omega) (Nat.le_of_ble_eq_true rfl) (fun r52 M9 h9 => ?_) (fun _ _ h9 => h9.elim)
          obtain ⟨rfl, e9⟩ := h9
          subst M9
          refine v_iload_n dX4_startWithRoads_55 rfl rfl ?_
          refine v_iload_n dX4_startWithRoads_56 rfl rfl ?_
          refine v_icmp_ne (tgt := 64) dX4_startWithRoads_57 (by decide) (fun h57 => ?_) (fun h57 => ?_)
          · refine v_iload dX4_startWithRoads_64 rfl ?_
            refine v_iast dX4_startWithRoads_66 hup_s b0 b1 ?_
            refine v_iinc_3 dX4_startWithRoads_67 rfl ?_
            refine v_goto (tgt := 12) dX4_startWithRoads_70 (by decide) ?_
            rw [hup_hup]
            refine jh hj _ _ _ (hv.step hg2 h0 hi k0 hj ?_)
            unfold dirW
            first
              | rw [if_pos (by assumption)]
              | rw [if_neg (by assumption), if_pos (by first | assumption | exact Int32.not_le.mp (by assumption))]
              | rw [if_neg (by assumption), if_neg (by first | assumption | exact Int32.not_lt.mpr (by assumption))]
          · refine v_iconst (v := 0) dX4_startWithRoads_60 (by decide) ?_
            refine v_goto (tgt := 66) dX4_startWithRoads_61 (by decide) ?_
            refine v_iast dX4_startWithRoads_66 hup_s b0 b1 ?_
            refine v_iinc_3 dX4_startWithRoads_67 rfl ?_
            refine v_goto (tgt := 12) dX4_startWithRoads_70 (by decide) ?_
            rw [hup_hup]
            refine jh hj _ _ _ (hv.step hg2 h0 hi k0 hj ?_)
            unfold dirW
            first
              | rw [if_pos (by assumption)]
              | rw [if_neg (by assumption), if_pos (by first | assumption | exact Int32.not_le.mp (by assumption))]
              | rw [if_neg (by assumption), if_neg (by first | assumption | exact Int32.not_lt.mpr (by assumption))]
        · refine v_iload dX4_startWithRoads_37 rfl ?_
          refine v_goto (tgt := 44) dX4_startWithRoads_39 (by decide) ?_
          refine v_istore_5 dX4_startWithRoads_44 ?_
          refine v_aload_n dX4_startWithRoads_46 rfl rfl ?_
          refine gf_X4_15 dX4_startWithRoads_47 rfl ((hup_n nbD).trans hDD) ?_
          refine v_iload_n dX4_startWithRoads_50 rfl rfl ?_
          refine v_iload_n dX4_startWithRoads_51 rfl rfl ?_
          refine k_X4_22 dX4_startWithRoads_52 rfl (c_cell htr i j) (Nat.le_of_ble_eq_true rfl) (by omega) (by omega) (Nat.le_of_ble_eq_true rfl) (fun r52 M9 h9 => ?_) (fun _ _ h9 => h9.elim)
          obtain ⟨rfl, e9⟩ := h9
          subst M9
          refine v_iload_n dX4_startWithRoads_55 rfl rfl ?_
          refine v_iload_n dX4_startWithRoads_56 rfl rfl ?_
          refine v_icmp_ne (tgt := 64) dX4_startWithRoads_57 (by decide) (fun h57 => ?_) (fun h57 => ?_)
          · refine v_iload dX4_startWithRoads_64 rfl ?_
            refine v_iast dX4_startWithRoads_66 hup_s b0 b1 ?_
            refine v_iinc_3 dX4_startWithRoads_67 rfl ?_
            refine v_goto (tgt := 12) dX4_startWithRoads_70 (by decide) ?_
            rw [hup_hup]
            refine jh hj _ _ _ (hv.step hg2 h0 hi k0 hj ?_)
            unfold dirW
            first
              | rw [if_pos (by assumption)]
              | rw [if_neg (by assumption), if_pos (by first | assumption | exact Int32.not_le.mp (by assumption))]
              | rw [if_neg (by assumption), if_neg (by first | assumption | exact Int32.not_lt.mpr (by assumption))]
          · refine v_iconst (v := 0) dX4_startWithRoads_60 (by decide) ?_
            refine v_goto (tgt := 66) dX4_startWithRoads_61 (by decide) ?_
            refine v_iast dX4_startWithRoads_66 hup_s b0 b1 ?_
            refine v_iinc_3 dX4_startWithRoads_67 rfl ?_
            refine v_goto (tgt := 12) dX4_startWithRoads_70 (by decide) ?_
            rw [hup_hup]
            refine jh hj _ _ _ (hv.step hg2 h0 hi k0 hj ?_)
            unfold dirW
            first
              | rw [if_pos (by assumption)]
              | rw [if_neg (by assumption), if_pos (by first | assumption | exact Int32.not_le.mp (by assumption))]
              | rw [if_neg (by assumption), if_neg (by first | assumption | exact Int32.not_lt.mpr (by assumption))]
    refine v_iload_n dX4_startWithRoads_2 rfl rfl ?_
    refine v_aload_n dX4_startWithRoads_3 rfl rfl ?_
    refine gf_X4_26 dX4_startWithRoads_4 rfl ((hup_n nbS).trans hSt) ?_
    refine v_icmp_ge (tgt := 79) dX4_startWithRoads_7 (by decide) (fun h7 => ?_) (fun h7 => ?_)
    · have hi : i = σ 5 := by lia
      subst hi
      exact v_vret dX4_startWithRoads_79 rfl ⟨f', hv.all, rfl⟩ (by omega) (by omega)
    · have hi : i < σ 5 := by lia
      refine v_iconst (v := 0) dX4_startWithRoads_10 (by decide) ?_
      refine v_istore_3 dX4_startWithRoads_11 ?_
      exact key2 hi 0 (by lia) hg1 f' _ _ hv
  refine v_iconst (v := 0) dX4_startWithRoads_0 (by decide) ?_
  refine v_istore_2 dX4_startWithRoads_1 ?_
  have hk0 := key1 0 (by lia) hg1 f none none none Tb.z
  rw [hup_id hB] at hk0
  exact hk0

theorem dX4_allowStation_0 : decode cX4_allowStation 0 = .ok (.iconst 0, 1) := by decide +kernel
theorem dX4_allowStation_1 : decode cX4_allowStation 1 = .ok (.istore_n 3, 1) := by decide +kernel
theorem dX4_allowStation_2 : decode cX4_allowStation 2 = .ok (.iload_n 3, 1) := by decide +kernel
theorem dX4_allowStation_3 : decode cX4_allowStation 3 = .ok (.iload_n 1, 1) := by decide +kernel
theorem dX4_allowStation_4 : decode cX4_allowStation 4 = .ok (.if_icmp .ge 75, 3) := by decide +kernel
theorem dX4_allowStation_7 : decode cX4_allowStation 7 = .ok (.iconst 0, 1) := by decide +kernel
theorem dX4_allowStation_8 : decode cX4_allowStation 8 = .ok (.istore 4, 2) := by decide +kernel
theorem dX4_allowStation_10 : decode cX4_allowStation 10 = .ok (.iload 4, 2) := by decide +kernel
theorem dX4_allowStation_12 : decode cX4_allowStation 12 = .ok (.iload_n 1, 1) := by decide +kernel
theorem dX4_allowStation_13 : decode cX4_allowStation 13 = .ok (.if_icmp .ge 60, 3) := by decide +kernel
theorem dX4_allowStation_16 : decode cX4_allowStation 16 = .ok (.aload_n 0, 1) := by decide +kernel
theorem dX4_allowStation_17 : decode cX4_allowStation 17 = .ok (.getfield 15, 3) := by decide +kernel
theorem dX4_allowStation_20 : decode cX4_allowStation 20 = .ok (.iload_n 3, 1) := by decide +kernel
theorem dX4_allowStation_21 : decode cX4_allowStation 21 = .ok (.iload_n 2, 1) := by decide +kernel
theorem dX4_allowStation_22 : decode cX4_allowStation 22 = .ok (.invokestatic 22, 3) := by decide +kernel
theorem dX4_allowStation_25 : decode cX4_allowStation 25 = .ok (.iaload, 1) := by decide +kernel
theorem dX4_allowStation_26 : decode cX4_allowStation 26 = .ok (.aload_n 0, 1) := by decide +kernel
theorem dX4_allowStation_27 : decode cX4_allowStation 27 = .ok (.getfield 15, 3) := by decide +kernel
theorem dX4_allowStation_30 : decode cX4_allowStation 30 = .ok (.iload_n 2, 1) := by decide +kernel
theorem dX4_allowStation_31 : decode cX4_allowStation 31 = .ok (.iload 4, 2) := by decide +kernel
theorem dX4_allowStation_33 : decode cX4_allowStation 33 = .ok (.invokestatic 22, 3) := by decide +kernel
theorem dX4_allowStation_36 : decode cX4_allowStation 36 = .ok (.iaload, 1) := by decide +kernel
theorem dX4_allowStation_37 : decode cX4_allowStation 37 = .ok (.iadd, 1) := by decide +kernel
theorem dX4_allowStation_38 : decode cX4_allowStation 38 = .ok (.istore 5, 2) := by decide +kernel
theorem dX4_allowStation_40 : decode cX4_allowStation 40 = .ok (.iload_n 3, 1) := by decide +kernel
theorem dX4_allowStation_41 : decode cX4_allowStation 41 = .ok (.iload 4, 2) := by decide +kernel
theorem dX4_allowStation_43 : decode cX4_allowStation 43 = .ok (.invokestatic 22, 3) := by decide +kernel
theorem dX4_allowStation_46 : decode cX4_allowStation 46 = .ok (.istore 6, 2) := by decide +kernel
theorem dX4_allowStation_48 : decode cX4_allowStation 48 = .ok (.aload_n 0, 1) := by decide +kernel
theorem dX4_allowStation_49 : decode cX4_allowStation 49 = .ok (.getfield 15, 3) := by decide +kernel
theorem dX4_allowStation_52 : decode cX4_allowStation 52 = .ok (.iload 6, 2) := by decide +kernel
theorem dX4_allowStation_54 : decode cX4_allowStation 54 = .ok (.aload_n 0, 1) := by decide +kernel
theorem dX4_allowStation_55 : decode cX4_allowStation 55 = .ok (.getfield 15, 3) := by decide +kernel
theorem dX4_allowStation_58 : decode cX4_allowStation 58 = .ok (.iload 6, 2) := by decide +kernel
theorem dX4_allowStation_60 : decode cX4_allowStation 60 = .ok (.iaload, 1) := by decide +kernel
theorem dX4_allowStation_61 : decode cX4_allowStation 61 = .ok (.iload 5, 2) := by decide +kernel
theorem dX4_allowStation_63 : decode cX4_allowStation 63 = .ok (.invokestatic 52, 3) := by decide +kernel
theorem dX4_allowStation_66 : decode cX4_allowStation 66 = .ok (.iastore, 1) := by decide +kernel
theorem dX4_allowStation_67 : decode cX4_allowStation 67 = .ok (.iinc 4 1, 3) := by decide +kernel
theorem dX4_allowStation_70 : decode cX4_allowStation 70 = .ok (.goto (-60), 3) := by decide +kernel
theorem dX4_allowStation_73 : decode cX4_allowStation 73 = .ok (.iinc 3 1, 3) := by decide +kernel
theorem dX4_allowStation_76 : decode cX4_allowStation 76 = .ok (.goto (-74), 3) := by decide +kernel
theorem dX4_allowStation_79 : decode cX4_allowStation 79 = .ok (.return_, 1) := by decide +kernel
set_option maxRecDepth 100000 in
set_option maxHeartbeats 4000000 in
theorem c_allowStation {l : Launch} {g : Nat → Nat} {M : LH} (htr : l.stackTraces = false) {dd bn bs : Nat} (hDD : M dd = some (ob 3 [.ref bn, .ref bs])) {f : Int32 → Int32} (hB : M bs = some (ia 49 f)) {n m : Int32} (hn0 : 0 ≤ n) (hn7 : n ≤ 7) (hm0 : 0 ≤ m) (hm : m < n) (hz : f (m * 7 + m) = 0) : K_X4_allowStation l g 1 0 0 [.ref dd, .int n, .int m] M (RV (fun M9 => ∃ f', (∀ x y, 0 ≤ x → x < n → 0 ≤ y → y < n → f' (x * 7 + y) = mn7 f m x y) ∧ M9 = hup M bs (ia 49 f')) nX) := by
  refine Ko_X4_allowStation htr (fun X => ?_)
  have nbD : ¬ dd = bs := ne_of_cell hDD hB ob_ia
  have key1 : ∀ i, 0 ≤ i → i ≤ n → ∀ (f' : Int32 → Int32) (z4 z5 z6 : Option Value), Tb n i 0 (mn7 f m) (fun x y => f (x * 7 + y)) f' → V l g yX4_allowStation cX4_allowStation none [] 1 0 0 (RV (fun M9 => ∃ f', (∀ x y, 0 ≤ x → x < n → 0 ≤ y → y < n → f' (x * 7 + y) = mn7 f m x y) ∧ M9 = hup M bs (ia 49 f')) nX) X (hup M bs (ia 49 f')) 0 0 2 [some (.ref dd), some (.int n), some (.int m), some (.int i), z4, z5, z6] [] := by
    refine up_ind _ (fun i h0 h1 ih f' z4 z5 z6 hv => ?_)
    have key2 : i < n → ∀ j, 0 ≤ j → j ≤ n → ∀ (f' : Int32 → Int32) (z5 z6 : Option Value), Tb n i j (mn7 f m) (fun x y => f (x * 7 + y)) f' → V l g yX4_allowStation cX4_allowStation none [] 1 0 0 (RV (fun M9 => ∃ f', (∀ x y, 0 ≤ x → x < n → 0 ≤ y → y < n → f' (x * 7 + y) = mn7 f m x y) ∧ M9 = hup M bs (ia 49 f')) nX) X (hup M bs (ia 49 f')) 0 0 10 [some (.ref dd), some (.int n), some (.int m), some (.int i), some (.int j), z5, z6] [] := by
      intro hi
      refine up_ind _ (fun j k0 k1 jh f' z5 z6 hv => ?_)
      refine v_iload dX4_allowStation_10 rfl ?_
      refine v_iload_n dX4_allowStation_12 rfl rfl ?_
      refine v_icmp_ge (tgt := 73) dX4_allowStation_13 (by decide) (fun h13 => ?_) (fun h13 => ?_)
      · have hj : j = n := by lia
        subst hj
        refine v_iinc_3 dX4_allowStation_73 rfl ?_
        refine v_goto (tgt := 2) dX4_allowStation_76 (by decide) ?_
        exact ih hi _ _ _ _ (hv.row hn7 hi)
      · have hj : j < n := by lia
        have hj7 : j < 7 := by lia
        obtain ⟨b0, b1⟩ := cell_in h0 (by lia) k0 hj7
        obtain ⟨a0, a1⟩ := cell_in h0 (by lia) hm0 (by lia)
        obtain ⟨d0, d1⟩ := cell_in hm0 (by lia) k0 hj7
        have e1 := hv.colm hz hm0 hm h0 hi
        have e2 := hv.rowm hz hm0 hm k0 hj
        have e3 := hv.hr h0 hi k0 hj
        refine v_aload_n dX4_allowStation_16 rfl rfl ?_
        refine gf_X4_15 dX4_allowStation_17 rfl ((hup_n nbD).trans hDD) ?_
        refine v_iload_n dX4_allowStation_20 rfl rfl ?_
        refine v_iload_n dX4_allowStation_21 rfl rfl ?_
        refine k_X4_22 dX4_allowStation_22 rfl (c_cell htr i m) (Nat.le_of_ble_eq_true rfl) (by omega) (by omega) (Nat.le_of_ble_eq_true rfl) (fun r22 M9 h9 => ?_) (fun _ _ h9 => h9.elim)
        obtain ⟨rfl, e9⟩ := h9
        subst M9
        refine v_iald dX4_allowStation_25 hup_s a0 a1 ?_
        rw [e1]
        refine v_aload_n dX4_allowStation_26 rfl rfl ?_
        refine gf_X4_15 dX4_allowStation_27 rfl ((hup_n nbD).trans hDD) ?_
        refine v_iload_n dX4_allowStation_30 rfl rfl ?_
        refine v_iload dX4_allowStation_31 rfl ?_
        refine k_X4_22 dX4_allowStation_33 rfl (c_cell htr m j) (Nat.le_of_ble_eq_true rfl) (by omega) (by omega) (Nat.le_of_ble_eq_true rfl) (fun r33 M9 h9 => ?_) (fun _ _ h9 => h9.elim)
        obtain ⟨rfl, e9⟩ := h9
        subst M9
        refine v_iald dX4_allowStation_36 hup_s d0 d1 ?_
        rw [e2]
        refine v_iadd dX4_allowStation_37 ?_
        refine v_istore_5 dX4_allowStation_38 ?_
        refine v_iload_n dX4_allowStation_40 rfl rfl ?_
        refine v_iload dX4_allowStation_41 rfl ?_
        refine k_X4_22 dX4_allowStation_43 rfl (c_cell htr i j) (Nat.le_of_ble_eq_true rfl) (by omega) (by omega) (Nat.le_of_ble_eq_true rfl) (fun r43 M9 h9 => ?_) (fun _ _ h9 => h9.elim)
        obtain ⟨rfl, e9⟩ := h9
        subst M9
        refine v_istore_6 dX4_allowStation_46 ?_
        refine v_aload_n dX4_allowStation_48 rfl rfl ?_
        refine gf_X4_15 dX4_allowStation_49 rfl ((hup_n nbD).trans hDD) ?_
        refine v_iload dX4_allowStation_52 rfl ?_
        refine v_aload_n dX4_allowStation_54 rfl rfl ?_
        refine gf_X4_15 dX4_allowStation_55 rfl ((hup_n nbD).trans hDD) ?_
        refine v_iload dX4_allowStation_58 rfl ?_
        refine v_iald dX4_allowStation_60 hup_s b0 b1 ?_
        rw [e3]
        refine v_iload dX4_allowStation_61 rfl ?_
        refine mm_X4_52 dX4_allowStation_63 rfl (Nat.le_of_ble_eq_true rfl) (by omega) (by omega) ?_
        refine v_iast dX4_allowStation_66 hup_s b0 b1 ?_
        refine v_iinc_4 dX4_allowStation_67 rfl ?_
        refine v_goto (tgt := 10) dX4_allowStation_70 (by decide) ?_
        rw [hup_hup]
        exact jh hj _ _ _ (hv.step hn7 h0 hi k0 hj rfl)
    refine v_iload_n dX4_allowStation_2 rfl rfl ?_
    refine v_iload_n dX4_allowStation_3 rfl rfl ?_
    refine v_icmp_ge (tgt := 79) dX4_allowStation_4 (by decide) (fun h4 => ?_) (fun h4 => ?_)
    · have hi : i = n := by lia
      subst hi
      exact v_vret dX4_allowStation_79 rfl ⟨f', hv.all, rfl⟩ (by omega) (by omega)
    · have hi : i < n := by lia
      refine v_iconst (v := 0) dX4_allowStation_7 (by decide) ?_
      refine v_istore_4 dX4_allowStation_8 ?_
      exact key2 hi 0 (by lia) hn0 f' _ _ hv
  refine v_iconst (v := 0) dX4_allowStation_0 (by decide) ?_
  refine v_istore_3 dX4_allowStation_1 ?_
  have hk0 := key1 0 (by lia) hn0 f none none none Tb.z
  rw [hup_id hB] at hk0
  exact hk0

theorem pow_k {k : Nat} (h : k ≤ (7 : Int32).toNatClampNeg) : (20 : Int) * 2 ^ k ≤ 2560 := by
  have h7 : k ≤ 7 := h
  have a : (2 : Nat) ^ k ≤ 2 ^ 7 := Nat.pow_le_pow_right (by decide) h7
  have b : ((2 : Nat) ^ k : Int) ≤ ((2 : Nat) ^ 7 : Nat) := by exact_mod_cast a
  have c : (((2 : Nat) ^ 7 : Nat) : Int) = 128 := rfl
  rw [c] at b
  have d : ((2 : Nat) : Int) = 2 := rfl
  rw [d] at b
  omega
theorem pow_0 (k : Nat) : (0 : Int) ≤ 20 * 2 ^ k := Int.mul_nonneg (by decide) (Int.pow_nonneg (by decide))
theorem pow_2 (k : Nat) : (20 : Int) * 2 ^ (k + 1) = 2 * (20 * 2 ^ k) := by
  rw [Int.pow_succ]
  omega
theorem dX4_allowMoreStations_0 : decode cX4_allowMoreStations 0 = .ok (.aload_n 0, 1) := by decide +kernel
theorem dX4_allowMoreStations_1 : decode cX4_allowMoreStations 1 = .ok (.aload_n 1, 1) := by decide +kernel
theorem dX4_allowMoreStations_2 : decode cX4_allowMoreStations 2 = .ok (.invokevirtual 44, 3) := by decide +kernel
theorem dX4_allowMoreStations_5 : decode cX4_allowMoreStations 5 = .ok (.iconst 0, 1) := by decide +kernel
theorem dX4_allowMoreStations_6 : decode cX4_allowMoreStations 6 = .ok (.istore_n 2, 1) := by decide +kernel
theorem dX4_allowMoreStations_7 : decode cX4_allowMoreStations 7 = .ok (.iload_n 2, 1) := by decide +kernel
theorem dX4_allowMoreStations_8 : decode cX4_allowMoreStations 8 = .ok (.aload_n 1, 1) := by decide +kernel
theorem dX4_allowMoreStations_9 : decode cX4_allowMoreStations 9 = .ok (.getfield 26, 3) := by decide +kernel
theorem dX4_allowMoreStations_12 : decode cX4_allowMoreStations 12 = .ok (.if_icmp .ge 18, 3) := by decide +kernel
theorem dX4_allowMoreStations_15 : decode cX4_allowMoreStations 15 = .ok (.aload_n 0, 1) := by decide +kernel
theorem dX4_allowMoreStations_16 : decode cX4_allowMoreStations 16 = .ok (.aload_n 1, 1) := by decide +kernel
theorem dX4_allowMoreStations_17 : decode cX4_allowMoreStations 17 = .ok (.getfield 26, 3) := by decide +kernel
theorem dX4_allowMoreStations_20 : decode cX4_allowMoreStations 20 = .ok (.iload_n 2, 1) := by decide +kernel
theorem dX4_allowMoreStations_21 : decode cX4_allowMoreStations 21 = .ok (.invokevirtual 48, 3) := by decide +kernel
theorem dX4_allowMoreStations_24 : decode cX4_allowMoreStations 24 = .ok (.iinc 2 1, 3) := by decide +kernel
theorem dX4_allowMoreStations_27 : decode cX4_allowMoreStations 27 = .ok (.goto (-20), 3) := by decide +kernel
theorem dX4_allowMoreStations_30 : decode cX4_allowMoreStations 30 = .ok (.return_, 1) := by decide +kernel
set_option maxRecDepth 100000 in
set_option maxHeartbeats 4000000 in
theorem c_allowMoreStations {l : Launch} {g : Nat → Nat} {M : LH} (htr : l.stackTraces = false) {kd : Nat → Nat} {r a : Nat} {ad : Nat → Nat} {sl le : Int32 → Nat} {fg tp : Int32} {F : Nat → Int32 → Int32} {σ : Int32 → Int32} (hC : StR kd r M a ad sl le fg tp F σ) {dd bn bs : Nat} (hDD : M dd = some (ob 3 [.ref bn, .ref bs])) {f : Int32 → Int32} (hB : M bs = some (ia 49 f)) (hkb : ¬ kd bs = r) : K_X4_allowMoreStations l g 2 0 0 [.ref dd, .ref a] M (RV (fun M9 => ∃ f', (∀ q, 0 ≤ q → q < σ 5 → NX σ 2560 q f') ∧ M9 = hup M bs (ia 49 f')) nX) := by
  refine Ko_X4_allowMoreStations htr (fun X => ?_)
  have hC0 := hC
  obtain ⟨hSt, hRo, -, -, -, -, hkd, -, ⟨-, hRd, -, -⟩, hG⟩ := hC
  have hR := Rds_of hG
  obtain ⟨hg1, hg2, -⟩ := hG
  have nbS : ¬ a = bs := ne_of_cell hSt hB ob_ia
  have nbD : ¬ dd = bs := ne_of_cell hDD hB ob_ia
  have nbR : ¬ ad 0 = bs := fun z => hkb (by rw [← z]; exact hkd.2.1)
  have key : ∀ i, 0 ≤ i → i ≤ σ 5 → ∀ (f' : Int32 → Int32), FJ σ i (20 * 2 ^ i.toNatClampNeg) (fun x y => (f' (x * 7 + y)).toInt) → V l g yX4_allowMoreStations cX4_allowMoreStations none [] 2 0 0 (RV (fun M9 => ∃ f', (∀ q, 0 ≤ q → q < σ 5 → NX σ 2560 q f') ∧ M9 = hup M bs (ia 49 f')) nX) X (hup M bs (ia 49 f')) 0 0 7 [some (.ref dd), some (.ref a), some (.int i)] [] := by
    refine up_ind _ (fun i h0 h1 ih f' hv => ?_)
    have hC1 := StR.kept hC0 (fun z => hkb z.symm) (Frm.up (kd := kd) (M := M) (e := ia 49 f') (rfl : kd bs = kd bs))
    refine v_iload_n dX4_allowMoreStations_7 rfl rfl ?_
    refine v_aload_n dX4_allowMoreStations_8 rfl rfl ?_
    refine gf_X4_26 dX4_allowMoreStations_9 rfl ((hup_n nbS).trans hSt) ?_
    refine v_icmp_ge (tgt := 30) dX4_allowMoreStations_12 (by decide) (fun h12 => ?_) (fun h12 => ?_)
    · have hi : i = σ 5 := by lia
      subst hi
      exact v_vret dX4_allowMoreStations_30 rfl ⟨f', fun q q0 q1 x x0 x1 => hv.done hR (pow_k (tc_le hg2)) q x q0 q1 x0 x1, rfl⟩ (by omega) (by omega)
    · have hi : i < σ 5 := by lia
      have hi7 : i < 7 := by lia
      have hz9 : f' (i * 7 + i) = 0 := i_eq.mpr (hv.1 i h0 hi)
      refine v_aload_n dX4_allowMoreStations_15 rfl rfl ?_
      refine v_aload_n dX4_allowMoreStations_16 rfl rfl ?_
      refine gf_X4_26 dX4_allowMoreStations_17 rfl ((hup_n nbS).trans hSt) ?_
      refine v_iload_n dX4_allowMoreStations_20 rfl rfl ?_
      refine k_X4_48 dX4_allowMoreStations_21 rfl (c_allowStation htr ((hup_n nbD).trans hDD) hup_s hg1 hg2 h0 hi hz9) ((hup_n nbD).trans hDD) (Nat.le_of_ble_eq_true rfl) (by omega) (by omega) (Nat.le_of_ble_eq_true rfl) (fun M9 h9 => ?_) (fun _ _ h9 => h9.elim)
      obtain ⟨f2, hq, e9⟩ := h9
      rw [hup_hup] at e9
      subst M9
      refine v_iinc_2 dX4_allowMoreStations_24 rfl ?_
      refine v_goto (tgt := 7) dX4_allowMoreStations_27 (by decide) ?_
      refine ih hi _ ?_
      rw [(tc_i1 h0 hi7).1, pow_2]
      exact hv.mnS hg2 h0 hi (pow_0 _) hq
  refine v_aload_n dX4_allowMoreStations_0 rfl rfl ?_
  refine v_aload_n dX4_allowMoreStations_1 rfl rfl ?_
  refine k_X4_44 dX4_allowMoreStations_2 rfl (c_startWithRoads htr hC0 hDD hB hkb) hDD (Nat.le_of_ble_eq_true rfl) (by omega) (by omega) (Nat.le_of_ble_eq_true rfl) (fun M9 h9 => ?_) (fun _ _ h9 => h9.elim)
  obtain ⟨f', hq, e9⟩ := h9
  subst M9
  refine v_iconst (v := 0) dX4_allowMoreStations_5 (by decide) ?_
  refine v_istore_2 dX4_allowMoreStations_6 ?_
  exact key 0 (by lia) hg1 f' ((FJ.z hg2 hR).cg hg1 (fun x y x0 x1 y0 y1 => by rw [hq x y x0 x1 y0 y1]))

