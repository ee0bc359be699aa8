/-! ===== an hour: what it does to the words ===== -/
theorem Good.cgL {σ σ' : Int32 → Int32} (h : Good σ) (e : ∀ j, 0 ≤ j → j < 66 → ¬ j = 0 → ¬ j = 2 → ¬ j = 3 → ¬ j = 7 → σ' j = σ j) (h70 : 0 ≤ σ' 7) (h712 : σ' 7 ≤ 12)
    (hL : ∀ i, 0 ≤ i → i < σ' 7 → 0 ≤ lt σ' i 1 ∧ lt σ' i 1 < σ 5 ∧ 1 ≤ lt σ' i 2 ∧ lt σ' i 2 ≤ 9 ∧ 0 ≤ lt σ' i 3 ∧ lt σ' i 3 ≤ 99 ∧ 1 ≤ lt σ' i 4 ∧ lt σ' i 4 ≤ 99 ∧ 0 ≤ lt σ' i 5 ∧ lt σ' i 5 ≤ lt σ' i 4 ∧ 0 ≤ lt σ' i 6 ∧ (lt σ' i 6 < σ 5 ∨ 10 ≤ lt σ' i 6) ∧ lt σ' i 6 < 10 + σ 6 ∧ 0 ≤ lt σ' i 0) (hI : ∀ i j, 0 ≤ i → i < j → j < σ' 7 → lt σ' i 0 < lt σ' j 0) (hN : ∀ i, 0 ≤ i → i < σ' 7 → lt σ' i 0 < σ 4) (hld : ∀ k, 0 ≤ k → k < σ 6 → 0 ≤ loadOn σ' k ∧ loadOn σ' k ≤ sd σ k 0) : Good σ' := by
  obtain ⟨g1, g2, g3, g4, g5, g6, g7, g8, gL, gS, gR, gI, gN, g0⟩ := h
  have e1 := e 1 (by decide) (by decide) (by decide) (by decide) (by decide) (by decide)
  have e4 := e 4 (by decide) (by decide) (by decide) (by decide) (by decide) (by decide)
  have e5 := e 5 (by decide) (by decide) (by decide) (by decide) (by decide) (by decide)
  have e6 := e 6 (by decide) (by decide) (by decide) (by decide) (by decide) (by decide)
  refine ⟨by rw [e5]; exact g1, by rw [e5]; exact g2, by rw [e6]; exact g3, by rw [e6]; exact g4, h70, h712, by rw [e1]; exact g7, by rw [e1]; exact g8, fun i i0 i1 => ?_, fun k k0 k1 => ?_, fun a b a0 a1 b0 b1 => ?_, hI, fun i i0 i1 => ?_, by rw [e4]; exact g0⟩
  · rw [e5, e6]
    exact hL i i0 i1
  · rw [e6] at k1
    have S : ∀ w, 0 ≤ w → w < 3 → sd σ' k w = sd σ k w := fun w w0 w1 => by
      unfold sd
      clear gL gS gR gI gN hL hI hN hld
      exact e _ (by lia) (by lia) (by lia) (by lia) (by lia) (by lia)
    obtain ⟨z1, z2, z3, z4, z5, z6, z7, z8⟩ := gS k k0 k1
    rw [S 0 (by decide) (by decide), S 1 (by decide) (by decide), S 2 (by decide) (by decide), e5]
    exact ⟨z1, z2, z3, z4, z5, z6, (hld k k0 k1).1, (hld k k0 k1).2⟩
  · have q : rd σ' a b = rd σ a b := by
      unfold rd
      clear gL gS gR gI gN hL hI hN hld
      exact e _ (by lia) (by lia) (by lia) (by lia) (by lia) (by lia)
    rw [q, e5]
    exact gR a b a0 a1 b0 b1
  · rw [e4]
    exact hN i i0 i1
theorem Rl.cgL {fg tp fg' tp' : Int32} {F F' : Nat → Int32 → Int32} {σ σ' : Int32 → Int32} (h : Rl fg tp F σ) (hG : Good σ) (e : ∀ j, 0 ≤ j → j < 66 → ¬ j = 0 → ¬ j = 2 → ¬ j = 3 → ¬ j = 7 → σ' j = σ j) (hf : fg' - tp' = σ' 2) (hF : ∀ w, 8 ≤ w → F' w = F w) (hL : ∀ i, 0 ≤ i → i < σ' 7 → F' 0 i = lt σ' i 0 ∧ F' 1 i = lt σ' i 1 ∧ F' 2 i = lt σ' i 2 ∧ F' 3 i = lt σ' i 3 ∧ F' 4 i = lt σ' i 4 ∧ F' 5 i = lt σ' i 5 ∧ F' 6 i = (if lt σ' i 6 < 10 then -1 else lt σ' i 6 - 10) ∧ (lt σ' i 6 < 10 → F' 7 i = lt σ' i 6)) : Rl fg' tp' F' σ' := by
  obtain ⟨-, r2, r3, -⟩ := h
  obtain ⟨-, -, g3, g4, -⟩ := hG
  have e6 := e 6 (by decide) (by decide) (by decide) (by decide) (by decide) (by decide)
  refine ⟨hf, fun a b a0 a1 b0 b1 => ?_, fun k k0 k1 => ?_, hL⟩
  · have q : rd σ' a b = rd σ a b := by
      unfold rd
      clear r2 r3 hL
      exact e _ (by lia) (by lia) (by lia) (by lia) (by lia) (by lia)
    rw [q, hF 11 (by decide)]
    exact r2 a b a0 a1 b0 b1
  · rw [e6] at k1
    have S : ∀ w, 0 ≤ w → w < 3 → sd σ' k w = sd σ k w := fun w w0 w1 => by
      unfold sd
      clear r2 r3 hL
      exact e _ (by lia) (by lia) (by lia) (by lia) (by lia) (by lia)
    rw [hF 8 (by decide), hF 9 (by decide), hF 10 (by decide), S 0 (by decide) (by decide), S 1 (by decide) (by decide), S 2 (by decide) (by decide)]
    exact r3 k k0 k1
/-- letter p feels the hour -/
def thS (σ : Int32 → Int32) (p : Int32) : Int32 → Int32 := ui σ (66 + 7 * p + 5) (iceF (σ 1) (lt σ p 4) (lt σ p 5))
theorem iceF_in {d st ic : Int32} (a : 0 ≤ ic) (b : ic ≤ st) (c : st ≤ 99) (d0 : -30 ≤ d) (d1 : d ≤ 10) : 0 ≤ iceF d st ic ∧ iceF d st ic ≤ st := by
  unfold iceF
  split
  · split <;> constructor <;> lia
  · split
    · split <;> constructor <;> lia
    · exact ⟨a, b⟩
theorem thS_lo {σ : Int32 → Int32} {p j : Int32} (p0 : 0 ≤ p) (p2 : p < 12) (j0 : 0 ≤ j) (j1 : j < 66) : thS σ p j = σ j := by
  unfold thS
  exact ui_n (by lia)
theorem thS_5 {σ : Int32 → Int32} {p : Int32} : lt (thS σ p) p 5 = iceF (σ 1) (lt σ p 4) (lt σ p 5) := ui_s
theorem thS_n {σ : Int32 → Int32} {p i w : Int32} (p0 : 0 ≤ p) (p2 : p < 12) (i0 : 0 ≤ i) (i1 : i < 12) (w0 : 0 ≤ w) (w1 : w < 7) (h : ¬ (i = p ∧ w = 5)) : lt (thS σ p) i w = lt σ i w := by
  unfold lt thS
  refine ui_n (fun z => h ?_)
  constructor <;> lia
theorem Good_thS {σ : Int32 → Int32} {p : Int32} (h : Good σ) (p0 : 0 ≤ p) (p1 : p < σ 7) : Good (thS σ p) := by
  have hG := h
  obtain ⟨g1, g2, g3, g4, g5, g6, g7, g8, gL, gS, gR, gI, gN, g0⟩ := h
  have p2 : p < 12 := by clear gL gS gR gI gN; lia
  have e7 : thS σ p 7 = σ 7 := thS_lo p0 p2 (by decide) (by decide)
  have L : ∀ i w, 0 ≤ i → i < σ 7 → 0 ≤ w → w < 7 → ¬ w = 5 → lt (thS σ p) i w = lt σ i w := fun i w i0 i1 w0 w1 hw => thS_n p0 p2 i0 (by clear gL gS gR gI gN; lia) w0 w1 (fun z => hw z.2)
  refine Good.cgL hG (fun j a b _ _ _ _ => thS_lo p0 p2 a b) (by rw [e7]; exact g5) (by rw [e7]; exact g6) (fun i i0 i1 => ?_) (fun i j i0 ij j1 => ?_) (fun i i0 i1 => ?_) (fun k k0 k1 => ?_)
  · rw [e7] at i1
    obtain ⟨z1, z2, z3, z4, z5, z6, z7, z8, z9, z10, z11, z12, z13, z14⟩ := gL i i0 i1
    rw [L i 0 i0 i1 (by decide) (by decide) (by decide), L i 1 i0 i1 (by decide) (by decide) (by decide), L i 2 i0 i1 (by decide) (by decide) (by decide), L i 3 i0 i1 (by decide) (by decide) (by decide), L i 4 i0 i1 (by decide) (by decide) (by decide), L i 6 i0 i1 (by decide) (by decide) (by decide)]
    by_cases q : i = p
    · subst q
      rw [thS_5]
      have w := iceF_in z9 z10 z8 g7 g8
      exact ⟨z1, z2, z3, z4, z5, z6, z7, z8, w.1, w.2, z11, z12, z13, z14⟩
    · rw [thS_n p0 p2 i0 (by clear gL gS gR gI gN L; lia) (by decide) (by decide) (fun z => q z.1)]
      exact ⟨z1, z2, z3, z4, z5, z6, z7, z8, z9, z10, z11, z12, z13, z14⟩
  · rw [e7] at j1
    rw [L i 0 i0 (by clear gL gS gR gI gN L; lia) (by decide) (by decide) (by decide), L j 0 (by clear gL gS gR gI gN L; lia) j1 (by decide) (by decide) (by decide)]
    exact gI i j i0 ij j1
  · rw [e7] at i1
    rw [L i 0 i0 i1 (by decide) (by decide) (by decide)]
    exact gN i i0 i1
  · have q : loadOn (thS σ p) k = loadOn σ k := by
      unfold loadOn sumU
      rw [e7]
      refine sumN_c2 _ (fun i hi => ?_)
      obtain ⟨a, b, -⟩ := nI_below g6 hi
      rw [L _ 6 a b (by decide) (by decide) (by decide), L _ 2 a b (by decide) (by decide) (by decide)]
    rw [q]
    exact ⟨(gS k k0 k1).2.2.2.2.2.2.1, (gS k k0 k1).2.2.2.2.2.2.2⟩
theorem Rl_thS {fg tp p : Int32} {F : Nat → Int32 → Int32} {σ : Int32 → Int32} {y : Nat → Int32} (h : Rl fg tp F σ) (hG : Good σ) (p0 : 0 ≤ p) (p1 : p < σ 7) (hy : ∀ w, w < 8 → ¬ w = 5 → y w = F w p) (h5 : y 5 = iceF (σ 1) (lt σ p 4) (lt σ p 5)) : Rl fg tp (upF F 0 8 p y) (thS σ p) := by
  have h2 := h
  have hG2 := hG
  obtain ⟨r1, r2, r3, r4⟩ := h
  obtain ⟨-, -, g3, g4, g5, g6, -⟩ := hG
  have p2 : p < 12 := by clear r2 r3 r4; lia
  have e7 : thS σ p 7 = σ 7 := thS_lo p0 p2 (by decide) (by decide)
  refine Rl.cgL h2 hG2 (fun j a b _ _ _ _ => thS_lo p0 p2 a b) (r1.trans (thS_lo p0 p2 (by decide) (by decide)).symm) (fun w hw => ?_) (fun i i0 i1 => ?_)
  · funext j
    unfold upF
    rw [if_neg (fun z => by omega)]
  · rw [e7] at i1
    have i2 : i < 12 := by clear r2 r3 r4; lia
    obtain ⟨q0, q1, q2, q3, q4, q5, q6, q7⟩ := r4 i i0 i1
    have L : ∀ w, 0 ≤ w → w < 7 → ¬ w = 5 → lt (thS σ p) i w = lt σ i w := fun w w0 w1 hw => thS_n p0 p2 i0 i2 w0 w1 (fun z => hw z.2)
    rw [L 0 (by decide) (by decide) (by decide), L 1 (by decide) (by decide) (by decide), L 2 (by decide) (by decide) (by decide), L 3 (by decide) (by decide) (by decide), L 4 (by decide) (by decide) (by decide), L 6 (by decide) (by decide) (by decide)]
    by_cases e : i = p
    · subst e
      have u2 : ∀ w, w < 8 → upF F 0 8 i y w i = y w := fun w hw => by
        unfold upF
        rw [if_pos ⟨Nat.zero_le _, hw, rfl⟩]
      rw [u2 0 (by decide), u2 1 (by decide), u2 2 (by decide), u2 3 (by decide), u2 4 (by decide), u2 5 (by decide), u2 6 (by decide), u2 7 (by decide), hy 0 (by decide) (by decide), hy 1 (by decide) (by decide), hy 2 (by decide) (by decide), hy 3 (by decide) (by decide), hy 4 (by decide) (by decide), hy 6 (by decide) (by decide), hy 7 (by decide) (by decide), h5, thS_5]
      exact ⟨q0, q1, q2, q3, q4, rfl, q6, q7⟩
    · have u3 : ∀ w, upF F 0 8 p y w i = F w i := fun w => by
        unfold upF
        rw [if_neg (fun z => e z.2.2)]
      rw [u3 0, u3 1, u3 2, u3 3, u3 4, u3 5, u3 6, u3 7, thS_n p0 p2 i0 i2 (by decide) (by decide) (fun z => e z.1)]
      exact ⟨q0, q1, q2, q3, q4, q5, q6, q7⟩
/-- letter p is given out -/
def rmS (σ : Int32 → Int32) (p : Int32) : Int32 → Int32 := fun x => if 66 + 7 * p ≤ x ∧ x < 150 then (if x + 7 < 150 then σ (x + 7) else 0) else σ x
def gotN (σ : Int32 → Int32) (p : Int32) : Int32 := if lt σ p 5 = 0 then lt σ p 3 / 2 else lt σ p 3
def dlS (σ : Int32 → Int32) (p : Int32) : Int32 → Int32 := ui (ui (rmS (ui σ 2 (σ 2 + gotN σ p)) p) 7 (σ 7 - 1)) 3 (σ 3 + 1)
section mk
variable {σ : Int32 → Int32} {p : Int32}
theorem dlS_3 : dlS σ p 3 = σ 3 + 1 := ui_s
theorem dlS_7 : dlS σ p 7 = σ 7 - 1 := (ui_n (by decide)).trans ui_s
theorem dlS_2 (p0 : 0 ≤ p) (p2 : p < 12) : dlS σ p 2 = σ 2 + gotN σ p := by
  unfold dlS
  rw [ui_n (by decide), ui_n (by decide)]
  unfold rmS
  rw [if_neg (fun z => absurd z.1 (by lia)), ui_s]
theorem dlS_lo {j : Int32} (p0 : 0 ≤ p) (p2 : p < 12) (j0 : 0 ≤ j) (j1 : j < 66) (j2 : ¬ j = 2) (j3 : ¬ j = 3) (j7 : ¬ j = 7) : dlS σ p j = σ j := by
  unfold dlS
  rw [ui_n j3, ui_n j7]
  unfold rmS
  rw [if_neg (fun z => absurd z.1 (by lia)), ui_n j2]
theorem dlS_lt {j w : Int32} (p0 : 0 ≤ p) (p2 : p < 12) (j0 : 0 ≤ j) (j1 : j < 11) (w0 : 0 ≤ w) (w1 : w < 7) : lt (dlS σ p) j w = lt σ (if p ≤ j then j + 1 else j) w := by
  unfold lt dlS
  rw [ui_n (by lia), ui_n (by lia)]
  unfold rmS
  by_cases q : p ≤ j
  · rw [if_pos q, if_pos (by constructor <;> lia), if_pos (by lia), ui_n (by lia), show 66 + 7 * j + w + 7 = 66 + 7 * (j + 1) + w by lia]
  · rw [if_neg q, if_neg (by lia), ui_n (by lia)]
end mk
theorem nI_S : ∀ i, i < 12 → nI i + 1 = nI (i + 1) := by decide
theorem nI_le12 : ∀ i, i < 13 → ∀ j, j < 13 → (nI i ≤ nI j ↔ i ≤ j) := by decide
theorem sumN_rm {f g : Int32 → Int32} {L : Nat} (hL : L < 12) : ∀ n : Nat, n < 12 → (∀ i : Nat, i < n → g (nI i) = f (nI (if L ≤ i then i + 1 else i))) → sumN g n = if n ≤ L then sumN f n else sumN f (n + 1) - f (nI L) := by
  intro n
  induction n with
  | zero => exact fun _ _ => (if_pos (by omega)).symm
  | succ n ih =>
    intro hn h
    show sumN g n + g (nI n) = _
    rw [ih (by omega) (fun i hi => h i (by omega)), h n (by omega)]
    by_cases a : n + 1 ≤ L
    · rw [if_pos a, if_pos (by omega), if_neg (by omega)]
      rfl
    · rw [if_neg a, if_pos (by omega : L ≤ n)]
      by_cases b : n = L
      · subst b
        rw [if_pos (Nat.le_refl _)]
        show sumN f n + f (nI (n + 1)) = sumN f n + f (nI n) + f (nI (n + 1)) - f (nI n)
        lia
      · rw [if_neg (by omega)]
        show sumN f (n + 1) - f (nI L) + f (nI (n + 1)) = sumN f (n + 1) + f (nI (n + 1)) - f (nI L)
        lia
theorem loadOn_dl {σ : Int32 → Int32} {p : Int32} (h : Good σ) (p0 : 0 ≤ p) (p1 : p < σ 7) (k : Int32) : loadOn (dlS σ p) k = loadOn σ k - (if lt σ p 6 = 10 + k then lt σ p 2 else 0) := by
  obtain ⟨g1, g2, g3, g4, g5, g6, -⟩ := h
  have p2 : p < 12 := by lia
  have hN := tc_le g6
  have e12 : (12 : Int32).toNatClampNeg = 12 := rfl
  have hp := tc_lt p0 p1
  have e7 : (σ 7 - 1).toNatClampNeg = (σ 7).toNatClampNeg - 1 := by
    have a := tc_Int g5
    have b : (σ 7 - 1).toInt = (σ 7).toInt - 1 := by rw [i_sub] <;> rw [i_1] <;> omega
    have c := tc_Int (i := σ 7 - 1) (by rw [i_le, b, i_0]; omega)
    omega
  unfold loadOn sumU
  rw [dlS_7, e7]
  generalize hn : (σ 7).toNatClampNeg = N at *
  have q := sumN_rm (f := fun i => if lt σ i 6 = 10 + k then lt σ i 2 else 0) (g := fun i => if lt (dlS σ p) i 6 = 10 + k then lt (dlS σ p) i 2 else 0) (L := p.toNatClampNeg) (by omega) (N - 1) (by omega) (fun i hi => by
    obtain ⟨a, b⟩ := nI12 i (by omega)
    have i11 : nI i < 11 := by
      have : ∀ i, i < 11 → nI i < 11 := by decide
      exact this i (by omega)
    have e := nI_le12 p.toNatClampNeg (by omega) i (by omega)
    rw [tc_nI p0] at e
    have e2 : (if p ≤ nI i then nI i + 1 else nI i) = nI (if p.toNatClampNeg ≤ i then i + 1 else i) := by
      by_cases z : p ≤ nI i
      · rw [if_pos z, if_pos (e.mp z), nI_S i (by omega)]
      · rw [if_neg z, if_neg (fun y => z (e.mpr y))]
    show (if lt (dlS σ p) (nI i) 6 = 10 + k then lt (dlS σ p) (nI i) 2 else 0) = _
    rw [dlS_lt p0 p2 a i11 (by decide) (by decide), dlS_lt p0 p2 a i11 (by decide) (by decide), e2])
  rw [q, tc_nI p0]
  by_cases z : N - 1 ≤ p.toNatClampNeg
  · rw [if_pos z]
    have e3 : N = (N - 1) + 1 := by omega
    have e4 : nI (N - 1) = p := by rw [show N - 1 = p.toNatClampNeg by omega, tc_nI p0]
    conv => rhs; rw [e3]
    show _ = sumN _ (N - 1) + _ - _
    rw [e4]
    have key : ∀ x y : Int32, x = x + y - y := fun x y => by lia
    exact key _ _
  · rw [if_neg z, show N - 1 + 1 = N by omega]
theorem Good_dlS {σ : Int32 → Int32} {p : Int32} (h : Good σ) (p0 : 0 ≤ p) (p1 : p < σ 7) : Good (dlS σ p) := by
  have hG := h
  obtain ⟨g1, g2, g3, g4, g5, g6, g7, g8, gL, gS, gR, gI, gN, g0⟩ := h
  have p2 : p < 12 := by clear gL gS gR gI gN; lia
  have L : ∀ i w, 0 ≤ i → i < σ 7 - 1 → 0 ≤ w → w < 7 → lt (dlS σ p) i w = lt σ (if p ≤ i then i + 1 else i) w := fun i w i0 i1 w0 w1 => dlS_lt p0 p2 i0 (by clear gL gS gR gI gN; lia) w0 w1
  have I : ∀ i, 0 ≤ i → i < σ 7 - 1 → 0 ≤ (if p ≤ i then i + 1 else i) ∧ (if p ≤ i then i + 1 else i) < σ 7 := fun i i0 i1 => by
    clear gL gS gR gI gN L
    split <;> constructor <;> lia
  refine Good.cgL hG (fun j a b _ c d e => dlS_lo p0 p2 a b c d e) (by rw [dlS_7]; clear gL gS gR gI gN L I; lia) (by rw [dlS_7]; clear gL gS gR gI gN L I; lia) (fun i i0 i1 => ?_) (fun i j i0 ij j1 => ?_) (fun i i0 i1 => ?_) (fun k k0 k1 => ?_)
  · rw [dlS_7] at i1
    rw [L i 0 i0 i1 (by decide) (by decide), L i 1 i0 i1 (by decide) (by decide), L i 2 i0 i1 (by decide) (by decide), L i 3 i0 i1 (by decide) (by decide), L i 4 i0 i1 (by decide) (by decide), L i 5 i0 i1 (by decide) (by decide), L i 6 i0 i1 (by decide) (by decide)]
    exact gL _ (I i i0 i1).1 (I i i0 i1).2
  · rw [dlS_7] at j1
    have j0 : 0 ≤ j := by clear gL gS gR gI gN L I; lia
    have i1 : i < σ 7 - 1 := by clear gL gS gR gI gN L I; lia
    rw [L i 0 i0 i1 (by decide) (by decide), L j 0 j0 j1 (by decide) (by decide)]
    refine gI _ _ (I i i0 i1).1 ?_ (I j j0 j1).2
    clear gL gS gR gI gN L I
    split <;> split <;> lia
  · rw [dlS_7] at i1
    rw [L i 0 i0 i1 (by decide) (by decide)]
    exact gN _ (I i i0 i1).1 (I i i0 i1).2
  · obtain ⟨y1, y2, y3, y4, y5, y6, y7, y8⟩ := gS k k0 k1
    constructor
    · refine loadOn_nn (by rw [dlS_7]; clear gL gS gR gI gN L I; lia) (fun i i0 i1 => ?_) k
      rw [dlS_7] at i1
      rw [L i 2 i0 i1 (by decide) (by decide)]
      obtain ⟨z1, z2, z3, z4, -⟩ := gL _ (I i i0 i1).1 (I i i0 i1).2
      exact ⟨by clear gL gS gR gI gN L I; lia, z4⟩
    · rw [loadOn_dl hG p0 p1 k]
      obtain ⟨z1, z2, z3, z4, -⟩ := gL p p0 p1
      clear gL gS gR gI gN L I
      split <;> lia
theorem prm_eq {p n j : Int32} (j1 : j < n - 1) : prm p n j = if p ≤ j then j + 1 else j := by
  unfold prm
  by_cases q : p ≤ j
  · rw [if_pos ⟨q, j1⟩, if_pos q]
  · rw [if_neg (fun z => q z.1), if_neg q, if_neg (fun z => by rw [z] at j1; exact Int32.lt_irrefl j1)]
theorem Rl_dlS {fg tp p : Int32} {F : Nat → Int32 → Int32} {σ : Int32 → Int32} (h : Rl fg tp F σ) (hG : Good σ) (p0 : 0 ≤ p) (p1 : p < σ 7) : Rl (fg + gotN σ p) tp (prF F p (σ 7)) (dlS σ p) := by
  have h2 := h
  have hG2 := hG
  obtain ⟨r1, r2, r3, r4⟩ := h
  obtain ⟨-, -, g3, g4, g5, g6, -⟩ := hG
  have p2 : p < 12 := by clear r2 r3 r4; lia
  refine Rl.cgL h2 hG2 (fun j a b _ c d e => dlS_lo p0 p2 a b c d e) (by rw [dlS_2 p0 p2, ← r1]; clear r2 r3 r4; lia) (fun w hw => ?_) (fun i i0 i1 => ?_)
  · funext j
    unfold prF
    rw [if_neg (by omega)]
  · rw [dlS_7] at i1
    have i11 : i < 11 := by clear r2 r3 r4; lia
    have u : ∀ w, w < 8 → prF F p (σ 7) w i = F w (if p ≤ i then i + 1 else i) := fun w hw => by
      unfold prF
      rw [if_pos hw, prm_eq i1]
    have I : 0 ≤ (if p ≤ i then i + 1 else i) ∧ (if p ≤ i then i + 1 else i) < σ 7 := by
      clear r2 r3 r4 u
      split <;> constructor <;> lia
    rw [u 0 (by decide), u 1 (by decide), u 2 (by decide), u 3 (by decide), u 4 (by decide), u 5 (by decide), u 6 (by decide), u 7 (by decide), dlS_lt p0 p2 i0 i11 (w := 0) (by decide) (by decide), dlS_lt p0 p2 i0 i11 (w := 1) (by decide) (by decide), dlS_lt p0 p2 i0 i11 (w := 2) (by decide) (by decide), dlS_lt p0 p2 i0 i11 (w := 3) (by decide) (by decide), dlS_lt p0 p2 i0 i11 (w := 4) (by decide) (by decide), dlS_lt p0 p2 i0 i11 (w := 5) (by decide) (by decide), dlS_lt p0 p2 i0 i11 (w := 6) (by decide) (by decide)]
    exact r4 _ I.1 I.2
/-- the hour's steps -/
def gvN (σ : Int32 → Int32) (k : Int32) : Nat → Int32 → Int32
  | 0 => σ
  | n + 1 => gvN (if lt σ (nI n) 6 = 10 + k ∧ lt σ (nI n) 1 = sd σ k 1 then dlS σ (nI n) else σ) k n
def dvS (σ : Int32 → Int32) (k : Int32) : Int32 → Int32 := if 0 < sd σ k 2 then σ else gvN σ k (σ 7).toNatClampNeg
def dhS (σ : Int32 → Int32) (k : Int32) : Int32 → Int32 := ui σ (57 + 3 * k + 2) (sd σ k 2 - 1)
def hkS (σ : Int32 → Int32) (k : Int32) : Int32 → Int32 := if 0 < sd σ k 2 then dvS (dhS σ k) k else σ
def hkN (σ : Int32 → Int32) : Nat → Int32 → Int32
  | 0 => σ
  | n + 1 => hkS (hkN σ n) (nI n)
def thN (σ : Int32 → Int32) : Nat → Int32 → Int32
  | 0 => σ
  | n + 1 => thS (thN σ n) (nI n)
def hrS (σ : Int32 → Int32) : Int32 → Int32 := hkN (thN (ui σ 0 (σ 0 + 1)) (σ 7).toNatClampNeg) (σ 6).toNatClampNeg
def psN (σ : Int32 → Int32) : Nat → Int32 → Int32
  | 0 => σ
  | n + 1 => hrS (psN σ n)
section mk
variable {σ : Int32 → Int32} {k : Int32}
theorem dhS_n {j : Int32} (h0 : 0 ≤ k) (h3 : k < 3) (hj2 : j < 57 ∨ 66 ≤ j) : dhS σ k j = σ j := by
  unfold dhS
  exact ui_n (by lia)
theorem dhS_2 : sd (dhS σ k) k 2 = sd σ k 2 - 1 := ui_s
theorem dhS_sn {j x : Int32} (h0 : 0 ≤ k) (h3 : k < 3) (j0 : 0 ≤ j) (j3 : j < 3) (w0 : 0 ≤ x) (w3 : x < 3) (hk : ¬ (j = k ∧ x = 2)) : sd (dhS σ k) j x = sd σ j x := by
  unfold sd dhS
  refine ui_n (fun z => hk ?_)
  constructor <;> lia
theorem dhS_lt {i x : Int32} (h0 : 0 ≤ k) (h3 : k < 3) (i0 : 0 ≤ i) (i1 : i < 12) (w0 : 0 ≤ x) (w1 : x < 7) : lt (dhS σ k) i x = lt σ i x := by
  unfold lt
  exact dhS_n h0 h3 (Or.inr (by lia))
theorem dhS_rd {i x : Int32} (h0 : 0 ≤ k) (h3 : k < 3) (i0 : 0 ≤ i) (i1 : i < 7) (w0 : 0 ≤ x) (w1 : x < 7) : rd (dhS σ k) i x = rd σ i x := by
  unfold rd
  exact dhS_n h0 h3 (Or.inl (by lia))
theorem Good_dhS (h : Good σ) (k0 : 0 ≤ k) (k1 : k < σ 6) (hp : 0 < sd σ k 2) : Good (dhS σ k) := by
  have hG := h
  obtain ⟨g1, g2, g3, g4, g5, g6, g7, g8, gL, gS, -⟩ := h
  have k3 : k < 3 := by clear gL gS; lia
  refine Good.cgS hG (fun _ _ => dhS_rd k0 k3) (fun _ _ => dhS_lt k0 k3) (dhS_n k0 k3 (Or.inl (by decide))) (dhS_n k0 k3 (Or.inl (by decide))) (dhS_n k0 k3 (Or.inl (by decide))) (dhS_n k0 k3 (Or.inl (by decide))) (dhS_n k0 k3 (Or.inl (by decide))) (fun j j0 j1 => ?_)
  have j3 : j < 3 := by clear gL gS; lia
  obtain ⟨z1, z2, z3, z4, z5, z6, -⟩ := gS j j0 j1
  rw [dhS_sn k0 k3 j0 j3 (by decide) (by decide) (fun z => absurd z.2 (by decide)), dhS_sn k0 k3 j0 j3 (by decide) (by decide) (fun z => absurd z.2 (by decide))]
  by_cases e : j = k
  · subst e
    rw [dhS_2]
    exact ⟨rfl, z3, z4, by clear gL gS; lia, by clear gL gS; lia⟩
  · rw [dhS_sn k0 k3 j0 j3 (by decide) (by decide) (fun z => e z.1)]
    exact ⟨rfl, z3, z4, z5, z6⟩
end mk
theorem thN_1 {σ : Int32 → Int32} {i : Int32} (h0 : 0 ≤ i) (h1 : i < 100) : thN σ (i + 1).toNatClampNeg = thS (thN σ i.toNatClampNeg) i := by
  rw [(tc_i h0 h1).1]
  show thS _ (nI i.toNatClampNeg) = _
  rw [tc_nI h0]
theorem hkN_1 {σ : Int32 → Int32} {i : Int32} (h0 : 0 ≤ i) (h1 : i < 100) : hkN σ (i + 1).toNatClampNeg = hkS (hkN σ i.toNatClampNeg) i := by
  rw [(tc_i h0 h1).1]
  show hkS _ (nI i.toNatClampNeg) = _
  rw [tc_nI h0]
theorem psN_1 {σ : Int32 → Int32} {i : Int32} (h0 : 0 ≤ i) (h1 : i < 100) : psN σ (i + 1).toNatClampNeg = hrS (psN σ i.toNatClampNeg) := by
  rw [(tc_i h0 h1).1]
  rfl
theorem thN_lo {σ : Int32 → Int32} {j : Int32} (j0 : 0 ≤ j) (j1 : j < 66) : ∀ n, n ≤ 12 → thN σ n j = σ j := by
  intro n
  induction n with
  | zero => exact fun _ => rfl
  | succ n ih =>
    intro h
    obtain ⟨a, b⟩ := nI12 n (by omega)
    unfold thN
    rw [thS_lo a b j0 j1]
    exact ih (by omega)
theorem gvN_lo {j k : Int32} (j0 : 0 ≤ j) (j1 : j < 66) (j2 : ¬ j = 2) (j3 : ¬ j = 3) (j7 : ¬ j = 7) : ∀ n, n ≤ 12 → ∀ σ : Int32 → Int32, gvN σ k n j = σ j := by
  intro n
  induction n with
  | zero => exact fun _ _ => rfl
  | succ n ih =>
    intro h σ
    obtain ⟨a, b⟩ := nI12 n (by omega)
    unfold gvN
    rw [ih (by omega)]
    split
    · exact dlS_lo a b j0 j1 j2 j3 j7
    · rfl
theorem hkS_lo {j k : Int32} {σ : Int32 → Int32} (k0 : 0 ≤ k) (k3 : k < 3) (h7 : σ 7 ≤ 12) (j0 : 0 ≤ j) (j1 : j < 57) (j2 : ¬ j = 2) (j3 : ¬ j = 3) (j7 : ¬ j = 7) : hkS σ k j = σ j := by
  unfold hkS
  split
  · unfold dvS
    split
    · exact dhS_n k0 k3 (Or.inl j1)
    · rw [dhS_n k0 k3 (Or.inl (by decide)), gvN_lo j0 (by lia) j2 j3 j7 _ (tc_le h7)]
      exact dhS_n k0 k3 (Or.inl j1)
  · rfl
