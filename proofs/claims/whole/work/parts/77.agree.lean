/-! ===== what the first 150 places tell ===== -/
def Ag (σ τ : Int32 → Int32) : Prop := ∀ j, 0 ≤ j → j < 150 → σ j = τ j
section AG
variable {σ τ : Int32 → Int32}
theorem Ag.symm (h : Ag σ τ) : Ag τ σ := fun j a b => (h j a b).symm
theorem Ag.lt (h : Ag σ τ) {i w : Int32} (i0 : 0 ≤ i) (i1 : i < 12) (w0 : 0 ≤ w) (w1 : w < 7) : lt σ i w = lt τ i w := h _ (by clear h; lia) (by clear h; lia)
theorem Ag.sd (h : Ag σ τ) {k w : Int32} (k0 : 0 ≤ k) (k1 : k < 3) (w0 : 0 ≤ w) (w1 : w < 3) : sd σ k w = sd τ k w := h _ (by clear h; lia) (by clear h; lia)
theorem Ag.rd (h : Ag σ τ) {a b : Int32} (a0 : 0 ≤ a) (a1 : a < 7) (b0 : 0 ≤ b) (b1 : b < 7) : rd σ a b = rd τ a b := h _ (by clear h; lia) (by clear h; lia)
theorem Ag.load (h : Ag σ τ) (h7 : σ 7 ≤ 12) (k : Int32) : loadOn σ k = loadOn τ k := by
  have e7 := h 7 (by decide) (by decide)
  show sumN _ (σ 7).toNatClampNeg = sumN _ (τ 7).toNatClampNeg
  rw [← e7]
  exact sumN_cg _ (tc_le h7) (fun i i0 i1 => by rw [h.lt i0 i1 (by decide) (by decide), h.lt i0 i1 (by decide) (by decide)])
theorem Good.ext (hG : Good σ) (h : Ag σ τ) : Good τ := by
  obtain ⟨g1, g2, g3, g4, g5, g6, g7, g8, gL, gS, gR, gI, gN, g0⟩ := hG
  have e1 := h 1 (by decide) (by decide)
  have e4 := h 4 (by decide) (by decide)
  have e5 := h 5 (by decide) (by decide)
  have e6 := h 6 (by decide) (by decide)
  have e7 := h 7 (by decide) (by decide)
  refine ⟨e5 ▸ g1, e5 ▸ g2, e6 ▸ g3, e6 ▸ g4, e7 ▸ g5, e7 ▸ g6, e1 ▸ g7, e1 ▸ g8, fun i i0 i1 => ?_, fun k k0 k1 => ?_, fun a b a0 a1 b0 b1 => ?_, fun i j i0 ij j1 => ?_, fun i i0 i1 => ?_, e4 ▸ g0⟩
  · rw [← e7] at i1
    have i12 := Int32.lt_of_lt_of_le i1 g6
    have q := gL i i0 i1
    rw [h.lt i0 i12 (by decide) (by decide), h.lt i0 i12 (by decide) (by decide), h.lt i0 i12 (by decide) (by decide), h.lt i0 i12 (by decide) (by decide), h.lt i0 i12 (by decide) (by decide), h.lt i0 i12 (by decide) (by decide), h.lt i0 i12 (by decide) (by decide), e5, e6] at q
    exact q
  · rw [← e6] at k1
    have k3 := Int32.lt_of_lt_of_le k1 g4
    have q := gS k k0 k1
    rw [h.load g6 k, h.sd k0 k3 (by decide) (by decide), h.sd k0 k3 (by decide) (by decide), h.sd k0 k3 (by decide) (by decide), e5] at q
    exact q
  · have q := gR a b a0 a1 b0 b1
    rw [h.rd a0 a1 b0 b1, e5] at q
    exact q
  · rw [← e7] at j1
    have j12 := Int32.lt_of_lt_of_le j1 g6
    have q := gI i j i0 ij j1
    rw [h.lt i0 (Int32.lt_trans ij j12) (by decide) (by decide), h.lt (Int32.le_trans i0 (Int32.le_of_lt ij)) j12 (by decide) (by decide)] at q
    exact q
  · rw [← e7] at i1
    have i12 := Int32.lt_of_lt_of_le i1 g6
    have q := gN i i0 i1
    rw [h.lt i0 i12 (by decide) (by decide), e4] at q
    exact q
theorem Sy.ext (h : Ag σ τ) (hS : Sy σ) : Sy τ := fun a b a0 a1 b0 b1 => by
  have q := hS a b a0 a1 b0 b1
  rw [h.rd a0 a1 b0 b1, h.rd b0 b1 a0 a1] at q
  exact q
theorem cpF_ag : Ag (cpF σ τ) σ := fun j j0 j1 => cpF_in j0 j1
theorem StR.ext {kd : Nat → Nat} {r a : Nat} {M : LH} {ad : Nat → Nat} {sl le : Int32 → Nat} {fg tp : Int32} {F : Nat → Int32 → Int32} (h : Ag σ τ) (hC : StR kd r M a ad sl le fg tp F σ) : StR kd r M a ad sl le fg tp F τ := by
  obtain ⟨c1, c2, c3, c4, c5, c6, c7, c8, ⟨d1, d2, d3, d4⟩, hG⟩ := hC
  have g4 := hG.2.2.2.1
  have g6 := hG.2.2.2.2.2.1
  have e6 := h 6 (by decide) (by decide)
  have e7 := h 7 (by decide) (by decide)
  rw [h 0 (by decide) (by decide), h 1 (by decide) (by decide), h 2 (by decide) (by decide), h 3 (by decide) (by decide), h 4 (by decide) (by decide), h 5 (by decide) (by decide), e6, e7] at c1
  rw [h 2 (by decide) (by decide)] at d1
  refine ⟨c1, c2, c3, c4, c5, c6, c7, c8, ⟨d1, fun a b a0 a1 b0 b1 => (d2 a b a0 a1 b0 b1).trans (h.rd a0 a1 b0 b1), fun k k0 k1 => ?_, fun i i0 i1 => ?_⟩, hG.ext h⟩
  · rw [← e6] at k1
    have k3 := Int32.lt_of_lt_of_le k1 g4
    have q := d3 k k0 k1
    rw [h.sd k0 k3 (by decide) (by decide), h.sd k0 k3 (by decide) (by decide), h.sd k0 k3 (by decide) (by decide)] at q
    exact q
  · rw [← e7] at i1
    have i12 := Int32.lt_of_lt_of_le i1 g6
    have q := d4 i i0 i1
    rw [h.lt i0 i12 (by decide) (by decide), h.lt i0 i12 (by decide) (by decide), h.lt i0 i12 (by decide) (by decide), h.lt i0 i12 (by decide) (by decide), h.lt i0 i12 (by decide) (by decide), h.lt i0 i12 (by decide) (by decide), h.lt i0 i12 (by decide) (by decide)] at q
    exact q
end AG
