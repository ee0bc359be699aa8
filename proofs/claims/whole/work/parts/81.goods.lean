/-! ===== a deed keeps a state good, its roads both ways, its next id near ===== -/
theorem Good_rdS {σ : Int32 → Int32} {s t n : Int32} (hG0 : Good σ) (hs0 : 0 ≤ s) (hs : s < σ 5) (ht0 : 0 ≤ t) (ht : t < σ 5) (hst9 : ¬ s = t) (hn0 : 0 ≤ n) (hn1 : n ≤ 20) : Good (rdS σ s t n) := by
  obtain ⟨hg1, hg2, hg3, hg4, hg5, hg6, hg7, hg8, hgL, hgS, -⟩ := _root_.id hG0
  have s7 : s < 7 := by clear hgL hgS; lia
  have t7 : t < 7 := by clear hgL hgS; lia
  have hlo : ∀ j : Int32, 0 ≤ j → j < 8 → rdS σ s t n j = σ j := fun j j0 j1 => rdS_lo hs0 s7 ht0 t7 j1 j0
  have hs9 : ∀ k w, 0 ≤ k → k < 3 → 0 ≤ w → w < 3 → sd (rdS σ s t n) k w = sd σ k w := fun k w k0 k1 w0 w1 => by
    unfold sd
    exact rdS_hi hs0 s7 ht0 t7 (by clear hgL hgS hlo; lia) (by clear hgL hgS hlo; lia)
  have hl9 : ∀ i w, 0 ≤ i → i < 12 → 0 ≤ w → w < 7 → lt (rdS σ s t n) i w = lt σ i w := fun i w i0 i1 w0 w1 => by
    unfold lt
    exact rdS_hi hs0 s7 ht0 t7 (by clear hgL hgS hlo hs9; lia) (by clear hgL hgS hlo hs9; lia)
  refine Good.cgR hG0 (fun x y x0 x1 y0 y1 => ?_) hs9 hl9 (hlo 6 (by decide) (by decide)) (hlo 7 (by decide) (by decide)) (hlo 4 (by decide) (by decide)) (by rw [hlo 5 (by decide) (by decide)]; exact Int32.le_refl _) (by rw [hlo 5 (by decide) (by decide)]; exact hg2) (by rw [hlo 1 (by decide) (by decide)]; exact hg7) (by rw [hlo 1 (by decide) (by decide)]; exact hg8)
  rw [rdS_rd hs0 s7 ht0 t7 x0 x1 y0 y1, hlo 5 (by decide) (by decide)]
  by_cases z : (x = t ∧ y = s) ∨ (x = s ∧ y = t)
  · rw [if_pos z]
    refine ⟨hn0, hn1, fun _ => ?_⟩
    rcases z with ⟨rfl, rfl⟩ | ⟨rfl, rfl⟩
    · exact ⟨ht, hs, fun w => hst9 w.symm⟩
    · exact ⟨hs, ht, hst9⟩
  · rw [if_neg z]
    exact hG0.2.2.2.2.2.2.2.2.2.2.1 x y x0 x1 y0 y1
theorem Good_goS {σ : Int32 → Int32} {k t w : Int32} (hG0 : Good σ) (k0 : 0 ≤ k) (k1 : k < σ 6) (t0 : 0 ≤ t) (t1 : t < σ 5) (hi : IsD σ 1000000 (sd σ k 1) t w.toInt) (hwy : ∃ d, Wks σ (sd σ k 1) t d) : Good (goS σ k t w) := by
  obtain ⟨hg1, hg2, hg3, hg4, hg5, hg6, hg7, hg8, hgL, hgS, -⟩ := _root_.id hG0
  have k3 : k < 3 := by clear hgL hgS; lia
  obtain ⟨u0, u1, u2, u3, u4, u5, u6, u7⟩ := hgS k k0 k1
  obtain ⟨w0, w1, -⟩ := IsD.b hG0 u2 (Int32.lt_of_lt_of_le u3 hg2) t0 (Int32.lt_of_lt_of_le t1 hg2) hi hwy
  have hw0 : 0 ≤ w := i_le.mpr (by rw [i_0]; exact w0)
  have hwK : w ≤ 120 := i_le.mpr (by rw [show (120 : Int32).toInt = 120 from rfl]; exact w1)
  have hlo : ∀ j : Int32, ¬ j = 2 → j < 57 → goS σ k t w j = σ j := fun j a b => goS_n k0 k3 a (Or.inl b)
  refine Good.cgS hG0 (fun _ _ => goS_rd k0 k3) (fun _ _ => goS_lt k0 k3) (hlo 1 (by decide) (by decide)) (hlo 4 (by decide) (by decide)) (hlo 5 (by decide) (by decide)) (hlo 6 (by decide) (by decide)) (hlo 7 (by decide) (by decide)) (fun j j0 j1 => ?_)
  by_cases e : j = k
  · rw [e, goS_s0 k0 k3, goS_s1 k0 k3, goS_s2 k0 k3]
    exact ⟨rfl, t0, t1, hw0, hwK⟩
  · have j3 : j < 3 := by clear hgL hgS hlo; lia
    rw [goS_sn k0 k3 j0 j3 e (by decide) (by decide), goS_sn k0 k3 j0 j3 e (by decide) (by decide), goS_sn k0 k3 j0 j3 e (by decide) (by decide)]
    obtain ⟨-, -, v2, v3, v4, v5, -⟩ := hgS j j0 j1
    exact ⟨rfl, v2, v3, v4, v5⟩
theorem Good_best {σ : Int32 → Int32} {k : Int32} (hG0 : Good σ) (hk0 : 0 ≤ k) (hk : k < σ 6) : Good (plN σ k (bI σ (sd σ k 1) (σ 7).toNatClampNeg (sd σ k 0 - loadOn σ k) &&& 4095) (σ 7).toNatClampNeg) := by
  obtain ⟨hg1, hg2, hg3, hg4, hg5, hg6, hg7, hg8, hgL, hgS, -⟩ := _root_.id hG0
  obtain ⟨u0, u1, u2, u3, u4, u5, u6, u7⟩ := hgS k hk0 hk
  obtain ⟨⟨S, s1, s2, s3⟩, -⟩ := bI_best (σ := σ) (st := sd σ k 1) (σ 7).toNatClampNeg hG0.LB (sd σ k 0 - loadOn σ k) (by clear hgL hgS; lia) (by clear hgL hgS; lia)
  exact (Good_plN hG0 hk0 hk s1 s2 (fun i hi => bI_bits (tc_le hg6) s3 hi) _ (Nat.le_refl _)).1
section LO
variable {j : Int32}
theorem hkN_lo (j0 : 0 ≤ j) (j1 : j < 57) (j2 : ¬ j = 2) (j3 : ¬ j = 3) (j7 : ¬ j = 7) {σ : Int32 → Int32} (h : Good σ) : ∀ n, n ≤ (σ 6).toNatClampNeg → hkN σ n j = σ j := by
  intro n
  induction n with
  | zero => exact fun _ => rfl
  | succ n ih =>
    intro hn
    obtain ⟨g, e6⟩ := Good_hkn h n (by omega)
    have g4 := h.2.2.2.1
    obtain ⟨a, b, -⟩ := nI_below (n := σ 6) (i := n) (by clear ih; lia) (by omega)
    show hkS (hkN σ n) (nI n) j = σ j
    rw [hkS_lo a (Int32.lt_of_lt_of_le b g4) g.2.2.2.2.2.1 j0 j1 j2 j3 j7]
    exact ih (by omega)
theorem hrS_lo (j0 : 0 ≤ j) (j1 : j < 57) (j2 : ¬ j = 2) (j3 : ¬ j = 3) (j7 : ¬ j = 7) {σ : Int32 → Int32} (h : Good σ) (jn : ¬ j = 0) : hrS σ j = σ j := by
  have hG1 := Good_t0 h (x := σ 0 + 1)
  have e7 : (ui σ 0 (σ 0 + 1)) 7 = σ 7 := ui_n (by decide)
  have h12 : (σ 7).toNatClampNeg ≤ 12 := tc_le h.2.2.2.2.2.1
  have hG2 := Good_thn hG1 (σ 7).toNatClampNeg (by rw [e7]; exact Nat.le_refl _)
  have e6 : thN (ui σ 0 (σ 0 + 1)) (σ 7).toNatClampNeg 6 = σ 6 := (thN_lo (by decide) (by decide) _ h12).trans (ui_n (by decide))
  unfold hrS
  rw [hkN_lo j0 j1 j2 j3 j7 hG2 _ (by rw [e6]; exact Nat.le_refl _), thN_lo j0 (by lia) _ h12, ui_n jn]
theorem psN_lo (j0 : 0 ≤ j) (j1 : j < 57) (j2 : ¬ j = 2) (j3 : ¬ j = 3) (j7 : ¬ j = 7) {σ : Int32 → Int32} (h : Good σ) (jn : ¬ j = 0) : ∀ n, psN σ n j = σ j := by
  intro n
  induction n with
  | zero => rfl
  | succ n ih =>
    show hrS (psN σ n) j = σ j
    rw [hrS_lo j0 j1 j2 j3 j7 (Good_ps h n) jn]
    exact ih
end LO
/-- what every deed does: a good state, both ways' roads, the next id -/
theorem dd_ok {σ N σ' : Int32 → Int32} {i : Nat} {v : Int32} (hi : i < 10) (hG : Good σ) (h4 : σ 4 < 1000000) (hok : okJ σ N i) (hd : ddS σ N i σ' v) : Good σ' ∧ (Sy σ → Sy σ') ∧ (σ' 4 = σ 4 ∨ σ' 4 = σ 4 + 1) := by
  obtain ⟨hg1, hg2, hg3, hg4, hg5, hg6, hg7, hg8, hgL, hgS, -⟩ := _root_.id hG
  have sy : (∀ a b, 0 ≤ a → a < 7 → 0 ≤ b → b < 7 → rd σ' a b = rd σ a b) → Sy σ → Sy σ' := fun e h a b a0 a1 b0 b1 => by
    rw [e a b a0 a1 b0 b1, e b a b0 b1 a0 a1]
    exact h a b a0 a1 b0 b1
  match i, hi, hok, hd with
  | 0, _, hok, hd =>
    obtain ⟨rfl, -⟩ := hd
    have o1 := vdStation_0 hok
    exact ⟨Good.cg hG (fun _ _ => rd_sc (by decide) (by decide)) (fun _ _ => sd_sc (by decide) (by decide)) (fun _ _ => lt_sc (by decide) (by decide)) (ui_n (by decide)) (ui_n (by decide)) (ui_n (by decide)) (by rw [ui_s]; clear hgL hgS sy; lia) (by rw [ui_s]; clear hgL hgS sy; lia) (by rw [ui_n (by decide)]; exact hg7) (by rw [ui_n (by decide)]; exact hg8), sy (fun _ _ => rd_sc (by decide) (by decide)), Or.inl (ui_n (by decide))⟩
  | 1, _, hok, hd =>
    obtain ⟨rfl, -⟩ := hd
    obtain ⟨⟨o1, o2⟩, ⟨o3, o4⟩, o5, o6, o7⟩ := vdRoad_0 hok
    have s7 := Int32.lt_of_lt_of_le o2 hg2
    have t7 := Int32.lt_of_lt_of_le o4 hg2
    refine ⟨Good_rdS hG o1 o2 o3 o4 o5 o6 o7, fun h a b a0 a1 b0 b1 => ?_, Or.inl (rdS_lo o1 s7 o3 t7 (by decide) (by decide))⟩
    rw [rdS_rd o1 s7 o3 t7 a0 a1 b0 b1, rdS_rd o1 s7 o3 t7 b0 b1 a0 a1, h a b a0 a1 b0 b1]
    by_cases z : (a = N 1 ∧ b = N 0) ∨ (a = N 0 ∧ b = N 1)
    · rw [if_pos z, if_pos (z.symm.imp (fun q => ⟨q.2, q.1⟩) (fun q => ⟨q.2, q.1⟩))]
    · rw [if_neg z, if_neg (fun q => z (q.symm.imp (fun q => ⟨q.2, q.1⟩) (fun q => ⟨q.2, q.1⟩)))]
  | 2, _, hok, hd =>
    obtain ⟨rfl, -⟩ := hd
    obtain ⟨⟨o1, o2⟩, o3, o4, o5⟩ := vdSledge_0 hok
    exact ⟨Good_mkK hG o5 o1 o2 o3 o4, sy (fun _ _ => mkK_rd hg3 o5), Or.inl (mkK_n hg3 o5 (by decide) (Or.inl (by decide)))⟩
  | 3, _, hok, hd =>
    obtain ⟨rfl, -⟩ := hd
    obtain ⟨⟨o1, o2⟩, ⟨o3, o4⟩, ⟨o5, ⟨o6, o7⟩, ⟨o8, o9⟩, o10, o11⟩, o12⟩ := vdLetter_0 hok
    exact ⟨Good_mkL hG o12 h4 o1 o2 o3 o4 o6 o7 o8 o9 o10 o11, sy (fun _ _ => mkL_rd hg5 o12), Or.inr mkL_4⟩
  | 4, _, hok, hd =>
    obtain ⟨rfl, -⟩ := hd
    obtain ⟨p0, p1, hg⟩ := Good_put hG hok
    have p2 := Int32.lt_of_lt_of_le p1 hg6
    exact ⟨hg, sy (fun a b a0 a1 b0 b1 => plS_lo p0 p2 (by clear hgL hgS sy; lia) (by clear hgL hgS sy; lia)), Or.inl (plS_lo p0 p2 (by decide) (by decide))⟩
  | 5, _, hok, hd =>
    obtain ⟨rfl, -⟩ := hd
    obtain ⟨p0, p1, hg⟩ := Good_off hG hok
    have p2 := Int32.lt_of_lt_of_le p1 hg6
    exact ⟨hg, sy (fun a b a0 a1 b0 b1 => plS_lo p0 p2 (by clear hgL hgS sy; lia) (by clear hgL hgS sy; lia)), Or.inl (plS_lo p0 p2 (by decide) (by decide))⟩
  | 6, _, hok, hd =>
    obtain ⟨rfl, -⟩ := hd
    obtain ⟨⟨o1, o2⟩, o3⟩ := vdBest_0 hok
    have h12 : (σ 7).toNatClampNeg ≤ 12 := tc_le hg6
    exact ⟨Good_best hG o1 o2, sy (fun a b a0 a1 b0 b1 => plN_lo (by clear hgL hgS sy; lia) (by clear hgL hgS sy; lia) _ h12), Or.inl (plN_lo (by decide) (by decide) _ h12)⟩
  | 7, _, hok, hd =>
    obtain ⟨hd9, rfl⟩ := hd
    obtain ⟨⟨o1, o2⟩, ⟨o3, o4⟩, o5, o6⟩ : hsl σ (N 0) ∧ hst σ (N 1) ∧ ¬ (0 < sd σ (N 0) 2 ∨ sd σ (N 0) 1 = N 1) ∧ ∃ d, Wks σ (sd σ (N 0) 1) (N 1) d := hok
    have k3 := Int32.lt_of_lt_of_le o2 hg4
    exact ⟨Good_goS hG o1 o2 o3 o4 hd9 o6, sy (fun _ _ => goS_rd o1 k3), Or.inl (goS_n o1 k3 (by decide) (Or.inl (by decide)))⟩
  | 8, _, hok, hd =>
    obtain ⟨rfl, -⟩ := hd
    obtain ⟨o1, o2⟩ := vdDeg_0 hok
    exact ⟨Good.cg hG (fun _ _ => rd_sc (by decide) (by decide)) (fun _ _ => sd_sc (by decide) (by decide)) (fun _ _ => lt_sc (by decide) (by decide)) (ui_n (by decide)) (ui_n (by decide)) (ui_n (by decide)) (by rw [ui_n (by decide)]; exact Int32.le_refl _) (by rw [ui_n (by decide)]; exact hg2) (by rw [ui_s]; exact o1) (by rw [ui_s]; exact o2), sy (fun _ _ => rd_sc (by decide) (by decide)), Or.inl (ui_n (by decide))⟩
  | 9, _, hok, hd =>
    obtain ⟨rfl, -⟩ := hd
    exact ⟨Good_ps hG _, sy (fun a b a0 a1 b0 b1 => psN_lo (by clear hgL hgS sy; lia) (by clear hgL hgS sy; lia) (by clear hgL hgS sy; lia) (by clear hgL hgS sy; lia) (by clear hgL hgS sy; lia) hG (by clear hgL hgS sy; lia) _), Or.inl (psN_lo (by decide) (by decide) (by decide) (by decide) (by decide) hG (by decide) _)⟩
  | n + 10, h, _, _ => exact absurd h (by omega)
/-- what a deed makes of a state, and what it answers, is one -/
theorem dd_un {σ N σ' σ'' : Int32 → Int32} {i : Nat} {v v2 : Int32} (hi : i < 10) (h : ddS σ N i σ' v) (h2 : ddS σ N i σ'' v2) : σ' = σ'' ∧ v = v2 := by
  match i, hi, h, h2 with
  | 0, _, ⟨a, b⟩, ⟨c, d⟩ => exact ⟨a.trans c.symm, b.trans d.symm⟩
  | 1, _, ⟨a, b⟩, ⟨c, d⟩ => exact ⟨a.trans c.symm, b.trans d.symm⟩
  | 2, _, ⟨a, b⟩, ⟨c, d⟩ => exact ⟨a.trans c.symm, b.trans d.symm⟩
  | 3, _, ⟨a, b⟩, ⟨c, d⟩ => exact ⟨a.trans c.symm, b.trans d.symm⟩
  | 4, _, ⟨a, b⟩, ⟨c, d⟩ => exact ⟨a.trans c.symm, by rw [b, d, a, c]⟩
  | 5, _, ⟨a, b⟩, ⟨c, d⟩ => exact ⟨a.trans c.symm, by rw [b, d, a, c]⟩
  | 6, _, ⟨a, b⟩, ⟨c, d⟩ => exact ⟨a.trans c.symm, b.trans d.symm⟩
  | 7, _, ⟨a, b⟩, ⟨c, d⟩ =>
    have e : v = v2 := Int32.toInt_inj.mp (a.uniq c)
    exact ⟨by rw [b, d, e], e⟩
  | 8, _, ⟨a, b⟩, ⟨c, d⟩ => exact ⟨a.trans c.symm, b.trans d.symm⟩
  | 9, _, ⟨a, b⟩, ⟨c, d⟩ => exact ⟨a.trans c.symm, b.trans d.symm⟩
  | n + 10, h, _, _ => exact absurd h (by omega)
/-- how many numbers a command takes -/
def arN (i : Nat) : Nat := ([0, 3, 2, 5, 2, 2, 1, 2, 1, 1] : List Nat).getD i 0
theorem ok_cg {σ N N' : Int32 → Int32} {i : Nat} (hi : i < 10) (h : ∀ j, j < arN i → N (nI j) = N' (nI j)) : (okJ σ N i ↔ okJ σ N' i) ∧ ∀ σ' v, (ddS σ N i σ' v ↔ ddS σ N' i σ' v) := by
  match i, hi, h with
  | 0, _, h =>
    refine ⟨?_, fun σ' v => ?_⟩
    · show (vdStation σ = 0) ↔ (vdStation σ = 0)
      exact Iff.rfl
    · show (σ' = ui σ 5 (σ 5 + 1) ∧ v = σ 5) ↔ (σ' = ui σ 5 (σ 5 + 1) ∧ v = σ 5)
      exact Iff.rfl
  | 1, _, h =>
    have e0 : N 0 = N' 0 := by
      have q := h 0 (by decide)
      rwa [show nI 0 = 0 by decide] at q
    have e1 : N 1 = N' 1 := by
      have q := h 1 (by decide)
      rwa [show nI 1 = 1 by decide] at q
    have e2 : N 2 = N' 2 := by
      have q := h 2 (by decide)
      rwa [show nI 2 = 2 by decide] at q
    refine ⟨?_, fun σ' v => ?_⟩
    · show (vdRoad σ (N 0) (N 1) (N 2) = 0) ↔ (vdRoad σ (N' 0) (N' 1) (N' 2) = 0)
      rw [e0, e1, e2]
    · show (σ' = rdS σ (N 0) (N 1) (N 2) ∧ v = rd σ (N 0) (N 1)) ↔ (σ' = rdS σ (N' 0) (N' 1) (N' 2) ∧ v = rd σ (N' 0) (N' 1))
      rw [e0, e1, e2]
  | 2, _, h =>
    have e0 : N 0 = N' 0 := by
      have q := h 0 (by decide)
      rwa [show nI 0 = 0 by decide] at q
    have e1 : N 1 = N' 1 := by
      have q := h 1 (by decide)
      rwa [show nI 1 = 1 by decide] at q
    refine ⟨?_, fun σ' v => ?_⟩
    · show (vdSledge σ (N 0) (N 1) = 0) ↔ (vdSledge σ (N' 0) (N' 1) = 0)
      rw [e0, e1]
    · show (σ' = mkK σ (N 0) (N 1) ∧ v = σ 6) ↔ (σ' = mkK σ (N' 0) (N' 1) ∧ v = σ 6)
      rw [e0, e1]
  | 3, _, h =>
    have e0 : N 0 = N' 0 := by
      have q := h 0 (by decide)
      rwa [show nI 0 = 0 by decide] at q
    have e1 : N 1 = N' 1 := by
      have q := h 1 (by decide)
      rwa [show nI 1 = 1 by decide] at q
    have e2 : N 2 = N' 2 := by
      have q := h 2 (by decide)
      rwa [show nI 2 = 2 by decide] at q
    have e3 : N 3 = N' 3 := by
      have q := h 3 (by decide)
      rwa [show nI 3 = 3 by decide] at q
    have e4 : N 4 = N' 4 := by
      have q := h 4 (by decide)
      rwa [show nI 4 = 4 by decide] at q
    refine ⟨?_, fun σ' v => ?_⟩
    · show (vdLetter σ (N 0) (N 1) (N 2) (N 3) (N 4) = 0) ↔ (vdLetter σ (N' 0) (N' 1) (N' 2) (N' 3) (N' 4) = 0)
      rw [e0, e1, e2, e3, e4]
    · show (σ' = mkL σ (N 0) (N 1) (N 2) (N 3) (N 4) ∧ v = σ 4) ↔ (σ' = mkL σ (N' 0) (N' 1) (N' 2) (N' 3) (N' 4) ∧ v = σ 4)
      rw [e0, e1, e2, e3, e4]
  | 4, _, h =>
    have e0 : N 0 = N' 0 := by
      have q := h 0 (by decide)
      rwa [show nI 0 = 0 by decide] at q
    have e1 : N 1 = N' 1 := by
      have q := h 1 (by decide)
      rwa [show nI 1 = 1 by decide] at q
    refine ⟨?_, fun σ' v => ?_⟩
    · show (vdPutOn σ (N 0) (N 1) = 0) ↔ (vdPutOn σ (N' 0) (N' 1) = 0)
      rw [e0, e1]
    · show (σ' = plS σ (find σ (N 1)) (10 + N 0) ∧ v = loadOn σ' (N 0)) ↔ (σ' = plS σ (find σ (N' 1)) (10 + N' 0) ∧ v = loadOn σ' (N' 0))
      rw [e0, e1]
  | 5, _, h =>
    have e0 : N 0 = N' 0 := by
      have q := h 0 (by decide)
      rwa [show nI 0 = 0 by decide] at q
    have e1 : N 1 = N' 1 := by
      have q := h 1 (by decide)
      rwa [show nI 1 = 1 by decide] at q
    refine ⟨?_, fun σ' v => ?_⟩
    · show (vdTakeOff σ (N 0) (N 1) = 0) ↔ (vdTakeOff σ (N' 0) (N' 1) = 0)
      rw [e0, e1]
    · show (σ' = plS σ (find σ (N 1)) (sd σ (N 0) 1) ∧ v = loadOn σ' (N 0)) ↔ (σ' = plS σ (find σ (N' 1)) (sd σ (N' 0) 1) ∧ v = loadOn σ' (N' 0))
      rw [e0, e1]
  | 6, _, h =>
    have e0 : N 0 = N' 0 := by
      have q := h 0 (by decide)
      rwa [show nI 0 = 0 by decide] at q
    refine ⟨?_, fun σ' v => ?_⟩
    · show (vdBest σ (N 0) = 0) ↔ (vdBest σ (N' 0) = 0)
      rw [e0]
    · show (σ' = plN σ (N 0) (bI σ (sd σ (N 0) 1) (σ 7).toNatClampNeg (sd σ (N 0) 0 - loadOn σ (N 0)) &&& 4095) (σ 7).toNatClampNeg ∧ v = cnM (bI σ (sd σ (N 0) 1) (σ 7).toNatClampNeg (sd σ (N 0) 0 - loadOn σ (N 0)) &&& 4095) (σ 7).toNatClampNeg) ↔ (σ' = plN σ (N' 0) (bI σ (sd σ (N' 0) 1) (σ 7).toNatClampNeg (sd σ (N' 0) 0 - loadOn σ (N' 0)) &&& 4095) (σ 7).toNatClampNeg ∧ v = cnM (bI σ (sd σ (N' 0) 1) (σ 7).toNatClampNeg (sd σ (N' 0) 0 - loadOn σ (N' 0)) &&& 4095) (σ 7).toNatClampNeg)
      rw [e0]
  | 7, _, h =>
    have e0 : N 0 = N' 0 := by
      have q := h 0 (by decide)
      rwa [show nI 0 = 0 by decide] at q
    have e1 : N 1 = N' 1 := by
      have q := h 1 (by decide)
      rwa [show nI 1 = 1 by decide] at q
    refine ⟨?_, fun σ' v => ?_⟩
    · show (hsl σ (N 0) ∧ hst σ (N 1) ∧ ¬ (0 < sd σ (N 0) 2 ∨ sd σ (N 0) 1 = N 1) ∧ ∃ d, Wks σ (sd σ (N 0) 1) (N 1) d) ↔ (hsl σ (N' 0) ∧ hst σ (N' 1) ∧ ¬ (0 < sd σ (N' 0) 2 ∨ sd σ (N' 0) 1 = N' 1) ∧ ∃ d, Wks σ (sd σ (N' 0) 1) (N' 1) d)
      rw [e0, e1]
    · show (IsD σ 1000000 (sd σ (N 0) 1) (N 1) v.toInt ∧ σ' = goS σ (N 0) (N 1) v) ↔ (IsD σ 1000000 (sd σ (N' 0) 1) (N' 1) v.toInt ∧ σ' = goS σ (N' 0) (N' 1) v)
      rw [e0, e1]
  | 8, _, h =>
    have e0 : N 0 = N' 0 := by
      have q := h 0 (by decide)
      rwa [show nI 0 = 0 by decide] at q
    refine ⟨?_, fun σ' v => ?_⟩
    · show (vdDeg (N 0) = 0) ↔ (vdDeg (N' 0) = 0)
      rw [e0]
    · show (σ' = ui σ 1 (N 0) ∧ v = σ 1) ↔ (σ' = ui σ 1 (N' 0) ∧ v = σ 1)
      rw [e0]
  | 9, _, h =>
    have e0 : N 0 = N' 0 := by
      have q := h 0 (by decide)
      rwa [show nI 0 = 0 by decide] at q
    refine ⟨?_, fun σ' v => ?_⟩
    · show (vdHrs (N 0) = 0) ↔ (vdHrs (N' 0) = 0)
      rw [e0]
    · show (σ' = psN σ (N 0).toNatClampNeg ∧ v = psN σ (N 0).toNatClampNeg 3 - σ 3) ↔ (σ' = psN σ (N' 0).toNatClampNeg ∧ v = psN σ (N' 0).toNatClampNeg 3 - σ 3)
      rw [e0]
  | n + 10, h, _ => exact absurd h (by omega)
