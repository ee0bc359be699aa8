/-! ===== a road is made ===== -/
theorem Good.cgR {σ σ' : Int32 → Int32} (h : Good σ) (hr : ∀ a b, 0 ≤ a → a < 7 → 0 ≤ b → b < 7 → 0 ≤ rd σ' a b ∧ rd σ' a b ≤ 20 ∧ (0 < rd σ' a b → a < σ' 5 ∧ b < σ' 5 ∧ ¬ a = b)) (hs : ∀ k w, 0 ≤ k → k < 3 → 0 ≤ w → w < 3 → sd σ' k w = sd σ k w) (hl : ∀ i w, 0 ≤ i → i < 12 → 0 ≤ w → w < 7 → lt σ' i w = lt σ i w) (e6 : σ' 6 = σ 6) (e7 : σ' 7 = σ 7) (e4 : σ' 4 = σ 4) (h5 : σ 5 ≤ σ' 5) (h57 : σ' 5 ≤ 7) (h1 : -30 ≤ σ' 1) (h1' : σ' 1 ≤ 10) : Good σ' := by
  obtain ⟨g1, g2, g3, g4, g5, g6, -, -, gL, gS, gR, gI, gN, g0⟩ := h
  refine ⟨by lia, h57, by rw [e6]; exact g3, by rw [e6]; exact g4, by rw [e7]; exact g5, by rw [e7]; exact g6, h1, h1', fun i i0 i1 => ?_, fun k k0 k1 => ?_, fun a b a0 a1 b0 b1 => ?_, fun i j i0 ij j1 => ?_, fun i i0 i1 => ?_, by rw [e4]; exact g0⟩
  · rw [e7] at i1
    have L : ∀ w, 0 ≤ w → w < 7 → lt σ' i w = lt σ i w := fun w => hl i w i0 (by clear gL gS gR gI gN hr hs hl; lia)
    obtain ⟨z1, z2, z3, z4, z5, z6, z7, z8, z9, z10, z11, z12, z13, z14⟩ := gL i i0 i1
    clear gL gS gR gI gN hr hs hl
    rw [L 0 (by decide) (by decide), L 1 (by decide) (by decide), L 2 (by decide) (by decide), L 3 (by decide) (by decide), L 4 (by decide) (by decide), L 5 (by decide) (by decide), L 6 (by decide) (by decide), e6]
    exact ⟨z1, by lia, z3, z4, z5, z6, z7, z8, z9, z10, z11, z12.elim (fun q => Or.inl (by lia)) Or.inr, z13, z14⟩
  · rw [e6] at k1
    have S : ∀ w, 0 ≤ w → w < 3 → sd σ' k w = sd σ k w := fun w => hs k w k0 (by clear gL gS gR gI gN hr hs hl; lia)
    obtain ⟨z1, z2, z3, z4, z5, z6, z7, z8⟩ := gS k k0 k1
    rw [loadOn_cg g6 hl e7 k]
    clear gL gS gR gI gN hr hs hl
    rw [S 0 (by decide) (by decide), S 1 (by decide) (by decide), S 2 (by decide) (by decide)]
    exact ⟨z1, z2, z3, by lia, z5, z6, z7, z8⟩
  · exact hr a b a0 a1 b0 b1
  · rw [e7] at j1
    have q1 : i < 12 := by clear gL gS gR gI gN hr hs hl; lia
    have q2 : j < 12 := by clear gL gS gR gI gN hr hs hl; lia
    have q3 : 0 ≤ j := by clear gL gS gR gI gN hr hs hl; lia
    rw [hl i 0 i0 q1 (by decide) (by decide), hl j 0 q3 q2 (by decide) (by decide)]
    exact gI i j i0 ij j1
  · rw [e7] at i1
    have q1 : i < 12 := by clear gL gS gR gI gN hr hs hl; lia
    rw [hl i 0 i0 q1 (by decide) (by decide), e4]
    exact gN i i0 i1
theorem Rl.cgR {fg tp fg' tp' : Int32} {F F' : Nat → Int32 → Int32} {σ σ' : Int32 → Int32} (h : Rl fg tp F σ) (hG : Good σ) (hr : ∀ a b, 0 ≤ a → a < 7 → 0 ≤ b → b < 7 → F' 11 (7 * a + b) = rd σ' a b) (hF : ∀ w, w < 11 → F' w = F w) (hs : ∀ k w, 0 ≤ k → k < 3 → 0 ≤ w → w < 3 → sd σ' k w = sd σ k w) (hl : ∀ i w, 0 ≤ i → i < 12 → 0 ≤ w → w < 7 → lt σ' i w = lt σ i w) (e6 : σ' 6 = σ 6) (e7 : σ' 7 = σ 7) (hf : fg' - tp' = σ' 2) : Rl fg' tp' F' σ' := by
  obtain ⟨-, r2, r3, r4⟩ := h
  obtain ⟨-, -, g3, g4, g5, g6, -⟩ := hG
  refine ⟨hf, hr, fun k k0 k1 => ?_, fun i i0 i1 => ?_⟩
  · rw [e6] at k1
    have S : ∀ w, 0 ≤ w → w < 3 → sd σ' k w = sd σ k w := fun w => hs k w k0 (by clear r2 r3 r4 hr hs hl; lia)
    rw [S 0 (by decide) (by decide), S 1 (by decide) (by decide), S 2 (by decide) (by decide)]
    rw [hF 8 (by decide), hF 9 (by decide), hF 10 (by decide)]
    exact r3 k k0 k1
  · rw [e7] at i1
    have L : ∀ w, 0 ≤ w → w < 7 → lt σ' i w = lt σ i w := fun w => hl i w i0 (by clear r2 r3 r4 hr hs hl; lia)
    rw [L 0 (by decide) (by decide), L 1 (by decide) (by decide), L 2 (by decide) (by decide), L 3 (by decide) (by decide), L 4 (by decide) (by decide), L 5 (by decide) (by decide), L 6 (by decide) (by decide)]
    rw [hF 0 (by decide), hF 1 (by decide), hF 2 (by decide), hF 3 (by decide), hF 4 (by decide), hF 5 (by decide), hF 6 (by decide), hF 7 (by decide)]
    exact r4 i i0 i1
/-- the road between s and t is n now -/
def rdS (σ : Int32 → Int32) (s t n : Int32) : Int32 → Int32 := ui (ui σ (8 + 7 * s + t) n) (8 + 7 * t + s) n
theorem rix {s t a b : Int32} (s0 : 0 ≤ s) (s1 : s < 7) (t0 : 0 ≤ t) (t1 : t < 7) (a0 : 0 ≤ a) (a1 : a < 7) (b0 : 0 ≤ b) (b1 : b < 7) : 8 + 7 * a + b = 8 + 7 * s + t ↔ a = s ∧ b = t := by
  constructor
  · intro h
    exact ⟨by lia, by lia⟩
  · rintro ⟨rfl, rfl⟩
    rfl
theorem rdS_rd {σ : Int32 → Int32} {s t n a b : Int32} (s0 : 0 ≤ s) (s1 : s < 7) (t0 : 0 ≤ t) (t1 : t < 7) (a0 : 0 ≤ a) (a1 : a < 7) (b0 : 0 ≤ b) (b1 : b < 7) : rd (rdS σ s t n) a b = if (a = t ∧ b = s) ∨ (a = s ∧ b = t) then n else rd σ a b := by
  show ui (ui σ (8 + 7 * s + t) n) (8 + 7 * t + s) n (8 + 7 * a + b) = _
  by_cases q : a = t ∧ b = s
  · rw [if_pos (Or.inl q), (rix t0 t1 s0 s1 a0 a1 b0 b1).mpr q, ui_s]
  · rw [ui_n (fun z => q ((rix t0 t1 s0 s1 a0 a1 b0 b1).mp z))]
    by_cases p : a = s ∧ b = t
    · rw [if_pos (Or.inr p), (rix s0 s1 t0 t1 a0 a1 b0 b1).mpr p, ui_s]
    · rw [ui_n (fun z => p ((rix s0 s1 t0 t1 a0 a1 b0 b1).mp z)), if_neg (fun z => z.elim q p)]
      rfl
theorem rdS_lo {σ : Int32 → Int32} {s t n j : Int32} (s0 : 0 ≤ s) (s1 : s < 7) (t0 : 0 ≤ t) (t1 : t < 7) (hj : j < 8) (hj0 : 0 ≤ j) : rdS σ s t n j = σ j := by
  unfold rdS
  rw [ui_n (by lia), ui_n (by lia)]
theorem rdS_hi {σ : Int32 → Int32} {s t n j : Int32} (s0 : 0 ≤ s) (s1 : s < 7) (t0 : 0 ≤ t) (t1 : t < 7) (hj : 57 ≤ j) (hj1 : j < 200) : rdS σ s t n j = σ j := by
  unfold rdS
  rw [ui_n (by lia), ui_n (by lia)]
theorem R_ix {F : Int32 → Int32} {s t n a b : Int32} (s0 : 0 ≤ s) (s1 : s < 7) (t0 : 0 ≤ t) (t1 : t < 7) (a0 : 0 ≤ a) (a1 : a < 7) (b0 : 0 ≤ b) (b1 : b < 7) : ui (ui F (s * 7 + t) n) (t * 7 + s) n (7 * a + b) = if (a = t ∧ b = s) ∨ (a = s ∧ b = t) then n else F (7 * a + b) := by
  rw [Int32.mul_comm 7 a]
  by_cases q : a = t ∧ b = s
  · rw [if_pos (Or.inl q), q.1, q.2, ui_s]
  · rw [ui_n (fun z => q (cell_inj a0 a1 b0 b1 t0 t1 s0 s1 z))]
    by_cases p : a = s ∧ b = t
    · rw [if_pos (Or.inr p), p.1, p.2, ui_s]
    · rw [ui_n (fun z => p (cell_inj a0 a1 b0 b1 s0 s1 t0 t1 z)), if_neg (fun z => z.elim q p)]
theorem dX3_makeRoad_0 : decode cX3_makeRoad 0 = .ok (.aload_n 0, 1) := by decide +kernel
theorem dX3_makeRoad_1 : decode cX3_makeRoad 1 = .ok (.getfield 12, 3) := by decide +kernel
theorem dX3_makeRoad_4 : decode cX3_makeRoad 4 = .ok (.getfield 66, 3) := by decide +kernel
theorem dX3_makeRoad_7 : decode cX3_makeRoad 7 = .ok (.iload_n 1, 1) := by decide +kernel
theorem dX3_makeRoad_8 : decode cX3_makeRoad 8 = .ok (.iload_n 2, 1) := by decide +kernel
theorem dX3_makeRoad_9 : decode cX3_makeRoad 9 = .ok (.invokestatic 70, 3) := by decide +kernel
theorem dX3_makeRoad_12 : decode cX3_makeRoad 12 = .ok (.iaload, 1) := by decide +kernel
theorem dX3_makeRoad_13 : decode cX3_makeRoad 13 = .ok (.istore 4, 2) := by decide +kernel
theorem dX3_makeRoad_15 : decode cX3_makeRoad 15 = .ok (.aload_n 0, 1) := by decide +kernel
theorem dX3_makeRoad_16 : decode cX3_makeRoad 16 = .ok (.getfield 12, 3) := by decide +kernel
theorem dX3_makeRoad_19 : decode cX3_makeRoad 19 = .ok (.getfield 66, 3) := by decide +kernel
theorem dX3_makeRoad_22 : decode cX3_makeRoad 22 = .ok (.iload_n 1, 1) := by decide +kernel
theorem dX3_makeRoad_23 : decode cX3_makeRoad 23 = .ok (.iload_n 2, 1) := by decide +kernel
theorem dX3_makeRoad_24 : decode cX3_makeRoad 24 = .ok (.invokestatic 70, 3) := by decide +kernel
theorem dX3_makeRoad_27 : decode cX3_makeRoad 27 = .ok (.iload_n 3, 1) := by decide +kernel
theorem dX3_makeRoad_28 : decode cX3_makeRoad 28 = .ok (.iastore, 1) := by decide +kernel
theorem dX3_makeRoad_29 : decode cX3_makeRoad 29 = .ok (.aload_n 0, 1) := by decide +kernel
theorem dX3_makeRoad_30 : decode cX3_makeRoad 30 = .ok (.getfield 12, 3) := by decide +kernel
theorem dX3_makeRoad_33 : decode cX3_makeRoad 33 = .ok (.getfield 66, 3) := by decide +kernel
theorem dX3_makeRoad_36 : decode cX3_makeRoad 36 = .ok (.iload_n 2, 1) := by decide +kernel
theorem dX3_makeRoad_37 : decode cX3_makeRoad 37 = .ok (.iload_n 1, 1) := by decide +kernel
theorem dX3_makeRoad_38 : decode cX3_makeRoad 38 = .ok (.invokestatic 70, 3) := by decide +kernel
theorem dX3_makeRoad_41 : decode cX3_makeRoad 41 = .ok (.iload_n 3, 1) := by decide +kernel
theorem dX3_makeRoad_42 : decode cX3_makeRoad 42 = .ok (.iastore, 1) := by decide +kernel
theorem dX3_makeRoad_43 : decode cX3_makeRoad 43 = .ok (.iload 4, 2) := by decide +kernel
theorem dX3_makeRoad_45 : decode cX3_makeRoad 45 = .ok (.ireturn, 1) := by decide +kernel
set_option maxRecDepth 100000 in
set_option maxHeartbeats 4000000 in
theorem c_makeRoad {l : Launch} {g : Nat → Nat} {M : LH} (htr : l.stackTraces = false) {kd : Nat → Nat} {r a : Nat} {ad : Nat → Nat} {sl le : Int32 → Nat} {fg tp : Int32} {F : Nat → Int32 → Int32} {σ : Int32 → Int32} (hC : StR kd r M a ad sl le fg tp F σ) {q : Nat → Nat} {D : Nat} (hK : Dk kd D r M a q) {s t n : Int32} (hs0 : 0 ≤ s) (hs : s < σ 5) (ht0 : 0 ≤ t) (ht : t < σ 5) (hst9 : ¬ s = t) (hn0 : 0 ≤ n) (hn1 : n ≤ 20) : K_X3_makeRoad l g 1 0 0 [.ref (q 0), .int s, .int t, .int n] M (RI (fun v M9 => v = rd σ s t ∧ ∃ F', StR kd r M9 a ad sl le fg tp F' (rdS σ s t n) ∧ Frm kd r M M9) nX) := by
  refine Ko_X3_makeRoad htr (fun X => ?_)
  have hC0 := hC
  have hK0 := hK
  obtain ⟨hSt, hRo, hSR, hLR, hSl, hLe, hkd, -, ⟨-, hRd, hSd, hLt⟩, hG⟩ := hC
  obtain ⟨hDk, hDs, ⟨f1, hB1⟩, ⟨f2, hB2⟩, hBl, ⟨f3, hB3⟩, hRt, ⟨f4, hB4⟩, hkD, hn34, hDr⟩ := hK
  have hG0 := hG
  obtain ⟨hg1, hg2, hg3, hg4, hg5, hg6, hg7, hg8, hgL, hgS, -⟩ := hG
  have s7 : s < 7 := by clear hgL hgS hRd hSd hLt hLe hSl; lia
  have t7 : t < 7 := by clear hgL hgS hRd hSd hLt hLe hSl; lia
  obtain ⟨b0, b1⟩ := cell_in hs0 s7 ht0 t7
  obtain ⟨e0, e1⟩ := cell_in ht0 t7 hs0 s7
  have nbK : ¬ q 0 = ad 0 := ne_of_cell hDk hRo ob_ia
  have nbS : ¬ a = ad 0 := ne_of_cell hSt hRo ob_ia
  have hrd : F 11 (s * 7 + t) = rd σ s t := by
    rw [← hRd s t hs0 s7 ht0 t7, Int32.mul_comm]
  have hlo : ∀ j : Int32, 0 ≤ j → j < 8 → rdS σ s t n j = σ j := fun j j0 j1 => rdS_lo hs0 s7 ht0 t7 j1 j0
  have hs9 : ∀ k w, 0 ≤ k → k < 3 → 0 ≤ w → w < 3 → sd (rdS σ s t n) k w = sd σ k w := fun k w k0 k1 w0 w1 => by
    unfold sd
    exact rdS_hi hs0 s7 ht0 t7 (by clear hgL hgS hRd hSd hLt hLe hSl hlo; lia) (by clear hgL hgS hRd hSd hLt hLe hSl hlo; lia)
  have hl9 : ∀ i w, 0 ≤ i → i < 12 → 0 ≤ w → w < 7 → lt (rdS σ s t n) i w = lt σ i w := fun i w i0 i1 w0 w1 => by
    unfold lt
    exact rdS_hi hs0 s7 ht0 t7 (by clear hgL hgS hRd hSd hLt hLe hSl hlo hs9; lia) (by clear hgL hgS hRd hSd hLt hLe hSl hlo hs9; lia)
  have hG9 : Good (rdS σ s t n) := by
    refine Good.cgR hG0 (fun x y x0 x1 y0 y1 => ?_) hs9 hl9 (hlo 6 (by decide) (by decide)) (hlo 7 (by decide) (by decide)) (hlo 4 (by decide) (by decide)) (by rw [hlo 5 (by decide) (by decide)]; exact Int32.le_refl _) (by rw [hlo 5 (by decide) (by decide)]; exact hg2) (by rw [hlo 1 (by decide) (by decide)]; exact hg7) (by rw [hlo 1 (by decide) (by decide)]; exact hg8)
    rw [rdS_rd hs0 s7 ht0 t7 x0 x1 y0 y1, hlo 5 (by decide) (by decide)]
    by_cases z : (x = t ∧ y = s) ∨ (x = s ∧ y = t)
    · rw [if_pos z]
      refine ⟨hn0, hn1, fun _ => ?_⟩
      rcases z with ⟨rfl, rfl⟩ | ⟨rfl, rfl⟩
      · exact ⟨ht, hs, fun w => hst9 w.symm⟩
      · exact ⟨hs, ht, hst9⟩
    · rw [if_neg z]
      exact hG0.2.2.2.2.2.2.2.2.2.2.1 x y x0 x1 y0 y1
  have hcS : cS fg tp (rdS σ s t n) = cS fg tp σ := by
    unfold cS
    rw [hlo 0 (by decide) (by decide), hlo 1 (by decide) (by decide), hlo 2 (by decide) (by decide), hlo 3 (by decide) (by decide), hlo 4 (by decide) (by decide), hlo 5 (by decide) (by decide), hlo 6 (by decide) (by decide), hlo 7 (by decide) (by decide)]
  have t9 := StR.of (hcS.symm ▸ StC.roa (StR.toC hC0) (ui (ui (F 11) (s * 7 + t) n) (t * 7 + s) n)) (Rl.cgR (σ' := rdS σ s t n) (fg' := fg) (tp' := tp) (StR.toR hC0) hG0 (fun x y x0 x1 y0 y1 => (R_ix hs0 s7 ht0 t7 x0 x1 y0 y1).trans (by rw [rdS_rd hs0 s7 ht0 t7 x0 x1 y0 y1, hRd x y x0 x1 y0 y1])) (fun w hw => by funext j; simp only [upR]; rw [if_neg (by omega)]) hs9 hl9 (hlo 6 (by decide) (by decide)) (hlo 7 (by decide) (by decide)) ((StR.toR hC0).1.trans (hlo 2 (by decide) (by decide)).symm)) hG9
  refine v_aload_n dX3_makeRoad_0 rfl rfl ?_
  refine gf_X3_12 dX3_makeRoad_1 rfl hDk ?_
  refine gf_X3_66 dX3_makeRoad_4 rfl hSt ?_
  refine v_iload_n dX3_makeRoad_7 rfl rfl ?_
  refine v_iload_n dX3_makeRoad_8 rfl rfl ?_
  refine k_X3_70 dX3_makeRoad_9 rfl (c_cell htr s t) (Nat.le_of_ble_eq_true rfl) (by omega) (by omega) (Nat.le_of_ble_eq_true rfl) (fun r9 M9 h9 => ?_) (fun _ _ h9 => h9.elim)
  obtain ⟨rfl, e9⟩ := h9
  subst M9
  refine v_iald dX3_makeRoad_12 hRo b0 b1 ?_
  refine v_istore_4 dX3_makeRoad_13 ?_
  refine v_aload_n dX3_makeRoad_15 rfl rfl ?_
  refine gf_X3_12 dX3_makeRoad_16 rfl hDk ?_
  refine gf_X3_66 dX3_makeRoad_19 rfl hSt ?_
  refine v_iload_n dX3_makeRoad_22 rfl rfl ?_
  refine v_iload_n dX3_makeRoad_23 rfl rfl ?_
  refine k_X3_70 dX3_makeRoad_24 rfl (c_cell htr s t) (Nat.le_of_ble_eq_true rfl) (by omega) (by omega) (Nat.le_of_ble_eq_true rfl) (fun r24 M9 h9 => ?_) (fun _ _ h9 => h9.elim)
  obtain ⟨rfl, e9⟩ := h9
  subst M9
  refine v_iload_n dX3_makeRoad_27 rfl rfl ?_
  refine v_iast dX3_makeRoad_28 hRo b0 b1 ?_
  refine v_aload_n dX3_makeRoad_29 rfl rfl ?_
  refine gf_X3_12 dX3_makeRoad_30 rfl ((hup_n nbK).trans hDk) ?_
  refine gf_X3_66 dX3_makeRoad_33 rfl ((hup_n nbS).trans hSt) ?_
  refine v_iload_n dX3_makeRoad_36 rfl rfl ?_
  refine v_iload_n dX3_makeRoad_37 rfl rfl ?_
  refine k_X3_70 dX3_makeRoad_38 rfl (c_cell htr t s) (Nat.le_of_ble_eq_true rfl) (by omega) (by omega) (Nat.le_of_ble_eq_true rfl) (fun r38 M9 h9 => ?_) (fun _ _ h9 => h9.elim)
  obtain ⟨rfl, e9⟩ := h9
  subst M9
  refine v_iload_n dX3_makeRoad_41 rfl rfl ?_
  refine v_iast dX3_makeRoad_42 hup_s e0 e1 ?_
  rw [hup_hup]
  refine v_iload dX3_makeRoad_43 rfl ?_
  exact v_iret dX3_makeRoad_45 rfl ⟨hrd, _, t9, Frm.up hkd.2.1⟩ (by omega) (by omega)

