/-! ===== changes of the State's scalars ===== -/
theorem rd_sc {σ : Int32 → Int32} {j x a b : Int32} (hj0 : 0 ≤ j) (hj : j < 8) (a0 : 0 ≤ a) (a1 : a < 7) (b0 : 0 ≤ b) (b1 : b < 7) : rd (ui σ j x) a b = rd σ a b := by
  unfold rd
  exact ui_n (by lia)
theorem sd_sc {σ : Int32 → Int32} {j x k w : Int32} (hj0 : 0 ≤ j) (hj : j < 8) (a0 : 0 ≤ k) (a1 : k < 3) (b0 : 0 ≤ w) (b1 : w < 3) : sd (ui σ j x) k w = sd σ k w := by
  unfold sd
  exact ui_n (by lia)
theorem lt_sc {σ : Int32 → Int32} {j x i w : Int32} (hj0 : 0 ≤ j) (hj : j < 8) (a0 : 0 ≤ i) (a1 : i < 12) (b0 : 0 ≤ w) (b1 : w < 7) : lt (ui σ j x) i w = lt σ i w := by
  unfold lt
  exact ui_n (by lia)
theorem nI12 : ∀ k, k < 12 → 0 ≤ nI k ∧ nI k < 12 := by decide
theorem sumN_cg {f g : Int32 → Int32} : ∀ n : Nat, n ≤ 12 → (∀ i, 0 ≤ i → i < 12 → f i = g i) → sumN f n = sumN g n := by
  intro n
  induction n with
  | zero => exact fun _ _ => rfl
  | succ n ih =>
    intro hn h
    show sumN f n + f (nI n) = sumN g n + g (nI n)
    rw [ih (by omega) h, h _ (nI12 n (by omega)).1 (nI12 n (by omega)).2]
theorem loadOn_cg {σ σ' : Int32 → Int32} (h7 : σ 7 ≤ 12) (hl : ∀ i w, 0 ≤ i → i < 12 → 0 ≤ w → w < 7 → lt σ' i w = lt σ i w) (e7 : σ' 7 = σ 7) (k : Int32) : loadOn σ' k = loadOn σ k := by
  unfold loadOn sumU
  rw [e7]
  exact sumN_cg _ (tc_le h7) (fun i i0 i1 => by rw [hl i 6 i0 i1 (by decide) (by decide), hl i 2 i0 i1 (by decide) (by decide)])
theorem Good.cg {σ σ' : Int32 → Int32} (h : Good σ) (hr : ∀ a b, 0 ≤ a → a < 7 → 0 ≤ b → b < 7 → rd σ' a b = rd σ a b) (hs : ∀ k w, 0 ≤ k → k < 3 → 0 ≤ w → w < 3 → sd σ' k w = sd σ k w) (hl : ∀ i w, 0 ≤ i → i < 12 → 0 ≤ w → w < 7 → lt σ' i w = lt σ i w) (e6 : σ' 6 = σ 6) (e7 : σ' 7 = σ 7) (e4 : σ' 4 = σ 4) (h5 : σ 5 ≤ σ' 5) (h57 : σ' 5 ≤ 7) (h1 : -30 ≤ σ' 1) (h1' : σ' 1 ≤ 10) : Good σ' := by
  obtain ⟨g1, g2, g3, g4, g5, g6, -, -, gL, gS, gR, gI, gN, g0⟩ := h
  refine ⟨by lia, h57, by rw [e6]; exact g3, by rw [e6]; exact g4, by rw [e7]; exact g5, by rw [e7]; exact g6, h1, h1', fun i i0 i1 => ?_, fun k k0 k1 => ?_, fun a b a0 a1 b0 b1 => ?_, fun i j i0 ij j1 => ?_, fun i i0 i1 => ?_, by rw [e4]; exact g0⟩
  · rw [e7] at i1
    have L : ∀ w, 0 ≤ w → w < 7 → lt σ' i w = lt σ i w := fun w => hl i w i0 (by clear gL gS gR gI gN hr hs hl; lia)
    obtain ⟨z1, z2, z3, z4, z5, z6, z7, z8, z9, z10, z11, z12, z13, z14⟩ := gL i i0 i1
    clear gL gS gR gI gN hr hs hl
    rw [L 0 (by decide) (by decide), L 1 (by decide) (by decide), L 2 (by decide) (by decide), L 3 (by decide) (by decide), L 4 (by decide) (by decide), L 5 (by decide) (by decide), L 6 (by decide) (by decide), e6]
    exact ⟨z1, by lia, z3, z4, z5, z6, z7, z8, z9, z10, z11, z12.elim (fun q => Or.inl (by lia)) Or.inr, z13, z14⟩
  · rw [e6] at k1
    have S : ∀ w, 0 ≤ w → w < 3 → sd σ' k w = sd σ k w := fun w => hs k w k0 (by clear gL gS gR gI gN hr hs hl; lia)
    obtain ⟨z1, z2, z3, z4, z5, z6, z7, z8⟩ := gS k k0 k1
    rw [loadOn_cg g6 hl e7 k]
    clear gL gS gR gI gN hr hs hl
    rw [S 0 (by decide) (by decide), S 1 (by decide) (by decide), S 2 (by decide) (by decide)]
    exact ⟨z1, z2, z3, by lia, z5, z6, z7, z8⟩
  · obtain ⟨z1, z2, z3⟩ := gR a b a0 a1 b0 b1
    rw [hr a b a0 a1 b0 b1]
    clear gL gS gR gI gN hr hs hl
    exact ⟨z1, z2, fun q => by obtain ⟨y1, y2, y3⟩ := z3 q; exact ⟨by lia, by lia, y3⟩⟩
  · rw [e7] at j1
    have q1 : i < 12 := by clear gL gS gR gI gN hr hs hl; lia
    have q2 : j < 12 := by clear gL gS gR gI gN hr hs hl; lia
    have q3 : 0 ≤ j := by clear gL gS gR gI gN hr hs hl; lia
    rw [hl i 0 i0 q1 (by decide) (by decide), hl j 0 q3 q2 (by decide) (by decide)]
    exact gI i j i0 ij j1
  · rw [e7] at i1
    have q1 : i < 12 := by clear gL gS gR gI gN hr hs hl; lia
    rw [hl i 0 i0 q1 (by decide) (by decide), e4]
    exact gN i i0 i1
theorem Rl.cg {fg tp fg' tp' : Int32} {F : Nat → Int32 → Int32} {σ σ' : Int32 → Int32} (h : Rl fg tp F σ) (hG : Good σ) (hr : ∀ a b, 0 ≤ a → a < 7 → 0 ≤ b → b < 7 → rd σ' a b = rd σ a b) (hs : ∀ k w, 0 ≤ k → k < 3 → 0 ≤ w → w < 3 → sd σ' k w = sd σ k w) (hl : ∀ i w, 0 ≤ i → i < 12 → 0 ≤ w → w < 7 → lt σ' i w = lt σ i w) (e6 : σ' 6 = σ 6) (e7 : σ' 7 = σ 7) (hf : fg' - tp' = σ' 2) : Rl fg' tp' F σ' := by
  obtain ⟨-, r2, r3, r4⟩ := h
  obtain ⟨-, -, g3, g4, g5, g6, -⟩ := hG
  refine ⟨hf, fun a b a0 a1 b0 b1 => by rw [hr a b a0 a1 b0 b1]; exact r2 a b a0 a1 b0 b1, fun k k0 k1 => ?_, fun i i0 i1 => ?_⟩
  · rw [e6] at k1
    have S : ∀ w, 0 ≤ w → w < 3 → sd σ' k w = sd σ k w := fun w => hs k w k0 (by clear r2 r3 r4 hr hs hl; lia)
    rw [S 0 (by decide) (by decide), S 1 (by decide) (by decide), S 2 (by decide) (by decide)]
    exact r3 k k0 k1
  · rw [e7] at i1
    have L : ∀ w, 0 ≤ w → w < 7 → lt σ' i w = lt σ i w := fun w => hl i w i0 (by clear r2 r3 r4 hr hs hl; lia)
    rw [L 0 (by decide) (by decide), L 1 (by decide) (by decide), L 2 (by decide) (by decide), L 3 (by decide) (by decide), L 4 (by decide) (by decide), L 5 (by decide) (by decide), L 6 (by decide) (by decide)]
    exact r4 i i0 i1
theorem StR.sc {kd : Nat → Nat} {r : Nat} {M : LH} {a : Nat} {ad : Nat → Nat} {sl le : Int32 → Nat} {fg tp fg' tp' : Int32} {F : Nat → Int32 → Int32} {σ σ' : Int32 → Int32} (h : StR kd r M a ad sl le fg tp F σ) (hr : ∀ a b, 0 ≤ a → a < 7 → 0 ≤ b → b < 7 → rd σ' a b = rd σ a b) (hs : ∀ k w, 0 ≤ k → k < 3 → 0 ≤ w → w < 3 → sd σ' k w = sd σ k w) (hl : ∀ i w, 0 ≤ i → i < 12 → 0 ≤ w → w < 7 → lt σ' i w = lt σ i w) (e6 : σ' 6 = σ 6) (e7 : σ' 7 = σ 7) (e4 : σ' 4 = σ 4) (h5 : σ 5 ≤ σ' 5) (h57 : σ' 5 ≤ 7) (h1 : -30 ≤ σ' 1) (h1' : σ' 1 ≤ 10) (hf : fg' - tp' = σ' 2) :
    StR kd r (hup M a (ob 8 [.int (σ' 5), .ref (ad 0), .int (σ' 6), .ref (ad 1), .int (σ' 7), .ref (ad 2), .int (σ' 4), .int (σ' 0), .int (σ' 1), .int (σ' 2), .int fg', .int tp', .int (σ' 3)])) a ad sl le fg' tp' F σ' :=
  StR.of (StC.obj (StR.toC h) (cS fg' tp' σ')) (Rl.cg (StR.toR h) (StR.toG h) hr hs hl e6 e7 hf) (Good.cg (StR.toG h) hr hs hl e6 e7 e4 h5 h57 h1 h1')
theorem dX3_makeStation_0 : decode cX3_makeStation 0 = .ok (.aload_n 0, 1) := by decide +kernel
theorem dX3_makeStation_1 : decode cX3_makeStation 1 = .ok (.getfield 12, 3) := by decide +kernel
theorem dX3_makeStation_4 : decode cX3_makeStation 4 = .ok (.dup, 1) := by decide +kernel
theorem dX3_makeStation_5 : decode cX3_makeStation 5 = .ok (.getfield 39, 3) := by decide +kernel
theorem dX3_makeStation_8 : decode cX3_makeStation 8 = .ok (.iconst 1, 1) := by decide +kernel
theorem dX3_makeStation_9 : decode cX3_makeStation 9 = .ok (.iadd, 1) := by decide +kernel
theorem dX3_makeStation_10 : decode cX3_makeStation 10 = .ok (.putfield 39, 3) := by decide +kernel
theorem dX3_makeStation_13 : decode cX3_makeStation 13 = .ok (.aload_n 0, 1) := by decide +kernel
theorem dX3_makeStation_14 : decode cX3_makeStation 14 = .ok (.getfield 12, 3) := by decide +kernel
theorem dX3_makeStation_17 : decode cX3_makeStation 17 = .ok (.getfield 39, 3) := by decide +kernel
theorem dX3_makeStation_20 : decode cX3_makeStation 20 = .ok (.iconst 1, 1) := by decide +kernel
theorem dX3_makeStation_21 : decode cX3_makeStation 21 = .ok (.isub, 1) := by decide +kernel
theorem dX3_makeStation_22 : decode cX3_makeStation 22 = .ok (.ireturn, 1) := by decide +kernel
set_option maxRecDepth 100000 in
set_option maxHeartbeats 4000000 in
theorem c_makeStation {l : Launch} {g : Nat → Nat} {M : LH} (htr : l.stackTraces = false) {kd : Nat → Nat} {r a : Nat} {ad : Nat → Nat} {sl le : Int32 → Nat} {fg tp : Int32} {F : Nat → Int32 → Int32} {σ : Int32 → Int32} (hC : StR kd r M a ad sl le fg tp F σ) {q : Nat → Nat} {D : Nat} (hK : Dk kd D r M a q) (h57 : σ 5 < 7) : K_X3_makeStation l g 0 0 0 [.ref (q 0)] M (RI (fun v M9 => v = σ 5 ∧ StR kd r M9 a ad sl le fg tp F (ui σ 5 (σ 5 + 1)) ∧ Frm kd r M M9) nX) := by
  refine Ko_X3_makeStation htr (fun X => ?_)
  have hC0 := hC
  have hK0 := hK
  obtain ⟨hSt, hRo, hSR, hLR, hSl, hLe, hkd, -, ⟨-, hRd, hSd, hLt⟩, hG⟩ := hC
  obtain ⟨hDk, hDs, ⟨f1, hB1⟩, ⟨f2, hB2⟩, hBl, ⟨f3, hB3⟩, hRt, ⟨f4, hB4⟩, hkD, hn34, hDr⟩ := hK
  have hG0 := hG
  obtain ⟨hg1, hg2, hg3, hg4, hg5, hg6, hg7, hg8, hgL, hgS, -⟩ := hG
  have hFT := (StR.toR hC0).1
  have nbK : ¬ q 0 = a := ne_of_cell hDk hSt (ob_ob (by decide))
  have t9 := StR.sc (σ' := ui σ 5 (σ 5 + 1)) (fg' := fg) (tp' := tp) hC0 (fun _ _ => rd_sc (by decide) (by decide)) (fun _ _ => sd_sc (by decide) (by decide)) (fun _ _ => lt_sc (by decide) (by decide)) (ui_n (by decide)) (ui_n (by decide)) (ui_n (by decide)) (by rw [ui_s]; clear hgL hgS hRd hSd hLt hLe hSl; lia) (by rw [ui_s]; clear hgL hgS hRd hSd hLt hLe hSl; lia) (by rw [ui_n (by decide)]; exact hg7) (by rw [ui_n (by decide)]; exact hg8) (by rw [ui_n (by decide)]; exact hFT)
  simp only [ui_s, ui_n (show ¬ (0 : Int32) = 5 by decide), ui_n (show ¬ (1 : Int32) = 5 by decide), ui_n (show ¬ (2 : Int32) = 5 by decide), ui_n (show ¬ (3 : Int32) = 5 by decide), ui_n (show ¬ (4 : Int32) = 5 by decide), ui_n (show ¬ (6 : Int32) = 5 by decide), ui_n (show ¬ (7 : Int32) = 5 by decide)] at t9
  refine v_aload_n dX3_makeStation_0 rfl rfl ?_
  refine gf_X3_12 dX3_makeStation_1 rfl hDk ?_
  refine v_dup dX3_makeStation_4 rfl ?_
  refine gf_X3_39 dX3_makeStation_5 rfl hSt ?_
  refine v_iconst (v := 1) dX3_makeStation_8 (by decide) ?_
  refine v_iadd dX3_makeStation_9 ?_
  refine pf_X3_39 dX3_makeStation_10 rfl hSt ?_
  refine v_aload_n dX3_makeStation_13 rfl rfl ?_
  refine gf_X3_12 dX3_makeStation_14 rfl ((hup_n nbK).trans hDk) ?_
  refine gf_X3_39 dX3_makeStation_17 rfl hup_s ?_
  refine v_iconst (v := 1) dX3_makeStation_20 (by decide) ?_
  refine v_isub dX3_makeStation_21 ?_
  exact v_iret dX3_makeStation_22 rfl ⟨(by clear hgL hgS hRd hSd hLt hLe hSl; lia), t9, Frm.up hkd.1⟩ (by omega) (by omega)
theorem dX3_changeDegrees_0 : decode cX3_changeDegrees 0 = .ok (.aload_n 0, 1) := by decide +kernel
theorem dX3_changeDegrees_1 : decode cX3_changeDegrees 1 = .ok (.getfield 12, 3) := by decide +kernel
theorem dX3_changeDegrees_4 : decode cX3_changeDegrees 4 = .ok (.getfield 178, 3) := by decide +kernel
theorem dX3_changeDegrees_7 : decode cX3_changeDegrees 7 = .ok (.istore_n 2, 1) := by decide +kernel
theorem dX3_changeDegrees_8 : decode cX3_changeDegrees 8 = .ok (.aload_n 0, 1) := by decide +kernel
theorem dX3_changeDegrees_9 : decode cX3_changeDegrees 9 = .ok (.getfield 12, 3) := by decide +kernel
theorem dX3_changeDegrees_12 : decode cX3_changeDegrees 12 = .ok (.iload_n 1, 1) := by decide +kernel
theorem dX3_changeDegrees_13 : decode cX3_changeDegrees 13 = .ok (.putfield 178, 3) := by decide +kernel
theorem dX3_changeDegrees_16 : decode cX3_changeDegrees 16 = .ok (.iload_n 2, 1) := by decide +kernel
theorem dX3_changeDegrees_17 : decode cX3_changeDegrees 17 = .ok (.ireturn, 1) := by decide +kernel
set_option maxRecDepth 100000 in
set_option maxHeartbeats 4000000 in
theorem c_changeDegrees {l : Launch} {g : Nat → Nat} {M : LH} (htr : l.stackTraces = false) {kd : Nat → Nat} {r a : Nat} {ad : Nat → Nat} {sl le : Int32 → Nat} {fg tp : Int32} {F : Nat → Int32 → Int32} {σ : Int32 → Int32} (hC : StR kd r M a ad sl le fg tp F σ) {q : Nat → Nat} {D : Nat} (hK : Dk kd D r M a q) {n : Int32} (hn0 : -30 ≤ n) (hn1 : n ≤ 10) : K_X3_changeDegrees l g 0 0 0 [.ref (q 0), .int n] M (RI (fun v M9 => v = σ 1 ∧ StR kd r M9 a ad sl le fg tp F (ui σ 1 (n)) ∧ Frm kd r M M9) nX) := by
  refine Ko_X3_changeDegrees htr (fun X => ?_)
  have hC0 := hC
  have hK0 := hK
  obtain ⟨hSt, hRo, hSR, hLR, hSl, hLe, hkd, -, ⟨-, hRd, hSd, hLt⟩, hG⟩ := hC
  obtain ⟨hDk, hDs, ⟨f1, hB1⟩, ⟨f2, hB2⟩, hBl, ⟨f3, hB3⟩, hRt, ⟨f4, hB4⟩, hkD, hn34, hDr⟩ := hK
  have hG0 := hG
  obtain ⟨hg1, hg2, hg3, hg4, hg5, hg6, hg7, hg8, hgL, hgS, -⟩ := hG
  have hFT := (StR.toR hC0).1
  have nbK : ¬ q 0 = a := ne_of_cell hDk hSt (ob_ob (by decide))
  have t9 := StR.sc (σ' := ui σ 1 (n)) (fg' := fg) (tp' := tp) hC0 (fun _ _ => rd_sc (by decide) (by decide)) (fun _ _ => sd_sc (by decide) (by decide)) (fun _ _ => lt_sc (by decide) (by decide)) (ui_n (by decide)) (ui_n (by decide)) (ui_n (by decide)) (by rw [ui_n (by decide)]; exact Int32.le_refl _) (by rw [ui_n (by decide)]; exact hg2) (by rw [ui_s]; exact hn0) (by rw [ui_s]; exact hn1) (by rw [ui_n (by decide)]; exact hFT)
  simp only [ui_s, ui_n (show ¬ (0 : Int32) = 1 by decide), ui_n (show ¬ (2 : Int32) = 1 by decide), ui_n (show ¬ (3 : Int32) = 1 by decide), ui_n (show ¬ (4 : Int32) = 1 by decide), ui_n (show ¬ (5 : Int32) = 1 by decide), ui_n (show ¬ (6 : Int32) = 1 by decide), ui_n (show ¬ (7 : Int32) = 1 by decide)] at t9
  refine v_aload_n dX3_changeDegrees_0 rfl rfl ?_
  refine gf_X3_12 dX3_changeDegrees_1 rfl hDk ?_
  refine gf_X3_178 dX3_changeDegrees_4 rfl hSt ?_
  refine v_istore_2 dX3_changeDegrees_7 ?_
  refine v_aload_n dX3_changeDegrees_8 rfl rfl ?_
  refine gf_X3_12 dX3_changeDegrees_9 rfl hDk ?_
  refine v_iload_n dX3_changeDegrees_12 rfl rfl ?_
  refine pf_X3_178 dX3_changeDegrees_13 rfl hSt ?_
  refine v_iload_n dX3_changeDegrees_16 rfl rfl ?_
  exact v_iret dX3_changeDegrees_17 rfl ⟨rfl, t9, Frm.up hkd.1⟩ (by omega) (by omega)
