/-! ===== a letter's place changes ===== -/
def plS (σ : Int32 → Int32) (p x : Int32) : Int32 → Int32 := ui σ (66 + 7 * p + 6) x
theorem lix {p i w : Int32} (p0 : 0 ≤ p) (p1 : p < 12) (i0 : 0 ≤ i) (i1 : i < 12) (w0 : 0 ≤ w) (w1 : w < 7) : 66 + 7 * i + w = 66 + 7 * p + 6 ↔ i = p ∧ w = 6 := by
  constructor
  · intro h
    exact ⟨by lia, by lia⟩
  · rintro ⟨rfl, rfl⟩
    rfl
theorem plS_6 {σ : Int32 → Int32} {p x : Int32} : lt (plS σ p x) p 6 = x := ui_s
theorem plS_n {σ : Int32 → Int32} {p x i w : Int32} (p0 : 0 ≤ p) (p1 : p < 12) (i0 : 0 ≤ i) (i1 : i < 12) (w0 : 0 ≤ w) (w1 : w < 7) (h : ¬ (i = p ∧ w = 6)) : lt (plS σ p x) i w = lt σ i w :=
  ui_n (fun z => h ((lix p0 p1 i0 i1 w0 w1).mp z))
theorem plS_lo {σ : Int32 → Int32} {p x j : Int32} (p0 : 0 ≤ p) (p1 : p < 12) (j0 : 0 ≤ j) (j1 : j < 66) : plS σ p x j = σ j := by
  unfold plS
  exact ui_n (by lia)
theorem sumN_up {f g : Int32 → Int32} {p : Int32} (p0 : 0 ≤ p) (p1 : p < 12) (h : ∀ i, 0 ≤ i → i < 12 → ¬ i = p → g i = f i) : ∀ n : Nat, n ≤ 12 → sumN g n = if p.toNatClampNeg < n then sumN f n + (g p - f p) else sumN f n := by
  intro n
  induction n with
  | zero => exact fun _ => rfl
  | succ n ih =>
    intro hn
    have e := ih (by omega)
    show sumN g n + g (nI n) = if p.toNatClampNeg < n + 1 then sumN f n + f (nI n) + (g p - f p) else sumN f n + f (nI n)
    rw [e]
    obtain ⟨n0, n1⟩ := nI12 n (by omega)
    by_cases q : nI n = p
    · have q2 : p.toNatClampNeg = n := by rw [← q, nI_t (by omega)]
      rw [if_neg (by omega), if_pos (by omega), q]
      clear ih e h
      lia
    · have q3 : ¬ p.toNatClampNeg = n := fun z => q (by rw [← z, tc_nI p0])
      rw [h _ n0 n1 q]
      by_cases w : p.toNatClampNeg < n
      · rw [if_pos w, if_pos (by omega)]
        clear ih e h
        lia
      · rw [if_neg w, if_neg (by omega)]
theorem loadOn_pl {σ : Int32 → Int32} {p x : Int32} (h7 : σ 7 ≤ 12) (p0 : 0 ≤ p) (p1 : p < σ 7) (j : Int32) : loadOn (plS σ p x) j = loadOn σ j + ((if x = 10 + j then lt σ p 2 else 0) - (if lt σ p 6 = 10 + j then lt σ p 2 else 0)) := by
  have p2 : p < 12 := by lia
  unfold loadOn sumU
  rw [plS_lo p0 p2 (by decide) (by decide)]
  have q := sumN_up (f := fun i => if lt σ i 6 = 10 + j then lt σ i 2 else 0) (g := fun i => if lt (plS σ p x) i 6 = 10 + j then lt (plS σ p x) i 2 else 0) p0 p2 (fun i i0 i1 hi => by
    rw [plS_n p0 p2 i0 i1 (by decide) (by decide) (fun z => hi z.1), plS_n p0 p2 i0 i1 (by decide) (by decide) (fun z => hi z.1)]) (σ 7).toNatClampNeg (tc_le h7)
  rw [if_pos (tc_lt p0 p1)] at q
  rw [plS_6, plS_n p0 p2 p0 p2 (by decide) (by decide) (fun z => absurd z.2 (by decide))] at q
  exact q
theorem Good_pl {σ : Int32 → Int32} {p x : Int32} (h : Good σ) (p0 : 0 ≤ p) (p1 : p < σ 7) (x0 : 0 ≤ x) (x1 : x < σ 5 ∨ 10 ≤ x) (x2 : x < 10 + σ 6) (hl : ∀ j, 0 ≤ j → j < σ 6 → 0 ≤ loadOn (plS σ p x) j ∧ loadOn (plS σ p x) j ≤ sd σ j 0) : Good (plS σ p x) := by
  obtain ⟨g1, g2, g3, g4, g5, g6, g7, g8, gL, gS, gR, gI, gN, g0⟩ := h
  have p2 : p < 12 := by clear gL gS gR gI gN hl; lia
  have lo : ∀ j, 0 ≤ j → j < 66 → plS σ p x j = σ j := fun j j0 j1 => plS_lo p0 p2 j0 j1
  have e5 := lo 5 (by decide) (by decide)
  have e6 := lo 6 (by decide) (by decide)
  have e7 := lo 7 (by decide) (by decide)
  have e4 := lo 4 (by decide) (by decide)
  have e1 := lo 1 (by decide) (by decide)
  refine ⟨by rw [e5]; exact g1, by rw [e5]; exact g2, by rw [e6]; exact g3, by rw [e6]; exact g4, by rw [e7]; exact g5, by rw [e7]; exact g6, by rw [e1]; exact g7, by rw [e1]; exact g8, fun i i0 i1 => ?_, fun k k0 k1 => ?_, fun a b a0 a1 b0 b1 => ?_, fun i j i0 ij j1 => ?_, fun i i0 i1 => ?_, by rw [e4]; exact g0⟩
  · rw [e7] at i1
    have i2 : i < 12 := by clear gL gS gR gI gN hl lo; lia
    have L : ∀ w, 0 ≤ w → w < 7 → ¬ w = 6 → lt (plS σ p x) i w = lt σ i w := fun w w0 w1 hw => plS_n p0 p2 i0 i2 w0 w1 (fun z => hw z.2)
    obtain ⟨z1, z2, z3, z4, z5, z6, z7, z8, z9, z10, z11, z12, z13, z14⟩ := gL i i0 i1
    rw [L 0 (by decide) (by decide) (by decide), L 1 (by decide) (by decide) (by decide), L 2 (by decide) (by decide) (by decide), L 3 (by decide) (by decide) (by decide), L 4 (by decide) (by decide) (by decide), L 5 (by decide) (by decide) (by decide), e5, e6]
    by_cases e : i = p
    · rw [e] at z1 z2 z3 z4 z5 z6 z7 z8 z9 z10 z14 ⊢
      rw [plS_6]
      exact ⟨z1, z2, z3, z4, z5, z6, z7, z8, z9, z10, x0, x1, x2, z14⟩
    · rw [plS_n p0 p2 i0 i2 (by decide) (by decide) (fun z => e z.1)]
      exact ⟨z1, z2, z3, z4, z5, z6, z7, z8, z9, z10, z11, z12, z13, z14⟩
  · rw [e6] at k1
    have S : ∀ w, 0 ≤ w → w < 3 → sd (plS σ p x) k w = sd σ k w := fun w w0 w1 => by
      unfold sd
      exact lo _ (by clear gL gS gR gI gN hl lo; lia) (by clear gL gS gR gI gN hl lo; lia)
    obtain ⟨z1, z2, z3, z4, z5, z6, z7, z8⟩ := gS k k0 k1
    rw [S 0 (by decide) (by decide), S 1 (by decide) (by decide), S 2 (by decide) (by decide), e5]
    exact ⟨z1, z2, z3, z4, z5, z6, (hl k k0 k1).1, (hl k k0 k1).2⟩
  · have e : rd (plS σ p x) a b = rd σ a b := by
      unfold rd
      exact lo _ (by clear gL gS gR gI gN hl lo; lia) (by clear gL gS gR gI gN hl lo; lia)
    rw [e, e5]
    exact gR a b a0 a1 b0 b1
  · rw [e7] at j1
    have q1 : i < 12 := by clear gL gS gR gI gN hl lo; lia
    have q2 : j < 12 := by clear gL gS gR gI gN hl lo; lia
    have q3 : 0 ≤ j := by clear gL gS gR gI gN hl lo; lia
    rw [plS_n p0 p2 i0 q1 (by decide) (by decide) (fun z => absurd z.2 (by decide)), plS_n p0 p2 q3 q2 (by decide) (by decide) (fun z => absurd z.2 (by decide))]
    exact gI i j i0 ij j1
  · rw [e7] at i1
    have q1 : i < 12 := by clear gL gS gR gI gN hl lo; lia
    rw [plS_n p0 p2 i0 q1 (by decide) (by decide) (fun z => absurd z.2 (by decide)), e4]
    exact gN i i0 i1
theorem Rl_pl {fg tp p x : Int32} {F : Nat → Int32 → Int32} {σ : Int32 → Int32} {y : Nat → Int32} (h : Rl fg tp F σ) (hG : Good σ) (p0 : 0 ≤ p) (p1 : p < σ 7) (hy : ∀ w, w < 6 → y w = F w p) (h6 : y 6 = if x < 10 then -1 else x - 10) (h7 : x < 10 → y 7 = x) : Rl fg tp (upF F 0 8 p y) (plS σ p x) := by
  obtain ⟨r1, r2, r3, r4⟩ := h
  obtain ⟨-, -, g3, g4, g5, g6, -⟩ := hG
  have p2 : p < 12 := by clear r2 r3 r4; lia
  have lo : ∀ j, 0 ≤ j → j < 66 → plS σ p x j = σ j := fun j j0 j1 => plS_lo p0 p2 j0 j1
  have u : ∀ w j, ¬ w < 8 → upF F 0 8 p y w j = F w j := fun w j hw => by
    unfold upF
    rw [if_neg (fun z => hw z.2.1)]
  have u2 : ∀ w, w < 8 → upF F 0 8 p y w p = y w := fun w hw => by
    unfold upF
    rw [if_pos ⟨Nat.zero_le _, hw, rfl⟩]
  have u3 : ∀ w j, ¬ j = p → upF F 0 8 p y w j = F w j := fun w j hw => by
    unfold upF
    rw [if_neg (fun z => hw z.2.2)]
  refine ⟨r1.trans (lo 2 (by decide) (by decide)).symm, fun a b a0 a1 b0 b1 => ?_, fun k k0 k1 => ?_, fun i i0 i1 => ?_⟩
  · rw [u 11 _ (by decide), r2 a b a0 a1 b0 b1]
    unfold rd
    exact (lo _ (by clear r2 r3 r4 lo u u2 u3; lia) (by clear r2 r3 r4 lo u u2 u3; lia)).symm
  · rw [lo 6 (by decide) (by decide)] at k1
    have S : ∀ w, 0 ≤ w → w < 3 → sd (plS σ p x) k w = sd σ k w := fun w w0 w1 => by
      unfold sd
      exact lo _ (by clear r2 r3 r4 lo u u2 u3; lia) (by clear r2 r3 r4 lo u u2 u3; lia)
    rw [u 8 _ (by decide), u 9 _ (by decide), u 10 _ (by decide), S 0 (by decide) (by decide), S 1 (by decide) (by decide), S 2 (by decide) (by decide)]
    exact r3 k k0 k1
  · rw [lo 7 (by decide) (by decide)] at i1
    have i2 : i < 12 := by clear r2 r3 r4 lo u u2 u3; lia
    have L : ∀ w, 0 ≤ w → w < 7 → ¬ w = 6 → lt (plS σ p x) i w = lt σ i w := fun w w0 w1 hw => plS_n p0 p2 i0 i2 w0 w1 (fun z => hw z.2)
    obtain ⟨q0, q1, q2, q3, q4, q5, q6, q7⟩ := r4 i i0 i1
    rw [L 0 (by decide) (by decide) (by decide), L 1 (by decide) (by decide) (by decide), L 2 (by decide) (by decide) (by decide), L 3 (by decide) (by decide) (by decide), L 4 (by decide) (by decide) (by decide), L 5 (by decide) (by decide) (by decide)]
    by_cases e : i = p
    · rw [e] at q0 q1 q2 q3 q4 q5 ⊢
      rw [u2 0 (by decide), u2 1 (by decide), u2 2 (by decide), u2 3 (by decide), u2 4 (by decide), u2 5 (by decide), u2 6 (by decide), u2 7 (by decide), hy 0 (by decide), hy 1 (by decide), hy 2 (by decide), hy 3 (by decide), hy 4 (by decide), hy 5 (by decide), plS_6]
      exact ⟨q0, q1, q2, q3, q4, q5, h6, h7⟩
    · rw [u3 0 i e, u3 1 i e, u3 2 i e, u3 3 i e, u3 4 i e, u3 5 i e, u3 6 i e, u3 7 i e, plS_n p0 p2 i0 i2 (by decide) (by decide) (fun z => e z.1)]
      exact ⟨q0, q1, q2, q3, q4, q5, q6, q7⟩
theorem plS_cS {fg tp p x : Int32} {σ : Int32 → Int32} (p0 : 0 ≤ p) (p2 : p < 12) : cS fg tp (plS σ p x) = cS fg tp σ := by
  unfold cS
  rw [plS_lo p0 p2 (j := 0) (by decide) (by decide), plS_lo p0 p2 (j := 1) (by decide) (by decide), plS_lo p0 p2 (j := 2) (by decide) (by decide), plS_lo p0 p2 (j := 3) (by decide) (by decide), plS_lo p0 p2 (j := 4) (by decide) (by decide), plS_lo p0 p2 (j := 5) (by decide) (by decide), plS_lo p0 p2 (j := 6) (by decide) (by decide), plS_lo p0 p2 (j := 7) (by decide) (by decide)]
theorem dX3_putOn_0 : decode cX3_putOn 0 = .ok (.aload_n 0, 1) := by decide +kernel
theorem dX3_putOn_1 : decode cX3_putOn 1 = .ok (.getfield 12, 3) := by decide +kernel
theorem dX3_putOn_4 : decode cX3_putOn 4 = .ok (.iload_n 2, 1) := by decide +kernel
theorem dX3_putOn_5 : decode cX3_putOn 5 = .ok (.invokevirtual 129, 3) := by decide +kernel
theorem dX3_putOn_8 : decode cX3_putOn 8 = .ok (.astore_n 3, 1) := by decide +kernel
theorem dX3_putOn_9 : decode cX3_putOn 9 = .ok (.aload_n 3, 1) := by decide +kernel
theorem dX3_putOn_10 : decode cX3_putOn 10 = .ok (.ifnull 8, 3) := by decide +kernel
theorem dX3_putOn_13 : decode cX3_putOn 13 = .ok (.aload_n 3, 1) := by decide +kernel
theorem dX3_putOn_14 : decode cX3_putOn 14 = .ok (.iload_n 1, 1) := by decide +kernel
theorem dX3_putOn_15 : decode cX3_putOn 15 = .ok (.putfield 122, 3) := by decide +kernel
theorem dX3_putOn_18 : decode cX3_putOn 18 = .ok (.aload_n 0, 1) := by decide +kernel
theorem dX3_putOn_19 : decode cX3_putOn 19 = .ok (.getfield 12, 3) := by decide +kernel
theorem dX3_putOn_22 : decode cX3_putOn 22 = .ok (.iload_n 1, 1) := by decide +kernel
theorem dX3_putOn_23 : decode cX3_putOn 23 = .ok (.invokevirtual 150, 3) := by decide +kernel
theorem dX3_putOn_26 : decode cX3_putOn 26 = .ok (.ireturn, 1) := by decide +kernel
set_option maxRecDepth 100000 in
set_option maxHeartbeats 4000000 in
theorem c_putOn {l : Launch} {g : Nat → Nat} {M : LH} (htr : l.stackTraces = false) {kd : Nat → Nat} {r a : Nat} {ad : Nat → Nat} {sl le : Int32 → Nat} {fg tp : Int32} {F : Nat → Int32 → Int32} {σ : Int32 → Int32} (hC : StR kd r M a ad sl le fg tp F σ) {q : Nat → Nat} {D : Nat} (hK : Dk kd D r M a q) {k id : Int32} (hk0 : 0 ≤ k) (hk1 : k < σ 6) (hf : ¬ find σ id = -1) (hpl : lt σ (find σ id) 6 = sd σ k 1) (hrm : lt σ (find σ id) 2 ≤ sd σ k 0 - loadOn σ k) : K_X3_putOn l g 1 0 0 [.ref (q 0), .int k, .int id] M (RI (fun v M9 => v = loadOn (plS σ (find σ id) (10 + k)) k ∧ ∃ F', StR kd r M9 a ad sl le fg tp F' (plS σ (find σ id) (10 + k)) ∧ Frm kd r M M9) nX) := by
  refine Ko_X3_putOn htr (fun X => ?_)
  have hC0 := hC
  have hK0 := hK
  obtain ⟨hSt, hRo, hSR, hLR, hSl, hLe, hkd, -, ⟨-, hRd, hSd, hLt⟩, hG⟩ := hC
  obtain ⟨hDk, hDs, ⟨f1, hB1⟩, ⟨f2, hB2⟩, hBl, ⟨f3, hB3⟩, hRt, ⟨f4, hB4⟩, hkD, hn34, hDr⟩ := hK
  have hG0 := hG
  obtain ⟨hg1, hg2, hg3, hg4, hg5, hg6, hg7, hg8, hgL, hgS, -⟩ := hG
  obtain ⟨p0, p1, -⟩ := find_in hg5 hf
  have p12 : (find σ id) < 12 := by clear hgL hgS hRd hSd hLt hLe hSl; lia
  obtain ⟨q0, q1, q2, q3, q4, q5, q6, q7⟩ := hLt _ p0 p1
  obtain ⟨z1, z2, z3, z4, -⟩ := hgL _ p0 p1
  have hLf := hLe _ p0 p12
  obtain ⟨u0, u1, u2, u3, -⟩ := hgS k hk0 hk1
  have nbL : ¬ q 0 = le (find σ id) := ne_of_cell hDk hLf (ob_ob (by decide))
  have hg9 : Good (plS σ (find σ id) (10 + k)) := by
    refine Good_pl hG0 p0 p1 (by clear hgL hgS hRd hSd hLt hLe hSl; lia) (Or.inr (by clear hgL hgS hRd hSd hLt hLe hSl; lia)) (by clear hgL hgS hRd hSd hLt hLe hSl; lia) (fun j j0 j1 => ?_)
    obtain ⟨y0, y1, y2, y3, y4, y5, y6, y7⟩ := hgS j j0 j1
    rw [loadOn_pl hg6 p0 p1 j, hpl, if_neg (by clear hgL hgS hRd hSd hLt hLe hSl; lia : ¬ sd σ k 1 = 10 + j)]
    by_cases e : j = k
    · subst e
      rw [if_pos rfl]
      clear hgL hgS hRd hSd hLt hLe hSl q0 q1 q2 q3 q4 q5 q6 q7
      constructor <;> lia
    · rw [if_neg (fun z => e (by clear hgL hgS hRd hSd hLt hLe hSl q0 q1 q2 q3 q4 q5 q6 q7; lia))]
      clear hgL hgS hRd hSd hLt hLe hSl q0 q1 q2 q3 q4 q5 q6 q7
      constructor <;> lia
  have t9 : StR kd r (hup M (le (find σ id)) (ob 4 [.int (F 0 (find σ id)), .int (F 1 (find σ id)), .int (F 2 (find σ id)), .int (F 3 (find σ id)), .int (F 4 (find σ id)), .int (F 5 (find σ id)), .int k, .int (F 7 (find σ id))])) a ad sl le fg tp (upF F 0 8 (find σ id) (fun w => if w = 6 then k else F w (find σ id))) (plS σ (find σ id) (10 + k)) := by
    refine StR.of ?_ (Rl_pl (StR.toR hC0) hG0 p0 p1 (fun w hw => if_neg (by omega)) ?_ ?_) hg9
    · rw [plS_cS p0 p12]
      exact StC.let (StR.toC hC0) p0 p12 (fun w => if w = 6 then k else F w (find σ id))
    · rw [if_pos rfl, if_neg (by clear hgL hgS hRd hSd hLt hLe hSl; lia)]
      clear hgL hgS hRd hSd hLt hLe hSl
      lia
    · intro z
      exact absurd z (by clear hgL hgS hRd hSd hLt hLe hSl; lia)
  refine v_aload_n dX3_putOn_0 rfl rfl ?_
  refine gf_X3_12 dX3_putOn_1 rfl hDk ?_
  refine v_iload_n dX3_putOn_4 rfl rfl ?_
  refine kq_X3_129 dX3_putOn_5 rfl (c_findLetter htr hC0 id) hSt (Nat.le_of_ble_eq_true rfl) (by omega) (by omega) (Nat.le_of_ble_eq_true rfl) (fun r5 M9 h9 => ?_) (fun _ _ h9 => h9.elim)
  obtain ⟨h9, e9⟩ := h9
  subst M9
  subst h9
  rw [if_neg hf]
  refine v_astore_3 dX3_putOn_8 ?_
  refine v_aload_n dX3_putOn_9 rfl rfl ?_
  refine v_ifnull dX3_putOn_10 ?_
  refine v_aload_n dX3_putOn_13 rfl rfl ?_
  refine v_iload_n dX3_putOn_14 rfl rfl ?_
  refine pf_X3_122 dX3_putOn_15 rfl hLf ?_
  refine v_aload_n dX3_putOn_18 rfl rfl ?_
  refine gf_X3_12 dX3_putOn_19 rfl ((hup_n nbL).trans hDk) ?_
  refine v_iload_n dX3_putOn_22 rfl rfl ?_
  refine k_X3_150 dX3_putOn_23 rfl (c_weightOn htr t9 hk0 (by clear hgL hgS hRd hSd hLt hLe hSl; lia)) t9.1 (Nat.le_of_ble_eq_true rfl) (by omega) (by omega) (Nat.le_of_ble_eq_true rfl) (fun r23 M9 h9 => ?_) (fun _ _ h9 => h9.elim)
  obtain ⟨rfl, e9⟩ := h9
  subst M9
  exact v_iret dX3_putOn_26 rfl ⟨rfl, _, t9, Frm.up (hkd.2.2.2.2.2 _ p0 p12)⟩ (by omega) (by omega)
