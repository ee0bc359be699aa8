/-! ===== a sledge is made ===== -/
theorem StR.mk1 {kd : Nat → Nat} {r : Nat} {M : LH} {a : Nat} {ad : Nat → Nat} {sl le : Int32 → Nat} {fg tp : Int32} {F : Nat → Int32 → Int32} {σ σ' : Int32 → Int32} (h : StC kd r M a ad sl le (cS fg tp σ) F) (hR : Rl fg tp F σ') (hG : Good σ') (e : ∀ j, 0 ≤ j → j < 8 → σ' j = σ j) : StR kd r M a ad sl le fg tp F σ' := by
  have q : cS fg tp σ' = cS fg tp σ := by
    unfold cS
    rw [e 0 (by decide) (by decide), e 1 (by decide) (by decide), e 2 (by decide) (by decide), e 3 (by decide) (by decide), e 4 (by decide) (by decide), e 5 (by decide) (by decide), e 6 (by decide) (by decide), e 7 (by decide) (by decide)]
  exact StR.of (by rw [q]; exact h) hR hG
theorem StR.mk2 {kd : Nat → Nat} {r : Nat} {M : LH} {a : Nat} {ad : Nat → Nat} {sl le : Int32 → Nat} {fg tp : Int32} {c : Nat → Int32} {F : Nat → Int32 → Int32} {σ : Int32 → Int32} (h : StC kd r M a ad sl le c F) (hR : Rl fg tp F σ) (hG : Good σ) {u0 u1 u2 u3 u4 u5 u6 u7 : Int32} (e0 : σ 0 = u0) (e1 : σ 1 = u1) (e2 : σ 2 = u2) (e3 : σ 3 = u3) (e4 : σ 4 = u4) (e5 : σ 5 = u5) (e6 : σ 6 = u6) (e7 : σ 7 = u7) :
    StR kd r (hup M a (ob 8 [.int u5, .ref (ad 0), .int u6, .ref (ad 1), .int u7, .ref (ad 2), .int u4, .int u0, .int u1, .int u2, .int fg, .int tp, .int u3])) a ad sl le fg tp F σ := by
  subst e0 e1 e2 e3 e4 e5 e6 e7
  exact StR.of (StC.obj h (cS fg tp σ)) hR hG
def mkK (σ : Int32 → Int32) (s n : Int32) : Int32 → Int32 := ui (ui (ui (ui σ (57 + 3 * σ 6 + 0) n) (57 + 3 * σ 6 + 1) s) (57 + 3 * σ 6 + 2) 0) 6 (σ 6 + 1)
section mk
variable {σ : Int32 → Int32} {s n : Int32}
theorem mkK_6 : mkK σ s n 6 = σ 6 + 1 := ui_s
theorem mkK_n {j : Int32} (h0 : 0 ≤ σ 6) (h3 : σ 6 < 3) (hj : ¬ j = 6) (hj2 : j < 57 ∨ 66 ≤ j) : mkK σ s n j = σ j := by
  unfold mkK
  rw [ui_n hj, ui_n (by lia), ui_n (by lia), ui_n (by lia)]
theorem mkK_sn {k w : Int32} (h0 : 0 ≤ σ 6) (h3 : σ 6 < 3) (k0 : 0 ≤ k) (k3 : k < 3) (hk : ¬ k = σ 6) (w0 : 0 ≤ w) (w3 : w < 3) : sd (mkK σ s n) k w = sd σ k w := by
  unfold sd mkK
  rw [ui_n (by lia), ui_n (by lia), ui_n (by lia), ui_n (by lia)]
theorem mkK_s0 (h0 : 0 ≤ σ 6) (h3 : σ 6 < 3) : sd (mkK σ s n) (σ 6) 0 = n := by
  unfold sd mkK
  rw [ui_n (by lia), ui_n (by lia), ui_n (by lia), ui_s]
theorem mkK_s1 (h0 : 0 ≤ σ 6) (h3 : σ 6 < 3) : sd (mkK σ s n) (σ 6) 1 = s := by
  unfold sd mkK
  rw [ui_n (by lia), ui_n (by lia), ui_s]
theorem mkK_s2 (h0 : 0 ≤ σ 6) (h3 : σ 6 < 3) : sd (mkK σ s n) (σ 6) 2 = 0 := by
  unfold sd mkK
  rw [ui_n (by lia), ui_s]
theorem mkK_lt {i w : Int32} (h0 : 0 ≤ σ 6) (h3 : σ 6 < 3) (i0 : 0 ≤ i) (i1 : i < 12) (w0 : 0 ≤ w) (w1 : w < 7) : lt (mkK σ s n) i w = lt σ i w := by
  unfold lt
  exact mkK_n h0 h3 (by lia) (Or.inr (by lia))
theorem mkK_rd {i w : Int32} (h0 : 0 ≤ σ 6) (h3 : σ 6 < 3) (i0 : 0 ≤ i) (i1 : i < 7) (w0 : 0 ≤ w) (w1 : w < 7) : rd (mkK σ s n) i w = rd σ i w := by
  unfold rd
  exact mkK_n h0 h3 (by lia) (Or.inl (by lia))
end mk
theorem sumN_z {f : Int32 → Int32} : ∀ n : Nat, (∀ i : Nat, i < n → f (nI i) = 0) → sumN f n = 0 := by
  intro n
  induction n with
  | zero => exact fun _ => rfl
  | succ n ih =>
    intro h
    show sumN f n + f (nI n) = 0
    rw [ih (fun i hi => h i (by omega)), h n (by omega)]
    rfl
theorem nI_below {n : Int32} {i : Nat} (h12 : n ≤ 12) (hi : i < n.toNatClampNeg) : 0 ≤ nI i ∧ nI i < n ∧ nI i < 12 := by
  have h9 := tc_le h12
  have e12 : (12 : Int32).toNatClampNeg = 12 := rfl
  obtain ⟨n0, n1⟩ := nI12 i (by omega)
  refine ⟨n0, ?_, n1⟩
  by_cases q : 0 ≤ n
  · rw [i_lt, ← tc_Int n0, ← tc_Int q, nI_t (by omega)]
    omega
  · have e0 : n.toNatClampNeg = 0 := by
      have q1 : n.toInt < 0 := by
        rw [i_le, i_0] at q
        omega
      exact Int.toNat_of_nonpos (by omega)
    omega
theorem loadOn_z {σ : Int32 → Int32} {k : Int32} (h7 : σ 7 ≤ 12) (h : ∀ i, 0 ≤ i → i < σ 7 → ¬ lt σ i 6 = 10 + k) : loadOn σ k = 0 := by
  unfold loadOn sumU
  refine sumN_z _ (fun i hi => if_neg ?_)
  obtain ⟨a, b, -⟩ := nI_below h7 hi
  exact h _ a b
theorem Good_mkK {σ : Int32 → Int32} {s n : Int32} (h : Good σ) (h3 : σ 6 < 3) (s0 : 0 ≤ s) (s1 : s < σ 5) (n0 : 5 ≤ n) (n1 : n ≤ 30) : Good (mkK σ s n) := by
  obtain ⟨g1, g2, g3, g4, g5, g6, g7, g8, gL, gS, gR, gI, gN, g0⟩ := h
  have lo : ∀ j, ¬ j = 6 → j < 57 → mkK σ s n j = σ j := fun j a b => mkK_n g3 h3 a (Or.inl b)
  have e5 := lo 5 (by decide) (by decide)
  have e7 := lo 7 (by decide) (by decide)
  have e4 := lo 4 (by decide) (by decide)
  have e1 := lo 1 (by decide) (by decide)
  have L : ∀ i w, 0 ≤ i → i < σ 7 → 0 ≤ w → w < 7 → lt (mkK σ s n) i w = lt σ i w := fun i w i0 i1 w0 w1 => mkK_lt g3 h3 i0 (by clear gL gS gR gI gN lo; lia) w0 w1
  have LO : ∀ k, loadOn (mkK σ s n) k = loadOn σ k := loadOn_cg g6 (fun i w i0 i1 w0 w1 => mkK_lt g3 h3 i0 i1 w0 w1) e7
  refine ⟨by rw [e5]; exact g1, by rw [e5]; exact g2, by rw [mkK_6]; clear gL gS gR gI gN lo L LO; lia, by rw [mkK_6]; clear gL gS gR gI gN lo L LO; lia, by rw [e7]; exact g5, by rw [e7]; exact g6, by rw [e1]; exact g7, by rw [e1]; exact g8, fun i i0 i1 => ?_, fun k k0 k1 => ?_, fun a b a0 a1 b0 b1 => ?_, fun i j i0 ij j1 => ?_, fun i i0 i1 => ?_, by rw [e4]; exact g0⟩
  · rw [e7] at i1
    obtain ⟨z1, z2, z3, z4, z5, z6, z7, z8, z9, z10, z11, z12, z13, z14⟩ := gL i i0 i1
    rw [L i 0 i0 i1 (by decide) (by decide), L i 1 i0 i1 (by decide) (by decide), L i 2 i0 i1 (by decide) (by decide), L i 3 i0 i1 (by decide) (by decide), L i 4 i0 i1 (by decide) (by decide), L i 5 i0 i1 (by decide) (by decide), L i 6 i0 i1 (by decide) (by decide), e5, mkK_6]
    exact ⟨z1, z2, z3, z4, z5, z6, z7, z8, z9, z10, z11, z12, by clear gL gS gR gI gN lo L LO; lia, z14⟩
  · rw [mkK_6] at k1
    rw [LO, e5]
    by_cases e : k = σ 6
    · subst e
      rw [mkK_s0 g3 h3, mkK_s1 g3 h3, mkK_s2 g3 h3, loadOn_z g6 (fun i i0 i1 => by
        obtain ⟨z1, z2, z3, z4, z5, z6, z7, z8, z9, z10, z11, z12, z13, z14⟩ := gL i i0 i1
        clear gL gS gR gI gN lo L LO
        lia)]
      exact ⟨n0, n1, s0, s1, by decide, by decide, by decide, by clear gL gS gR gI gN lo L LO; lia⟩
    · have k3 : k < 3 := by clear gL gS gR gI gN lo L LO; lia
      rw [mkK_sn g3 h3 k0 k3 e (by decide) (by decide), mkK_sn g3 h3 k0 k3 e (by decide) (by decide), mkK_sn g3 h3 k0 k3 e (by decide) (by decide)]
      exact gS k k0 (by clear gL gS gR gI gN lo L LO; lia)
  · rw [mkK_rd g3 h3 a0 a1 b0 b1, e5]
    exact gR a b a0 a1 b0 b1
  · rw [e7] at j1
    rw [L i 0 i0 (by clear gL gS gR gI gN lo L LO; lia) (by decide) (by decide), L j 0 (by clear gL gS gR gI gN lo L LO; lia) j1 (by decide) (by decide)]
    exact gI i j i0 ij j1
  · rw [e7] at i1
    rw [L i 0 i0 i1 (by decide) (by decide), e4]
    exact gN i i0 i1
theorem Rl_mkK {fg tp s n : Int32} {F : Nat → Int32 → Int32} {σ : Int32 → Int32} {y : Nat → Int32} (h : Rl fg tp F σ) (hG : Good σ) (h3 : σ 6 < 3) (y0 : y 8 = n) (y1 : y 9 = s) (y2 : y 10 = 0) : Rl fg tp (upF F 8 11 (σ 6) y) (mkK σ s n) := by
  obtain ⟨r1, r2, r3, r4⟩ := h
  obtain ⟨-, -, g3, g4, g5, g6, -⟩ := hG
  have u : ∀ w j, w < 8 ∨ 11 ≤ w → upF F 8 11 (σ 6) y w j = F w j := fun w j hw => by
    unfold upF
    rw [if_neg (fun z => by omega)]
  have u2 : ∀ w, 8 ≤ w → w < 11 → upF F 8 11 (σ 6) y w (σ 6) = y w := fun w a b => by
    unfold upF
    rw [if_pos ⟨a, b, rfl⟩]
  have u3 : ∀ w j, ¬ j = σ 6 → upF F 8 11 (σ 6) y w j = F w j := fun w j hw => by
    unfold upF
    rw [if_neg (fun z => hw z.2.2)]
  refine ⟨r1.trans (mkK_n g3 h3 (by decide) (Or.inl (by decide))).symm, fun a b a0 a1 b0 b1 => ?_, fun k k0 k1 => ?_, fun i i0 i1 => ?_⟩
  · rw [u 11 _ (Or.inr (by decide)), r2 a b a0 a1 b0 b1, mkK_rd g3 h3 a0 a1 b0 b1]
  · rw [mkK_6] at k1
    by_cases e : k = σ 6
    · subst e
      rw [u2 8 (by decide) (by decide), u2 9 (by decide) (by decide), u2 10 (by decide) (by decide), mkK_s0 g3 h3, mkK_s1 g3 h3, mkK_s2 g3 h3]
      exact ⟨y0, y1, y2⟩
    · have k3 : k < 3 := by clear r2 r3 r4 u u2 u3; lia
      rw [u3 8 k e, u3 9 k e, u3 10 k e, mkK_sn g3 h3 k0 k3 e (by decide) (by decide), mkK_sn g3 h3 k0 k3 e (by decide) (by decide), mkK_sn g3 h3 k0 k3 e (by decide) (by decide)]
      exact r3 k k0 (by clear r2 r3 r4 u u2 u3; lia)
  · rw [mkK_n g3 h3 (by decide) (Or.inl (by decide))] at i1
    have i2 : i < 12 := by clear r2 r3 r4 u u2 u3; lia
    rw [u 0 _ (Or.inl (by decide)), u 1 _ (Or.inl (by decide)), u 2 _ (Or.inl (by decide)), u 3 _ (Or.inl (by decide)), u 4 _ (Or.inl (by decide)), u 5 _ (Or.inl (by decide)), u 6 _ (Or.inl (by decide)), u 7 _ (Or.inl (by decide)), mkK_lt g3 h3 i0 i2 (w := 0) (by decide) (by decide), mkK_lt g3 h3 i0 i2 (w := 1) (by decide) (by decide), mkK_lt g3 h3 i0 i2 (w := 2) (by decide) (by decide), mkK_lt g3 h3 i0 i2 (w := 3) (by decide) (by decide), mkK_lt g3 h3 i0 i2 (w := 4) (by decide) (by decide), mkK_lt g3 h3 i0 i2 (w := 5) (by decide) (by decide), mkK_lt g3 h3 i0 i2 (w := 6) (by decide) (by decide)]
    exact r4 i i0 i1
theorem dX3_makeSledge_0 : decode cX3_makeSledge 0 = .ok (.aload_n 0, 1) := by decide +kernel
theorem dX3_makeSledge_1 : decode cX3_makeSledge 1 = .ok (.getfield 12, 3) := by decide +kernel
theorem dX3_makeSledge_4 : decode cX3_makeSledge 4 = .ok (.getfield 77, 3) := by decide +kernel
theorem dX3_makeSledge_7 : decode cX3_makeSledge 7 = .ok (.aload_n 0, 1) := by decide +kernel
theorem dX3_makeSledge_8 : decode cX3_makeSledge 8 = .ok (.getfield 12, 3) := by decide +kernel
theorem dX3_makeSledge_11 : decode cX3_makeSledge 11 = .ok (.getfield 74, 3) := by decide +kernel
theorem dX3_makeSledge_14 : decode cX3_makeSledge 14 = .ok (.aaload, 1) := by decide +kernel
theorem dX3_makeSledge_15 : decode cX3_makeSledge 15 = .ok (.astore_n 3, 1) := by decide +kernel
theorem dX3_makeSledge_16 : decode cX3_makeSledge 16 = .ok (.aload_n 3, 1) := by decide +kernel
theorem dX3_makeSledge_17 : decode cX3_makeSledge 17 = .ok (.iload_n 2, 1) := by decide +kernel
theorem dX3_makeSledge_18 : decode cX3_makeSledge 18 = .ok (.putfield 81, 3) := by decide +kernel
theorem dX3_makeSledge_21 : decode cX3_makeSledge 21 = .ok (.aload_n 3, 1) := by decide +kernel
theorem dX3_makeSledge_22 : decode cX3_makeSledge 22 = .ok (.iload_n 1, 1) := by decide +kernel
theorem dX3_makeSledge_23 : decode cX3_makeSledge 23 = .ok (.putfield 86, 3) := by decide +kernel
theorem dX3_makeSledge_26 : decode cX3_makeSledge 26 = .ok (.aload_n 3, 1) := by decide +kernel
theorem dX3_makeSledge_27 : decode cX3_makeSledge 27 = .ok (.iconst 0, 1) := by decide +kernel
theorem dX3_makeSledge_28 : decode cX3_makeSledge 28 = .ok (.putfield 89, 3) := by decide +kernel
theorem dX3_makeSledge_31 : decode cX3_makeSledge 31 = .ok (.aload_n 0, 1) := by decide +kernel
theorem dX3_makeSledge_32 : decode cX3_makeSledge 32 = .ok (.getfield 12, 3) := by decide +kernel
theorem dX3_makeSledge_35 : decode cX3_makeSledge 35 = .ok (.dup, 1) := by decide +kernel
theorem dX3_makeSledge_36 : decode cX3_makeSledge 36 = .ok (.getfield 74, 3) := by decide +kernel
theorem dX3_makeSledge_39 : decode cX3_makeSledge 39 = .ok (.iconst 1, 1) := by decide +kernel
theorem dX3_makeSledge_40 : decode cX3_makeSledge 40 = .ok (.iadd, 1) := by decide +kernel
theorem dX3_makeSledge_41 : decode cX3_makeSledge 41 = .ok (.putfield 74, 3) := by decide +kernel
theorem dX3_makeSledge_44 : decode cX3_makeSledge 44 = .ok (.aload_n 0, 1) := by decide +kernel
theorem dX3_makeSledge_45 : decode cX3_makeSledge 45 = .ok (.getfield 12, 3) := by decide +kernel
theorem dX3_makeSledge_48 : decode cX3_makeSledge 48 = .ok (.getfield 74, 3) := by decide +kernel
theorem dX3_makeSledge_51 : decode cX3_makeSledge 51 = .ok (.iconst 1, 1) := by decide +kernel
theorem dX3_makeSledge_52 : decode cX3_makeSledge 52 = .ok (.isub, 1) := by decide +kernel
theorem dX3_makeSledge_53 : decode cX3_makeSledge 53 = .ok (.ireturn, 1) := by decide +kernel
set_option maxRecDepth 100000 in
set_option maxHeartbeats 4000000 in
theorem c_makeSledge {l : Launch} {g : Nat → Nat} {M : LH} (htr : l.stackTraces = false) {kd : Nat → Nat} {r a : Nat} {ad : Nat → Nat} {sl le : Int32 → Nat} {fg tp : Int32} {F : Nat → Int32 → Int32} {σ : Int32 → Int32} (hC : StR kd r M a ad sl le fg tp F σ) {q : Nat → Nat} {D : Nat} (hK : Dk kd D r M a q) {s n : Int32} (h63 : σ 6 < 3) (s0 : 0 ≤ s) (s1 : s < σ 5) (n0 : 5 ≤ n) (n1 : n ≤ 30) : K_X3_makeSledge l g 0 0 0 [.ref (q 0), .int s, .int n] M (RI (fun v M9 => v = σ 6 ∧ ∃ F', StR kd r M9 a ad sl le fg tp F' (mkK σ s n) ∧ Frm kd r M M9) nX) := by
  refine Ko_X3_makeSledge htr (fun X => ?_)
  have hC0 := hC
  have hK0 := hK
  obtain ⟨hSt, hRo, hSR, hLR, hSl, hLe, hkd, -, ⟨-, hRd, hSd, hLt⟩, hG⟩ := hC
  obtain ⟨hDk, hDs, ⟨f1, hB1⟩, ⟨f2, hB2⟩, hBl, ⟨f3, hB3⟩, hRt, ⟨f4, hB4⟩, hkD, hn34, hDr⟩ := hK
  have hG0 := hG
  obtain ⟨hg1, hg2, hg3, hg4, hg5, hg6, hg7, hg8, hgL, hgS, -⟩ := hG
  have hSk := hSl (σ 6) hg3 h63
  have nbK : ¬ q 0 = sl (σ 6) := ne_of_cell hDk hSk (ob_ob (by decide))
  have nbD : ¬ q 0 = a := ne_of_cell hDk hSt (ob_ob (by decide))
  have nbS : ¬ a = sl (σ 6) := ne_of_cell hSt hSk (ob_ob (by decide))
  have t9 := StR.mk2 (StC.sle (StR.toC hC0) hg3 h63 (fun w => if w = 8 then n else if w = 9 then s else 0)) (Rl_mkK (n := n) (s := s) (StR.toR hC0) hG0 h63 rfl rfl rfl) (Good_mkK hG0 h63 s0 s1 n0 n1) (mkK_n hg3 h63 (by decide) (Or.inl (by decide))) (mkK_n hg3 h63 (by decide) (Or.inl (by decide))) (mkK_n hg3 h63 (by decide) (Or.inl (by decide))) (mkK_n hg3 h63 (by decide) (Or.inl (by decide))) (mkK_n hg3 h63 (by decide) (Or.inl (by decide))) (mkK_n hg3 h63 (by decide) (Or.inl (by decide))) mkK_6 (mkK_n hg3 h63 (by decide) (Or.inl (by decide)))
  refine v_aload_n dX3_makeSledge_0 rfl rfl ?_
  refine gf_X3_12 dX3_makeSledge_1 rfl hDk ?_
  refine gf_X3_77 dX3_makeSledge_4 rfl hSt ?_
  refine v_aload_n dX3_makeSledge_7 rfl rfl ?_
  refine gf_X3_12 dX3_makeSledge_8 rfl hDk ?_
  refine gf_X3_74 dX3_makeSledge_11 rfl hSt ?_
  refine v_aald1 dX3_makeSledge_14 hSR hg3 h63 rfl ?_
  refine v_astore_3 dX3_makeSledge_15 ?_
  refine v_aload_n dX3_makeSledge_16 rfl rfl ?_
  refine v_iload_n dX3_makeSledge_17 rfl rfl ?_
  refine pf_X3_81 dX3_makeSledge_18 rfl hSk ?_
  refine v_aload_n dX3_makeSledge_21 rfl rfl ?_
  refine v_iload_n dX3_makeSledge_22 rfl rfl ?_
  refine pf_X3_86 dX3_makeSledge_23 rfl hup_s ?_
  rw [hup_hup]
  refine v_aload_n dX3_makeSledge_26 rfl rfl ?_
  refine v_iconst (v := 0) dX3_makeSledge_27 (by decide) ?_
  refine pf_X3_89 dX3_makeSledge_28 rfl hup_s ?_
  rw [hup_hup]
  refine v_aload_n dX3_makeSledge_31 rfl rfl ?_
  refine gf_X3_12 dX3_makeSledge_32 rfl ((hup_n nbK).trans hDk) ?_
  refine v_dup dX3_makeSledge_35 rfl ?_
  refine gf_X3_74 dX3_makeSledge_36 rfl ((hup_n nbS).trans hSt) ?_
  refine v_iconst (v := 1) dX3_makeSledge_39 (by decide) ?_
  refine v_iadd dX3_makeSledge_40 ?_
  refine pf_X3_74 dX3_makeSledge_41 rfl ((hup_n nbS).trans hSt) ?_
  refine v_aload_n dX3_makeSledge_44 rfl rfl ?_
  refine gf_X3_12 dX3_makeSledge_45 rfl ((hup_n nbD).trans ((hup_n nbK).trans hDk)) ?_
  refine gf_X3_74 dX3_makeSledge_48 rfl hup_s ?_
  refine v_iconst (v := 1) dX3_makeSledge_51 (by decide) ?_
  refine v_isub dX3_makeSledge_52 ?_
  exact v_iret dX3_makeSledge_53 rfl ⟨(by clear hgL hgS hRd hSd hLt hLe hSl t9; lia), _, t9, Frm.tr (Frm.up (hkd.2.2.2.2.1 _ hg3 h63)) (Frm.up hkd.1)⟩ (by omega) (by omega)
