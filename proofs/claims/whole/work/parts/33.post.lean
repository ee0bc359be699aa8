/-! ===== a letter is made ===== -/
def mkL (σ : Int32 → Int32) (s t w e n : Int32) : Int32 → Int32 := ui (ui (ui (ui (ui (ui (ui (ui (ui σ (66 + 7 * σ 7 + 0) (σ 4)) (66 + 7 * σ 7 + 1) t) (66 + 7 * σ 7 + 2) w) (66 + 7 * σ 7 + 3) e) (66 + 7 * σ 7 + 4) n) (66 + 7 * σ 7 + 5) n) (66 + 7 * σ 7 + 6) s) 7 (σ 7 + 1)) 4 (σ 4 + 1)
section mk
variable {σ : Int32 → Int32} {s t w e n : Int32}
theorem mkL_4 : mkL σ s t w e n 4 = σ 4 + 1 := ui_s
theorem mkL_7 : mkL σ s t w e n 7 = σ 7 + 1 := (ui_n (by decide)).trans ui_s
theorem mkL_n {j : Int32} (h0 : 0 ≤ σ 7) (h3 : σ 7 < 12) (hj : ¬ j = 4) (hj7 : ¬ j = 7) (hj2 : j < 66) : mkL σ s t w e n j = σ j := by
  unfold mkL
  rw [ui_n hj, ui_n hj7, ui_n (by lia), ui_n (by lia), ui_n (by lia), ui_n (by lia), ui_n (by lia), ui_n (by lia), ui_n (by lia)]
theorem mkL_ln {i x : Int32} (h0 : 0 ≤ σ 7) (h3 : σ 7 < 12) (i0 : 0 ≤ i) (i1 : i < 12) (hi : ¬ i = σ 7) (x0 : 0 ≤ x) (x1 : x < 7) : lt (mkL σ s t w e n) i x = lt σ i x := by
  unfold lt mkL
  rw [ui_n (by lia), ui_n (by lia), ui_n (by lia), ui_n (by lia), ui_n (by lia), ui_n (by lia), ui_n (by lia), ui_n (by lia), ui_n (by lia)]
theorem mkL_l0 (h0 : 0 ≤ σ 7) (h3 : σ 7 < 12) : lt (mkL σ s t w e n) (σ 7) 0 = σ 4 := by
  unfold lt mkL
  rw [ui_n (by lia), ui_n (by lia), ui_n (by lia), ui_n (by lia), ui_n (by lia), ui_n (by lia), ui_n (by lia), ui_n (by lia), ui_s]
theorem mkL_l1 (h0 : 0 ≤ σ 7) (h3 : σ 7 < 12) : lt (mkL σ s t w e n) (σ 7) 1 = t := by
  unfold lt mkL
  rw [ui_n (by lia), ui_n (by lia), ui_n (by lia), ui_n (by lia), ui_n (by lia), ui_n (by lia), ui_n (by lia), ui_s]
theorem mkL_l2 (h0 : 0 ≤ σ 7) (h3 : σ 7 < 12) : lt (mkL σ s t w e n) (σ 7) 2 = w := by
  unfold lt mkL
  rw [ui_n (by lia), ui_n (by lia), ui_n (by lia), ui_n (by lia), ui_n (by lia), ui_n (by lia), ui_s]
theorem mkL_l3 (h0 : 0 ≤ σ 7) (h3 : σ 7 < 12) : lt (mkL σ s t w e n) (σ 7) 3 = e := by
  unfold lt mkL
  rw [ui_n (by lia), ui_n (by lia), ui_n (by lia), ui_n (by lia), ui_n (by lia), ui_s]
theorem mkL_l4 (h0 : 0 ≤ σ 7) (h3 : σ 7 < 12) : lt (mkL σ s t w e n) (σ 7) 4 = n := by
  unfold lt mkL
  rw [ui_n (by lia), ui_n (by lia), ui_n (by lia), ui_n (by lia), ui_s]
theorem mkL_l5 (h0 : 0 ≤ σ 7) (h3 : σ 7 < 12) : lt (mkL σ s t w e n) (σ 7) 5 = n := by
  unfold lt mkL
  rw [ui_n (by lia), ui_n (by lia), ui_n (by lia), ui_s]
theorem mkL_l6 (h0 : 0 ≤ σ 7) (h3 : σ 7 < 12) : lt (mkL σ s t w e n) (σ 7) 6 = s := by
  unfold lt mkL
  rw [ui_n (by lia), ui_n (by lia), ui_s]
theorem mkL_rd {i x : Int32} (h0 : 0 ≤ σ 7) (h3 : σ 7 < 12) (i0 : 0 ≤ i) (i1 : i < 7) (x0 : 0 ≤ x) (x1 : x < 7) : rd (mkL σ s t w e n) i x = rd σ i x := by
  unfold rd
  exact mkL_n h0 h3 (by lia) (by lia) (by lia)
theorem mkL_sd {k x : Int32} (h0 : 0 ≤ σ 7) (h3 : σ 7 < 12) (k0 : 0 ≤ k) (k1 : k < 3) (x0 : 0 ≤ x) (x1 : x < 3) : sd (mkL σ s t w e n) k x = sd σ k x := by
  unfold sd
  exact mkL_n h0 h3 (by lia) (by lia) (by lia)
theorem sumN_c2 {f g : Int32 → Int32} : ∀ n : Nat, (∀ i : Nat, i < n → f (nI i) = g (nI i)) → sumN f n = sumN g n := by
  intro n
  induction n with
  | zero => exact fun _ => rfl
  | succ n ih =>
    intro h
    show sumN f n + f (nI n) = sumN g n + g (nI n)
    rw [ih (fun i hi => h i (by omega)), h n (by omega)]
theorem mkL_load {k : Int32} (h0 : 0 ≤ σ 7) (h3 : σ 7 < 12) (hs : s < 7) (k0 : 0 ≤ k) (k1 : k < 3) : loadOn (mkL σ s t w e n) k = loadOn σ k := by
  unfold loadOn
  rw [mkL_7, sumU_1 h0 h3]
  rw [mkL_l6 h0 h3, if_neg (by lia : ¬ s = 10 + k), Int32.add_zero]
  unfold sumU
  refine sumN_c2 _ (fun i hi => ?_)
  obtain ⟨a, b, c⟩ := nI_below (by lia : σ 7 ≤ 12) hi
  rw [mkL_ln h0 h3 a c (by lia) (by decide) (by decide), mkL_ln h0 h3 a c (by lia) (by decide) (by decide)]
end mk
theorem Good_mkL {σ : Int32 → Int32} {s t w e n : Int32} (h : Good σ) (h3 : σ 7 < 12) (h4 : σ 4 < 1000000) (s0 : 0 ≤ s) (s1 : s < σ 5) (t0 : 0 ≤ t) (t1 : t < σ 5) (w0 : 1 ≤ w) (w1 : w ≤ 9) (e0 : 0 ≤ e) (e1 : e ≤ 99) (n0 : 1 ≤ n) (n1 : n ≤ 99) : Good (mkL σ s t w e n) := by
  obtain ⟨g1, g2, g3, g4, g5, g6, g7, g8, gL, gS, gR, gI, gN, g0⟩ := h
  have lo : ∀ j, ¬ j = 4 → ¬ j = 7 → j < 66 → mkL σ s t w e n j = σ j := fun j a b c => mkL_n g5 h3 a b c
  have e5 := lo 5 (by decide) (by decide) (by decide)
  have e6 := lo 6 (by decide) (by decide) (by decide)
  have e1 := lo 1 (by decide) (by decide) (by decide)
  have LO : ∀ k, 0 ≤ k → k < 3 → loadOn (mkL σ s t w e n) k = loadOn σ k := fun k k0 k1 => mkL_load g5 h3 (by clear gL gS gR gI gN lo; lia) k0 k1
  refine ⟨by rw [e5]; exact g1, by rw [e5]; exact g2, by rw [e6]; exact g3, by rw [e6]; exact g4, by rw [mkL_7]; clear gL gS gR gI gN lo LO; lia, by rw [mkL_7]; clear gL gS gR gI gN lo LO; lia, by rw [e1]; exact g7, by rw [e1]; exact g8, fun i i0 i1 => ?_, fun k k0 k1 => ?_, fun a b a0 a1 b0 b1 => ?_, fun i j i0 ij j1 => ?_, fun i i0 i1 => ?_, by rw [mkL_4]; clear gL gS gR gI gN lo LO; lia⟩
  · rw [mkL_7] at i1
    by_cases q : i = σ 7
    · subst q
      rw [mkL_l0 g5 h3, mkL_l1 g5 h3, mkL_l2 g5 h3, mkL_l3 g5 h3, mkL_l4 g5 h3, mkL_l5 g5 h3, mkL_l6 g5 h3, e5, e6]
      exact ⟨t0, t1, w0, w1, e0, by assumption, n0, n1, by clear gL gS gR gI gN lo LO; lia, Int32.le_refl _, s0, Or.inl s1, by clear gL gS gR gI gN lo LO; lia, g0⟩
    · have i2 : i < σ 7 := by clear gL gS gR gI gN lo LO; lia
      have i3 : i < 12 := by clear gL gS gR gI gN lo LO; lia
      rw [mkL_ln g5 h3 i0 i3 q (x := 0) (by decide) (by decide), mkL_ln g5 h3 i0 i3 q (x := 1) (by decide) (by decide), mkL_ln g5 h3 i0 i3 q (x := 2) (by decide) (by decide), mkL_ln g5 h3 i0 i3 q (x := 3) (by decide) (by decide), mkL_ln g5 h3 i0 i3 q (x := 4) (by decide) (by decide), mkL_ln g5 h3 i0 i3 q (x := 5) (by decide) (by decide), mkL_ln g5 h3 i0 i3 q (x := 6) (by decide) (by decide), e5, e6]
      exact gL i i0 i2
  · rw [e6] at k1
    have k3 : k < 3 := by clear gL gS gR gI gN lo LO; lia
    rw [LO k k0 k3, e5, mkL_sd g5 h3 k0 k3 (x := 0) (by decide) (by decide), mkL_sd g5 h3 k0 k3 (x := 1) (by decide) (by decide), mkL_sd g5 h3 k0 k3 (x := 2) (by decide) (by decide)]
    exact gS k k0 k1
  · rw [mkL_rd g5 h3 a0 a1 b0 b1, e5]
    exact gR a b a0 a1 b0 b1
  · rw [mkL_7] at j1
    have i2 : i < σ 7 := by clear gL gS gR gI gN lo LO; lia
    have i3 : i < 12 := by clear gL gS gR gI gN lo LO; lia
    rw [mkL_ln g5 h3 i0 i3 (by clear gL gS gR gI gN lo LO; lia) (by decide) (by decide)]
    by_cases q : j = σ 7
    · rw [q, mkL_l0 g5 h3]
      exact gN i i0 i2
    · rw [mkL_ln g5 h3 (by clear gL gS gR gI gN lo LO; lia) (by clear gL gS gR gI gN lo LO; lia) q (by decide) (by decide)]
      exact gI i j i0 ij (by clear gL gS gR gI gN lo LO; lia)
  · rw [mkL_7] at i1
    rw [mkL_4]
    by_cases q : i = σ 7
    · rw [q, mkL_l0 g5 h3]
      clear gL gS gR gI gN lo LO
      lia
    · have z := gN i i0 (by clear gL gS gR gI gN lo LO; lia)
      rw [mkL_ln g5 h3 i0 (by clear gL gS gR gI gN lo LO; lia) q (by decide) (by decide)]
      clear gL gS gR gI gN lo LO
      lia
theorem Rl_mkL {fg tp s t w e n : Int32} {F : Nat → Int32 → Int32} {σ : Int32 → Int32} {y : Nat → Int32} (h : Rl fg tp F σ) (hG : Good σ) (h3 : σ 7 < 12) (hs : s < 7) (y0 : y 0 = σ 4) (y1 : y 1 = t) (y2 : y 2 = w) (y3 : y 3 = e) (y4 : y 4 = n) (y5 : y 5 = n) (y6 : y 6 = -1) (y7 : y 7 = s) : Rl fg tp (upF F 0 8 (σ 7) y) (mkL σ s t w e n) := by
  obtain ⟨r1, r2, r3, r4⟩ := h
  obtain ⟨-, -, g3, g4, g5, g6, -⟩ := hG
  have u : ∀ w j, 8 ≤ w → upF F 0 8 (σ 7) y w j = F w j := fun w j hw => by
    unfold upF
    rw [if_neg (fun z => by omega)]
  have u2 : ∀ w, w < 8 → upF F 0 8 (σ 7) y w (σ 7) = y w := fun w b => by
    unfold upF
    rw [if_pos ⟨Nat.zero_le _, b, rfl⟩]
  have u3 : ∀ w j, ¬ j = σ 7 → upF F 0 8 (σ 7) y w j = F w j := fun w j hw => by
    unfold upF
    rw [if_neg (fun z => hw z.2.2)]
  refine ⟨r1.trans (mkL_n g5 h3 (by decide) (by decide) (by decide)).symm, fun a b a0 a1 b0 b1 => ?_, fun k k0 k1 => ?_, fun i i0 i1 => ?_⟩
  · rw [u 11 _ (by decide), r2 a b a0 a1 b0 b1, mkL_rd g5 h3 a0 a1 b0 b1]
  · rw [mkL_n g5 h3 (by decide) (by decide) (by decide)] at k1
    have k3 : k < 3 := by clear r2 r3 r4 u u2 u3; lia
    rw [u 8 _ (by decide), u 9 _ (by decide), u 10 _ (by decide), mkL_sd g5 h3 k0 k3 (x := 0) (by decide) (by decide), mkL_sd g5 h3 k0 k3 (x := 1) (by decide) (by decide), mkL_sd g5 h3 k0 k3 (x := 2) (by decide) (by decide)]
    exact r3 k k0 k1
  · rw [mkL_7] at i1
    by_cases q : i = σ 7
    · subst q
      rw [u2 0 (by decide), u2 1 (by decide), u2 2 (by decide), u2 3 (by decide), u2 4 (by decide), u2 5 (by decide), u2 6 (by decide), u2 7 (by decide), mkL_l0 g5 h3, mkL_l1 g5 h3, mkL_l2 g5 h3, mkL_l3 g5 h3, mkL_l4 g5 h3, mkL_l5 g5 h3, mkL_l6 g5 h3]
      exact ⟨y0, y1, y2, y3, y4, y5, y6.trans (if_pos (by clear r2 r3 r4 u u2 u3; lia)).symm, fun _ => y7⟩
    · have i3 : i < 12 := by clear r2 r3 r4 u u2 u3; lia
      rw [u3 0 i q, u3 1 i q, u3 2 i q, u3 3 i q, u3 4 i q, u3 5 i q, u3 6 i q, u3 7 i q, mkL_ln g5 h3 i0 i3 q (x := 0) (by decide) (by decide), mkL_ln g5 h3 i0 i3 q (x := 1) (by decide) (by decide), mkL_ln g5 h3 i0 i3 q (x := 2) (by decide) (by decide), mkL_ln g5 h3 i0 i3 q (x := 3) (by decide) (by decide), mkL_ln g5 h3 i0 i3 q (x := 4) (by decide) (by decide), mkL_ln g5 h3 i0 i3 q (x := 5) (by decide) (by decide), mkL_ln g5 h3 i0 i3 q (x := 6) (by decide) (by decide)]
      exact r4 i i0 (by clear r2 r3 r4 u u2 u3; lia)
theorem dX3_makeLetter_0 : decode cX3_makeLetter 0 = .ok (.aload_n 0, 1) := by decide +kernel
theorem dX3_makeLetter_1 : decode cX3_makeLetter 1 = .ok (.getfield 12, 3) := by decide +kernel
theorem dX3_makeLetter_4 : decode cX3_makeLetter 4 = .ok (.getfield 95, 3) := by decide +kernel
theorem dX3_makeLetter_7 : decode cX3_makeLetter 7 = .ok (.aload_n 0, 1) := by decide +kernel
theorem dX3_makeLetter_8 : decode cX3_makeLetter 8 = .ok (.getfield 12, 3) := by decide +kernel
theorem dX3_makeLetter_11 : decode cX3_makeLetter 11 = .ok (.getfield 92, 3) := by decide +kernel
theorem dX3_makeLetter_14 : decode cX3_makeLetter 14 = .ok (.aaload, 1) := by decide +kernel
theorem dX3_makeLetter_15 : decode cX3_makeLetter 15 = .ok (.astore 6, 2) := by decide +kernel
theorem dX3_makeLetter_17 : decode cX3_makeLetter 17 = .ok (.aload 6, 2) := by decide +kernel
theorem dX3_makeLetter_19 : decode cX3_makeLetter 19 = .ok (.aload_n 0, 1) := by decide +kernel
theorem dX3_makeLetter_20 : decode cX3_makeLetter 20 = .ok (.getfield 12, 3) := by decide +kernel
theorem dX3_makeLetter_23 : decode cX3_makeLetter 23 = .ok (.getfield 99, 3) := by decide +kernel
theorem dX3_makeLetter_26 : decode cX3_makeLetter 26 = .ok (.putfield 102, 3) := by decide +kernel
theorem dX3_makeLetter_29 : decode cX3_makeLetter 29 = .ok (.aload 6, 2) := by decide +kernel
theorem dX3_makeLetter_31 : decode cX3_makeLetter 31 = .ok (.iload_n 2, 1) := by decide +kernel
theorem dX3_makeLetter_32 : decode cX3_makeLetter 32 = .ok (.putfield 107, 3) := by decide +kernel
theorem dX3_makeLetter_35 : decode cX3_makeLetter 35 = .ok (.aload 6, 2) := by decide +kernel
theorem dX3_makeLetter_37 : decode cX3_makeLetter 37 = .ok (.iload_n 3, 1) := by decide +kernel
theorem dX3_makeLetter_38 : decode cX3_makeLetter 38 = .ok (.putfield 110, 3) := by decide +kernel
theorem dX3_makeLetter_41 : decode cX3_makeLetter 41 = .ok (.aload 6, 2) := by decide +kernel
theorem dX3_makeLetter_43 : decode cX3_makeLetter 43 = .ok (.iload 4, 2) := by decide +kernel
theorem dX3_makeLetter_45 : decode cX3_makeLetter 45 = .ok (.putfield 113, 3) := by decide +kernel
theorem dX3_makeLetter_48 : decode cX3_makeLetter 48 = .ok (.aload 6, 2) := by decide +kernel
theorem dX3_makeLetter_50 : decode cX3_makeLetter 50 = .ok (.iload 5, 2) := by decide +kernel
theorem dX3_makeLetter_52 : decode cX3_makeLetter 52 = .ok (.putfield 116, 3) := by decide +kernel
theorem dX3_makeLetter_55 : decode cX3_makeLetter 55 = .ok (.aload 6, 2) := by decide +kernel
theorem dX3_makeLetter_57 : decode cX3_makeLetter 57 = .ok (.iload 5, 2) := by decide +kernel
theorem dX3_makeLetter_59 : decode cX3_makeLetter 59 = .ok (.putfield 119, 3) := by decide +kernel
theorem dX3_makeLetter_62 : decode cX3_makeLetter 62 = .ok (.aload 6, 2) := by decide +kernel
theorem dX3_makeLetter_64 : decode cX3_makeLetter 64 = .ok (.iconst (-1), 1) := by decide +kernel
theorem dX3_makeLetter_65 : decode cX3_makeLetter 65 = .ok (.putfield 122, 3) := by decide +kernel
theorem dX3_makeLetter_68 : decode cX3_makeLetter 68 = .ok (.aload 6, 2) := by decide +kernel
theorem dX3_makeLetter_70 : decode cX3_makeLetter 70 = .ok (.iload_n 1, 1) := by decide +kernel
theorem dX3_makeLetter_71 : decode cX3_makeLetter 71 = .ok (.putfield 125, 3) := by decide +kernel
theorem dX3_makeLetter_74 : decode cX3_makeLetter 74 = .ok (.aload_n 0, 1) := by decide +kernel
theorem dX3_makeLetter_75 : decode cX3_makeLetter 75 = .ok (.getfield 12, 3) := by decide +kernel
theorem dX3_makeLetter_78 : decode cX3_makeLetter 78 = .ok (.dup, 1) := by decide +kernel
theorem dX3_makeLetter_79 : decode cX3_makeLetter 79 = .ok (.getfield 92, 3) := by decide +kernel
theorem dX3_makeLetter_82 : decode cX3_makeLetter 82 = .ok (.iconst 1, 1) := by decide +kernel
theorem dX3_makeLetter_83 : decode cX3_makeLetter 83 = .ok (.iadd, 1) := by decide +kernel
theorem dX3_makeLetter_84 : decode cX3_makeLetter 84 = .ok (.putfield 92, 3) := by decide +kernel
theorem dX3_makeLetter_87 : decode cX3_makeLetter 87 = .ok (.aload_n 0, 1) := by decide +kernel
theorem dX3_makeLetter_88 : decode cX3_makeLetter 88 = .ok (.getfield 12, 3) := by decide +kernel
theorem dX3_makeLetter_91 : decode cX3_makeLetter 91 = .ok (.dup, 1) := by decide +kernel
theorem dX3_makeLetter_92 : decode cX3_makeLetter 92 = .ok (.getfield 99, 3) := by decide +kernel
theorem dX3_makeLetter_95 : decode cX3_makeLetter 95 = .ok (.iconst 1, 1) := by decide +kernel
theorem dX3_makeLetter_96 : decode cX3_makeLetter 96 = .ok (.iadd, 1) := by decide +kernel
theorem dX3_makeLetter_97 : decode cX3_makeLetter 97 = .ok (.putfield 99, 3) := by decide +kernel
theorem dX3_makeLetter_100 : decode cX3_makeLetter 100 = .ok (.aload 6, 2) := by decide +kernel
theorem dX3_makeLetter_102 : decode cX3_makeLetter 102 = .ok (.getfield 102, 3) := by decide +kernel
theorem dX3_makeLetter_105 : decode cX3_makeLetter 105 = .ok (.ireturn, 1) := by decide +kernel
set_option maxRecDepth 100000 in
set_option maxHeartbeats 4000000 in
theorem c_makeLetter {l : Launch} {g : Nat → Nat} {M : LH} (htr : l.stackTraces = false) {kd : Nat → Nat} {r a : Nat} {ad : Nat → Nat} {sl le : Int32 → Nat} {fg tp : Int32} {F : Nat → Int32 → Int32} {σ : Int32 → Int32} (hC : StR kd r M a ad sl le fg tp F σ) {q : Nat → Nat} {D : Nat} (hK : Dk kd D r M a q) {s t w e n : Int32} (h712 : σ 7 < 12) (h4 : σ 4 < 1000000) (s0 : 0 ≤ s) (s1 : s < σ 5) (t0 : 0 ≤ t) (t1 : t < σ 5) (w0 : 1 ≤ w) (w1 : w ≤ 9) (e0 : 0 ≤ e) (e1 : e ≤ 99) (n0 : 1 ≤ n) (n1 : n ≤ 99) : K_X3_makeLetter l g 0 0 0 [.ref (q 0), .int s, .int t, .int w, .int e, .int n] M (RI (fun v M9 => v = σ 4 ∧ ∃ F', StR kd r M9 a ad sl le fg tp F' (mkL σ s t w e n) ∧ Frm kd r M M9) nX) := by
  refine Ko_X3_makeLetter htr (fun X => ?_)
  have hC0 := hC
  have hK0 := hK
  obtain ⟨hSt, hRo, hSR, hLR, hSl, hLe, hkd, -, ⟨-, hRd, hSd, hLt⟩, hG⟩ := hC
  obtain ⟨hDk, hDs, ⟨f1, hB1⟩, ⟨f2, hB2⟩, hBl, ⟨f3, hB3⟩, hRt, ⟨f4, hB4⟩, hkD, hn34, hDr⟩ := hK
  have hG0 := hG
  obtain ⟨hg1, hg2, hg3, hg4, hg5, hg6, hg7, hg8, hgL, hgS, -⟩ := hG
  have hLl := hLe (σ 7) hg5 h712
  have nbK : ¬ q 0 = le (σ 7) := ne_of_cell hDk hLl (ob_ob (by decide))
  have nbD : ¬ q 0 = a := ne_of_cell hDk hSt (ob_ob (by decide))
  have nbS : ¬ a = le (σ 7) := ne_of_cell hSt hLl (ob_ob (by decide))
  have nbL : ¬ le (σ 7) = a := fun z => nbS z.symm
  have s7 : s < 7 := by clear hgL hgS hRd hSd hLt hLe hSl; lia
  have t9 := StR.mk2 (StC.let (StR.toC hC0) hg5 h712 (fun x => if x = 0 then σ 4 else if x = 1 then t else if x = 2 then w else if x = 3 then e else if x = 4 then n else if x = 5 then n else if x = 6 then -1 else s)) (Rl_mkL (s := s) (t := t) (w := w) (e := e) (n := n) (StR.toR hC0) hG0 h712 s7 rfl rfl rfl rfl rfl rfl rfl rfl) (Good_mkL hG0 h712 h4 s0 s1 t0 t1 w0 w1 e0 e1 n0 n1) (mkL_n hg5 h712 (by decide) (by decide) (by decide)) (mkL_n hg5 h712 (by decide) (by decide) (by decide)) (mkL_n hg5 h712 (by decide) (by decide) (by decide)) (mkL_n hg5 h712 (by decide) (by decide) (by decide)) mkL_4 (mkL_n hg5 h712 (by decide) (by decide) (by decide)) (mkL_n hg5 h712 (by decide) (by decide) (by decide)) mkL_7
  refine v_aload_n dX3_makeLetter_0 rfl rfl ?_
  refine gf_X3_12 dX3_makeLetter_1 rfl hDk ?_
  refine gf_X3_95 dX3_makeLetter_4 rfl hSt ?_
  refine v_aload_n dX3_makeLetter_7 rfl rfl ?_
  refine gf_X3_12 dX3_makeLetter_8 rfl hDk ?_
  refine gf_X3_92 dX3_makeLetter_11 rfl hSt ?_
  refine v_aald1 dX3_makeLetter_14 hLR hg5 h712 rfl ?_
  refine v_astore_6 dX3_makeLetter_15 ?_
  refine v_aload dX3_makeLetter_17 rfl ?_
  refine v_aload_n dX3_makeLetter_19 rfl rfl ?_
  refine gf_X3_12 dX3_makeLetter_20 rfl hDk ?_
  refine gf_X3_99 dX3_makeLetter_23 rfl hSt ?_
  refine pf_X3_102 dX3_makeLetter_26 rfl hLl ?_
  refine v_aload dX3_makeLetter_29 rfl ?_
  refine v_iload_n dX3_makeLetter_31 rfl rfl ?_
  refine pf_X3_107 dX3_makeLetter_32 rfl hup_s ?_
  rw [hup_hup]
  refine v_aload dX3_makeLetter_35 rfl ?_
  refine v_iload_n dX3_makeLetter_37 rfl rfl ?_
  refine pf_X3_110 dX3_makeLetter_38 rfl hup_s ?_
  rw [hup_hup]
  refine v_aload dX3_makeLetter_41 rfl ?_
  refine v_iload dX3_makeLetter_43 rfl ?_
  refine pf_X3_113 dX3_makeLetter_45 rfl hup_s ?_
  rw [hup_hup]
  refine v_aload dX3_makeLetter_48 rfl ?_
  refine v_iload dX3_makeLetter_50 rfl ?_
  refine pf_X3_116 dX3_makeLetter_52 rfl hup_s ?_
  rw [hup_hup]
  refine v_aload dX3_makeLetter_55 rfl ?_
  refine v_iload dX3_makeLetter_57 rfl ?_
  refine pf_X3_119 dX3_makeLetter_59 rfl hup_s ?_
  rw [hup_hup]
  refine v_aload dX3_makeLetter_62 rfl ?_
  refine v_iconst (v := (-1)) dX3_makeLetter_64 (by decide) ?_
  refine pf_X3_122 dX3_makeLetter_65 rfl hup_s ?_
  rw [hup_hup]
  refine v_aload dX3_makeLetter_68 rfl ?_
  refine v_iload_n dX3_makeLetter_70 rfl rfl ?_
  refine pf_X3_125 dX3_makeLetter_71 rfl hup_s ?_
  rw [hup_hup]
  refine v_aload_n dX3_makeLetter_74 rfl rfl ?_
  refine gf_X3_12 dX3_makeLetter_75 rfl ((hup_n nbK).trans hDk) ?_
  refine v_dup dX3_makeLetter_78 rfl ?_
  refine gf_X3_92 dX3_makeLetter_79 rfl ((hup_n nbS).trans hSt) ?_
  refine v_iconst (v := 1) dX3_makeLetter_82 (by decide) ?_
  refine v_iadd dX3_makeLetter_83 ?_
  refine pf_X3_92 dX3_makeLetter_84 rfl ((hup_n nbS).trans hSt) ?_
  refine v_aload_n dX3_makeLetter_87 rfl rfl ?_
  refine gf_X3_12 dX3_makeLetter_88 rfl ((hup_n nbD).trans ((hup_n nbK).trans hDk)) ?_
  refine v_dup dX3_makeLetter_91 rfl ?_
  refine gf_X3_99 dX3_makeLetter_92 rfl hup_s ?_
  refine v_iconst (v := 1) dX3_makeLetter_95 (by decide) ?_
  refine v_iadd dX3_makeLetter_96 ?_
  refine pf_X3_99 dX3_makeLetter_97 rfl hup_s ?_
  rw [hup_hup]
  refine v_aload dX3_makeLetter_100 rfl ?_
  refine gf_X3_102 dX3_makeLetter_102 rfl ((hup_n nbL).trans hup_s) ?_
  exact v_iret dX3_makeLetter_105 rfl ⟨rfl, _, t9, Frm.tr (Frm.up (hkd.2.2.2.2.2 _ hg5 h712)) (Frm.up hkd.1)⟩ (by omega) (by omega)
