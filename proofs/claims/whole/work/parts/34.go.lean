/-! ===== a sledge goes ===== -/
def Fr2 (kd : Nat → Nat) (r D : Nat) (M M' : LH) : Prop := ∀ x, ¬ kd x = r → ¬ kd x = D → M' x = M x
theorem Fr2.rf {kd : Nat → Nat} {r D : Nat} {M : LH} : Fr2 kd r D M M := fun _ _ _ => rfl
theorem Fr2.a {kd : Nat → Nat} {r D : Nat} {M M' : LH} (h : Frm kd r M M') : Fr2 kd r D M M' := fun x a _ => h x a
theorem Fr2.b {kd : Nat → Nat} {r D : Nat} {M M' : LH} (h : Frm kd D M M') : Fr2 kd r D M M' := fun x _ b => h x b
theorem Fr2.tr {kd : Nat → Nat} {r D : Nat} {M M' M'' : LH} (h : Fr2 kd r D M M') (h2 : Fr2 kd r D M' M'') : Fr2 kd r D M M'' := fun x a b => (h2 x a b).trans (h x a b)
theorem Good.cgS {σ σ' : Int32 → Int32} (h : Good σ) (hr : ∀ a b, 0 ≤ a → a < 7 → 0 ≤ b → b < 7 → rd σ' a b = rd σ a b) (hl : ∀ i w, 0 ≤ i → i < 12 → 0 ≤ w → w < 7 → lt σ' i w = lt σ i w) (e1 : σ' 1 = σ 1) (e4 : σ' 4 = σ 4) (e5 : σ' 5 = σ 5) (e6 : σ' 6 = σ 6) (e7 : σ' 7 = σ 7) (hs : ∀ k, 0 ≤ k → k < σ 6 → sd σ' k 0 = sd σ k 0 ∧ 0 ≤ sd σ' k 1 ∧ sd σ' k 1 < σ 5 ∧ 0 ≤ sd σ' k 2 ∧ sd σ' k 2 ≤ 120) : Good σ' := by
  obtain ⟨g1, g2, g3, g4, g5, g6, g7, g8, gL, gS, gR, gI, gN, g0⟩ := h
  refine ⟨by rw [e5]; exact g1, by rw [e5]; exact g2, by rw [e6]; exact g3, by rw [e6]; exact g4, by rw [e7]; exact g5, by rw [e7]; exact g6, by rw [e1]; exact g7, by rw [e1]; exact g8, fun i i0 i1 => ?_, fun k k0 k1 => ?_, fun a b a0 a1 b0 b1 => ?_, fun i j i0 ij j1 => ?_, fun i i0 i1 => ?_, by rw [e4]; exact g0⟩
  · rw [e7] at i1
    have L : ∀ w, 0 ≤ w → w < 7 → lt σ' i w = lt σ i w := fun w => hl i w i0 (by clear gL gS gR gI gN hr hs hl; lia)
    rw [L 0 (by decide) (by decide), L 1 (by decide) (by decide), L 2 (by decide) (by decide), L 3 (by decide) (by decide), L 4 (by decide) (by decide), L 5 (by decide) (by decide), L 6 (by decide) (by decide), e5, e6]
    exact gL i i0 i1
  · rw [e6] at k1
    obtain ⟨z1, z2, z3, z4, z5, z6, z7, z8⟩ := gS k k0 k1
    obtain ⟨y1, y2, y3, y4, y5⟩ := hs k k0 k1
    rw [loadOn_cg g6 hl e7 k, y1, e5]
    exact ⟨z1, z2, y2, y3, y4, y5, z7, z8⟩
  · rw [hr a b a0 a1 b0 b1, e5]
    exact gR a b a0 a1 b0 b1
  · rw [e7] at j1
    have q1 : i < 12 := by clear gL gS gR gI gN hr hs hl; lia
    have q2 : j < 12 := by clear gL gS gR gI gN hr hs hl; lia
    have q3 : 0 ≤ j := by clear gL gS gR gI gN hr hs hl; lia
    rw [hl i 0 i0 q1 (by decide) (by decide), hl j 0 q3 q2 (by decide) (by decide)]
    exact gI i j i0 ij j1
  · rw [e7] at i1
    have q1 : i < 12 := by clear gL gS gR gI gN hr hs hl; lia
    rw [hl i 0 i0 q1 (by decide) (by decide), e4]
    exact gN i i0 i1
theorem Rl.cgS {fg tp fg' tp' : Int32} {F : Nat → Int32 → Int32} {σ σ' : Int32 → Int32} (h : Rl fg tp F σ) (hG : Good σ) (hr : ∀ a b, 0 ≤ a → a < 7 → 0 ≤ b → b < 7 → rd σ' a b = rd σ a b) (hl : ∀ i w, 0 ≤ i → i < 12 → 0 ≤ w → w < 7 → lt σ' i w = lt σ i w) (e6 : σ' 6 = σ 6) (e7 : σ' 7 = σ 7) {k : Int32} {y : Nat → Int32} (hf : fg' - tp' = σ' 2) (hs : ∀ j w, 0 ≤ j → j < 3 → ¬ j = k → 0 ≤ w → w < 3 → sd σ' j w = sd σ j w) (y0 : y 8 = sd σ' k 0) (y1 : y 9 = sd σ' k 1) (y2 : y 10 = sd σ' k 2) : Rl fg' tp' (upF F 8 11 k y) σ' := by
  obtain ⟨-, r2, r3, r4⟩ := h
  obtain ⟨-, -, g3, g4, g5, g6, -⟩ := hG
  have u : ∀ w j, w < 8 ∨ 11 ≤ w → upF F 8 11 k y w j = F w j := fun w j hw => by
    unfold upF
    rw [if_neg (fun z => by omega)]
  have u2 : ∀ w, 8 ≤ w → w < 11 → upF F 8 11 k y w k = y w := fun w a b => by
    unfold upF
    rw [if_pos ⟨a, b, rfl⟩]
  have u3 : ∀ w j, ¬ j = k → upF F 8 11 k y w j = F w j := fun w j hw => by
    unfold upF
    rw [if_neg (fun z => hw z.2.2)]
  refine ⟨hf, fun a b a0 a1 b0 b1 => ?_, fun j j0 j1 => ?_, fun i i0 i1 => ?_⟩
  · rw [u 11 _ (Or.inr (by decide)), r2 a b a0 a1 b0 b1, hr a b a0 a1 b0 b1]
  · rw [e6] at j1
    by_cases e : j = k
    · subst e
      rw [u2 8 (by decide) (by decide), u2 9 (by decide) (by decide), u2 10 (by decide) (by decide)]
      exact ⟨y0, y1, y2⟩
    · have k3 : j < 3 := by clear r2 r3 r4 u u2 u3 hr hs hl; lia
      rw [u3 8 j e, u3 9 j e, u3 10 j e, hs j 0 j0 k3 e (by decide) (by decide), hs j 1 j0 k3 e (by decide) (by decide), hs j 2 j0 k3 e (by decide) (by decide)]
      exact r3 j j0 j1
  · rw [e7] at i1
    have i2 : i < 12 := by clear r2 r3 r4 u u2 u3 hr hs hl; lia
    have L : ∀ w, 0 ≤ w → w < 7 → lt σ' i w = lt σ i w := fun w => hl i w i0 i2
    rw [u 0 _ (Or.inl (by decide)), u 1 _ (Or.inl (by decide)), u 2 _ (Or.inl (by decide)), u 3 _ (Or.inl (by decide)), u 4 _ (Or.inl (by decide)), u 5 _ (Or.inl (by decide)), u 6 _ (Or.inl (by decide)), u 7 _ (Or.inl (by decide)), L 0 (by decide) (by decide), L 1 (by decide) (by decide), L 2 (by decide) (by decide), L 3 (by decide) (by decide), L 4 (by decide) (by decide), L 5 (by decide) (by decide), L 6 (by decide) (by decide)]
    exact r4 i i0 i1
def goS (σ : Int32 → Int32) (k s w : Int32) : Int32 → Int32 := ui (ui (ui σ (57 + 3 * k + 1) s) (57 + 3 * k + 2) w) 2 (σ 2 - w)
section mk
variable {σ : Int32 → Int32} {k s w : Int32}
theorem goS_2 : goS σ k s w 2 = σ 2 - w := ui_s
theorem goS_n {j : Int32} (h0 : 0 ≤ k) (h3 : k < 3) (hj : ¬ j = 2) (hj2 : j < 57 ∨ 66 ≤ j) : goS σ k s w j = σ j := by
  unfold goS
  rw [ui_n hj, ui_n (by lia), ui_n (by lia)]
theorem goS_sn {j x : Int32} (h0 : 0 ≤ k) (h3 : k < 3) (j0 : 0 ≤ j) (j3 : j < 3) (hk : ¬ j = k) (w0 : 0 ≤ x) (w3 : x < 3) : sd (goS σ k s w) j x = sd σ j x := by
  unfold sd goS
  rw [ui_n (by lia), ui_n (by lia), ui_n (by lia)]
theorem goS_s0 (h0 : 0 ≤ k) (h3 : k < 3) : sd (goS σ k s w) k 0 = sd σ k 0 := by
  unfold sd goS
  rw [ui_n (by lia), ui_n (by lia), ui_n (by lia)]
theorem goS_s1 (h0 : 0 ≤ k) (h3 : k < 3) : sd (goS σ k s w) k 1 = s := by
  unfold sd goS
  rw [ui_n (by lia), ui_n (by lia), ui_s]
theorem goS_s2 (h0 : 0 ≤ k) (h3 : k < 3) : sd (goS σ k s w) k 2 = w := by
  unfold sd goS
  rw [ui_n (by lia), ui_s]
theorem goS_lt {i x : Int32} (h0 : 0 ≤ k) (h3 : k < 3) (i0 : 0 ≤ i) (i1 : i < 12) (w0 : 0 ≤ x) (w1 : x < 7) : lt (goS σ k s w) i x = lt σ i x := by
  unfold lt
  exact goS_n h0 h3 (by lia) (Or.inr (by lia))
theorem goS_rd {i x : Int32} (h0 : 0 ≤ k) (h3 : k < 3) (i0 : 0 ≤ i) (i1 : i < 7) (w0 : 0 ≤ x) (w1 : x < 7) : rd (goS σ k s w) i x = rd σ i x := by
  unfold rd
  exact goS_n h0 h3 (by lia) (Or.inl (by lia))
end mk
theorem dX3_go_0 : decode cX3_go 0 = .ok (.aload_n 0, 1) := by decide +kernel
theorem dX3_go_1 : decode cX3_go 1 = .ok (.getfield 12, 3) := by decide +kernel
theorem dX3_go_4 : decode cX3_go 4 = .ok (.getfield 77, 3) := by decide +kernel
theorem dX3_go_7 : decode cX3_go 7 = .ok (.iload_n 1, 1) := by decide +kernel
theorem dX3_go_8 : decode cX3_go 8 = .ok (.aaload, 1) := by decide +kernel
theorem dX3_go_9 : decode cX3_go 9 = .ok (.astore_n 3, 1) := by decide +kernel
theorem dX3_go_10 : decode cX3_go 10 = .ok (.aload_n 0, 1) := by decide +kernel
theorem dX3_go_11 : decode cX3_go 11 = .ok (.getfield 21, 3) := by decide +kernel
theorem dX3_go_14 : decode cX3_go 14 = .ok (.aload_n 0, 1) := by decide +kernel
theorem dX3_go_15 : decode cX3_go 15 = .ok (.getfield 12, 3) := by decide +kernel
theorem dX3_go_18 : decode cX3_go 18 = .ok (.aload_n 3, 1) := by decide +kernel
theorem dX3_go_19 : decode cX3_go 19 = .ok (.getfield 86, 3) := by decide +kernel
theorem dX3_go_22 : decode cX3_go 22 = .ok (.iload_n 2, 1) := by decide +kernel
theorem dX3_go_23 : decode cX3_go 23 = .ok (.invokevirtual 167, 3) := by decide +kernel
theorem dX3_go_26 : decode cX3_go 26 = .ok (.istore 4, 2) := by decide +kernel
theorem dX3_go_28 : decode cX3_go 28 = .ok (.aload_n 3, 1) := by decide +kernel
theorem dX3_go_29 : decode cX3_go 29 = .ok (.iload_n 2, 1) := by decide +kernel
theorem dX3_go_30 : decode cX3_go 30 = .ok (.putfield 86, 3) := by decide +kernel
theorem dX3_go_33 : decode cX3_go 33 = .ok (.aload_n 3, 1) := by decide +kernel
theorem dX3_go_34 : decode cX3_go 34 = .ok (.iload 4, 2) := by decide +kernel
theorem dX3_go_36 : decode cX3_go 36 = .ok (.putfield 89, 3) := by decide +kernel
theorem dX3_go_39 : decode cX3_go 39 = .ok (.aload_n 0, 1) := by decide +kernel
theorem dX3_go_40 : decode cX3_go 40 = .ok (.getfield 12, 3) := by decide +kernel
theorem dX3_go_43 : decode cX3_go 43 = .ok (.dup, 1) := by decide +kernel
theorem dX3_go_44 : decode cX3_go 44 = .ok (.getfield 172, 3) := by decide +kernel
theorem dX3_go_47 : decode cX3_go 47 = .ok (.iload 4, 2) := by decide +kernel
theorem dX3_go_49 : decode cX3_go 49 = .ok (.isub, 1) := by decide +kernel
theorem dX3_go_50 : decode cX3_go 50 = .ok (.putfield 172, 3) := by decide +kernel
theorem dX3_go_53 : decode cX3_go 53 = .ok (.aload_n 0, 1) := by decide +kernel
theorem dX3_go_54 : decode cX3_go 54 = .ok (.getfield 12, 3) := by decide +kernel
theorem dX3_go_57 : decode cX3_go 57 = .ok (.dup, 1) := by decide +kernel
theorem dX3_go_58 : decode cX3_go 58 = .ok (.getfield 175, 3) := by decide +kernel
theorem dX3_go_61 : decode cX3_go 61 = .ok (.iload 4, 2) := by decide +kernel
theorem dX3_go_63 : decode cX3_go 63 = .ok (.iadd, 1) := by decide +kernel
theorem dX3_go_64 : decode cX3_go 64 = .ok (.putfield 175, 3) := by decide +kernel
theorem dX3_go_67 : decode cX3_go 67 = .ok (.iload 4, 2) := by decide +kernel
theorem dX3_go_69 : decode cX3_go 69 = .ok (.ireturn, 1) := by decide +kernel
set_option maxRecDepth 100000 in
set_option maxHeartbeats 4000000 in
theorem c_go {l : Launch} {g : Nat → Nat} {M : LH} (htr : l.stackTraces = false) {kd : Nat → Nat} {r a : Nat} {ad : Nat → Nat} {sl le : Int32 → Nat} {fg tp : Int32} {F : Nat → Int32 → Int32} {σ : Int32 → Int32} (hC : StR kd r M a ad sl le fg tp F σ) {q : Nat → Nat} {D : Nat} (hK : Dk kd D r M a q) {k t : Int32} (k0 : 0 ≤ k) (k1 : k < σ 6) (t0 : 0 ≤ t) (t1 : t < σ 5) (hwy : ∃ d, Wks σ (sd σ k 1) t d) : K_X3_go l g 4 0 0 [.ref (q 0), .int k, .int t] M (RI (fun v M9 => IsD σ 1000000 (sd σ k 1) t v.toInt ∧ ∃ F', StR kd r M9 a ad sl le fg (tp + v) F' (goS σ k t v) ∧ Dk kd D r M9 a q ∧ Fr2 kd r D M M9) nX) := by
  refine Ko_X3_go htr (fun X => ?_)
  have hC0 := hC
  have hK0 := hK
  obtain ⟨hSt, hRo, hSR, hLR, hSl, hLe, hkd, -, ⟨-, hRd, hSd, hLt⟩, hG⟩ := hC
  obtain ⟨hDk, hDs, ⟨f1, hB1⟩, ⟨f2, hB2⟩, hBl, ⟨f3, hB3⟩, hRt, ⟨f4, hB4⟩, hkD, hn34, hDr⟩ := hK
  have hG0 := hG
  obtain ⟨hg1, hg2, hg3, hg4, hg5, hg6, hg7, hg8, hgL, hgS, -⟩ := hG
  have k3 : k < 3 := by clear hgL hgS hRd hSd hLt hLe hSl; lia
  obtain ⟨y0, y1, y2⟩ := hSd k k0 k1
  obtain ⟨u0, u1, u2, u3, u4, u5, u6, u7⟩ := hgS k k0 k1
  have hSk := hSl k k0 k3
  have f90 : 0 ≤ F 9 k := by rw [y1]; exact u2
  have f91 : F 9 k < σ 5 := by rw [y1]; exact u3
  refine v_aload_n dX3_go_0 rfl rfl ?_
  refine gf_X3_12 dX3_go_1 rfl hDk ?_
  refine gf_X3_77 dX3_go_4 rfl hSt ?_
  refine v_iload_n dX3_go_7 rfl rfl ?_
  refine v_aald1 dX3_go_8 hSR k0 k3 rfl ?_
  refine v_astore_3 dX3_go_9 ?_
  refine v_aload_n dX3_go_10 rfl rfl ?_
  refine gf_X3_21 dX3_go_11 rfl hDk ?_
  refine v_aload_n dX3_go_14 rfl rfl ?_
  refine gf_X3_12 dX3_go_15 rfl hDk ?_
  refine v_aload_n dX3_go_18 rfl rfl ?_
  refine gf_X3_86 dX3_go_19 rfl hSk ?_
  refine v_iload_n dX3_go_22 rfl rfl ?_
  refine k_X3_167 dX3_go_23 rfl (c_nearestWay htr hC0 hDs hB1 (fun z => hDr (hkD.2.2.1.symm.trans z)) f90 f91 t0 t1) hDs (Nat.le_of_ble_eq_true rfl) (by omega) (by omega) (Nat.le_of_ble_eq_true rfl) (fun r23 M9 h9 => ?_) (fun _ _ h9 => h9.elim)
  obtain ⟨f', hq, rfl, e9⟩ := h9
  have hfr : Frm kd D M M9 := by rw [e9]; exact Frm.up hkD.2.2.1
  have hC1 : StR kd r M9 a ad sl le fg tp F σ := StR.kept hC0 (fun z => hDr z.symm) hfr
  have hK1 : Dk kd D r M9 a q := by rw [e9]; exact Dk.row hK0 hB1 f'
  obtain ⟨hi1, hi2, hi3⟩ := hq.2 t t0 t1
  rw [y1] at hi1 hi2 hi3 ⊢
  generalize f' (sd σ k 1 * 7 + t) = w at hi1 hi2 hi3 ⊢
  clear e9
  have hwD := hi1
  have hw0 : 0 ≤ w := i_le.mpr (by rw [i_0]; exact hi2)
  have hwK : w ≤ 120 := by
    rcases hwy with ⟨d, hd⟩
    rcases hi1 with ⟨p1, p2, p3⟩ | ⟨p1, p2⟩
    · have e120 : (120 : Int32).toInt = 120 := rfl
      rw [i_le, e120]
      omega
    · exact absurd hd (p2 d)
  have hSt1 := hC1.1
  have hSk1 : M9 (sl k) = some (ob 7 [.int (F 8 k), .int (F 9 k), .int (F 10 k)]) := hC1.2.2.2.2.1 k k0 k3
  have hDk1 := hK1.1
  have nbK : ¬ q 0 = sl k := ne_of_cell hDk1 hSk1 (ob_ob (by decide))
  have nbD : ¬ q 0 = a := ne_of_cell hDk1 hSt1 (ob_ob (by decide))
  have nbS : ¬ a = sl k := ne_of_cell hSt1 hSk1 (ob_ob (by decide))
  have hlo : ∀ j : Int32, ¬ j = 2 → j < 57 → goS σ k t w j = σ j := fun j a b => goS_n k0 k3 a (Or.inl b)
  have hG9 : Good (goS σ k t w) := Good.cgS hG0 (fun _ _ => goS_rd k0 k3) (fun _ _ => goS_lt k0 k3) (hlo 1 (by decide) (by decide)) (hlo 4 (by decide) (by decide)) (hlo 5 (by decide) (by decide)) (hlo 6 (by decide) (by decide)) (hlo 7 (by decide) (by decide)) (fun j j0 j1 => by
    by_cases e : j = k
    · rw [e, goS_s0 k0 k3, goS_s1 k0 k3, goS_s2 k0 k3]
      exact ⟨rfl, t0, t1, hw0, hwK⟩
    · have j3 : j < 3 := by clear hgL hgS hRd hSd hLt hLe hSl hlo; lia
      rw [goS_sn k0 k3 j0 j3 e (by decide) (by decide), goS_sn k0 k3 j0 j3 e (by decide) (by decide), goS_sn k0 k3 j0 j3 e (by decide) (by decide)]
      obtain ⟨-, -, v2, v3, v4, v5, -⟩ := hgS j j0 j1
      exact ⟨rfl, v2, v3, v4, v5⟩)
  have hft := (StR.toR hC0).1
  have hR9 : Rl fg (tp + w) (upF F 8 11 k (fun x => if x = 8 then F 8 k else if x = 9 then t else w)) (goS σ k t w) := Rl.cgS (StR.toR hC0) hG0 (fun _ _ => goS_rd k0 k3) (fun _ _ => goS_lt k0 k3) (hlo 6 (by decide) (by decide)) (hlo 7 (by decide) (by decide)) (by rw [goS_2, ← hft]; clear hgL hgS hRd hSd hLt hLe hSl hlo; lia) (fun j x j0 j3 e x0 x1 => goS_sn k0 k3 j0 j3 e x0 x1) (by rw [goS_s0 k0 k3]; exact y0) (by rw [goS_s1 k0 k3]; rfl) (by rw [goS_s2 k0 k3]; rfl)
  have t9 := StR.mk2 (StC.sle (StR.toC hC1) k0 k3 (fun x => if x = 8 then F 8 k else if x = 9 then t else w)) hR9 hG9 (hlo 0 (by decide) (by decide)) (hlo 1 (by decide) (by decide)) goS_2 (hlo 3 (by decide) (by decide)) (hlo 4 (by decide) (by decide)) (hlo 5 (by decide) (by decide)) (hlo 6 (by decide) (by decide)) (hlo 7 (by decide) (by decide))
  have f9 := Frm.tr (Frm.up (M := M9) (e := ob 7 [.int (F 8 k), .int t, .int w]) (hkd.2.2.2.2.1 k k0 k3)) (Frm.up (e := ob 8 [.int (σ 5), .ref (ad 0), .int (σ 6), .ref (ad 1), .int (σ 7), .ref (ad 2), .int (σ 4), .int (σ 0), .int (σ 1), .int (σ 2 - w), .int fg, .int (tp + w), .int (σ 3)]) hkd.1)
  refine v_istore_4 dX3_go_26 ?_
  refine v_aload_n dX3_go_28 rfl rfl ?_
  refine v_iload_n dX3_go_29 rfl rfl ?_
  refine pf_X3_86 dX3_go_30 rfl hSk1 ?_
  refine v_aload_n dX3_go_33 rfl rfl ?_
  refine v_iload dX3_go_34 rfl ?_
  refine pf_X3_89 dX3_go_36 rfl hup_s ?_
  rw [hup_hup]
  refine v_aload_n dX3_go_39 rfl rfl ?_
  refine gf_X3_12 dX3_go_40 rfl ((hup_n nbK).trans hDk1) ?_
  refine v_dup dX3_go_43 rfl ?_
  refine gf_X3_172 dX3_go_44 rfl ((hup_n nbS).trans hSt1) ?_
  refine v_iload dX3_go_47 rfl ?_
  refine v_isub dX3_go_49 ?_
  refine pf_X3_172 dX3_go_50 rfl ((hup_n nbS).trans hSt1) ?_
  refine v_aload_n dX3_go_53 rfl rfl ?_
  refine gf_X3_12 dX3_go_54 rfl ((hup_n nbD).trans ((hup_n nbK).trans hDk1)) ?_
  refine v_dup dX3_go_57 rfl ?_
  refine gf_X3_175 dX3_go_58 rfl hup_s ?_
  refine v_iload dX3_go_61 rfl ?_
  refine v_iadd dX3_go_63 ?_
  refine pf_X3_175 dX3_go_64 rfl hup_s ?_
  rw [hup_hup]
  refine v_iload dX3_go_67 rfl ?_
  exact v_iret dX3_go_69 rfl ⟨hwD, _, t9, Dk.kept hK1 hDr f9, Fr2.tr (Fr2.b hfr) (Fr2.a f9)⟩ (by omega) (by omega)
