/-! ===== the best load is put on ===== -/
/-- the first n letters' places, those of m on sledge k -/
def plN (σ : Int32 → Int32) (k m : Int32) : Nat → Int32 → Int32
  | 0 => σ
  | n + 1 => if m &&& sbit (11 - nI n) = 0 then plN σ k m n else plS (plN σ k m n) (nI n) (10 + k)
def cnM (m : Int32) : Nat → Int32
  | 0 => 0
  | n + 1 => if m &&& sbit (11 - nI n) = 0 then cnM m n else cnM m n + 1
theorem plN_1 {σ : Int32 → Int32} {k m i : Int32} (h0 : 0 ≤ i) (h1 : i < 100) : plN σ k m (i + 1).toNatClampNeg = if m &&& sbit (11 - i) = 0 then plN σ k m i.toNatClampNeg else plS (plN σ k m i.toNatClampNeg) i (10 + k) := by
  rw [(tc_i h0 h1).1]
  show (if m &&& sbit (11 - nI i.toNatClampNeg) = 0 then _ else _) = _
  rw [tc_nI h0]
theorem cnM_1 {m i : Int32} (h0 : 0 ≤ i) (h1 : i < 100) : cnM m (i + 1).toNatClampNeg = if m &&& sbit (11 - i) = 0 then cnM m i.toNatClampNeg else cnM m i.toNatClampNeg + 1 := by
  rw [(tc_i h0 h1).1]
  show (if m &&& sbit (11 - nI i.toNatClampNeg) = 0 then _ else _) = _
  rw [tc_nI h0]
theorem plN_lo {σ : Int32 → Int32} {k m j : Int32} (j0 : 0 ≤ j) (j1 : j < 66) : ∀ n, n ≤ 12 → plN σ k m n j = σ j := by
  intro n
  induction n with
  | zero => exact fun _ => rfl
  | succ n ih =>
    intro h
    obtain ⟨a, b⟩ := nI12 n (by omega)
    unfold plN
    split
    · exact ih (by omega)
    · rw [plS_lo a b j0 j1]
      exact ih (by omega)
theorem plN_w {σ : Int32 → Int32} {k m i w : Int32} (i0 : 0 ≤ i) (i1 : i < 12) (w0 : 0 ≤ w) (w1 : w < 6) : ∀ n, n ≤ 12 → lt (plN σ k m n) i w = lt σ i w := by
  intro n
  induction n with
  | zero => exact fun _ => rfl
  | succ n ih =>
    intro h
    obtain ⟨a, b⟩ := nI12 n (by omega)
    unfold plN
    split
    · exact ih (by omega)
    · rw [plS_n a b i0 i1 w0 (by lia) (fun z => absurd z.2 (by lia))]
      exact ih (by omega)
theorem nI_ne : ∀ i, i < 12 → ∀ n, n < 12 → ¬ i = n → ¬ nI i = nI n := by decide
theorem plN_6 {σ : Int32 → Int32} {k m : Int32} {i : Nat} (hi : i < 12) : ∀ n, n ≤ 12 → lt (plN σ k m n) (nI i) 6 = if i < n ∧ ¬ m &&& sbit (11 - nI i) = 0 then 10 + k else lt σ (nI i) 6 := by
  intro n
  induction n with
  | zero => exact fun _ => (if_neg (fun z => absurd z.1 (by omega))).symm
  | succ n ih =>
    intro h
    obtain ⟨a, b⟩ := nI12 n (by omega)
    obtain ⟨c, d⟩ := nI12 i hi
    have q := ih (by omega)
    unfold plN
    by_cases e : i = n
    · subst e
      by_cases hb : m &&& sbit (11 - nI i) = 0
      · rw [if_pos hb, q, if_neg (fun z => absurd z.1 (by omega)), if_neg (fun z => z.2 hb)]
      · rw [if_neg hb, if_pos ⟨by omega, hb⟩]
        exact plS_6
    · have f : (i < n ∧ ¬ m &&& sbit (11 - nI i) = 0) ↔ (i < n + 1 ∧ ¬ m &&& sbit (11 - nI i) = 0) := ⟨fun z => ⟨by omega, z.2⟩, fun z => ⟨by omega, z.2⟩⟩
      by_cases hb : m &&& sbit (11 - nI n) = 0
      · rw [if_pos hb, q]
        simp only [f]
      · rw [if_neg hb, plS_n a b c d (by decide) (by decide) (fun z => nI_ne i hi n (by omega) e z.1), q]
        simp only [f]
theorem wS_mono {σ : Int32 → Int32} {S : Nat → Bool} {n : Nat} : ∀ N, n ≤ N → LB σ N → wS σ S n ≤ wS σ S N := by
  intro N
  induction N with
  | zero =>
    intro h _
    rw [show n = 0 by omega]
    exact Int.le_refl _
  | succ N ih =>
    intro h hL
    by_cases e : n = N + 1
    · rw [e]
      exact Int.le_refl _
    · have := ih (by omega) hL.dn
      have w := (hL.2 N (by omega)).1
      rw [wS_1]
      split <;> omega
theorem Good_plN {σ : Int32 → Int32} {k m : Int32} {S : Nat → Bool} (h : Good σ) (k0 : 0 ≤ k) (k1 : k < σ 6) (hs : okS σ (sd σ k 1) S (σ 7).toNatClampNeg) (hw : wS σ S (σ 7).toNatClampNeg ≤ (sd σ k 0 - loadOn σ k).toInt) (hb : ∀ i, i < (σ 7).toNatClampNeg → (m &&& sbit (11 - nI i) = 0 ↔ ¬ S i = true)) : ∀ n, n ≤ (σ 7).toNatClampNeg → Good (plN σ k m n) ∧ (loadOn (plN σ k m n) k).toInt = (loadOn σ k).toInt + wS σ S n ∧ ∀ j, 0 ≤ j → j < σ 6 → ¬ j = k → loadOn (plN σ k m n) j = loadOn σ j := by
  have hLB := h.LB
  have hG := h
  obtain ⟨g1, g2, g3, g4, g5, g6, g7, g8, gL, gS, gR, gI, gN, g0⟩ := h
  obtain ⟨u0, u1, u2, u3, u4, u5, u6, u7⟩ := gS k k0 k1
  have hrm : (sd σ k 0 - loadOn σ k).toInt = (sd σ k 0).toInt - (loadOn σ k).toInt := by
    have a1 := i_le.mp u1
    have a2 := i_le.mp u6
    have a3 := i_le.mp u7
    have e30 : (30 : Int32).toInt = 30 := rfl
    rw [i_0] at a2
    rw [e30] at a1
    rw [i_sub] <;> omega
  have u3' : sd σ k 1 < 7 := by clear gL gS gR gI gN; lia
  intro n
  induction n with
  | zero => exact fun _ => ⟨hG, (Int.add_zero _).symm, fun _ _ _ _ => rfl⟩
  | succ n ih =>
    intro hn
    have n12 : n < 12 := by have := hLB.1; omega
    obtain ⟨a, b, c⟩ := ih (by omega)
    obtain ⟨p0, p1, p2⟩ := nI_below g6 (show n < (σ 7).toNatClampNeg by omega)
    have l6 : plN σ k m n 6 = σ 6 := plN_lo (by decide) (by decide) n (by omega)
    have l7 : plN σ k m n 7 = σ 7 := plN_lo (by decide) (by decide) n (by omega)
    have hbn := hb n (by omega)
    unfold plN
    by_cases e : m &&& sbit (11 - nI n) = 0
    · have sn := hbn.mp e
      have e1 : wS σ S (n + 1) = wS σ S n := by
        rw [wS_1]
        rw [if_neg sn, Int.add_zero]
      rw [if_pos e, e1]
      exact ⟨a, b, c⟩
    · have sn : S n = true := Classical.not_not.mp (fun z => e (hbn.mpr z))
      have e1 : wS σ S (n + 1) = wS σ S n + (lt σ (nI n) 2).toInt := by
        rw [wS_1]
        rw [if_pos sn]
      have at6 : lt (plN σ k m n) (nI n) 6 = sd σ k 1 := by
        rw [plN_6 n12 n (by omega), if_neg (fun z => absurd z.1 (by omega))]
        exact hs n (by omega) sn
      have at2 : lt (plN σ k m n) (nI n) 2 = lt σ (nI n) 2 := plN_w p0 p2 (by decide) (by decide) n (by omega)
      have mono := wS_mono (σ := σ) (S := S) (n := n + 1) _ hn hLB
      have y := hLB.2 n (by omega)
      have w0 := (wf_b (S := S) n (by exact ⟨by omega, fun i hi => hLB.2 i (by omega)⟩)).1
      have ld : ∀ j, 0 ≤ j → j < σ 6 → loadOn (plS (plN σ k m n) (nI n) (10 + k)) j = loadOn (plN σ k m n) j + (if j = k then lt σ (nI n) 2 else 0) := fun j j0 j1 => by
        rw [loadOn_pl (by rw [l7]; exact g6) p0 (by rw [l7]; exact p1) j, at6, at2, if_neg (by clear gL gS gR gI gN c; lia : ¬ sd σ k 1 = 10 + j)]
        by_cases q : j = k
        · rw [q, if_pos rfl, if_pos rfl]
          exact congrArg _ (Int32.sub_zero _)
        · rw [if_neg (by clear gL gS gR gI gN c; lia : ¬ 10 + k = 10 + j), if_neg q]
          exact congrArg _ (Int32.sub_zero _)
      have ldk : (loadOn (plS (plN σ k m n) (nI n) (10 + k)) k).toInt = (loadOn σ k).toInt + wS σ S (n + 1) := by
        have a2 := i_le.mp u6
        have a1 := i_le.mp u1
        have a3 := i_le.mp u7
        have e30 : (30 : Int32).toInt = 30 := rfl
        rw [i_0] at a2
        rw [e30] at a1
        rw [ld k k0 k1, if_pos rfl, i_add] <;> rw [b] <;> omega
      rw [if_neg e]
      refine ⟨Good_pl a p0 (by rw [l7]; exact p1) (by clear gL gS gR gI gN c ld; lia) (Or.inr (by clear gL gS gR gI gN c ld; lia)) (by rw [l6]; clear gL gS gR gI gN c ld; lia) (fun j j0 j1 => ?_), ldk, fun j j0 j1 q => ?_⟩
      · rw [l6] at j1
        have sj : sd (plN σ k m n) j 0 = sd σ j 0 := by
          unfold sd
          exact plN_lo (by clear gL gS gR gI gN c ld; lia) (by clear gL gS gR gI gN c ld; lia) n (by omega)
        rw [sj]
        by_cases q : j = k
        · subst q
          rw [i_le, i_le, ldk, i_0]
          have a2 := i_le.mp u6
          rw [i_0] at a2
          constructor <;> omega
        · rw [ld j j0 j1, if_neg q, c j j0 j1 q, Int32.add_zero]
          obtain ⟨-, -, -, -, -, -, v6, v7⟩ := gS j j0 j1
          exact ⟨v6, v7⟩
      · rw [ld j j0 j1, if_neg q, c j j0 j1 q, Int32.add_zero]
theorem StR.cell {kd : Nat → Nat} {r : Nat} {M : LH} {a : Nat} {ad : Nat → Nat} {sl le : Int32 → Nat} {fg tp : Int32} {F : Nat → Int32 → Int32} {σ σ' : Int32 → Int32} (h : StR kd r M a ad sl le fg tp F σ') (e : ∀ j, 0 ≤ j → j < 8 → σ' j = σ j) : M a = some (ob 8 [.int (σ 5), .ref (ad 0), .int (σ 6), .ref (ad 1), .int (σ 7), .ref (ad 2), .int (σ 4), .int (σ 0), .int (σ 1), .int (σ 2), .int fg, .int tp, .int (σ 3)]) := by
  rw [← e 0 (by decide) (by decide), ← e 1 (by decide) (by decide), ← e 2 (by decide) (by decide), ← e 3 (by decide) (by decide), ← e 4 (by decide) (by decide), ← e 5 (by decide) (by decide), ← e 6 (by decide) (by decide), ← e 7 (by decide) (by decide)]
  exact h.1
theorem dX3_putBestOn_0 : decode cX3_putBestOn 0 = .ok (.aload_n 0, 1) := by decide +kernel
theorem dX3_putBestOn_1 : decode cX3_putBestOn 1 = .ok (.getfield 28, 3) := by decide +kernel
theorem dX3_putBestOn_4 : decode cX3_putBestOn 4 = .ok (.aload_n 0, 1) := by decide +kernel
theorem dX3_putBestOn_5 : decode cX3_putBestOn 5 = .ok (.getfield 12, 3) := by decide +kernel
theorem dX3_putBestOn_8 : decode cX3_putBestOn 8 = .ok (.iload_n 1, 1) := by decide +kernel
theorem dX3_putBestOn_9 : decode cX3_putBestOn 9 = .ok (.invokevirtual 153, 3) := by decide +kernel
theorem dX3_putBestOn_12 : decode cX3_putBestOn 12 = .ok (.istore_n 2, 1) := by decide +kernel
theorem dX3_putBestOn_13 : decode cX3_putBestOn 13 = .ok (.iconst 0, 1) := by decide +kernel
theorem dX3_putBestOn_14 : decode cX3_putBestOn 14 = .ok (.istore_n 3, 1) := by decide +kernel
theorem dX3_putBestOn_15 : decode cX3_putBestOn 15 = .ok (.iconst 0, 1) := by decide +kernel
theorem dX3_putBestOn_16 : decode cX3_putBestOn 16 = .ok (.istore 4, 2) := by decide +kernel
theorem dX3_putBestOn_18 : decode cX3_putBestOn 18 = .ok (.iload 4, 2) := by decide +kernel
theorem dX3_putBestOn_20 : decode cX3_putBestOn 20 = .ok (.aload_n 0, 1) := by decide +kernel
theorem dX3_putBestOn_21 : decode cX3_putBestOn 21 = .ok (.getfield 12, 3) := by decide +kernel
theorem dX3_putBestOn_24 : decode cX3_putBestOn 24 = .ok (.getfield 92, 3) := by decide +kernel
theorem dX3_putBestOn_27 : decode cX3_putBestOn 27 = .ok (.if_icmp .ge 35, 3) := by decide +kernel
theorem dX3_putBestOn_30 : decode cX3_putBestOn 30 = .ok (.iload_n 2, 1) := by decide +kernel
theorem dX3_putBestOn_31 : decode cX3_putBestOn 31 = .ok (.iload 4, 2) := by decide +kernel
theorem dX3_putBestOn_33 : decode cX3_putBestOn 33 = .ok (.invokestatic 157, 3) := by decide +kernel
theorem dX3_putBestOn_36 : decode cX3_putBestOn 36 = .ok (.ifCond .eq 20, 3) := by decide +kernel
theorem dX3_putBestOn_39 : decode cX3_putBestOn 39 = .ok (.aload_n 0, 1) := by decide +kernel
theorem dX3_putBestOn_40 : decode cX3_putBestOn 40 = .ok (.getfield 12, 3) := by decide +kernel
theorem dX3_putBestOn_43 : decode cX3_putBestOn 43 = .ok (.getfield 95, 3) := by decide +kernel
theorem dX3_putBestOn_46 : decode cX3_putBestOn 46 = .ok (.iload 4, 2) := by decide +kernel
theorem dX3_putBestOn_48 : decode cX3_putBestOn 48 = .ok (.aaload, 1) := by decide +kernel
theorem dX3_putBestOn_49 : decode cX3_putBestOn 49 = .ok (.iload_n 1, 1) := by decide +kernel
theorem dX3_putBestOn_50 : decode cX3_putBestOn 50 = .ok (.putfield 122, 3) := by decide +kernel
theorem dX3_putBestOn_53 : decode cX3_putBestOn 53 = .ok (.iinc 3 1, 3) := by decide +kernel
theorem dX3_putBestOn_56 : decode cX3_putBestOn 56 = .ok (.iinc 4 1, 3) := by decide +kernel
theorem dX3_putBestOn_59 : decode cX3_putBestOn 59 = .ok (.goto (-41), 3) := by decide +kernel
theorem dX3_putBestOn_62 : decode cX3_putBestOn 62 = .ok (.iload_n 3, 1) := by decide +kernel
theorem dX3_putBestOn_63 : decode cX3_putBestOn 63 = .ok (.ireturn, 1) := by decide +kernel
set_option maxRecDepth 100000 in
set_option maxHeartbeats 4000000 in
theorem c_putBestOn {l : Launch} {g : Nat → Nat} {M : LH} (htr : l.stackTraces = false) {kd : Nat → Nat} {r a : Nat} {ad : Nat → Nat} {sl le : Int32 → Nat} {fg tp : Int32} {F : Nat → Int32 → Int32} {σ : Int32 → Int32} (hC : StR kd r M a ad sl le fg tp F σ) {q : Nat → Nat} {D : Nat} (hK : Dk kd D r M a q) {k : Int32} (hk0 : 0 ≤ k) (hk : k < σ 6) : K_X3_putBestOn l g 3 0 0 [.ref (q 0), .int k] M (RI (fun v M9 => v = cnM (bI σ (sd σ k 1) (σ 7).toNatClampNeg (sd σ k 0 - loadOn σ k) &&& 4095) (σ 7).toNatClampNeg ∧ ∃ F', StR kd r M9 a ad sl le fg tp F' (plN σ k (bI σ (sd σ k 1) (σ 7).toNatClampNeg (sd σ k 0 - loadOn σ k) &&& 4095) (σ 7).toNatClampNeg) ∧ Dk kd D r M9 a q ∧ Fr2 kd r D M M9) nX) := by
  refine Ko_X3_putBestOn htr (fun X => ?_)
  have hC0 := hC
  have hK0 := hK
  obtain ⟨hSt, hRo, hSR, hLR, hSl, hLe, hkd, -, ⟨-, hRd, hSd, hLt⟩, hG⟩ := hC
  obtain ⟨hDk, hDs, ⟨f1, hB1⟩, ⟨f2, hB2⟩, hBl, ⟨f3, hB3⟩, hRt, ⟨f4, hB4⟩, hkD, hn34, hDr⟩ := hK
  have hG0 := hG
  obtain ⟨hg1, hg2, hg3, hg4, hg5, hg6, hg7, hg8, hgL, hgS, -⟩ := hG
  have k3 : k < 3 := by clear hgL hgS hRd hSd hLt hLe hSl; lia
  obtain ⟨u0, u1, u2, u3, u4, u5, u6, u7⟩ := hgS k hk0 hk
  have hkt : ¬ kd (q 6) = r := fun z => hDr (hkD.2.2.2.2.2.1.symm.trans z)
  have hGN : ∀ n, n ≤ (σ 7).toNatClampNeg → Good (plN σ k (bI σ (sd σ k 1) (σ 7).toNatClampNeg (sd σ k 0 - loadOn σ k) &&& 4095) n) := by
    obtain ⟨⟨S, s1, s2, s3⟩, -⟩ := bI_best (σ := σ) (st := sd σ k 1) (σ 7).toNatClampNeg hG0.LB (sd σ k 0 - loadOn σ k) (by clear hgL hgS hRd hSd hLt hLe hSl; lia) (by clear hgL hgS hRd hSd hLt hLe hSl; lia)
    exact fun n hn => (Good_plN hG0 hk0 hk s1 s2 (fun i hi => bI_bits (tc_le hg6) s3 hi) n hn).1
  have hN12 : (σ 7).toNatClampNeg ≤ 12 := tc_le hg6
  clear hRd hSd hLt hLe hSl hgL hgS
  generalize hm : (bI σ (sd σ k 1) (σ 7).toNatClampNeg (sd σ k 0 - loadOn σ k) &&& 4095) = m at hGN ⊢
  have key : ∀ i, 0 ≤ i → i ≤ σ 7 → ∀ (M1 : LH) (F1 : Nat → Int32 → Int32), StR kd r M1 a ad sl le fg tp F1 (plN σ k m i.toNatClampNeg) → Dk kd D r M1 a q → Fr2 kd r D M M1 → V l g yX3_putBestOn cX3_putBestOn ((some .int)) [] 3 0 0 (RI (fun v M9 => v = cnM m (σ 7).toNatClampNeg ∧ ∃ F', StR kd r M9 a ad sl le fg tp F' (plN σ k m (σ 7).toNatClampNeg) ∧ Dk kd D r M9 a q ∧ Fr2 kd r D M M9) nX) X M1 0 0 18 [some (.ref (q 0)), some (.int k), some (.int m), some (.int (cnM m i.toNatClampNeg)), some (.int i)] [] := by
    refine up_ind _ (fun i h0 h1 ih M1 F1 hC1 hK1 hF1 => ?_)
    have hiN : i.toNatClampNeg ≤ (σ 7).toNatClampNeg := tc_le h1
    have hlo : ∀ j : Int32, 0 ≤ j → j < 66 → plN σ k m i.toNatClampNeg j = σ j := fun j a b => plN_lo a b _ (by omega)
    have hSt1 := StR.cell hC1 (fun j a b => hlo j a (by clear ih hlo; lia))
    have hDk1 := hK1.1
    have hLR1 := hC1.2.2.2.1
    refine v_iload dX3_putBestOn_18 rfl ?_
    refine v_aload_n dX3_putBestOn_20 rfl rfl ?_
    refine gf_X3_12 dX3_putBestOn_21 rfl hDk1 ?_
    refine gf_X3_92 dX3_putBestOn_24 rfl hSt1 ?_
    refine v_icmp_ge (tgt := 62) dX3_putBestOn_27 (by decide) (fun h27 => ?_) (fun h27 => ?_)
    · have hi : i = σ 7 := by clear ih hlo; lia
      subst hi
      refine v_iload_n dX3_putBestOn_62 rfl rfl ?_
      exact v_iret dX3_putBestOn_63 rfl ⟨rfl, F1, hC1, hK1, hF1⟩ (by omega) (by omega)
    · have hi : i < σ 7 := by clear ih hlo; lia
      have hi12 : i < 12 := by clear ih hlo; lia
      have hLi1 := hC1.2.2.2.2.2.1 i h0 hi12
      refine v_iload_n dX3_putBestOn_30 rfl rfl ?_
      refine v_iload dX3_putBestOn_31 rfl ?_
      refine k_X3_157 dX3_putBestOn_33 rfl (c_contains htr m i) (Nat.le_of_ble_eq_true rfl) (by omega) (by omega) (Nat.le_of_ble_eq_true rfl) (fun r33 M9 h9 => ?_) (fun _ _ h9 => h9.elim)
      obtain ⟨rfl, e9⟩ := h9
      subst M9
      refine v_if_eq (tgt := 56) dX3_putBestOn_36 (by decide) (fun h36 => ?_) (fun h36 => ?_)
      · refine v_iinc_4 dX3_putBestOn_56 rfl ?_
        refine v_goto (tgt := 18) dX3_putBestOn_59 (by decide) ?_
        have e9 := plN_1 (σ := σ) (k := k) (m := m) h0 (by clear ih hlo; lia)
        have c9 := cnM_1 (m := m) h0 (by clear ih hlo; lia)
        have hi1 : (i + 1).toNatClampNeg ≤ (σ 7).toNatClampNeg := tc_le (by clear ih hlo; lia)
        have hGn := hGN _ hi1
        first
          | (rw [if_pos (Classical.byContradiction (fun z => by rw [if_neg z] at h36; revert h36; decide))] at e9 c9
             have ih2 := ih hi M1 F1
             rw [e9, c9] at ih2
             exact ih2 hC1 hK1 hF1)
          | (have hb9 : ¬ m &&& sbit (11 - i) = 0 := fun z => by rw [if_pos z] at h36; exact h36 rfl
             rw [if_neg hb9] at e9 c9
             rw [e9] at hGn
             have t9 : StR kd r (hup M1 (le i) (ob 4 [.int (F1 0 i), .int (F1 1 i), .int (F1 2 i), .int (F1 3 i), .int (F1 4 i), .int (F1 5 i), .int k, .int (F1 7 i)])) a ad sl le fg tp (upF F1 0 8 i (fun w => if w = 6 then k else F1 w i)) (plS (plN σ k m i.toNatClampNeg) i (10 + k)) :=
               StR.mk1 (StC.let (StR.toC hC1) h0 hi12 (fun w => if w = 6 then k else F1 w i)) (Rl_pl (StR.toR hC1) (StR.toG hC1) h0 (by rw [hlo 7 (by decide) (by decide)]; exact hi) (fun w hw => if_neg (by omega)) (by rw [if_pos rfl, if_neg (by clear ih hlo; lia)]; clear ih hlo; lia) (fun z => absurd z (by clear ih hlo; lia))) hGn (fun j a b => plS_lo h0 hi12 a (by clear ih hlo; lia))
             have f9 := Frm.up (kd := kd) (r := r) (M := M1) (e := ob 4 [.int (F1 0 i), .int (F1 1 i), .int (F1 2 i), .int (F1 3 i), .int (F1 4 i), .int (F1 5 i), .int k, .int (F1 7 i)]) (hkd.2.2.2.2.2 i h0 hi12)
             have ih2 := ih hi (hup M1 (le i) (ob 4 [.int (F1 0 i), .int (F1 1 i), .int (F1 2 i), .int (F1 3 i), .int (F1 4 i), .int (F1 5 i), .int k, .int (F1 7 i)])) (upF F1 0 8 i (fun w => if w = 6 then k else F1 w i))
             rw [e9, c9] at ih2
             exact ih2 t9 (Dk.kept hK1 hDr f9) (Fr2.tr hF1 (Fr2.a f9)))
      · refine v_aload_n dX3_putBestOn_39 rfl rfl ?_
        refine gf_X3_12 dX3_putBestOn_40 rfl hDk1 ?_
        refine gf_X3_95 dX3_putBestOn_43 rfl hSt1 ?_
        refine v_iload dX3_putBestOn_46 rfl ?_
        refine v_aald1 dX3_putBestOn_48 hLR1 h0 hi12 rfl ?_
        refine v_iload_n dX3_putBestOn_49 rfl rfl ?_
        refine pf_X3_122 dX3_putBestOn_50 rfl hLi1 ?_
        refine v_iinc_3 dX3_putBestOn_53 rfl ?_
        refine v_iinc_4 dX3_putBestOn_56 rfl ?_
        refine v_goto (tgt := 18) dX3_putBestOn_59 (by decide) ?_
        have e9 := plN_1 (σ := σ) (k := k) (m := m) h0 (by clear ih hlo; lia)
        have c9 := cnM_1 (m := m) h0 (by clear ih hlo; lia)
        have hi1 : (i + 1).toNatClampNeg ≤ (σ 7).toNatClampNeg := tc_le (by clear ih hlo; lia)
        have hGn := hGN _ hi1
        first
          | (rw [if_pos (Classical.byContradiction (fun z => by rw [if_neg z] at h36; revert h36; decide))] at e9 c9
             have ih2 := ih hi M1 F1
             rw [e9, c9] at ih2
             exact ih2 hC1 hK1 hF1)
          | (have hb9 : ¬ m &&& sbit (11 - i) = 0 := fun z => by rw [if_pos z] at h36; exact h36 rfl
             rw [if_neg hb9] at e9 c9
             rw [e9] at hGn
             have t9 : StR kd r (hup M1 (le i) (ob 4 [.int (F1 0 i), .int (F1 1 i), .int (F1 2 i), .int (F1 3 i), .int (F1 4 i), .int (F1 5 i), .int k, .int (F1 7 i)])) a ad sl le fg tp (upF F1 0 8 i (fun w => if w = 6 then k else F1 w i)) (plS (plN σ k m i.toNatClampNeg) i (10 + k)) :=
               StR.mk1 (StC.let (StR.toC hC1) h0 hi12 (fun w => if w = 6 then k else F1 w i)) (Rl_pl (StR.toR hC1) (StR.toG hC1) h0 (by rw [hlo 7 (by decide) (by decide)]; exact hi) (fun w hw => if_neg (by omega)) (by rw [if_pos rfl, if_neg (by clear ih hlo; lia)]; clear ih hlo; lia) (fun z => absurd z (by clear ih hlo; lia))) hGn (fun j a b => plS_lo h0 hi12 a (by clear ih hlo; lia))
             have f9 := Frm.up (kd := kd) (r := r) (M := M1) (e := ob 4 [.int (F1 0 i), .int (F1 1 i), .int (F1 2 i), .int (F1 3 i), .int (F1 4 i), .int (F1 5 i), .int k, .int (F1 7 i)]) (hkd.2.2.2.2.2 i h0 hi12)
             have ih2 := ih hi (hup M1 (le i) (ob 4 [.int (F1 0 i), .int (F1 1 i), .int (F1 2 i), .int (F1 3 i), .int (F1 4 i), .int (F1 5 i), .int k, .int (F1 7 i)])) (upF F1 0 8 i (fun w => if w = 6 then k else F1 w i))
             rw [e9, c9] at ih2
             exact ih2 t9 (Dk.kept hK1 hDr f9) (Fr2.tr hF1 (Fr2.a f9)))
  refine v_aload_n dX3_putBestOn_0 rfl rfl ?_
  refine gf_X3_28 dX3_putBestOn_1 rfl hDk ?_
  refine v_aload_n dX3_putBestOn_4 rfl rfl ?_
  refine gf_X3_12 dX3_putBestOn_5 rfl hDk ?_
  refine v_iload_n dX3_putBestOn_8 rfl rfl ?_
  refine k_X3_153 dX3_putBestOn_9 rfl (c_bestSet htr hC0 hBl hB3 hkt hk0 hk) hBl (Nat.le_of_ble_eq_true rfl) (by omega) (by omega) (Nat.le_of_ble_eq_true rfl) (fun r9 M9 h9 => ?_) (fun _ _ h9 => h9.elim)
  obtain ⟨rfl, f', e9⟩ := h9
  have hfr : Frm kd D M M9 := by rw [e9]; exact Frm.up hkD.2.2.2.2.2.1
  have hC1 : StR kd r M9 a ad sl le fg tp F σ := StR.kept hC0 (fun z => hDr z.symm) hfr
  have hK1 : Dk kd D r M9 a q := by rw [e9]; exact Dk.row hK0 hB3 f'
  rw [hm]
  refine v_istore_2 dX3_putBestOn_12 ?_
  refine v_iconst (v := 0) dX3_putBestOn_13 (by decide) ?_
  refine v_istore_3 dX3_putBestOn_14 ?_
  refine v_iconst (v := 0) dX3_putBestOn_15 (by decide) ?_
  refine v_istore_4 dX3_putBestOn_16 ?_
  exact key 0 (by lia) hg5 M9 F hC1 hK1 (Fr2.b hfr)

