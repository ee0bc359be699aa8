/-! ===== the desk's fees and goals ===== -/
/-- the destinations of the first letters on sledge k, as bits -/
def goN (σ : Int32 → Int32) (k : Int32) : Nat → Int32
  | 0 => 0
  | n + 1 => if lt σ (nI n) 6 = 10 + k then goN σ k n ||| sbit (lt σ (nI n) 1) else goN σ k n
theorem goN_1 {σ : Int32 → Int32} {k i : Int32} (h0 : 0 ≤ i) (h1 : i < 100) : goN σ k (i + 1).toNatClampNeg = if lt σ i 6 = 10 + k then goN σ k i.toNatClampNeg ||| sbit (lt σ i 1) else goN σ k i.toNatClampNeg := by
  rw [(tc_i h0 h1).1]
  show (if lt σ (nI i.toNatClampNeg) 6 = 10 + k then _ else _) = _
  rw [tc_nI h0]
theorem dX3_bestFees_0 : decode cX3_bestFees 0 = .ok (.aload_n 0, 1) := by decide +kernel
theorem dX3_bestFees_1 : decode cX3_bestFees 1 = .ok (.getfield 12, 3) := by decide +kernel
theorem dX3_bestFees_4 : decode cX3_bestFees 4 = .ok (.aload_n 0, 1) := by decide +kernel
theorem dX3_bestFees_5 : decode cX3_bestFees 5 = .ok (.getfield 28, 3) := by decide +kernel
theorem dX3_bestFees_8 : decode cX3_bestFees 8 = .ok (.aload_n 0, 1) := by decide +kernel
theorem dX3_bestFees_9 : decode cX3_bestFees 9 = .ok (.getfield 12, 3) := by decide +kernel
theorem dX3_bestFees_12 : decode cX3_bestFees 12 = .ok (.iload_n 1, 1) := by decide +kernel
theorem dX3_bestFees_13 : decode cX3_bestFees 13 = .ok (.invokevirtual 153, 3) := by decide +kernel
theorem dX3_bestFees_16 : decode cX3_bestFees 16 = .ok (.invokestatic 161, 3) := by decide +kernel
theorem dX3_bestFees_19 : decode cX3_bestFees 19 = .ok (.ireturn, 1) := by decide +kernel
set_option maxRecDepth 100000 in
set_option maxHeartbeats 4000000 in
theorem c_bestFees {l : Launch} {g : Nat → Nat} {M : LH} (htr : l.stackTraces = false) {kd : Nat → Nat} {r a : Nat} {ad : Nat → Nat} {sl le : Int32 → Nat} {fg tp : Int32} {F : Nat → Int32 → Int32} {σ : Int32 → Int32} (hC : StR kd r M a ad sl le fg tp F σ) {q : Nat → Nat} {D : Nat} (hK : Dk kd D r M a q) {k : Int32} (hk0 : 0 ≤ k) (hk : k < σ 6) : K_X3_bestFees l g 3 0 0 [.ref (q 0), .int k] M (RI (fun v M9 => v = feU σ (bI σ (sd σ k 1) (σ 7).toNatClampNeg (sd σ k 0 - loadOn σ k) &&& 4095) (σ 7) ∧ ∃ f', M9 = hup M (q 6) (ia 31 f')) nX) := by
  refine Ko_X3_bestFees htr (fun X => ?_)
  have hC0 := hC
  have hK0 := hK
  obtain ⟨hSt, hRo, hSR, hLR, hSl, hLe, hkd, -, ⟨-, hRd, hSd, hLt⟩, hG⟩ := hC
  obtain ⟨hDk, hDs, ⟨f1, hB1⟩, ⟨f2, hB2⟩, hBl, ⟨f3, hB3⟩, hRt, ⟨f4, hB4⟩, hkD, hn34, hDr⟩ := hK
  have hG0 := hG
  obtain ⟨hg1, hg2, hg3, hg4, hg5, hg6, hg7, hg8, hgL, hgS, -⟩ := hG
  have hkt : ¬ kd (q 6) = r := fun z => hDr (hkD.2.2.2.2.2.1.symm.trans z)
  refine v_aload_n dX3_bestFees_0 rfl rfl ?_
  refine gf_X3_12 dX3_bestFees_1 rfl hDk ?_
  refine v_aload_n dX3_bestFees_4 rfl rfl ?_
  refine gf_X3_28 dX3_bestFees_5 rfl hDk ?_
  refine v_aload_n dX3_bestFees_8 rfl rfl ?_
  refine gf_X3_12 dX3_bestFees_9 rfl hDk ?_
  refine v_iload_n dX3_bestFees_12 rfl rfl ?_
  refine k_X3_153 dX3_bestFees_13 rfl (c_bestSet htr hC0 hBl hB3 hkt hk0 hk) hBl (Nat.le_of_ble_eq_true rfl) (by omega) (by omega) (Nat.le_of_ble_eq_true rfl) (fun r13 M9 h9 => ?_) (fun _ _ h9 => h9.elim)
  obtain ⟨rfl, f', e9⟩ := h9
  subst M9
  have hC1 := StR.kept hC0 (fun z => hkt z.symm) (Frm.up (kd := kd) (M := M) (e := ia 31 f') (rfl : kd (q 6) = kd (q 6)))
  refine k_X3_161 dX3_bestFees_16 rfl (c_feesOfSet htr hC1 _) (Nat.le_of_ble_eq_true rfl) (by omega) (by omega) (Nat.le_of_ble_eq_true rfl) (fun r16 M9 h9 => ?_) (fun _ _ h9 => h9.elim)
  obtain ⟨rfl, e9⟩ := h9
  subst M9
  exact v_iret dX3_bestFees_19 rfl ⟨rfl, f', rfl⟩ (by omega) (by omega)
theorem dX3_bestFeesByTrying_0 : decode cX3_bestFeesByTrying 0 = .ok (.aload_n 0, 1) := by decide +kernel
theorem dX3_bestFeesByTrying_1 : decode cX3_bestFeesByTrying 1 = .ok (.getfield 12, 3) := by decide +kernel
theorem dX3_bestFeesByTrying_4 : decode cX3_bestFeesByTrying 4 = .ok (.iload_n 1, 1) := by decide +kernel
theorem dX3_bestFeesByTrying_5 : decode cX3_bestFeesByTrying 5 = .ok (.invokestatic 164, 3) := by decide +kernel
theorem dX3_bestFeesByTrying_8 : decode cX3_bestFeesByTrying 8 = .ok (.ireturn, 1) := by decide +kernel
set_option maxRecDepth 100000 in
set_option maxHeartbeats 4000000 in
theorem c_bestFeesByTrying {l : Launch} {g : Nat → Nat} {M : LH} (htr : l.stackTraces = false) {kd : Nat → Nat} {r a : Nat} {ad : Nat → Nat} {sl le : Int32 → Nat} {fg tp : Int32} {F : Nat → Int32 → Int32} {σ : Int32 → Int32} (hC : StR kd r M a ad sl le fg tp F σ) {q : Nat → Nat} {D : Nat} (hK : Dk kd D r M a q) {k : Int32} (hk0 : 0 ≤ k) (hk : k < σ 6) : K_X3_bestFeesByTrying l g 16 0 0 [.ref (q 0), .int k] M (RI (fun v M9 => v = trI σ (sd σ k 1) (σ 7).toNatClampNeg 0 (sd σ k 0 - loadOn σ k) ∧ M9 = M) nX) := by
  refine Ko_X3_bestFeesByTrying htr (fun X => ?_)
  have hC0 := hC
  have hK0 := hK
  obtain ⟨hSt, hRo, hSR, hLR, hSl, hLe, hkd, -, ⟨-, hRd, hSd, hLt⟩, hG⟩ := hC
  obtain ⟨hDk, hDs, ⟨f1, hB1⟩, ⟨f2, hB2⟩, hBl, ⟨f3, hB3⟩, hRt, ⟨f4, hB4⟩, hkD, hn34, hDr⟩ := hK
  have hG0 := hG
  obtain ⟨hg1, hg2, hg3, hg4, hg5, hg6, hg7, hg8, hgL, hgS, -⟩ := hG
  refine v_aload_n dX3_bestFeesByTrying_0 rfl rfl ?_
  refine gf_X3_12 dX3_bestFeesByTrying_1 rfl hDk ?_
  refine v_iload_n dX3_bestFeesByTrying_4 rfl rfl ?_
  refine k_X3_164 dX3_bestFeesByTrying_5 rfl (c_feesByTrying htr hC0 hk0 hk) (Nat.le_of_ble_eq_true rfl) (by omega) (by omega) (Nat.le_of_ble_eq_true rfl) (fun r5 M9 h9 => ?_) (fun _ _ h9 => h9.elim)
  obtain ⟨rfl, e9⟩ := h9
  subst M9
  exact v_iret dX3_bestFeesByTrying_8 rfl ⟨rfl, rfl⟩ (by omega) (by omega)
theorem dX3_goalsOf_0 : decode cX3_goalsOf 0 = .ok (.iconst 0, 1) := by decide +kernel
theorem dX3_goalsOf_1 : decode cX3_goalsOf 1 = .ok (.istore_n 2, 1) := by decide +kernel
theorem dX3_goalsOf_2 : decode cX3_goalsOf 2 = .ok (.iconst 0, 1) := by decide +kernel
theorem dX3_goalsOf_3 : decode cX3_goalsOf 3 = .ok (.istore_n 3, 1) := by decide +kernel
theorem dX3_goalsOf_4 : decode cX3_goalsOf 4 = .ok (.iload_n 3, 1) := by decide +kernel
theorem dX3_goalsOf_5 : decode cX3_goalsOf 5 = .ok (.aload_n 0, 1) := by decide +kernel
theorem dX3_goalsOf_6 : decode cX3_goalsOf 6 = .ok (.getfield 12, 3) := by decide +kernel
theorem dX3_goalsOf_9 : decode cX3_goalsOf 9 = .ok (.getfield 92, 3) := by decide +kernel
theorem dX3_goalsOf_12 : decode cX3_goalsOf 12 = .ok (.if_icmp .ge 42, 3) := by decide +kernel
theorem dX3_goalsOf_15 : decode cX3_goalsOf 15 = .ok (.aload_n 0, 1) := by decide +kernel
theorem dX3_goalsOf_16 : decode cX3_goalsOf 16 = .ok (.getfield 12, 3) := by decide +kernel
theorem dX3_goalsOf_19 : decode cX3_goalsOf 19 = .ok (.getfield 95, 3) := by decide +kernel
theorem dX3_goalsOf_22 : decode cX3_goalsOf 22 = .ok (.iload_n 3, 1) := by decide +kernel
theorem dX3_goalsOf_23 : decode cX3_goalsOf 23 = .ok (.aaload, 1) := by decide +kernel
theorem dX3_goalsOf_24 : decode cX3_goalsOf 24 = .ok (.getfield 122, 3) := by decide +kernel
theorem dX3_goalsOf_27 : decode cX3_goalsOf 27 = .ok (.iload_n 1, 1) := by decide +kernel
theorem dX3_goalsOf_28 : decode cX3_goalsOf 28 = .ok (.if_icmp .ne 20, 3) := by decide +kernel
theorem dX3_goalsOf_31 : decode cX3_goalsOf 31 = .ok (.iload_n 2, 1) := by decide +kernel
theorem dX3_goalsOf_32 : decode cX3_goalsOf 32 = .ok (.iconst 1, 1) := by decide +kernel
theorem dX3_goalsOf_33 : decode cX3_goalsOf 33 = .ok (.aload_n 0, 1) := by decide +kernel
theorem dX3_goalsOf_34 : decode cX3_goalsOf 34 = .ok (.getfield 12, 3) := by decide +kernel
theorem dX3_goalsOf_37 : decode cX3_goalsOf 37 = .ok (.getfield 95, 3) := by decide +kernel
theorem dX3_goalsOf_40 : decode cX3_goalsOf 40 = .ok (.iload_n 3, 1) := by decide +kernel
theorem dX3_goalsOf_41 : decode cX3_goalsOf 41 = .ok (.aaload, 1) := by decide +kernel
theorem dX3_goalsOf_42 : decode cX3_goalsOf 42 = .ok (.getfield 107, 3) := by decide +kernel
theorem dX3_goalsOf_45 : decode cX3_goalsOf 45 = .ok (.ishl, 1) := by decide +kernel
theorem dX3_goalsOf_46 : decode cX3_goalsOf 46 = .ok (.ior, 1) := by decide +kernel
theorem dX3_goalsOf_47 : decode cX3_goalsOf 47 = .ok (.istore_n 2, 1) := by decide +kernel
theorem dX3_goalsOf_48 : decode cX3_goalsOf 48 = .ok (.iinc 3 1, 3) := by decide +kernel
theorem dX3_goalsOf_51 : decode cX3_goalsOf 51 = .ok (.goto (-47), 3) := by decide +kernel
theorem dX3_goalsOf_54 : decode cX3_goalsOf 54 = .ok (.iload_n 2, 1) := by decide +kernel
theorem dX3_goalsOf_55 : decode cX3_goalsOf 55 = .ok (.iconst 1, 1) := by decide +kernel
theorem dX3_goalsOf_56 : decode cX3_goalsOf 56 = .ok (.aload_n 0, 1) := by decide +kernel
theorem dX3_goalsOf_57 : decode cX3_goalsOf 57 = .ok (.getfield 12, 3) := by decide +kernel
theorem dX3_goalsOf_60 : decode cX3_goalsOf 60 = .ok (.getfield 77, 3) := by decide +kernel
theorem dX3_goalsOf_63 : decode cX3_goalsOf 63 = .ok (.iload_n 1, 1) := by decide +kernel
theorem dX3_goalsOf_64 : decode cX3_goalsOf 64 = .ok (.aaload, 1) := by decide +kernel
theorem dX3_goalsOf_65 : decode cX3_goalsOf 65 = .ok (.getfield 86, 3) := by decide +kernel
theorem dX3_goalsOf_68 : decode cX3_goalsOf 68 = .ok (.ishl, 1) := by decide +kernel
theorem dX3_goalsOf_69 : decode cX3_goalsOf 69 = .ok (.iconst (-1), 1) := by decide +kernel
theorem dX3_goalsOf_70 : decode cX3_goalsOf 70 = .ok (.ixor, 1) := by decide +kernel
theorem dX3_goalsOf_71 : decode cX3_goalsOf 71 = .ok (.iand, 1) := by decide +kernel
theorem dX3_goalsOf_72 : decode cX3_goalsOf 72 = .ok (.ireturn, 1) := by decide +kernel
set_option maxRecDepth 100000 in
set_option maxHeartbeats 4000000 in
theorem c_goalsOf {l : Launch} {g : Nat → Nat} {M : LH} (htr : l.stackTraces = false) {kd : Nat → Nat} {r a : Nat} {ad : Nat → Nat} {sl le : Int32 → Nat} {fg tp : Int32} {F : Nat → Int32 → Int32} {σ : Int32 → Int32} (hC : StR kd r M a ad sl le fg tp F σ) {q : Nat → Nat} {D : Nat} (hK : Dk kd D r M a q) {k : Int32} (hk0 : 0 ≤ k) (hk : k < σ 6) : K_X3_goalsOf l g 0 0 0 [.ref (q 0), .int k] M (RI (fun v M9 => v = goN σ k (σ 7).toNatClampNeg &&& (sbit (sd σ k 1) ^^^ -1) ∧ M9 = M) nX) := by
  refine Ko_X3_goalsOf htr (fun X => ?_)
  have hC0 := hC
  have hK0 := hK
  obtain ⟨hSt, hRo, hSR, hLR, hSl, hLe, hkd, -, ⟨-, hRd, hSd, hLt⟩, hG⟩ := hC
  obtain ⟨hDk, hDs, ⟨f1, hB1⟩, ⟨f2, hB2⟩, hBl, ⟨f3, hB3⟩, hRt, ⟨f4, hB4⟩, hkD, hn34, hDr⟩ := hK
  have hG0 := hG
  obtain ⟨hg1, hg2, hg3, hg4, hg5, hg6, hg7, hg8, hgL, hgS, -⟩ := hG
  have k3 : k < 3 := by clear hgL hgS hRd hSd hLt hLe hSl; lia
  obtain ⟨y0, y1, y2⟩ := hSd k hk0 hk
  have hSk := hSl k hk0 k3
  have key : ∀ i, 0 ≤ i → i ≤ σ 7 → ∀ (s : Int32), s = goN σ k i.toNatClampNeg → V l g yX3_goalsOf cX3_goalsOf ((some .int)) [] 0 0 0 (RI (fun v M9 => v = goN σ k (σ 7).toNatClampNeg &&& (sbit (sd σ k 1) ^^^ -1) ∧ M9 = M) nX) X M 0 0 4 [some (.ref (q 0)), some (.int k), some (.int s), some (.int i)] [] := by
    refine up_ind _ (fun i h0 h1 ih s hv => ?_)
    refine v_iload_n dX3_goalsOf_4 rfl rfl ?_
    refine v_aload_n dX3_goalsOf_5 rfl rfl ?_
    refine gf_X3_12 dX3_goalsOf_6 rfl hDk ?_
    refine gf_X3_92 dX3_goalsOf_9 rfl hSt ?_
    refine v_icmp_ge (tgt := 54) dX3_goalsOf_12 (by decide) (fun h12 => ?_) (fun h12 => ?_)
    · have hi : i = σ 7 := by clear hgL hgS hRd hSd hLt hLe hSl ih hv; lia
      subst hi
      refine v_iload_n dX3_goalsOf_54 rfl rfl ?_
      refine v_iconst (v := 1) dX3_goalsOf_55 (by decide) ?_
      refine v_aload_n dX3_goalsOf_56 rfl rfl ?_
      refine gf_X3_12 dX3_goalsOf_57 rfl hDk ?_
      refine gf_X3_77 dX3_goalsOf_60 rfl hSt ?_
      refine v_iload_n dX3_goalsOf_63 rfl rfl ?_
      refine v_aald1 dX3_goalsOf_64 hSR hk0 k3 rfl ?_
      refine gf_X3_86 dX3_goalsOf_65 rfl hSk ?_
      refine v_ishl dX3_goalsOf_68 ?_
      refine v_iconst (v := (-1)) dX3_goalsOf_69 (by decide) ?_
      refine v_ixor dX3_goalsOf_70 ?_
      refine v_iand dX3_goalsOf_71 ?_
      exact v_iret dX3_goalsOf_72 rfl ⟨(by rw [hv, ← y1]; rfl), rfl⟩ (by omega) (by omega)
    · have hi : i < σ 7 := by clear hgL hgS hRd hSd hLt hLe hSl ih hv; lia
      have hi12 : i < 12 := by clear hgL hgS hRd hSd hLt hLe hSl ih hv; lia
      obtain ⟨q0, q1, q2, q3, q4, q5, q6, q7⟩ := hLt i h0 hi
      obtain ⟨z1, z2, z3, zz4, z5, z6, z7, z8, z9, z10, z11, z12, z13, z14⟩ := hgL i h0 hi
      have hLi := hLe i h0 hi12
      have hw9 : F 6 i = k ↔ lt σ i 6 = 10 + k := by
        clear hgL hgS hRd hSd hLt hLe hSl hC0 hK0 hSt hRo hSR hLR hkd hDk hDs hB1 hB2 hBl hB3 hRt hB4 hkD hG0 hDr ih hv hLi hSk
        grind
      refine v_aload_n dX3_goalsOf_15 rfl rfl ?_
      refine gf_X3_12 dX3_goalsOf_16 rfl hDk ?_
      refine gf_X3_95 dX3_goalsOf_19 rfl hSt ?_
      refine v_iload_n dX3_goalsOf_22 rfl rfl ?_
      refine v_aald1 dX3_goalsOf_23 hLR h0 hi12 rfl ?_
      refine gf_X3_122 dX3_goalsOf_24 rfl hLi ?_
      refine v_iload_n dX3_goalsOf_27 rfl rfl ?_
      refine v_icmp_ne (tgt := 48) dX3_goalsOf_28 (by decide) (fun h28 => ?_) (fun h28 => ?_)
      · refine v_iinc_3 dX3_goalsOf_48 rfl ?_
        refine v_goto (tgt := 4) dX3_goalsOf_51 (by decide) ?_
        refine ih hi _ ?_
        rw [goN_1 h0 (by clear hgL hgS hRd hSd hLt hLe hSl ih hv; lia)]
        first
          | (rw [if_pos (hw9.mp (by first | assumption | exact Classical.not_not.mp (by assumption))), hv, ← q1]; rfl)
          | (rw [if_neg (fun z => absurd (hw9.mpr z) (by assumption)), hv])
      · refine v_iload_n dX3_goalsOf_31 rfl rfl ?_
        refine v_iconst (v := 1) dX3_goalsOf_32 (by decide) ?_
        refine v_aload_n dX3_goalsOf_33 rfl rfl ?_
        refine gf_X3_12 dX3_goalsOf_34 rfl hDk ?_
        refine gf_X3_95 dX3_goalsOf_37 rfl hSt ?_
        refine v_iload_n dX3_goalsOf_40 rfl rfl ?_
        refine v_aald1 dX3_goalsOf_41 hLR h0 hi12 rfl ?_
        refine gf_X3_107 dX3_goalsOf_42 rfl hLi ?_
        refine v_ishl dX3_goalsOf_45 ?_
        refine v_ior dX3_goalsOf_46 ?_
        refine v_istore_2 dX3_goalsOf_47 ?_
        refine v_iinc_3 dX3_goalsOf_48 rfl ?_
        refine v_goto (tgt := 4) dX3_goalsOf_51 (by decide) ?_
        refine ih hi _ ?_
        rw [goN_1 h0 (by clear hgL hgS hRd hSd hLt hLe hSl ih hv; lia)]
        first
          | (rw [if_pos (hw9.mp (by first | assumption | exact Classical.not_not.mp (by assumption))), hv, ← q1]; rfl)
          | (rw [if_neg (fun z => absurd (hw9.mpr z) (by assumption)), hv])
  refine v_iconst (v := 0) dX3_goalsOf_0 (by decide) ?_
  refine v_istore_2 dX3_goalsOf_1 ?_
  refine v_iconst (v := 0) dX3_goalsOf_2 (by decide) ?_
  refine v_istore_3 dX3_goalsOf_3 ?_
  exact key 0 (by lia) hg5 0 rfl

