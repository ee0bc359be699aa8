/-! ===== the reference: questions about letters; the best fee ===== -/
theorem pos_in {σ : Int32 → Int32} {p j : Int32} {n : Nat} (hn : n ≤ 12) : (0 ≤ j ∧ j ≤ nI (wL σ p n).length - 1) ↔ (0 ≤ j ∧ j.toNatClampNeg < (wL σ p n).length) := by
  have hl := wL_len (σ := σ) (p := p) n
  generalize (wL σ p n).length = x at *
  have e : (nI x - 1).toInt = (x : Int) - 1 := by
    rw [i_sub] <;> rw [nI_toInt (by omega), i_1] <;> omega
  constructor
  · rintro ⟨a, b⟩
    have c := tc_Int a
    rw [i_le, e] at b
    exact ⟨a, by omega⟩
  · rintro ⟨a, b⟩
    have c := tc_Int a
    exact ⟨a, by rw [i_le, e]; omega⟩
theorem dX12_letterOn_0 : decode cX12_letterOn 0 = .ok (.aload_n 0, 1) := by decide +kernel
theorem dX12_letterOn_1 : decode cX12_letterOn 1 = .ok (.aload_n 0, 1) := by decide +kernel
theorem dX12_letterOn_2 : decode cX12_letterOn 2 = .ok (.iload_n 1, 1) := by decide +kernel
theorem dX12_letterOn_3 : decode cX12_letterOn 3 = .ok (.invokevirtual 106, 3) := by decide +kernel
theorem dX12_letterOn_6 : decode cX12_letterOn 6 = .ok (.ifCond .ne 7, 3) := by decide +kernel
theorem dX12_letterOn_9 : decode cX12_letterOn 9 = .ok (.iconst 1, 1) := by decide +kernel
theorem dX12_letterOn_10 : decode cX12_letterOn 10 = .ok (.goto 26, 3) := by decide +kernel
theorem dX12_letterOn_13 : decode cX12_letterOn 13 = .ok (.iload_n 2, 1) := by decide +kernel
theorem dX12_letterOn_14 : decode cX12_letterOn 14 = .ok (.iconst 0, 1) := by decide +kernel
theorem dX12_letterOn_15 : decode cX12_letterOn 15 = .ok (.aload_n 0, 1) := by decide +kernel
theorem dX12_letterOn_16 : decode cX12_letterOn 16 = .ok (.bipush 10, 2) := by decide +kernel
theorem dX12_letterOn_18 : decode cX12_letterOn 18 = .ok (.iload_n 1, 1) := by decide +kernel
theorem dX12_letterOn_19 : decode cX12_letterOn 19 = .ok (.iadd, 1) := by decide +kernel
theorem dX12_letterOn_20 : decode cX12_letterOn 20 = .ok (.invokevirtual 121, 3) := by decide +kernel
theorem dX12_letterOn_23 : decode cX12_letterOn 23 = .ok (.iconst 1, 1) := by decide +kernel
theorem dX12_letterOn_24 : decode cX12_letterOn 24 = .ok (.isub, 1) := by decide +kernel
theorem dX12_letterOn_25 : decode cX12_letterOn 25 = .ok (.invokestatic 66, 3) := by decide +kernel
theorem dX12_letterOn_28 : decode cX12_letterOn 28 = .ok (.ifCond .eq 7, 3) := by decide +kernel
theorem dX12_letterOn_31 : decode cX12_letterOn 31 = .ok (.iconst 0, 1) := by decide +kernel
theorem dX12_letterOn_32 : decode cX12_letterOn 32 = .ok (.goto 4, 3) := by decide +kernel
theorem dX12_letterOn_35 : decode cX12_letterOn 35 = .ok (.iconst 2, 1) := by decide +kernel
theorem dX12_letterOn_36 : decode cX12_letterOn 36 = .ok (.putfield 56, 3) := by decide +kernel
theorem dX12_letterOn_39 : decode cX12_letterOn 39 = .ok (.aload_n 0, 1) := by decide +kernel
theorem dX12_letterOn_40 : decode cX12_letterOn 40 = .ok (.getfield 56, 3) := by decide +kernel
theorem dX12_letterOn_43 : decode cX12_letterOn 43 = .ok (.ifCond .ne 21, 3) := by decide +kernel
theorem dX12_letterOn_46 : decode cX12_letterOn 46 = .ok (.aload_n 0, 1) := by decide +kernel
theorem dX12_letterOn_47 : decode cX12_letterOn 47 = .ok (.getfield 16, 3) := by decide +kernel
theorem dX12_letterOn_50 : decode cX12_letterOn 50 = .ok (.aload_n 0, 1) := by decide +kernel
theorem dX12_letterOn_51 : decode cX12_letterOn 51 = .ok (.getfield 32, 3) := by decide +kernel
theorem dX12_letterOn_54 : decode cX12_letterOn 54 = .ok (.iload_n 2, 1) := by decide +kernel
theorem dX12_letterOn_55 : decode cX12_letterOn 55 = .ok (.iaload, 1) := by decide +kernel
theorem dX12_letterOn_56 : decode cX12_letterOn 56 = .ok (.iconst 0, 1) := by decide +kernel
theorem dX12_letterOn_57 : decode cX12_letterOn 57 = .ok (.invokestatic 70, 3) := by decide +kernel
theorem dX12_letterOn_60 : decode cX12_letterOn 60 = .ok (.iaload, 1) := by decide +kernel
theorem dX12_letterOn_61 : decode cX12_letterOn 61 = .ok (.goto 4, 3) := by decide +kernel
theorem dX12_letterOn_64 : decode cX12_letterOn 64 = .ok (.iconst 0, 1) := by decide +kernel
theorem dX12_letterOn_65 : decode cX12_letterOn 65 = .ok (.ireturn, 1) := by decide +kernel
set_option maxRecDepth 100000 in
set_option maxHeartbeats 4000000 in
theorem r_letterOn {l : Launch} {g : Nat → Nat} {M : LH} (htr : l.stackTraces = false) {kd : Nat → Nat} {r m : Nat} {w : Nat → Nat} {t ch ea fl sv bf tn he en ln wr dg : Int32} {v b4 sa pa fr th bs tx li lf to : Int32 → Int32} (hC : Md kd r M m w t ch ea fl sv bf tn he en ln wr dg v b4 sa pa fr th bs tx li lf to) (hG : Good v) (k j : Int32) : K_X12_letterOn l g 2 0 0 [.ref m, .int k, .int j] M (RI (fun x M9 => ∃ th', ((hsl v k ∧ (0 ≤ j ∧ j.toNatClampNeg < (wL v (10 + k) (v 7).toNatClampNeg).length) ∧ x = lt v ((wL v (10 + k) (v 7).toNatClampNeg).getD j.toNatClampNeg 0) 0 ∧ Md kd r M9 m w 0 ch ea fl sv bf tn he en ln wr dg v b4 sa pa fr th' bs tx li lf to) ∨ (hsl v k ∧ ¬ (0 ≤ j ∧ j.toNatClampNeg < (wL v (10 + k) (v 7).toNatClampNeg).length) ∧ x = 0 ∧ Md kd r M9 m w 2 ch ea fl sv bf tn he en ln wr dg v b4 sa pa fr th' bs tx li lf to) ∨ (¬ hsl v k ∧ x = 0 ∧ Md kd r M9 m w 1 ch ea fl sv bf tn he en ln wr dg v b4 sa pa fr th bs tx li lf to)) ∧ Frm kd r M M9) nX) := by
  refine Ko_X12_letterOn htr (fun X => ?_)
  obtain ⟨hMo, hw5, hw6, hw7, hw8, hw9, hw10, hw11, hw13, hw14, hw15, hw16, hw17, hw18, -⟩ := _root_.id hC
  have hF : Frm kd r M M := Frm.rf
  obtain ⟨hg1, hg2, hg3, hg4, hg5, hg6, hg7, hg8, hgL, hgS, -⟩ := _root_.id hG
  clear hgL hgS
  refine v_aload_n dX12_letterOn_0 rfl rfl ?_
  refine v_aload_n dX12_letterOn_1 rfl rfl ?_
  refine v_iload_n dX12_letterOn_2 rfl rfl ?_
  refine k_X12_106 dX12_letterOn_3 rfl (r_isSledge htr hC hG k) hMo (Nat.le_of_ble_eq_true rfl) (by omega) (by omega) (Nat.le_of_ble_eq_true rfl) (fun r3 M9 h9 => ?_) (fun _ _ h9 => h9.elim)
  obtain ⟨rfl, e9⟩ := h9
  subst M9
  refine v_if_ne (tgt := 13) dX12_letterOn_6 (by decide) (fun h6 => ?_) (fun h6 => ?_)
  · refine v_iload_n dX12_letterOn_13 rfl rfl ?_
    refine v_iconst (v := 0) dX12_letterOn_14 (by decide) ?_
    refine v_aload_n dX12_letterOn_15 rfl rfl ?_
    refine v_bipush (v := (10)) dX12_letterOn_16 (by decide) ?_
    refine v_iload_n dX12_letterOn_18 rfl rfl ?_
    refine v_iadd dX12_letterOn_19 ?_
    refine k_X12_121 dX12_letterOn_20 rfl (r_waits htr hC hG (10 + k)) hMo (Nat.le_of_ble_eq_true rfl) (by omega) (by omega) (Nat.le_of_ble_eq_true rfl) (fun r20 M9 h9 => ?_) (fun _ _ h9 => h9.elim)
    obtain ⟨rfl, th2, hT, hC, hF9⟩ := h9
    have hF := Frm.tr hF hF9
    obtain ⟨hMo, hw5, hw6, hw7, hw8, hw9, hw10, hw11, hw13, hw14, hw15, hw16, hw17, hw18, -⟩ := _root_.id hC
    refine v_iconst (v := 1) dX12_letterOn_23 (by decide) ?_
    refine v_isub dX12_letterOn_24 ?_
    refine k_X12_66 dX12_letterOn_25 rfl (r_isIn htr j 0 (nI (wL v (10 + k) (v 7).toNatClampNeg).length - 1)) (Nat.le_of_ble_eq_true rfl) (by omega) (by omega) (Nat.le_of_ble_eq_true rfl) (fun r25 M9 h9 => ?_) (fun _ _ h9 => h9.elim)
    obtain ⟨rfl, e9⟩ := h9
    subst M9
    refine v_if_eq (tgt := 35) dX12_letterOn_28 (by decide) (fun h28 => ?_) (fun h28 => ?_)
    · refine v_iconst (v := 2) dX12_letterOn_35 (by decide) ?_
      refine pf_X12_56 dX12_letterOn_36 rfl hMo ?_
      refine V.md (Md.sc hC) (Frm.tr hF (Frm.up (hC.kd_sc))) (fun M1 hC hF => ?_)
      obtain ⟨hMo, hw5, hw6, hw7, hw8, hw9, hw10, hw11, hw13, hw14, hw15, hw16, hw17, hw18, -⟩ := _root_.id hC
      refine v_aload_n dX12_letterOn_39 rfl rfl ?_
      refine gf_X12_56 dX12_letterOn_40 rfl hMo ?_
      refine v_if_ne (tgt := 64) dX12_letterOn_43 (by decide) (fun h43 => ?_) (fun h43 => ?_)
      · refine v_iconst (v := 0) dX12_letterOn_64 (by decide) ?_
        exact v_iret dX12_letterOn_65 rfl (by first | (exfalso; revert h43; decide) | exact ⟨th2, Or.inr (Or.inl ⟨b_t h6, (fun z => b_f h28 ((pos_in (tc_le hg6)).mpr z)), rfl, hC⟩), hF⟩ | exact ⟨th, Or.inr (Or.inr ⟨b_f h6, rfl, hC⟩), hF⟩) (by omega) (by omega)
      · first | (exfalso; revert h43; decide) | skip
        all_goals
          by_cases h43d : hsl v k ∧ (0 ≤ j ∧ j.toNatClampNeg < (wL v (10 + k) (v 7).toNatClampNeg).length)
          · obtain ⟨hk8, hj0, hj1⟩ := h43d
            obtain ⟨i9, i1, i2, i3⟩ := wL_at hj1
            obtain ⟨i4, i5, i6⟩ := nI_below hg6 i1
            have ht9 : th2 j = nI i9 := by
              have z := hT _ hj1
              rw [tc_nI hj0] at z
              exact z.trans i2
            have hj12 : j < 12 := by
              have z := wL_len (σ := v) (p := 10 + k) (v 7).toNatClampNeg
              have z2 := tc_Int hj0
              have z3 := tc_le hg6
              have e12 : (12 : Int32).toNatClampNeg = 12 := rfl
              rw [i_lt, show ((12 : Int32).toInt) = 12 from rfl]
              omega
            clear hT
            refine v_aload_n dX12_letterOn_46 rfl rfl ?_
            refine gf_X12_16 dX12_letterOn_47 rfl hMo ?_
            refine v_aload_n dX12_letterOn_50 rfl rfl ?_
            refine gf_X12_32 dX12_letterOn_51 rfl hMo ?_
            refine v_iload_n dX12_letterOn_54 rfl rfl ?_
            refine v_iald dX12_letterOn_55 hw10 hj0 hj12 ?_
            rw [ht9]
            refine v_iconst (v := 0) dX12_letterOn_56 (by decide) ?_
            refine k_X12_70 dX12_letterOn_57 rfl (r_of htr (nI i9) 0) (Nat.le_of_ble_eq_true rfl) (by omega) (by omega) (Nat.le_of_ble_eq_true rfl) (fun r57 M9 h9 => ?_) (fun _ _ h9 => h9.elim)
            obtain ⟨rfl, e9⟩ := h9
            subst M9
            refine v_iald dX12_letterOn_60 hw5 (by lia) (by lia) ?_
            refine v_goto (tgt := 65) dX12_letterOn_61 (by decide) ?_
            exact v_iret dX12_letterOn_65 rfl ⟨th2, Or.inl ⟨hk8, ⟨hj0, hj1⟩, (by rw [i2]; rfl), hC⟩, hF⟩ (by omega) (by omega)
          · exfalso
            first
              | exact absurd h43 (by decide)
              | exact h43d ⟨b_t h6, (pos_in (tc_le hg6)).mp (b_t h28)⟩
    · refine v_iconst (v := 0) dX12_letterOn_31 (by decide) ?_
      refine v_goto (tgt := 36) dX12_letterOn_32 (by decide) ?_
      refine pf_X12_56 dX12_letterOn_36 rfl hMo ?_
      refine V.md (Md.sc hC) (Frm.tr hF (Frm.up (hC.kd_sc))) (fun M1 hC hF => ?_)
      obtain ⟨hMo, hw5, hw6, hw7, hw8, hw9, hw10, hw11, hw13, hw14, hw15, hw16, hw17, hw18, -⟩ := _root_.id hC
      refine v_aload_n dX12_letterOn_39 rfl rfl ?_
      refine gf_X12_56 dX12_letterOn_40 rfl hMo ?_
      refine v_if_ne (tgt := 64) dX12_letterOn_43 (by decide) (fun h43 => ?_) (fun h43 => ?_)
      · refine v_iconst (v := 0) dX12_letterOn_64 (by decide) ?_
        exact v_iret dX12_letterOn_65 rfl (by first | (exfalso; revert h43; decide) | exact ⟨th2, Or.inr (Or.inl ⟨b_t h6, (fun z => b_f h28 ((pos_in (tc_le hg6)).mpr z)), rfl, hC⟩), hF⟩ | exact ⟨th, Or.inr (Or.inr ⟨b_f h6, rfl, hC⟩), hF⟩) (by omega) (by omega)
      · first | (exfalso; revert h43; decide) | skip
        all_goals
          by_cases h43d : hsl v k ∧ (0 ≤ j ∧ j.toNatClampNeg < (wL v (10 + k) (v 7).toNatClampNeg).length)
          · obtain ⟨hk8, hj0, hj1⟩ := h43d
            obtain ⟨i9, i1, i2, i3⟩ := wL_at hj1
            obtain ⟨i4, i5, i6⟩ := nI_below hg6 i1
            have ht9 : th2 j = nI i9 := by
              have z := hT _ hj1
              rw [tc_nI hj0] at z
              exact z.trans i2
            have hj12 : j < 12 := by
              have z := wL_len (σ := v) (p := 10 + k) (v 7).toNatClampNeg
              have z2 := tc_Int hj0
              have z3 := tc_le hg6
              have e12 : (12 : Int32).toNatClampNeg = 12 := rfl
              rw [i_lt, show ((12 : Int32).toInt) = 12 from rfl]
              omega
            clear hT
            refine v_aload_n dX12_letterOn_46 rfl rfl ?_
            refine gf_X12_16 dX12_letterOn_47 rfl hMo ?_
            refine v_aload_n dX12_letterOn_50 rfl rfl ?_
            refine gf_X12_32 dX12_letterOn_51 rfl hMo ?_
            refine v_iload_n dX12_letterOn_54 rfl rfl ?_
            refine v_iald dX12_letterOn_55 hw10 hj0 hj12 ?_
            rw [ht9]
            refine v_iconst (v := 0) dX12_letterOn_56 (by decide) ?_
            refine k_X12_70 dX12_letterOn_57 rfl (r_of htr (nI i9) 0) (Nat.le_of_ble_eq_true rfl) (by omega) (by omega) (Nat.le_of_ble_eq_true rfl) (fun r57 M9 h9 => ?_) (fun _ _ h9 => h9.elim)
            obtain ⟨rfl, e9⟩ := h9
            subst M9
            refine v_iald dX12_letterOn_60 hw5 (by lia) (by lia) ?_
            refine v_goto (tgt := 65) dX12_letterOn_61 (by decide) ?_
            exact v_iret dX12_letterOn_65 rfl ⟨th2, Or.inl ⟨hk8, ⟨hj0, hj1⟩, (by rw [i2]; rfl), hC⟩, hF⟩ (by omega) (by omega)
          · exfalso
            first
              | exact absurd h43 (by decide)
              | exact h43d ⟨b_t h6, (pos_in (tc_le hg6)).mp (b_t h28)⟩
  · refine v_iconst (v := 1) dX12_letterOn_9 (by decide) ?_
    refine v_goto (tgt := 36) dX12_letterOn_10 (by decide) ?_
    refine pf_X12_56 dX12_letterOn_36 rfl hMo ?_
    refine V.md (Md.sc hC) (Frm.tr hF (Frm.up (hC.kd_sc))) (fun M1 hC hF => ?_)
    obtain ⟨hMo, hw5, hw6, hw7, hw8, hw9, hw10, hw11, hw13, hw14, hw15, hw16, hw17, hw18, -⟩ := _root_.id hC
    refine v_aload_n dX12_letterOn_39 rfl rfl ?_
    refine gf_X12_56 dX12_letterOn_40 rfl hMo ?_
    refine v_if_ne (tgt := 64) dX12_letterOn_43 (by decide) (fun h43 => ?_) (fun h43 => ?_)
    · refine v_iconst (v := 0) dX12_letterOn_64 (by decide) ?_
      exact v_iret dX12_letterOn_65 rfl (by first | (exfalso; revert h43; decide) | exact ⟨th2, Or.inr (Or.inl ⟨b_t h6, (fun z => b_f h28 ((pos_in (tc_le hg6)).mpr z)), rfl, hC⟩), hF⟩ | exact ⟨th, Or.inr (Or.inr ⟨b_f h6, rfl, hC⟩), hF⟩) (by omega) (by omega)
    · first | (exfalso; revert h43; decide) | skip
      all_goals
        by_cases h43d : hsl v k ∧ (0 ≤ j ∧ j.toNatClampNeg < (wL v (10 + k) (v 7).toNatClampNeg).length)
        · obtain ⟨hk8, hj0, hj1⟩ := h43d
          obtain ⟨i9, i1, i2, i3⟩ := wL_at hj1
          obtain ⟨i4, i5, i6⟩ := nI_below hg6 i1
          have ht9 : th2 j = nI i9 := by
            have z := hT _ hj1
            rw [tc_nI hj0] at z
            exact z.trans i2
          have hj12 : j < 12 := by
            have z := wL_len (σ := v) (p := 10 + k) (v 7).toNatClampNeg
            have z2 := tc_Int hj0
            have z3 := tc_le hg6
            have e12 : (12 : Int32).toNatClampNeg = 12 := rfl
            rw [i_lt, show ((12 : Int32).toInt) = 12 from rfl]
            omega
          clear hT
          refine v_aload_n dX12_letterOn_46 rfl rfl ?_
          refine gf_X12_16 dX12_letterOn_47 rfl hMo ?_
          refine v_aload_n dX12_letterOn_50 rfl rfl ?_
          refine gf_X12_32 dX12_letterOn_51 rfl hMo ?_
          refine v_iload_n dX12_letterOn_54 rfl rfl ?_
          refine v_iald dX12_letterOn_55 hw10 hj0 hj12 ?_
          rw [ht9]
          refine v_iconst (v := 0) dX12_letterOn_56 (by decide) ?_
          refine k_X12_70 dX12_letterOn_57 rfl (r_of htr (nI i9) 0) (Nat.le_of_ble_eq_true rfl) (by omega) (by omega) (Nat.le_of_ble_eq_true rfl) (fun r57 M9 h9 => ?_) (fun _ _ h9 => h9.elim)
          obtain ⟨rfl, e9⟩ := h9
          subst M9
          refine v_iald dX12_letterOn_60 hw5 (by lia) (by lia) ?_
          refine v_goto (tgt := 65) dX12_letterOn_61 (by decide) ?_
          exact v_iret dX12_letterOn_65 rfl ⟨th2, Or.inl ⟨hk8, ⟨hj0, hj1⟩, (by rw [i2]; rfl), hC⟩, hF⟩ (by omega) (by omega)
        · exfalso
          first
            | exact absurd h43 (by decide)
            | exact h43d ⟨b_t h6, (pos_in (tc_le hg6)).mp (b_t h28)⟩
theorem dX12_bestLoadFee_0 : decode cX12_bestLoadFee 0 = .ok (.aload_n 0, 1) := by decide +kernel
theorem dX12_bestLoadFee_1 : decode cX12_bestLoadFee 1 = .ok (.aload_n 0, 1) := by decide +kernel
theorem dX12_bestLoadFee_2 : decode cX12_bestLoadFee 2 = .ok (.iload_n 1, 1) := by decide +kernel
theorem dX12_bestLoadFee_3 : decode cX12_bestLoadFee 3 = .ok (.invokevirtual 106, 3) := by decide +kernel
theorem dX12_bestLoadFee_6 : decode cX12_bestLoadFee 6 = .ok (.ifCond .ne 7, 3) := by decide +kernel
theorem dX12_bestLoadFee_9 : decode cX12_bestLoadFee 9 = .ok (.iconst 1, 1) := by decide +kernel
theorem dX12_bestLoadFee_10 : decode cX12_bestLoadFee 10 = .ok (.goto 21, 3) := by decide +kernel
theorem dX12_bestLoadFee_13 : decode cX12_bestLoadFee 13 = .ok (.aload_n 0, 1) := by decide +kernel
theorem dX12_bestLoadFee_14 : decode cX12_bestLoadFee 14 = .ok (.getfield 16, 3) := by decide +kernel
theorem dX12_bestLoadFee_17 : decode cX12_bestLoadFee 17 = .ok (.iload_n 1, 1) := by decide +kernel
theorem dX12_bestLoadFee_18 : decode cX12_bestLoadFee 18 = .ok (.iconst 2, 1) := by decide +kernel
theorem dX12_bestLoadFee_19 : decode cX12_bestLoadFee 19 = .ok (.invokestatic 96, 3) := by decide +kernel
theorem dX12_bestLoadFee_22 : decode cX12_bestLoadFee 22 = .ok (.iaload, 1) := by decide +kernel
theorem dX12_bestLoadFee_23 : decode cX12_bestLoadFee 23 = .ok (.ifCond .le 7, 3) := by decide +kernel
theorem dX12_bestLoadFee_26 : decode cX12_bestLoadFee 26 = .ok (.iconst 2, 1) := by decide +kernel
theorem dX12_bestLoadFee_27 : decode cX12_bestLoadFee 27 = .ok (.goto 4, 3) := by decide +kernel
theorem dX12_bestLoadFee_30 : decode cX12_bestLoadFee 30 = .ok (.iconst 0, 1) := by decide +kernel
theorem dX12_bestLoadFee_31 : decode cX12_bestLoadFee 31 = .ok (.putfield 56, 3) := by decide +kernel
theorem dX12_bestLoadFee_34 : decode cX12_bestLoadFee 34 = .ok (.aload_n 0, 1) := by decide +kernel
theorem dX12_bestLoadFee_35 : decode cX12_bestLoadFee 35 = .ok (.getfield 56, 3) := by decide +kernel
theorem dX12_bestLoadFee_38 : decode cX12_bestLoadFee 38 = .ok (.ifCond .eq 5, 3) := by decide +kernel
theorem dX12_bestLoadFee_41 : decode cX12_bestLoadFee 41 = .ok (.iconst 0, 1) := by decide +kernel
theorem dX12_bestLoadFee_42 : decode cX12_bestLoadFee 42 = .ok (.ireturn, 1) := by decide +kernel
theorem dX12_bestLoadFee_43 : decode cX12_bestLoadFee 43 = .ok (.aload_n 0, 1) := by decide +kernel
theorem dX12_bestLoadFee_44 : decode cX12_bestLoadFee 44 = .ok (.iload_n 1, 1) := by decide +kernel
theorem dX12_bestLoadFee_45 : decode cX12_bestLoadFee 45 = .ok (.invokevirtual 127, 3) := by decide +kernel
theorem dX12_bestLoadFee_48 : decode cX12_bestLoadFee 48 = .ok (.istore_n 2, 1) := by decide +kernel
theorem dX12_bestLoadFee_49 : decode cX12_bestLoadFee 49 = .ok (.aload_n 0, 1) := by decide +kernel
theorem dX12_bestLoadFee_50 : decode cX12_bestLoadFee 50 = .ok (.getfield 124, 3) := by decide +kernel
theorem dX12_bestLoadFee_53 : decode cX12_bestLoadFee 53 = .ok (.ireturn, 1) := by decide +kernel
set_option maxRecDepth 100000 in
set_option maxHeartbeats 4000000 in
theorem r_bestLoadFee {l : Launch} {g : Nat → Nat} {M : LH} (htr : l.stackTraces = false) {kd : Nat → Nat} {r m : Nat} {w : Nat → Nat} {t ch ea fl sv bf tn he en ln wr dg : Int32} {v b4 sa pa fr th bs tx li lf to : Int32 → Int32} (hC : Md kd r M m w t ch ea fl sv bf tn he en ln wr dg v b4 sa pa fr th bs tx li lf to) (hG : Good v) (k : Int32) : K_X12_bestLoadFee l g 3 0 0 [.ref m, .int k] M (RI (fun x M9 => ∃ b' th', ((hsl v k ∧ ¬ 0 < sd v k 2 ∧ x = feU v (bI v (sd v k 1) (v 7).toNatClampNeg (sd v k 0 - loadOn v k) &&& 4095) (v 7) ∧ Md kd r M9 m w 0 ch ea fl sv b' tn he en ln wr dg v b4 sa pa fr th' bs tx li lf to) ∨ (hsl v k ∧ 0 < sd v k 2 ∧ x = 0 ∧ Md kd r M9 m w 2 ch ea fl sv bf tn he en ln wr dg v b4 sa pa fr th bs tx li lf to) ∨ (¬ hsl v k ∧ x = 0 ∧ Md kd r M9 m w 1 ch ea fl sv bf tn he en ln wr dg v b4 sa pa fr th bs tx li lf to)) ∧ Frm kd r M M9) nX) := by
  refine Ko_X12_bestLoadFee htr (fun X => ?_)
  obtain ⟨hMo, hw5, hw6, hw7, hw8, hw9, hw10, hw11, hw13, hw14, hw15, hw16, hw17, hw18, -⟩ := _root_.id hC
  have hF : Frm kd r M M := Frm.rf
  obtain ⟨hg1, hg2, hg3, hg4, hg5, hg6, hg7, hg8, hgL, hgS, -⟩ := _root_.id hG
  clear hgL hgS
  refine v_aload_n dX12_bestLoadFee_0 rfl rfl ?_
  refine v_aload_n dX12_bestLoadFee_1 rfl rfl ?_
  refine v_iload_n dX12_bestLoadFee_2 rfl rfl ?_
  refine k_X12_106 dX12_bestLoadFee_3 rfl (r_isSledge htr hC hG k) hMo (Nat.le_of_ble_eq_true rfl) (by omega) (by omega) (Nat.le_of_ble_eq_true rfl) (fun r3 M9 h9 => ?_) (fun _ _ h9 => h9.elim)
  obtain ⟨rfl, e9⟩ := h9
  subst M9
  refine v_if_ne (tgt := 13) dX12_bestLoadFee_6 (by decide) (fun h6 => ?_) (fun h6 => ?_)
  · refine v_aload_n dX12_bestLoadFee_13 rfl rfl ?_
    refine gf_X12_16 dX12_bestLoadFee_14 rfl hMo ?_
    refine v_iload_n dX12_bestLoadFee_17 rfl rfl ?_
    refine v_iconst (v := 2) dX12_bestLoadFee_18 (by decide) ?_
    refine k_X12_96 dX12_bestLoadFee_19 rfl (r_in htr k 2) (Nat.le_of_ble_eq_true rfl) (by omega) (by omega) (Nat.le_of_ble_eq_true rfl) (fun r19 M9 h9 => ?_) (fun _ _ h9 => h9.elim)
    obtain ⟨rfl, e9⟩ := h9
    subst M9
    refine v_iald dX12_bestLoadFee_22 hw5 (by obtain ⟨z0, z1⟩ := b_t h6; lia) (by obtain ⟨z0, z1⟩ := b_t h6; lia) ?_
    refine v_if_le (tgt := 30) dX12_bestLoadFee_23 (by decide) (fun h23 => ?_) (fun h23 => ?_)
    · refine v_iconst (v := 0) dX12_bestLoadFee_30 (by decide) ?_
      refine pf_X12_56 dX12_bestLoadFee_31 rfl hMo ?_
      refine V.md (Md.sc hC) (Frm.tr hF (Frm.up (hC.kd_sc))) (fun M1 hC hF => ?_)
      obtain ⟨hMo, hw5, hw6, hw7, hw8, hw9, hw10, hw11, hw13, hw14, hw15, hw16, hw17, hw18, -⟩ := _root_.id hC
      refine v_aload_n dX12_bestLoadFee_34 rfl rfl ?_
      refine gf_X12_56 dX12_bestLoadFee_35 rfl hMo ?_
      refine v_if_eq (tgt := 43) dX12_bestLoadFee_38 (by decide) (fun h38 => ?_) (fun h38 => ?_)
      · first | (exfalso; revert h38; decide) | skip
        all_goals
          by_cases hk9 : hsl v k
          · obtain ⟨k0, k1⟩ := _root_.id hk9
            obtain ⟨-, -, -, hk6, -, -, -, -, -, hgS, -⟩ := _root_.id hG
            obtain ⟨u0, u1, u2, u3, u4, u5, u6, u7⟩ := hgS k k0 k1
            have r0 : 0 ≤ (sd v k 0 - loadOn v k) := by clear hgS; lia
            have r30 : (sd v k 0 - loadOn v k) ≤ 30 := by clear hgS; lia
            clear hgS
            refine v_aload_n dX12_bestLoadFee_43 rfl rfl ?_
            refine v_iload_n dX12_bestLoadFee_44 rfl rfl ?_
            refine k_X12_127 dX12_bestLoadFee_45 rfl (r_loads htr hC hG k0 k1) hMo (Nat.le_of_ble_eq_true rfl) (by omega) (by omega) (Nat.le_of_ble_eq_true rfl) (fun r45 M9 h9 => ?_) (fun _ _ h9 => h9.elim)
            obtain ⟨s, b', li', th2, rfl, hSQ, hT, hC, hF9⟩ := h9
            have hF := Frm.tr hF hF9
            obtain ⟨hMo, hw5, hw6, hw7, hw8, hw9, hw10, hw11, hw13, hw14, hw15, hw16, hw17, hw18, -⟩ := _root_.id hC
            have he9 := SQ_fee hG.LB r0 r30 hSQ
            refine v_istore_2 dX12_bestLoadFee_48 ?_
            refine v_aload_n dX12_bestLoadFee_49 rfl rfl ?_
            refine gf_X12_124 dX12_bestLoadFee_50 rfl hMo ?_
            exact v_iret dX12_bestLoadFee_53 rfl (by first | (exfalso; revert h38; decide) | exact ⟨b', th2, Or.inl ⟨hk9, Int32.not_lt.mpr h23, he9, hC⟩, hF⟩) (by omega) (by omega)
          · exfalso
            first
              | exact absurd h38 (by decide)
              | exact absurd (b_t h6) hk9
      · refine v_iconst (v := 0) dX12_bestLoadFee_41 (by decide) ?_
        exact v_iret dX12_bestLoadFee_42 rfl (by first | (exfalso; revert h38; decide) | exact ⟨bf, th, Or.inr (Or.inl ⟨b_t h6, Int32.not_le.mp h23, rfl, hC⟩), hF⟩ | exact ⟨bf, th, Or.inr (Or.inr ⟨b_f h6, rfl, hC⟩), hF⟩) (by omega) (by omega)
    · refine v_iconst (v := 2) dX12_bestLoadFee_26 (by decide) ?_
      refine v_goto (tgt := 31) dX12_bestLoadFee_27 (by decide) ?_
      refine pf_X12_56 dX12_bestLoadFee_31 rfl hMo ?_
      refine V.md (Md.sc hC) (Frm.tr hF (Frm.up (hC.kd_sc))) (fun M1 hC hF => ?_)
      obtain ⟨hMo, hw5, hw6, hw7, hw8, hw9, hw10, hw11, hw13, hw14, hw15, hw16, hw17, hw18, -⟩ := _root_.id hC
      refine v_aload_n dX12_bestLoadFee_34 rfl rfl ?_
      refine gf_X12_56 dX12_bestLoadFee_35 rfl hMo ?_
      refine v_if_eq (tgt := 43) dX12_bestLoadFee_38 (by decide) (fun h38 => ?_) (fun h38 => ?_)
      · first | (exfalso; revert h38; decide) | skip
        all_goals
          by_cases hk9 : hsl v k
          · obtain ⟨k0, k1⟩ := _root_.id hk9
            obtain ⟨-, -, -, hk6, -, -, -, -, -, hgS, -⟩ := _root_.id hG
            obtain ⟨u0, u1, u2, u3, u4, u5, u6, u7⟩ := hgS k k0 k1
            have r0 : 0 ≤ (sd v k 0 - loadOn v k) := by clear hgS; lia
            have r30 : (sd v k 0 - loadOn v k) ≤ 30 := by clear hgS; lia
            clear hgS
            refine v_aload_n dX12_bestLoadFee_43 rfl rfl ?_
            refine v_iload_n dX12_bestLoadFee_44 rfl rfl ?_
            refine k_X12_127 dX12_bestLoadFee_45 rfl (r_loads htr hC hG k0 k1) hMo (Nat.le_of_ble_eq_true rfl) (by omega) (by omega) (Nat.le_of_ble_eq_true rfl) (fun r45 M9 h9 => ?_) (fun _ _ h9 => h9.elim)
            obtain ⟨s, b', li', th2, rfl, hSQ, hT, hC, hF9⟩ := h9
            have hF := Frm.tr hF hF9
            obtain ⟨hMo, hw5, hw6, hw7, hw8, hw9, hw10, hw11, hw13, hw14, hw15, hw16, hw17, hw18, -⟩ := _root_.id hC
            have he9 := SQ_fee hG.LB r0 r30 hSQ
            refine v_istore_2 dX12_bestLoadFee_48 ?_
            refine v_aload_n dX12_bestLoadFee_49 rfl rfl ?_
            refine gf_X12_124 dX12_bestLoadFee_50 rfl hMo ?_
            exact v_iret dX12_bestLoadFee_53 rfl (by first | (exfalso; revert h38; decide) | exact ⟨b', th2, Or.inl ⟨hk9, Int32.not_lt.mpr h23, he9, hC⟩, hF⟩) (by omega) (by omega)
          · exfalso
            first
              | exact absurd h38 (by decide)
              | exact absurd (b_t h6) hk9
      · refine v_iconst (v := 0) dX12_bestLoadFee_41 (by decide) ?_
        exact v_iret dX12_bestLoadFee_42 rfl (by first | (exfalso; revert h38; decide) | exact ⟨bf, th, Or.inr (Or.inl ⟨b_t h6, Int32.not_le.mp h23, rfl, hC⟩), hF⟩ | exact ⟨bf, th, Or.inr (Or.inr ⟨b_f h6, rfl, hC⟩), hF⟩) (by omega) (by omega)
  · refine v_iconst (v := 1) dX12_bestLoadFee_9 (by decide) ?_
    refine v_goto (tgt := 31) dX12_bestLoadFee_10 (by decide) ?_
    refine pf_X12_56 dX12_bestLoadFee_31 rfl hMo ?_
    refine V.md (Md.sc hC) (Frm.tr hF (Frm.up (hC.kd_sc))) (fun M1 hC hF => ?_)
    obtain ⟨hMo, hw5, hw6, hw7, hw8, hw9, hw10, hw11, hw13, hw14, hw15, hw16, hw17, hw18, -⟩ := _root_.id hC
    refine v_aload_n dX12_bestLoadFee_34 rfl rfl ?_
    refine gf_X12_56 dX12_bestLoadFee_35 rfl hMo ?_
    refine v_if_eq (tgt := 43) dX12_bestLoadFee_38 (by decide) (fun h38 => ?_) (fun h38 => ?_)
    · first | (exfalso; revert h38; decide) | skip
      all_goals
        by_cases hk9 : hsl v k
        · obtain ⟨k0, k1⟩ := _root_.id hk9
          obtain ⟨-, -, -, hk6, -, -, -, -, -, hgS, -⟩ := _root_.id hG
          obtain ⟨u0, u1, u2, u3, u4, u5, u6, u7⟩ := hgS k k0 k1
          have r0 : 0 ≤ (sd v k 0 - loadOn v k) := by clear hgS; lia
          have r30 : (sd v k 0 - loadOn v k) ≤ 30 := by clear hgS; lia
          clear hgS
          refine v_aload_n dX12_bestLoadFee_43 rfl rfl ?_
          refine v_iload_n dX12_bestLoadFee_44 rfl rfl ?_
          refine k_X12_127 dX12_bestLoadFee_45 rfl (r_loads htr hC hG k0 k1) hMo (Nat.le_of_ble_eq_true rfl) (by omega) (by omega) (Nat.le_of_ble_eq_true rfl) (fun r45 M9 h9 => ?_) (fun _ _ h9 => h9.elim)
          obtain ⟨s, b', li', th2, rfl, hSQ, hT, hC, hF9⟩ := h9
          have hF := Frm.tr hF hF9
          obtain ⟨hMo, hw5, hw6, hw7, hw8, hw9, hw10, hw11, hw13, hw14, hw15, hw16, hw17, hw18, -⟩ := _root_.id hC
          have he9 := SQ_fee hG.LB r0 r30 hSQ
          refine v_istore_2 dX12_bestLoadFee_48 ?_
          refine v_aload_n dX12_bestLoadFee_49 rfl rfl ?_
          refine gf_X12_124 dX12_bestLoadFee_50 rfl hMo ?_
          exact v_iret dX12_bestLoadFee_53 rfl (by first | (exfalso; revert h38; decide) | exact ⟨b', th2, Or.inl ⟨hk9, Int32.not_lt.mpr h23, he9, hC⟩, hF⟩) (by omega) (by omega)
        · exfalso
          first
            | exact absurd h38 (by decide)
            | exact absurd (b_t h6) hk9
    · refine v_iconst (v := 0) dX12_bestLoadFee_41 (by decide) ?_
      exact v_iret dX12_bestLoadFee_42 rfl (by first | (exfalso; revert h38; decide) | exact ⟨bf, th, Or.inr (Or.inl ⟨b_t h6, Int32.not_le.mp h23, rfl, hC⟩), hF⟩ | exact ⟨bf, th, Or.inr (Or.inr ⟨b_f h6, rfl, hC⟩), hF⟩) (by omega) (by omega)
theorem dX12_bestLoadFeeByTrying_0 : decode cX12_bestLoadFeeByTrying 0 = .ok (.aload_n 0, 1) := by decide +kernel
theorem dX12_bestLoadFeeByTrying_1 : decode cX12_bestLoadFeeByTrying 1 = .ok (.iload_n 1, 1) := by decide +kernel
theorem dX12_bestLoadFeeByTrying_2 : decode cX12_bestLoadFeeByTrying 2 = .ok (.invokevirtual 171, 3) := by decide +kernel
theorem dX12_bestLoadFeeByTrying_5 : decode cX12_bestLoadFeeByTrying 5 = .ok (.ireturn, 1) := by decide +kernel
set_option maxRecDepth 100000 in
set_option maxHeartbeats 4000000 in
theorem r_bestLoadFeeByTrying {l : Launch} {g : Nat → Nat} {M : LH} (htr : l.stackTraces = false) {kd : Nat → Nat} {r m : Nat} {w : Nat → Nat} {t ch ea fl sv bf tn he en ln wr dg : Int32} {v b4 sa pa fr th bs tx li lf to : Int32 → Int32} (hC : Md kd r M m w t ch ea fl sv bf tn he en ln wr dg v b4 sa pa fr th bs tx li lf to) (hG : Good v) (k : Int32) : K_X12_bestLoadFeeByTrying l g 4 0 0 [.ref m, .int k] M (RI (fun x M9 => ∃ b' th', ((hsl v k ∧ ¬ 0 < sd v k 2 ∧ x = feU v (bI v (sd v k 1) (v 7).toNatClampNeg (sd v k 0 - loadOn v k) &&& 4095) (v 7) ∧ Md kd r M9 m w 0 ch ea fl sv b' tn he en ln wr dg v b4 sa pa fr th' bs tx li lf to) ∨ (hsl v k ∧ 0 < sd v k 2 ∧ x = 0 ∧ Md kd r M9 m w 2 ch ea fl sv bf tn he en ln wr dg v b4 sa pa fr th bs tx li lf to) ∨ (¬ hsl v k ∧ x = 0 ∧ Md kd r M9 m w 1 ch ea fl sv bf tn he en ln wr dg v b4 sa pa fr th bs tx li lf to)) ∧ Frm kd r M M9) nX) := by
  refine Ko_X12_bestLoadFeeByTrying htr (fun X => ?_)
  obtain ⟨hMo, hw5, hw6, hw7, hw8, hw9, hw10, hw11, hw13, hw14, hw15, hw16, hw17, hw18, -⟩ := _root_.id hC
  have hF : Frm kd r M M := Frm.rf
  obtain ⟨hg1, hg2, hg3, hg4, hg5, hg6, hg7, hg8, hgL, hgS, -⟩ := _root_.id hG
  clear hgL hgS
  refine v_aload_n dX12_bestLoadFeeByTrying_0 rfl rfl ?_
  refine v_iload_n dX12_bestLoadFeeByTrying_1 rfl rfl ?_
  refine k_X12_171 dX12_bestLoadFeeByTrying_2 rfl (r_bestLoadFee htr hC hG k) hMo (Nat.le_of_ble_eq_true rfl) (by omega) (by omega) (Nat.le_of_ble_eq_true rfl) (fun r2 M9 h9 => ?_) (fun _ _ h9 => h9.elim)
  exact v_iret dX12_bestLoadFeeByTrying_5 rfl h9 (by omega) (by omega)
theorem dX12_letterAt_0 : decode cX12_letterAt 0 = .ok (.aload_n 0, 1) := by decide +kernel
theorem dX12_letterAt_1 : decode cX12_letterAt 1 = .ok (.iload_n 1, 1) := by decide +kernel
theorem dX12_letterAt_2 : decode cX12_letterAt 2 = .ok (.iconst 0, 1) := by decide +kernel
theorem dX12_letterAt_3 : decode cX12_letterAt 3 = .ok (.aload_n 0, 1) := by decide +kernel
theorem dX12_letterAt_4 : decode cX12_letterAt 4 = .ok (.getfield 16, 3) := by decide +kernel
theorem dX12_letterAt_7 : decode cX12_letterAt 7 = .ok (.bipush 7, 2) := by decide +kernel
theorem dX12_letterAt_9 : decode cX12_letterAt 9 = .ok (.iaload, 1) := by decide +kernel
theorem dX12_letterAt_10 : decode cX12_letterAt 10 = .ok (.iconst 1, 1) := by decide +kernel
theorem dX12_letterAt_11 : decode cX12_letterAt 11 = .ok (.isub, 1) := by decide +kernel
theorem dX12_letterAt_12 : decode cX12_letterAt 12 = .ok (.invokestatic 66, 3) := by decide +kernel
theorem dX12_letterAt_15 : decode cX12_letterAt 15 = .ok (.ifCond .eq 7, 3) := by decide +kernel
theorem dX12_letterAt_18 : decode cX12_letterAt 18 = .ok (.iconst 0, 1) := by decide +kernel
theorem dX12_letterAt_19 : decode cX12_letterAt 19 = .ok (.goto 4, 3) := by decide +kernel
theorem dX12_letterAt_22 : decode cX12_letterAt 22 = .ok (.iconst 1, 1) := by decide +kernel
theorem dX12_letterAt_23 : decode cX12_letterAt 23 = .ok (.putfield 56, 3) := by decide +kernel
theorem dX12_letterAt_26 : decode cX12_letterAt 26 = .ok (.aload_n 0, 1) := by decide +kernel
theorem dX12_letterAt_27 : decode cX12_letterAt 27 = .ok (.getfield 56, 3) := by decide +kernel
theorem dX12_letterAt_30 : decode cX12_letterAt 30 = .ok (.ifCond .ne 16, 3) := by decide +kernel
theorem dX12_letterAt_33 : decode cX12_letterAt 33 = .ok (.aload_n 0, 1) := by decide +kernel
theorem dX12_letterAt_34 : decode cX12_letterAt 34 = .ok (.getfield 16, 3) := by decide +kernel
theorem dX12_letterAt_37 : decode cX12_letterAt 37 = .ok (.iload_n 1, 1) := by decide +kernel
theorem dX12_letterAt_38 : decode cX12_letterAt 38 = .ok (.iconst 0, 1) := by decide +kernel
theorem dX12_letterAt_39 : decode cX12_letterAt 39 = .ok (.invokestatic 70, 3) := by decide +kernel
theorem dX12_letterAt_42 : decode cX12_letterAt 42 = .ok (.iaload, 1) := by decide +kernel
theorem dX12_letterAt_43 : decode cX12_letterAt 43 = .ok (.goto 4, 3) := by decide +kernel
theorem dX12_letterAt_46 : decode cX12_letterAt 46 = .ok (.iconst 0, 1) := by decide +kernel
theorem dX12_letterAt_47 : decode cX12_letterAt 47 = .ok (.ireturn, 1) := by decide +kernel
set_option maxRecDepth 100000 in
set_option maxHeartbeats 4000000 in
theorem r_letterAt {l : Launch} {g : Nat → Nat} {M : LH} (htr : l.stackTraces = false) {kd : Nat → Nat} {r m : Nat} {w : Nat → Nat} {t ch ea fl sv bf tn he en ln wr dg : Int32} {v b4 sa pa fr th bs tx li lf to : Int32 → Int32} (hC : Md kd r M m w t ch ea fl sv bf tn he en ln wr dg v b4 sa pa fr th bs tx li lf to) (hG : Good v) (j : Int32) : K_X12_letterAt l g 1 0 0 [.ref m, .int j] M (RI (fun x M9 => (((0 ≤ j ∧ j < v 7) ∧ x = lt v j 0 ∧ Md kd r M9 m w 0 ch ea fl sv bf tn he en ln wr dg v b4 sa pa fr th bs tx li lf to) ∨ (¬ ((0 ≤ j ∧ j < v 7)) ∧ x = 0 ∧ Md kd r M9 m w 1 ch ea fl sv bf tn he en ln wr dg v b4 sa pa fr th bs tx li lf to)) ∧ Frm kd r M M9) nX) := by
  refine Ko_X12_letterAt htr (fun X => ?_)
  obtain ⟨hMo, hw5, hw6, hw7, hw8, hw9, hw10, hw11, hw13, hw14, hw15, hw16, hw17, hw18, -⟩ := _root_.id hC
  have hF : Frm kd r M M := Frm.rf
  obtain ⟨hg1, hg2, hg3, hg4, hg5, hg6, hg7, hg8, hgL, hgS, -⟩ := _root_.id hG
  clear hgL hgS
  refine v_aload_n dX12_letterAt_0 rfl rfl ?_
  refine v_iload_n dX12_letterAt_1 rfl rfl ?_
  refine v_iconst (v := 0) dX12_letterAt_2 (by decide) ?_
  refine v_aload_n dX12_letterAt_3 rfl rfl ?_
  refine gf_X12_16 dX12_letterAt_4 rfl hMo ?_
  refine v_bipush (v := (7)) dX12_letterAt_7 (by decide) ?_
  refine v_iald dX12_letterAt_9 hw5 (by lia) (by lia) ?_
  refine v_iconst (v := 1) dX12_letterAt_10 (by decide) ?_
  refine v_isub dX12_letterAt_11 ?_
  refine k_X12_66 dX12_letterAt_12 rfl (r_isIn htr j 0 (v 7 - 1)) (Nat.le_of_ble_eq_true rfl) (by omega) (by omega) (Nat.le_of_ble_eq_true rfl) (fun r12 M9 h9 => ?_) (fun _ _ h9 => h9.elim)
  obtain ⟨rfl, e9⟩ := h9
  subst M9
  refine v_if_eq (tgt := 22) dX12_letterAt_15 (by decide) (fun h15 => ?_) (fun h15 => ?_)
  · refine v_iconst (v := 1) dX12_letterAt_22 (by decide) ?_
    refine pf_X12_56 dX12_letterAt_23 rfl hMo ?_
    refine V.md (Md.sc hC) (Frm.tr hF (Frm.up (hC.kd_sc))) (fun M1 hC hF => ?_)
    obtain ⟨hMo, hw5, hw6, hw7, hw8, hw9, hw10, hw11, hw13, hw14, hw15, hw16, hw17, hw18, -⟩ := _root_.id hC
    refine v_aload_n dX12_letterAt_26 rfl rfl ?_
    refine gf_X12_56 dX12_letterAt_27 rfl hMo ?_
    refine v_if_ne (tgt := 46) dX12_letterAt_30 (by decide) (fun h30 => ?_) (fun h30 => ?_)
    · refine v_iconst (v := 0) dX12_letterAt_46 (by decide) ?_
      exact v_iret dX12_letterAt_47 rfl (by first | (exfalso; revert h30; decide) | exact ⟨Or.inl ⟨⟨(b_t h15).1, (by obtain ⟨z0, z1⟩ := b_t h15; lia)⟩, rfl, hC⟩, hF⟩ | exact ⟨Or.inr ⟨(fun z => b_f h15 ⟨z.1, (by obtain ⟨z0, z1⟩ := z; lia)⟩), rfl, hC⟩, hF⟩) (by omega) (by omega)
    · refine v_aload_n dX12_letterAt_33 rfl rfl ?_
      refine gf_X12_16 dX12_letterAt_34 rfl hMo ?_
      refine v_iload_n dX12_letterAt_37 rfl rfl ?_
      refine v_iconst (v := 0) dX12_letterAt_38 (by decide) ?_
      refine k_X12_70 dX12_letterAt_39 rfl (r_of htr j 0) (Nat.le_of_ble_eq_true rfl) (by omega) (by omega) (Nat.le_of_ble_eq_true rfl) (fun r39 M9 h9 => ?_) (fun _ _ h9 => h9.elim)
      obtain ⟨rfl, e9⟩ := h9
      subst M9
      refine v_iald dX12_letterAt_42 hw5 (by first | (exfalso; revert h30; decide) | (obtain ⟨z0, z1⟩ := b_t h15; lia)) (by first | (exfalso; revert h30; decide) | (obtain ⟨z0, z1⟩ := b_t h15; lia)) ?_
      refine v_goto (tgt := 47) dX12_letterAt_43 (by decide) ?_
      exact v_iret dX12_letterAt_47 rfl (by first | (exfalso; revert h30; decide) | exact ⟨Or.inl ⟨⟨(b_t h15).1, (by obtain ⟨z0, z1⟩ := b_t h15; lia)⟩, rfl, hC⟩, hF⟩ | exact ⟨Or.inr ⟨(fun z => b_f h15 ⟨z.1, (by obtain ⟨z0, z1⟩ := z; lia)⟩), rfl, hC⟩, hF⟩) (by omega) (by omega)
  · refine v_iconst (v := 0) dX12_letterAt_18 (by decide) ?_
    refine v_goto (tgt := 23) dX12_letterAt_19 (by decide) ?_
    refine pf_X12_56 dX12_letterAt_23 rfl hMo ?_
    refine V.md (Md.sc hC) (Frm.tr hF (Frm.up (hC.kd_sc))) (fun M1 hC hF => ?_)
    obtain ⟨hMo, hw5, hw6, hw7, hw8, hw9, hw10, hw11, hw13, hw14, hw15, hw16, hw17, hw18, -⟩ := _root_.id hC
    refine v_aload_n dX12_letterAt_26 rfl rfl ?_
    refine gf_X12_56 dX12_letterAt_27 rfl hMo ?_
    refine v_if_ne (tgt := 46) dX12_letterAt_30 (by decide) (fun h30 => ?_) (fun h30 => ?_)
    · refine v_iconst (v := 0) dX12_letterAt_46 (by decide) ?_
      exact v_iret dX12_letterAt_47 rfl (by first | (exfalso; revert h30; decide) | exact ⟨Or.inl ⟨⟨(b_t h15).1, (by obtain ⟨z0, z1⟩ := b_t h15; lia)⟩, rfl, hC⟩, hF⟩ | exact ⟨Or.inr ⟨(fun z => b_f h15 ⟨z.1, (by obtain ⟨z0, z1⟩ := z; lia)⟩), rfl, hC⟩, hF⟩) (by omega) (by omega)
    · refine v_aload_n dX12_letterAt_33 rfl rfl ?_
      refine gf_X12_16 dX12_letterAt_34 rfl hMo ?_
      refine v_iload_n dX12_letterAt_37 rfl rfl ?_
      refine v_iconst (v := 0) dX12_letterAt_38 (by decide) ?_
      refine k_X12_70 dX12_letterAt_39 rfl (r_of htr j 0) (Nat.le_of_ble_eq_true rfl) (by omega) (by omega) (Nat.le_of_ble_eq_true rfl) (fun r39 M9 h9 => ?_) (fun _ _ h9 => h9.elim)
      obtain ⟨rfl, e9⟩ := h9
      subst M9
      refine v_iald dX12_letterAt_42 hw5 (by first | (exfalso; revert h30; decide) | (obtain ⟨z0, z1⟩ := b_t h15; lia)) (by first | (exfalso; revert h30; decide) | (obtain ⟨z0, z1⟩ := b_t h15; lia)) ?_
      refine v_goto (tgt := 47) dX12_letterAt_43 (by decide) ?_
      exact v_iret dX12_letterAt_47 rfl (by first | (exfalso; revert h30; decide) | exact ⟨Or.inl ⟨⟨(b_t h15).1, (by obtain ⟨z0, z1⟩ := b_t h15; lia)⟩, rfl, hC⟩, hF⟩ | exact ⟨Or.inr ⟨(fun z => b_f h15 ⟨z.1, (by obtain ⟨z0, z1⟩ := z; lia)⟩), rfl, hC⟩, hF⟩) (by omega) (by omega)
theorem dX12_tellsLetter_0 : decode cX12_tellsLetter 0 = .ok (.aload_n 0, 1) := by decide +kernel
theorem dX12_tellsLetter_1 : decode cX12_tellsLetter 1 = .ok (.aload_n 0, 1) := by decide +kernel
theorem dX12_tellsLetter_2 : decode cX12_tellsLetter 2 = .ok (.iload_n 1, 1) := by decide +kernel
theorem dX12_tellsLetter_3 : decode cX12_tellsLetter 3 = .ok (.invokevirtual 112, 3) := by decide +kernel
theorem dX12_tellsLetter_6 : decode cX12_tellsLetter 6 = .ok (.ifCond .ge 7, 3) := by decide +kernel
theorem dX12_tellsLetter_9 : decode cX12_tellsLetter 9 = .ok (.iconst 1, 1) := by decide +kernel
theorem dX12_tellsLetter_10 : decode cX12_tellsLetter 10 = .ok (.goto 4, 3) := by decide +kernel
theorem dX12_tellsLetter_13 : decode cX12_tellsLetter 13 = .ok (.iconst 0, 1) := by decide +kernel
theorem dX12_tellsLetter_14 : decode cX12_tellsLetter 14 = .ok (.putfield 56, 3) := by decide +kernel
theorem dX12_tellsLetter_17 : decode cX12_tellsLetter 17 = .ok (.aload_n 0, 1) := by decide +kernel
theorem dX12_tellsLetter_18 : decode cX12_tellsLetter 18 = .ok (.getfield 56, 3) := by decide +kernel
theorem dX12_tellsLetter_21 : decode cX12_tellsLetter 21 = .ok (.ifCond .ne 20, 3) := by decide +kernel
theorem dX12_tellsLetter_24 : decode cX12_tellsLetter 24 = .ok (.aload_n 0, 1) := by decide +kernel
theorem dX12_tellsLetter_25 : decode cX12_tellsLetter 25 = .ok (.getfield 16, 3) := by decide +kernel
theorem dX12_tellsLetter_28 : decode cX12_tellsLetter 28 = .ok (.aload_n 0, 1) := by decide +kernel
theorem dX12_tellsLetter_29 : decode cX12_tellsLetter 29 = .ok (.iload_n 1, 1) := by decide +kernel
theorem dX12_tellsLetter_30 : decode cX12_tellsLetter 30 = .ok (.invokevirtual 112, 3) := by decide +kernel
theorem dX12_tellsLetter_33 : decode cX12_tellsLetter 33 = .ok (.iload_n 2, 1) := by decide +kernel
theorem dX12_tellsLetter_34 : decode cX12_tellsLetter 34 = .ok (.invokestatic 70, 3) := by decide +kernel
theorem dX12_tellsLetter_37 : decode cX12_tellsLetter 37 = .ok (.iaload, 1) := by decide +kernel
theorem dX12_tellsLetter_38 : decode cX12_tellsLetter 38 = .ok (.goto 4, 3) := by decide +kernel
theorem dX12_tellsLetter_41 : decode cX12_tellsLetter 41 = .ok (.iconst 0, 1) := by decide +kernel
theorem dX12_tellsLetter_42 : decode cX12_tellsLetter 42 = .ok (.ireturn, 1) := by decide +kernel
set_option maxRecDepth 100000 in
set_option maxHeartbeats 4000000 in
theorem r_tellsLetter {l : Launch} {g : Nat → Nat} {M : LH} (htr : l.stackTraces = false) {kd : Nat → Nat} {r m : Nat} {w : Nat → Nat} {t ch ea fl sv bf tn he en ln wr dg : Int32} {v b4 sa pa fr th bs tx li lf to : Int32 → Int32} (hC : Md kd r M m w t ch ea fl sv bf tn he en ln wr dg v b4 sa pa fr th bs tx li lf to) (hG : Good v) (id : Int32) {j : Int32} (j0 : 0 ≤ j) (j1 : j < 7) : K_X12_tellsLetter l g 2 0 0 [.ref m, .int id, .int j] M (RI (fun x M9 => (((¬ find v id = -1) ∧ x = lt v (find v id) j ∧ Md kd r M9 m w 0 ch ea fl sv bf tn he en ln wr dg v b4 sa pa fr th bs tx li lf to) ∨ (¬ ((¬ find v id = -1)) ∧ x = 0 ∧ Md kd r M9 m w 1 ch ea fl sv bf tn he en ln wr dg v b4 sa pa fr th bs tx li lf to)) ∧ Frm kd r M M9) nX) := by
  refine Ko_X12_tellsLetter htr (fun X => ?_)
  obtain ⟨hMo, hw5, hw6, hw7, hw8, hw9, hw10, hw11, hw13, hw14, hw15, hw16, hw17, hw18, -⟩ := _root_.id hC
  have hF : Frm kd r M M := Frm.rf
  obtain ⟨hg1, hg2, hg3, hg4, hg5, hg6, hg7, hg8, hgL, hgS, -⟩ := _root_.id hG
  clear hgL hgS
  refine v_aload_n dX12_tellsLetter_0 rfl rfl ?_
  refine v_aload_n dX12_tellsLetter_1 rfl rfl ?_
  refine v_iload_n dX12_tellsLetter_2 rfl rfl ?_
  refine k_X12_112 dX12_tellsLetter_3 rfl (r_find htr hC hG id) hMo (Nat.le_of_ble_eq_true rfl) (by omega) (by omega) (Nat.le_of_ble_eq_true rfl) (fun r3 M9 h9 => ?_) (fun _ _ h9 => h9.elim)
  obtain ⟨rfl, e9⟩ := h9
  subst M9
  refine v_if_ge (tgt := 13) dX12_tellsLetter_6 (by decide) (fun h6 => ?_) (fun h6 => ?_)
  · refine v_iconst (v := 0) dX12_tellsLetter_13 (by decide) ?_
    refine pf_X12_56 dX12_tellsLetter_14 rfl hMo ?_
    refine V.md (Md.sc hC) (Frm.tr hF (Frm.up (hC.kd_sc))) (fun M1 hC hF => ?_)
    obtain ⟨hMo, hw5, hw6, hw7, hw8, hw9, hw10, hw11, hw13, hw14, hw15, hw16, hw17, hw18, -⟩ := _root_.id hC
    refine v_aload_n dX12_tellsLetter_17 rfl rfl ?_
    refine gf_X12_56 dX12_tellsLetter_18 rfl hMo ?_
    refine v_if_ne (tgt := 41) dX12_tellsLetter_21 (by decide) (fun h21 => ?_) (fun h21 => ?_)
    · refine v_iconst (v := 0) dX12_tellsLetter_41 (by decide) ?_
      exact v_iret dX12_tellsLetter_42 rfl (by first | (exfalso; revert h21; decide) | exact ⟨Or.inl ⟨(fun z => by rw [z] at h6; revert h6; decide), rfl, hC⟩, hF⟩ | exact ⟨Or.inr ⟨(fun hf => by obtain ⟨p0, -⟩ := find_in hg5 hf; exact h6 p0), rfl, hC⟩, hF⟩) (by omega) (by omega)
    · refine v_aload_n dX12_tellsLetter_24 rfl rfl ?_
      refine gf_X12_16 dX12_tellsLetter_25 rfl hMo ?_
      refine v_aload_n dX12_tellsLetter_28 rfl rfl ?_
      refine v_iload_n dX12_tellsLetter_29 rfl rfl ?_
      refine k_X12_112 dX12_tellsLetter_30 rfl (r_find htr hC hG id) hMo (Nat.le_of_ble_eq_true rfl) (by omega) (by omega) (Nat.le_of_ble_eq_true rfl) (fun r30 M9 h9 => ?_) (fun _ _ h9 => h9.elim)
      obtain ⟨rfl, e9⟩ := h9
      subst M9
      refine v_iload_n dX12_tellsLetter_33 rfl rfl ?_
      refine k_X12_70 dX12_tellsLetter_34 rfl (r_of htr (find v id) j) (Nat.le_of_ble_eq_true rfl) (by omega) (by omega) (Nat.le_of_ble_eq_true rfl) (fun r34 M9 h9 => ?_) (fun _ _ h9 => h9.elim)
      obtain ⟨rfl, e9⟩ := h9
      subst M9
      refine v_iald dX12_tellsLetter_37 hw5 (by first | (exfalso; revert h21; decide) | (obtain ⟨z0, z1, -⟩ := find_in hg5 (fun z => by rw [z] at h6; revert h6; decide); lia)) (by first | (exfalso; revert h21; decide) | (obtain ⟨z0, z1, -⟩ := find_in hg5 (fun z => by rw [z] at h6; revert h6; decide); lia)) ?_
      refine v_goto (tgt := 42) dX12_tellsLetter_38 (by decide) ?_
      exact v_iret dX12_tellsLetter_42 rfl (by first | (exfalso; revert h21; decide) | exact ⟨Or.inl ⟨(fun z => by rw [z] at h6; revert h6; decide), rfl, hC⟩, hF⟩ | exact ⟨Or.inr ⟨(fun hf => by obtain ⟨p0, -⟩ := find_in hg5 hf; exact h6 p0), rfl, hC⟩, hF⟩) (by omega) (by omega)
  · refine v_iconst (v := 1) dX12_tellsLetter_9 (by decide) ?_
    refine v_goto (tgt := 14) dX12_tellsLetter_10 (by decide) ?_
    refine pf_X12_56 dX12_tellsLetter_14 rfl hMo ?_
    refine V.md (Md.sc hC) (Frm.tr hF (Frm.up (hC.kd_sc))) (fun M1 hC hF => ?_)
    obtain ⟨hMo, hw5, hw6, hw7, hw8, hw9, hw10, hw11, hw13, hw14, hw15, hw16, hw17, hw18, -⟩ := _root_.id hC
    refine v_aload_n dX12_tellsLetter_17 rfl rfl ?_
    refine gf_X12_56 dX12_tellsLetter_18 rfl hMo ?_
    refine v_if_ne (tgt := 41) dX12_tellsLetter_21 (by decide) (fun h21 => ?_) (fun h21 => ?_)
    · refine v_iconst (v := 0) dX12_tellsLetter_41 (by decide) ?_
      exact v_iret dX12_tellsLetter_42 rfl (by first | (exfalso; revert h21; decide) | exact ⟨Or.inl ⟨(fun z => by rw [z] at h6; revert h6; decide), rfl, hC⟩, hF⟩ | exact ⟨Or.inr ⟨(fun hf => by obtain ⟨p0, -⟩ := find_in hg5 hf; exact h6 p0), rfl, hC⟩, hF⟩) (by omega) (by omega)
    · refine v_aload_n dX12_tellsLetter_24 rfl rfl ?_
      refine gf_X12_16 dX12_tellsLetter_25 rfl hMo ?_
      refine v_aload_n dX12_tellsLetter_28 rfl rfl ?_
      refine v_iload_n dX12_tellsLetter_29 rfl rfl ?_
      refine k_X12_112 dX12_tellsLetter_30 rfl (r_find htr hC hG id) hMo (Nat.le_of_ble_eq_true rfl) (by omega) (by omega) (Nat.le_of_ble_eq_true rfl) (fun r30 M9 h9 => ?_) (fun _ _ h9 => h9.elim)
      obtain ⟨rfl, e9⟩ := h9
      subst M9
      refine v_iload_n dX12_tellsLetter_33 rfl rfl ?_
      refine k_X12_70 dX12_tellsLetter_34 rfl (r_of htr (find v id) j) (Nat.le_of_ble_eq_true rfl) (by omega) (by omega) (Nat.le_of_ble_eq_true rfl) (fun r34 M9 h9 => ?_) (fun _ _ h9 => h9.elim)
      obtain ⟨rfl, e9⟩ := h9
      subst M9
      refine v_iald dX12_tellsLetter_37 hw5 (by first | (exfalso; revert h21; decide) | (obtain ⟨z0, z1, -⟩ := find_in hg5 (fun z => by rw [z] at h6; revert h6; decide); lia)) (by first | (exfalso; revert h21; decide) | (obtain ⟨z0, z1, -⟩ := find_in hg5 (fun z => by rw [z] at h6; revert h6; decide); lia)) ?_
      refine v_goto (tgt := 42) dX12_tellsLetter_38 (by decide) ?_
      exact v_iret dX12_tellsLetter_42 rfl (by first | (exfalso; revert h21; decide) | exact ⟨Or.inl ⟨(fun z => by rw [z] at h6; revert h6; decide), rfl, hC⟩, hF⟩ | exact ⟨Or.inr ⟨(fun hf => by obtain ⟨p0, -⟩ := find_in hg5 hf; exact h6 p0), rfl, hC⟩, hF⟩) (by omega) (by omega)
theorem dX12_destinationOf_0 : decode cX12_destinationOf 0 = .ok (.aload_n 0, 1) := by decide +kernel
theorem dX12_destinationOf_1 : decode cX12_destinationOf 1 = .ok (.iload_n 1, 1) := by decide +kernel
theorem dX12_destinationOf_2 : decode cX12_destinationOf 2 = .ok (.iconst 1, 1) := by decide +kernel
theorem dX12_destinationOf_3 : decode cX12_destinationOf 3 = .ok (.invokevirtual 180, 3) := by decide +kernel
theorem dX12_destinationOf_6 : decode cX12_destinationOf 6 = .ok (.ireturn, 1) := by decide +kernel
set_option maxRecDepth 100000 in
set_option maxHeartbeats 4000000 in
theorem r_destinationOf {l : Launch} {g : Nat → Nat} {M : LH} (htr : l.stackTraces = false) {kd : Nat → Nat} {r m : Nat} {w : Nat → Nat} {t ch ea fl sv bf tn he en ln wr dg : Int32} {v b4 sa pa fr th bs tx li lf to : Int32 → Int32} (hC : Md kd r M m w t ch ea fl sv bf tn he en ln wr dg v b4 sa pa fr th bs tx li lf to) (hG : Good v) (id : Int32) : K_X12_destinationOf l g 3 0 0 [.ref m, .int id] M (RI (fun x M9 => (((¬ find v id = -1) ∧ x = lt v (find v id) 1 ∧ Md kd r M9 m w 0 ch ea fl sv bf tn he en ln wr dg v b4 sa pa fr th bs tx li lf to) ∨ (¬ ((¬ find v id = -1)) ∧ x = 0 ∧ Md kd r M9 m w 1 ch ea fl sv bf tn he en ln wr dg v b4 sa pa fr th bs tx li lf to)) ∧ Frm kd r M M9) nX) := by
  refine Ko_X12_destinationOf htr (fun X => ?_)
  obtain ⟨hMo, hw5, hw6, hw7, hw8, hw9, hw10, hw11, hw13, hw14, hw15, hw16, hw17, hw18, -⟩ := _root_.id hC
  have hF : Frm kd r M M := Frm.rf
  obtain ⟨hg1, hg2, hg3, hg4, hg5, hg6, hg7, hg8, hgL, hgS, -⟩ := _root_.id hG
  clear hgL hgS
  refine v_aload_n dX12_destinationOf_0 rfl rfl ?_
  refine v_iload_n dX12_destinationOf_1 rfl rfl ?_
  refine v_iconst (v := 1) dX12_destinationOf_2 (by decide) ?_
  refine k_X12_180 dX12_destinationOf_3 rfl (r_tellsLetter htr hC hG id (by decide) (by decide)) hMo (Nat.le_of_ble_eq_true rfl) (by omega) (by omega) (Nat.le_of_ble_eq_true rfl) (fun r3 M9 h9 => ?_) (fun _ _ h9 => h9.elim)
  exact v_iret dX12_destinationOf_6 rfl h9 (by omega) (by omega)
theorem dX12_weightOf_0 : decode cX12_weightOf 0 = .ok (.aload_n 0, 1) := by decide +kernel
theorem dX12_weightOf_1 : decode cX12_weightOf 1 = .ok (.iload_n 1, 1) := by decide +kernel
theorem dX12_weightOf_2 : decode cX12_weightOf 2 = .ok (.iconst 2, 1) := by decide +kernel
theorem dX12_weightOf_3 : decode cX12_weightOf 3 = .ok (.invokevirtual 180, 3) := by decide +kernel
theorem dX12_weightOf_6 : decode cX12_weightOf 6 = .ok (.ireturn, 1) := by decide +kernel
set_option maxRecDepth 100000 in
set_option maxHeartbeats 4000000 in
theorem r_weightOf {l : Launch} {g : Nat → Nat} {M : LH} (htr : l.stackTraces = false) {kd : Nat → Nat} {r m : Nat} {w : Nat → Nat} {t ch ea fl sv bf tn he en ln wr dg : Int32} {v b4 sa pa fr th bs tx li lf to : Int32 → Int32} (hC : Md kd r M m w t ch ea fl sv bf tn he en ln wr dg v b4 sa pa fr th bs tx li lf to) (hG : Good v) (id : Int32) : K_X12_weightOf l g 3 0 0 [.ref m, .int id] M (RI (fun x M9 => (((¬ find v id = -1) ∧ x = lt v (find v id) 2 ∧ Md kd r M9 m w 0 ch ea fl sv bf tn he en ln wr dg v b4 sa pa fr th bs tx li lf to) ∨ (¬ ((¬ find v id = -1)) ∧ x = 0 ∧ Md kd r M9 m w 1 ch ea fl sv bf tn he en ln wr dg v b4 sa pa fr th bs tx li lf to)) ∧ Frm kd r M M9) nX) := by
  refine Ko_X12_weightOf htr (fun X => ?_)
  obtain ⟨hMo, hw5, hw6, hw7, hw8, hw9, hw10, hw11, hw13, hw14, hw15, hw16, hw17, hw18, -⟩ := _root_.id hC
  have hF : Frm kd r M M := Frm.rf
  obtain ⟨hg1, hg2, hg3, hg4, hg5, hg6, hg7, hg8, hgL, hgS, -⟩ := _root_.id hG
  clear hgL hgS
  refine v_aload_n dX12_weightOf_0 rfl rfl ?_
  refine v_iload_n dX12_weightOf_1 rfl rfl ?_
  refine v_iconst (v := 2) dX12_weightOf_2 (by decide) ?_
  refine k_X12_180 dX12_weightOf_3 rfl (r_tellsLetter htr hC hG id (by decide) (by decide)) hMo (Nat.le_of_ble_eq_true rfl) (by omega) (by omega) (Nat.le_of_ble_eq_true rfl) (fun r3 M9 h9 => ?_) (fun _ _ h9 => h9.elim)
  exact v_iret dX12_weightOf_6 rfl h9 (by omega) (by omega)
theorem dX12_feeOf_0 : decode cX12_feeOf 0 = .ok (.aload_n 0, 1) := by decide +kernel
theorem dX12_feeOf_1 : decode cX12_feeOf 1 = .ok (.iload_n 1, 1) := by decide +kernel
theorem dX12_feeOf_2 : decode cX12_feeOf 2 = .ok (.iconst 3, 1) := by decide +kernel
theorem dX12_feeOf_3 : decode cX12_feeOf 3 = .ok (.invokevirtual 180, 3) := by decide +kernel
theorem dX12_feeOf_6 : decode cX12_feeOf 6 = .ok (.ireturn, 1) := by decide +kernel
set_option maxRecDepth 100000 in
set_option maxHeartbeats 4000000 in
theorem r_feeOf {l : Launch} {g : Nat → Nat} {M : LH} (htr : l.stackTraces = false) {kd : Nat → Nat} {r m : Nat} {w : Nat → Nat} {t ch ea fl sv bf tn he en ln wr dg : Int32} {v b4 sa pa fr th bs tx li lf to : Int32 → Int32} (hC : Md kd r M m w t ch ea fl sv bf tn he en ln wr dg v b4 sa pa fr th bs tx li lf to) (hG : Good v) (id : Int32) : K_X12_feeOf l g 3 0 0 [.ref m, .int id] M (RI (fun x M9 => (((¬ find v id = -1) ∧ x = lt v (find v id) 3 ∧ Md kd r M9 m w 0 ch ea fl sv bf tn he en ln wr dg v b4 sa pa fr th bs tx li lf to) ∨ (¬ ((¬ find v id = -1)) ∧ x = 0 ∧ Md kd r M9 m w 1 ch ea fl sv bf tn he en ln wr dg v b4 sa pa fr th bs tx li lf to)) ∧ Frm kd r M M9) nX) := by
  refine Ko_X12_feeOf htr (fun X => ?_)
  obtain ⟨hMo, hw5, hw6, hw7, hw8, hw9, hw10, hw11, hw13, hw14, hw15, hw16, hw17, hw18, -⟩ := _root_.id hC
  have hF : Frm kd r M M := Frm.rf
  obtain ⟨hg1, hg2, hg3, hg4, hg5, hg6, hg7, hg8, hgL, hgS, -⟩ := _root_.id hG
  clear hgL hgS
  refine v_aload_n dX12_feeOf_0 rfl rfl ?_
  refine v_iload_n dX12_feeOf_1 rfl rfl ?_
  refine v_iconst (v := 3) dX12_feeOf_2 (by decide) ?_
  refine k_X12_180 dX12_feeOf_3 rfl (r_tellsLetter htr hC hG id (by decide) (by decide)) hMo (Nat.le_of_ble_eq_true rfl) (by omega) (by omega) (Nat.le_of_ble_eq_true rfl) (fun r3 M9 h9 => ?_) (fun _ _ h9 => h9.elim)
  exact v_iret dX12_feeOf_6 rfl h9 (by omega) (by omega)
theorem dX12_iceOf_0 : decode cX12_iceOf 0 = .ok (.aload_n 0, 1) := by decide +kernel
theorem dX12_iceOf_1 : decode cX12_iceOf 1 = .ok (.iload_n 1, 1) := by decide +kernel
theorem dX12_iceOf_2 : decode cX12_iceOf 2 = .ok (.iconst 5, 1) := by decide +kernel
theorem dX12_iceOf_3 : decode cX12_iceOf 3 = .ok (.invokevirtual 180, 3) := by decide +kernel
theorem dX12_iceOf_6 : decode cX12_iceOf 6 = .ok (.ireturn, 1) := by decide +kernel
set_option maxRecDepth 100000 in
set_option maxHeartbeats 4000000 in
theorem r_iceOf {l : Launch} {g : Nat → Nat} {M : LH} (htr : l.stackTraces = false) {kd : Nat → Nat} {r m : Nat} {w : Nat → Nat} {t ch ea fl sv bf tn he en ln wr dg : Int32} {v b4 sa pa fr th bs tx li lf to : Int32 → Int32} (hC : Md kd r M m w t ch ea fl sv bf tn he en ln wr dg v b4 sa pa fr th bs tx li lf to) (hG : Good v) (id : Int32) : K_X12_iceOf l g 3 0 0 [.ref m, .int id] M (RI (fun x M9 => (((¬ find v id = -1) ∧ x = lt v (find v id) 5 ∧ Md kd r M9 m w 0 ch ea fl sv bf tn he en ln wr dg v b4 sa pa fr th bs tx li lf to) ∨ (¬ ((¬ find v id = -1)) ∧ x = 0 ∧ Md kd r M9 m w 1 ch ea fl sv bf tn he en ln wr dg v b4 sa pa fr th bs tx li lf to)) ∧ Frm kd r M M9) nX) := by
  refine Ko_X12_iceOf htr (fun X => ?_)
  obtain ⟨hMo, hw5, hw6, hw7, hw8, hw9, hw10, hw11, hw13, hw14, hw15, hw16, hw17, hw18, -⟩ := _root_.id hC
  have hF : Frm kd r M M := Frm.rf
  obtain ⟨hg1, hg2, hg3, hg4, hg5, hg6, hg7, hg8, hgL, hgS, -⟩ := _root_.id hG
  clear hgL hgS
  refine v_aload_n dX12_iceOf_0 rfl rfl ?_
  refine v_iload_n dX12_iceOf_1 rfl rfl ?_
  refine v_iconst (v := 5) dX12_iceOf_2 (by decide) ?_
  refine k_X12_180 dX12_iceOf_3 rfl (r_tellsLetter htr hC hG id (by decide) (by decide)) hMo (Nat.le_of_ble_eq_true rfl) (by omega) (by omega) (Nat.le_of_ble_eq_true rfl) (fun r3 M9 h9 => ?_) (fun _ _ h9 => h9.elim)
  exact v_iret dX12_iceOf_6 rfl h9 (by omega) (by omega)
