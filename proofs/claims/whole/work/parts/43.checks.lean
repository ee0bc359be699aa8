/-! ===== the desk's checks ===== -/
theorem div97 {x : Int32} (h : 0 ≤ x.toInt) : (x / 97).toInt = x.toInt / 97 := by
  rw [Int32.toInt_div_of_ne_right _ _ (by decide), show (97 : Int32).toInt = 97 by rfl, Int.tdiv_eq_ediv_of_nonneg h]
theorem code_int {i d : Int32} (i0 : 0 ≤ i.toInt) (i1 : i.toInt < 2000000) (d0 : 0 ≤ d.toInt) (d1 : d.toInt < 10) : (codeN i d).toInt = 98 + 100 * (10 * i.toInt + d.toInt) / 97 * 97 := by
  have e10 : (10 : Int32).toInt = 10 := rfl
  have e100 : (100 : Int32).toInt = 100 := rfl
  have e98 : (98 : Int32).toInt = 98 := rfl
  have e97 : (97 : Int32).toInt = 97 := rfl
  have a1 : (10 * i).toInt = 10 * i.toInt := by rw [i_mul] <;> rw [e10] <;> omega
  have a2 : (10 * i + d).toInt = 10 * i.toInt + d.toInt := by rw [i_add] <;> rw [a1] <;> omega
  have a3 : (100 * (10 * i + d)).toInt = 100 * (10 * i.toInt + d.toInt) := by rw [i_mul] <;> rw [e100, a2] <;> omega
  unfold codeN
  generalize 100 * (10 * i + d) = N at *
  have hz : 0 ≤ 100 * (10 * i.toInt + d.toInt) ∧ 100 * (10 * i.toInt + d.toInt) < 2100000000 := by omega
  generalize 100 * (10 * i.toInt + d.toInt) = Z at *
  have b1 : (N / 97).toInt = Z / 97 := by rw [div97 (by omega), a3]
  have b2 : (N / 97 * 97).toInt = Z / 97 * 97 := by rw [i_mul] <;> rw [b1, e97] <;> omega
  have b3 : (N - N / 97 * 97).toInt = Z - Z / 97 * 97 := by rw [i_sub] <;> rw [a3, b2] <;> omega
  have b4 : (N + 98).toInt = Z + 98 := by rw [i_add] <;> rw [a3, e98] <;> omega
  rw [i_sub] <;> rw [b3, b4] <;> omega
theorem code_v {i d : Int32} (i0 : 0 ≤ i.toInt) (i1 : i.toInt < 2000000) (d0 : 0 ≤ d.toInt) (d1 : d.toInt < 10) : validC (codeN i d) := by
  have e := code_int i0 i1 d0 d1
  have e97 : (97 : Int32).toInt = 97 := rfl
  generalize codeN i d = c at *
  have hz : 0 ≤ 100 * (10 * i.toInt + d.toInt) ∧ 100 * (10 * i.toInt + d.toInt) < 2100000000 := by omega
  generalize 100 * (10 * i.toInt + d.toInt) = Z at *
  have b1 : (c / 97).toInt = Z / 97 + 1 := by
    rw [div97 (by omega), e]
    omega
  have b2 : (c / 97 * 97).toInt = (Z / 97 + 1) * 97 := by rw [i_mul] <;> rw [b1, e97] <;> omega
  refine ⟨by rw [i_le, i_0]; omega, ?_⟩
  unfold rem
  rw [i_eq, i_1, i_sub] <;> rw [b2, e] <;> omega
theorem dX3_plansAgree_0 : decode cX3_plansAgree 0 = .ok (.aload_n 0, 1) := by decide +kernel
theorem dX3_plansAgree_1 : decode cX3_plansAgree 1 = .ok (.iload_n 1, 1) := by decide +kernel
theorem dX3_plansAgree_2 : decode cX3_plansAgree 2 = .ok (.invokevirtual 233, 3) := by decide +kernel
theorem dX3_plansAgree_5 : decode cX3_plansAgree 5 = .ok (.aload_n 0, 1) := by decide +kernel
theorem dX3_plansAgree_6 : decode cX3_plansAgree 6 = .ok (.iload_n 1, 1) := by decide +kernel
theorem dX3_plansAgree_7 : decode cX3_plansAgree 7 = .ok (.invokevirtual 236, 3) := by decide +kernel
theorem dX3_plansAgree_10 : decode cX3_plansAgree 10 = .ok (.if_icmp .eq 5, 3) := by decide +kernel
theorem dX3_plansAgree_13 : decode cX3_plansAgree 13 = .ok (.iconst 0, 1) := by decide +kernel
theorem dX3_plansAgree_14 : decode cX3_plansAgree 14 = .ok (.ireturn, 1) := by decide +kernel
theorem dX3_plansAgree_15 : decode cX3_plansAgree 15 = .ok (.aload_n 0, 1) := by decide +kernel
theorem dX3_plansAgree_16 : decode cX3_plansAgree 16 = .ok (.iload_n 1, 1) := by decide +kernel
theorem dX3_plansAgree_17 : decode cX3_plansAgree 17 = .ok (.invokevirtual 204, 3) := by decide +kernel
theorem dX3_plansAgree_20 : decode cX3_plansAgree 20 = .ok (.ifCond .eq 16, 3) := by decide +kernel
theorem dX3_plansAgree_23 : decode cX3_plansAgree 23 = .ok (.aload_n 0, 1) := by decide +kernel
theorem dX3_plansAgree_24 : decode cX3_plansAgree 24 = .ok (.iload_n 1, 1) := by decide +kernel
theorem dX3_plansAgree_25 : decode cX3_plansAgree 25 = .ok (.invokevirtual 239, 3) := by decide +kernel
theorem dX3_plansAgree_28 : decode cX3_plansAgree 28 = .ok (.aload_n 0, 1) := by decide +kernel
theorem dX3_plansAgree_29 : decode cX3_plansAgree 29 = .ok (.iload_n 1, 1) := by decide +kernel
theorem dX3_plansAgree_30 : decode cX3_plansAgree 30 = .ok (.invokevirtual 242, 3) := by decide +kernel
theorem dX3_plansAgree_33 : decode cX3_plansAgree 33 = .ok (.if_icmp .ne 7, 3) := by decide +kernel
theorem dX3_plansAgree_36 : decode cX3_plansAgree 36 = .ok (.iconst 1, 1) := by decide +kernel
theorem dX3_plansAgree_37 : decode cX3_plansAgree 37 = .ok (.goto 4, 3) := by decide +kernel
theorem dX3_plansAgree_40 : decode cX3_plansAgree 40 = .ok (.iconst 0, 1) := by decide +kernel
theorem dX3_plansAgree_41 : decode cX3_plansAgree 41 = .ok (.ireturn, 1) := by decide +kernel
set_option maxRecDepth 100000 in
set_option maxHeartbeats 4000000 in
theorem c_plansAgree {l : Launch} {g : Nat → Nat} {M : LH} (htr : l.stackTraces = false) {kd : Nat → Nat} {r a : Nat} {ad : Nat → Nat} {sl le : Int32 → Nat} {fg tp : Int32} {F : Nat → Int32 → Int32} {σ : Int32 → Int32} (hC : StR kd r M a ad sl le fg tp F σ) {q : Nat → Nat} {D : Nat} (hK : Dk kd D r M a q) (hsy : Sy σ) {k : Int32} (k0 : 0 ≤ k) (k1 : k < σ 6) : K_X3_plansAgree l g 17 0 0 [.ref (q 0), .int k] M (RI (fun v M9 => v = 1 ∧ Dk kd D r M9 a q ∧ Frm kd D M M9) nX) := by
  refine Ko_X3_plansAgree htr (fun X => ?_)
  have hC0 := hC
  have hK0 := hK
  obtain ⟨hSt, hRo, hSR, hLR, hSl, hLe, hkd, -, ⟨-, hRd, hSd, hLt⟩, hG⟩ := hC
  obtain ⟨hDk, hDs, ⟨f1, hB1⟩, ⟨f2, hB2⟩, hBl, ⟨f3, hB3⟩, hRt, ⟨f4, hB4⟩, hkD, hn34, hDr⟩ := hK
  have hG0 := hG
  obtain ⟨hg1, hg2, hg3, hg4, hg5, hg6, hg7, hg8, hgL, hgS, -⟩ := hG
  obtain ⟨u0, u1, u2, u3, u4, u5, u6, u7⟩ := hgS k k0 k1
  have hfe := fees_eq (st := sd σ k 1) hG0 (room := sd σ k 0 - loadOn σ k) (by clear hgL hgS hRd hSd hLt hLe hSl; lia) (by clear hgL hgS hRd hSd hLt hLe hSl; lia)
  clear hgL hgS hRd hSd hLt hLe hSl
  refine v_aload_n dX3_plansAgree_0 rfl rfl ?_
  refine v_iload_n dX3_plansAgree_1 rfl rfl ?_
  refine k_X3_233 dX3_plansAgree_2 rfl (c_bestFees htr hC0 hK0 k0 k1) hDk (Nat.le_of_ble_eq_true rfl) (by omega) (by omega) (Nat.le_of_ble_eq_true rfl) (fun r2 M9 h9 => ?_) (fun _ _ h9 => h9.elim)
  obtain ⟨hv1, f', e9⟩ := h9
  subst hv1
  have hF1 : Frm kd D M M9 := by rw [e9]; exact Frm.up hkD.2.2.2.2.2.1
  have hC1 : StR kd r M9 a ad sl le fg tp F σ := StR.kept hC0 (fun z => hDr z.symm) hF1
  have hK1 : Dk kd D r M9 a q := by rw [e9]; exact Dk.row hK0 hB3 f'
  have hDk1 := hK1.1
  clear e9
  refine v_aload_n dX3_plansAgree_5 rfl rfl ?_
  refine v_iload_n dX3_plansAgree_6 rfl rfl ?_
  refine k_X3_236 dX3_plansAgree_7 rfl (c_bestFeesByTrying htr hC1 hK1 k0 k1) hDk1 (Nat.le_of_ble_eq_true rfl) (by omega) (by omega) (Nat.le_of_ble_eq_true rfl) (fun r7 M9 h9 => ?_) (fun _ _ h9 => h9.elim)
  obtain ⟨rfl, e9⟩ := h9
  subst M9
  refine v_icmp_eq (tgt := 15) dX3_plansAgree_10 (by decide) (fun h10 => ?_) (fun h10 => ?_)
  · refine v_aload_n dX3_plansAgree_15 rfl rfl ?_
    refine v_iload_n dX3_plansAgree_16 rfl rfl ?_
    skip
    refine k_X3_204 dX3_plansAgree_17 rfl (c_tripExists htr hC1 hK1 k0 k1) hDk1 (Nat.le_of_ble_eq_true rfl) (by omega) (by omega) (Nat.le_of_ble_eq_true rfl) (fun r17 M9 h9 => ?_) (fun _ _ h9 => h9.elim)
    have hK1c := hK1
    obtain ⟨hv3, f2, e9⟩ := h9
    obtain ⟨-, -, ⟨f5, hB5⟩, -⟩ := hK1
    have hF2 : Frm kd D M M9 := by rw [e9]; exact Frm.tr hF1 (Frm.up hkD.2.2.1)
    have hC2 : StR kd r M9 a ad sl le fg tp F σ := StR.kept hC0 (fun z => hDr z.symm) hF2
    have hK2 : Dk kd D r M9 a q := by rw [e9]; exact Dk.row hK1c hB5 f2
    have hDk2 := hK2.1
    clear e9
    refine v_if_eq (tgt := 36) dX3_plansAgree_20 (by decide) (fun h20 => ?_) (fun h20 => ?_)
    · refine v_iconst (v := 1) dX3_plansAgree_36 (by decide) ?_
      refine v_goto (tgt := 41) dX3_plansAgree_37 (by decide) ?_
      exact v_zret dX3_plansAgree_41 rfl (by first | rfl | assumption) ⟨rfl, by first | assumption | exact hK4 | exact hK2, by first | exact hF4 | exact hF2⟩ (by omega) (by omega)
    · refine v_aload_n dX3_plansAgree_23 rfl rfl ?_
      refine v_iload_n dX3_plansAgree_24 rfl rfl ?_
      refine k_X3_239 dX3_plansAgree_25 rfl (c_tripBySets htr hC2 hK2 k0 k1) hDk2 (Nat.le_of_ble_eq_true rfl) (by omega) (by omega) (Nat.le_of_ble_eq_true rfl) (fun r25 M9 h9 => ?_) (fun _ _ h9 => h9.elim)
      obtain ⟨f6, hn6, rfl, hK3, hF3⟩ := h9
      have hF3 := Frm.tr hF2 hF3
      have hC3 : StR kd r M9 a ad sl le fg tp F σ := StR.kept hC0 (fun z => hDr z.symm) hF3
      have hDk3 := hK3.1
      refine v_aload_n dX3_plansAgree_28 rfl rfl ?_
      refine v_iload_n dX3_plansAgree_29 rfl rfl ?_
      refine k_X3_242 dX3_plansAgree_30 rfl (c_tripByOrders htr hC3 hK3 k0 k1) hDk3 (Nat.le_of_ble_eq_true rfl) (by omega) (by omega) (Nat.le_of_ble_eq_true rfl) (fun r30 M9 h9 => ?_) (fun _ _ h9 => h9.elim)
      obtain ⟨f7, hn7, rfl, hK4, hF4⟩ := h9
      have hF4 := Frm.tr hF3 hF4
      have hw9 : ∀ i, 0 ≤ i → i < σ 7 → lt σ i 6 = 10 + k → ∃ d, Wks σ (sd σ k 1) (lt σ i 1) d := hv3.elim (fun z => z.2) (fun z => absurd z.1 h20)
      obtain ⟨hL1, hL2⟩ := trips_eq hG0 hsy k0 k1 hw9 hn6 hn7
      refine v_icmp_ne (tgt := 40) dX3_plansAgree_33 (by decide) (fun h33 => ?_) (fun h33 => ?_)
      · exact absurd (Int32.toInt_inj.mp (hL1.uniq hL2)) h33
      · refine v_iconst (v := 1) dX3_plansAgree_36 (by decide) ?_
        refine v_goto (tgt := 41) dX3_plansAgree_37 (by decide) ?_
        exact v_zret dX3_plansAgree_41 rfl (by first | rfl | assumption) ⟨rfl, by first | assumption | exact hK4 | exact hK2, by first | exact hF4 | exact hF2⟩ (by omega) (by omega)
  · exact absurd hfe h10

theorem dX3_sledgesAgree_0 : decode cX3_sledgesAgree 0 = .ok (.iconst 0, 1) := by decide +kernel
theorem dX3_sledgesAgree_1 : decode cX3_sledgesAgree 1 = .ok (.istore_n 1, 1) := by decide +kernel
theorem dX3_sledgesAgree_2 : decode cX3_sledgesAgree 2 = .ok (.iload_n 1, 1) := by decide +kernel
theorem dX3_sledgesAgree_3 : decode cX3_sledgesAgree 3 = .ok (.aload_n 0, 1) := by decide +kernel
theorem dX3_sledgesAgree_4 : decode cX3_sledgesAgree 4 = .ok (.getfield 12, 3) := by decide +kernel
theorem dX3_sledgesAgree_7 : decode cX3_sledgesAgree 7 = .ok (.getfield 74, 3) := by decide +kernel
theorem dX3_sledgesAgree_10 : decode cX3_sledgesAgree 10 = .ok (.if_icmp .ge 47, 3) := by decide +kernel
theorem dX3_sledgesAgree_13 : decode cX3_sledgesAgree 13 = .ok (.aload_n 0, 1) := by decide +kernel
theorem dX3_sledgesAgree_14 : decode cX3_sledgesAgree 14 = .ok (.getfield 12, 3) := by decide +kernel
theorem dX3_sledgesAgree_17 : decode cX3_sledgesAgree 17 = .ok (.iload_n 1, 1) := by decide +kernel
theorem dX3_sledgesAgree_18 : decode cX3_sledgesAgree 18 = .ok (.invokevirtual 143, 3) := by decide +kernel
theorem dX3_sledgesAgree_21 : decode cX3_sledgesAgree 21 = .ok (.ifCond .ge 5, 3) := by decide +kernel
theorem dX3_sledgesAgree_24 : decode cX3_sledgesAgree 24 = .ok (.iconst 0, 1) := by decide +kernel
theorem dX3_sledgesAgree_25 : decode cX3_sledgesAgree 25 = .ok (.ireturn, 1) := by decide +kernel
theorem dX3_sledgesAgree_26 : decode cX3_sledgesAgree 26 = .ok (.aload_n 0, 1) := by decide +kernel
theorem dX3_sledgesAgree_27 : decode cX3_sledgesAgree 27 = .ok (.getfield 12, 3) := by decide +kernel
theorem dX3_sledgesAgree_30 : decode cX3_sledgesAgree 30 = .ok (.getfield 77, 3) := by decide +kernel
theorem dX3_sledgesAgree_33 : decode cX3_sledgesAgree 33 = .ok (.iload_n 1, 1) := by decide +kernel
theorem dX3_sledgesAgree_34 : decode cX3_sledgesAgree 34 = .ok (.aaload, 1) := by decide +kernel
theorem dX3_sledgesAgree_35 : decode cX3_sledgesAgree 35 = .ok (.invokevirtual 136, 3) := by decide +kernel
theorem dX3_sledgesAgree_38 : decode cX3_sledgesAgree 38 = .ok (.ifCond .ne 13, 3) := by decide +kernel
theorem dX3_sledgesAgree_41 : decode cX3_sledgesAgree 41 = .ok (.aload_n 0, 1) := by decide +kernel
theorem dX3_sledgesAgree_42 : decode cX3_sledgesAgree 42 = .ok (.iload_n 1, 1) := by decide +kernel
theorem dX3_sledgesAgree_43 : decode cX3_sledgesAgree 43 = .ok (.invokevirtual 230, 3) := by decide +kernel
theorem dX3_sledgesAgree_46 : decode cX3_sledgesAgree 46 = .ok (.ifCond .ne 5, 3) := by decide +kernel
theorem dX3_sledgesAgree_49 : decode cX3_sledgesAgree 49 = .ok (.iconst 0, 1) := by decide +kernel
theorem dX3_sledgesAgree_50 : decode cX3_sledgesAgree 50 = .ok (.ireturn, 1) := by decide +kernel
theorem dX3_sledgesAgree_51 : decode cX3_sledgesAgree 51 = .ok (.iinc 1 1, 3) := by decide +kernel
theorem dX3_sledgesAgree_54 : decode cX3_sledgesAgree 54 = .ok (.goto (-52), 3) := by decide +kernel
theorem dX3_sledgesAgree_57 : decode cX3_sledgesAgree 57 = .ok (.iconst 1, 1) := by decide +kernel
theorem dX3_sledgesAgree_58 : decode cX3_sledgesAgree 58 = .ok (.ireturn, 1) := by decide +kernel
set_option maxRecDepth 100000 in
set_option maxHeartbeats 4000000 in
theorem c_sledgesAgree {l : Launch} {g : Nat → Nat} {M : LH} (htr : l.stackTraces = false) {kd : Nat → Nat} {r a : Nat} {ad : Nat → Nat} {sl le : Int32 → Nat} {fg tp : Int32} {F : Nat → Int32 → Int32} {σ : Int32 → Int32} (hC : StR kd r M a ad sl le fg tp F σ) {q : Nat → Nat} {D : Nat} (hK : Dk kd D r M a q) (hsy : Sy σ) : K_X3_sledgesAgree l g 18 0 0 [.ref (q 0)] M (RI (fun v M9 => v = 1 ∧ Dk kd D r M9 a q ∧ Frm kd D M M9) nX) := by
  refine Ko_X3_sledgesAgree htr (fun X => ?_)
  have hC0 := hC
  have hK0 := hK
  obtain ⟨hSt, hRo, hSR, hLR, hSl, hLe, hkd, -, ⟨-, hRd, hSd, hLt⟩, hG⟩ := hC
  obtain ⟨hDk, hDs, ⟨f1, hB1⟩, ⟨f2, hB2⟩, hBl, ⟨f3, hB3⟩, hRt, ⟨f4, hB4⟩, hkD, hn34, hDr⟩ := hK
  have hG0 := hG
  obtain ⟨hg1, hg2, hg3, hg4, hg5, hg6, hg7, hg8, hgL, hgS, -⟩ := hG
  have hgS2 := hgS
  clear hgL hgS hRd hLt hLe
  have key : ∀ i, 0 ≤ i → i ≤ σ 6 → ∀ (M1 : LH), Dk kd D r M1 a q → Frm kd D M M1 → V l g yX3_sledgesAgree cX3_sledgesAgree ((some .boolean)) [] 18 0 0 (RI (fun v M9 => v = 1 ∧ Dk kd D r M9 a q ∧ Frm kd D M M9) nX) X M1 0 0 2 [some (.ref (q 0)), some (.int i)] [] := by
    refine up_ind _ (fun i h0 h1 ih M1 hK1 hF1 => ?_)
    have hC1 : StR kd r M1 a ad sl le fg tp F σ := StR.kept hC0 (fun z => hDr z.symm) hF1
    have hDk1 := hK1.1
    have hSt1 := hC1.1
    have hSR1 := hC1.2.2.1
    refine v_iload_n dX3_sledgesAgree_2 rfl rfl ?_
    refine v_aload_n dX3_sledgesAgree_3 rfl rfl ?_
    refine gf_X3_12 dX3_sledgesAgree_4 rfl hDk1 ?_
    refine gf_X3_74 dX3_sledgesAgree_7 rfl hSt1 ?_
    refine v_icmp_ge (tgt := 57) dX3_sledgesAgree_10 (by decide) (fun h10 => ?_) (fun h10 => ?_)
    · have hie : i = σ 6 := by clear ih hgS2 hSd hSl; lia
      subst hie
      refine v_iconst (v := 1) dX3_sledgesAgree_57 (by decide) ?_
      exact v_zret dX3_sledgesAgree_58 rfl (by first | rfl | assumption) ⟨rfl, hK1, hF1⟩ (by omega) (by omega)
    · have hi : i < σ 6 := by clear ih hgS2 hSd hSl; lia
      have hi3 : i < 3 := by clear ih hgS2 hSd hSl; lia
      have hSi1 := hC1.2.2.2.2.1 i h0 hi3
      obtain ⟨u0, u1, u2, u3, u4, u5, u6, u7⟩ := hgS2 i h0 hi
      refine v_aload_n dX3_sledgesAgree_13 rfl rfl ?_
      refine gf_X3_12 dX3_sledgesAgree_14 rfl hDk1 ?_
      refine v_iload_n dX3_sledgesAgree_17 rfl rfl ?_
      refine k_X3_143 dX3_sledgesAgree_18 rfl (c_roomOn htr hC1 h0 hi) hSt1 (Nat.le_of_ble_eq_true rfl) (by omega) (by omega) (Nat.le_of_ble_eq_true rfl) (fun r18 M9 h9 => ?_) (fun _ _ h9 => h9.elim)
      obtain ⟨rfl, e9⟩ := h9
      subst M9
      refine v_if_ge (tgt := 26) dX3_sledgesAgree_21 (by decide) (fun h21 => ?_) (fun h21 => ?_)
      · refine v_aload_n dX3_sledgesAgree_26 rfl rfl ?_
        refine gf_X3_12 dX3_sledgesAgree_27 rfl hDk1 ?_
        refine gf_X3_77 dX3_sledgesAgree_30 rfl hSt1 ?_
        refine v_iload_n dX3_sledgesAgree_33 rfl rfl ?_
        refine v_aald1 dX3_sledgesAgree_34 hSR1 h0 hi3 rfl ?_
        refine k_X3_136 dX3_sledgesAgree_35 rfl (c_travels htr hSi1) hSi1 (Nat.le_of_ble_eq_true rfl) (by omega) (by omega) (Nat.le_of_ble_eq_true rfl) (fun r35 M9 h9 => ?_) (fun _ _ h9 => h9.elim)
        obtain ⟨rfl, e9⟩ := h9
        subst M9
        refine v_if_ne (tgt := 51) dX3_sledgesAgree_38 (by decide) (fun h38 => ?_) (fun h38 => ?_)
        · refine v_iinc_1 dX3_sledgesAgree_51 rfl ?_
          refine v_goto (tgt := 2) dX3_sledgesAgree_54 (by decide) ?_
          first
            | exact ih hi M9 hK2 (Frm.tr hF1 hF2)
            | exact ih hi M1 hK1 hF1
        · refine v_aload_n dX3_sledgesAgree_41 rfl rfl ?_
          refine v_iload_n dX3_sledgesAgree_42 rfl rfl ?_
          refine k_X3_230 dX3_sledgesAgree_43 rfl (c_plansAgree htr hC1 hK1 hsy h0 hi) hDk1 (Nat.le_of_ble_eq_true rfl) (by omega) (by omega) (Nat.le_of_ble_eq_true rfl) (fun r43 M9 h9 => ?_) (fun _ _ h9 => h9.elim)
          obtain ⟨rfl, hK2, hF2⟩ := h9
          refine v_if_ne (tgt := 51) dX3_sledgesAgree_46 (by decide) (fun h46 => ?_) (fun h46 => ?_)
          · refine v_iinc_1 dX3_sledgesAgree_51 rfl ?_
            refine v_goto (tgt := 2) dX3_sledgesAgree_54 (by decide) ?_
            first
              | exact ih hi M9 hK2 (Frm.tr hF1 hF2)
              | exact ih hi M1 hK1 hF1
          · exact absurd (show (1 : Int32) = 0 from h46) (by decide)
      · exact absurd (show 0 ≤ sd σ i 0 - loadOn σ i by clear ih hgS2 hSd hSl; lia) h21
  refine v_iconst (v := 0) dX3_sledgesAgree_0 (by decide) ?_
  refine v_istore_1 dX3_sledgesAgree_1 ?_
  exact key 0 (by lia) hg3 M hK0 Frm.rf

theorem dX3_codesAreValid_0 : decode cX3_codesAreValid 0 = .ok (.iconst 0, 1) := by decide +kernel
theorem dX3_codesAreValid_1 : decode cX3_codesAreValid 1 = .ok (.istore_n 1, 1) := by decide +kernel
theorem dX3_codesAreValid_2 : decode cX3_codesAreValid 2 = .ok (.iload_n 1, 1) := by decide +kernel
theorem dX3_codesAreValid_3 : decode cX3_codesAreValid 3 = .ok (.aload_n 0, 1) := by decide +kernel
theorem dX3_codesAreValid_4 : decode cX3_codesAreValid 4 = .ok (.getfield 12, 3) := by decide +kernel
theorem dX3_codesAreValid_7 : decode cX3_codesAreValid 7 = .ok (.getfield 92, 3) := by decide +kernel
theorem dX3_codesAreValid_10 : decode cX3_codesAreValid 10 = .ok (.if_icmp .ge 29, 3) := by decide +kernel
theorem dX3_codesAreValid_13 : decode cX3_codesAreValid 13 = .ok (.aload_n 0, 1) := by decide +kernel
theorem dX3_codesAreValid_14 : decode cX3_codesAreValid 14 = .ok (.getfield 12, 3) := by decide +kernel
theorem dX3_codesAreValid_17 : decode cX3_codesAreValid 17 = .ok (.getfield 95, 3) := by decide +kernel
theorem dX3_codesAreValid_20 : decode cX3_codesAreValid 20 = .ok (.iload_n 1, 1) := by decide +kernel
theorem dX3_codesAreValid_21 : decode cX3_codesAreValid 21 = .ok (.aaload, 1) := by decide +kernel
theorem dX3_codesAreValid_22 : decode cX3_codesAreValid 22 = .ok (.invokevirtual 245, 3) := by decide +kernel
theorem dX3_codesAreValid_25 : decode cX3_codesAreValid 25 = .ok (.invokestatic 249, 3) := by decide +kernel
theorem dX3_codesAreValid_28 : decode cX3_codesAreValid 28 = .ok (.ifCond .ne 5, 3) := by decide +kernel
theorem dX3_codesAreValid_31 : decode cX3_codesAreValid 31 = .ok (.iconst 0, 1) := by decide +kernel
theorem dX3_codesAreValid_32 : decode cX3_codesAreValid 32 = .ok (.ireturn, 1) := by decide +kernel
theorem dX3_codesAreValid_33 : decode cX3_codesAreValid 33 = .ok (.iinc 1 1, 3) := by decide +kernel
theorem dX3_codesAreValid_36 : decode cX3_codesAreValid 36 = .ok (.goto (-34), 3) := by decide +kernel
theorem dX3_codesAreValid_39 : decode cX3_codesAreValid 39 = .ok (.iconst 1, 1) := by decide +kernel
theorem dX3_codesAreValid_40 : decode cX3_codesAreValid 40 = .ok (.ireturn, 1) := by decide +kernel
set_option maxRecDepth 100000 in
set_option maxHeartbeats 4000000 in
theorem c_codesAreValid {l : Launch} {g : Nat → Nat} {M : LH} (htr : l.stackTraces = false) {kd : Nat → Nat} {r a : Nat} {ad : Nat → Nat} {sl le : Int32 → Nat} {fg tp : Int32} {F : Nat → Int32 → Int32} {σ : Int32 → Int32} (hC : StR kd r M a ad sl le fg tp F σ) {q : Nat → Nat} {D : Nat} (hK : Dk kd D r M a q) (h4 : σ 4 < 1000000) : K_X3_codesAreValid l g 2 0 0 [.ref (q 0)] M (RI (fun v M9 => v = 1 ∧ M9 = M) nX) := by
  refine Ko_X3_codesAreValid htr (fun X => ?_)
  have hC0 := hC
  have hK0 := hK
  obtain ⟨hSt, hRo, hSR, hLR, hSl, hLe, hkd, -, ⟨-, hRd, hSd, hLt⟩, hG⟩ := hC
  obtain ⟨hDk, hDs, ⟨f1, hB1⟩, ⟨f2, hB2⟩, hBl, ⟨f3, hB3⟩, hRt, ⟨f4, hB4⟩, hkD, hn34, hDr⟩ := hK
  have hG0 := hG
  obtain ⟨hg1, hg2, hg3, hg4, hg5, hg6, hg7, hg8, hgL, hgS, -⟩ := hG
  have hgN : ∀ i, 0 ≤ i → i < σ 7 → lt σ i 0 < σ 4 := hG0.2.2.2.2.2.2.2.2.2.2.2.2.1
  have key : ∀ i, 0 ≤ i → i ≤ σ 7 → V l g yX3_codesAreValid cX3_codesAreValid ((some .boolean)) [] 2 0 0 (RI (fun v M9 => v = 1 ∧ M9 = M) nX) X M 0 0 2 [some (.ref (q 0)), some (.int i)] [] := by
    refine up_ind _ (fun i h0 h1 ih => ?_)
    refine v_iload_n dX3_codesAreValid_2 rfl rfl ?_
    refine v_aload_n dX3_codesAreValid_3 rfl rfl ?_
    refine gf_X3_12 dX3_codesAreValid_4 rfl hDk ?_
    refine gf_X3_92 dX3_codesAreValid_7 rfl hSt ?_
    refine v_icmp_ge (tgt := 39) dX3_codesAreValid_10 (by decide) (fun h10 => ?_) (fun h10 => ?_)
    · have hie : i = σ 7 := by clear ih hgN hgL hgS hRd hSd hLt hLe hSl; lia
      subst hie
      refine v_iconst (v := 1) dX3_codesAreValid_39 (by decide) ?_
      exact v_zret dX3_codesAreValid_40 rfl (by first | rfl | assumption) ⟨rfl, rfl⟩ (by omega) (by omega)
    · have hi : i < σ 7 := by clear ih hgN hgL hgS hRd hSd hLt hLe hSl; lia
      have hi12 : i < 12 := by clear ih hgN hgL hgS hRd hSd hLt hLe hSl; lia
      have hLi := hLe i h0 hi12
      obtain ⟨q0, q1, -⟩ := hLt i h0 hi
      obtain ⟨z1, z2, z3, z4, z5, z6, z7, z8, z9, z10, z11, z12, z13, z14⟩ := hgL i h0 hi
      have z15 := hgN i h0 hi
      have hcv : validC (codeN (F 0 i) (F 1 i)) := by
        rw [q0, q1]
        have e7 : (7 : Int32).toInt = 7 := rfl
        have e6 : (1000000 : Int32).toInt = 1000000 := rfl
        have y1 := i_le.mp z1
        have y2 := i_lt.mp z2
        have y3 := i_le.mp hg2
        have y4 := i_le.mp z14
        have y5 := i_lt.mp z15
        have y6 := i_lt.mp h4
        rw [i_0] at y1 y4
        rw [e7] at y3
        rw [e6] at y6
        exact code_v (by omega) (by omega) (by omega) (by omega)
      refine v_aload_n dX3_codesAreValid_13 rfl rfl ?_
      refine gf_X3_12 dX3_codesAreValid_14 rfl hDk ?_
      refine gf_X3_95 dX3_codesAreValid_17 rfl hSt ?_
      refine v_iload_n dX3_codesAreValid_20 rfl rfl ?_
      refine v_aald1 dX3_codesAreValid_21 hLR h0 hi12 rfl ?_
      refine k_X3_245 dX3_codesAreValid_22 rfl (c_code htr hLi) hLi (Nat.le_of_ble_eq_true rfl) (by omega) (by omega) (Nat.le_of_ble_eq_true rfl) (fun r22 M9 h9 => ?_) (fun _ _ h9 => h9.elim)
      obtain ⟨rfl, e9⟩ := h9
      subst M9
      refine k_X3_249 dX3_codesAreValid_25 rfl (c_isValidCode htr _) (Nat.le_of_ble_eq_true rfl) (by omega) (by omega) (Nat.le_of_ble_eq_true rfl) (fun r25 M9 h9 => ?_) (fun _ _ h9 => h9.elim)
      obtain ⟨h91, e9⟩ := h9
      subst M9
      obtain rfl := (h91.resolve_right (fun z => z.2 hcv)).1
      refine v_if_ne (tgt := 33) dX3_codesAreValid_28 (by decide) (fun h28 => ?_) (fun h28 => ?_)
      · refine v_iinc_1 dX3_codesAreValid_33 rfl ?_
        refine v_goto (tgt := 2) dX3_codesAreValid_36 (by decide) ?_
        exact ih hi
      · exact absurd (show (1 : Int32) = 0 from h28) (by decide)
  refine v_iconst (v := 0) dX3_codesAreValid_0 (by decide) ?_
  refine v_istore_1 dX3_codesAreValid_1 ?_
  exact key 0 (by lia) hg5

