/-! ===== the distances agree ===== -/
theorem dX3_distancesAgree_0 : decode cX3_distancesAgree 0 = .ok (.aload_n 0, 1) := by decide +kernel
theorem dX3_distancesAgree_1 : decode cX3_distancesAgree 1 = .ok (.getfield 21, 3) := by decide +kernel
theorem dX3_distancesAgree_4 : decode cX3_distancesAgree 4 = .ok (.aload_n 0, 1) := by decide +kernel
theorem dX3_distancesAgree_5 : decode cX3_distancesAgree 5 = .ok (.getfield 12, 3) := by decide +kernel
theorem dX3_distancesAgree_8 : decode cX3_distancesAgree 8 = .ok (.invokevirtual 207, 3) := by decide +kernel
theorem dX3_distancesAgree_11 : decode cX3_distancesAgree 11 = .ok (.aload_n 0, 1) := by decide +kernel
theorem dX3_distancesAgree_12 : decode cX3_distancesAgree 12 = .ok (.getfield 21, 3) := by decide +kernel
theorem dX3_distancesAgree_15 : decode cX3_distancesAgree 15 = .ok (.aload_n 0, 1) := by decide +kernel
theorem dX3_distancesAgree_16 : decode cX3_distancesAgree 16 = .ok (.getfield 12, 3) := by decide +kernel
theorem dX3_distancesAgree_19 : decode cX3_distancesAgree 19 = .ok (.invokevirtual 221, 3) := by decide +kernel
theorem dX3_distancesAgree_22 : decode cX3_distancesAgree 22 = .ok (.iconst 0, 1) := by decide +kernel
theorem dX3_distancesAgree_23 : decode cX3_distancesAgree 23 = .ok (.istore_n 1, 1) := by decide +kernel
theorem dX3_distancesAgree_24 : decode cX3_distancesAgree 24 = .ok (.iload_n 1, 1) := by decide +kernel
theorem dX3_distancesAgree_25 : decode cX3_distancesAgree 25 = .ok (.aload_n 0, 1) := by decide +kernel
theorem dX3_distancesAgree_26 : decode cX3_distancesAgree 26 = .ok (.getfield 12, 3) := by decide +kernel
theorem dX3_distancesAgree_29 : decode cX3_distancesAgree 29 = .ok (.getfield 39, 3) := by decide +kernel
theorem dX3_distancesAgree_32 : decode cX3_distancesAgree 32 = .ok (.if_icmp .ge 57, 3) := by decide +kernel
theorem dX3_distancesAgree_35 : decode cX3_distancesAgree 35 = .ok (.iconst 0, 1) := by decide +kernel
theorem dX3_distancesAgree_36 : decode cX3_distancesAgree 36 = .ok (.istore_n 2, 1) := by decide +kernel
theorem dX3_distancesAgree_37 : decode cX3_distancesAgree 37 = .ok (.iload_n 2, 1) := by decide +kernel
theorem dX3_distancesAgree_38 : decode cX3_distancesAgree 38 = .ok (.aload_n 0, 1) := by decide +kernel
theorem dX3_distancesAgree_39 : decode cX3_distancesAgree 39 = .ok (.getfield 12, 3) := by decide +kernel
theorem dX3_distancesAgree_42 : decode cX3_distancesAgree 42 = .ok (.getfield 39, 3) := by decide +kernel
theorem dX3_distancesAgree_45 : decode cX3_distancesAgree 45 = .ok (.if_icmp .ge 38, 3) := by decide +kernel
theorem dX3_distancesAgree_48 : decode cX3_distancesAgree 48 = .ok (.iload_n 1, 1) := by decide +kernel
theorem dX3_distancesAgree_49 : decode cX3_distancesAgree 49 = .ok (.iload_n 2, 1) := by decide +kernel
theorem dX3_distancesAgree_50 : decode cX3_distancesAgree 50 = .ok (.invokestatic 70, 3) := by decide +kernel
theorem dX3_distancesAgree_53 : decode cX3_distancesAgree 53 = .ok (.istore_n 3, 1) := by decide +kernel
theorem dX3_distancesAgree_54 : decode cX3_distancesAgree 54 = .ok (.aload_n 0, 1) := by decide +kernel
theorem dX3_distancesAgree_55 : decode cX3_distancesAgree 55 = .ok (.getfield 21, 3) := by decide +kernel
theorem dX3_distancesAgree_58 : decode cX3_distancesAgree 58 = .ok (.getfield 211, 3) := by decide +kernel
theorem dX3_distancesAgree_61 : decode cX3_distancesAgree 61 = .ok (.iload_n 3, 1) := by decide +kernel
theorem dX3_distancesAgree_62 : decode cX3_distancesAgree 62 = .ok (.iaload, 1) := by decide +kernel
theorem dX3_distancesAgree_63 : decode cX3_distancesAgree 63 = .ok (.aload_n 0, 1) := by decide +kernel
theorem dX3_distancesAgree_64 : decode cX3_distancesAgree 64 = .ok (.getfield 21, 3) := by decide +kernel
theorem dX3_distancesAgree_67 : decode cX3_distancesAgree 67 = .ok (.getfield 224, 3) := by decide +kernel
theorem dX3_distancesAgree_70 : decode cX3_distancesAgree 70 = .ok (.iload_n 3, 1) := by decide +kernel
theorem dX3_distancesAgree_71 : decode cX3_distancesAgree 71 = .ok (.iaload, 1) := by decide +kernel
theorem dX3_distancesAgree_72 : decode cX3_distancesAgree 72 = .ok (.if_icmp .eq 5, 3) := by decide +kernel
theorem dX3_distancesAgree_75 : decode cX3_distancesAgree 75 = .ok (.iconst 0, 1) := by decide +kernel
theorem dX3_distancesAgree_76 : decode cX3_distancesAgree 76 = .ok (.ireturn, 1) := by decide +kernel
theorem dX3_distancesAgree_77 : decode cX3_distancesAgree 77 = .ok (.iinc 2 1, 3) := by decide +kernel
theorem dX3_distancesAgree_80 : decode cX3_distancesAgree 80 = .ok (.goto (-43), 3) := by decide +kernel
theorem dX3_distancesAgree_83 : decode cX3_distancesAgree 83 = .ok (.iinc 1 1, 3) := by decide +kernel
theorem dX3_distancesAgree_86 : decode cX3_distancesAgree 86 = .ok (.goto (-62), 3) := by decide +kernel
theorem dX3_distancesAgree_89 : decode cX3_distancesAgree 89 = .ok (.iconst 1, 1) := by decide +kernel
theorem dX3_distancesAgree_90 : decode cX3_distancesAgree 90 = .ok (.ireturn, 1) := by decide +kernel
set_option maxRecDepth 100000 in
set_option maxHeartbeats 4000000 in
theorem c_distancesAgree {l : Launch} {g : Nat → Nat} {M : LH} (htr : l.stackTraces = false) {kd : Nat → Nat} {r a : Nat} {ad : Nat → Nat} {sl le : Int32 → Nat} {fg tp : Int32} {F : Nat → Int32 → Int32} {σ : Int32 → Int32} (hC : StR kd r M a ad sl le fg tp F σ) {q : Nat → Nat} {D : Nat} (hK : Dk kd D r M a q) : K_X3_distancesAgree l g 4 0 0 [.ref (q 0)] M (RI (fun v M9 => v = 1 ∧ Dk kd D r M9 a q ∧ Frm kd D M M9) nX) := by
  refine Ko_X3_distancesAgree htr (fun X => ?_)
  have hC0 := hC
  have hK0 := hK
  obtain ⟨hSt, hRo, hSR, hLR, hSl, hLe, hkd, -, ⟨-, hRd, hSd, hLt⟩, hG⟩ := hC
  obtain ⟨hDk, hDs, ⟨f1, hB1⟩, ⟨f2, hB2⟩, hBl, ⟨f3, hB3⟩, hRt, ⟨f4, hB4⟩, hkD, hn34, hDr⟩ := hK
  have hG0 := hG
  obtain ⟨hg1, hg2, hg3, hg4, hg5, hg6, hg7, hg8, hgL, hgS, -⟩ := hG
  have hkb : ¬ kd (q 3) = r := fun z => hDr (hkD.2.2.1.symm.trans z)
  have hkb2 : ¬ kd (q 4) = r := fun z => hDr (hkD.2.2.2.1.symm.trans z)
  refine v_aload_n dX3_distancesAgree_0 rfl rfl ?_
  refine gf_X3_21 dX3_distancesAgree_1 rfl hDk ?_
  refine v_aload_n dX3_distancesAgree_4 rfl rfl ?_
  refine gf_X3_12 dX3_distancesAgree_5 rfl hDk ?_
  refine k_X3_207 dX3_distancesAgree_8 rfl (c_goOnFromNearestOfAll htr hC0 hDs hB1 hkb) hDs (Nat.le_of_ble_eq_true rfl) (by omega) (by omega) (Nat.le_of_ble_eq_true rfl) (fun M9 h9 => ?_) (fun _ _ h9 => h9.elim)
  obtain ⟨f', hq, e9⟩ := h9
  subst M9
  have hK1 := hK0.row hB1 f'
  have hC1 := StR.kept hC0 (fun z => hkb z.symm) (Frm.up (kd := kd) (M := M) (e := ia 49 f') (rfl : kd (q 3) = kd (q 3)))
  obtain ⟨tSt0, -⟩ := id hC1
  obtain ⟨tDk0, tDs0, -, ⟨f7, tB2⟩, -⟩ := id hK1
  refine v_aload_n dX3_distancesAgree_11 rfl rfl ?_
  refine gf_X3_21 dX3_distancesAgree_12 rfl tDk0 ?_
  refine v_aload_n dX3_distancesAgree_15 rfl rfl ?_
  refine gf_X3_12 dX3_distancesAgree_16 rfl tDk0 ?_
  refine k_X3_221 dX3_distancesAgree_19 rfl (c_allowMoreStations htr hC1 tDs0 tB2 hkb2) tDs0 (Nat.le_of_ble_eq_true rfl) (by omega) (by omega) (Nat.le_of_ble_eq_true rfl) (fun M9 h9 => ?_) (fun _ _ h9 => h9.elim)
  obtain ⟨f2, hq2, e9⟩ := h9
  subst M9
  refine v_iconst (v := 0) dX3_distancesAgree_22 (by decide) ?_
  refine v_istore_1 dX3_distancesAgree_23 ?_
  have hK2 := hK1.row tB2 f2
  have hC2 := StR.kept hC1 (fun z => hkb2 z.symm) (Frm.up (kd := kd) (M := hup M (q 3) (ia 49 f')) (e := ia 49 f2) (rfl : kd (q 4) = kd (q 4)))
  obtain ⟨tSt, -⟩ := id hC2
  obtain ⟨tDk, tDs, -⟩ := id hK2
  have t3 : (hup (hup M (q 3) (ia 49 f')) (q 4) (ia 49 f2)) (q 3) = some (ia 49 f') := (hup_n hn34).trans hup_s
  have hF2 : Frm kd D M (hup (hup M (q 3) (ia 49 f')) (q 4) (ia 49 f2)) := Frm.tr (Frm.up hkD.2.2.1) (Frm.up hkD.2.2.2.1)
  have key1 : ∀ i, 0 ≤ i → i ≤ σ 5 → ∀ (z2 z3 : Option Value), V l g yX3_distancesAgree cX3_distancesAgree ((some .boolean)) [] 4 0 0 (RI (fun v M9 => v = 1 ∧ Dk kd D r M9 a q ∧ Frm kd D M M9) nX) X (hup (hup M (q 3) (ia 49 f')) (q 4) (ia 49 f2)) 0 0 24 [some (.ref (q 0)), some (.int i), z2, z3] [] := by
    refine up_ind _ (fun i h0 h1 ih z2 z3 => ?_)
    have key2 : i < σ 5 → ∀ j, 0 ≤ j → j ≤ σ 5 → ∀ (z3 : Option Value), V l g yX3_distancesAgree cX3_distancesAgree ((some .boolean)) [] 4 0 0 (RI (fun v M9 => v = 1 ∧ Dk kd D r M9 a q ∧ Frm kd D M M9) nX) X (hup (hup M (q 3) (ia 49 f')) (q 4) (ia 49 f2)) 0 0 37 [some (.ref (q 0)), some (.int i), some (.int j), z3] [] := by
      intro hi
      refine up_ind _ (fun j k0 k1 jh z3 => ?_)
      refine v_iload_n dX3_distancesAgree_37 rfl rfl ?_
      refine v_aload_n dX3_distancesAgree_38 rfl rfl ?_
      refine gf_X3_12 dX3_distancesAgree_39 rfl tDk ?_
      refine gf_X3_39 dX3_distancesAgree_42 rfl tSt ?_
      refine v_icmp_ge (tgt := 83) dX3_distancesAgree_45 (by decide) (fun h45 => ?_) (fun h45 => ?_)
      · have hj : j = σ 5 := by clear hgL hgS hRd hSd hLt hLe hSl ih jh; lia
        refine v_iinc_1 dX3_distancesAgree_83 rfl ?_
        refine v_goto (tgt := 24) dX3_distancesAgree_86 (by decide) ?_
        exact ih hi _ _
      · have hj : j < σ 5 := by clear hgL hgS hRd hSd hLt hLe hSl ih jh; lia
        obtain ⟨b0, b1⟩ := cell_in h0 (by clear hgL hgS hRd hSd hLt hLe hSl ih jh; lia) k0 (by clear hgL hgS hRd hSd hLt hLe hSl ih jh; lia)
        have he9 : f' (i * 7 + j) = f2 (i * 7 + j) := i_eq.mpr (IsD.uniq (hq i h0 hi j k0 hj).1 (hq2 i h0 hi j k0 hj).1)
        refine v_iload_n dX3_distancesAgree_48 rfl rfl ?_
        refine v_iload_n dX3_distancesAgree_49 rfl rfl ?_
        refine k_X3_70 dX3_distancesAgree_50 rfl (c_cell htr i j) (Nat.le_of_ble_eq_true rfl) (by omega) (by omega) (Nat.le_of_ble_eq_true rfl) (fun r50 M9 h9 => ?_) (fun _ _ h9 => h9.elim)
        obtain ⟨rfl, e9⟩ := h9
        subst M9
        refine v_istore_3 dX3_distancesAgree_53 ?_
        refine v_aload_n dX3_distancesAgree_54 rfl rfl ?_
        refine gf_X3_21 dX3_distancesAgree_55 rfl tDk ?_
        refine gf_X3_211 dX3_distancesAgree_58 rfl tDs ?_
        refine v_iload_n dX3_distancesAgree_61 rfl rfl ?_
        refine v_iald dX3_distancesAgree_62 t3 b0 b1 ?_
        refine v_aload_n dX3_distancesAgree_63 rfl rfl ?_
        refine gf_X3_21 dX3_distancesAgree_64 rfl tDk ?_
        refine gf_X3_224 dX3_distancesAgree_67 rfl tDs ?_
        refine v_iload_n dX3_distancesAgree_70 rfl rfl ?_
        refine v_iald dX3_distancesAgree_71 hup_s b0 b1 ?_
        refine v_icmp_eq (tgt := 77) dX3_distancesAgree_72 (by decide) (fun h72 => ?_) (fun h72 => ?_)
        · refine v_iinc_2 dX3_distancesAgree_77 rfl ?_
          refine v_goto (tgt := 37) dX3_distancesAgree_80 (by decide) ?_
          exact jh hj _
        · exact absurd he9 (by assumption)
    refine v_iload_n dX3_distancesAgree_24 rfl rfl ?_
    refine v_aload_n dX3_distancesAgree_25 rfl rfl ?_
    refine gf_X3_12 dX3_distancesAgree_26 rfl tDk ?_
    refine gf_X3_39 dX3_distancesAgree_29 rfl tSt ?_
    refine v_icmp_ge (tgt := 89) dX3_distancesAgree_32 (by decide) (fun h32 => ?_) (fun h32 => ?_)
    · refine v_iconst (v := 1) dX3_distancesAgree_89 (by decide) ?_
      exact v_zret dX3_distancesAgree_90 rfl (by first | rfl | assumption) ⟨rfl, hK2, hF2⟩ (by omega) (by omega)
    · have hi : i < σ 5 := by clear hgL hgS hRd hSd hLt hLe hSl ih key2; lia
      refine v_iconst (v := 0) dX3_distancesAgree_35 (by decide) ?_
      refine v_istore_2 dX3_distancesAgree_36 ?_
      exact key2 hi 0 (by lia) hg1 _
  exact key1 0 (by lia) hg1 _ _
