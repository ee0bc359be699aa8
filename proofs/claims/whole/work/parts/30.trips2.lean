/-! ===== the desk's trips ===== -/
theorem ia_y {M : LH} {x z : Nat} {N N' : Int32} {f0 g : Int32 → Int32} (hz : M z = some (ia N f0)) (h : ∃ f, M x = some (ia N' f)) : ∃ f, (hup M z (ia N g)) x = some (ia N' f) := by
  by_cases e : N' = N
  · rw [e] at h ⊢
    exact ia_x h
  · exact ia_w hz e h
theorem Dk.row {kd : Nat → Nat} {D r : Nat} {M : LH} {a : Nat} {q : Nat → Nat} (h : Dk kd D r M a q) {z : Nat} {N : Int32} {f : Int32 → Int32} (hz : M z = some (ia N f)) (g : Int32 → Int32) : Dk kd D r (hup M z (ia N g)) a q := by
  obtain ⟨h1, h2, h3, h4, h5, h6, h7, h8, h9⟩ := h
  exact ⟨ia_n h1 hz ob_ia, ia_n h2 hz ob_ia, ia_y hz h3, ia_y hz h4, ia_n h5 hz ob_ia, ia_y hz h6, ia_n h7 hz ob_ia, ia_y hz h8, h9⟩
theorem dX3_tripBySets_0 : decode cX3_tripBySets 0 = .ok (.aload_n 0, 1) := by decide +kernel
theorem dX3_tripBySets_1 : decode cX3_tripBySets 1 = .ok (.getfield 21, 3) := by decide +kernel
theorem dX3_tripBySets_4 : decode cX3_tripBySets 4 = .ok (.aload_n 0, 1) := by decide +kernel
theorem dX3_tripBySets_5 : decode cX3_tripBySets 5 = .ok (.getfield 12, 3) := by decide +kernel
theorem dX3_tripBySets_8 : decode cX3_tripBySets 8 = .ok (.invokevirtual 207, 3) := by decide +kernel
theorem dX3_tripBySets_11 : decode cX3_tripBySets 11 = .ok (.aload_n 0, 1) := by decide +kernel
theorem dX3_tripBySets_12 : decode cX3_tripBySets 12 = .ok (.getfield 12, 3) := by decide +kernel
theorem dX3_tripBySets_15 : decode cX3_tripBySets 15 = .ok (.getfield 77, 3) := by decide +kernel
theorem dX3_tripBySets_18 : decode cX3_tripBySets 18 = .ok (.iload_n 1, 1) := by decide +kernel
theorem dX3_tripBySets_19 : decode cX3_tripBySets 19 = .ok (.aaload, 1) := by decide +kernel
theorem dX3_tripBySets_20 : decode cX3_tripBySets 20 = .ok (.getfield 86, 3) := by decide +kernel
theorem dX3_tripBySets_23 : decode cX3_tripBySets 23 = .ok (.istore_n 2, 1) := by decide +kernel
theorem dX3_tripBySets_24 : decode cX3_tripBySets 24 = .ok (.aload_n 0, 1) := by decide +kernel
theorem dX3_tripBySets_25 : decode cX3_tripBySets 25 = .ok (.getfield 35, 3) := by decide +kernel
theorem dX3_tripBySets_28 : decode cX3_tripBySets 28 = .ok (.aload_n 0, 1) := by decide +kernel
theorem dX3_tripBySets_29 : decode cX3_tripBySets 29 = .ok (.getfield 21, 3) := by decide +kernel
theorem dX3_tripBySets_32 : decode cX3_tripBySets 32 = .ok (.getfield 211, 3) := by decide +kernel
theorem dX3_tripBySets_35 : decode cX3_tripBySets 35 = .ok (.iload_n 2, 1) := by decide +kernel
theorem dX3_tripBySets_36 : decode cX3_tripBySets 36 = .ok (.aload_n 0, 1) := by decide +kernel
theorem dX3_tripBySets_37 : decode cX3_tripBySets 37 = .ok (.iload_n 1, 1) := by decide +kernel
theorem dX3_tripBySets_38 : decode cX3_tripBySets 38 = .ok (.invokevirtual 214, 3) := by decide +kernel
theorem dX3_tripBySets_41 : decode cX3_tripBySets 41 = .ok (.invokevirtual 217, 3) := by decide +kernel
theorem dX3_tripBySets_44 : decode cX3_tripBySets 44 = .ok (.ireturn, 1) := by decide +kernel
set_option maxRecDepth 100000 in
set_option maxHeartbeats 4000000 in
theorem c_tripBySets {l : Launch} {g : Nat → Nat} {M : LH} (htr : l.stackTraces = false) {kd : Nat → Nat} {r a : Nat} {ad : Nat → Nat} {sl le : Int32 → Nat} {fg tp : Int32} {F : Nat → Int32 → Int32} {σ : Int32 → Int32} (hC : StR kd r M a ad sl le fg tp F σ) {q : Nat → Nat} {D : Nat} (hK : Dk kd D r M a q) {k : Int32} (hk0 : 0 ≤ k) (hk : k < σ 6) : K_X3_tripBySets l g 4 0 0 [.ref (q 0), .int k] M (RI (fun v M9 => ∃ f', (∀ s, 0 ≤ s → s < σ 5 → NX σ 120 s f') ∧ v = sT f' (sd σ k 1) (goN σ k (σ 7).toNatClampNeg &&& (sbit (sd σ k 1) ^^^ -1)) ∧ Dk kd D r M9 a q ∧ Frm kd D M M9) nX) := by
  refine Ko_X3_tripBySets htr (fun X => ?_)
  have hC0 := hC
  have hK0 := hK
  obtain ⟨hSt, hRo, hSR, hLR, hSl, hLe, hkd, -, ⟨-, hRd, hSd, hLt⟩, hG⟩ := hC
  obtain ⟨hDk, hDs, ⟨f1, hB1⟩, ⟨f2, hB2⟩, hBl, ⟨f3, hB3⟩, hRt, ⟨f4, hB4⟩, hkD, hn34, hDr⟩ := hK
  have hG0 := hG
  obtain ⟨hg1, hg2, hg3, hg4, hg5, hg6, hg7, hg8, hgL, hgS, -⟩ := hG
  have k3 : k < 3 := by clear hgL hgS hRd hSd hLt hLe hSl; lia
  obtain ⟨y0, y1, y2⟩ := hSd k hk0 hk
  obtain ⟨u0, u1, u2, u3, -⟩ := hgS k hk0 hk
  obtain ⟨j, hj, hG9⟩ := goals_in hG0 hk0 hk
  have hkb : ¬ kd (q 3) = r := fun z => hDr (hkD.2.2.1.symm.trans z)
  refine v_aload_n dX3_tripBySets_0 rfl rfl ?_
  refine gf_X3_21 dX3_tripBySets_1 rfl hDk ?_
  refine v_aload_n dX3_tripBySets_4 rfl rfl ?_
  refine gf_X3_12 dX3_tripBySets_5 rfl hDk ?_
  refine k_X3_207 dX3_tripBySets_8 rfl (c_goOnFromNearestOfAll htr hC0 hDs hB1 hkb) hDs (Nat.le_of_ble_eq_true rfl) (by omega) (by omega) (Nat.le_of_ble_eq_true rfl) (fun M9 h9 => ?_) (fun _ _ h9 => h9.elim)
  obtain ⟨f', hq, e9⟩ := h9
  subst M9
  have hK1 := hK0.row hB1 f'
  have hC1 := StR.kept hC0 (fun z => hkb z.symm) (Frm.up (kd := kd) (M := M) (e := ia 49 f') (rfl : kd (q 3) = kd (q 3)))
  have hF1 : Frm kd D M (hup M (q 3) (ia 49 f')) := Frm.up hkD.2.2.1
  obtain ⟨tSt, -, tSR, -, tSl, -⟩ := id hC1
  obtain ⟨tDk, tDs, -, -, -, -, tRt, ⟨f5, tB4⟩, -⟩ := id hK1
  have nb38 : ¬ q 3 = q 8 := fun z => by
    rw [z, hB4] at hB1
    have h2 := Option.some.inj hB1
    unfold ia at h2
    exact absurd (congrArg (fun p => p.2.1) (Sum.inl.inj h2)) (show ¬ (896 : Int32) = 49 by decide)
  refine v_aload_n dX3_tripBySets_11 rfl rfl ?_
  refine gf_X3_12 dX3_tripBySets_12 rfl tDk ?_
  refine gf_X3_77 dX3_tripBySets_15 rfl tSt ?_
  refine v_iload_n dX3_tripBySets_18 rfl rfl ?_
  refine v_aald1 dX3_tripBySets_19 tSR hk0 k3 rfl ?_
  refine gf_X3_86 dX3_tripBySets_20 rfl (tSl k hk0 k3) ?_
  rw [y1]
  refine v_istore_2 dX3_tripBySets_23 ?_
  refine v_aload_n dX3_tripBySets_24 rfl rfl ?_
  refine gf_X3_35 dX3_tripBySets_25 rfl tDk ?_
  refine v_aload_n dX3_tripBySets_28 rfl rfl ?_
  refine gf_X3_21 dX3_tripBySets_29 rfl tDk ?_
  refine gf_X3_211 dX3_tripBySets_32 rfl tDs ?_
  refine v_iload_n dX3_tripBySets_35 rfl rfl ?_
  refine v_aload_n dX3_tripBySets_36 rfl rfl ?_
  refine v_iload_n dX3_tripBySets_37 rfl rfl ?_
  refine k_X3_214 dX3_tripBySets_38 rfl (c_goalsOf htr hC1 hK1 hk0 hk) tDk (Nat.le_of_ble_eq_true rfl) (by omega) (by omega) (Nat.le_of_ble_eq_true rfl) (fun r38 M9 h9 => ?_) (fun _ _ h9 => h9.elim)
  obtain ⟨rfl, e9⟩ := h9
  subst M9
  rw [hG9]
  refine k_X3_217 dX3_tripBySets_41 rfl (c_shortestBySets htr hup_s u2 (by clear hgL hgS hRd hSd hLt hLe hSl tSl; lia) tRt tB4 nb38 hj) tRt (Nat.le_of_ble_eq_true rfl) (by omega) (by omega) (Nat.le_of_ble_eq_true rfl) (fun r41 M9 h9 => ?_) (fun _ _ h9 => h9.elim)
  obtain ⟨rfl, f6, e9⟩ := h9
  subst M9
  exact v_iret dX3_tripBySets_44 rfl ⟨f', hq, rfl, hK1.row tB4 f6, hF1.tr (Frm.up hkD.2.2.2.2.2.2.2)⟩ (by omega) (by omega)
theorem dX3_tripByOrders_0 : decode cX3_tripByOrders 0 = .ok (.aload_n 0, 1) := by decide +kernel
theorem dX3_tripByOrders_1 : decode cX3_tripByOrders 1 = .ok (.getfield 21, 3) := by decide +kernel
theorem dX3_tripByOrders_4 : decode cX3_tripByOrders 4 = .ok (.aload_n 0, 1) := by decide +kernel
theorem dX3_tripByOrders_5 : decode cX3_tripByOrders 5 = .ok (.getfield 12, 3) := by decide +kernel
theorem dX3_tripByOrders_8 : decode cX3_tripByOrders 8 = .ok (.invokevirtual 221, 3) := by decide +kernel
theorem dX3_tripByOrders_11 : decode cX3_tripByOrders 11 = .ok (.aload_n 0, 1) := by decide +kernel
theorem dX3_tripByOrders_12 : decode cX3_tripByOrders 12 = .ok (.getfield 12, 3) := by decide +kernel
theorem dX3_tripByOrders_15 : decode cX3_tripByOrders 15 = .ok (.getfield 77, 3) := by decide +kernel
theorem dX3_tripByOrders_18 : decode cX3_tripByOrders 18 = .ok (.iload_n 1, 1) := by decide +kernel
theorem dX3_tripByOrders_19 : decode cX3_tripByOrders 19 = .ok (.aaload, 1) := by decide +kernel
theorem dX3_tripByOrders_20 : decode cX3_tripByOrders 20 = .ok (.getfield 86, 3) := by decide +kernel
theorem dX3_tripByOrders_23 : decode cX3_tripByOrders 23 = .ok (.istore_n 2, 1) := by decide +kernel
theorem dX3_tripByOrders_24 : decode cX3_tripByOrders 24 = .ok (.aload_n 0, 1) := by decide +kernel
theorem dX3_tripByOrders_25 : decode cX3_tripByOrders 25 = .ok (.getfield 21, 3) := by decide +kernel
theorem dX3_tripByOrders_28 : decode cX3_tripByOrders 28 = .ok (.getfield 224, 3) := by decide +kernel
theorem dX3_tripByOrders_31 : decode cX3_tripByOrders 31 = .ok (.iload_n 2, 1) := by decide +kernel
theorem dX3_tripByOrders_32 : decode cX3_tripByOrders 32 = .ok (.aload_n 0, 1) := by decide +kernel
theorem dX3_tripByOrders_33 : decode cX3_tripByOrders 33 = .ok (.iload_n 1, 1) := by decide +kernel
theorem dX3_tripByOrders_34 : decode cX3_tripByOrders 34 = .ok (.invokevirtual 214, 3) := by decide +kernel
theorem dX3_tripByOrders_37 : decode cX3_tripByOrders 37 = .ok (.invokestatic 227, 3) := by decide +kernel
theorem dX3_tripByOrders_40 : decode cX3_tripByOrders 40 = .ok (.ireturn, 1) := by decide +kernel
set_option maxRecDepth 100000 in
set_option maxHeartbeats 4000000 in
theorem c_tripByOrders {l : Launch} {g : Nat → Nat} {M : LH} (htr : l.stackTraces = false) {kd : Nat → Nat} {r a : Nat} {ad : Nat → Nat} {sl le : Int32 → Nat} {fg tp : Int32} {F : Nat → Int32 → Int32} {σ : Int32 → Int32} (hC : StR kd r M a ad sl le fg tp F σ) {q : Nat → Nat} {D : Nat} (hK : Dk kd D r M a q) {k : Int32} (hk0 : 0 ≤ k) (hk : k < σ 6) : K_X3_tripByOrders l g 10 0 0 [.ref (q 0), .int k] M (RI (fun v M9 => ∃ f', (∀ s, 0 ≤ s → s < σ 5 → NX σ 2560 s f') ∧ v = rF f' (sd σ k 1) 7 (sd σ k 1) (goN σ k (σ 7).toNatClampNeg &&& (sbit (sd σ k 1) ^^^ -1)) ∧ Dk kd D r M9 a q ∧ Frm kd D M M9) nX) := by
  refine Ko_X3_tripByOrders htr (fun X => ?_)
  have hC0 := hC
  have hK0 := hK
  obtain ⟨hSt, hRo, hSR, hLR, hSl, hLe, hkd, -, ⟨-, hRd, hSd, hLt⟩, hG⟩ := hC
  obtain ⟨hDk, hDs, ⟨f1, hB1⟩, ⟨f2, hB2⟩, hBl, ⟨f3, hB3⟩, hRt, ⟨f4, hB4⟩, hkD, hn34, hDr⟩ := hK
  have hG0 := hG
  obtain ⟨hg1, hg2, hg3, hg4, hg5, hg6, hg7, hg8, hgL, hgS, -⟩ := hG
  have k3 : k < 3 := by clear hgL hgS hRd hSd hLt hLe hSl; lia
  obtain ⟨y0, y1, y2⟩ := hSd k hk0 hk
  obtain ⟨u0, u1, u2, u3, -⟩ := hgS k hk0 hk
  obtain ⟨j, hj, hG9⟩ := goals_in hG0 hk0 hk
  have hkb : ¬ kd (q 4) = r := fun z => hDr (hkD.2.2.2.1.symm.trans z)
  refine v_aload_n dX3_tripByOrders_0 rfl rfl ?_
  refine gf_X3_21 dX3_tripByOrders_1 rfl hDk ?_
  refine v_aload_n dX3_tripByOrders_4 rfl rfl ?_
  refine gf_X3_12 dX3_tripByOrders_5 rfl hDk ?_
  refine k_X3_221 dX3_tripByOrders_8 rfl (c_allowMoreStations htr hC0 hDs hB2 hkb) hDs (Nat.le_of_ble_eq_true rfl) (by omega) (by omega) (Nat.le_of_ble_eq_true rfl) (fun M9 h9 => ?_) (fun _ _ h9 => h9.elim)
  obtain ⟨f', hq, e9⟩ := h9
  subst M9
  have hK1 := hK0.row hB2 f'
  have hC1 := StR.kept hC0 (fun z => hkb z.symm) (Frm.up (kd := kd) (M := M) (e := ia 49 f') (rfl : kd (q 4) = kd (q 4)))
  have hF1 : Frm kd D M (hup M (q 4) (ia 49 f')) := Frm.up hkD.2.2.2.1
  obtain ⟨tSt, -, tSR, -, tSl, -⟩ := id hC1
  obtain ⟨tDk, tDs, -⟩ := id hK1
  refine v_aload_n dX3_tripByOrders_11 rfl rfl ?_
  refine gf_X3_12 dX3_tripByOrders_12 rfl tDk ?_
  refine gf_X3_77 dX3_tripByOrders_15 rfl tSt ?_
  refine v_iload_n dX3_tripByOrders_18 rfl rfl ?_
  refine v_aald1 dX3_tripByOrders_19 tSR hk0 k3 rfl ?_
  refine gf_X3_86 dX3_tripByOrders_20 rfl (tSl k hk0 k3) ?_
  rw [y1]
  refine v_istore_2 dX3_tripByOrders_23 ?_
  refine v_aload_n dX3_tripByOrders_24 rfl rfl ?_
  refine gf_X3_21 dX3_tripByOrders_25 rfl tDk ?_
  refine gf_X3_224 dX3_tripByOrders_28 rfl tDs ?_
  refine v_iload_n dX3_tripByOrders_31 rfl rfl ?_
  refine v_aload_n dX3_tripByOrders_32 rfl rfl ?_
  refine v_iload_n dX3_tripByOrders_33 rfl rfl ?_
  refine k_X3_214 dX3_tripByOrders_34 rfl (c_goalsOf htr hC1 hK1 hk0 hk) tDk (Nat.le_of_ble_eq_true rfl) (by omega) (by omega) (Nat.le_of_ble_eq_true rfl) (fun r34 M9 h9 => ?_) (fun _ _ h9 => h9.elim)
  obtain ⟨rfl, e9⟩ := h9
  subst M9
  rw [hG9]
  refine k_X3_227 dX3_tripByOrders_37 rfl (c_shortestByOrders htr hup_s u2 (by clear hgL hgS hRd hSd hLt hLe hSl tSl; lia) hj) (Nat.le_of_ble_eq_true rfl) (by omega) (by omega) (Nat.le_of_ble_eq_true rfl) (fun r37 M9 h9 => ?_) (fun _ _ h9 => h9.elim)
  obtain ⟨rfl, e9⟩ := h9
  subst M9
  exact v_iret dX3_tripByOrders_40 rfl ⟨f', hq, rfl, hK1, hF1⟩ (by omega) (by omega)
