/-! ===== the reference: more about letters; codes; ranks ===== -/
theorem dX12_isOpen_0 : decode cX12_isOpen 0 = .ok (.aload_n 0, 1) := by decide +kernel
theorem dX12_isOpen_1 : decode cX12_isOpen 1 = .ok (.iload_n 1, 1) := by decide +kernel
theorem dX12_isOpen_2 : decode cX12_isOpen 2 = .ok (.iconst 5, 1) := by decide +kernel
theorem dX12_isOpen_3 : decode cX12_isOpen 3 = .ok (.invokevirtual 180, 3) := by decide +kernel
theorem dX12_isOpen_6 : decode cX12_isOpen 6 = .ok (.istore_n 2, 1) := by decide +kernel
theorem dX12_isOpen_7 : decode cX12_isOpen 7 = .ok (.aload_n 0, 1) := by decide +kernel
theorem dX12_isOpen_8 : decode cX12_isOpen 8 = .ok (.getfield 56, 3) := by decide +kernel
theorem dX12_isOpen_11 : decode cX12_isOpen 11 = .ok (.ifCond .ne 11, 3) := by decide +kernel
theorem dX12_isOpen_14 : decode cX12_isOpen 14 = .ok (.iload_n 2, 1) := by decide +kernel
theorem dX12_isOpen_15 : decode cX12_isOpen 15 = .ok (.ifCond .ne 7, 3) := by decide +kernel
theorem dX12_isOpen_18 : decode cX12_isOpen 18 = .ok (.iconst 1, 1) := by decide +kernel
theorem dX12_isOpen_19 : decode cX12_isOpen 19 = .ok (.goto 4, 3) := by decide +kernel
theorem dX12_isOpen_22 : decode cX12_isOpen 22 = .ok (.iconst 0, 1) := by decide +kernel
theorem dX12_isOpen_23 : decode cX12_isOpen 23 = .ok (.ireturn, 1) := by decide +kernel
set_option maxRecDepth 100000 in
set_option maxHeartbeats 4000000 in
theorem r_isOpen {l : Launch} {g : Nat → Nat} {M : LH} (htr : l.stackTraces = false) {kd : Nat → Nat} {r m : Nat} {w : Nat → Nat} {t ch ea fl sv bf tn he en ln wr dg : Int32} {v b4 sa pa fr th bs tx li lf to : Int32 → Int32} (hC : Md kd r M m w t ch ea fl sv bf tn he en ln wr dg v b4 sa pa fr th bs tx li lf to) (hG : Good v) (id : Int32) : K_X12_isOpen l g 3 0 0 [.ref m, .int id] M (RI (fun x M9 => (((¬ find v id = -1) ∧ x = (if lt v (find v id) 5 = 0 then 1 else 0) ∧ Md kd r M9 m w 0 ch ea fl sv bf tn he en ln wr dg v b4 sa pa fr th bs tx li lf to) ∨ (¬ ((¬ find v id = -1)) ∧ x = 0 ∧ Md kd r M9 m w 1 ch ea fl sv bf tn he en ln wr dg v b4 sa pa fr th bs tx li lf to)) ∧ Frm kd r M M9) nX) := by
  refine Ko_X12_isOpen htr (fun X => ?_)
  obtain ⟨hMo, hw5, hw6, hw7, hw8, hw9, hw10, hw11, hw13, hw14, hw15, hw16, hw17, hw18, -⟩ := _root_.id hC
  have hF : Frm kd r M M := Frm.rf
  obtain ⟨hg1, hg2, hg3, hg4, hg5, hg6, hg7, hg8, hgL, hgS, -⟩ := _root_.id hG
  clear hgL hgS
  refine v_aload_n dX12_isOpen_0 rfl rfl ?_
  refine v_iload_n dX12_isOpen_1 rfl rfl ?_
  refine v_iconst (v := 5) dX12_isOpen_2 (by decide) ?_
  refine k_X12_180 dX12_isOpen_3 rfl (r_tellsLetter htr hC hG id (by decide) (by decide)) hMo (Nat.le_of_ble_eq_true rfl) (by omega) (by omega) (Nat.le_of_ble_eq_true rfl) (fun r3 M9 h9 => ?_) (fun _ _ h9 => h9.elim)
  obtain ⟨h9, hF9⟩ := h9
  have hF := Frm.tr hF hF9
  rcases h9 with ⟨hid, rfl, hC⟩ | ⟨hid, rfl, hC⟩
  · obtain ⟨hMo, hw5, hw6, hw7, hw8, hw9, hw10, hw11, hw13, hw14, hw15, hw16, hw17, hw18, -⟩ := _root_.id hC
    refine v_istore_2 dX12_isOpen_6 ?_
    refine v_aload_n dX12_isOpen_7 rfl rfl ?_
    refine gf_X12_56 dX12_isOpen_8 rfl hMo ?_
    refine v_if_ne (tgt := 22) dX12_isOpen_11 (by decide) (fun h11 => ?_) (fun h11 => ?_)
    · refine v_iconst (v := 0) dX12_isOpen_22 (by decide) ?_
      exact v_zret dX12_isOpen_23 rfl (by first | rfl | assumption) (by first | (exfalso; revert h11; decide) | exact ⟨Or.inl ⟨hid, (if_neg h15).symm, hC⟩, hF⟩ | exact ⟨Or.inl ⟨hid, (if_pos h15).symm, hC⟩, hF⟩ | exact ⟨Or.inl ⟨hid, (if_pos (Classical.not_not.mp h15)).symm, hC⟩, hF⟩) (by omega) (by omega)
    · refine v_iload_n dX12_isOpen_14 rfl rfl ?_
      refine v_if_ne (tgt := 22) dX12_isOpen_15 (by decide) (fun h15 => ?_) (fun h15 => ?_)
      · refine v_iconst (v := 0) dX12_isOpen_22 (by decide) ?_
        exact v_zret dX12_isOpen_23 rfl (by first | rfl | assumption) (by first | (exfalso; revert h11; decide) | exact ⟨Or.inl ⟨hid, (if_neg h15).symm, hC⟩, hF⟩ | exact ⟨Or.inl ⟨hid, (if_pos h15).symm, hC⟩, hF⟩ | exact ⟨Or.inl ⟨hid, (if_pos (Classical.not_not.mp h15)).symm, hC⟩, hF⟩) (by omega) (by omega)
      · refine v_iconst (v := 1) dX12_isOpen_18 (by decide) ?_
        refine v_goto (tgt := 23) dX12_isOpen_19 (by decide) ?_
        exact v_zret dX12_isOpen_23 rfl (by first | rfl | assumption) (by first | (exfalso; revert h11; decide) | exact ⟨Or.inl ⟨hid, (if_neg h15).symm, hC⟩, hF⟩ | exact ⟨Or.inl ⟨hid, (if_pos h15).symm, hC⟩, hF⟩ | exact ⟨Or.inl ⟨hid, (if_pos (Classical.not_not.mp h15)).symm, hC⟩, hF⟩) (by omega) (by omega)
  · obtain ⟨hMo, hw5, hw6, hw7, hw8, hw9, hw10, hw11, hw13, hw14, hw15, hw16, hw17, hw18, -⟩ := _root_.id hC
    refine v_istore_2 dX12_isOpen_6 ?_
    refine v_aload_n dX12_isOpen_7 rfl rfl ?_
    refine gf_X12_56 dX12_isOpen_8 rfl hMo ?_
    refine v_if_ne (tgt := 22) dX12_isOpen_11 (by decide) (fun h11 => ?_) (fun h11 => ?_)
    · refine v_iconst (v := 0) dX12_isOpen_22 (by decide) ?_
      exact v_zret dX12_isOpen_23 rfl (by first | rfl | assumption) (by first | (exfalso; revert h11; decide) | exact ⟨Or.inr ⟨hid, rfl, hC⟩, hF⟩) (by omega) (by omega)
    · refine v_iload_n dX12_isOpen_14 rfl rfl ?_
      refine v_if_ne (tgt := 22) dX12_isOpen_15 (by decide) (fun h15 => ?_) (fun h15 => ?_)
      · refine v_iconst (v := 0) dX12_isOpen_22 (by decide) ?_
        exact v_zret dX12_isOpen_23 rfl (by first | rfl | assumption) (by first | (exfalso; revert h11; decide) | exact ⟨Or.inr ⟨hid, rfl, hC⟩, hF⟩) (by omega) (by omega)
      · refine v_iconst (v := 1) dX12_isOpen_18 (by decide) ?_
        refine v_goto (tgt := 23) dX12_isOpen_19 (by decide) ?_
        exact v_zret dX12_isOpen_23 rfl (by first | rfl | assumption) (by first | (exfalso; revert h11; decide) | exact ⟨Or.inr ⟨hid, rfl, hC⟩, hF⟩) (by omega) (by omega)
theorem dX12_sledgeOf_0 : decode cX12_sledgeOf 0 = .ok (.aload_n 0, 1) := by decide +kernel
theorem dX12_sledgeOf_1 : decode cX12_sledgeOf 1 = .ok (.iload_n 1, 1) := by decide +kernel
theorem dX12_sledgeOf_2 : decode cX12_sledgeOf 2 = .ok (.bipush 6, 2) := by decide +kernel
theorem dX12_sledgeOf_4 : decode cX12_sledgeOf 4 = .ok (.invokevirtual 180, 3) := by decide +kernel
theorem dX12_sledgeOf_7 : decode cX12_sledgeOf 7 = .ok (.istore_n 2, 1) := by decide +kernel
theorem dX12_sledgeOf_8 : decode cX12_sledgeOf 8 = .ok (.aload_n 0, 1) := by decide +kernel
theorem dX12_sledgeOf_9 : decode cX12_sledgeOf 9 = .ok (.getfield 56, 3) := by decide +kernel
theorem dX12_sledgeOf_12 : decode cX12_sledgeOf 12 = .ok (.ifCond .eq 5, 3) := by decide +kernel
theorem dX12_sledgeOf_15 : decode cX12_sledgeOf 15 = .ok (.iconst 0, 1) := by decide +kernel
theorem dX12_sledgeOf_16 : decode cX12_sledgeOf 16 = .ok (.ireturn, 1) := by decide +kernel
theorem dX12_sledgeOf_17 : decode cX12_sledgeOf 17 = .ok (.iload_n 2, 1) := by decide +kernel
theorem dX12_sledgeOf_18 : decode cX12_sledgeOf 18 = .ok (.bipush 10, 2) := by decide +kernel
theorem dX12_sledgeOf_20 : decode cX12_sledgeOf 20 = .ok (.if_icmp .lt 10, 3) := by decide +kernel
theorem dX12_sledgeOf_23 : decode cX12_sledgeOf 23 = .ok (.iload_n 2, 1) := by decide +kernel
theorem dX12_sledgeOf_24 : decode cX12_sledgeOf 24 = .ok (.bipush 10, 2) := by decide +kernel
theorem dX12_sledgeOf_26 : decode cX12_sledgeOf 26 = .ok (.isub, 1) := by decide +kernel
theorem dX12_sledgeOf_27 : decode cX12_sledgeOf 27 = .ok (.goto 8, 3) := by decide +kernel
theorem dX12_sledgeOf_30 : decode cX12_sledgeOf 30 = .ok (.aload_n 0, 1) := by decide +kernel
theorem dX12_sledgeOf_31 : decode cX12_sledgeOf 31 = .ok (.iconst 1, 1) := by decide +kernel
theorem dX12_sledgeOf_32 : decode cX12_sledgeOf 32 = .ok (.invokevirtual 74, 3) := by decide +kernel
theorem dX12_sledgeOf_35 : decode cX12_sledgeOf 35 = .ok (.ireturn, 1) := by decide +kernel
set_option maxRecDepth 100000 in
set_option maxHeartbeats 4000000 in
theorem r_sledgeOf {l : Launch} {g : Nat → Nat} {M : LH} (htr : l.stackTraces = false) {kd : Nat → Nat} {r m : Nat} {w : Nat → Nat} {t ch ea fl sv bf tn he en ln wr dg : Int32} {v b4 sa pa fr th bs tx li lf to : Int32 → Int32} (hC : Md kd r M m w t ch ea fl sv bf tn he en ln wr dg v b4 sa pa fr th bs tx li lf to) (hG : Good v) (id : Int32) : K_X12_sledgeOf l g 3 0 0 [.ref m, .int id] M (RI (fun x M9 => (((¬ find v id = -1) ∧ 10 ≤ lt v (find v id) 6 ∧ x = lt v (find v id) 6 - 10 ∧ Md kd r M9 m w 0 ch ea fl sv bf tn he en ln wr dg v b4 sa pa fr th bs tx li lf to) ∨ (¬ ((¬ find v id = -1) ∧ 10 ≤ lt v (find v id) 6) ∧ x = 0 ∧ Md kd r M9 m w 1 ch ea fl sv bf tn he en ln wr dg v b4 sa pa fr th bs tx li lf to)) ∧ Frm kd r M M9) nX) := by
  refine Ko_X12_sledgeOf htr (fun X => ?_)
  obtain ⟨hMo, hw5, hw6, hw7, hw8, hw9, hw10, hw11, hw13, hw14, hw15, hw16, hw17, hw18, -⟩ := _root_.id hC
  have hF : Frm kd r M M := Frm.rf
  obtain ⟨hg1, hg2, hg3, hg4, hg5, hg6, hg7, hg8, hgL, hgS, -⟩ := _root_.id hG
  clear hgL hgS
  refine v_aload_n dX12_sledgeOf_0 rfl rfl ?_
  refine v_iload_n dX12_sledgeOf_1 rfl rfl ?_
  refine v_bipush (v := (6)) dX12_sledgeOf_2 (by decide) ?_
  refine k_X12_180 dX12_sledgeOf_4 rfl (r_tellsLetter htr hC hG id (by decide) (by decide)) hMo (Nat.le_of_ble_eq_true rfl) (by omega) (by omega) (Nat.le_of_ble_eq_true rfl) (fun r4 M9 h9 => ?_) (fun _ _ h9 => h9.elim)
  obtain ⟨h9, hF9⟩ := h9
  have hF := Frm.tr hF hF9
  rcases h9 with ⟨hid, rfl, hC⟩ | ⟨hid, rfl, hC⟩
  · obtain ⟨hMo, hw5, hw6, hw7, hw8, hw9, hw10, hw11, hw13, hw14, hw15, hw16, hw17, hw18, -⟩ := _root_.id hC
    refine v_istore_2 dX12_sledgeOf_7 ?_
    refine v_aload_n dX12_sledgeOf_8 rfl rfl ?_
    refine gf_X12_56 dX12_sledgeOf_9 rfl hMo ?_
    refine v_if_eq (tgt := 17) dX12_sledgeOf_12 (by decide) (fun h12 => ?_) (fun h12 => ?_)
    · refine v_iload_n dX12_sledgeOf_17 rfl rfl ?_
      refine v_bipush (v := (10)) dX12_sledgeOf_18 (by decide) ?_
      refine v_icmp_lt (tgt := 30) dX12_sledgeOf_20 (by decide) (fun h20 => ?_) (fun h20 => ?_)
      · refine v_aload_n dX12_sledgeOf_30 rfl rfl ?_
        refine v_iconst (v := 1) dX12_sledgeOf_31 (by decide) ?_
        refine k_X12_74 dX12_sledgeOf_32 rfl (r_fail htr hC 1) hMo (Nat.le_of_ble_eq_true rfl) (by omega) (by omega) (Nat.le_of_ble_eq_true rfl) (fun r32 M9 h9 => ?_) (fun _ _ h9 => h9.elim)
        obtain ⟨rfl, hC, hF9⟩ := h9
        have hF := Frm.tr hF hF9
        exact v_iret dX12_sledgeOf_35 rfl (by first | (exfalso; revert h12; decide) | exact ⟨Or.inl ⟨hid, Int32.not_lt.mp h20, rfl, hC⟩, hF⟩ | exact ⟨Or.inr ⟨(fun z => absurd z.2 (Int32.not_le.mpr h20)), rfl, hC⟩, hF⟩) (by omega) (by omega)
      · refine v_iload_n dX12_sledgeOf_23 rfl rfl ?_
        refine v_bipush (v := (10)) dX12_sledgeOf_24 (by decide) ?_
        refine v_isub dX12_sledgeOf_26 ?_
        refine v_goto (tgt := 35) dX12_sledgeOf_27 (by decide) ?_
        exact v_iret dX12_sledgeOf_35 rfl (by first | (exfalso; revert h12; decide) | exact ⟨Or.inl ⟨hid, Int32.not_lt.mp h20, rfl, hC⟩, hF⟩ | exact ⟨Or.inr ⟨(fun z => absurd z.2 (Int32.not_le.mpr h20)), rfl, hC⟩, hF⟩) (by omega) (by omega)
    · refine v_iconst (v := 0) dX12_sledgeOf_15 (by decide) ?_
      exact v_iret dX12_sledgeOf_16 rfl (by first | (exfalso; revert h12; decide) | exact ⟨Or.inl ⟨hid, Int32.not_lt.mp h20, rfl, hC⟩, hF⟩ | exact ⟨Or.inr ⟨(fun z => absurd z.2 (Int32.not_le.mpr h20)), rfl, hC⟩, hF⟩) (by omega) (by omega)
  · obtain ⟨hMo, hw5, hw6, hw7, hw8, hw9, hw10, hw11, hw13, hw14, hw15, hw16, hw17, hw18, -⟩ := _root_.id hC
    refine v_istore_2 dX12_sledgeOf_7 ?_
    refine v_aload_n dX12_sledgeOf_8 rfl rfl ?_
    refine gf_X12_56 dX12_sledgeOf_9 rfl hMo ?_
    refine v_if_eq (tgt := 17) dX12_sledgeOf_12 (by decide) (fun h12 => ?_) (fun h12 => ?_)
    · refine v_iload_n dX12_sledgeOf_17 rfl rfl ?_
      refine v_bipush (v := (10)) dX12_sledgeOf_18 (by decide) ?_
      refine v_icmp_lt (tgt := 30) dX12_sledgeOf_20 (by decide) (fun h20 => ?_) (fun h20 => ?_)
      · refine v_aload_n dX12_sledgeOf_30 rfl rfl ?_
        refine v_iconst (v := 1) dX12_sledgeOf_31 (by decide) ?_
        refine k_X12_74 dX12_sledgeOf_32 rfl (r_fail htr hC 1) hMo (Nat.le_of_ble_eq_true rfl) (by omega) (by omega) (Nat.le_of_ble_eq_true rfl) (fun r32 M9 h9 => ?_) (fun _ _ h9 => h9.elim)
        obtain ⟨rfl, hC, hF9⟩ := h9
        have hF := Frm.tr hF hF9
        exact v_iret dX12_sledgeOf_35 rfl (by first | (exfalso; revert h12; decide) | exact ⟨Or.inr ⟨(fun z => hid z.1), rfl, hC⟩, hF⟩) (by omega) (by omega)
      · refine v_iload_n dX12_sledgeOf_23 rfl rfl ?_
        refine v_bipush (v := (10)) dX12_sledgeOf_24 (by decide) ?_
        refine v_isub dX12_sledgeOf_26 ?_
        refine v_goto (tgt := 35) dX12_sledgeOf_27 (by decide) ?_
        exact v_iret dX12_sledgeOf_35 rfl (by first | (exfalso; revert h12; decide) | exact ⟨Or.inr ⟨(fun z => hid z.1), rfl, hC⟩, hF⟩) (by omega) (by omega)
    · refine v_iconst (v := 0) dX12_sledgeOf_15 (by decide) ?_
      exact v_iret dX12_sledgeOf_16 rfl (by first | (exfalso; revert h12; decide) | exact ⟨Or.inr ⟨(fun z => hid z.1), rfl, hC⟩, hF⟩) (by omega) (by omega)
theorem dX12_stationOfLetter_0 : decode cX12_stationOfLetter 0 = .ok (.aload_n 0, 1) := by decide +kernel
theorem dX12_stationOfLetter_1 : decode cX12_stationOfLetter 1 = .ok (.iload_n 1, 1) := by decide +kernel
theorem dX12_stationOfLetter_2 : decode cX12_stationOfLetter 2 = .ok (.bipush 6, 2) := by decide +kernel
theorem dX12_stationOfLetter_4 : decode cX12_stationOfLetter 4 = .ok (.invokevirtual 180, 3) := by decide +kernel
theorem dX12_stationOfLetter_7 : decode cX12_stationOfLetter 7 = .ok (.istore_n 2, 1) := by decide +kernel
theorem dX12_stationOfLetter_8 : decode cX12_stationOfLetter 8 = .ok (.aload_n 0, 1) := by decide +kernel
theorem dX12_stationOfLetter_9 : decode cX12_stationOfLetter 9 = .ok (.getfield 56, 3) := by decide +kernel
theorem dX12_stationOfLetter_12 : decode cX12_stationOfLetter 12 = .ok (.ifCond .eq 5, 3) := by decide +kernel
theorem dX12_stationOfLetter_15 : decode cX12_stationOfLetter 15 = .ok (.iconst 0, 1) := by decide +kernel
theorem dX12_stationOfLetter_16 : decode cX12_stationOfLetter 16 = .ok (.ireturn, 1) := by decide +kernel
theorem dX12_stationOfLetter_17 : decode cX12_stationOfLetter 17 = .ok (.iload_n 2, 1) := by decide +kernel
theorem dX12_stationOfLetter_18 : decode cX12_stationOfLetter 18 = .ok (.bipush 10, 2) := by decide +kernel
theorem dX12_stationOfLetter_20 : decode cX12_stationOfLetter 20 = .ok (.if_icmp .ge 7, 3) := by decide +kernel
theorem dX12_stationOfLetter_23 : decode cX12_stationOfLetter 23 = .ok (.iload_n 2, 1) := by decide +kernel
theorem dX12_stationOfLetter_24 : decode cX12_stationOfLetter 24 = .ok (.goto 8, 3) := by decide +kernel
theorem dX12_stationOfLetter_27 : decode cX12_stationOfLetter 27 = .ok (.aload_n 0, 1) := by decide +kernel
theorem dX12_stationOfLetter_28 : decode cX12_stationOfLetter 28 = .ok (.iconst 1, 1) := by decide +kernel
theorem dX12_stationOfLetter_29 : decode cX12_stationOfLetter 29 = .ok (.invokevirtual 74, 3) := by decide +kernel
theorem dX12_stationOfLetter_32 : decode cX12_stationOfLetter 32 = .ok (.ireturn, 1) := by decide +kernel
set_option maxRecDepth 100000 in
set_option maxHeartbeats 4000000 in
theorem r_stationOfLetter {l : Launch} {g : Nat → Nat} {M : LH} (htr : l.stackTraces = false) {kd : Nat → Nat} {r m : Nat} {w : Nat → Nat} {t ch ea fl sv bf tn he en ln wr dg : Int32} {v b4 sa pa fr th bs tx li lf to : Int32 → Int32} (hC : Md kd r M m w t ch ea fl sv bf tn he en ln wr dg v b4 sa pa fr th bs tx li lf to) (hG : Good v) (id : Int32) : K_X12_stationOfLetter l g 3 0 0 [.ref m, .int id] M (RI (fun x M9 => (((¬ find v id = -1) ∧ lt v (find v id) 6 < 10 ∧ x = lt v (find v id) 6 ∧ Md kd r M9 m w 0 ch ea fl sv bf tn he en ln wr dg v b4 sa pa fr th bs tx li lf to) ∨ (¬ ((¬ find v id = -1) ∧ lt v (find v id) 6 < 10) ∧ x = 0 ∧ Md kd r M9 m w 1 ch ea fl sv bf tn he en ln wr dg v b4 sa pa fr th bs tx li lf to)) ∧ Frm kd r M M9) nX) := by
  refine Ko_X12_stationOfLetter htr (fun X => ?_)
  obtain ⟨hMo, hw5, hw6, hw7, hw8, hw9, hw10, hw11, hw13, hw14, hw15, hw16, hw17, hw18, -⟩ := _root_.id hC
  have hF : Frm kd r M M := Frm.rf
  obtain ⟨hg1, hg2, hg3, hg4, hg5, hg6, hg7, hg8, hgL, hgS, -⟩ := _root_.id hG
  clear hgL hgS
  refine v_aload_n dX12_stationOfLetter_0 rfl rfl ?_
  refine v_iload_n dX12_stationOfLetter_1 rfl rfl ?_
  refine v_bipush (v := (6)) dX12_stationOfLetter_2 (by decide) ?_
  refine k_X12_180 dX12_stationOfLetter_4 rfl (r_tellsLetter htr hC hG id (by decide) (by decide)) hMo (Nat.le_of_ble_eq_true rfl) (by omega) (by omega) (Nat.le_of_ble_eq_true rfl) (fun r4 M9 h9 => ?_) (fun _ _ h9 => h9.elim)
  obtain ⟨h9, hF9⟩ := h9
  have hF := Frm.tr hF hF9
  rcases h9 with ⟨hid, rfl, hC⟩ | ⟨hid, rfl, hC⟩
  · obtain ⟨hMo, hw5, hw6, hw7, hw8, hw9, hw10, hw11, hw13, hw14, hw15, hw16, hw17, hw18, -⟩ := _root_.id hC
    refine v_istore_2 dX12_stationOfLetter_7 ?_
    refine v_aload_n dX12_stationOfLetter_8 rfl rfl ?_
    refine gf_X12_56 dX12_stationOfLetter_9 rfl hMo ?_
    refine v_if_eq (tgt := 17) dX12_stationOfLetter_12 (by decide) (fun h12 => ?_) (fun h12 => ?_)
    · refine v_iload_n dX12_stationOfLetter_17 rfl rfl ?_
      refine v_bipush (v := (10)) dX12_stationOfLetter_18 (by decide) ?_
      refine v_icmp_ge (tgt := 27) dX12_stationOfLetter_20 (by decide) (fun h20 => ?_) (fun h20 => ?_)
      · refine v_aload_n dX12_stationOfLetter_27 rfl rfl ?_
        refine v_iconst (v := 1) dX12_stationOfLetter_28 (by decide) ?_
        refine k_X12_74 dX12_stationOfLetter_29 rfl (r_fail htr hC 1) hMo (Nat.le_of_ble_eq_true rfl) (by omega) (by omega) (Nat.le_of_ble_eq_true rfl) (fun r29 M9 h9 => ?_) (fun _ _ h9 => h9.elim)
        obtain ⟨rfl, hC, hF9⟩ := h9
        have hF := Frm.tr hF hF9
        exact v_iret dX12_stationOfLetter_32 rfl (by first | (exfalso; revert h12; decide) | exact ⟨Or.inl ⟨hid, Int32.not_le.mp h20, rfl, hC⟩, hF⟩ | exact ⟨Or.inr ⟨(fun z => absurd z.2 (Int32.not_lt.mpr h20)), rfl, hC⟩, hF⟩) (by omega) (by omega)
      · refine v_iload_n dX12_stationOfLetter_23 rfl rfl ?_
        refine v_goto (tgt := 32) dX12_stationOfLetter_24 (by decide) ?_
        exact v_iret dX12_stationOfLetter_32 rfl (by first | (exfalso; revert h12; decide) | exact ⟨Or.inl ⟨hid, Int32.not_le.mp h20, rfl, hC⟩, hF⟩ | exact ⟨Or.inr ⟨(fun z => absurd z.2 (Int32.not_lt.mpr h20)), rfl, hC⟩, hF⟩) (by omega) (by omega)
    · refine v_iconst (v := 0) dX12_stationOfLetter_15 (by decide) ?_
      exact v_iret dX12_stationOfLetter_16 rfl (by first | (exfalso; revert h12; decide) | exact ⟨Or.inl ⟨hid, Int32.not_le.mp h20, rfl, hC⟩, hF⟩ | exact ⟨Or.inr ⟨(fun z => absurd z.2 (Int32.not_lt.mpr h20)), rfl, hC⟩, hF⟩) (by omega) (by omega)
  · obtain ⟨hMo, hw5, hw6, hw7, hw8, hw9, hw10, hw11, hw13, hw14, hw15, hw16, hw17, hw18, -⟩ := _root_.id hC
    refine v_istore_2 dX12_stationOfLetter_7 ?_
    refine v_aload_n dX12_stationOfLetter_8 rfl rfl ?_
    refine gf_X12_56 dX12_stationOfLetter_9 rfl hMo ?_
    refine v_if_eq (tgt := 17) dX12_stationOfLetter_12 (by decide) (fun h12 => ?_) (fun h12 => ?_)
    · refine v_iload_n dX12_stationOfLetter_17 rfl rfl ?_
      refine v_bipush (v := (10)) dX12_stationOfLetter_18 (by decide) ?_
      refine v_icmp_ge (tgt := 27) dX12_stationOfLetter_20 (by decide) (fun h20 => ?_) (fun h20 => ?_)
      · refine v_aload_n dX12_stationOfLetter_27 rfl rfl ?_
        refine v_iconst (v := 1) dX12_stationOfLetter_28 (by decide) ?_
        refine k_X12_74 dX12_stationOfLetter_29 rfl (r_fail htr hC 1) hMo (Nat.le_of_ble_eq_true rfl) (by omega) (by omega) (Nat.le_of_ble_eq_true rfl) (fun r29 M9 h9 => ?_) (fun _ _ h9 => h9.elim)
        obtain ⟨rfl, hC, hF9⟩ := h9
        have hF := Frm.tr hF hF9
        exact v_iret dX12_stationOfLetter_32 rfl (by first | (exfalso; revert h12; decide) | exact ⟨Or.inr ⟨(fun z => hid z.1), rfl, hC⟩, hF⟩) (by omega) (by omega)
      · refine v_iload_n dX12_stationOfLetter_23 rfl rfl ?_
        refine v_goto (tgt := 32) dX12_stationOfLetter_24 (by decide) ?_
        exact v_iret dX12_stationOfLetter_32 rfl (by first | (exfalso; revert h12; decide) | exact ⟨Or.inr ⟨(fun z => hid z.1), rfl, hC⟩, hF⟩) (by omega) (by omega)
    · refine v_iconst (v := 0) dX12_stationOfLetter_15 (by decide) ?_
      exact v_iret dX12_stationOfLetter_16 rfl (by first | (exfalso; revert h12; decide) | exact ⟨Or.inr ⟨(fun z => hid z.1), rfl, hC⟩, hF⟩) (by omega) (by omega)
theorem dX12_hoursUntilOpen_0 : decode cX12_hoursUntilOpen 0 = .ok (.aload_n 0, 1) := by decide +kernel
theorem dX12_hoursUntilOpen_1 : decode cX12_hoursUntilOpen 1 = .ok (.iload_n 1, 1) := by decide +kernel
theorem dX12_hoursUntilOpen_2 : decode cX12_hoursUntilOpen 2 = .ok (.iconst 5, 1) := by decide +kernel
theorem dX12_hoursUntilOpen_3 : decode cX12_hoursUntilOpen 3 = .ok (.invokevirtual 180, 3) := by decide +kernel
theorem dX12_hoursUntilOpen_6 : decode cX12_hoursUntilOpen 6 = .ok (.istore_n 2, 1) := by decide +kernel
theorem dX12_hoursUntilOpen_7 : decode cX12_hoursUntilOpen 7 = .ok (.aload_n 0, 1) := by decide +kernel
theorem dX12_hoursUntilOpen_8 : decode cX12_hoursUntilOpen 8 = .ok (.getfield 56, 3) := by decide +kernel
theorem dX12_hoursUntilOpen_11 : decode cX12_hoursUntilOpen 11 = .ok (.ifCond .ne 7, 3) := by decide +kernel
theorem dX12_hoursUntilOpen_14 : decode cX12_hoursUntilOpen 14 = .ok (.iload_n 2, 1) := by decide +kernel
theorem dX12_hoursUntilOpen_15 : decode cX12_hoursUntilOpen 15 = .ok (.ifCond .ne 5, 3) := by decide +kernel
theorem dX12_hoursUntilOpen_18 : decode cX12_hoursUntilOpen 18 = .ok (.iconst 0, 1) := by decide +kernel
theorem dX12_hoursUntilOpen_19 : decode cX12_hoursUntilOpen 19 = .ok (.ireturn, 1) := by decide +kernel
theorem dX12_hoursUntilOpen_20 : decode cX12_hoursUntilOpen 20 = .ok (.aload_n 0, 1) := by decide +kernel
theorem dX12_hoursUntilOpen_21 : decode cX12_hoursUntilOpen 21 = .ok (.getfield 16, 3) := by decide +kernel
theorem dX12_hoursUntilOpen_24 : decode cX12_hoursUntilOpen 24 = .ok (.iconst 1, 1) := by decide +kernel
theorem dX12_hoursUntilOpen_25 : decode cX12_hoursUntilOpen 25 = .ok (.iaload, 1) := by decide +kernel
theorem dX12_hoursUntilOpen_26 : decode cX12_hoursUntilOpen 26 = .ok (.ifCond .le 23, 3) := by decide +kernel
theorem dX12_hoursUntilOpen_29 : decode cX12_hoursUntilOpen 29 = .ok (.iload_n 2, 1) := by decide +kernel
theorem dX12_hoursUntilOpen_30 : decode cX12_hoursUntilOpen 30 = .ok (.aload_n 0, 1) := by decide +kernel
theorem dX12_hoursUntilOpen_31 : decode cX12_hoursUntilOpen 31 = .ok (.getfield 16, 3) := by decide +kernel
theorem dX12_hoursUntilOpen_34 : decode cX12_hoursUntilOpen 34 = .ok (.iconst 1, 1) := by decide +kernel
theorem dX12_hoursUntilOpen_35 : decode cX12_hoursUntilOpen 35 = .ok (.iaload, 1) := by decide +kernel
theorem dX12_hoursUntilOpen_36 : decode cX12_hoursUntilOpen 36 = .ok (.iadd, 1) := by decide +kernel
theorem dX12_hoursUntilOpen_37 : decode cX12_hoursUntilOpen 37 = .ok (.iconst 1, 1) := by decide +kernel
theorem dX12_hoursUntilOpen_38 : decode cX12_hoursUntilOpen 38 = .ok (.isub, 1) := by decide +kernel
theorem dX12_hoursUntilOpen_39 : decode cX12_hoursUntilOpen 39 = .ok (.aload_n 0, 1) := by decide +kernel
theorem dX12_hoursUntilOpen_40 : decode cX12_hoursUntilOpen 40 = .ok (.getfield 16, 3) := by decide +kernel
theorem dX12_hoursUntilOpen_43 : decode cX12_hoursUntilOpen 43 = .ok (.iconst 1, 1) := by decide +kernel
theorem dX12_hoursUntilOpen_44 : decode cX12_hoursUntilOpen 44 = .ok (.iaload, 1) := by decide +kernel
theorem dX12_hoursUntilOpen_45 : decode cX12_hoursUntilOpen 45 = .ok (.idiv, 1) := by decide +kernel
theorem dX12_hoursUntilOpen_46 : decode cX12_hoursUntilOpen 46 = .ok (.goto 8, 3) := by decide +kernel
theorem dX12_hoursUntilOpen_49 : decode cX12_hoursUntilOpen 49 = .ok (.aload_n 0, 1) := by decide +kernel
theorem dX12_hoursUntilOpen_50 : decode cX12_hoursUntilOpen 50 = .ok (.iconst 1, 1) := by decide +kernel
theorem dX12_hoursUntilOpen_51 : decode cX12_hoursUntilOpen 51 = .ok (.invokevirtual 74, 3) := by decide +kernel
theorem dX12_hoursUntilOpen_54 : decode cX12_hoursUntilOpen 54 = .ok (.ireturn, 1) := by decide +kernel
set_option maxRecDepth 100000 in
set_option maxHeartbeats 4000000 in
theorem r_hoursUntilOpen {l : Launch} {g : Nat → Nat} {M : LH} (htr : l.stackTraces = false) {kd : Nat → Nat} {r m : Nat} {w : Nat → Nat} {t ch ea fl sv bf tn he en ln wr dg : Int32} {v b4 sa pa fr th bs tx li lf to : Int32 → Int32} (hC : Md kd r M m w t ch ea fl sv bf tn he en ln wr dg v b4 sa pa fr th bs tx li lf to) (hG : Good v) (id : Int32) : K_X12_hoursUntilOpen l g 3 0 0 [.ref m, .int id] M (RI (fun x M9 => (((¬ find v id = -1) ∧ lt v (find v id) 5 = 0 ∧ x = 0 ∧ Md kd r M9 m w 0 ch ea fl sv bf tn he en ln wr dg v b4 sa pa fr th bs tx li lf to) ∨ ((¬ find v id = -1) ∧ ¬ lt v (find v id) 5 = 0 ∧ 0 < v 1 ∧ x = (lt v (find v id) 5 + v 1 - 1) / v 1 ∧ Md kd r M9 m w 0 ch ea fl sv bf tn he en ln wr dg v b4 sa pa fr th bs tx li lf to) ∨ (¬ ((¬ find v id = -1) ∧ (lt v (find v id) 5 = 0 ∨ 0 < v 1)) ∧ x = 0 ∧ Md kd r M9 m w 1 ch ea fl sv bf tn he en ln wr dg v b4 sa pa fr th bs tx li lf to)) ∧ Frm kd r M M9) nX) := by
  refine Ko_X12_hoursUntilOpen htr (fun X => ?_)
  obtain ⟨hMo, hw5, hw6, hw7, hw8, hw9, hw10, hw11, hw13, hw14, hw15, hw16, hw17, hw18, -⟩ := _root_.id hC
  have hF : Frm kd r M M := Frm.rf
  obtain ⟨hg1, hg2, hg3, hg4, hg5, hg6, hg7, hg8, hgL, hgS, -⟩ := _root_.id hG
  clear hgL hgS
  refine v_aload_n dX12_hoursUntilOpen_0 rfl rfl ?_
  refine v_iload_n dX12_hoursUntilOpen_1 rfl rfl ?_
  refine v_iconst (v := 5) dX12_hoursUntilOpen_2 (by decide) ?_
  refine k_X12_180 dX12_hoursUntilOpen_3 rfl (r_tellsLetter htr hC hG id (by decide) (by decide)) hMo (Nat.le_of_ble_eq_true rfl) (by omega) (by omega) (Nat.le_of_ble_eq_true rfl) (fun r3 M9 h9 => ?_) (fun _ _ h9 => h9.elim)
  obtain ⟨h9, hF9⟩ := h9
  have hF := Frm.tr hF hF9
  rcases h9 with ⟨hid, rfl, hC⟩ | ⟨hid, rfl, hC⟩
  · obtain ⟨hMo, hw5, hw6, hw7, hw8, hw9, hw10, hw11, hw13, hw14, hw15, hw16, hw17, hw18, -⟩ := _root_.id hC
    refine v_istore_2 dX12_hoursUntilOpen_6 ?_
    refine v_aload_n dX12_hoursUntilOpen_7 rfl rfl ?_
    refine gf_X12_56 dX12_hoursUntilOpen_8 rfl hMo ?_
    refine v_if_ne (tgt := 18) dX12_hoursUntilOpen_11 (by decide) (fun h11 => ?_) (fun h11 => ?_)
    · refine v_iconst (v := 0) dX12_hoursUntilOpen_18 (by decide) ?_
      exact v_iret dX12_hoursUntilOpen_19 rfl (by first | (exfalso; revert h11; decide) | exact ⟨Or.inl ⟨hid, (by first | exact h15 | exact Classical.not_not.mp h15), rfl, hC⟩, hF⟩ | exact ⟨Or.inr (Or.inl ⟨hid, h15, Int32.not_le.mp h26, rfl, hC⟩), hF⟩ | exact ⟨Or.inr (Or.inr ⟨(fun z => z.2.elim (fun y => h15 y) (fun y => absurd y (Int32.not_lt.mpr h26))), rfl, hC⟩), hF⟩) (by omega) (by omega)
    · refine v_iload_n dX12_hoursUntilOpen_14 rfl rfl ?_
      refine v_if_ne (tgt := 20) dX12_hoursUntilOpen_15 (by decide) (fun h15 => ?_) (fun h15 => ?_)
      · refine v_aload_n dX12_hoursUntilOpen_20 rfl rfl ?_
        refine gf_X12_16 dX12_hoursUntilOpen_21 rfl hMo ?_
        refine v_iconst (v := 1) dX12_hoursUntilOpen_24 (by decide) ?_
        refine v_iald dX12_hoursUntilOpen_25 hw5 (by lia) (by lia) ?_
        refine v_if_le (tgt := 49) dX12_hoursUntilOpen_26 (by decide) (fun h26 => ?_) (fun h26 => ?_)
        · refine v_aload_n dX12_hoursUntilOpen_49 rfl rfl ?_
          refine v_iconst (v := 1) dX12_hoursUntilOpen_50 (by decide) ?_
          refine k_X12_74 dX12_hoursUntilOpen_51 rfl (r_fail htr hC 1) hMo (Nat.le_of_ble_eq_true rfl) (by omega) (by omega) (Nat.le_of_ble_eq_true rfl) (fun r51 M9 h9 => ?_) (fun _ _ h9 => h9.elim)
          obtain ⟨rfl, hC, hF9⟩ := h9
          have hF := Frm.tr hF hF9
          exact v_iret dX12_hoursUntilOpen_54 rfl (by first | (exfalso; revert h11; decide) | exact ⟨Or.inl ⟨hid, (by first | exact h15 | exact Classical.not_not.mp h15), rfl, hC⟩, hF⟩ | exact ⟨Or.inr (Or.inl ⟨hid, h15, Int32.not_le.mp h26, rfl, hC⟩), hF⟩ | exact ⟨Or.inr (Or.inr ⟨(fun z => z.2.elim (fun y => h15 y) (fun y => absurd y (Int32.not_lt.mpr h26))), rfl, hC⟩), hF⟩) (by omega) (by omega)
        · refine v_iload_n dX12_hoursUntilOpen_29 rfl rfl ?_
          refine v_aload_n dX12_hoursUntilOpen_30 rfl rfl ?_
          refine gf_X12_16 dX12_hoursUntilOpen_31 rfl hMo ?_
          refine v_iconst (v := 1) dX12_hoursUntilOpen_34 (by decide) ?_
          refine v_iald dX12_hoursUntilOpen_35 hw5 (by lia) (by lia) ?_
          refine v_iadd dX12_hoursUntilOpen_36 ?_
          refine v_iconst (v := 1) dX12_hoursUntilOpen_37 (by decide) ?_
          refine v_isub dX12_hoursUntilOpen_38 ?_
          refine v_aload_n dX12_hoursUntilOpen_39 rfl rfl ?_
          refine gf_X12_16 dX12_hoursUntilOpen_40 rfl hMo ?_
          refine v_iconst (v := 1) dX12_hoursUntilOpen_43 (by decide) ?_
          refine v_iald dX12_hoursUntilOpen_44 hw5 (by lia) (by lia) ?_
          refine v_idiv dX12_hoursUntilOpen_45 (fun z => by rw [z] at h26; exact h26 (by decide)) ?_
          refine v_goto (tgt := 54) dX12_hoursUntilOpen_46 (by decide) ?_
          exact v_iret dX12_hoursUntilOpen_54 rfl (by first | (exfalso; revert h11; decide) | exact ⟨Or.inl ⟨hid, (by first | exact h15 | exact Classical.not_not.mp h15), rfl, hC⟩, hF⟩ | exact ⟨Or.inr (Or.inl ⟨hid, h15, Int32.not_le.mp h26, rfl, hC⟩), hF⟩ | exact ⟨Or.inr (Or.inr ⟨(fun z => z.2.elim (fun y => h15 y) (fun y => absurd y (Int32.not_lt.mpr h26))), rfl, hC⟩), hF⟩) (by omega) (by omega)
      · refine v_iconst (v := 0) dX12_hoursUntilOpen_18 (by decide) ?_
        exact v_iret dX12_hoursUntilOpen_19 rfl (by first | (exfalso; revert h11; decide) | exact ⟨Or.inl ⟨hid, (by first | exact h15 | exact Classical.not_not.mp h15), rfl, hC⟩, hF⟩ | exact ⟨Or.inr (Or.inl ⟨hid, h15, Int32.not_le.mp h26, rfl, hC⟩), hF⟩ | exact ⟨Or.inr (Or.inr ⟨(fun z => z.2.elim (fun y => h15 y) (fun y => absurd y (Int32.not_lt.mpr h26))), rfl, hC⟩), hF⟩) (by omega) (by omega)
  · obtain ⟨hMo, hw5, hw6, hw7, hw8, hw9, hw10, hw11, hw13, hw14, hw15, hw16, hw17, hw18, -⟩ := _root_.id hC
    refine v_istore_2 dX12_hoursUntilOpen_6 ?_
    refine v_aload_n dX12_hoursUntilOpen_7 rfl rfl ?_
    refine gf_X12_56 dX12_hoursUntilOpen_8 rfl hMo ?_
    refine v_if_ne (tgt := 18) dX12_hoursUntilOpen_11 (by decide) (fun h11 => ?_) (fun h11 => ?_)
    · refine v_iconst (v := 0) dX12_hoursUntilOpen_18 (by decide) ?_
      exact v_iret dX12_hoursUntilOpen_19 rfl (by first | (exfalso; revert h11; decide) | exact ⟨Or.inr (Or.inr ⟨(fun z => hid z.1), rfl, hC⟩), hF⟩) (by omega) (by omega)
    · refine v_iload_n dX12_hoursUntilOpen_14 rfl rfl ?_
      refine v_if_ne (tgt := 20) dX12_hoursUntilOpen_15 (by decide) (fun h15 => ?_) (fun h15 => ?_)
      · refine v_aload_n dX12_hoursUntilOpen_20 rfl rfl ?_
        refine gf_X12_16 dX12_hoursUntilOpen_21 rfl hMo ?_
        refine v_iconst (v := 1) dX12_hoursUntilOpen_24 (by decide) ?_
        refine v_iald dX12_hoursUntilOpen_25 hw5 (by lia) (by lia) ?_
        refine v_if_le (tgt := 49) dX12_hoursUntilOpen_26 (by decide) (fun h26 => ?_) (fun h26 => ?_)
        · refine v_aload_n dX12_hoursUntilOpen_49 rfl rfl ?_
          refine v_iconst (v := 1) dX12_hoursUntilOpen_50 (by decide) ?_
          refine k_X12_74 dX12_hoursUntilOpen_51 rfl (r_fail htr hC 1) hMo (Nat.le_of_ble_eq_true rfl) (by omega) (by omega) (Nat.le_of_ble_eq_true rfl) (fun r51 M9 h9 => ?_) (fun _ _ h9 => h9.elim)
          obtain ⟨rfl, hC, hF9⟩ := h9
          have hF := Frm.tr hF hF9
          exact v_iret dX12_hoursUntilOpen_54 rfl (by first | (exfalso; revert h11; decide) | exact ⟨Or.inr (Or.inr ⟨(fun z => hid z.1), rfl, hC⟩), hF⟩) (by omega) (by omega)
        · refine v_iload_n dX12_hoursUntilOpen_29 rfl rfl ?_
          refine v_aload_n dX12_hoursUntilOpen_30 rfl rfl ?_
          refine gf_X12_16 dX12_hoursUntilOpen_31 rfl hMo ?_
          refine v_iconst (v := 1) dX12_hoursUntilOpen_34 (by decide) ?_
          refine v_iald dX12_hoursUntilOpen_35 hw5 (by lia) (by lia) ?_
          refine v_iadd dX12_hoursUntilOpen_36 ?_
          refine v_iconst (v := 1) dX12_hoursUntilOpen_37 (by decide) ?_
          refine v_isub dX12_hoursUntilOpen_38 ?_
          refine v_aload_n dX12_hoursUntilOpen_39 rfl rfl ?_
          refine gf_X12_16 dX12_hoursUntilOpen_40 rfl hMo ?_
          refine v_iconst (v := 1) dX12_hoursUntilOpen_43 (by decide) ?_
          refine v_iald dX12_hoursUntilOpen_44 hw5 (by lia) (by lia) ?_
          refine v_idiv dX12_hoursUntilOpen_45 (fun z => by rw [z] at h26; exact h26 (by decide)) ?_
          refine v_goto (tgt := 54) dX12_hoursUntilOpen_46 (by decide) ?_
          exact v_iret dX12_hoursUntilOpen_54 rfl (by first | (exfalso; revert h11; decide) | exact ⟨Or.inr (Or.inr ⟨(fun z => hid z.1), rfl, hC⟩), hF⟩) (by omega) (by omega)
      · refine v_iconst (v := 0) dX12_hoursUntilOpen_18 (by decide) ?_
        exact v_iret dX12_hoursUntilOpen_19 rfl (by first | (exfalso; revert h11; decide) | exact ⟨Or.inr (Or.inr ⟨(fun z => hid z.1), rfl, hC⟩), hF⟩) (by omega) (by omega)
theorem dX12_code_0 : decode cX12_code 0 = .ok (.bipush 10, 2) := by decide +kernel
theorem dX12_code_2 : decode cX12_code 2 = .ok (.aload_n 0, 1) := by decide +kernel
theorem dX12_code_3 : decode cX12_code 3 = .ok (.getfield 16, 3) := by decide +kernel
theorem dX12_code_6 : decode cX12_code 6 = .ok (.iload_n 1, 1) := by decide +kernel
theorem dX12_code_7 : decode cX12_code 7 = .ok (.iconst 0, 1) := by decide +kernel
theorem dX12_code_8 : decode cX12_code 8 = .ok (.invokestatic 70, 3) := by decide +kernel
theorem dX12_code_11 : decode cX12_code 11 = .ok (.iaload, 1) := by decide +kernel
theorem dX12_code_12 : decode cX12_code 12 = .ok (.imul, 1) := by decide +kernel
theorem dX12_code_13 : decode cX12_code 13 = .ok (.aload_n 0, 1) := by decide +kernel
theorem dX12_code_14 : decode cX12_code 14 = .ok (.getfield 16, 3) := by decide +kernel
theorem dX12_code_17 : decode cX12_code 17 = .ok (.iload_n 1, 1) := by decide +kernel
theorem dX12_code_18 : decode cX12_code 18 = .ok (.iconst 1, 1) := by decide +kernel
theorem dX12_code_19 : decode cX12_code 19 = .ok (.invokestatic 70, 3) := by decide +kernel
theorem dX12_code_22 : decode cX12_code 22 = .ok (.iaload, 1) := by decide +kernel
theorem dX12_code_23 : decode cX12_code 23 = .ok (.iadd, 1) := by decide +kernel
theorem dX12_code_24 : decode cX12_code 24 = .ok (.istore_n 2, 1) := by decide +kernel
theorem dX12_code_25 : decode cX12_code 25 = .ok (.bipush 100, 2) := by decide +kernel
theorem dX12_code_27 : decode cX12_code 27 = .ok (.iload_n 2, 1) := by decide +kernel
theorem dX12_code_28 : decode cX12_code 28 = .ok (.imul, 1) := by decide +kernel
theorem dX12_code_29 : decode cX12_code 29 = .ok (.bipush 98, 2) := by decide +kernel
theorem dX12_code_31 : decode cX12_code 31 = .ok (.iadd, 1) := by decide +kernel
theorem dX12_code_32 : decode cX12_code 32 = .ok (.bipush 100, 2) := by decide +kernel
theorem dX12_code_34 : decode cX12_code 34 = .ok (.iload_n 2, 1) := by decide +kernel
theorem dX12_code_35 : decode cX12_code 35 = .ok (.imul, 1) := by decide +kernel
theorem dX12_code_36 : decode cX12_code 36 = .ok (.bipush 97, 2) := by decide +kernel
theorem dX12_code_38 : decode cX12_code 38 = .ok (.irem, 1) := by decide +kernel
theorem dX12_code_39 : decode cX12_code 39 = .ok (.isub, 1) := by decide +kernel
theorem dX12_code_40 : decode cX12_code 40 = .ok (.ireturn, 1) := by decide +kernel
set_option maxRecDepth 100000 in
set_option maxHeartbeats 4000000 in
theorem r_code {l : Launch} {g : Nat → Nat} {M : LH} (htr : l.stackTraces = false) {kd : Nat → Nat} {r m : Nat} {w : Nat → Nat} {t ch ea fl sv bf tn he en ln wr dg : Int32} {v b4 sa pa fr th bs tx li lf to : Int32 → Int32} (hC : Md kd r M m w t ch ea fl sv bf tn he en ln wr dg v b4 sa pa fr th bs tx li lf to) (hG : Good v) {i : Int32} (i0 : 0 ≤ i) (i1 : i < v 7) : K_X12_code l g 1 0 0 [.ref m, .int i] M (RI (fun x M9 => x = codeN (lt v i 0) (lt v i 1) ∧ M9 = M) nX) := by
  refine Ko_X12_code htr (fun X => ?_)
  obtain ⟨hMo, hw5, hw6, hw7, hw8, hw9, hw10, hw11, hw13, hw14, hw15, hw16, hw17, hw18, -⟩ := _root_.id hC
  have hF : Frm kd r M M := Frm.rf
  obtain ⟨hg1, hg2, hg3, hg4, hg5, hg6, hg7, hg8, hgL, hgS, -⟩ := _root_.id hG
  clear hgL hgS
  refine v_bipush (v := (10)) dX12_code_0 (by decide) ?_
  refine v_aload_n dX12_code_2 rfl rfl ?_
  refine gf_X12_16 dX12_code_3 rfl hMo ?_
  refine v_iload_n dX12_code_6 rfl rfl ?_
  refine v_iconst (v := 0) dX12_code_7 (by decide) ?_
  refine k_X12_70 dX12_code_8 rfl (r_of htr i 0) (Nat.le_of_ble_eq_true rfl) (by omega) (by omega) (Nat.le_of_ble_eq_true rfl) (fun r8 M9 h9 => ?_) (fun _ _ h9 => h9.elim)
  obtain ⟨rfl, e9⟩ := h9
  subst M9
  refine v_iald dX12_code_11 hw5 (by lia) (by lia) ?_
  refine v_imul dX12_code_12 ?_
  refine v_aload_n dX12_code_13 rfl rfl ?_
  refine gf_X12_16 dX12_code_14 rfl hMo ?_
  refine v_iload_n dX12_code_17 rfl rfl ?_
  refine v_iconst (v := 1) dX12_code_18 (by decide) ?_
  refine k_X12_70 dX12_code_19 rfl (r_of htr i 1) (Nat.le_of_ble_eq_true rfl) (by omega) (by omega) (Nat.le_of_ble_eq_true rfl) (fun r19 M9 h9 => ?_) (fun _ _ h9 => h9.elim)
  obtain ⟨rfl, e9⟩ := h9
  subst M9
  refine v_iald dX12_code_22 hw5 (by lia) (by lia) ?_
  refine v_iadd dX12_code_23 ?_
  refine v_istore_2 dX12_code_24 ?_
  refine v_bipush (v := (100)) dX12_code_25 (by decide) ?_
  refine v_iload_n dX12_code_27 rfl rfl ?_
  refine v_imul dX12_code_28 ?_
  refine v_bipush (v := (98)) dX12_code_29 (by decide) ?_
  refine v_iadd dX12_code_31 ?_
  refine v_bipush (v := (100)) dX12_code_32 (by decide) ?_
  refine v_iload_n dX12_code_34 rfl rfl ?_
  refine v_imul dX12_code_35 ?_
  refine v_bipush (v := (97)) dX12_code_36 (by decide) ?_
  refine v_irem dX12_code_38 (by decide) ?_
  refine v_isub dX12_code_39 ?_
  exact v_iret dX12_code_40 rfl ⟨rfl, rfl⟩ (by omega) (by omega)
theorem dX12_codeOf_0 : decode cX12_codeOf 0 = .ok (.aload_n 0, 1) := by decide +kernel
theorem dX12_codeOf_1 : decode cX12_codeOf 1 = .ok (.iload_n 1, 1) := by decide +kernel
theorem dX12_codeOf_2 : decode cX12_codeOf 2 = .ok (.invokevirtual 112, 3) := by decide +kernel
theorem dX12_codeOf_5 : decode cX12_codeOf 5 = .ok (.istore_n 2, 1) := by decide +kernel
theorem dX12_codeOf_6 : decode cX12_codeOf 6 = .ok (.aload_n 0, 1) := by decide +kernel
theorem dX12_codeOf_7 : decode cX12_codeOf 7 = .ok (.iload_n 2, 1) := by decide +kernel
theorem dX12_codeOf_8 : decode cX12_codeOf 8 = .ok (.ifCond .ge 7, 3) := by decide +kernel
theorem dX12_codeOf_11 : decode cX12_codeOf 11 = .ok (.iconst 1, 1) := by decide +kernel
theorem dX12_codeOf_12 : decode cX12_codeOf 12 = .ok (.goto 4, 3) := by decide +kernel
theorem dX12_codeOf_15 : decode cX12_codeOf 15 = .ok (.iconst 0, 1) := by decide +kernel
theorem dX12_codeOf_16 : decode cX12_codeOf 16 = .ok (.putfield 56, 3) := by decide +kernel
theorem dX12_codeOf_19 : decode cX12_codeOf 19 = .ok (.aload_n 0, 1) := by decide +kernel
theorem dX12_codeOf_20 : decode cX12_codeOf 20 = .ok (.getfield 56, 3) := by decide +kernel
theorem dX12_codeOf_23 : decode cX12_codeOf 23 = .ok (.ifCond .ne 11, 3) := by decide +kernel
theorem dX12_codeOf_26 : decode cX12_codeOf 26 = .ok (.aload_n 0, 1) := by decide +kernel
theorem dX12_codeOf_27 : decode cX12_codeOf 27 = .ok (.iload_n 2, 1) := by decide +kernel
theorem dX12_codeOf_28 : decode cX12_codeOf 28 = .ok (.invokevirtual 183, 3) := by decide +kernel
theorem dX12_codeOf_31 : decode cX12_codeOf 31 = .ok (.goto 4, 3) := by decide +kernel
theorem dX12_codeOf_34 : decode cX12_codeOf 34 = .ok (.iconst 0, 1) := by decide +kernel
theorem dX12_codeOf_35 : decode cX12_codeOf 35 = .ok (.ireturn, 1) := by decide +kernel
set_option maxRecDepth 100000 in
set_option maxHeartbeats 4000000 in
theorem r_codeOf {l : Launch} {g : Nat → Nat} {M : LH} (htr : l.stackTraces = false) {kd : Nat → Nat} {r m : Nat} {w : Nat → Nat} {t ch ea fl sv bf tn he en ln wr dg : Int32} {v b4 sa pa fr th bs tx li lf to : Int32 → Int32} (hC : Md kd r M m w t ch ea fl sv bf tn he en ln wr dg v b4 sa pa fr th bs tx li lf to) (hG : Good v) (id : Int32) : K_X12_codeOf l g 2 0 0 [.ref m, .int id] M (RI (fun x M9 => (((¬ find v id = -1) ∧ x = codeN (lt v (find v id) 0) (lt v (find v id) 1) ∧ Md kd r M9 m w 0 ch ea fl sv bf tn he en ln wr dg v b4 sa pa fr th bs tx li lf to) ∨ (¬ ((¬ find v id = -1)) ∧ x = 0 ∧ Md kd r M9 m w 1 ch ea fl sv bf tn he en ln wr dg v b4 sa pa fr th bs tx li lf to)) ∧ Frm kd r M M9) nX) := by
  refine Ko_X12_codeOf htr (fun X => ?_)
  obtain ⟨hMo, hw5, hw6, hw7, hw8, hw9, hw10, hw11, hw13, hw14, hw15, hw16, hw17, hw18, -⟩ := _root_.id hC
  have hF : Frm kd r M M := Frm.rf
  obtain ⟨hg1, hg2, hg3, hg4, hg5, hg6, hg7, hg8, hgL, hgS, -⟩ := _root_.id hG
  clear hgL hgS
  refine v_aload_n dX12_codeOf_0 rfl rfl ?_
  refine v_iload_n dX12_codeOf_1 rfl rfl ?_
  refine k_X12_112 dX12_codeOf_2 rfl (r_find htr hC hG id) hMo (Nat.le_of_ble_eq_true rfl) (by omega) (by omega) (Nat.le_of_ble_eq_true rfl) (fun r2 M9 h9 => ?_) (fun _ _ h9 => h9.elim)
  obtain ⟨rfl, e9⟩ := h9
  subst M9
  refine v_istore_2 dX12_codeOf_5 ?_
  refine v_aload_n dX12_codeOf_6 rfl rfl ?_
  refine v_iload_n dX12_codeOf_7 rfl rfl ?_
  refine v_if_ge (tgt := 15) dX12_codeOf_8 (by decide) (fun h8 => ?_) (fun h8 => ?_)
  · refine v_iconst (v := 0) dX12_codeOf_15 (by decide) ?_
    refine pf_X12_56 dX12_codeOf_16 rfl hMo ?_
    refine V.md (Md.sc hC) (Frm.tr hF (Frm.up (hC.kd_sc))) (fun M1 hC hF => ?_)
    obtain ⟨hMo, hw5, hw6, hw7, hw8, hw9, hw10, hw11, hw13, hw14, hw15, hw16, hw17, hw18, -⟩ := _root_.id hC
    refine v_aload_n dX12_codeOf_19 rfl rfl ?_
    refine gf_X12_56 dX12_codeOf_20 rfl hMo ?_
    refine v_if_ne (tgt := 34) dX12_codeOf_23 (by decide) (fun h23 => ?_) (fun h23 => ?_)
    · refine v_iconst (v := 0) dX12_codeOf_34 (by decide) ?_
      exact v_iret dX12_codeOf_35 rfl (by first | (exfalso; revert h23; decide) | exact ⟨Or.inr ⟨(fun hf => by obtain ⟨p0, -⟩ := find_in hg5 hf; exact h8 p0), rfl, hC⟩, hF⟩) (by omega) (by omega)
    · first | (exfalso; revert h23; decide) | skip
      all_goals
        have hid : ¬ find v id = -1 := (fun z => by rw [z] at h8; revert h8; decide)
        obtain ⟨p0, p1, -⟩ := find_in hg5 hid
        refine v_aload_n dX12_codeOf_26 rfl rfl ?_
        refine v_iload_n dX12_codeOf_27 rfl rfl ?_
        refine k_X12_183 dX12_codeOf_28 rfl (r_code htr hC hG p0 p1) hMo (Nat.le_of_ble_eq_true rfl) (by omega) (by omega) (Nat.le_of_ble_eq_true rfl) (fun r28 M9 h9 => ?_) (fun _ _ h9 => h9.elim)
        obtain ⟨rfl, e9⟩ := h9
        subst M9
        refine v_goto (tgt := 35) dX12_codeOf_31 (by decide) ?_
        exact v_iret dX12_codeOf_35 rfl ⟨Or.inl ⟨hid, rfl, hC⟩, hF⟩ (by omega) (by omega)
  · refine v_iconst (v := 1) dX12_codeOf_11 (by decide) ?_
    refine v_goto (tgt := 16) dX12_codeOf_12 (by decide) ?_
    refine pf_X12_56 dX12_codeOf_16 rfl hMo ?_
    refine V.md (Md.sc hC) (Frm.tr hF (Frm.up (hC.kd_sc))) (fun M1 hC hF => ?_)
    obtain ⟨hMo, hw5, hw6, hw7, hw8, hw9, hw10, hw11, hw13, hw14, hw15, hw16, hw17, hw18, -⟩ := _root_.id hC
    refine v_aload_n dX12_codeOf_19 rfl rfl ?_
    refine gf_X12_56 dX12_codeOf_20 rfl hMo ?_
    refine v_if_ne (tgt := 34) dX12_codeOf_23 (by decide) (fun h23 => ?_) (fun h23 => ?_)
    · refine v_iconst (v := 0) dX12_codeOf_34 (by decide) ?_
      exact v_iret dX12_codeOf_35 rfl (by first | (exfalso; revert h23; decide) | exact ⟨Or.inr ⟨(fun hf => by obtain ⟨p0, -⟩ := find_in hg5 hf; exact h8 p0), rfl, hC⟩, hF⟩) (by omega) (by omega)
    · first | (exfalso; revert h23; decide) | skip
      all_goals
        have hid : ¬ find v id = -1 := (fun z => by rw [z] at h8; revert h8; decide)
        obtain ⟨p0, p1, -⟩ := find_in hg5 hid
        refine v_aload_n dX12_codeOf_26 rfl rfl ?_
        refine v_iload_n dX12_codeOf_27 rfl rfl ?_
        refine k_X12_183 dX12_codeOf_28 rfl (r_code htr hC hG p0 p1) hMo (Nat.le_of_ble_eq_true rfl) (by omega) (by omega) (Nat.le_of_ble_eq_true rfl) (fun r28 M9 h9 => ?_) (fun _ _ h9 => h9.elim)
        obtain ⟨rfl, e9⟩ := h9
        subst M9
        refine v_goto (tgt := 35) dX12_codeOf_31 (by decide) ?_
        exact v_iret dX12_codeOf_35 rfl ⟨Or.inl ⟨hid, rfl, hC⟩, hF⟩ (by omega) (by omega)
theorem dX12_letterByCode_0 : decode cX12_letterByCode 0 = .ok (.aload_n 0, 1) := by decide +kernel
theorem dX12_letterByCode_1 : decode cX12_letterByCode 1 = .ok (.iload_n 1, 1) := by decide +kernel
theorem dX12_letterByCode_2 : decode cX12_letterByCode 2 = .ok (.ifCond .lt 11, 3) := by decide +kernel
theorem dX12_letterByCode_5 : decode cX12_letterByCode 5 = .ok (.iload_n 1, 1) := by decide +kernel
theorem dX12_letterByCode_6 : decode cX12_letterByCode 6 = .ok (.bipush 97, 2) := by decide +kernel
theorem dX12_letterByCode_8 : decode cX12_letterByCode 8 = .ok (.irem, 1) := by decide +kernel
theorem dX12_letterByCode_9 : decode cX12_letterByCode 9 = .ok (.iconst 1, 1) := by decide +kernel
theorem dX12_letterByCode_10 : decode cX12_letterByCode 10 = .ok (.if_icmp .eq 7, 3) := by decide +kernel
theorem dX12_letterByCode_13 : decode cX12_letterByCode 13 = .ok (.iconst 1, 1) := by decide +kernel
theorem dX12_letterByCode_14 : decode cX12_letterByCode 14 = .ok (.goto 4, 3) := by decide +kernel
theorem dX12_letterByCode_17 : decode cX12_letterByCode 17 = .ok (.iconst 0, 1) := by decide +kernel
theorem dX12_letterByCode_18 : decode cX12_letterByCode 18 = .ok (.putfield 56, 3) := by decide +kernel
theorem dX12_letterByCode_21 : decode cX12_letterByCode 21 = .ok (.aload_n 0, 1) := by decide +kernel
theorem dX12_letterByCode_22 : decode cX12_letterByCode 22 = .ok (.getfield 56, 3) := by decide +kernel
theorem dX12_letterByCode_25 : decode cX12_letterByCode 25 = .ok (.ifCond .eq 5, 3) := by decide +kernel
theorem dX12_letterByCode_28 : decode cX12_letterByCode 28 = .ok (.iconst 0, 1) := by decide +kernel
theorem dX12_letterByCode_29 : decode cX12_letterByCode 29 = .ok (.ireturn, 1) := by decide +kernel
theorem dX12_letterByCode_30 : decode cX12_letterByCode 30 = .ok (.iconst 0, 1) := by decide +kernel
theorem dX12_letterByCode_31 : decode cX12_letterByCode 31 = .ok (.istore_n 2, 1) := by decide +kernel
theorem dX12_letterByCode_32 : decode cX12_letterByCode 32 = .ok (.iload_n 2, 1) := by decide +kernel
theorem dX12_letterByCode_33 : decode cX12_letterByCode 33 = .ok (.aload_n 0, 1) := by decide +kernel
theorem dX12_letterByCode_34 : decode cX12_letterByCode 34 = .ok (.getfield 16, 3) := by decide +kernel
theorem dX12_letterByCode_37 : decode cX12_letterByCode 37 = .ok (.bipush 7, 2) := by decide +kernel
theorem dX12_letterByCode_39 : decode cX12_letterByCode 39 = .ok (.iaload, 1) := by decide +kernel
theorem dX12_letterByCode_40 : decode cX12_letterByCode 40 = .ok (.if_icmp .ge 29, 3) := by decide +kernel
theorem dX12_letterByCode_43 : decode cX12_letterByCode 43 = .ok (.aload_n 0, 1) := by decide +kernel
theorem dX12_letterByCode_44 : decode cX12_letterByCode 44 = .ok (.iload_n 2, 1) := by decide +kernel
theorem dX12_letterByCode_45 : decode cX12_letterByCode 45 = .ok (.invokevirtual 183, 3) := by decide +kernel
theorem dX12_letterByCode_48 : decode cX12_letterByCode 48 = .ok (.iload_n 1, 1) := by decide +kernel
theorem dX12_letterByCode_49 : decode cX12_letterByCode 49 = .ok (.if_icmp .ne 14, 3) := by decide +kernel
theorem dX12_letterByCode_52 : decode cX12_letterByCode 52 = .ok (.aload_n 0, 1) := by decide +kernel
theorem dX12_letterByCode_53 : decode cX12_letterByCode 53 = .ok (.getfield 16, 3) := by decide +kernel
theorem dX12_letterByCode_56 : decode cX12_letterByCode 56 = .ok (.iload_n 2, 1) := by decide +kernel
theorem dX12_letterByCode_57 : decode cX12_letterByCode 57 = .ok (.iconst 0, 1) := by decide +kernel
theorem dX12_letterByCode_58 : decode cX12_letterByCode 58 = .ok (.invokestatic 70, 3) := by decide +kernel
theorem dX12_letterByCode_61 : decode cX12_letterByCode 61 = .ok (.iaload, 1) := by decide +kernel
theorem dX12_letterByCode_62 : decode cX12_letterByCode 62 = .ok (.ireturn, 1) := by decide +kernel
theorem dX12_letterByCode_63 : decode cX12_letterByCode 63 = .ok (.iinc 2 1, 3) := by decide +kernel
theorem dX12_letterByCode_66 : decode cX12_letterByCode 66 = .ok (.goto (-34), 3) := by decide +kernel
theorem dX12_letterByCode_69 : decode cX12_letterByCode 69 = .ok (.aload_n 0, 1) := by decide +kernel
theorem dX12_letterByCode_70 : decode cX12_letterByCode 70 = .ok (.iconst 2, 1) := by decide +kernel
theorem dX12_letterByCode_71 : decode cX12_letterByCode 71 = .ok (.invokevirtual 74, 3) := by decide +kernel
theorem dX12_letterByCode_74 : decode cX12_letterByCode 74 = .ok (.ireturn, 1) := by decide +kernel
set_option maxRecDepth 100000 in
set_option maxHeartbeats 4000000 in
theorem r_letterByCode {l : Launch} {g : Nat → Nat} {M : LH} (htr : l.stackTraces = false) {kd : Nat → Nat} {r m : Nat} {w : Nat → Nat} {t ch ea fl sv bf tn he en ln wr dg : Int32} {v b4 sa pa fr th bs tx li lf to : Int32 → Int32} (hC : Md kd r M m w t ch ea fl sv bf tn he en ln wr dg v b4 sa pa fr th bs tx li lf to) (hG : Good v) (cd : Int32) : K_X12_letterByCode l g 2 0 0 [.ref m, .int cd] M (RI (fun x M9 => ((validC cd ∧ ¬ findC v cd = -1 ∧ x = lt v (findC v cd) 0 ∧ Md kd r M9 m w 0 ch ea fl sv bf tn he en ln wr dg v b4 sa pa fr th bs tx li lf to) ∨ (validC cd ∧ findC v cd = -1 ∧ x = 0 ∧ Md kd r M9 m w 2 ch ea fl sv bf tn he en ln wr dg v b4 sa pa fr th bs tx li lf to) ∨ (¬ validC cd ∧ x = 0 ∧ Md kd r M9 m w 1 ch ea fl sv bf tn he en ln wr dg v b4 sa pa fr th bs tx li lf to)) ∧ Frm kd r M M9) nX) := by
  refine Ko_X12_letterByCode htr (fun X => ?_)
  obtain ⟨hMo, hw5, hw6, hw7, hw8, hw9, hw10, hw11, hw13, hw14, hw15, hw16, hw17, hw18, -⟩ := _root_.id hC
  have hF : Frm kd r M M := Frm.rf
  obtain ⟨hg1, hg2, hg3, hg4, hg5, hg6, hg7, hg8, hgL, hgS, -⟩ := _root_.id hG
  clear hgL hgS
  refine v_aload_n dX12_letterByCode_0 rfl rfl ?_
  refine v_iload_n dX12_letterByCode_1 rfl rfl ?_
  refine v_if_lt (tgt := 13) dX12_letterByCode_2 (by decide) (fun h2 => ?_) (fun h2 => ?_)
  · refine v_iconst (v := 1) dX12_letterByCode_13 (by decide) ?_
    refine v_goto (tgt := 18) dX12_letterByCode_14 (by decide) ?_
    refine pf_X12_56 dX12_letterByCode_18 rfl hMo ?_
    refine V.md (Md.sc hC) (Frm.tr hF (Frm.up (hC.kd_sc))) (fun M1 hC hF => ?_)
    obtain ⟨hMo, hw5, hw6, hw7, hw8, hw9, hw10, hw11, hw13, hw14, hw15, hw16, hw17, hw18, -⟩ := _root_.id hC
    refine v_aload_n dX12_letterByCode_21 rfl rfl ?_
    refine gf_X12_56 dX12_letterByCode_22 rfl hMo ?_
    refine v_if_eq (tgt := 30) dX12_letterByCode_25 (by decide) (fun h25 => ?_) (fun h25 => ?_)
    · refine v_iconst (v := 0) dX12_letterByCode_30 (by decide) ?_
      refine v_istore_2 dX12_letterByCode_31 ?_
      first | (exfalso; revert h25; decide) | skip
      all_goals
        have hval : validC cd := ⟨Int32.not_lt.mp h2, (by first | exact h10 | exact Classical.not_not.mp h10)⟩
        have key : ∀ i, 0 ≤ i → i ≤ v 7 → ∀ (_z2 : Option Value), findC v cd = fstU (fun i => decide (codeN (lt v i 0) (lt v i 1) = cd)) (v 7) i → V l g yX12_letterByCode cX12_letterByCode ((some .int)) [] 2 0 0 (RI (fun x M9 => ((validC cd ∧ ¬ findC v cd = -1 ∧ x = lt v (findC v cd) 0 ∧ Md kd r M9 m w 0 ch ea fl sv bf tn he en ln wr dg v b4 sa pa fr th bs tx li lf to) ∨ (validC cd ∧ findC v cd = -1 ∧ x = 0 ∧ Md kd r M9 m w 2 ch ea fl sv bf tn he en ln wr dg v b4 sa pa fr th bs tx li lf to) ∨ (¬ validC cd ∧ x = 0 ∧ Md kd r M9 m w 1 ch ea fl sv bf tn he en ln wr dg v b4 sa pa fr th bs tx li lf to)) ∧ Frm kd r M M9) nX) X M1 0 0 32 [some (.ref m), some (.int cd), some (.int i)] [] := by
          refine up_ind _ (fun i h0 h1 ih z2 hs => ?_)
          refine v_iload_n dX12_letterByCode_32 rfl rfl ?_
          refine v_aload_n dX12_letterByCode_33 rfl rfl ?_
          refine gf_X12_16 dX12_letterByCode_34 rfl hMo ?_
          refine v_bipush (v := (7)) dX12_letterByCode_37 (by decide) ?_
          refine v_iald dX12_letterByCode_39 hw5 (by lia) (by lia) ?_
          refine v_icmp_ge (tgt := 69) dX12_letterByCode_40 (by decide) (fun h40 => ?_) (fun h40 => ?_)
          · have hi : i = v 7 := by clear ih hs hC hF hMo hw5 hw6 hw7 hw8 hw9 hw10 hw11 hw13 hw14 hw15 hw16 hw17 hw18; lia
            subst hi
            have hn : findC v cd = -1 := hs.trans (fstU_n _ _)
            refine v_aload_n dX12_letterByCode_69 rfl rfl ?_
            refine v_iconst (v := 2) dX12_letterByCode_70 (by decide) ?_
            refine k_X12_74 dX12_letterByCode_71 rfl (r_fail htr hC 2) hMo (Nat.le_of_ble_eq_true rfl) (by omega) (by omega) (Nat.le_of_ble_eq_true rfl) (fun r71 M9 h9 => ?_) (fun _ _ h9 => h9.elim)
            obtain ⟨rfl, hC, hF9⟩ := h9
            have hF := Frm.tr hF hF9
            exact v_iret dX12_letterByCode_74 rfl ⟨Or.inr (Or.inl ⟨hval, hn, rfl, hC⟩), hF⟩ (by omega) (by omega)
          · have hi : i < v 7 := by clear ih hs hC hF hMo hw5 hw6 hw7 hw8 hw9 hw10 hw11 hw13 hw14 hw15 hw16 hw17 hw18; lia
            refine v_aload_n dX12_letterByCode_43 rfl rfl ?_
            refine v_iload_n dX12_letterByCode_44 rfl rfl ?_
            refine k_X12_183 dX12_letterByCode_45 rfl (r_code htr hC hG h0 hi) hMo (Nat.le_of_ble_eq_true rfl) (by omega) (by omega) (Nat.le_of_ble_eq_true rfl) (fun r45 M9 h9 => ?_) (fun _ _ h9 => h9.elim)
            obtain ⟨rfl, e9⟩ := h9
            subst M9
            refine v_iload_n dX12_letterByCode_48 rfl rfl ?_
            refine v_icmp_ne (tgt := 63) dX12_letterByCode_49 (by decide) (fun h49 => ?_) (fun h49 => ?_)
            · refine v_iinc_2 dX12_letterByCode_63 rfl ?_
              refine v_goto (tgt := 32) dX12_letterByCode_66 (by decide) ?_
              exact ih hi none (hs.trans ((fstU_1 h0 hi).trans (if_neg (by rw [decide_eq_true_eq]; assumption))))
            · refine v_aload_n dX12_letterByCode_52 rfl rfl ?_
              refine gf_X12_16 dX12_letterByCode_53 rfl hMo ?_
              refine v_iload_n dX12_letterByCode_56 rfl rfl ?_
              refine v_iconst (v := 0) dX12_letterByCode_57 (by decide) ?_
              refine k_X12_70 dX12_letterByCode_58 rfl (r_of htr i 0) (Nat.le_of_ble_eq_true rfl) (by omega) (by omega) (Nat.le_of_ble_eq_true rfl) (fun r58 M9 h9 => ?_) (fun _ _ h9 => h9.elim)
              obtain ⟨rfl, e9⟩ := h9
              subst M9
              refine v_iald dX12_letterByCode_61 hw5 (by clear ih hs hC hF hMo hw5 hw6 hw7 hw8 hw9 hw10 hw11 hw13 hw14 hw15 hw16 hw17 hw18; lia) (by clear ih hs hC hF hMo hw5 hw6 hw7 hw8 hw9 hw10 hw11 hw13 hw14 hw15 hw16 hw17 hw18; lia) ?_
              exact v_iret dX12_letterByCode_62 rfl ⟨Or.inl (by have e9 : findC v cd = i := hs.trans ((fstU_1 h0 hi).trans (if_pos (decide_eq_true_eq.mpr (by first | assumption | exact Classical.not_not.mp (by assumption))))); rw [e9]; exact ⟨hval, (fun z => by rw [z] at h0; revert h0; decide), rfl, hC⟩), hF⟩ (by omega) (by omega)
        exact key 0 (Int32.le_refl _) hg5 none rfl
    · refine v_iconst (v := 0) dX12_letterByCode_28 (by decide) ?_
      exact v_iret dX12_letterByCode_29 rfl (by first | (exfalso; revert h25; decide) | exact ⟨Or.inr (Or.inr ⟨(fun z => absurd z.1 (Int32.not_le.mpr h2)), rfl, hC⟩), hF⟩ | exact ⟨Or.inr (Or.inr ⟨(fun z => h10 z.2), rfl, hC⟩), hF⟩ | exact ⟨Or.inr (Or.inr ⟨(fun z => absurd z.2 (by first | assumption | exact fun y => h10 y)), rfl, hC⟩), hF⟩) (by omega) (by omega)
  · refine v_iload_n dX12_letterByCode_5 rfl rfl ?_
    refine v_bipush (v := (97)) dX12_letterByCode_6 (by decide) ?_
    refine v_irem dX12_letterByCode_8 (by decide) ?_
    refine v_iconst (v := 1) dX12_letterByCode_9 (by decide) ?_
    refine v_icmp_eq (tgt := 17) dX12_letterByCode_10 (by decide) (fun h10 => ?_) (fun h10 => ?_)
    · refine v_iconst (v := 0) dX12_letterByCode_17 (by decide) ?_
      refine pf_X12_56 dX12_letterByCode_18 rfl hMo ?_
      refine V.md (Md.sc hC) (Frm.tr hF (Frm.up (hC.kd_sc))) (fun M1 hC hF => ?_)
      obtain ⟨hMo, hw5, hw6, hw7, hw8, hw9, hw10, hw11, hw13, hw14, hw15, hw16, hw17, hw18, -⟩ := _root_.id hC
      refine v_aload_n dX12_letterByCode_21 rfl rfl ?_
      refine gf_X12_56 dX12_letterByCode_22 rfl hMo ?_
      refine v_if_eq (tgt := 30) dX12_letterByCode_25 (by decide) (fun h25 => ?_) (fun h25 => ?_)
      · refine v_iconst (v := 0) dX12_letterByCode_30 (by decide) ?_
        refine v_istore_2 dX12_letterByCode_31 ?_
        first | (exfalso; revert h25; decide) | skip
        all_goals
          have hval : validC cd := ⟨Int32.not_lt.mp h2, (by first | exact h10 | exact Classical.not_not.mp h10)⟩
          have key : ∀ i, 0 ≤ i → i ≤ v 7 → ∀ (_z2 : Option Value), findC v cd = fstU (fun i => decide (codeN (lt v i 0) (lt v i 1) = cd)) (v 7) i → V l g yX12_letterByCode cX12_letterByCode ((some .int)) [] 2 0 0 (RI (fun x M9 => ((validC cd ∧ ¬ findC v cd = -1 ∧ x = lt v (findC v cd) 0 ∧ Md kd r M9 m w 0 ch ea fl sv bf tn he en ln wr dg v b4 sa pa fr th bs tx li lf to) ∨ (validC cd ∧ findC v cd = -1 ∧ x = 0 ∧ Md kd r M9 m w 2 ch ea fl sv bf tn he en ln wr dg v b4 sa pa fr th bs tx li lf to) ∨ (¬ validC cd ∧ x = 0 ∧ Md kd r M9 m w 1 ch ea fl sv bf tn he en ln wr dg v b4 sa pa fr th bs tx li lf to)) ∧ Frm kd r M M9) nX) X M1 0 0 32 [some (.ref m), some (.int cd), some (.int i)] [] := by
            refine up_ind _ (fun i h0 h1 ih z2 hs => ?_)
            refine v_iload_n dX12_letterByCode_32 rfl rfl ?_
            refine v_aload_n dX12_letterByCode_33 rfl rfl ?_
            refine gf_X12_16 dX12_letterByCode_34 rfl hMo ?_
            refine v_bipush (v := (7)) dX12_letterByCode_37 (by decide) ?_
            refine v_iald dX12_letterByCode_39 hw5 (by lia) (by lia) ?_
            refine v_icmp_ge (tgt := 69) dX12_letterByCode_40 (by decide) (fun h40 => ?_) (fun h40 => ?_)
            · have hi : i = v 7 := by clear ih hs hC hF hMo hw5 hw6 hw7 hw8 hw9 hw10 hw11 hw13 hw14 hw15 hw16 hw17 hw18; lia
              subst hi
              have hn : findC v cd = -1 := hs.trans (fstU_n _ _)
              refine v_aload_n dX12_letterByCode_69 rfl rfl ?_
              refine v_iconst (v := 2) dX12_letterByCode_70 (by decide) ?_
              refine k_X12_74 dX12_letterByCode_71 rfl (r_fail htr hC 2) hMo (Nat.le_of_ble_eq_true rfl) (by omega) (by omega) (Nat.le_of_ble_eq_true rfl) (fun r71 M9 h9 => ?_) (fun _ _ h9 => h9.elim)
              obtain ⟨rfl, hC, hF9⟩ := h9
              have hF := Frm.tr hF hF9
              exact v_iret dX12_letterByCode_74 rfl ⟨Or.inr (Or.inl ⟨hval, hn, rfl, hC⟩), hF⟩ (by omega) (by omega)
            · have hi : i < v 7 := by clear ih hs hC hF hMo hw5 hw6 hw7 hw8 hw9 hw10 hw11 hw13 hw14 hw15 hw16 hw17 hw18; lia
              refine v_aload_n dX12_letterByCode_43 rfl rfl ?_
              refine v_iload_n dX12_letterByCode_44 rfl rfl ?_
              refine k_X12_183 dX12_letterByCode_45 rfl (r_code htr hC hG h0 hi) hMo (Nat.le_of_ble_eq_true rfl) (by omega) (by omega) (Nat.le_of_ble_eq_true rfl) (fun r45 M9 h9 => ?_) (fun _ _ h9 => h9.elim)
              obtain ⟨rfl, e9⟩ := h9
              subst M9
              refine v_iload_n dX12_letterByCode_48 rfl rfl ?_
              refine v_icmp_ne (tgt := 63) dX12_letterByCode_49 (by decide) (fun h49 => ?_) (fun h49 => ?_)
              · refine v_iinc_2 dX12_letterByCode_63 rfl ?_
                refine v_goto (tgt := 32) dX12_letterByCode_66 (by decide) ?_
                exact ih hi none (hs.trans ((fstU_1 h0 hi).trans (if_neg (by rw [decide_eq_true_eq]; assumption))))
              · refine v_aload_n dX12_letterByCode_52 rfl rfl ?_
                refine gf_X12_16 dX12_letterByCode_53 rfl hMo ?_
                refine v_iload_n dX12_letterByCode_56 rfl rfl ?_
                refine v_iconst (v := 0) dX12_letterByCode_57 (by decide) ?_
                refine k_X12_70 dX12_letterByCode_58 rfl (r_of htr i 0) (Nat.le_of_ble_eq_true rfl) (by omega) (by omega) (Nat.le_of_ble_eq_true rfl) (fun r58 M9 h9 => ?_) (fun _ _ h9 => h9.elim)
                obtain ⟨rfl, e9⟩ := h9
                subst M9
                refine v_iald dX12_letterByCode_61 hw5 (by clear ih hs hC hF hMo hw5 hw6 hw7 hw8 hw9 hw10 hw11 hw13 hw14 hw15 hw16 hw17 hw18; lia) (by clear ih hs hC hF hMo hw5 hw6 hw7 hw8 hw9 hw10 hw11 hw13 hw14 hw15 hw16 hw17 hw18; lia) ?_
                exact v_iret dX12_letterByCode_62 rfl ⟨Or.inl (by have e9 : findC v cd = i := hs.trans ((fstU_1 h0 hi).trans (if_pos (decide_eq_true_eq.mpr (by first | assumption | exact Classical.not_not.mp (by assumption))))); rw [e9]; exact ⟨hval, (fun z => by rw [z] at h0; revert h0; decide), rfl, hC⟩), hF⟩ (by omega) (by omega)
          exact key 0 (Int32.le_refl _) hg5 none rfl
      · refine v_iconst (v := 0) dX12_letterByCode_28 (by decide) ?_
        exact v_iret dX12_letterByCode_29 rfl (by first | (exfalso; revert h25; decide) | exact ⟨Or.inr (Or.inr ⟨(fun z => absurd z.1 (Int32.not_le.mpr h2)), rfl, hC⟩), hF⟩ | exact ⟨Or.inr (Or.inr ⟨(fun z => h10 z.2), rfl, hC⟩), hF⟩ | exact ⟨Or.inr (Or.inr ⟨(fun z => absurd z.2 (by first | assumption | exact fun y => h10 y)), rfl, hC⟩), hF⟩) (by omega) (by omega)
    · refine v_iconst (v := 1) dX12_letterByCode_13 (by decide) ?_
      refine v_goto (tgt := 18) dX12_letterByCode_14 (by decide) ?_
      refine pf_X12_56 dX12_letterByCode_18 rfl hMo ?_
      refine V.md (Md.sc hC) (Frm.tr hF (Frm.up (hC.kd_sc))) (fun M1 hC hF => ?_)
      obtain ⟨hMo, hw5, hw6, hw7, hw8, hw9, hw10, hw11, hw13, hw14, hw15, hw16, hw17, hw18, -⟩ := _root_.id hC
      refine v_aload_n dX12_letterByCode_21 rfl rfl ?_
      refine gf_X12_56 dX12_letterByCode_22 rfl hMo ?_
      refine v_if_eq (tgt := 30) dX12_letterByCode_25 (by decide) (fun h25 => ?_) (fun h25 => ?_)
      · refine v_iconst (v := 0) dX12_letterByCode_30 (by decide) ?_
        refine v_istore_2 dX12_letterByCode_31 ?_
        first | (exfalso; revert h25; decide) | skip
        all_goals
          have hval : validC cd := ⟨Int32.not_lt.mp h2, (by first | exact h10 | exact Classical.not_not.mp h10)⟩
          have key : ∀ i, 0 ≤ i → i ≤ v 7 → ∀ (_z2 : Option Value), findC v cd = fstU (fun i => decide (codeN (lt v i 0) (lt v i 1) = cd)) (v 7) i → V l g yX12_letterByCode cX12_letterByCode ((some .int)) [] 2 0 0 (RI (fun x M9 => ((validC cd ∧ ¬ findC v cd = -1 ∧ x = lt v (findC v cd) 0 ∧ Md kd r M9 m w 0 ch ea fl sv bf tn he en ln wr dg v b4 sa pa fr th bs tx li lf to) ∨ (validC cd ∧ findC v cd = -1 ∧ x = 0 ∧ Md kd r M9 m w 2 ch ea fl sv bf tn he en ln wr dg v b4 sa pa fr th bs tx li lf to) ∨ (¬ validC cd ∧ x = 0 ∧ Md kd r M9 m w 1 ch ea fl sv bf tn he en ln wr dg v b4 sa pa fr th bs tx li lf to)) ∧ Frm kd r M M9) nX) X M1 0 0 32 [some (.ref m), some (.int cd), some (.int i)] [] := by
            refine up_ind _ (fun i h0 h1 ih z2 hs => ?_)
            refine v_iload_n dX12_letterByCode_32 rfl rfl ?_
            refine v_aload_n dX12_letterByCode_33 rfl rfl ?_
            refine gf_X12_16 dX12_letterByCode_34 rfl hMo ?_
            refine v_bipush (v := (7)) dX12_letterByCode_37 (by decide) ?_
            refine v_iald dX12_letterByCode_39 hw5 (by lia) (by lia) ?_
            refine v_icmp_ge (tgt := 69) dX12_letterByCode_40 (by decide) (fun h40 => ?_) (fun h40 => ?_)
            · have hi : i = v 7 := by clear ih hs hC hF hMo hw5 hw6 hw7 hw8 hw9 hw10 hw11 hw13 hw14 hw15 hw16 hw17 hw18; lia
              subst hi
              have hn : findC v cd = -1 := hs.trans (fstU_n _ _)
              refine v_aload_n dX12_letterByCode_69 rfl rfl ?_
              refine v_iconst (v := 2) dX12_letterByCode_70 (by decide) ?_
              refine k_X12_74 dX12_letterByCode_71 rfl (r_fail htr hC 2) hMo (Nat.le_of_ble_eq_true rfl) (by omega) (by omega) (Nat.le_of_ble_eq_true rfl) (fun r71 M9 h9 => ?_) (fun _ _ h9 => h9.elim)
              obtain ⟨rfl, hC, hF9⟩ := h9
              have hF := Frm.tr hF hF9
              exact v_iret dX12_letterByCode_74 rfl ⟨Or.inr (Or.inl ⟨hval, hn, rfl, hC⟩), hF⟩ (by omega) (by omega)
            · have hi : i < v 7 := by clear ih hs hC hF hMo hw5 hw6 hw7 hw8 hw9 hw10 hw11 hw13 hw14 hw15 hw16 hw17 hw18; lia
              refine v_aload_n dX12_letterByCode_43 rfl rfl ?_
              refine v_iload_n dX12_letterByCode_44 rfl rfl ?_
              refine k_X12_183 dX12_letterByCode_45 rfl (r_code htr hC hG h0 hi) hMo (Nat.le_of_ble_eq_true rfl) (by omega) (by omega) (Nat.le_of_ble_eq_true rfl) (fun r45 M9 h9 => ?_) (fun _ _ h9 => h9.elim)
              obtain ⟨rfl, e9⟩ := h9
              subst M9
              refine v_iload_n dX12_letterByCode_48 rfl rfl ?_
              refine v_icmp_ne (tgt := 63) dX12_letterByCode_49 (by decide) (fun h49 => ?_) (fun h49 => ?_)
              · refine v_iinc_2 dX12_letterByCode_63 rfl ?_
                refine v_goto (tgt := 32) dX12_letterByCode_66 (by decide) ?_
                exact ih hi none (hs.trans ((fstU_1 h0 hi).trans (if_neg (by rw [decide_eq_true_eq]; assumption))))
              · refine v_aload_n dX12_letterByCode_52 rfl rfl ?_
                refine gf_X12_16 dX12_letterByCode_53 rfl hMo ?_
                refine v_iload_n dX12_letterByCode_56 rfl rfl ?_
                refine v_iconst (v := 0) dX12_letterByCode_57 (by decide) ?_
                refine k_X12_70 dX12_letterByCode_58 rfl (r_of htr i 0) (Nat.le_of_ble_eq_true rfl) (by omega) (by omega) (Nat.le_of_ble_eq_true rfl) (fun r58 M9 h9 => ?_) (fun _ _ h9 => h9.elim)
                obtain ⟨rfl, e9⟩ := h9
                subst M9
                refine v_iald dX12_letterByCode_61 hw5 (by clear ih hs hC hF hMo hw5 hw6 hw7 hw8 hw9 hw10 hw11 hw13 hw14 hw15 hw16 hw17 hw18; lia) (by clear ih hs hC hF hMo hw5 hw6 hw7 hw8 hw9 hw10 hw11 hw13 hw14 hw15 hw16 hw17 hw18; lia) ?_
                exact v_iret dX12_letterByCode_62 rfl ⟨Or.inl (by have e9 : findC v cd = i := hs.trans ((fstU_1 h0 hi).trans (if_pos (decide_eq_true_eq.mpr (by first | assumption | exact Classical.not_not.mp (by assumption))))); rw [e9]; exact ⟨hval, (fun z => by rw [z] at h0; revert h0; decide), rfl, hC⟩), hF⟩ (by omega) (by omega)
          exact key 0 (Int32.le_refl _) hg5 none rfl
      · refine v_iconst (v := 0) dX12_letterByCode_28 (by decide) ?_
        exact v_iret dX12_letterByCode_29 rfl (by first | (exfalso; revert h25; decide) | exact ⟨Or.inr (Or.inr ⟨(fun z => absurd z.1 (Int32.not_le.mpr h2)), rfl, hC⟩), hF⟩ | exact ⟨Or.inr (Or.inr ⟨(fun z => h10 z.2), rfl, hC⟩), hF⟩ | exact ⟨Or.inr (Or.inr ⟨(fun z => absurd z.2 (by first | assumption | exact fun y => h10 y)), rfl, hC⟩), hF⟩) (by omega) (by omega)
