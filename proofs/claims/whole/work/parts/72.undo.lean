/-! ===== the reference: loadBest, send, undo, save, restore ===== -/
theorem dX12_loadBest_0 : decode cX12_loadBest 0 = .ok (.aload_n 0, 1) := by decide +kernel
theorem dX12_loadBest_1 : decode cX12_loadBest 1 = .ok (.invokevirtual 78, 3) := by decide +kernel
theorem dX12_loadBest_4 : decode cX12_loadBest 4 = .ok (.aload_n 0, 1) := by decide +kernel
theorem dX12_loadBest_5 : decode cX12_loadBest 5 = .ok (.aload_n 0, 1) := by decide +kernel
theorem dX12_loadBest_6 : decode cX12_loadBest 6 = .ok (.iload_n 1, 1) := by decide +kernel
theorem dX12_loadBest_7 : decode cX12_loadBest 7 = .ok (.invokevirtual 130, 3) := by decide +kernel
theorem dX12_loadBest_10 : decode cX12_loadBest 10 = .ok (.invokevirtual 85, 3) := by decide +kernel
theorem dX12_loadBest_13 : decode cX12_loadBest 13 = .ok (.ireturn, 1) := by decide +kernel
set_option maxRecDepth 100000 in
set_option maxHeartbeats 4000000 in
theorem r_loadBest {l : Launch} {g : Nat → Nat} {M : LH} (htr : l.stackTraces = false) {kd : Nat → Nat} {r m : Nat} {w : Nat → Nat} {t ch ea fl sv bf tn he en ln wr dg : Int32} {v b4 sa pa fr th bs tx li lf to : Int32 → Int32} (hC : Md kd r M m w t ch ea fl sv bf tn he en ln wr dg v b4 sa pa fr th bs tx li lf to) (hG : Good v) (c0 : 0 ≤ ch) (c8 : ch ≤ 8) (k : Int32) : K_X12_loadBest l g 4 0 0 [.ref m, .int k] M (RI (fun x M9 => ∃ (b5 pa' : Int32 → Int32) (b9 : Int32) (th9 : Int32 → Int32), ((vdBest v k = 0 ∧ x = cnM (bI v (sd v k 1) (v 7).toNatClampNeg (sd v k 0 - loadOn v k) &&& 4095) (v 7).toNatClampNeg ∧ PaS ch pa v pa' ∧ Md kd r M9 m w 0 ((if ch = 8 then 7 else ch) + 1) ea fl sv b9 tn he en ln wr dg (plN v k (bI v (sd v k 1) (v 7).toNatClampNeg (sd v k 0 - loadOn v k) &&& 4095) (v 7).toNatClampNeg) b5 sa pa' fr th9 bs tx li lf to) ∨ (¬ vdBest v k = 0 ∧ x = 0 ∧ ∃ pa2, pa2 = pa ∧ Md kd r M9 m w (fcI 6 (vdBest v k)) ch ea fl sv b9 tn he en ln wr dg v b5 sa pa2 fr th9 bs tx li lf to)) ∧ Frm kd r M M9) nX) := by
  refine Ko_X12_loadBest htr (fun X => ?_)
  obtain ⟨hMo, hw5, hw6, hw7, hw8, hw9, hw10, hw11, hw13, hw14, hw15, hw16, hw17, hw18, -⟩ := _root_.id hC
  have hF : Frm kd r M M := Frm.rf
  refine v_aload_n dX12_loadBest_0 rfl rfl ?_
  refine k_X12_78 dX12_loadBest_1 rfl (r_begins htr hC) hMo (Nat.le_of_ble_eq_true rfl) (by omega) (by omega) (Nat.le_of_ble_eq_true rfl) (fun M9 h9 => ?_) (fun _ _ h9 => h9.elim)
  obtain ⟨hC, hF9⟩ := h9
  have hF := Frm.tr hF hF9
  obtain ⟨hMo, hw5, hw6, hw7, hw8, hw9, hw10, hw11, hw13, hw14, hw15, hw16, hw17, hw18, -⟩ := _root_.id hC
  refine v_aload_n dX12_loadBest_4 rfl rfl ?_
  refine v_aload_n dX12_loadBest_5 rfl rfl ?_
  refine v_iload_n dX12_loadBest_6 rfl rfl ?_
  refine k_X12_130 dX12_loadBest_7 rfl (r_loadsBest htr hC hG k) hMo (Nat.le_of_ble_eq_true rfl) (by omega) (by omega) (Nat.le_of_ble_eq_true rfl) (fun r7 M9 h9 => ?_) (fun _ _ h9 => h9.elim)
  obtain ⟨b9, th9, h9, hF9⟩ := h9
  have hF := Frm.tr hF hF9
  rcases h9 with ⟨hv, rfl, hC⟩ | ⟨hv, rfl, hC⟩
  · obtain ⟨hMo, hw5, hw6, hw7, hw8, hw9, hw10, hw11, hw13, hw14, hw15, hw16, hw17, hw18, -⟩ := _root_.id hC
    refine k_X12_85 dX12_loadBest_10 rfl (r_ends htr hC _ c0 c8) hMo (Nat.le_of_ble_eq_true rfl) (by omega) (by omega) (Nat.le_of_ble_eq_true rfl) (fun r10 M9 h9 => ?_) (fun _ _ h9 => h9.elim)
    obtain ⟨h9, hF9⟩ := h9
    have hF := Frm.tr hF hF9
    rcases h9 with ⟨ht, rfl, hC⟩ | ⟨ht, rfl, pa1, hP, hC⟩
    · exact absurd rfl ht
    · exact v_iret dX12_loadBest_13 rfl ⟨_, pa1, b9, th9, Or.inl ⟨hv, rfl, hP.v, hC⟩, hF⟩ (by omega) (by omega)
  · obtain ⟨hMo, hw5, hw6, hw7, hw8, hw9, hw10, hw11, hw13, hw14, hw15, hw16, hw17, hw18, -⟩ := _root_.id hC
    refine k_X12_85 dX12_loadBest_10 rfl (r_ends htr hC _ c0 c8) hMo (Nat.le_of_ble_eq_true rfl) (by omega) (by omega) (Nat.le_of_ble_eq_true rfl) (fun r10 M9 h9 => ?_) (fun _ _ h9 => h9.elim)
    obtain ⟨h9, hF9⟩ := h9
    have hF := Frm.tr hF hF9
    rcases h9 with ⟨ht, rfl, hC⟩ | ⟨ht, rfl, pa1, hP, hC⟩
    · rw [cpF_back] at hC
      exact v_iret dX12_loadBest_13 rfl ⟨_, pa, bf, th, Or.inr ⟨hv, rfl, pa, rfl, hC⟩, hF⟩ (by omega) (by omega)
    · exact absurd ht fcI_nz
theorem dX12_send_0 : decode cX12_send 0 = .ok (.aload_n 0, 1) := by decide +kernel
theorem dX12_send_1 : decode cX12_send 1 = .ok (.invokevirtual 78, 3) := by decide +kernel
theorem dX12_send_4 : decode cX12_send 4 = .ok (.aload_n 0, 1) := by decide +kernel
theorem dX12_send_5 : decode cX12_send 5 = .ok (.aload_n 0, 1) := by decide +kernel
theorem dX12_send_6 : decode cX12_send 6 = .ok (.iload_n 1, 1) := by decide +kernel
theorem dX12_send_7 : decode cX12_send 7 = .ok (.iload_n 2, 1) := by decide +kernel
theorem dX12_send_8 : decode cX12_send 8 = .ok (.invokevirtual 139, 3) := by decide +kernel
theorem dX12_send_11 : decode cX12_send 11 = .ok (.invokevirtual 85, 3) := by decide +kernel
theorem dX12_send_14 : decode cX12_send 14 = .ok (.ireturn, 1) := by decide +kernel
set_option maxRecDepth 100000 in
set_option maxHeartbeats 4000000 in
theorem r_send {l : Launch} {g : Nat → Nat} {M : LH} (htr : l.stackTraces = false) {kd : Nat → Nat} {r m : Nat} {w : Nat → Nat} {t ch ea fl sv bf tn he en ln wr dg : Int32} {v b4 sa pa fr th bs tx li lf to : Int32 → Int32} (hC : Md kd r M m w t ch ea fl sv bf tn he en ln wr dg v b4 sa pa fr th bs tx li lf to) (hG : Good v) (c0 : 0 ≤ ch) (c8 : ch ≤ 8) (k s : Int32) : K_X12_send l g 4 0 0 [.ref m, .int k, .int s] M (RI (fun x M9 => ∃ (b5 pa' : Int32 → Int32) (w9 : Int32) (f9 : Int32 → Int32), (hsl v k → hst v s → IsD v 1000000 (sd v k 1) s w9.toInt ∨ (0 < sd v k 2 ∨ sd v k 1 = s)) ∧ ((vdGo v k s w9 = 0 ∧ x = w9 ∧ PaS ch pa v pa' ∧ Md kd r M9 m w 0 ((if ch = 8 then 7 else ch) + 1) ea fl sv bf tn he en ln wr dg (goS v k s w9) b5 sa pa' f9 th bs tx li lf to) ∨ (¬ vdGo v k s w9 = 0 ∧ x = 0 ∧ ∃ pa2, pa2 = pa ∧ Md kd r M9 m w (fcI 7 (vdGo v k s w9)) ch ea fl sv bf tn he en ln wr dg v b5 sa pa2 f9 th bs tx li lf to)) ∧ Frm kd r M M9) nX) := by
  refine Ko_X12_send htr (fun X => ?_)
  obtain ⟨hMo, hw5, hw6, hw7, hw8, hw9, hw10, hw11, hw13, hw14, hw15, hw16, hw17, hw18, -⟩ := _root_.id hC
  have hF : Frm kd r M M := Frm.rf
  refine v_aload_n dX12_send_0 rfl rfl ?_
  refine k_X12_78 dX12_send_1 rfl (r_begins htr hC) hMo (Nat.le_of_ble_eq_true rfl) (by omega) (by omega) (Nat.le_of_ble_eq_true rfl) (fun M9 h9 => ?_) (fun _ _ h9 => h9.elim)
  obtain ⟨hC, hF9⟩ := h9
  have hF := Frm.tr hF hF9
  obtain ⟨hMo, hw5, hw6, hw7, hw8, hw9, hw10, hw11, hw13, hw14, hw15, hw16, hw17, hw18, -⟩ := _root_.id hC
  refine v_aload_n dX12_send_4 rfl rfl ?_
  refine v_aload_n dX12_send_5 rfl rfl ?_
  refine v_iload_n dX12_send_6 rfl rfl ?_
  refine v_iload_n dX12_send_7 rfl rfl ?_
  refine k_X12_139 dX12_send_8 rfl (r_sends htr hC hG k s) hMo (Nat.le_of_ble_eq_true rfl) (by omega) (by omega) (Nat.le_of_ble_eq_true rfl) (fun r8 M9 h9 => ?_) (fun _ _ h9 => h9.elim)
  obtain ⟨w9, f9, hI9, h9, hF9⟩ := h9
  have hF := Frm.tr hF hF9
  rcases h9 with ⟨hv, rfl, hC⟩ | ⟨hv, rfl, hC⟩
  · obtain ⟨hMo, hw5, hw6, hw7, hw8, hw9, hw10, hw11, hw13, hw14, hw15, hw16, hw17, hw18, -⟩ := _root_.id hC
    refine k_X12_85 dX12_send_11 rfl (r_ends htr hC _ c0 c8) hMo (Nat.le_of_ble_eq_true rfl) (by omega) (by omega) (Nat.le_of_ble_eq_true rfl) (fun r11 M9 h9 => ?_) (fun _ _ h9 => h9.elim)
    obtain ⟨h9, hF9⟩ := h9
    have hF := Frm.tr hF hF9
    rcases h9 with ⟨ht, rfl, hC⟩ | ⟨ht, rfl, pa1, hP, hC⟩
    · exact absurd rfl ht
    · exact v_iret dX12_send_14 rfl ⟨_, pa1, _, f9, hI9, Or.inl ⟨hv, rfl, hP.v, hC⟩, hF⟩ (by omega) (by omega)
  · obtain ⟨hMo, hw5, hw6, hw7, hw8, hw9, hw10, hw11, hw13, hw14, hw15, hw16, hw17, hw18, -⟩ := _root_.id hC
    refine k_X12_85 dX12_send_11 rfl (r_ends htr hC _ c0 c8) hMo (Nat.le_of_ble_eq_true rfl) (by omega) (by omega) (Nat.le_of_ble_eq_true rfl) (fun r11 M9 h9 => ?_) (fun _ _ h9 => h9.elim)
    obtain ⟨h9, hF9⟩ := h9
    have hF := Frm.tr hF hF9
    rcases h9 with ⟨ht, rfl, hC⟩ | ⟨ht, rfl, pa1, hP, hC⟩
    · rw [cpF_back] at hC
      exact v_iret dX12_send_14 rfl ⟨_, pa, _, f9, hI9, Or.inr ⟨hv, rfl, pa, rfl, hC⟩, hF⟩ (by omega) (by omega)
    · exact absurd ht fcI_nz
theorem dX12_errorPosition_0 : decode cX12_errorPosition 0 = .ok (.aload_n 0, 1) := by decide +kernel
theorem dX12_errorPosition_1 : decode cX12_errorPosition 1 = .ok (.aload_n 0, 1) := by decide +kernel
theorem dX12_errorPosition_2 : decode cX12_errorPosition 2 = .ok (.getfield 7, 3) := by decide +kernel
theorem dX12_errorPosition_5 : decode cX12_errorPosition 5 = .ok (.ifCond .ge 7, 3) := by decide +kernel
theorem dX12_errorPosition_8 : decode cX12_errorPosition 8 = .ok (.iconst 1, 1) := by decide +kernel
theorem dX12_errorPosition_9 : decode cX12_errorPosition 9 = .ok (.goto 4, 3) := by decide +kernel
theorem dX12_errorPosition_12 : decode cX12_errorPosition 12 = .ok (.iconst 0, 1) := by decide +kernel
theorem dX12_errorPosition_13 : decode cX12_errorPosition 13 = .ok (.putfield 56, 3) := by decide +kernel
theorem dX12_errorPosition_16 : decode cX12_errorPosition 16 = .ok (.aload_n 0, 1) := by decide +kernel
theorem dX12_errorPosition_17 : decode cX12_errorPosition 17 = .ok (.getfield 56, 3) := by decide +kernel
theorem dX12_errorPosition_20 : decode cX12_errorPosition 20 = .ok (.ifCond .ne 10, 3) := by decide +kernel
theorem dX12_errorPosition_23 : decode cX12_errorPosition 23 = .ok (.aload_n 0, 1) := by decide +kernel
theorem dX12_errorPosition_24 : decode cX12_errorPosition 24 = .ok (.getfield 7, 3) := by decide +kernel
theorem dX12_errorPosition_27 : decode cX12_errorPosition 27 = .ok (.goto 4, 3) := by decide +kernel
theorem dX12_errorPosition_30 : decode cX12_errorPosition 30 = .ok (.iconst 0, 1) := by decide +kernel
theorem dX12_errorPosition_31 : decode cX12_errorPosition 31 = .ok (.ireturn, 1) := by decide +kernel
set_option maxRecDepth 100000 in
set_option maxHeartbeats 4000000 in
theorem r_errorPosition {l : Launch} {g : Nat → Nat} {M : LH} (htr : l.stackTraces = false) {kd : Nat → Nat} {r m : Nat} {w : Nat → Nat} {t ch ea fl sv bf tn he en ln wr dg : Int32} {v b4 sa pa fr th bs tx li lf to : Int32 → Int32} (hC : Md kd r M m w t ch ea fl sv bf tn he en ln wr dg v b4 sa pa fr th bs tx li lf to) : K_X12_errorPosition l g 0 0 0 [.ref m] M (RI (fun x M9 => ((0 ≤ ea ∧ x = ea ∧ Md kd r M9 m w 0 ch ea fl sv bf tn he en ln wr dg v b4 sa pa fr th bs tx li lf to) ∨ (¬ 0 ≤ ea ∧ x = 0 ∧ Md kd r M9 m w 1 ch ea fl sv bf tn he en ln wr dg v b4 sa pa fr th bs tx li lf to)) ∧ Frm kd r M M9) nX) := by
  refine Ko_X12_errorPosition htr (fun X => ?_)
  obtain ⟨hMo, hw5, hw6, hw7, hw8, hw9, hw10, hw11, hw13, hw14, hw15, hw16, hw17, hw18, -⟩ := _root_.id hC
  have hF : Frm kd r M M := Frm.rf
  refine v_aload_n dX12_errorPosition_0 rfl rfl ?_
  refine v_aload_n dX12_errorPosition_1 rfl rfl ?_
  refine gf_X12_7 dX12_errorPosition_2 rfl hMo ?_
  refine v_if_ge (tgt := 12) dX12_errorPosition_5 (by decide) (fun h5 => ?_) (fun h5 => ?_)
  · refine v_iconst (v := 0) dX12_errorPosition_12 (by decide) ?_
    refine pf_X12_56 dX12_errorPosition_13 rfl hMo ?_
    refine V.md (Md.sc hC) (Frm.tr hF (Frm.up (hC.kd_sc))) (fun M1 hC hF => ?_)
    obtain ⟨hMo, hw5, hw6, hw7, hw8, hw9, hw10, hw11, hw13, hw14, hw15, hw16, hw17, hw18, -⟩ := _root_.id hC
    refine v_aload_n dX12_errorPosition_16 rfl rfl ?_
    refine gf_X12_56 dX12_errorPosition_17 rfl hMo ?_
    refine v_if_ne (tgt := 30) dX12_errorPosition_20 (by decide) (fun h20 => ?_) (fun h20 => ?_)
    · refine v_iconst (v := 0) dX12_errorPosition_30 (by decide) ?_
      exact v_iret dX12_errorPosition_31 rfl (by first | (exfalso; revert h20; decide) | exact ⟨Or.inl ⟨h5, rfl, hC⟩, hF⟩ | exact ⟨Or.inr ⟨h5, rfl, hC⟩, hF⟩) (by omega) (by omega)
    · refine v_aload_n dX12_errorPosition_23 rfl rfl ?_
      refine gf_X12_7 dX12_errorPosition_24 rfl hMo ?_
      refine v_goto (tgt := 31) dX12_errorPosition_27 (by decide) ?_
      exact v_iret dX12_errorPosition_31 rfl (by first | (exfalso; revert h20; decide) | exact ⟨Or.inl ⟨h5, rfl, hC⟩, hF⟩ | exact ⟨Or.inr ⟨h5, rfl, hC⟩, hF⟩) (by omega) (by omega)
  · refine v_iconst (v := 1) dX12_errorPosition_8 (by decide) ?_
    refine v_goto (tgt := 13) dX12_errorPosition_9 (by decide) ?_
    refine pf_X12_56 dX12_errorPosition_13 rfl hMo ?_
    refine V.md (Md.sc hC) (Frm.tr hF (Frm.up (hC.kd_sc))) (fun M1 hC hF => ?_)
    obtain ⟨hMo, hw5, hw6, hw7, hw8, hw9, hw10, hw11, hw13, hw14, hw15, hw16, hw17, hw18, -⟩ := _root_.id hC
    refine v_aload_n dX12_errorPosition_16 rfl rfl ?_
    refine gf_X12_56 dX12_errorPosition_17 rfl hMo ?_
    refine v_if_ne (tgt := 30) dX12_errorPosition_20 (by decide) (fun h20 => ?_) (fun h20 => ?_)
    · refine v_iconst (v := 0) dX12_errorPosition_30 (by decide) ?_
      exact v_iret dX12_errorPosition_31 rfl (by first | (exfalso; revert h20; decide) | exact ⟨Or.inl ⟨h5, rfl, hC⟩, hF⟩ | exact ⟨Or.inr ⟨h5, rfl, hC⟩, hF⟩) (by omega) (by omega)
    · refine v_aload_n dX12_errorPosition_23 rfl rfl ?_
      refine gf_X12_7 dX12_errorPosition_24 rfl hMo ?_
      refine v_goto (tgt := 31) dX12_errorPosition_27 (by decide) ?_
      exact v_iret dX12_errorPosition_31 rfl (by first | (exfalso; revert h20; decide) | exact ⟨Or.inl ⟨h5, rfl, hC⟩, hF⟩ | exact ⟨Or.inr ⟨h5, rfl, hC⟩, hF⟩) (by omega) (by omega)
theorem dX12_failedCommand_0 : decode cX12_failedCommand 0 = .ok (.aload_n 0, 1) := by decide +kernel
theorem dX12_failedCommand_1 : decode cX12_failedCommand 1 = .ok (.aload_n 0, 1) := by decide +kernel
theorem dX12_failedCommand_2 : decode cX12_failedCommand 2 = .ok (.getfield 13, 3) := by decide +kernel
theorem dX12_failedCommand_5 : decode cX12_failedCommand 5 = .ok (.ifCond .ge 7, 3) := by decide +kernel
theorem dX12_failedCommand_8 : decode cX12_failedCommand 8 = .ok (.iconst 1, 1) := by decide +kernel
theorem dX12_failedCommand_9 : decode cX12_failedCommand 9 = .ok (.goto 4, 3) := by decide +kernel
theorem dX12_failedCommand_12 : decode cX12_failedCommand 12 = .ok (.iconst 0, 1) := by decide +kernel
theorem dX12_failedCommand_13 : decode cX12_failedCommand 13 = .ok (.putfield 56, 3) := by decide +kernel
theorem dX12_failedCommand_16 : decode cX12_failedCommand 16 = .ok (.aload_n 0, 1) := by decide +kernel
theorem dX12_failedCommand_17 : decode cX12_failedCommand 17 = .ok (.getfield 56, 3) := by decide +kernel
theorem dX12_failedCommand_20 : decode cX12_failedCommand 20 = .ok (.ifCond .ne 10, 3) := by decide +kernel
theorem dX12_failedCommand_23 : decode cX12_failedCommand 23 = .ok (.aload_n 0, 1) := by decide +kernel
theorem dX12_failedCommand_24 : decode cX12_failedCommand 24 = .ok (.getfield 13, 3) := by decide +kernel
theorem dX12_failedCommand_27 : decode cX12_failedCommand 27 = .ok (.goto 4, 3) := by decide +kernel
theorem dX12_failedCommand_30 : decode cX12_failedCommand 30 = .ok (.iconst 0, 1) := by decide +kernel
theorem dX12_failedCommand_31 : decode cX12_failedCommand 31 = .ok (.ireturn, 1) := by decide +kernel
set_option maxRecDepth 100000 in
set_option maxHeartbeats 4000000 in
theorem r_failedCommand {l : Launch} {g : Nat → Nat} {M : LH} (htr : l.stackTraces = false) {kd : Nat → Nat} {r m : Nat} {w : Nat → Nat} {t ch ea fl sv bf tn he en ln wr dg : Int32} {v b4 sa pa fr th bs tx li lf to : Int32 → Int32} (hC : Md kd r M m w t ch ea fl sv bf tn he en ln wr dg v b4 sa pa fr th bs tx li lf to) : K_X12_failedCommand l g 0 0 0 [.ref m] M (RI (fun x M9 => ((0 ≤ fl ∧ x = fl ∧ Md kd r M9 m w 0 ch ea fl sv bf tn he en ln wr dg v b4 sa pa fr th bs tx li lf to) ∨ (¬ 0 ≤ fl ∧ x = 0 ∧ Md kd r M9 m w 1 ch ea fl sv bf tn he en ln wr dg v b4 sa pa fr th bs tx li lf to)) ∧ Frm kd r M M9) nX) := by
  refine Ko_X12_failedCommand htr (fun X => ?_)
  obtain ⟨hMo, hw5, hw6, hw7, hw8, hw9, hw10, hw11, hw13, hw14, hw15, hw16, hw17, hw18, -⟩ := _root_.id hC
  have hF : Frm kd r M M := Frm.rf
  refine v_aload_n dX12_failedCommand_0 rfl rfl ?_
  refine v_aload_n dX12_failedCommand_1 rfl rfl ?_
  refine gf_X12_13 dX12_failedCommand_2 rfl hMo ?_
  refine v_if_ge (tgt := 12) dX12_failedCommand_5 (by decide) (fun h5 => ?_) (fun h5 => ?_)
  · refine v_iconst (v := 0) dX12_failedCommand_12 (by decide) ?_
    refine pf_X12_56 dX12_failedCommand_13 rfl hMo ?_
    refine V.md (Md.sc hC) (Frm.tr hF (Frm.up (hC.kd_sc))) (fun M1 hC hF => ?_)
    obtain ⟨hMo, hw5, hw6, hw7, hw8, hw9, hw10, hw11, hw13, hw14, hw15, hw16, hw17, hw18, -⟩ := _root_.id hC
    refine v_aload_n dX12_failedCommand_16 rfl rfl ?_
    refine gf_X12_56 dX12_failedCommand_17 rfl hMo ?_
    refine v_if_ne (tgt := 30) dX12_failedCommand_20 (by decide) (fun h20 => ?_) (fun h20 => ?_)
    · refine v_iconst (v := 0) dX12_failedCommand_30 (by decide) ?_
      exact v_iret dX12_failedCommand_31 rfl (by first | (exfalso; revert h20; decide) | exact ⟨Or.inl ⟨h5, rfl, hC⟩, hF⟩ | exact ⟨Or.inr ⟨h5, rfl, hC⟩, hF⟩) (by omega) (by omega)
    · refine v_aload_n dX12_failedCommand_23 rfl rfl ?_
      refine gf_X12_13 dX12_failedCommand_24 rfl hMo ?_
      refine v_goto (tgt := 31) dX12_failedCommand_27 (by decide) ?_
      exact v_iret dX12_failedCommand_31 rfl (by first | (exfalso; revert h20; decide) | exact ⟨Or.inl ⟨h5, rfl, hC⟩, hF⟩ | exact ⟨Or.inr ⟨h5, rfl, hC⟩, hF⟩) (by omega) (by omega)
  · refine v_iconst (v := 1) dX12_failedCommand_8 (by decide) ?_
    refine v_goto (tgt := 13) dX12_failedCommand_9 (by decide) ?_
    refine pf_X12_56 dX12_failedCommand_13 rfl hMo ?_
    refine V.md (Md.sc hC) (Frm.tr hF (Frm.up (hC.kd_sc))) (fun M1 hC hF => ?_)
    obtain ⟨hMo, hw5, hw6, hw7, hw8, hw9, hw10, hw11, hw13, hw14, hw15, hw16, hw17, hw18, -⟩ := _root_.id hC
    refine v_aload_n dX12_failedCommand_16 rfl rfl ?_
    refine gf_X12_56 dX12_failedCommand_17 rfl hMo ?_
    refine v_if_ne (tgt := 30) dX12_failedCommand_20 (by decide) (fun h20 => ?_) (fun h20 => ?_)
    · refine v_iconst (v := 0) dX12_failedCommand_30 (by decide) ?_
      exact v_iret dX12_failedCommand_31 rfl (by first | (exfalso; revert h20; decide) | exact ⟨Or.inl ⟨h5, rfl, hC⟩, hF⟩ | exact ⟨Or.inr ⟨h5, rfl, hC⟩, hF⟩) (by omega) (by omega)
    · refine v_aload_n dX12_failedCommand_23 rfl rfl ?_
      refine gf_X12_13 dX12_failedCommand_24 rfl hMo ?_
      refine v_goto (tgt := 31) dX12_failedCommand_27 (by decide) ?_
      exact v_iret dX12_failedCommand_31 rfl (by first | (exfalso; revert h20; decide) | exact ⟨Or.inl ⟨h5, rfl, hC⟩, hF⟩ | exact ⟨Or.inr ⟨h5, rfl, hC⟩, hF⟩) (by omega) (by omega)
theorem dX12_save_0 : decode cX12_save 0 = .ok (.aload_n 0, 1) := by decide +kernel
theorem dX12_save_1 : decode cX12_save 1 = .ok (.iconst 0, 1) := by decide +kernel
theorem dX12_save_2 : decode cX12_save 2 = .ok (.putfield 56, 3) := by decide +kernel
theorem dX12_save_5 : decode cX12_save 5 = .ok (.aload_n 0, 1) := by decide +kernel
theorem dX12_save_6 : decode cX12_save 6 = .ok (.getfield 23, 3) := by decide +kernel
theorem dX12_save_9 : decode cX12_save 9 = .ok (.aload_n 0, 1) := by decide +kernel
theorem dX12_save_10 : decode cX12_save 10 = .ok (.getfield 16, 3) := by decide +kernel
theorem dX12_save_13 : decode cX12_save 13 = .ok (.invokestatic 59, 3) := by decide +kernel
theorem dX12_save_16 : decode cX12_save 16 = .ok (.aload_n 0, 1) := by decide +kernel
theorem dX12_save_17 : decode cX12_save 17 = .ok (.iconst 1, 1) := by decide +kernel
theorem dX12_save_18 : decode cX12_save 18 = .ok (.putfield 242, 3) := by decide +kernel
theorem dX12_save_21 : decode cX12_save 21 = .ok (.aload_n 0, 1) := by decide +kernel
theorem dX12_save_22 : decode cX12_save 22 = .ok (.getfield 16, 3) := by decide +kernel
theorem dX12_save_25 : decode cX12_save 25 = .ok (.bipush 7, 2) := by decide +kernel
theorem dX12_save_27 : decode cX12_save 27 = .ok (.iaload, 1) := by decide +kernel
theorem dX12_save_28 : decode cX12_save 28 = .ok (.ireturn, 1) := by decide +kernel
set_option maxRecDepth 100000 in
set_option maxHeartbeats 4000000 in
theorem r_save {l : Launch} {g : Nat → Nat} {M : LH} (htr : l.stackTraces = false) {kd : Nat → Nat} {r m : Nat} {w : Nat → Nat} {t ch ea fl sv bf tn he en ln wr dg : Int32} {v b4 sa pa fr th bs tx li lf to : Int32 → Int32} (hC : Md kd r M m w t ch ea fl sv bf tn he en ln wr dg v b4 sa pa fr th bs tx li lf to) : K_X12_save l g 1 0 0 [.ref m] M (RI (fun x M9 => x = v 7 ∧ Md kd r M9 m w 0 ch ea fl 1 bf tn he en ln wr dg v b4 (cpF v sa) pa fr th bs tx li lf to ∧ Frm kd r M M9) nX) := by
  refine Ko_X12_save htr (fun X => ?_)
  obtain ⟨hMo, hw5, hw6, hw7, hw8, hw9, hw10, hw11, hw13, hw14, hw15, hw16, hw17, hw18, -⟩ := _root_.id hC
  have hF : Frm kd r M M := Frm.rf
  refine v_aload_n dX12_save_0 rfl rfl ?_
  refine v_iconst (v := 0) dX12_save_1 (by decide) ?_
  refine pf_X12_56 dX12_save_2 rfl hMo ?_
  refine V.md (Md.sc hC) (Frm.tr hF (Frm.up (hC.kd_sc))) (fun M1 hC hF => ?_)
  obtain ⟨hMo, hw5, hw6, hw7, hw8, hw9, hw10, hw11, hw13, hw14, hw15, hw16, hw17, hw18, -⟩ := _root_.id hC
  refine v_aload_n dX12_save_5 rfl rfl ?_
  refine gf_X12_23 dX12_save_6 rfl hMo ?_
  refine v_aload_n dX12_save_9 rfl rfl ?_
  refine gf_X12_16 dX12_save_10 rfl hMo ?_
  refine k_X12_59 dX12_save_13 rfl (r_lays htr hw7 hw5 (fun z => absurd (hC.2.2.2.2.2.2.2.2.2.2.2.2.2.2.2 5 7 (by decide) (by decide) (by decide) (by decide) z) (by decide))) (Nat.le_of_ble_eq_true rfl) (by omega) (by omega) (Nat.le_of_ble_eq_true rfl) (fun M9 h9 => ?_) (fun _ _ h9 => h9.elim)
  subst h9
  refine V.md (Md.r7 hC) (Frm.tr hF (Frm.up (hC.kd_r7))) (fun M1 hC hF => ?_)
  obtain ⟨hMo, hw5, hw6, hw7, hw8, hw9, hw10, hw11, hw13, hw14, hw15, hw16, hw17, hw18, -⟩ := _root_.id hC
  refine v_aload_n dX12_save_16 rfl rfl ?_
  refine v_iconst (v := 1) dX12_save_17 (by decide) ?_
  refine pf_X12_242 dX12_save_18 rfl (by first | rfl | assumption) (by first | rfl | assumption) hMo ?_
  refine V.md (Md.sc hC) (Frm.tr hF (Frm.up (hC.kd_sc))) (fun M1 hC hF => ?_)
  obtain ⟨hMo, hw5, hw6, hw7, hw8, hw9, hw10, hw11, hw13, hw14, hw15, hw16, hw17, hw18, -⟩ := _root_.id hC
  refine v_aload_n dX12_save_21 rfl rfl ?_
  refine gf_X12_16 dX12_save_22 rfl hMo ?_
  refine v_bipush (v := (7)) dX12_save_25 (by decide) ?_
  refine v_iald dX12_save_27 hw5 (by lia) (by lia) ?_
  exact v_iret dX12_save_28 rfl ⟨rfl, hC, hF⟩ (by omega) (by omega)
theorem dX12_restore_0 : decode cX12_restore 0 = .ok (.aload_n 0, 1) := by decide +kernel
theorem dX12_restore_1 : decode cX12_restore 1 = .ok (.aload_n 0, 1) := by decide +kernel
theorem dX12_restore_2 : decode cX12_restore 2 = .ok (.getfield 242, 3) := by decide +kernel
theorem dX12_restore_5 : decode cX12_restore 5 = .ok (.ifCond .eq 7, 3) := by decide +kernel
theorem dX12_restore_8 : decode cX12_restore 8 = .ok (.iconst 0, 1) := by decide +kernel
theorem dX12_restore_9 : decode cX12_restore 9 = .ok (.goto 4, 3) := by decide +kernel
theorem dX12_restore_12 : decode cX12_restore 12 = .ok (.iconst 1, 1) := by decide +kernel
theorem dX12_restore_13 : decode cX12_restore 13 = .ok (.putfield 56, 3) := by decide +kernel
theorem dX12_restore_16 : decode cX12_restore 16 = .ok (.aload_n 0, 1) := by decide +kernel
theorem dX12_restore_17 : decode cX12_restore 17 = .ok (.getfield 56, 3) := by decide +kernel
theorem dX12_restore_20 : decode cX12_restore 20 = .ok (.ifCond .eq 5, 3) := by decide +kernel
theorem dX12_restore_23 : decode cX12_restore 23 = .ok (.iconst 0, 1) := by decide +kernel
theorem dX12_restore_24 : decode cX12_restore 24 = .ok (.ireturn, 1) := by decide +kernel
theorem dX12_restore_25 : decode cX12_restore 25 = .ok (.aload_n 0, 1) := by decide +kernel
theorem dX12_restore_26 : decode cX12_restore 26 = .ok (.getfield 16, 3) := by decide +kernel
theorem dX12_restore_29 : decode cX12_restore 29 = .ok (.aload_n 0, 1) := by decide +kernel
theorem dX12_restore_30 : decode cX12_restore 30 = .ok (.getfield 23, 3) := by decide +kernel
theorem dX12_restore_33 : decode cX12_restore 33 = .ok (.invokestatic 59, 3) := by decide +kernel
theorem dX12_restore_36 : decode cX12_restore 36 = .ok (.aload_n 0, 1) := by decide +kernel
theorem dX12_restore_37 : decode cX12_restore 37 = .ok (.iconst 0, 1) := by decide +kernel
theorem dX12_restore_38 : decode cX12_restore 38 = .ok (.putfield 63, 3) := by decide +kernel
theorem dX12_restore_41 : decode cX12_restore 41 = .ok (.aload_n 0, 1) := by decide +kernel
theorem dX12_restore_42 : decode cX12_restore 42 = .ok (.getfield 16, 3) := by decide +kernel
theorem dX12_restore_45 : decode cX12_restore 45 = .ok (.bipush 7, 2) := by decide +kernel
theorem dX12_restore_47 : decode cX12_restore 47 = .ok (.iaload, 1) := by decide +kernel
theorem dX12_restore_48 : decode cX12_restore 48 = .ok (.ireturn, 1) := by decide +kernel
set_option maxRecDepth 100000 in
set_option maxHeartbeats 4000000 in
theorem r_restore {l : Launch} {g : Nat → Nat} {M : LH} (htr : l.stackTraces = false) {kd : Nat → Nat} {r m : Nat} {w : Nat → Nat} {t ch ea fl sv bf tn he en ln wr dg : Int32} {v b4 sa pa fr th bs tx li lf to : Int32 → Int32} (hC : Md kd r M m w t ch ea fl sv bf tn he en ln wr dg v b4 sa pa fr th bs tx li lf to) : K_X12_restore l g 1 0 0 [.ref m] M (RI (fun x M9 => ((¬ sv = 0 ∧ x = sa 7 ∧ Md kd r M9 m w 0 0 ea fl sv bf tn he en ln wr dg (cpF sa v) b4 sa pa fr th bs tx li lf to) ∨ (sv = 0 ∧ x = 0 ∧ Md kd r M9 m w 1 ch ea fl sv bf tn he en ln wr dg v b4 sa pa fr th bs tx li lf to)) ∧ Frm kd r M M9) nX) := by
  refine Ko_X12_restore htr (fun X => ?_)
  obtain ⟨hMo, hw5, hw6, hw7, hw8, hw9, hw10, hw11, hw13, hw14, hw15, hw16, hw17, hw18, -⟩ := _root_.id hC
  have hF : Frm kd r M M := Frm.rf
  refine v_aload_n dX12_restore_0 rfl rfl ?_
  refine v_aload_n dX12_restore_1 rfl rfl ?_
  refine gf_X12_242 dX12_restore_2 rfl hMo ?_
  refine v_if_eq (tgt := 12) dX12_restore_5 (by decide) (fun h5 => ?_) (fun h5 => ?_)
  · refine v_iconst (v := 1) dX12_restore_12 (by decide) ?_
    refine pf_X12_56 dX12_restore_13 rfl hMo ?_
    refine V.md (Md.sc hC) (Frm.tr hF (Frm.up (hC.kd_sc))) (fun M1 hC hF => ?_)
    obtain ⟨hMo, hw5, hw6, hw7, hw8, hw9, hw10, hw11, hw13, hw14, hw15, hw16, hw17, hw18, -⟩ := _root_.id hC
    refine v_aload_n dX12_restore_16 rfl rfl ?_
    refine gf_X12_56 dX12_restore_17 rfl hMo ?_
    refine v_if_eq (tgt := 25) dX12_restore_20 (by decide) (fun h20 => ?_) (fun h20 => ?_)
    · first | (exfalso; revert h20; decide) | skip
      all_goals
        refine v_aload_n dX12_restore_25 rfl rfl ?_
        refine gf_X12_16 dX12_restore_26 rfl hMo ?_
        refine v_aload_n dX12_restore_29 rfl rfl ?_
        refine gf_X12_23 dX12_restore_30 rfl hMo ?_
        refine k_X12_59 dX12_restore_33 rfl (r_lays htr hw5 hw7 (fun z => absurd (hC.2.2.2.2.2.2.2.2.2.2.2.2.2.2.2 7 5 (by decide) (by decide) (by decide) (by decide) z) (by decide))) (Nat.le_of_ble_eq_true rfl) (by omega) (by omega) (Nat.le_of_ble_eq_true rfl) (fun M9 h9 => ?_) (fun _ _ h9 => h9.elim)
        subst h9
        refine V.md (Md.r5 hC) (Frm.tr hF (Frm.up (hC.kd_r5))) (fun M1 hC hF => ?_)
        obtain ⟨hMo, hw5, hw6, hw7, hw8, hw9, hw10, hw11, hw13, hw14, hw15, hw16, hw17, hw18, -⟩ := _root_.id hC
        refine v_aload_n dX12_restore_36 rfl rfl ?_
        refine v_iconst (v := 0) dX12_restore_37 (by decide) ?_
        refine pf_X12_63 dX12_restore_38 rfl hMo ?_
        refine V.md (Md.sc hC) (Frm.tr hF (Frm.up (hC.kd_sc))) (fun M1 hC hF => ?_)
        obtain ⟨hMo, hw5, hw6, hw7, hw8, hw9, hw10, hw11, hw13, hw14, hw15, hw16, hw17, hw18, -⟩ := _root_.id hC
        refine v_aload_n dX12_restore_41 rfl rfl ?_
        refine gf_X12_16 dX12_restore_42 rfl hMo ?_
        refine v_bipush (v := (7)) dX12_restore_45 (by decide) ?_
        refine v_iald dX12_restore_47 hw5 (by lia) (by lia) ?_
        exact v_iret dX12_restore_48 rfl ⟨Or.inl ⟨h5, cpF_in (by decide) (by decide), hC⟩, hF⟩ (by omega) (by omega)
    · refine v_iconst (v := 0) dX12_restore_23 (by decide) ?_
      exact v_iret dX12_restore_24 rfl (by first | (exfalso; revert h20; decide) | exact ⟨Or.inr ⟨h5, rfl, hC⟩, hF⟩) (by omega) (by omega)
  · refine v_iconst (v := 0) dX12_restore_8 (by decide) ?_
    refine v_goto (tgt := 13) dX12_restore_9 (by decide) ?_
    refine pf_X12_56 dX12_restore_13 rfl hMo ?_
    refine V.md (Md.sc hC) (Frm.tr hF (Frm.up (hC.kd_sc))) (fun M1 hC hF => ?_)
    obtain ⟨hMo, hw5, hw6, hw7, hw8, hw9, hw10, hw11, hw13, hw14, hw15, hw16, hw17, hw18, -⟩ := _root_.id hC
    refine v_aload_n dX12_restore_16 rfl rfl ?_
    refine gf_X12_56 dX12_restore_17 rfl hMo ?_
    refine v_if_eq (tgt := 25) dX12_restore_20 (by decide) (fun h20 => ?_) (fun h20 => ?_)
    · first | (exfalso; revert h20; decide) | skip
      all_goals
        refine v_aload_n dX12_restore_25 rfl rfl ?_
        refine gf_X12_16 dX12_restore_26 rfl hMo ?_
        refine v_aload_n dX12_restore_29 rfl rfl ?_
        refine gf_X12_23 dX12_restore_30 rfl hMo ?_
        refine k_X12_59 dX12_restore_33 rfl (r_lays htr hw5 hw7 (fun z => absurd (hC.2.2.2.2.2.2.2.2.2.2.2.2.2.2.2 7 5 (by decide) (by decide) (by decide) (by decide) z) (by decide))) (Nat.le_of_ble_eq_true rfl) (by omega) (by omega) (Nat.le_of_ble_eq_true rfl) (fun M9 h9 => ?_) (fun _ _ h9 => h9.elim)
        subst h9
        refine V.md (Md.r5 hC) (Frm.tr hF (Frm.up (hC.kd_r5))) (fun M1 hC hF => ?_)
        obtain ⟨hMo, hw5, hw6, hw7, hw8, hw9, hw10, hw11, hw13, hw14, hw15, hw16, hw17, hw18, -⟩ := _root_.id hC
        refine v_aload_n dX12_restore_36 rfl rfl ?_
        refine v_iconst (v := 0) dX12_restore_37 (by decide) ?_
        refine pf_X12_63 dX12_restore_38 rfl hMo ?_
        refine V.md (Md.sc hC) (Frm.tr hF (Frm.up (hC.kd_sc))) (fun M1 hC hF => ?_)
        obtain ⟨hMo, hw5, hw6, hw7, hw8, hw9, hw10, hw11, hw13, hw14, hw15, hw16, hw17, hw18, -⟩ := _root_.id hC
        refine v_aload_n dX12_restore_41 rfl rfl ?_
        refine gf_X12_16 dX12_restore_42 rfl hMo ?_
        refine v_bipush (v := (7)) dX12_restore_45 (by decide) ?_
        refine v_iald dX12_restore_47 hw5 (by lia) (by lia) ?_
        exact v_iret dX12_restore_48 rfl ⟨Or.inl ⟨h5, cpF_in (by decide) (by decide), hC⟩, hF⟩ (by omega) (by omega)
    · refine v_iconst (v := 0) dX12_restore_23 (by decide) ?_
      exact v_iret dX12_restore_24 rfl (by first | (exfalso; revert h20; decide) | exact ⟨Or.inr ⟨h5, rfl, hC⟩, hF⟩) (by omega) (by omega)
theorem dX12_undo_0 : decode cX12_undo 0 = .ok (.aload_n 0, 1) := by decide +kernel
theorem dX12_undo_1 : decode cX12_undo 1 = .ok (.aload_n 0, 1) := by decide +kernel
theorem dX12_undo_2 : decode cX12_undo 2 = .ok (.getfield 63, 3) := by decide +kernel
theorem dX12_undo_5 : decode cX12_undo 5 = .ok (.ifCond .ne 7, 3) := by decide +kernel
theorem dX12_undo_8 : decode cX12_undo 8 = .ok (.iconst 1, 1) := by decide +kernel
theorem dX12_undo_9 : decode cX12_undo 9 = .ok (.goto 4, 3) := by decide +kernel
theorem dX12_undo_12 : decode cX12_undo 12 = .ok (.iconst 0, 1) := by decide +kernel
theorem dX12_undo_13 : decode cX12_undo 13 = .ok (.putfield 56, 3) := by decide +kernel
theorem dX12_undo_16 : decode cX12_undo 16 = .ok (.aload_n 0, 1) := by decide +kernel
theorem dX12_undo_17 : decode cX12_undo 17 = .ok (.getfield 56, 3) := by decide +kernel
theorem dX12_undo_20 : decode cX12_undo 20 = .ok (.ifCond .eq 5, 3) := by decide +kernel
theorem dX12_undo_23 : decode cX12_undo 23 = .ok (.iconst 0, 1) := by decide +kernel
theorem dX12_undo_24 : decode cX12_undo 24 = .ok (.ireturn, 1) := by decide +kernel
theorem dX12_undo_25 : decode cX12_undo 25 = .ok (.aload_n 0, 1) := by decide +kernel
theorem dX12_undo_26 : decode cX12_undo 26 = .ok (.dup, 1) := by decide +kernel
theorem dX12_undo_27 : decode cX12_undo 27 = .ok (.getfield 63, 3) := by decide +kernel
theorem dX12_undo_30 : decode cX12_undo 30 = .ok (.iconst 1, 1) := by decide +kernel
theorem dX12_undo_31 : decode cX12_undo 31 = .ok (.isub, 1) := by decide +kernel
theorem dX12_undo_32 : decode cX12_undo 32 = .ok (.putfield 63, 3) := by decide +kernel
theorem dX12_undo_35 : decode cX12_undo 35 = .ok (.iconst 0, 1) := by decide +kernel
theorem dX12_undo_36 : decode cX12_undo 36 = .ok (.istore_n 1, 1) := by decide +kernel
theorem dX12_undo_37 : decode cX12_undo 37 = .ok (.iload_n 1, 1) := by decide +kernel
theorem dX12_undo_38 : decode cX12_undo 38 = .ok (.sipush 150, 3) := by decide +kernel
theorem dX12_undo_41 : decode cX12_undo 41 = .ok (.if_icmp .ge 30, 3) := by decide +kernel
theorem dX12_undo_44 : decode cX12_undo 44 = .ok (.aload_n 0, 1) := by decide +kernel
theorem dX12_undo_45 : decode cX12_undo 45 = .ok (.getfield 16, 3) := by decide +kernel
theorem dX12_undo_48 : decode cX12_undo 48 = .ok (.iload_n 1, 1) := by decide +kernel
theorem dX12_undo_49 : decode cX12_undo 49 = .ok (.aload_n 0, 1) := by decide +kernel
theorem dX12_undo_50 : decode cX12_undo 50 = .ok (.getfield 26, 3) := by decide +kernel
theorem dX12_undo_53 : decode cX12_undo 53 = .ok (.aload_n 0, 1) := by decide +kernel
theorem dX12_undo_54 : decode cX12_undo 54 = .ok (.getfield 63, 3) := by decide +kernel
theorem dX12_undo_57 : decode cX12_undo 57 = .ok (.sipush 150, 3) := by decide +kernel
theorem dX12_undo_60 : decode cX12_undo 60 = .ok (.imul, 1) := by decide +kernel
theorem dX12_undo_61 : decode cX12_undo 61 = .ok (.iload_n 1, 1) := by decide +kernel
theorem dX12_undo_62 : decode cX12_undo 62 = .ok (.iadd, 1) := by decide +kernel
theorem dX12_undo_63 : decode cX12_undo 63 = .ok (.iaload, 1) := by decide +kernel
theorem dX12_undo_64 : decode cX12_undo 64 = .ok (.iastore, 1) := by decide +kernel
theorem dX12_undo_65 : decode cX12_undo 65 = .ok (.iinc 1 1, 3) := by decide +kernel
theorem dX12_undo_68 : decode cX12_undo 68 = .ok (.goto (-31), 3) := by decide +kernel
theorem dX12_undo_71 : decode cX12_undo 71 = .ok (.aload_n 0, 1) := by decide +kernel
theorem dX12_undo_72 : decode cX12_undo 72 = .ok (.getfield 63, 3) := by decide +kernel
theorem dX12_undo_75 : decode cX12_undo 75 = .ok (.ireturn, 1) := by decide +kernel
set_option maxRecDepth 100000 in
set_option maxHeartbeats 4000000 in
theorem r_undo {l : Launch} {g : Nat → Nat} {M : LH} (htr : l.stackTraces = false) {kd : Nat → Nat} {r m : Nat} {w : Nat → Nat} {t ch ea fl sv bf tn he en ln wr dg : Int32} {v b4 sa pa fr th bs tx li lf to : Int32 → Int32} (hC : Md kd r M m w t ch ea fl sv bf tn he en ln wr dg v b4 sa pa fr th bs tx li lf to) (c0 : 0 ≤ ch) (c8 : ch ≤ 8) : K_X12_undo l g 0 0 0 [.ref m] M (RI (fun x M9 => ((¬ ch = 0 ∧ x = ch - 1 ∧ Md kd r M9 m w 0 (ch - 1) ea fl sv bf tn he en ln wr dg (cpF (fun j => pa ((ch - 1) * 150 + j)) v) b4 sa pa fr th bs tx li lf to) ∨ (ch = 0 ∧ x = 0 ∧ Md kd r M9 m w 1 ch ea fl sv bf tn he en ln wr dg v b4 sa pa fr th bs tx li lf to)) ∧ Frm kd r M M9) nX) := by
  refine Ko_X12_undo htr (fun X => ?_)
  obtain ⟨hMo, hw5, hw6, hw7, hw8, hw9, hw10, hw11, hw13, hw14, hw15, hw16, hw17, hw18, -⟩ := _root_.id hC
  have hF : Frm kd r M M := Frm.rf
  refine v_aload_n dX12_undo_0 rfl rfl ?_
  refine v_aload_n dX12_undo_1 rfl rfl ?_
  refine gf_X12_63 dX12_undo_2 rfl hMo ?_
  refine v_if_ne (tgt := 12) dX12_undo_5 (by decide) (fun h5 => ?_) (fun h5 => ?_)
  · refine v_iconst (v := 0) dX12_undo_12 (by decide) ?_
    refine pf_X12_56 dX12_undo_13 rfl hMo ?_
    refine V.md (Md.sc hC) (Frm.tr hF (Frm.up (hC.kd_sc))) (fun M1 hC hF => ?_)
    obtain ⟨hMo, hw5, hw6, hw7, hw8, hw9, hw10, hw11, hw13, hw14, hw15, hw16, hw17, hw18, -⟩ := _root_.id hC
    refine v_aload_n dX12_undo_16 rfl rfl ?_
    refine gf_X12_56 dX12_undo_17 rfl hMo ?_
    refine v_if_eq (tgt := 25) dX12_undo_20 (by decide) (fun h20 => ?_) (fun h20 => ?_)
    · first | (exfalso; revert h20; decide) | skip
      all_goals
        have d0 : 0 ≤ ch - 1 ∧ ch - 1 < 8 := by clear hC hF hMo hw5 hw6 hw7 hw8 hw9 hw10 hw11 hw13 hw14 hw15 hw16 hw17 hw18; lia
        obtain ⟨d0, d1⟩ := d0
        have key : ∀ i, 0 ≤ i → i ≤ 150 → ∀ (M1 : LH), Md kd r M1 m w 0 (ch - 1) ea fl sv bf tn he en ln wr dg (cpN (fun j => pa ((ch - 1) * 150 + j)) v i) b4 sa pa fr th bs tx li lf to → Frm kd r M M1 → V l g yX12_undo cX12_undo ((some .int)) [] 0 0 0 (RI (fun x M9 => ((¬ ch = 0 ∧ x = ch - 1 ∧ Md kd r M9 m w 0 (ch - 1) ea fl sv bf tn he en ln wr dg (cpF (fun j => pa ((ch - 1) * 150 + j)) v) b4 sa pa fr th bs tx li lf to) ∨ (ch = 0 ∧ x = 0 ∧ Md kd r M9 m w 1 ch ea fl sv bf tn he en ln wr dg v b4 sa pa fr th bs tx li lf to)) ∧ Frm kd r M M9) nX) X M1 0 0 37 [some (.ref m), some (.int i)] [] := by
          clear hC hMo hw5 hw6 hw7 hw8 hw9 hw10 hw11 hw13 hw14 hw15 hw16 hw17 hw18 hF
          refine up_ind _ (fun i h0 h1 ih M1 hC hF => ?_)
          obtain ⟨hMo, hw5, hw6, hw7, hw8, hw9, hw10, hw11, hw13, hw14, hw15, hw16, hw17, hw18, -⟩ := _root_.id hC
          refine v_iload_n dX12_undo_37 rfl rfl ?_
          refine v_sipush (v := (150)) dX12_undo_38 (by decide) ?_
          refine v_icmp_ge (tgt := 71) dX12_undo_41 (by decide) (fun h41 => ?_) (fun h41 => ?_)
          · have hi : i = 150 := by clear ih hC hF hMo hw5 hw6 hw7 hw8 hw9 hw10 hw11 hw13 hw14 hw15 hw16 hw17 hw18; lia
            subst hi
            refine v_aload_n dX12_undo_71 rfl rfl ?_
            refine gf_X12_63 dX12_undo_72 rfl hMo ?_
            exact v_iret dX12_undo_75 rfl ⟨Or.inl ⟨h5, rfl, hC⟩, hF⟩ (by omega) (by omega)
          · have hi : i < 150 := by clear ih hC hF hMo hw5 hw6 hw7 hw8 hw9 hw10 hw11 hw13 hw14 hw15 hw16 hw17 hw18; lia
            refine v_aload_n dX12_undo_44 rfl rfl ?_
            refine gf_X12_16 dX12_undo_45 rfl hMo ?_
            refine v_iload_n dX12_undo_48 rfl rfl ?_
            refine v_aload_n dX12_undo_49 rfl rfl ?_
            refine gf_X12_26 dX12_undo_50 rfl hMo ?_
            refine v_aload_n dX12_undo_53 rfl rfl ?_
            refine gf_X12_63 dX12_undo_54 rfl hMo ?_
            refine v_sipush (v := (150)) dX12_undo_57 (by decide) ?_
            refine v_imul dX12_undo_60 ?_
            refine v_iload_n dX12_undo_61 rfl rfl ?_
            refine v_iadd dX12_undo_62 ?_
            refine v_iald dX12_undo_63 hw8 (by clear ih hC hF hMo hw5 hw6 hw7 hw8 hw9 hw10 hw11 hw13 hw14 hw15 hw16 hw17 hw18; lia) (by clear ih hC hF hMo hw5 hw6 hw7 hw8 hw9 hw10 hw11 hw13 hw14 hw15 hw16 hw17 hw18; lia) ?_
            refine v_iast dX12_undo_64 hw5 h0 hi ?_
            refine V.md (Md.r5 hC) (Frm.tr hF (Frm.up (hC.kd_r5))) (fun M1 hC hF => ?_)
            obtain ⟨hMo, hw5, hw6, hw7, hw8, hw9, hw10, hw11, hw13, hw14, hw15, hw16, hw17, hw18, -⟩ := _root_.id hC
            rw [cpN_1 (G := (fun j => pa ((ch - 1) * 150 + j))) h0 hi] at hC
            refine v_iinc_1 dX12_undo_65 rfl ?_
            refine v_goto (tgt := 37) dX12_undo_68 (by decide) ?_
            exact ih hi _ hC hF
        refine v_aload_n dX12_undo_25 rfl rfl ?_
        refine v_dup dX12_undo_26 rfl ?_
        refine gf_X12_63 dX12_undo_27 rfl hMo ?_
        refine v_iconst (v := 1) dX12_undo_30 (by decide) ?_
        refine v_isub dX12_undo_31 ?_
        refine pf_X12_63 dX12_undo_32 rfl hMo ?_
        refine V.md (Md.sc hC) (Frm.tr hF (Frm.up (hC.kd_sc))) (fun M1 hC hF => ?_)
        obtain ⟨hMo, hw5, hw6, hw7, hw8, hw9, hw10, hw11, hw13, hw14, hw15, hw16, hw17, hw18, -⟩ := _root_.id hC
        refine v_iconst (v := 0) dX12_undo_35 (by decide) ?_
        refine v_istore_1 dX12_undo_36 ?_
        exact key 0 (Int32.le_refl _) (by decide) _ (by rw [cpN_0]; exact hC) hF
    · refine v_iconst (v := 0) dX12_undo_23 (by decide) ?_
      exact v_iret dX12_undo_24 rfl (by first | (exfalso; revert h20; decide) | exact ⟨Or.inr ⟨(by first | exact h5 | exact Classical.not_not.mp h5), rfl, hC⟩, hF⟩) (by omega) (by omega)
  · refine v_iconst (v := 1) dX12_undo_8 (by decide) ?_
    refine v_goto (tgt := 13) dX12_undo_9 (by decide) ?_
    refine pf_X12_56 dX12_undo_13 rfl hMo ?_
    refine V.md (Md.sc hC) (Frm.tr hF (Frm.up (hC.kd_sc))) (fun M1 hC hF => ?_)
    obtain ⟨hMo, hw5, hw6, hw7, hw8, hw9, hw10, hw11, hw13, hw14, hw15, hw16, hw17, hw18, -⟩ := _root_.id hC
    refine v_aload_n dX12_undo_16 rfl rfl ?_
    refine gf_X12_56 dX12_undo_17 rfl hMo ?_
    refine v_if_eq (tgt := 25) dX12_undo_20 (by decide) (fun h20 => ?_) (fun h20 => ?_)
    · first | (exfalso; revert h20; decide) | skip
      all_goals
        have d0 : 0 ≤ ch - 1 ∧ ch - 1 < 8 := by clear hC hF hMo hw5 hw6 hw7 hw8 hw9 hw10 hw11 hw13 hw14 hw15 hw16 hw17 hw18; lia
        obtain ⟨d0, d1⟩ := d0
        have key : ∀ i, 0 ≤ i → i ≤ 150 → ∀ (M1 : LH), Md kd r M1 m w 0 (ch - 1) ea fl sv bf tn he en ln wr dg (cpN (fun j => pa ((ch - 1) * 150 + j)) v i) b4 sa pa fr th bs tx li lf to → Frm kd r M M1 → V l g yX12_undo cX12_undo ((some .int)) [] 0 0 0 (RI (fun x M9 => ((¬ ch = 0 ∧ x = ch - 1 ∧ Md kd r M9 m w 0 (ch - 1) ea fl sv bf tn he en ln wr dg (cpF (fun j => pa ((ch - 1) * 150 + j)) v) b4 sa pa fr th bs tx li lf to) ∨ (ch = 0 ∧ x = 0 ∧ Md kd r M9 m w 1 ch ea fl sv bf tn he en ln wr dg v b4 sa pa fr th bs tx li lf to)) ∧ Frm kd r M M9) nX) X M1 0 0 37 [some (.ref m), some (.int i)] [] := by
          clear hC hMo hw5 hw6 hw7 hw8 hw9 hw10 hw11 hw13 hw14 hw15 hw16 hw17 hw18 hF
          refine up_ind _ (fun i h0 h1 ih M1 hC hF => ?_)
          obtain ⟨hMo, hw5, hw6, hw7, hw8, hw9, hw10, hw11, hw13, hw14, hw15, hw16, hw17, hw18, -⟩ := _root_.id hC
          refine v_iload_n dX12_undo_37 rfl rfl ?_
          refine v_sipush (v := (150)) dX12_undo_38 (by decide) ?_
          refine v_icmp_ge (tgt := 71) dX12_undo_41 (by decide) (fun h41 => ?_) (fun h41 => ?_)
          · have hi : i = 150 := by clear ih hC hF hMo hw5 hw6 hw7 hw8 hw9 hw10 hw11 hw13 hw14 hw15 hw16 hw17 hw18; lia
            subst hi
            refine v_aload_n dX12_undo_71 rfl rfl ?_
            refine gf_X12_63 dX12_undo_72 rfl hMo ?_
            exact v_iret dX12_undo_75 rfl ⟨Or.inl ⟨h5, rfl, hC⟩, hF⟩ (by omega) (by omega)
          · have hi : i < 150 := by clear ih hC hF hMo hw5 hw6 hw7 hw8 hw9 hw10 hw11 hw13 hw14 hw15 hw16 hw17 hw18; lia
            refine v_aload_n dX12_undo_44 rfl rfl ?_
            refine gf_X12_16 dX12_undo_45 rfl hMo ?_
            refine v_iload_n dX12_undo_48 rfl rfl ?_
            refine v_aload_n dX12_undo_49 rfl rfl ?_
            refine gf_X12_26 dX12_undo_50 rfl hMo ?_
            refine v_aload_n dX12_undo_53 rfl rfl ?_
            refine gf_X12_63 dX12_undo_54 rfl hMo ?_
            refine v_sipush (v := (150)) dX12_undo_57 (by decide) ?_
            refine v_imul dX12_undo_60 ?_
            refine v_iload_n dX12_undo_61 rfl rfl ?_
            refine v_iadd dX12_undo_62 ?_
            refine v_iald dX12_undo_63 hw8 (by clear ih hC hF hMo hw5 hw6 hw7 hw8 hw9 hw10 hw11 hw13 hw14 hw15 hw16 hw17 hw18; lia) (by clear ih hC hF hMo hw5 hw6 hw7 hw8 hw9 hw10 hw11 hw13 hw14 hw15 hw16 hw17 hw18; lia) ?_
            refine v_iast dX12_undo_64 hw5 h0 hi ?_
            refine V.md (Md.r5 hC) (Frm.tr hF (Frm.up (hC.kd_r5))) (fun M1 hC hF => ?_)
            obtain ⟨hMo, hw5, hw6, hw7, hw8, hw9, hw10, hw11, hw13, hw14, hw15, hw16, hw17, hw18, -⟩ := _root_.id hC
            rw [cpN_1 (G := (fun j => pa ((ch - 1) * 150 + j))) h0 hi] at hC
            refine v_iinc_1 dX12_undo_65 rfl ?_
            refine v_goto (tgt := 37) dX12_undo_68 (by decide) ?_
            exact ih hi _ hC hF
        refine v_aload_n dX12_undo_25 rfl rfl ?_
        refine v_dup dX12_undo_26 rfl ?_
        refine gf_X12_63 dX12_undo_27 rfl hMo ?_
        refine v_iconst (v := 1) dX12_undo_30 (by decide) ?_
        refine v_isub dX12_undo_31 ?_
        refine pf_X12_63 dX12_undo_32 rfl hMo ?_
        refine V.md (Md.sc hC) (Frm.tr hF (Frm.up (hC.kd_sc))) (fun M1 hC hF => ?_)
        obtain ⟨hMo, hw5, hw6, hw7, hw8, hw9, hw10, hw11, hw13, hw14, hw15, hw16, hw17, hw18, -⟩ := _root_.id hC
        refine v_iconst (v := 0) dX12_undo_35 (by decide) ?_
        refine v_istore_1 dX12_undo_36 ?_
        exact key 0 (Int32.le_refl _) (by decide) _ (by rw [cpN_0]; exact hC) hF
    · refine v_iconst (v := 0) dX12_undo_23 (by decide) ?_
      exact v_iret dX12_undo_24 rfl (by first | (exfalso; revert h20; decide) | exact ⟨Or.inr ⟨(by first | exact h5 | exact Classical.not_not.mp h5), rfl, hC⟩, hF⟩) (by omega) (by omega)
