/-! ===== the reference: the calls that change the post ===== -/
theorem cpF_back {v b : Int32 → Int32} : cpF (cpF v b) v = v := by
  funext j
  unfold cpF
  by_cases q : 0 ≤ j ∧ j < 150
  · rw [if_pos q, if_pos q]
  · rw [if_neg q]
theorem PaS.v {ch : Int32} {pa v b pa' : Int32 → Int32} (h : PaS ch pa (cpF v b) pa') : PaS ch pa v pa' :=
  ⟨h.1, fun j j0 j1 => (h.2 j j0 j1).trans (cpF_in j0 j1)⟩
theorem fcI_nz {i x : Nat} : ¬ fcI i x = 0 := by
  unfold fcI
  split <;> (repeat' split) <;> decide
theorem dX12_addStation_0 : decode cX12_addStation 0 = .ok (.aload_n 0, 1) := by decide +kernel
theorem dX12_addStation_1 : decode cX12_addStation 1 = .ok (.invokevirtual 78, 3) := by decide +kernel
theorem dX12_addStation_4 : decode cX12_addStation 4 = .ok (.aload_n 0, 1) := by decide +kernel
theorem dX12_addStation_5 : decode cX12_addStation 5 = .ok (.aload_n 0, 1) := by decide +kernel
theorem dX12_addStation_6 : decode cX12_addStation 6 = .ok (.invokevirtual 81, 3) := by decide +kernel
theorem dX12_addStation_9 : decode cX12_addStation 9 = .ok (.invokevirtual 85, 3) := by decide +kernel
theorem dX12_addStation_12 : decode cX12_addStation 12 = .ok (.ireturn, 1) := by decide +kernel
set_option maxRecDepth 100000 in
set_option maxHeartbeats 4000000 in
theorem r_addStation {l : Launch} {g : Nat → Nat} {M : LH} (htr : l.stackTraces = false) {kd : Nat → Nat} {r m : Nat} {w : Nat → Nat} {t ch ea fl sv bf tn he en ln wr dg : Int32} {v b4 sa pa fr th bs tx li lf to : Int32 → Int32} (hC : Md kd r M m w t ch ea fl sv bf tn he en ln wr dg v b4 sa pa fr th bs tx li lf to) (hG : Good v) (c0 : 0 ≤ ch) (c8 : ch ≤ 8) : K_X12_addStation l g 4 0 0 [.ref m] M (RI (fun x M9 => ∃ (b5 pa' : Int32 → Int32), ((vdStation v = 0 ∧ x = v 5 ∧ PaS ch pa v pa' ∧ Md kd r M9 m w 0 ((if ch = 8 then 7 else ch) + 1) ea fl sv bf tn he en ln wr dg (ui v 5 (v 5 + 1)) b5 sa pa' fr th bs tx li lf to) ∨ (¬ vdStation v = 0 ∧ x = 0 ∧ ∃ pa2, pa2 = pa ∧ Md kd r M9 m w (fcI 0 (vdStation v)) ch ea fl sv bf tn he en ln wr dg v b5 sa pa2 fr th bs tx li lf to)) ∧ Frm kd r M M9) nX) := by
  refine Ko_X12_addStation htr (fun X => ?_)
  obtain ⟨hMo, hw5, hw6, hw7, hw8, hw9, hw10, hw11, hw13, hw14, hw15, hw16, hw17, hw18, -⟩ := _root_.id hC
  have hF : Frm kd r M M := Frm.rf
  refine v_aload_n dX12_addStation_0 rfl rfl ?_
  refine k_X12_78 dX12_addStation_1 rfl (r_begins htr hC) hMo (Nat.le_of_ble_eq_true rfl) (by omega) (by omega) (Nat.le_of_ble_eq_true rfl) (fun M9 h9 => ?_) (fun _ _ h9 => h9.elim)
  obtain ⟨hC, hF9⟩ := h9
  have hF := Frm.tr hF hF9
  obtain ⟨hMo, hw5, hw6, hw7, hw8, hw9, hw10, hw11, hw13, hw14, hw15, hw16, hw17, hw18, -⟩ := _root_.id hC
  refine v_aload_n dX12_addStation_4 rfl rfl ?_
  refine v_aload_n dX12_addStation_5 rfl rfl ?_
  refine k_X12_81 dX12_addStation_6 rfl (r_adds htr hC hG) hMo (Nat.le_of_ble_eq_true rfl) (by omega) (by omega) (Nat.le_of_ble_eq_true rfl) (fun r6 M9 h9 => ?_) (fun _ _ h9 => h9.elim)
  obtain ⟨h9, hF9⟩ := h9
  have hF := Frm.tr hF hF9
  rcases h9 with ⟨hv, rfl, hC⟩ | ⟨hv, rfl, hC⟩
  · obtain ⟨hMo, hw5, hw6, hw7, hw8, hw9, hw10, hw11, hw13, hw14, hw15, hw16, hw17, hw18, -⟩ := _root_.id hC
    refine k_X12_85 dX12_addStation_9 rfl (r_ends htr hC _ c0 c8) hMo (Nat.le_of_ble_eq_true rfl) (by omega) (by omega) (Nat.le_of_ble_eq_true rfl) (fun r9 M9 h9 => ?_) (fun _ _ h9 => h9.elim)
    obtain ⟨h9, hF9⟩ := h9
    have hF := Frm.tr hF hF9
    rcases h9 with ⟨ht, rfl, hC⟩ | ⟨ht, rfl, pa1, hP, hC⟩
    · exact absurd rfl ht
    · exact v_iret dX12_addStation_12 rfl ⟨_, pa1, Or.inl ⟨hv, rfl, hP.v, hC⟩, hF⟩ (by omega) (by omega)
  · obtain ⟨hMo, hw5, hw6, hw7, hw8, hw9, hw10, hw11, hw13, hw14, hw15, hw16, hw17, hw18, -⟩ := _root_.id hC
    refine k_X12_85 dX12_addStation_9 rfl (r_ends htr hC _ c0 c8) hMo (Nat.le_of_ble_eq_true rfl) (by omega) (by omega) (Nat.le_of_ble_eq_true rfl) (fun r9 M9 h9 => ?_) (fun _ _ h9 => h9.elim)
    obtain ⟨h9, hF9⟩ := h9
    have hF := Frm.tr hF hF9
    rcases h9 with ⟨ht, rfl, hC⟩ | ⟨ht, rfl, pa1, hP, hC⟩
    · rw [cpF_back] at hC
      exact v_iret dX12_addStation_12 rfl ⟨_, pa, Or.inr ⟨hv, rfl, pa, rfl, hC⟩, hF⟩ (by omega) (by omega)
    · exact absurd ht fcI_nz
theorem dX12_setRoad_0 : decode cX12_setRoad 0 = .ok (.aload_n 0, 1) := by decide +kernel
theorem dX12_setRoad_1 : decode cX12_setRoad 1 = .ok (.invokevirtual 78, 3) := by decide +kernel
theorem dX12_setRoad_4 : decode cX12_setRoad 4 = .ok (.aload_n 0, 1) := by decide +kernel
theorem dX12_setRoad_5 : decode cX12_setRoad 5 = .ok (.aload_n 0, 1) := by decide +kernel
theorem dX12_setRoad_6 : decode cX12_setRoad 6 = .ok (.iload_n 1, 1) := by decide +kernel
theorem dX12_setRoad_7 : decode cX12_setRoad 7 = .ok (.iload_n 2, 1) := by decide +kernel
theorem dX12_setRoad_8 : decode cX12_setRoad 8 = .ok (.iload_n 3, 1) := by decide +kernel
theorem dX12_setRoad_9 : decode cX12_setRoad 9 = .ok (.invokevirtual 92, 3) := by decide +kernel
theorem dX12_setRoad_12 : decode cX12_setRoad 12 = .ok (.invokevirtual 85, 3) := by decide +kernel
theorem dX12_setRoad_15 : decode cX12_setRoad 15 = .ok (.ireturn, 1) := by decide +kernel
set_option maxRecDepth 100000 in
set_option maxHeartbeats 4000000 in
theorem r_setRoad {l : Launch} {g : Nat → Nat} {M : LH} (htr : l.stackTraces = false) {kd : Nat → Nat} {r m : Nat} {w : Nat → Nat} {t ch ea fl sv bf tn he en ln wr dg : Int32} {v b4 sa pa fr th bs tx li lf to : Int32 → Int32} (hC : Md kd r M m w t ch ea fl sv bf tn he en ln wr dg v b4 sa pa fr th bs tx li lf to) (hG : Good v) (c0 : 0 ≤ ch) (c8 : ch ≤ 8) (a b n : Int32) : K_X12_setRoad l g 4 0 0 [.ref m, .int a, .int b, .int n] M (RI (fun x M9 => ∃ (b5 pa' : Int32 → Int32), ((vdRoad v a b n = 0 ∧ x = rd v a b ∧ PaS ch pa v pa' ∧ Md kd r M9 m w 0 ((if ch = 8 then 7 else ch) + 1) ea fl sv bf tn he en ln wr dg (rdS v a b n) b5 sa pa' fr th bs tx li lf to) ∨ (¬ vdRoad v a b n = 0 ∧ x = 0 ∧ ∃ pa2, pa2 = pa ∧ Md kd r M9 m w (fcI 1 (vdRoad v a b n)) ch ea fl sv bf tn he en ln wr dg v b5 sa pa2 fr th bs tx li lf to)) ∧ Frm kd r M M9) nX) := by
  refine Ko_X12_setRoad htr (fun X => ?_)
  obtain ⟨hMo, hw5, hw6, hw7, hw8, hw9, hw10, hw11, hw13, hw14, hw15, hw16, hw17, hw18, -⟩ := _root_.id hC
  have hF : Frm kd r M M := Frm.rf
  refine v_aload_n dX12_setRoad_0 rfl rfl ?_
  refine k_X12_78 dX12_setRoad_1 rfl (r_begins htr hC) hMo (Nat.le_of_ble_eq_true rfl) (by omega) (by omega) (Nat.le_of_ble_eq_true rfl) (fun M9 h9 => ?_) (fun _ _ h9 => h9.elim)
  obtain ⟨hC, hF9⟩ := h9
  have hF := Frm.tr hF hF9
  obtain ⟨hMo, hw5, hw6, hw7, hw8, hw9, hw10, hw11, hw13, hw14, hw15, hw16, hw17, hw18, -⟩ := _root_.id hC
  refine v_aload_n dX12_setRoad_4 rfl rfl ?_
  refine v_aload_n dX12_setRoad_5 rfl rfl ?_
  refine v_iload_n dX12_setRoad_6 rfl rfl ?_
  refine v_iload_n dX12_setRoad_7 rfl rfl ?_
  refine v_iload_n dX12_setRoad_8 rfl rfl ?_
  refine k_X12_92 dX12_setRoad_9 rfl (r_roads htr hC hG a b n) hMo (Nat.le_of_ble_eq_true rfl) (by omega) (by omega) (Nat.le_of_ble_eq_true rfl) (fun r9 M9 h9 => ?_) (fun _ _ h9 => h9.elim)
  obtain ⟨h9, hF9⟩ := h9
  have hF := Frm.tr hF hF9
  rcases h9 with ⟨hv, rfl, hC⟩ | ⟨hv, rfl, hC⟩
  · obtain ⟨hMo, hw5, hw6, hw7, hw8, hw9, hw10, hw11, hw13, hw14, hw15, hw16, hw17, hw18, -⟩ := _root_.id hC
    refine k_X12_85 dX12_setRoad_12 rfl (r_ends htr hC _ c0 c8) hMo (Nat.le_of_ble_eq_true rfl) (by omega) (by omega) (Nat.le_of_ble_eq_true rfl) (fun r12 M9 h9 => ?_) (fun _ _ h9 => h9.elim)
    obtain ⟨h9, hF9⟩ := h9
    have hF := Frm.tr hF hF9
    rcases h9 with ⟨ht, rfl, hC⟩ | ⟨ht, rfl, pa1, hP, hC⟩
    · exact absurd rfl ht
    · exact v_iret dX12_setRoad_15 rfl ⟨_, pa1, Or.inl ⟨hv, rfl, hP.v, hC⟩, hF⟩ (by omega) (by omega)
  · obtain ⟨hMo, hw5, hw6, hw7, hw8, hw9, hw10, hw11, hw13, hw14, hw15, hw16, hw17, hw18, -⟩ := _root_.id hC
    refine k_X12_85 dX12_setRoad_12 rfl (r_ends htr hC _ c0 c8) hMo (Nat.le_of_ble_eq_true rfl) (by omega) (by omega) (Nat.le_of_ble_eq_true rfl) (fun r12 M9 h9 => ?_) (fun _ _ h9 => h9.elim)
    obtain ⟨h9, hF9⟩ := h9
    have hF := Frm.tr hF hF9
    rcases h9 with ⟨ht, rfl, hC⟩ | ⟨ht, rfl, pa1, hP, hC⟩
    · rw [cpF_back] at hC
      exact v_iret dX12_setRoad_15 rfl ⟨_, pa, Or.inr ⟨hv, rfl, pa, rfl, hC⟩, hF⟩ (by omega) (by omega)
    · exact absurd ht fcI_nz
theorem dX12_addSledge_0 : decode cX12_addSledge 0 = .ok (.aload_n 0, 1) := by decide +kernel
theorem dX12_addSledge_1 : decode cX12_addSledge 1 = .ok (.invokevirtual 78, 3) := by decide +kernel
theorem dX12_addSledge_4 : decode cX12_addSledge 4 = .ok (.aload_n 0, 1) := by decide +kernel
theorem dX12_addSledge_5 : decode cX12_addSledge 5 = .ok (.aload_n 0, 1) := by decide +kernel
theorem dX12_addSledge_6 : decode cX12_addSledge 6 = .ok (.iload_n 1, 1) := by decide +kernel
theorem dX12_addSledge_7 : decode cX12_addSledge 7 = .ok (.iload_n 2, 1) := by decide +kernel
theorem dX12_addSledge_8 : decode cX12_addSledge 8 = .ok (.invokevirtual 99, 3) := by decide +kernel
theorem dX12_addSledge_11 : decode cX12_addSledge 11 = .ok (.invokevirtual 85, 3) := by decide +kernel
theorem dX12_addSledge_14 : decode cX12_addSledge 14 = .ok (.ireturn, 1) := by decide +kernel
set_option maxRecDepth 100000 in
set_option maxHeartbeats 4000000 in
theorem r_addSledge {l : Launch} {g : Nat → Nat} {M : LH} (htr : l.stackTraces = false) {kd : Nat → Nat} {r m : Nat} {w : Nat → Nat} {t ch ea fl sv bf tn he en ln wr dg : Int32} {v b4 sa pa fr th bs tx li lf to : Int32 → Int32} (hC : Md kd r M m w t ch ea fl sv bf tn he en ln wr dg v b4 sa pa fr th bs tx li lf to) (hG : Good v) (c0 : 0 ≤ ch) (c8 : ch ≤ 8) (s n : Int32) : K_X12_addSledge l g 4 0 0 [.ref m, .int s, .int n] M (RI (fun x M9 => ∃ (b5 pa' : Int32 → Int32), ((vdSledge v s n = 0 ∧ x = v 6 ∧ PaS ch pa v pa' ∧ Md kd r M9 m w 0 ((if ch = 8 then 7 else ch) + 1) ea fl sv bf tn he en ln wr dg (mkK v s n) b5 sa pa' fr th bs tx li lf to) ∨ (¬ vdSledge v s n = 0 ∧ x = 0 ∧ ∃ pa2, pa2 = pa ∧ Md kd r M9 m w (fcI 2 (vdSledge v s n)) ch ea fl sv bf tn he en ln wr dg v b5 sa pa2 fr th bs tx li lf to)) ∧ Frm kd r M M9) nX) := by
  refine Ko_X12_addSledge htr (fun X => ?_)
  obtain ⟨hMo, hw5, hw6, hw7, hw8, hw9, hw10, hw11, hw13, hw14, hw15, hw16, hw17, hw18, -⟩ := _root_.id hC
  have hF : Frm kd r M M := Frm.rf
  refine v_aload_n dX12_addSledge_0 rfl rfl ?_
  refine k_X12_78 dX12_addSledge_1 rfl (r_begins htr hC) hMo (Nat.le_of_ble_eq_true rfl) (by omega) (by omega) (Nat.le_of_ble_eq_true rfl) (fun M9 h9 => ?_) (fun _ _ h9 => h9.elim)
  obtain ⟨hC, hF9⟩ := h9
  have hF := Frm.tr hF hF9
  obtain ⟨hMo, hw5, hw6, hw7, hw8, hw9, hw10, hw11, hw13, hw14, hw15, hw16, hw17, hw18, -⟩ := _root_.id hC
  refine v_aload_n dX12_addSledge_4 rfl rfl ?_
  refine v_aload_n dX12_addSledge_5 rfl rfl ?_
  refine v_iload_n dX12_addSledge_6 rfl rfl ?_
  refine v_iload_n dX12_addSledge_7 rfl rfl ?_
  refine k_X12_99 dX12_addSledge_8 rfl (r_builds htr hC hG s n) hMo (Nat.le_of_ble_eq_true rfl) (by omega) (by omega) (Nat.le_of_ble_eq_true rfl) (fun r8 M9 h9 => ?_) (fun _ _ h9 => h9.elim)
  obtain ⟨h9, hF9⟩ := h9
  have hF := Frm.tr hF hF9
  rcases h9 with ⟨hv, rfl, hC⟩ | ⟨hv, rfl, hC⟩
  · obtain ⟨hMo, hw5, hw6, hw7, hw8, hw9, hw10, hw11, hw13, hw14, hw15, hw16, hw17, hw18, -⟩ := _root_.id hC
    refine k_X12_85 dX12_addSledge_11 rfl (r_ends htr hC _ c0 c8) hMo (Nat.le_of_ble_eq_true rfl) (by omega) (by omega) (Nat.le_of_ble_eq_true rfl) (fun r11 M9 h9 => ?_) (fun _ _ h9 => h9.elim)
    obtain ⟨h9, hF9⟩ := h9
    have hF := Frm.tr hF hF9
    rcases h9 with ⟨ht, rfl, hC⟩ | ⟨ht, rfl, pa1, hP, hC⟩
    · exact absurd rfl ht
    · exact v_iret dX12_addSledge_14 rfl ⟨_, pa1, Or.inl ⟨hv, rfl, hP.v, hC⟩, hF⟩ (by omega) (by omega)
  · obtain ⟨hMo, hw5, hw6, hw7, hw8, hw9, hw10, hw11, hw13, hw14, hw15, hw16, hw17, hw18, -⟩ := _root_.id hC
    refine k_X12_85 dX12_addSledge_11 rfl (r_ends htr hC _ c0 c8) hMo (Nat.le_of_ble_eq_true rfl) (by omega) (by omega) (Nat.le_of_ble_eq_true rfl) (fun r11 M9 h9 => ?_) (fun _ _ h9 => h9.elim)
    obtain ⟨h9, hF9⟩ := h9
    have hF := Frm.tr hF hF9
    rcases h9 with ⟨ht, rfl, hC⟩ | ⟨ht, rfl, pa1, hP, hC⟩
    · rw [cpF_back] at hC
      exact v_iret dX12_addSledge_14 rfl ⟨_, pa, Or.inr ⟨hv, rfl, pa, rfl, hC⟩, hF⟩ (by omega) (by omega)
    · exact absurd ht fcI_nz
theorem dX12_post_0 : decode cX12_post 0 = .ok (.aload_n 0, 1) := by decide +kernel
theorem dX12_post_1 : decode cX12_post 1 = .ok (.invokevirtual 78, 3) := by decide +kernel
theorem dX12_post_4 : decode cX12_post 4 = .ok (.aload_n 0, 1) := by decide +kernel
theorem dX12_post_5 : decode cX12_post 5 = .ok (.aload_n 0, 1) := by decide +kernel
theorem dX12_post_6 : decode cX12_post 6 = .ok (.iload_n 1, 1) := by decide +kernel
theorem dX12_post_7 : decode cX12_post 7 = .ok (.iload_n 2, 1) := by decide +kernel
theorem dX12_post_8 : decode cX12_post 8 = .ok (.iload_n 3, 1) := by decide +kernel
theorem dX12_post_9 : decode cX12_post 9 = .ok (.iload 4, 2) := by decide +kernel
theorem dX12_post_11 : decode cX12_post 11 = .ok (.iload 5, 2) := by decide +kernel
theorem dX12_post_13 : decode cX12_post 13 = .ok (.invokevirtual 102, 3) := by decide +kernel
theorem dX12_post_16 : decode cX12_post 16 = .ok (.invokevirtual 85, 3) := by decide +kernel
theorem dX12_post_19 : decode cX12_post 19 = .ok (.ireturn, 1) := by decide +kernel
set_option maxRecDepth 100000 in
set_option maxHeartbeats 4000000 in
theorem r_post {l : Launch} {g : Nat → Nat} {M : LH} (htr : l.stackTraces = false) {kd : Nat → Nat} {r m : Nat} {w : Nat → Nat} {t ch ea fl sv bf tn he en ln wr dg : Int32} {v b4 sa pa fr th bs tx li lf to : Int32 → Int32} (hC : Md kd r M m w t ch ea fl sv bf tn he en ln wr dg v b4 sa pa fr th bs tx li lf to) (hG : Good v) (c0 : 0 ≤ ch) (c8 : ch ≤ 8) (s d q e n : Int32) : K_X12_post l g 4 0 0 [.ref m, .int s, .int d, .int q, .int e, .int n] M (RI (fun x M9 => ∃ (b5 pa' : Int32 → Int32), ((vdLetter v s d q e n = 0 ∧ x = v 4 ∧ PaS ch pa v pa' ∧ Md kd r M9 m w 0 ((if ch = 8 then 7 else ch) + 1) ea fl sv bf tn he en ln wr dg (mkL v s d q e n) b5 sa pa' fr th bs tx li lf to) ∨ (¬ vdLetter v s d q e n = 0 ∧ x = 0 ∧ ∃ pa2, pa2 = pa ∧ Md kd r M9 m w (fcI 3 (vdLetter v s d q e n)) ch ea fl sv bf tn he en ln wr dg v b5 sa pa2 fr th bs tx li lf to)) ∧ Frm kd r M M9) nX) := by
  refine Ko_X12_post htr (fun X => ?_)
  obtain ⟨hMo, hw5, hw6, hw7, hw8, hw9, hw10, hw11, hw13, hw14, hw15, hw16, hw17, hw18, -⟩ := _root_.id hC
  have hF : Frm kd r M M := Frm.rf
  refine v_aload_n dX12_post_0 rfl rfl ?_
  refine k_X12_78 dX12_post_1 rfl (r_begins htr hC) hMo (Nat.le_of_ble_eq_true rfl) (by omega) (by omega) (Nat.le_of_ble_eq_true rfl) (fun M9 h9 => ?_) (fun _ _ h9 => h9.elim)
  obtain ⟨hC, hF9⟩ := h9
  have hF := Frm.tr hF hF9
  obtain ⟨hMo, hw5, hw6, hw7, hw8, hw9, hw10, hw11, hw13, hw14, hw15, hw16, hw17, hw18, -⟩ := _root_.id hC
  refine v_aload_n dX12_post_4 rfl rfl ?_
  refine v_aload_n dX12_post_5 rfl rfl ?_
  refine v_iload_n dX12_post_6 rfl rfl ?_
  refine v_iload_n dX12_post_7 rfl rfl ?_
  refine v_iload_n dX12_post_8 rfl rfl ?_
  refine v_iload dX12_post_9 rfl ?_
  refine v_iload dX12_post_11 rfl ?_
  refine k_X12_102 dX12_post_13 rfl (r_posts htr hC hG s d q e n) hMo (Nat.le_of_ble_eq_true rfl) (by omega) (by omega) (Nat.le_of_ble_eq_true rfl) (fun r13 M9 h9 => ?_) (fun _ _ h9 => h9.elim)
  obtain ⟨h9, hF9⟩ := h9
  have hF := Frm.tr hF hF9
  rcases h9 with ⟨hv, rfl, hC⟩ | ⟨hv, rfl, hC⟩
  · obtain ⟨hMo, hw5, hw6, hw7, hw8, hw9, hw10, hw11, hw13, hw14, hw15, hw16, hw17, hw18, -⟩ := _root_.id hC
    refine k_X12_85 dX12_post_16 rfl (r_ends htr hC _ c0 c8) hMo (Nat.le_of_ble_eq_true rfl) (by omega) (by omega) (Nat.le_of_ble_eq_true rfl) (fun r16 M9 h9 => ?_) (fun _ _ h9 => h9.elim)
    obtain ⟨h9, hF9⟩ := h9
    have hF := Frm.tr hF hF9
    rcases h9 with ⟨ht, rfl, hC⟩ | ⟨ht, rfl, pa1, hP, hC⟩
    · exact absurd rfl ht
    · exact v_iret dX12_post_19 rfl ⟨_, pa1, Or.inl ⟨hv, rfl, hP.v, hC⟩, hF⟩ (by omega) (by omega)
  · obtain ⟨hMo, hw5, hw6, hw7, hw8, hw9, hw10, hw11, hw13, hw14, hw15, hw16, hw17, hw18, -⟩ := _root_.id hC
    refine k_X12_85 dX12_post_16 rfl (r_ends htr hC _ c0 c8) hMo (Nat.le_of_ble_eq_true rfl) (by omega) (by omega) (Nat.le_of_ble_eq_true rfl) (fun r16 M9 h9 => ?_) (fun _ _ h9 => h9.elim)
    obtain ⟨h9, hF9⟩ := h9
    have hF := Frm.tr hF hF9
    rcases h9 with ⟨ht, rfl, hC⟩ | ⟨ht, rfl, pa1, hP, hC⟩
    · rw [cpF_back] at hC
      exact v_iret dX12_post_19 rfl ⟨_, pa, Or.inr ⟨hv, rfl, pa, rfl, hC⟩, hF⟩ (by omega) (by omega)
    · exact absurd ht fcI_nz
theorem dX12_load_0 : decode cX12_load 0 = .ok (.aload_n 0, 1) := by decide +kernel
theorem dX12_load_1 : decode cX12_load 1 = .ok (.invokevirtual 78, 3) := by decide +kernel
theorem dX12_load_4 : decode cX12_load 4 = .ok (.aload_n 0, 1) := by decide +kernel
theorem dX12_load_5 : decode cX12_load 5 = .ok (.aload_n 0, 1) := by decide +kernel
theorem dX12_load_6 : decode cX12_load 6 = .ok (.iload_n 1, 1) := by decide +kernel
theorem dX12_load_7 : decode cX12_load 7 = .ok (.aload_n 0, 1) := by decide +kernel
theorem dX12_load_8 : decode cX12_load 8 = .ok (.iload_n 2, 1) := by decide +kernel
theorem dX12_load_9 : decode cX12_load 9 = .ok (.invokevirtual 112, 3) := by decide +kernel
theorem dX12_load_12 : decode cX12_load 12 = .ok (.invokevirtual 115, 3) := by decide +kernel
theorem dX12_load_15 : decode cX12_load 15 = .ok (.invokevirtual 85, 3) := by decide +kernel
theorem dX12_load_18 : decode cX12_load 18 = .ok (.ireturn, 1) := by decide +kernel
set_option maxRecDepth 100000 in
set_option maxHeartbeats 4000000 in
theorem r_load {l : Launch} {g : Nat → Nat} {M : LH} (htr : l.stackTraces = false) {kd : Nat → Nat} {r m : Nat} {w : Nat → Nat} {t ch ea fl sv bf tn he en ln wr dg : Int32} {v b4 sa pa fr th bs tx li lf to : Int32 → Int32} (hC : Md kd r M m w t ch ea fl sv bf tn he en ln wr dg v b4 sa pa fr th bs tx li lf to) (hG : Good v) (c0 : 0 ≤ ch) (c8 : ch ≤ 8) (k id : Int32) : K_X12_load l g 4 0 0 [.ref m, .int k, .int id] M (RI (fun x M9 => ∃ (b5 pa' : Int32 → Int32), ((vdPutOn v k id = 0 ∧ x = loadOn (plS v (find v id) (10 + k)) k ∧ PaS ch pa v pa' ∧ Md kd r M9 m w 0 ((if ch = 8 then 7 else ch) + 1) ea fl sv bf tn he en ln wr dg (plS v (find v id) (10 + k)) b5 sa pa' fr th bs tx li lf to) ∨ (¬ vdPutOn v k id = 0 ∧ x = 0 ∧ ∃ pa2, pa2 = pa ∧ Md kd r M9 m w (fcI 4 (vdPutOn v k id)) ch ea fl sv bf tn he en ln wr dg v b5 sa pa2 fr th bs tx li lf to)) ∧ Frm kd r M M9) nX) := by
  refine Ko_X12_load htr (fun X => ?_)
  obtain ⟨hMo, hw5, hw6, hw7, hw8, hw9, hw10, hw11, hw13, hw14, hw15, hw16, hw17, hw18, -⟩ := _root_.id hC
  have hF : Frm kd r M M := Frm.rf
  refine v_aload_n dX12_load_0 rfl rfl ?_
  refine k_X12_78 dX12_load_1 rfl (r_begins htr hC) hMo (Nat.le_of_ble_eq_true rfl) (by omega) (by omega) (Nat.le_of_ble_eq_true rfl) (fun M9 h9 => ?_) (fun _ _ h9 => h9.elim)
  obtain ⟨hC, hF9⟩ := h9
  have hF := Frm.tr hF hF9
  obtain ⟨hMo, hw5, hw6, hw7, hw8, hw9, hw10, hw11, hw13, hw14, hw15, hw16, hw17, hw18, -⟩ := _root_.id hC
  refine v_aload_n dX12_load_4 rfl rfl ?_
  refine v_aload_n dX12_load_5 rfl rfl ?_
  refine v_iload_n dX12_load_6 rfl rfl ?_
  refine v_aload_n dX12_load_7 rfl rfl ?_
  refine v_iload_n dX12_load_8 rfl rfl ?_
  refine k_X12_112 dX12_load_9 rfl (r_find htr hC hG id) hMo (Nat.le_of_ble_eq_true rfl) (by omega) (by omega) (Nat.le_of_ble_eq_true rfl) (fun r9 M9 h9 => ?_) (fun _ _ h9 => h9.elim)
  obtain ⟨rfl, e9⟩ := h9
  subst M9
  refine k_X12_115 dX12_load_12 rfl (r_lades htr hC hG k id) hMo (Nat.le_of_ble_eq_true rfl) (by omega) (by omega) (Nat.le_of_ble_eq_true rfl) (fun r12 M9 h9 => ?_) (fun _ _ h9 => h9.elim)
  obtain ⟨h9, hF9⟩ := h9
  have hF := Frm.tr hF hF9
  rcases h9 with ⟨hv, rfl, hC⟩ | ⟨hv, rfl, hC⟩
  · obtain ⟨hMo, hw5, hw6, hw7, hw8, hw9, hw10, hw11, hw13, hw14, hw15, hw16, hw17, hw18, -⟩ := _root_.id hC
    refine k_X12_85 dX12_load_15 rfl (r_ends htr hC _ c0 c8) hMo (Nat.le_of_ble_eq_true rfl) (by omega) (by omega) (Nat.le_of_ble_eq_true rfl) (fun r15 M9 h9 => ?_) (fun _ _ h9 => h9.elim)
    obtain ⟨h9, hF9⟩ := h9
    have hF := Frm.tr hF hF9
    rcases h9 with ⟨ht, rfl, hC⟩ | ⟨ht, rfl, pa1, hP, hC⟩
    · exact absurd rfl ht
    · exact v_iret dX12_load_18 rfl ⟨_, pa1, Or.inl ⟨hv, rfl, hP.v, hC⟩, hF⟩ (by omega) (by omega)
  · obtain ⟨hMo, hw5, hw6, hw7, hw8, hw9, hw10, hw11, hw13, hw14, hw15, hw16, hw17, hw18, -⟩ := _root_.id hC
    refine k_X12_85 dX12_load_15 rfl (r_ends htr hC _ c0 c8) hMo (Nat.le_of_ble_eq_true rfl) (by omega) (by omega) (Nat.le_of_ble_eq_true rfl) (fun r15 M9 h9 => ?_) (fun _ _ h9 => h9.elim)
    obtain ⟨h9, hF9⟩ := h9
    have hF := Frm.tr hF hF9
    rcases h9 with ⟨ht, rfl, hC⟩ | ⟨ht, rfl, pa1, hP, hC⟩
    · rw [cpF_back] at hC
      exact v_iret dX12_load_18 rfl ⟨_, pa, Or.inr ⟨hv, rfl, pa, rfl, hC⟩, hF⟩ (by omega) (by omega)
    · exact absurd ht fcI_nz
theorem dX12_unload_0 : decode cX12_unload 0 = .ok (.aload_n 0, 1) := by decide +kernel
theorem dX12_unload_1 : decode cX12_unload 1 = .ok (.invokevirtual 78, 3) := by decide +kernel
theorem dX12_unload_4 : decode cX12_unload 4 = .ok (.aload_n 0, 1) := by decide +kernel
theorem dX12_unload_5 : decode cX12_unload 5 = .ok (.aload_n 0, 1) := by decide +kernel
theorem dX12_unload_6 : decode cX12_unload 6 = .ok (.iload_n 1, 1) := by decide +kernel
theorem dX12_unload_7 : decode cX12_unload 7 = .ok (.aload_n 0, 1) := by decide +kernel
theorem dX12_unload_8 : decode cX12_unload 8 = .ok (.iload_n 2, 1) := by decide +kernel
theorem dX12_unload_9 : decode cX12_unload 9 = .ok (.invokevirtual 112, 3) := by decide +kernel
theorem dX12_unload_12 : decode cX12_unload 12 = .ok (.invokevirtual 118, 3) := by decide +kernel
theorem dX12_unload_15 : decode cX12_unload 15 = .ok (.invokevirtual 85, 3) := by decide +kernel
theorem dX12_unload_18 : decode cX12_unload 18 = .ok (.ireturn, 1) := by decide +kernel
set_option maxRecDepth 100000 in
set_option maxHeartbeats 4000000 in
theorem r_unload {l : Launch} {g : Nat → Nat} {M : LH} (htr : l.stackTraces = false) {kd : Nat → Nat} {r m : Nat} {w : Nat → Nat} {t ch ea fl sv bf tn he en ln wr dg : Int32} {v b4 sa pa fr th bs tx li lf to : Int32 → Int32} (hC : Md kd r M m w t ch ea fl sv bf tn he en ln wr dg v b4 sa pa fr th bs tx li lf to) (hG : Good v) (c0 : 0 ≤ ch) (c8 : ch ≤ 8) (k id : Int32) : K_X12_unload l g 4 0 0 [.ref m, .int k, .int id] M (RI (fun x M9 => ∃ (b5 pa' : Int32 → Int32), ((vdTakeOff v k id = 0 ∧ x = loadOn (plS v (find v id) (sd v k 1)) k ∧ PaS ch pa v pa' ∧ Md kd r M9 m w 0 ((if ch = 8 then 7 else ch) + 1) ea fl sv bf tn he en ln wr dg (plS v (find v id) (sd v k 1)) b5 sa pa' fr th bs tx li lf to) ∨ (¬ vdTakeOff v k id = 0 ∧ x = 0 ∧ ∃ pa2, pa2 = pa ∧ Md kd r M9 m w (fcI 5 (vdTakeOff v k id)) ch ea fl sv bf tn he en ln wr dg v b5 sa pa2 fr th bs tx li lf to)) ∧ Frm kd r M M9) nX) := by
  refine Ko_X12_unload htr (fun X => ?_)
  obtain ⟨hMo, hw5, hw6, hw7, hw8, hw9, hw10, hw11, hw13, hw14, hw15, hw16, hw17, hw18, -⟩ := _root_.id hC
  have hF : Frm kd r M M := Frm.rf
  refine v_aload_n dX12_unload_0 rfl rfl ?_
  refine k_X12_78 dX12_unload_1 rfl (r_begins htr hC) hMo (Nat.le_of_ble_eq_true rfl) (by omega) (by omega) (Nat.le_of_ble_eq_true rfl) (fun M9 h9 => ?_) (fun _ _ h9 => h9.elim)
  obtain ⟨hC, hF9⟩ := h9
  have hF := Frm.tr hF hF9
  obtain ⟨hMo, hw5, hw6, hw7, hw8, hw9, hw10, hw11, hw13, hw14, hw15, hw16, hw17, hw18, -⟩ := _root_.id hC
  refine v_aload_n dX12_unload_4 rfl rfl ?_
  refine v_aload_n dX12_unload_5 rfl rfl ?_
  refine v_iload_n dX12_unload_6 rfl rfl ?_
  refine v_aload_n dX12_unload_7 rfl rfl ?_
  refine v_iload_n dX12_unload_8 rfl rfl ?_
  refine k_X12_112 dX12_unload_9 rfl (r_find htr hC hG id) hMo (Nat.le_of_ble_eq_true rfl) (by omega) (by omega) (Nat.le_of_ble_eq_true rfl) (fun r9 M9 h9 => ?_) (fun _ _ h9 => h9.elim)
  obtain ⟨rfl, e9⟩ := h9
  subst M9
  refine k_X12_118 dX12_unload_12 rfl (r_unlades htr hC hG k id) hMo (Nat.le_of_ble_eq_true rfl) (by omega) (by omega) (Nat.le_of_ble_eq_true rfl) (fun r12 M9 h9 => ?_) (fun _ _ h9 => h9.elim)
  obtain ⟨h9, hF9⟩ := h9
  have hF := Frm.tr hF hF9
  rcases h9 with ⟨hv, rfl, hC⟩ | ⟨hv, rfl, hC⟩
  · obtain ⟨hMo, hw5, hw6, hw7, hw8, hw9, hw10, hw11, hw13, hw14, hw15, hw16, hw17, hw18, -⟩ := _root_.id hC
    refine k_X12_85 dX12_unload_15 rfl (r_ends htr hC _ c0 c8) hMo (Nat.le_of_ble_eq_true rfl) (by omega) (by omega) (Nat.le_of_ble_eq_true rfl) (fun r15 M9 h9 => ?_) (fun _ _ h9 => h9.elim)
    obtain ⟨h9, hF9⟩ := h9
    have hF := Frm.tr hF hF9
    rcases h9 with ⟨ht, rfl, hC⟩ | ⟨ht, rfl, pa1, hP, hC⟩
    · exact absurd rfl ht
    · exact v_iret dX12_unload_18 rfl ⟨_, pa1, Or.inl ⟨hv, rfl, hP.v, hC⟩, hF⟩ (by omega) (by omega)
  · obtain ⟨hMo, hw5, hw6, hw7, hw8, hw9, hw10, hw11, hw13, hw14, hw15, hw16, hw17, hw18, -⟩ := _root_.id hC
    refine k_X12_85 dX12_unload_15 rfl (r_ends htr hC _ c0 c8) hMo (Nat.le_of_ble_eq_true rfl) (by omega) (by omega) (Nat.le_of_ble_eq_true rfl) (fun r15 M9 h9 => ?_) (fun _ _ h9 => h9.elim)
    obtain ⟨h9, hF9⟩ := h9
    have hF := Frm.tr hF hF9
    rcases h9 with ⟨ht, rfl, hC⟩ | ⟨ht, rfl, pa1, hP, hC⟩
    · rw [cpF_back] at hC
      exact v_iret dX12_unload_18 rfl ⟨_, pa, Or.inr ⟨hv, rfl, pa, rfl, hC⟩, hF⟩ (by omega) (by omega)
    · exact absurd ht fcI_nz
theorem dX12_setTemperature_0 : decode cX12_setTemperature 0 = .ok (.aload_n 0, 1) := by decide +kernel
theorem dX12_setTemperature_1 : decode cX12_setTemperature 1 = .ok (.invokevirtual 78, 3) := by decide +kernel
theorem dX12_setTemperature_4 : decode cX12_setTemperature 4 = .ok (.aload_n 0, 1) := by decide +kernel
theorem dX12_setTemperature_5 : decode cX12_setTemperature 5 = .ok (.aload_n 0, 1) := by decide +kernel
theorem dX12_setTemperature_6 : decode cX12_setTemperature 6 = .ok (.iload_n 1, 1) := by decide +kernel
theorem dX12_setTemperature_7 : decode cX12_setTemperature 7 = .ok (.invokevirtual 142, 3) := by decide +kernel
theorem dX12_setTemperature_10 : decode cX12_setTemperature 10 = .ok (.invokevirtual 85, 3) := by decide +kernel
theorem dX12_setTemperature_13 : decode cX12_setTemperature 13 = .ok (.ireturn, 1) := by decide +kernel
set_option maxRecDepth 100000 in
set_option maxHeartbeats 4000000 in
theorem r_setTemperature {l : Launch} {g : Nat → Nat} {M : LH} (htr : l.stackTraces = false) {kd : Nat → Nat} {r m : Nat} {w : Nat → Nat} {t ch ea fl sv bf tn he en ln wr dg : Int32} {v b4 sa pa fr th bs tx li lf to : Int32 → Int32} (hC : Md kd r M m w t ch ea fl sv bf tn he en ln wr dg v b4 sa pa fr th bs tx li lf to) (hG : Good v) (c0 : 0 ≤ ch) (c8 : ch ≤ 8) (n : Int32) : K_X12_setTemperature l g 4 0 0 [.ref m, .int n] M (RI (fun x M9 => ∃ (b5 pa' : Int32 → Int32), ((vdDeg n = 0 ∧ x = v 1 ∧ PaS ch pa v pa' ∧ Md kd r M9 m w 0 ((if ch = 8 then 7 else ch) + 1) ea fl sv bf tn he en ln wr dg (ui v 1 n) b5 sa pa' fr th bs tx li lf to) ∨ (¬ vdDeg n = 0 ∧ x = 0 ∧ ∃ pa2, pa2 = pa ∧ Md kd r M9 m w (fcI 8 (vdDeg n)) ch ea fl sv bf tn he en ln wr dg v b5 sa pa2 fr th bs tx li lf to)) ∧ Frm kd r M M9) nX) := by
  refine Ko_X12_setTemperature htr (fun X => ?_)
  obtain ⟨hMo, hw5, hw6, hw7, hw8, hw9, hw10, hw11, hw13, hw14, hw15, hw16, hw17, hw18, -⟩ := _root_.id hC
  have hF : Frm kd r M M := Frm.rf
  refine v_aload_n dX12_setTemperature_0 rfl rfl ?_
  refine k_X12_78 dX12_setTemperature_1 rfl (r_begins htr hC) hMo (Nat.le_of_ble_eq_true rfl) (by omega) (by omega) (Nat.le_of_ble_eq_true rfl) (fun M9 h9 => ?_) (fun _ _ h9 => h9.elim)
  obtain ⟨hC, hF9⟩ := h9
  have hF := Frm.tr hF hF9
  obtain ⟨hMo, hw5, hw6, hw7, hw8, hw9, hw10, hw11, hw13, hw14, hw15, hw16, hw17, hw18, -⟩ := _root_.id hC
  refine v_aload_n dX12_setTemperature_4 rfl rfl ?_
  refine v_aload_n dX12_setTemperature_5 rfl rfl ?_
  refine v_iload_n dX12_setTemperature_6 rfl rfl ?_
  refine k_X12_142 dX12_setTemperature_7 rfl (r_heats htr hC hG n) hMo (Nat.le_of_ble_eq_true rfl) (by omega) (by omega) (Nat.le_of_ble_eq_true rfl) (fun r7 M9 h9 => ?_) (fun _ _ h9 => h9.elim)
  obtain ⟨h9, hF9⟩ := h9
  have hF := Frm.tr hF hF9
  rcases h9 with ⟨hv, rfl, hC⟩ | ⟨hv, rfl, hC⟩
  · obtain ⟨hMo, hw5, hw6, hw7, hw8, hw9, hw10, hw11, hw13, hw14, hw15, hw16, hw17, hw18, -⟩ := _root_.id hC
    refine k_X12_85 dX12_setTemperature_10 rfl (r_ends htr hC _ c0 c8) hMo (Nat.le_of_ble_eq_true rfl) (by omega) (by omega) (Nat.le_of_ble_eq_true rfl) (fun r10 M9 h9 => ?_) (fun _ _ h9 => h9.elim)
    obtain ⟨h9, hF9⟩ := h9
    have hF := Frm.tr hF hF9
    rcases h9 with ⟨ht, rfl, hC⟩ | ⟨ht, rfl, pa1, hP, hC⟩
    · exact absurd rfl ht
    · exact v_iret dX12_setTemperature_13 rfl ⟨_, pa1, Or.inl ⟨hv, rfl, hP.v, hC⟩, hF⟩ (by omega) (by omega)
  · obtain ⟨hMo, hw5, hw6, hw7, hw8, hw9, hw10, hw11, hw13, hw14, hw15, hw16, hw17, hw18, -⟩ := _root_.id hC
    refine k_X12_85 dX12_setTemperature_10 rfl (r_ends htr hC _ c0 c8) hMo (Nat.le_of_ble_eq_true rfl) (by omega) (by omega) (Nat.le_of_ble_eq_true rfl) (fun r10 M9 h9 => ?_) (fun _ _ h9 => h9.elim)
    obtain ⟨h9, hF9⟩ := h9
    have hF := Frm.tr hF hF9
    rcases h9 with ⟨ht, rfl, hC⟩ | ⟨ht, rfl, pa1, hP, hC⟩
    · rw [cpF_back] at hC
      exact v_iret dX12_setTemperature_13 rfl ⟨_, pa, Or.inr ⟨hv, rfl, pa, rfl, hC⟩, hF⟩ (by omega) (by omega)
    · exact absurd ht fcI_nz
theorem dX12_advance_0 : decode cX12_advance 0 = .ok (.aload_n 0, 1) := by decide +kernel
theorem dX12_advance_1 : decode cX12_advance 1 = .ok (.invokevirtual 78, 3) := by decide +kernel
theorem dX12_advance_4 : decode cX12_advance 4 = .ok (.aload_n 0, 1) := by decide +kernel
theorem dX12_advance_5 : decode cX12_advance 5 = .ok (.aload_n 0, 1) := by decide +kernel
theorem dX12_advance_6 : decode cX12_advance 6 = .ok (.iload_n 1, 1) := by decide +kernel
theorem dX12_advance_7 : decode cX12_advance 7 = .ok (.invokevirtual 155, 3) := by decide +kernel
theorem dX12_advance_10 : decode cX12_advance 10 = .ok (.invokevirtual 85, 3) := by decide +kernel
theorem dX12_advance_13 : decode cX12_advance 13 = .ok (.ireturn, 1) := by decide +kernel
set_option maxRecDepth 100000 in
set_option maxHeartbeats 4000000 in
theorem r_advance {l : Launch} {g : Nat → Nat} {M : LH} (htr : l.stackTraces = false) {kd : Nat → Nat} {r m : Nat} {w : Nat → Nat} {t ch ea fl sv bf tn he en ln wr dg : Int32} {v b4 sa pa fr th bs tx li lf to : Int32 → Int32} (hC : Md kd r M m w t ch ea fl sv bf tn he en ln wr dg v b4 sa pa fr th bs tx li lf to) (hG : Good v) (c0 : 0 ≤ ch) (c8 : ch ≤ 8) (n : Int32) : K_X12_advance l g 4 0 0 [.ref m, .int n] M (RI (fun x M9 => ∃ (b5 pa' : Int32 → Int32), ((vdHrs n = 0 ∧ x = psN v n.toNatClampNeg 3 - v 3 ∧ PaS ch pa v pa' ∧ Md kd r M9 m w 0 ((if ch = 8 then 7 else ch) + 1) ea fl sv bf tn he en ln wr dg (psN v n.toNatClampNeg) b5 sa pa' fr th bs tx li lf to) ∨ (¬ vdHrs n = 0 ∧ x = 0 ∧ ∃ pa2, pa2 = pa ∧ Md kd r M9 m w (fcI 9 (vdHrs n)) ch ea fl sv bf tn he en ln wr dg v b5 sa pa2 fr th bs tx li lf to)) ∧ Frm kd r M M9) nX) := by
  refine Ko_X12_advance htr (fun X => ?_)
  obtain ⟨hMo, hw5, hw6, hw7, hw8, hw9, hw10, hw11, hw13, hw14, hw15, hw16, hw17, hw18, -⟩ := _root_.id hC
  have hF : Frm kd r M M := Frm.rf
  refine v_aload_n dX12_advance_0 rfl rfl ?_
  refine k_X12_78 dX12_advance_1 rfl (r_begins htr hC) hMo (Nat.le_of_ble_eq_true rfl) (by omega) (by omega) (Nat.le_of_ble_eq_true rfl) (fun M9 h9 => ?_) (fun _ _ h9 => h9.elim)
  obtain ⟨hC, hF9⟩ := h9
  have hF := Frm.tr hF hF9
  obtain ⟨hMo, hw5, hw6, hw7, hw8, hw9, hw10, hw11, hw13, hw14, hw15, hw16, hw17, hw18, -⟩ := _root_.id hC
  refine v_aload_n dX12_advance_4 rfl rfl ?_
  refine v_aload_n dX12_advance_5 rfl rfl ?_
  refine v_iload_n dX12_advance_6 rfl rfl ?_
  refine k_X12_155 dX12_advance_7 rfl (r_passes htr hC hG n) hMo (Nat.le_of_ble_eq_true rfl) (by omega) (by omega) (Nat.le_of_ble_eq_true rfl) (fun r7 M9 h9 => ?_) (fun _ _ h9 => h9.elim)
  obtain ⟨h9, hF9⟩ := h9
  have hF := Frm.tr hF hF9
  rcases h9 with ⟨hv, rfl, hC⟩ | ⟨hv, rfl, hC⟩
  · obtain ⟨hMo, hw5, hw6, hw7, hw8, hw9, hw10, hw11, hw13, hw14, hw15, hw16, hw17, hw18, -⟩ := _root_.id hC
    refine k_X12_85 dX12_advance_10 rfl (r_ends htr hC _ c0 c8) hMo (Nat.le_of_ble_eq_true rfl) (by omega) (by omega) (Nat.le_of_ble_eq_true rfl) (fun r10 M9 h9 => ?_) (fun _ _ h9 => h9.elim)
    obtain ⟨h9, hF9⟩ := h9
    have hF := Frm.tr hF hF9
    rcases h9 with ⟨ht, rfl, hC⟩ | ⟨ht, rfl, pa1, hP, hC⟩
    · exact absurd rfl ht
    · exact v_iret dX12_advance_13 rfl ⟨_, pa1, Or.inl ⟨hv, rfl, hP.v, hC⟩, hF⟩ (by omega) (by omega)
  · obtain ⟨hMo, hw5, hw6, hw7, hw8, hw9, hw10, hw11, hw13, hw14, hw15, hw16, hw17, hw18, -⟩ := _root_.id hC
    refine k_X12_85 dX12_advance_10 rfl (r_ends htr hC _ c0 c8) hMo (Nat.le_of_ble_eq_true rfl) (by omega) (by omega) (Nat.le_of_ble_eq_true rfl) (fun r10 M9 h9 => ?_) (fun _ _ h9 => h9.elim)
    obtain ⟨h9, hF9⟩ := h9
    have hF := Frm.tr hF hF9
    rcases h9 with ⟨ht, rfl, hC⟩ | ⟨ht, rfl, pa1, hP, hC⟩
    · rw [cpF_back] at hC
      exact v_iret dX12_advance_13 rfl ⟨_, pa, Or.inr ⟨hv, rfl, pa, rfl, hC⟩, hF⟩ (by omega) (by omega)
    · exact absurd ht fcI_nz
