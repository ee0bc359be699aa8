/-! ===== the reference: numbers behind a mark; degrees ===== -/
theorem sgN_in {tx : Int32 → Int32} {en he c : Int32} (e60 : en ≤ 60) (h : sgN tx en he = c) (hc : ¬ c = -1) : he < 60 := by
  by_cases q : he < en
  · exact Int32.lt_of_lt_of_le q e60
  · rw [sgN_f q] at h
    exact absurd h.symm hc
theorem dX12_behind_0 : decode cX12_behind 0 = .ok (.aload_n 0, 1) := by decide +kernel
theorem dX12_behind_1 : decode cX12_behind 1 = .ok (.bipush 32, 2) := by decide +kernel
theorem dX12_behind_3 : decode cX12_behind 3 = .ok (.invokevirtual 215, 3) := by decide +kernel
theorem dX12_behind_6 : decode cX12_behind 6 = .ok (.aload_n 0, 1) := by decide +kernel
theorem dX12_behind_7 : decode cX12_behind 7 = .ok (.getfield 208, 3) := by decide +kernel
theorem dX12_behind_10 : decode cX12_behind 10 = .ok (.ifCond .eq 7, 3) := by decide +kernel
theorem dX12_behind_13 : decode cX12_behind 13 = .ok (.iconst 0, 1) := by decide +kernel
theorem dX12_behind_14 : decode cX12_behind 14 = .ok (.goto 8, 3) := by decide +kernel
theorem dX12_behind_17 : decode cX12_behind 17 = .ok (.aload_n 0, 1) := by decide +kernel
theorem dX12_behind_18 : decode cX12_behind 18 = .ok (.iload_n 1, 1) := by decide +kernel
theorem dX12_behind_19 : decode cX12_behind 19 = .ok (.invokevirtual 218, 3) := by decide +kernel
theorem dX12_behind_22 : decode cX12_behind 22 = .ok (.ireturn, 1) := by decide +kernel
set_option maxRecDepth 100000 in
set_option maxHeartbeats 4000000 in
theorem r_behind {l : Launch} {g : Nat → Nat} {M : LH} (htr : l.stackTraces = false) {kd : Nat → Nat} {r m : Nat} {w : Nat → Nat} {t ch ea fl sv bf tn he en ln wr dg : Int32} {v b4 sa pa fr th bs tx li lf to : Int32 → Int32} (hC : Md kd r M m w t ch ea fl sv bf tn he en ln wr dg v b4 sa pa fr th bs tx li lf to) (e0 : 0 ≤ he) (e61 : he ≤ 60) (e60 : en ≤ 60) (hwr : wr = 0 ∨ wr = 1) {f0 : Nat} (hf0 : f0 ≤ 3) : K_X12_behind l g 2 0 0 [.ref m, .int (nI f0)] M (RI (fun x M9 => ((wr = 1 ∧ x = 0 ∧ Md kd r M9 m w t ch ea fl sv bf tn he en ln wr dg v b4 sa pa fr th bs tx li lf to) ∨ (wr = 0 ∧ ¬ sgN tx en he = 32 ∧ x = 0 ∧ Md kd r M9 m w t ch ea fl sv bf tn he en ln 1 dg v b4 sa pa fr th bs tx li lf to) ∨ (wr = 0 ∧ sgN tx en he = 32 ∧ x = (rdD tx en f0 (he + 1) 0).2 ∧ Md kd r M9 m w t ch ea fl sv bf tn (rdD tx en f0 (he + 1) 0).1 en ln (if (rdD tx en f0 (he + 1) 0).1 = he + 1 then 1 else 0) dg v b4 sa pa fr th bs tx li lf to)) ∧ Frm kd r M M9) nX) := by
  refine Ko_X12_behind htr (fun X => ?_)
  obtain ⟨hMo, hw5, hw6, hw7, hw8, hw9, hw10, hw11, hw13, hw14, hw15, hw16, hw17, hw18, -⟩ := _root_.id hC
  have hF : Frm kd r M M := Frm.rf
  refine v_aload_n dX12_behind_0 rfl rfl ?_
  refine v_bipush (v := (32)) dX12_behind_1 (by decide) ?_
  refine k_X12_215 dX12_behind_3 rfl (r_mark htr hC e0 e60 32) hMo (Nat.le_of_ble_eq_true rfl) (by omega) (by omega) (Nat.le_of_ble_eq_true rfl) (fun M9 h9 => ?_) (fun _ _ h9 => h9.elim)
  obtain ⟨h9, hF9⟩ := h9
  have hF := Frm.tr hF hF9
  rcases h9 with ⟨hw, hC⟩ | ⟨hw, hs, hC⟩ | ⟨hw, hs, hC⟩
  · have hw1 : wr = 1 := hwr.resolve_left hw
    subst hw1
    obtain ⟨hMo, hw5, hw6, hw7, hw8, hw9, hw10, hw11, hw13, hw14, hw15, hw16, hw17, hw18, -⟩ := _root_.id hC
    refine v_aload_n dX12_behind_6 rfl rfl ?_
    refine gf_X12_208 dX12_behind_7 rfl hMo ?_
    refine v_if_eq (tgt := 17) dX12_behind_10 (by decide) (fun h10 => ?_) (fun h10 => ?_)
    · exact absurd h10 (by decide)
    · refine v_iconst (v := 0) dX12_behind_13 (by decide) ?_
      refine v_goto (tgt := 22) dX12_behind_14 (by decide) ?_
      exact v_iret dX12_behind_22 rfl ⟨Or.inl ⟨rfl, rfl, hC⟩, hF⟩ (by omega) (by omega)
  · have hlt := sgN_in e60 hs (by decide)
    obtain ⟨hMo, hw5, hw6, hw7, hw8, hw9, hw10, hw11, hw13, hw14, hw15, hw16, hw17, hw18, -⟩ := _root_.id hC
    refine v_aload_n dX12_behind_6 rfl rfl ?_
    refine gf_X12_208 dX12_behind_7 rfl hMo ?_
    refine v_if_eq (tgt := 17) dX12_behind_10 (by decide) (fun h10 => ?_) (fun h10 => ?_)
    · refine v_aload_n dX12_behind_17 rfl rfl ?_
      refine v_iload_n dX12_behind_18 rfl rfl ?_
      refine k_X12_218 dX12_behind_19 rfl (r_digits htr hC (he := he + 1) (by clear hC hF hMo; lia) (by clear hC hF hMo; lia) e60 (Or.inl rfl) hf0) hMo (Nat.le_of_ble_eq_true rfl) (by omega) (by omega) (Nat.le_of_ble_eq_true rfl) (fun r19 M9 h9 => ?_) (fun _ _ h9 => h9.elim)
      obtain ⟨h9, hF9⟩ := h9
      have hF := Frm.tr hF hF9
      rcases h9 with ⟨hw2, -, -⟩ | ⟨-, rfl, hC⟩
      · exact absurd hw2 (by decide)
      · exact v_iret dX12_behind_22 rfl ⟨Or.inr (Or.inr ⟨hw, hs, rfl, hC⟩), hF⟩ (by omega) (by omega)
    · exact absurd rfl h10
  · obtain ⟨hMo, hw5, hw6, hw7, hw8, hw9, hw10, hw11, hw13, hw14, hw15, hw16, hw17, hw18, -⟩ := _root_.id hC
    refine v_aload_n dX12_behind_6 rfl rfl ?_
    refine gf_X12_208 dX12_behind_7 rfl hMo ?_
    refine v_if_eq (tgt := 17) dX12_behind_10 (by decide) (fun h10 => ?_) (fun h10 => ?_)
    · exact absurd h10 (by decide)
    · refine v_iconst (v := 0) dX12_behind_13 (by decide) ?_
      refine v_goto (tgt := 22) dX12_behind_14 (by decide) ?_
      exact v_iret dX12_behind_22 rfl ⟨Or.inr (Or.inl ⟨hw, hs, rfl, hC⟩), hF⟩ (by omega) (by omega)
theorem dX12_degrees_0 : decode cX12_degrees 0 = .ok (.aload_n 0, 1) := by decide +kernel
theorem dX12_degrees_1 : decode cX12_degrees 1 = .ok (.invokevirtual 212, 3) := by decide +kernel
theorem dX12_degrees_4 : decode cX12_degrees 4 = .ok (.bipush 45, 2) := by decide +kernel
theorem dX12_degrees_6 : decode cX12_degrees 6 = .ok (.if_icmp .ne 7, 3) := by decide +kernel
theorem dX12_degrees_9 : decode cX12_degrees 9 = .ok (.iconst 1, 1) := by decide +kernel
theorem dX12_degrees_10 : decode cX12_degrees 10 = .ok (.goto 4, 3) := by decide +kernel
theorem dX12_degrees_13 : decode cX12_degrees 13 = .ok (.iconst 0, 1) := by decide +kernel
theorem dX12_degrees_14 : decode cX12_degrees 14 = .ok (.istore_n 1, 1) := by decide +kernel
theorem dX12_degrees_15 : decode cX12_degrees 15 = .ok (.aload_n 0, 1) := by decide +kernel
theorem dX12_degrees_16 : decode cX12_degrees 16 = .ok (.dup, 1) := by decide +kernel
theorem dX12_degrees_17 : decode cX12_degrees 17 = .ok (.getfield 202, 3) := by decide +kernel
theorem dX12_degrees_20 : decode cX12_degrees 20 = .ok (.iload_n 1, 1) := by decide +kernel
theorem dX12_degrees_21 : decode cX12_degrees 21 = .ok (.ifCond .eq 7, 3) := by decide +kernel
theorem dX12_degrees_24 : decode cX12_degrees 24 = .ok (.iconst 1, 1) := by decide +kernel
theorem dX12_degrees_25 : decode cX12_degrees 25 = .ok (.goto 4, 3) := by decide +kernel
theorem dX12_degrees_28 : decode cX12_degrees 28 = .ok (.iconst 0, 1) := by decide +kernel
theorem dX12_degrees_29 : decode cX12_degrees 29 = .ok (.iadd, 1) := by decide +kernel
theorem dX12_degrees_30 : decode cX12_degrees 30 = .ok (.putfield 202, 3) := by decide +kernel
theorem dX12_degrees_33 : decode cX12_degrees 33 = .ok (.aload_n 0, 1) := by decide +kernel
theorem dX12_degrees_34 : decode cX12_degrees 34 = .ok (.iconst 3, 1) := by decide +kernel
theorem dX12_degrees_35 : decode cX12_degrees 35 = .ok (.invokevirtual 218, 3) := by decide +kernel
theorem dX12_degrees_38 : decode cX12_degrees 38 = .ok (.istore_n 2, 1) := by decide +kernel
theorem dX12_degrees_39 : decode cX12_degrees 39 = .ok (.iload_n 1, 1) := by decide +kernel
theorem dX12_degrees_40 : decode cX12_degrees 40 = .ok (.ifCond .eq 8, 3) := by decide +kernel
theorem dX12_degrees_43 : decode cX12_degrees 43 = .ok (.iload_n 2, 1) := by decide +kernel
theorem dX12_degrees_44 : decode cX12_degrees 44 = .ok (.ineg, 1) := by decide +kernel
theorem dX12_degrees_45 : decode cX12_degrees 45 = .ok (.goto 4, 3) := by decide +kernel
theorem dX12_degrees_48 : decode cX12_degrees 48 = .ok (.iload_n 2, 1) := by decide +kernel
theorem dX12_degrees_49 : decode cX12_degrees 49 = .ok (.ireturn, 1) := by decide +kernel
set_option maxRecDepth 100000 in
set_option maxHeartbeats 4000000 in
theorem r_degrees {l : Launch} {g : Nat → Nat} {M : LH} (htr : l.stackTraces = false) {kd : Nat → Nat} {r m : Nat} {w : Nat → Nat} {t ch ea fl sv bf tn he en ln wr dg : Int32} {v b4 sa pa fr th bs tx li lf to : Int32 → Int32} (hC : Md kd r M m w t ch ea fl sv bf tn he en ln wr dg v b4 sa pa fr th bs tx li lf to) (e0 : 0 ≤ he) (e61 : he ≤ 60) (e60 : en ≤ 60) (hw0 : wr = 0) : K_X12_degrees l g 2 0 0 [.ref m] M (RI (fun x M9 => x = (if sgN tx en he = 45 then -(rdD tx en 3 (if sgN tx en he = 45 then he + 1 else he) 0).2 else (rdD tx en 3 (if sgN tx en he = 45 then he + 1 else he) 0).2) ∧ Md kd r M9 m w t ch ea fl sv bf tn (rdD tx en 3 (if sgN tx en he = 45 then he + 1 else he) 0).1 en ln (if (rdD tx en 3 (if sgN tx en he = 45 then he + 1 else he) 0).1 = (if sgN tx en he = 45 then he + 1 else he) then 1 else 0) dg v b4 sa pa fr th bs tx li lf to ∧ Frm kd r M M9) nX) := by
  refine Ko_X12_degrees htr (fun X => ?_)
  subst hw0
  obtain ⟨hMo, hw5, hw6, hw7, hw8, hw9, hw10, hw11, hw13, hw14, hw15, hw16, hw17, hw18, -⟩ := _root_.id hC
  have hF : Frm kd r M M := Frm.rf
  refine v_aload_n dX12_degrees_0 rfl rfl ?_
  refine k_X12_212 dX12_degrees_1 rfl (r_sign htr hC e0 e60) hMo (Nat.le_of_ble_eq_true rfl) (by omega) (by omega) (Nat.le_of_ble_eq_true rfl) (fun r1 M9 h9 => ?_) (fun _ _ h9 => h9.elim)
  obtain ⟨rfl, e9⟩ := h9
  subst M9
  refine v_bipush (v := (45)) dX12_degrees_4 (by decide) ?_
  refine v_icmp_ne (tgt := 13) dX12_degrees_6 (by decide) (fun h6 => ?_) (fun h6 => ?_)
  · have hs := (by first | exact h6 | exact fun z => h6 z : ¬ sgN tx en he = 45)
    rw [if_neg hs, if_neg hs]
    refine v_iconst (v := 0) dX12_degrees_13 (by decide) ?_
    refine v_istore_1 dX12_degrees_14 ?_
    refine v_aload_n dX12_degrees_15 rfl rfl ?_
    refine v_dup dX12_degrees_16 rfl ?_
    refine gf_X12_202 dX12_degrees_17 rfl hMo ?_
    refine v_iload_n dX12_degrees_20 rfl rfl ?_
    refine v_if_eq (tgt := 28) dX12_degrees_21 (by decide) (fun h21 => ?_) (fun h21 => ?_)
    · refine v_iconst (v := 0) dX12_degrees_28 (by decide) ?_
      refine v_iadd dX12_degrees_29 ?_
      refine pf_X12_202 dX12_degrees_30 rfl hMo ?_
      refine V.md (Md.sc hC) (Frm.tr hF (Frm.up (hC.kd_sc))) (fun M1 hC hF => ?_)
      obtain ⟨hMo, hw5, hw6, hw7, hw8, hw9, hw10, hw11, hw13, hw14, hw15, hw16, hw17, hw18, -⟩ := _root_.id hC
      refine v_aload_n dX12_degrees_33 rfl rfl ?_
      refine v_iconst (v := 3) dX12_degrees_34 (by decide) ?_
      refine k_X12_218 dX12_degrees_35 rfl (r_digits htr hC (f0 := 3) (by clear hC hF hMo; lia) (by clear hC hF hMo; first | lia | (exfalso; revert h21; decide)) e60 (Or.inl rfl) (by decide)) hMo (Nat.le_of_ble_eq_true rfl) (by omega) (by omega) (Nat.le_of_ble_eq_true rfl) (fun r35 M9 h9 => ?_) (fun _ _ h9 => h9.elim)
      obtain ⟨h9, hF9⟩ := h9
      have hF := Frm.tr hF hF9
      rcases h9 with ⟨hw2, -, -⟩ | ⟨-, rfl, hC⟩
      · exact absurd hw2 (by decide)
      · refine v_istore_2 dX12_degrees_38 ?_
        refine v_iload_n dX12_degrees_39 rfl rfl ?_
        refine v_if_eq (tgt := 48) dX12_degrees_40 (by decide) (fun h40 => ?_) (fun h40 => ?_)
        · refine v_iload_n dX12_degrees_48 rfl rfl ?_
          exact v_iret dX12_degrees_49 rfl (by first | (exfalso; revert h21; decide) | (exfalso; revert h40; decide) | exact ⟨rfl, hC, hF⟩ | exact (by simp only [Int32.add_zero] at hC ⊢; exact ⟨rfl, hC, hF⟩)) (by omega) (by omega)
        · refine v_iload_n dX12_degrees_43 rfl rfl ?_
          refine v_ineg dX12_degrees_44 ?_
          refine v_goto (tgt := 49) dX12_degrees_45 (by decide) ?_
          exact v_iret dX12_degrees_49 rfl (by first | (exfalso; revert h21; decide) | (exfalso; revert h40; decide) | exact ⟨rfl, hC, hF⟩ | exact (by simp only [Int32.add_zero] at hC ⊢; exact ⟨rfl, hC, hF⟩)) (by omega) (by omega)
    · refine v_iconst (v := 1) dX12_degrees_24 (by decide) ?_
      refine v_goto (tgt := 29) dX12_degrees_25 (by decide) ?_
      refine v_iadd dX12_degrees_29 ?_
      refine pf_X12_202 dX12_degrees_30 rfl hMo ?_
      refine V.md (Md.sc hC) (Frm.tr hF (Frm.up (hC.kd_sc))) (fun M1 hC hF => ?_)
      obtain ⟨hMo, hw5, hw6, hw7, hw8, hw9, hw10, hw11, hw13, hw14, hw15, hw16, hw17, hw18, -⟩ := _root_.id hC
      refine v_aload_n dX12_degrees_33 rfl rfl ?_
      refine v_iconst (v := 3) dX12_degrees_34 (by decide) ?_
      refine k_X12_218 dX12_degrees_35 rfl (r_digits htr hC (f0 := 3) (by clear hC hF hMo; lia) (by clear hC hF hMo; first | lia | (exfalso; revert h21; decide)) e60 (Or.inl rfl) (by decide)) hMo (Nat.le_of_ble_eq_true rfl) (by omega) (by omega) (Nat.le_of_ble_eq_true rfl) (fun r35 M9 h9 => ?_) (fun _ _ h9 => h9.elim)
      obtain ⟨h9, hF9⟩ := h9
      have hF := Frm.tr hF hF9
      rcases h9 with ⟨hw2, -, -⟩ | ⟨-, rfl, hC⟩
      · exact absurd hw2 (by decide)
      · refine v_istore_2 dX12_degrees_38 ?_
        refine v_iload_n dX12_degrees_39 rfl rfl ?_
        refine v_if_eq (tgt := 48) dX12_degrees_40 (by decide) (fun h40 => ?_) (fun h40 => ?_)
        · refine v_iload_n dX12_degrees_48 rfl rfl ?_
          exact v_iret dX12_degrees_49 rfl (by first | (exfalso; revert h21; decide) | (exfalso; revert h40; decide) | exact ⟨rfl, hC, hF⟩ | exact (by simp only [Int32.add_zero] at hC ⊢; exact ⟨rfl, hC, hF⟩)) (by omega) (by omega)
        · refine v_iload_n dX12_degrees_43 rfl rfl ?_
          refine v_ineg dX12_degrees_44 ?_
          refine v_goto (tgt := 49) dX12_degrees_45 (by decide) ?_
          exact v_iret dX12_degrees_49 rfl (by first | (exfalso; revert h21; decide) | (exfalso; revert h40; decide) | exact ⟨rfl, hC, hF⟩ | exact (by simp only [Int32.add_zero] at hC ⊢; exact ⟨rfl, hC, hF⟩)) (by omega) (by omega)
  · have hs := (by first | exact h6 | exact Classical.not_not.mp h6 : sgN tx en he = 45)
    have hlt := sgN_in e60 hs (by decide)
    rw [if_pos hs, if_pos hs]
    refine v_iconst (v := 1) dX12_degrees_9 (by decide) ?_
    refine v_goto (tgt := 14) dX12_degrees_10 (by decide) ?_
    refine v_istore_1 dX12_degrees_14 ?_
    refine v_aload_n dX12_degrees_15 rfl rfl ?_
    refine v_dup dX12_degrees_16 rfl ?_
    refine gf_X12_202 dX12_degrees_17 rfl hMo ?_
    refine v_iload_n dX12_degrees_20 rfl rfl ?_
    refine v_if_eq (tgt := 28) dX12_degrees_21 (by decide) (fun h21 => ?_) (fun h21 => ?_)
    · refine v_iconst (v := 0) dX12_degrees_28 (by decide) ?_
      refine v_iadd dX12_degrees_29 ?_
      refine pf_X12_202 dX12_degrees_30 rfl hMo ?_
      refine V.md (Md.sc hC) (Frm.tr hF (Frm.up (hC.kd_sc))) (fun M1 hC hF => ?_)
      obtain ⟨hMo, hw5, hw6, hw7, hw8, hw9, hw10, hw11, hw13, hw14, hw15, hw16, hw17, hw18, -⟩ := _root_.id hC
      refine v_aload_n dX12_degrees_33 rfl rfl ?_
      refine v_iconst (v := 3) dX12_degrees_34 (by decide) ?_
      refine k_X12_218 dX12_degrees_35 rfl (r_digits htr hC (f0 := 3) (by clear hC hF hMo; lia) (by clear hC hF hMo; first | lia | (exfalso; revert h21; decide)) e60 (Or.inl rfl) (by decide)) hMo (Nat.le_of_ble_eq_true rfl) (by omega) (by omega) (Nat.le_of_ble_eq_true rfl) (fun r35 M9 h9 => ?_) (fun _ _ h9 => h9.elim)
      obtain ⟨h9, hF9⟩ := h9
      have hF := Frm.tr hF hF9
      rcases h9 with ⟨hw2, -, -⟩ | ⟨-, rfl, hC⟩
      · exact absurd hw2 (by decide)
      · refine v_istore_2 dX12_degrees_38 ?_
        refine v_iload_n dX12_degrees_39 rfl rfl ?_
        refine v_if_eq (tgt := 48) dX12_degrees_40 (by decide) (fun h40 => ?_) (fun h40 => ?_)
        · refine v_iload_n dX12_degrees_48 rfl rfl ?_
          exact v_iret dX12_degrees_49 rfl (by first | (exfalso; revert h21; decide) | (exfalso; revert h40; decide) | exact ⟨rfl, hC, hF⟩ | exact (by simp only [Int32.add_zero] at hC ⊢; exact ⟨rfl, hC, hF⟩)) (by omega) (by omega)
        · refine v_iload_n dX12_degrees_43 rfl rfl ?_
          refine v_ineg dX12_degrees_44 ?_
          refine v_goto (tgt := 49) dX12_degrees_45 (by decide) ?_
          exact v_iret dX12_degrees_49 rfl (by first | (exfalso; revert h21; decide) | (exfalso; revert h40; decide) | exact ⟨rfl, hC, hF⟩ | exact (by simp only [Int32.add_zero] at hC ⊢; exact ⟨rfl, hC, hF⟩)) (by omega) (by omega)
    · refine v_iconst (v := 1) dX12_degrees_24 (by decide) ?_
      refine v_goto (tgt := 29) dX12_degrees_25 (by decide) ?_
      refine v_iadd dX12_degrees_29 ?_
      refine pf_X12_202 dX12_degrees_30 rfl hMo ?_
      refine V.md (Md.sc hC) (Frm.tr hF (Frm.up (hC.kd_sc))) (fun M1 hC hF => ?_)
      obtain ⟨hMo, hw5, hw6, hw7, hw8, hw9, hw10, hw11, hw13, hw14, hw15, hw16, hw17, hw18, -⟩ := _root_.id hC
      refine v_aload_n dX12_degrees_33 rfl rfl ?_
      refine v_iconst (v := 3) dX12_degrees_34 (by decide) ?_
      refine k_X12_218 dX12_degrees_35 rfl (r_digits htr hC (f0 := 3) (by clear hC hF hMo; lia) (by clear hC hF hMo; first | lia | (exfalso; revert h21; decide)) e60 (Or.inl rfl) (by decide)) hMo (Nat.le_of_ble_eq_true rfl) (by omega) (by omega) (Nat.le_of_ble_eq_true rfl) (fun r35 M9 h9 => ?_) (fun _ _ h9 => h9.elim)
      obtain ⟨h9, hF9⟩ := h9
      have hF := Frm.tr hF hF9
      rcases h9 with ⟨hw2, -, -⟩ | ⟨-, rfl, hC⟩
      · exact absurd hw2 (by decide)
      · refine v_istore_2 dX12_degrees_38 ?_
        refine v_iload_n dX12_degrees_39 rfl rfl ?_
        refine v_if_eq (tgt := 48) dX12_degrees_40 (by decide) (fun h40 => ?_) (fun h40 => ?_)
        · refine v_iload_n dX12_degrees_48 rfl rfl ?_
          exact v_iret dX12_degrees_49 rfl (by first | (exfalso; revert h21; decide) | (exfalso; revert h40; decide) | exact ⟨rfl, hC, hF⟩ | exact (by simp only [Int32.add_zero] at hC ⊢; exact ⟨rfl, hC, hF⟩)) (by omega) (by omega)
        · refine v_iload_n dX12_degrees_43 rfl rfl ?_
          refine v_ineg dX12_degrees_44 ?_
          refine v_goto (tgt := 49) dX12_degrees_45 (by decide) ?_
          exact v_iret dX12_degrees_49 rfl (by first | (exfalso; revert h21; decide) | (exfalso; revert h40; decide) | exact ⟨rfl, hC, hF⟩ | exact (by simp only [Int32.add_zero] at hC ⊢; exact ⟨rfl, hC, hF⟩)) (by omega) (by omega)
