/-! ===== the reference: the line, read ===== -/
theorem pos_at {j : Int32} {x : Nat} (hx : x ≤ 120) : (0 ≤ j ∧ j ≤ nI x - 1) ↔ (0 ≤ j ∧ j.toNatClampNeg < x) := by
  have e : (nI x - 1).toInt = (x : Int) - 1 := by
    rw [i_sub] <;> rw [nI_toInt (by omega), i_1] <;> omega
  constructor
  · rintro ⟨a, b⟩
    have c := tc_Int a
    rw [i_le, e] at b
    exact ⟨a, by omega⟩
  · rintro ⟨a, b⟩
    have c := tc_Int a
    exact ⟨a, by rw [i_le, e]; omega⟩
theorem i2c_n : ∀ n, n < 128 → ((nI n).toUInt32 % 65536).toInt32 = nI n := by decide +kernel
theorem i2c_s {x : Int32} (h0 : 0 ≤ x) (h1 : x < 128) : (x.toUInt32 % 65536).toInt32 = x := by
  have q := i2c_n x.toNatClampNeg (Nat.lt_of_lt_of_eq (tc_lt h0 h1) rfl)
  rwa [tc_nI h0] at q
theorem dX12_outputAt_0 : decode cX12_outputAt 0 = .ok (.aload_n 0, 1) := by decide +kernel
theorem dX12_outputAt_1 : decode cX12_outputAt 1 = .ok (.iload_n 1, 1) := by decide +kernel
theorem dX12_outputAt_2 : decode cX12_outputAt 2 = .ok (.iconst 0, 1) := by decide +kernel
theorem dX12_outputAt_3 : decode cX12_outputAt 3 = .ok (.aload_n 0, 1) := by decide +kernel
theorem dX12_outputAt_4 : decode cX12_outputAt 4 = .ok (.getfield 186, 3) := by decide +kernel
theorem dX12_outputAt_7 : decode cX12_outputAt 7 = .ok (.iconst 1, 1) := by decide +kernel
theorem dX12_outputAt_8 : decode cX12_outputAt 8 = .ok (.isub, 1) := by decide +kernel
theorem dX12_outputAt_9 : decode cX12_outputAt 9 = .ok (.invokestatic 66, 3) := by decide +kernel
theorem dX12_outputAt_12 : decode cX12_outputAt 12 = .ok (.ifCond .eq 7, 3) := by decide +kernel
theorem dX12_outputAt_15 : decode cX12_outputAt 15 = .ok (.iconst 0, 1) := by decide +kernel
theorem dX12_outputAt_16 : decode cX12_outputAt 16 = .ok (.goto 4, 3) := by decide +kernel
theorem dX12_outputAt_19 : decode cX12_outputAt 19 = .ok (.iconst 1, 1) := by decide +kernel
theorem dX12_outputAt_20 : decode cX12_outputAt 20 = .ok (.putfield 56, 3) := by decide +kernel
theorem dX12_outputAt_23 : decode cX12_outputAt 23 = .ok (.aload_n 0, 1) := by decide +kernel
theorem dX12_outputAt_24 : decode cX12_outputAt 24 = .ok (.getfield 56, 3) := by decide +kernel
theorem dX12_outputAt_27 : decode cX12_outputAt 27 = .ok (.ifCond .ne 13, 3) := by decide +kernel
theorem dX12_outputAt_30 : decode cX12_outputAt 30 = .ok (.aload_n 0, 1) := by decide +kernel
theorem dX12_outputAt_31 : decode cX12_outputAt 31 = .ok (.getfield 41, 3) := by decide +kernel
theorem dX12_outputAt_34 : decode cX12_outputAt 34 = .ok (.iload_n 1, 1) := by decide +kernel
theorem dX12_outputAt_35 : decode cX12_outputAt 35 = .ok (.iaload, 1) := by decide +kernel
theorem dX12_outputAt_36 : decode cX12_outputAt 36 = .ok (.i2c, 1) := by decide +kernel
theorem dX12_outputAt_37 : decode cX12_outputAt 37 = .ok (.goto 5, 3) := by decide +kernel
theorem dX12_outputAt_40 : decode cX12_outputAt 40 = .ok (.bipush 97, 2) := by decide +kernel
theorem dX12_outputAt_42 : decode cX12_outputAt 42 = .ok (.ireturn, 1) := by decide +kernel
set_option maxRecDepth 100000 in
set_option maxHeartbeats 4000000 in
theorem r_outputAt {l : Launch} {g : Nat → Nat} {M : LH} (htr : l.stackTraces = false) {kd : Nat → Nat} {r m : Nat} {w : Nat → Nat} {t ch ea fl sv bf tn he en ln wr dg : Int32} {v b4 sa pa fr th bs tx li lf to : Int32 → Int32} (hC : Md kd r M m w t ch ea fl sv bf tn he en ln wr dg v b4 sa pa fr th bs tx li lf to) {Ls : List Int32} (hT : Tl li Ls) (hln : ln = nI Ls.length) (hL : Ls.length ≤ 120) (hs : ∀ j, j < Ls.length → 0 ≤ Ls.getD j 0 ∧ Ls.getD j 0 < 128) (j : Int32) : K_X12_outputAt l g 1 0 0 [.ref m, .int j] M (RI (fun x M9 => (((0 ≤ j ∧ j.toNatClampNeg < Ls.length) ∧ x = Ls.getD j.toNatClampNeg 0 ∧ Md kd r M9 m w 0 ch ea fl sv bf tn he en ln wr dg v b4 sa pa fr th bs tx li lf to) ∨ (¬ (0 ≤ j ∧ j.toNatClampNeg < Ls.length) ∧ x = 97 ∧ Md kd r M9 m w 1 ch ea fl sv bf tn he en ln wr dg v b4 sa pa fr th bs tx li lf to)) ∧ Frm kd r M M9) nX) := by
  refine Ko_X12_outputAt htr (fun X => ?_)
  subst hln
  obtain ⟨hMo, hw5, hw6, hw7, hw8, hw9, hw10, hw11, hw13, hw14, hw15, hw16, hw17, hw18, -⟩ := _root_.id hC
  have hF : Frm kd r M M := Frm.rf
  refine v_aload_n dX12_outputAt_0 rfl rfl ?_
  refine v_iload_n dX12_outputAt_1 rfl rfl ?_
  refine v_iconst (v := 0) dX12_outputAt_2 (by decide) ?_
  refine v_aload_n dX12_outputAt_3 rfl rfl ?_
  refine gf_X12_186 dX12_outputAt_4 rfl hMo ?_
  refine v_iconst (v := 1) dX12_outputAt_7 (by decide) ?_
  refine v_isub dX12_outputAt_8 ?_
  refine k_X12_66 dX12_outputAt_9 rfl (r_isIn htr j 0 (nI Ls.length - 1)) (Nat.le_of_ble_eq_true rfl) (by omega) (by omega) (Nat.le_of_ble_eq_true rfl) (fun r9 M9 h9 => ?_) (fun _ _ h9 => h9.elim)
  obtain ⟨rfl, e9⟩ := h9
  subst M9
  refine v_if_eq (tgt := 19) dX12_outputAt_12 (by decide) (fun h12 => ?_) (fun h12 => ?_)
  · refine v_iconst (v := 1) dX12_outputAt_19 (by decide) ?_
    refine pf_X12_56 dX12_outputAt_20 rfl hMo ?_
    refine V.md (Md.sc hC) (Frm.tr hF (Frm.up (hC.kd_sc))) (fun M1 hC hF => ?_)
    obtain ⟨hMo, hw5, hw6, hw7, hw8, hw9, hw10, hw11, hw13, hw14, hw15, hw16, hw17, hw18, -⟩ := _root_.id hC
    refine v_aload_n dX12_outputAt_23 rfl rfl ?_
    refine gf_X12_56 dX12_outputAt_24 rfl hMo ?_
    refine v_if_ne (tgt := 40) dX12_outputAt_27 (by decide) (fun h27 => ?_) (fun h27 => ?_)
    · refine v_bipush (v := (97)) dX12_outputAt_40 (by decide) ?_
      exact v_zret dX12_outputAt_42 rfl (narC (x := 97) (by decide) (by decide))  (by first | (exfalso; revert h27; decide) | exact ⟨Or.inr ⟨(fun z => b_f h12 ((pos_at hL).mpr z)), rfl, hC⟩, hF⟩) (by omega) (by omega)
    · first | (exfalso; revert h27; decide) | skip
      all_goals
        obtain ⟨j0, j1⟩ := (pos_at hL).mp (b_t h12)
        have hv := hT _ j1
        rw [tc_nI j0] at hv
        obtain ⟨s0, s1⟩ := hs _ j1
        have jb : j < 120 := by
          have := tc_Int j0
          rw [i_lt, show ((120 : Int32).toInt) = 120 from rfl]
          omega
        refine v_aload_n dX12_outputAt_30 rfl rfl ?_
        refine gf_X12_41 dX12_outputAt_31 rfl hMo ?_
        refine v_iload_n dX12_outputAt_34 rfl rfl ?_
        refine v_iald dX12_outputAt_35 hw14 j0 jb ?_
        rw [hv]
        refine v_i2c dX12_outputAt_36 ?_
        rw [i2c_s s0 s1]
        refine v_goto (tgt := 42) dX12_outputAt_37 (by decide) ?_
        exact v_zret dX12_outputAt_42 rfl (narC s0 s1)  ⟨Or.inl ⟨⟨j0, j1⟩, rfl, hC⟩, hF⟩ (by omega) (by omega)
  · refine v_iconst (v := 0) dX12_outputAt_15 (by decide) ?_
    refine v_goto (tgt := 20) dX12_outputAt_16 (by decide) ?_
    refine pf_X12_56 dX12_outputAt_20 rfl hMo ?_
    refine V.md (Md.sc hC) (Frm.tr hF (Frm.up (hC.kd_sc))) (fun M1 hC hF => ?_)
    obtain ⟨hMo, hw5, hw6, hw7, hw8, hw9, hw10, hw11, hw13, hw14, hw15, hw16, hw17, hw18, -⟩ := _root_.id hC
    refine v_aload_n dX12_outputAt_23 rfl rfl ?_
    refine gf_X12_56 dX12_outputAt_24 rfl hMo ?_
    refine v_if_ne (tgt := 40) dX12_outputAt_27 (by decide) (fun h27 => ?_) (fun h27 => ?_)
    · refine v_bipush (v := (97)) dX12_outputAt_40 (by decide) ?_
      exact v_zret dX12_outputAt_42 rfl (narC (x := 97) (by decide) (by decide))  (by first | (exfalso; revert h27; decide) | exact ⟨Or.inr ⟨(fun z => b_f h12 ((pos_at hL).mpr z)), rfl, hC⟩, hF⟩) (by omega) (by omega)
    · first | (exfalso; revert h27; decide) | skip
      all_goals
        obtain ⟨j0, j1⟩ := (pos_at hL).mp (b_t h12)
        have hv := hT _ j1
        rw [tc_nI j0] at hv
        obtain ⟨s0, s1⟩ := hs _ j1
        have jb : j < 120 := by
          have := tc_Int j0
          rw [i_lt, show ((120 : Int32).toInt) = 120 from rfl]
          omega
        refine v_aload_n dX12_outputAt_30 rfl rfl ?_
        refine gf_X12_41 dX12_outputAt_31 rfl hMo ?_
        refine v_iload_n dX12_outputAt_34 rfl rfl ?_
        refine v_iald dX12_outputAt_35 hw14 j0 jb ?_
        rw [hv]
        refine v_i2c dX12_outputAt_36 ?_
        rw [i2c_s s0 s1]
        refine v_goto (tgt := 42) dX12_outputAt_37 (by decide) ?_
        exact v_zret dX12_outputAt_42 rfl (narC s0 s1)  ⟨Or.inl ⟨⟨j0, j1⟩, rfl, hC⟩, hF⟩ (by omega) (by omega)
