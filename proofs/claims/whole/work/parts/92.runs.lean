/-! ===== the reference: a script is run ===== -/
theorem scG_61 {tx : Int32 → Int32} {en : Int32} {cs : List (Nat × List Int32)} (en0 : 0 ≤ en) (e60 : en ≤ 60) (h : scG tx en cs 0) : cs.length ≤ 61 ∧ cs.length = 1 + cPt tx en.toNatClampNeg := by
  have q := scG_cS en0 e60 cs 0 (Int32.le_refl _) (by decide) h
  have z : cPt tx (0 : Int32).toNatClampNeg = 0 := rfl
  rw [z] at q
  have q2 := cPt_le (tx := tx) en.toNatClampNeg
  have q3 : en.toNatClampNeg ≤ 60 := Nat.le_trans (tc_le e60) (Nat.le_of_ble_eq_true rfl)
  exact ⟨by omega, by omega⟩
theorem dX12_runScript_0 : decode cX12_runScript 0 = .ok (.aload_n 0, 1) := by decide +kernel
theorem dX12_runScript_1 : decode cX12_runScript 1 = .ok (.invokevirtual 78, 3) := by decide +kernel
theorem dX12_runScript_4 : decode cX12_runScript 4 = .ok (.aload_n 0, 1) := by decide +kernel
theorem dX12_runScript_5 : decode cX12_runScript 5 = .ok (.aload_n 0, 1) := by decide +kernel
theorem dX12_runScript_6 : decode cX12_runScript 6 = .ok (.getfield 199, 3) := by decide +kernel
theorem dX12_runScript_9 : decode cX12_runScript 9 = .ok (.putfield 205, 3) := by decide +kernel
theorem dX12_runScript_12 : decode cX12_runScript 12 = .ok (.aload_n 0, 1) := by decide +kernel
theorem dX12_runScript_13 : decode cX12_runScript 13 = .ok (.iconst 0, 1) := by decide +kernel
theorem dX12_runScript_14 : decode cX12_runScript 14 = .ok (.putfield 199, 3) := by decide +kernel
theorem dX12_runScript_17 : decode cX12_runScript 17 = .ok (.aload_n 0, 1) := by decide +kernel
theorem dX12_runScript_18 : decode cX12_runScript 18 = .ok (.iconst 0, 1) := by decide +kernel
theorem dX12_runScript_19 : decode cX12_runScript 19 = .ok (.putfield 230, 3) := by decide +kernel
theorem dX12_runScript_22 : decode cX12_runScript 22 = .ok (.aload_n 0, 1) := by decide +kernel
theorem dX12_runScript_23 : decode cX12_runScript 23 = .ok (.invokevirtual 239, 3) := by decide +kernel
theorem dX12_runScript_26 : decode cX12_runScript 26 = .ok (.istore_n 1, 1) := by decide +kernel
theorem dX12_runScript_27 : decode cX12_runScript 27 = .ok (.aload_n 0, 1) := by decide +kernel
theorem dX12_runScript_28 : decode cX12_runScript 28 = .ok (.getfield 208, 3) := by decide +kernel
theorem dX12_runScript_31 : decode cX12_runScript 31 = .ok (.ifCond .eq 17, 3) := by decide +kernel
theorem dX12_runScript_34 : decode cX12_runScript 34 = .ok (.aload_n 0, 1) := by decide +kernel
theorem dX12_runScript_35 : decode cX12_runScript 35 = .ok (.aload_n 0, 1) := by decide +kernel
theorem dX12_runScript_36 : decode cX12_runScript 36 = .ok (.getfield 202, 3) := by decide +kernel
theorem dX12_runScript_39 : decode cX12_runScript 39 = .ok (.putfield 7, 3) := by decide +kernel
theorem dX12_runScript_42 : decode cX12_runScript 42 = .ok (.aload_n 0, 1) := by decide +kernel
theorem dX12_runScript_43 : decode cX12_runScript 43 = .ok (.iconst 1, 1) := by decide +kernel
theorem dX12_runScript_44 : decode cX12_runScript 44 = .ok (.invokevirtual 74, 3) := by decide +kernel
theorem dX12_runScript_47 : decode cX12_runScript 47 = .ok (.ireturn, 1) := by decide +kernel
theorem dX12_runScript_48 : decode cX12_runScript 48 = .ok (.aload_n 0, 1) := by decide +kernel
theorem dX12_runScript_49 : decode cX12_runScript 49 = .ok (.iconst 1, 1) := by decide +kernel
theorem dX12_runScript_50 : decode cX12_runScript 50 = .ok (.putfield 230, 3) := by decide +kernel
theorem dX12_runScript_53 : decode cX12_runScript 53 = .ok (.aload_n 0, 1) := by decide +kernel
theorem dX12_runScript_54 : decode cX12_runScript 54 = .ok (.invokevirtual 239, 3) := by decide +kernel
theorem dX12_runScript_57 : decode cX12_runScript 57 = .ok (.istore_n 1, 1) := by decide +kernel
theorem dX12_runScript_58 : decode cX12_runScript 58 = .ok (.aload_n 0, 1) := by decide +kernel
theorem dX12_runScript_59 : decode cX12_runScript 59 = .ok (.getfield 56, 3) := by decide +kernel
theorem dX12_runScript_62 : decode cX12_runScript 62 = .ok (.ifCond .eq 15, 3) := by decide +kernel
theorem dX12_runScript_65 : decode cX12_runScript 65 = .ok (.aload_n 0, 1) := by decide +kernel
theorem dX12_runScript_66 : decode cX12_runScript 66 = .ok (.iload_n 1, 1) := by decide +kernel
theorem dX12_runScript_67 : decode cX12_runScript 67 = .ok (.iconst 1, 1) := by decide +kernel
theorem dX12_runScript_68 : decode cX12_runScript 68 = .ok (.isub, 1) := by decide +kernel
theorem dX12_runScript_69 : decode cX12_runScript 69 = .ok (.putfield 13, 3) := by decide +kernel
theorem dX12_runScript_72 : decode cX12_runScript 72 = .ok (.aload_n 0, 1) := by decide +kernel
theorem dX12_runScript_73 : decode cX12_runScript 73 = .ok (.iconst 2, 1) := by decide +kernel
theorem dX12_runScript_74 : decode cX12_runScript 74 = .ok (.putfield 56, 3) := by decide +kernel
theorem dX12_runScript_77 : decode cX12_runScript 77 = .ok (.aload_n 0, 1) := by decide +kernel
theorem dX12_runScript_78 : decode cX12_runScript 78 = .ok (.iload_n 1, 1) := by decide +kernel
theorem dX12_runScript_79 : decode cX12_runScript 79 = .ok (.invokevirtual 85, 3) := by decide +kernel
theorem dX12_runScript_82 : decode cX12_runScript 82 = .ok (.ireturn, 1) := by decide +kernel
set_option maxRecDepth 100000 in
set_option maxHeartbeats 4000000 in
theorem r_runScript {l : Launch} {g : Nat → Nat} {M : LH} (htr : l.stackTraces = false) {kd : Nat → Nat} {r m : Nat} {w : Nat → Nat} {t ch ea fl sv bf tn he en ln wr dg : Int32} {v b4 sa pa fr th bs tx li lf to : Int32 → Int32} (hC : Md kd r M m w t ch ea fl sv bf tn he en ln wr dg v b4 sa pa fr th bs tx li lf to) (hG : Good v) (c0 : 0 ≤ ch) (c8 : ch ≤ 8) (tn0 : 0 ≤ tn) (tn60 : tn ≤ 60) (h4 : (v 4).toInt + 61 < 1000000) : K_X12_runScript l g 7 0 0 [.ref m] M (RI (fun x M9 => ∃ (lf9 to9 f9 h9 b5 pa9 v9 : Int32 → Int32) (e9 w9 d9 b9 : Int32), ((∃ fu e, scE tx tn fu 0 e ∧ x = 0 ∧ v9 = v ∧ pa9 = pa ∧ Md kd r M9 m w 1 ch e fl sv b9 0 e9 tn ln w9 d9 v9 b5 sa pa9 f9 h9 bs tx li lf9 to9) ∨ (∃ cs k, scG tx tn cs 0 ∧ rnB cs v k ∧ x = 0 ∧ Ag v9 v ∧ pa9 = pa ∧ Md kd r M9 m w 2 ch ea (nI k) sv b9 0 e9 tn ln w9 d9 v9 b5 sa pa9 f9 h9 bs tx li lf9 to9) ∨ (∃ cs, scG tx tn cs 0 ∧ rnG cs v v9 ∧ x = nI cs.length ∧ PaS ch pa v pa9 ∧ Md kd r M9 m w 0 ((if ch = 8 then 7 else ch) + 1) ea fl sv b9 0 e9 tn ln w9 d9 v9 b5 sa pa9 f9 h9 bs tx li lf9 to9)) ∧ Frm kd r M M9) nX) := by
  refine Ko_X12_runScript htr (fun X => ?_)
  obtain ⟨hMo, hw5, hw6, hw7, hw8, hw9, hw10, hw11, hw13, hw14, hw15, hw16, hw17, hw18, -⟩ := _root_.id hC
  have hF : Frm kd r M M := Frm.rf
  refine v_aload_n dX12_runScript_0 rfl rfl ?_
  refine k_X12_78 dX12_runScript_1 rfl (r_begins htr hC) hMo (Nat.le_of_ble_eq_true rfl) (by omega) (by omega) (Nat.le_of_ble_eq_true rfl) (fun M9 h9 => ?_) (fun _ _ h9 => h9.elim)
  obtain ⟨hC, hF9⟩ := h9
  have hF := Frm.tr hF hF9
  obtain ⟨hMo, hw5, hw6, hw7, hw8, hw9, hw10, hw11, hw13, hw14, hw15, hw16, hw17, hw18, -⟩ := _root_.id hC
  refine v_aload_n dX12_runScript_4 rfl rfl ?_
  refine v_aload_n dX12_runScript_5 rfl rfl ?_
  refine gf_X12_199 dX12_runScript_6 rfl hMo ?_
  refine pf_X12_205 dX12_runScript_9 rfl hMo ?_
  refine V.md (Md.sc hC) (Frm.tr hF (Frm.up (hC.kd_sc))) (fun M1 hC hF => ?_)
  obtain ⟨hMo, hw5, hw6, hw7, hw8, hw9, hw10, hw11, hw13, hw14, hw15, hw16, hw17, hw18, -⟩ := _root_.id hC
  refine v_aload_n dX12_runScript_12 rfl rfl ?_
  refine v_iconst (v := 0) dX12_runScript_13 (by decide) ?_
  refine pf_X12_199 dX12_runScript_14 rfl hMo ?_
  refine V.md (Md.sc hC) (Frm.tr hF (Frm.up (hC.kd_sc))) (fun M1 hC hF => ?_)
  obtain ⟨hMo, hw5, hw6, hw7, hw8, hw9, hw10, hw11, hw13, hw14, hw15, hw16, hw17, hw18, -⟩ := _root_.id hC
  refine v_aload_n dX12_runScript_17 rfl rfl ?_
  refine v_iconst (v := 0) dX12_runScript_18 (by decide) ?_
  refine pf_X12_230 dX12_runScript_19 rfl (by first | rfl | assumption) (by first | rfl | assumption) hMo ?_
  refine V.md (Md.sc hC) (Frm.tr hF (Frm.up (hC.kd_sc))) (fun M1 hC hF => ?_)
  obtain ⟨hMo, hw5, hw6, hw7, hw8, hw9, hw10, hw11, hw13, hw14, hw15, hw16, hw17, hw18, -⟩ := _root_.id hC
  refine v_aload_n dX12_runScript_22 rfl rfl ?_
  refine k_X12_239 dX12_runScript_23 rfl (r_commandsF htr hC hG rfl tn60) hMo (Nat.le_of_ble_eq_true rfl) (by omega) (by omega) (Nat.le_of_ble_eq_true rfl) (fun r23 M9 h9 => ?_) (fun _ _ h9 => h9.elim)
  obtain ⟨lf1, to1, e1, h9, hF9⟩ := h9
  have hF := Frm.tr hF hF9
  rcases h9 with ⟨fu, hE, hC⟩ | ⟨cs, hS, -, hC⟩
  · obtain ⟨hMo, hw5, hw6, hw7, hw8, hw9, hw10, hw11, hw13, hw14, hw15, hw16, hw17, hw18, -⟩ := _root_.id hC
    refine v_istore_1 dX12_runScript_26 ?_
    refine v_aload_n dX12_runScript_27 rfl rfl ?_
    refine gf_X12_208 dX12_runScript_28 rfl hMo ?_
    refine v_if_eq (tgt := 48) dX12_runScript_31 (by decide) (fun h31 => ?_) (fun h31 => ?_)
    · exact absurd h31 (by decide)
    · refine v_aload_n dX12_runScript_34 rfl rfl ?_
      refine v_aload_n dX12_runScript_35 rfl rfl ?_
      refine gf_X12_202 dX12_runScript_36 rfl hMo ?_
      refine pf_X12_7 dX12_runScript_39 rfl hMo ?_
      refine V.md (Md.sc hC) (Frm.tr hF (Frm.up (hC.kd_sc))) (fun M1 hC hF => ?_)
      obtain ⟨hMo, hw5, hw6, hw7, hw8, hw9, hw10, hw11, hw13, hw14, hw15, hw16, hw17, hw18, -⟩ := _root_.id hC
      refine v_aload_n dX12_runScript_42 rfl rfl ?_
      refine v_iconst (v := 1) dX12_runScript_43 (by decide) ?_
      refine k_X12_74 dX12_runScript_44 rfl (r_fail htr hC 1) hMo (Nat.le_of_ble_eq_true rfl) (by omega) (by omega) (Nat.le_of_ble_eq_true rfl) (fun r44 M9 h9 => ?_) (fun _ _ h9 => h9.elim)
      obtain ⟨rfl, hC, hF9⟩ := h9
      have hF := Frm.tr hF hF9
      exact v_iret dX12_runScript_47 rfl ⟨_, _, _, _, _, pa, v, _, _, _, _, Or.inl ⟨fu, _, hE, rfl, rfl, rfl, hC⟩, hF⟩ (by omega) (by omega)
  · obtain ⟨hMo, hw5, hw6, hw7, hw8, hw9, hw10, hw11, hw13, hw14, hw15, hw16, hw17, hw18, -⟩ := _root_.id hC
    refine v_istore_1 dX12_runScript_26 ?_
    refine v_aload_n dX12_runScript_27 rfl rfl ?_
    refine gf_X12_208 dX12_runScript_28 rfl hMo ?_
    refine v_if_eq (tgt := 48) dX12_runScript_31 (by decide) (fun h31 => ?_) (fun h31 => ?_)
    · refine v_aload_n dX12_runScript_48 rfl rfl ?_
      refine v_iconst (v := 1) dX12_runScript_49 (by decide) ?_
      refine pf_X12_230 dX12_runScript_50 rfl (by first | rfl | assumption) (by first | rfl | assumption) hMo ?_
      refine V.md (Md.sc hC) (Frm.tr hF (Frm.up (hC.kd_sc))) (fun M1 hC hF => ?_)
      obtain ⟨hMo, hw5, hw6, hw7, hw8, hw9, hw10, hw11, hw13, hw14, hw15, hw16, hw17, hw18, -⟩ := _root_.id hC
      refine v_aload_n dX12_runScript_53 rfl rfl ?_
      refine k_X12_239 dX12_runScript_54 rfl (r_commandsD htr hC hG (by decide) tn60 hS (by have := (scG_61 tn0 tn60 hS).1; omega)) hMo (Nat.le_of_ble_eq_true rfl) (by omega) (by omega) (Nat.le_of_ble_eq_true rfl) (fun r54 M9 h9 => ?_) (fun _ _ h9 => h9.elim)
      obtain ⟨lf2, to2, e2, t2, b2, v2, f2, h2, h9, hC, hF9⟩ := h9
      have hF := Frm.tr hF hF9
      rcases h9 with ⟨hr, rfl, rfl⟩ | ⟨k, hr, rfl, ht⟩
      · obtain ⟨hMo, hw5, hw6, hw7, hw8, hw9, hw10, hw11, hw13, hw14, hw15, hw16, hw17, hw18, -⟩ := _root_.id hC
        refine v_istore_1 dX12_runScript_57 ?_
        refine v_aload_n dX12_runScript_58 rfl rfl ?_
        refine gf_X12_56 dX12_runScript_59 rfl hMo ?_
        refine v_if_eq (tgt := 77) dX12_runScript_62 (by decide) (fun h62 => ?_) (fun h62 => ?_)
        · refine v_aload_n dX12_runScript_77 rfl rfl ?_
          refine v_iload_n dX12_runScript_78 rfl rfl ?_
          refine k_X12_85 dX12_runScript_79 rfl (r_ends htr hC _ c0 c8) hMo (Nat.le_of_ble_eq_true rfl) (by omega) (by omega) (Nat.le_of_ble_eq_true rfl) (fun r79 M9 h9 => ?_) (fun _ _ h9 => h9.elim)
          obtain ⟨h9, hF9⟩ := h9
          have hF := Frm.tr hF hF9
          rcases h9 with ⟨ht9, rfl, hC⟩ | ⟨ht9, rfl, pa1, hP, hC⟩
          · exact absurd rfl ht9
          · exact v_iret dX12_runScript_82 rfl ⟨_, _, _, _, _, pa1, v2, _, _, _, _, Or.inr (Or.inr ⟨cs, hS, hr, rfl, hP.v, hC⟩), hF⟩ (by omega) (by omega)
        · exact absurd rfl h62
      · obtain ⟨hMo, hw5, hw6, hw7, hw8, hw9, hw10, hw11, hw13, hw14, hw15, hw16, hw17, hw18, -⟩ := _root_.id hC
        refine v_istore_1 dX12_runScript_57 ?_
        refine v_aload_n dX12_runScript_58 rfl rfl ?_
        refine gf_X12_56 dX12_runScript_59 rfl hMo ?_
        refine v_if_eq (tgt := 77) dX12_runScript_62 (by decide) (fun h62 => ?_) (fun h62 => ?_)
        · exact absurd h62 ht
        · refine v_aload_n dX12_runScript_65 rfl rfl ?_
          refine v_iload_n dX12_runScript_66 rfl rfl ?_
          refine v_iconst (v := 1) dX12_runScript_67 (by decide) ?_
          refine v_isub dX12_runScript_68 ?_
          rw [show nI (k + 1) - 1 = nI k by rw [← nI_1 k, Int32.add_sub_cancel]]
          refine pf_X12_13 dX12_runScript_69 rfl hMo ?_
          refine V.md (Md.sc hC) (Frm.tr hF (Frm.up (hC.kd_sc))) (fun M1 hC hF => ?_)
          obtain ⟨hMo, hw5, hw6, hw7, hw8, hw9, hw10, hw11, hw13, hw14, hw15, hw16, hw17, hw18, -⟩ := _root_.id hC
          refine v_aload_n dX12_runScript_72 rfl rfl ?_
          refine v_iconst (v := 2) dX12_runScript_73 (by decide) ?_
          refine pf_X12_56 dX12_runScript_74 rfl hMo ?_
          refine V.md (Md.sc hC) (Frm.tr hF (Frm.up (hC.kd_sc))) (fun M1 hC hF => ?_)
          obtain ⟨hMo, hw5, hw6, hw7, hw8, hw9, hw10, hw11, hw13, hw14, hw15, hw16, hw17, hw18, -⟩ := _root_.id hC
          refine v_aload_n dX12_runScript_77 rfl rfl ?_
          refine v_iload_n dX12_runScript_78 rfl rfl ?_
          refine k_X12_85 dX12_runScript_79 rfl (r_ends htr hC _ c0 c8) hMo (Nat.le_of_ble_eq_true rfl) (by omega) (by omega) (Nat.le_of_ble_eq_true rfl) (fun r79 M9 h9 => ?_) (fun _ _ h9 => h9.elim)
          obtain ⟨h9, hF9⟩ := h9
          have hF := Frm.tr hF hF9
          rcases h9 with ⟨ht9, rfl, hC⟩ | ⟨ht9, rfl, pa1, hP, hC⟩
          · exact v_iret dX12_runScript_82 rfl ⟨_, _, _, _, _, pa, _, _, _, _, _, Or.inr (Or.inl ⟨cs, k, hS, hr, rfl, fun j j0 j1 => (cpF_in j0 j1).trans (cpF_in j0 j1), rfl, hC⟩), hF⟩ (by omega) (by omega)
          · exact absurd ht9 (by decide)
    · exact absurd rfl h31
