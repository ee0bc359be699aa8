/-! ===== the reference: the mean ice, the open share ===== -/
theorem dX12_meanIce_0 : decode cX12_meanIce 0 = .ok (.aload_n 0, 1) := by decide +kernel
theorem dX12_meanIce_1 : decode cX12_meanIce 1 = .ok (.aload_n 0, 1) := by decide +kernel
theorem dX12_meanIce_2 : decode cX12_meanIce 2 = .ok (.getfield 16, 3) := by decide +kernel
theorem dX12_meanIce_5 : decode cX12_meanIce 5 = .ok (.bipush 7, 2) := by decide +kernel
theorem dX12_meanIce_7 : decode cX12_meanIce 7 = .ok (.iaload, 1) := by decide +kernel
theorem dX12_meanIce_8 : decode cX12_meanIce 8 = .ok (.ifCond .ne 7, 3) := by decide +kernel
theorem dX12_meanIce_11 : decode cX12_meanIce 11 = .ok (.iconst 1, 1) := by decide +kernel
theorem dX12_meanIce_12 : decode cX12_meanIce 12 = .ok (.goto 4, 3) := by decide +kernel
theorem dX12_meanIce_15 : decode cX12_meanIce 15 = .ok (.iconst 0, 1) := by decide +kernel
theorem dX12_meanIce_16 : decode cX12_meanIce 16 = .ok (.putfield 56, 3) := by decide +kernel
theorem dX12_meanIce_19 : decode cX12_meanIce 19 = .ok (.iconst 0, 1) := by decide +kernel
theorem dX12_meanIce_20 : decode cX12_meanIce 20 = .ok (.istore_n 1, 1) := by decide +kernel
theorem dX12_meanIce_21 : decode cX12_meanIce 21 = .ok (.iconst 0, 1) := by decide +kernel
theorem dX12_meanIce_22 : decode cX12_meanIce 22 = .ok (.istore_n 2, 1) := by decide +kernel
theorem dX12_meanIce_23 : decode cX12_meanIce 23 = .ok (.iload_n 2, 1) := by decide +kernel
theorem dX12_meanIce_24 : decode cX12_meanIce 24 = .ok (.aload_n 0, 1) := by decide +kernel
theorem dX12_meanIce_25 : decode cX12_meanIce 25 = .ok (.getfield 16, 3) := by decide +kernel
theorem dX12_meanIce_28 : decode cX12_meanIce 28 = .ok (.bipush 7, 2) := by decide +kernel
theorem dX12_meanIce_30 : decode cX12_meanIce 30 = .ok (.iaload, 1) := by decide +kernel
theorem dX12_meanIce_31 : decode cX12_meanIce 31 = .ok (.if_icmp .ge 22, 3) := by decide +kernel
theorem dX12_meanIce_34 : decode cX12_meanIce 34 = .ok (.iload_n 1, 1) := by decide +kernel
theorem dX12_meanIce_35 : decode cX12_meanIce 35 = .ok (.aload_n 0, 1) := by decide +kernel
theorem dX12_meanIce_36 : decode cX12_meanIce 36 = .ok (.getfield 16, 3) := by decide +kernel
theorem dX12_meanIce_39 : decode cX12_meanIce 39 = .ok (.iload_n 2, 1) := by decide +kernel
theorem dX12_meanIce_40 : decode cX12_meanIce 40 = .ok (.iconst 5, 1) := by decide +kernel
theorem dX12_meanIce_41 : decode cX12_meanIce 41 = .ok (.invokestatic 70, 3) := by decide +kernel
theorem dX12_meanIce_44 : decode cX12_meanIce 44 = .ok (.iaload, 1) := by decide +kernel
theorem dX12_meanIce_45 : decode cX12_meanIce 45 = .ok (.iadd, 1) := by decide +kernel
theorem dX12_meanIce_46 : decode cX12_meanIce 46 = .ok (.istore_n 1, 1) := by decide +kernel
theorem dX12_meanIce_47 : decode cX12_meanIce 47 = .ok (.iinc 2 1, 3) := by decide +kernel
theorem dX12_meanIce_50 : decode cX12_meanIce 50 = .ok (.goto (-27), 3) := by decide +kernel
theorem dX12_meanIce_53 : decode cX12_meanIce 53 = .ok (.aload_n 0, 1) := by decide +kernel
theorem dX12_meanIce_54 : decode cX12_meanIce 54 = .ok (.getfield 56, 3) := by decide +kernel
theorem dX12_meanIce_57 : decode cX12_meanIce 57 = .ok (.ifCond .ne 17, 3) := by decide +kernel
theorem dX12_meanIce_60 : decode cX12_meanIce 60 = .ok (.iload_n 1, 1) := by decide +kernel
theorem dX12_meanIce_61 : decode cX12_meanIce 61 = .ok (.i2d, 1) := by decide +kernel
theorem dX12_meanIce_62 : decode cX12_meanIce 62 = .ok (.aload_n 0, 1) := by decide +kernel
theorem dX12_meanIce_63 : decode cX12_meanIce 63 = .ok (.getfield 16, 3) := by decide +kernel
theorem dX12_meanIce_66 : decode cX12_meanIce 66 = .ok (.bipush 7, 2) := by decide +kernel
theorem dX12_meanIce_68 : decode cX12_meanIce 68 = .ok (.iaload, 1) := by decide +kernel
theorem dX12_meanIce_69 : decode cX12_meanIce 69 = .ok (.i2d, 1) := by decide +kernel
theorem dX12_meanIce_70 : decode cX12_meanIce 70 = .ok (.ddiv, 1) := by decide +kernel
theorem dX12_meanIce_71 : decode cX12_meanIce 71 = .ok (.goto 4, 3) := by decide +kernel
theorem dX12_meanIce_74 : decode cX12_meanIce 74 = .ok (.dconst 0, 1) := by decide +kernel
theorem dX12_meanIce_75 : decode cX12_meanIce 75 = .ok (.dreturn, 1) := by decide +kernel
set_option maxRecDepth 100000 in
set_option maxHeartbeats 4000000 in
theorem r_meanIce {l : Launch} {g : Nat → Nat} {M : LH} (htr : l.stackTraces = false) {kd : Nat → Nat} {r m : Nat} {w : Nat → Nat} {t ch ea fl sv bf tn he en ln wr dg : Int32} {v b4 sa pa fr th bs tx li lf to : Int32 → Int32} (hC : Md kd r M m w t ch ea fl sv bf tn he en ln wr dg v b4 sa pa fr th bs tx li lf to) (hG : Good v) (hnan : ¬ v 7 = 0 → vf_n64 (FP.ddiv (FP.i2d (iceN v)) (FP.i2d (v 7)))) : K_X12_meanIce l g 1 0 0 [.ref m] M (RD (fun x M9 => ((¬ v 7 = 0 ∧ x = FP.ddiv (FP.i2d (iceN v)) (FP.i2d (v 7)) ∧ Md kd r M9 m w 0 ch ea fl sv bf tn he en ln wr dg v b4 sa pa fr th bs tx li lf to) ∨ (v 7 = 0 ∧ x = FP.dconst0 ∧ Md kd r M9 m w 1 ch ea fl sv bf tn he en ln wr dg v b4 sa pa fr th bs tx li lf to)) ∧ Frm kd r M M9) nX) := by
  refine Ko_X12_meanIce htr (fun X => ?_)
  obtain ⟨hMo, hw5, hw6, hw7, hw8, hw9, hw10, hw11, hw13, hw14, hw15, hw16, hw17, hw18, -⟩ := _root_.id hC
  have hF : Frm kd r M M := Frm.rf
  obtain ⟨hg1, hg2, hg3, hg4, hg5, hg6, hg7, hg8, hgL, hgS, -⟩ := _root_.id hG
  clear hgS hgL
  have key : ∀ tt, ((¬ v 7 = 0 ∧ tt = 0) ∨ (v 7 = 0 ∧ tt = 1)) → ∀ i, 0 ≤ i → i ≤ v 7 → ∀ (s : Int32) (M1 : LH), Md kd r M1 m w tt ch ea fl sv bf tn he en ln wr dg v b4 sa pa fr th bs tx li lf to → Frm kd r M M1 → s = sumU (fun i => lt v i 5) i → V l g yX12_meanIce cX12_meanIce ((some .double)) [] 1 0 0 (RD (fun x M9 => ((¬ v 7 = 0 ∧ x = FP.ddiv (FP.i2d (iceN v)) (FP.i2d (v 7)) ∧ Md kd r M9 m w 0 ch ea fl sv bf tn he en ln wr dg v b4 sa pa fr th bs tx li lf to) ∨ (v 7 = 0 ∧ x = FP.dconst0 ∧ Md kd r M9 m w 1 ch ea fl sv bf tn he en ln wr dg v b4 sa pa fr th bs tx li lf to)) ∧ Frm kd r M M9) nX) X M1 0 0 23 [some (.ref m), some (.int s), some (.int i)] [] := by
    clear hC hMo hw5 hw6 hw7 hw8 hw9 hw10 hw11 hw13 hw14 hw15 hw16 hw17 hw18 hF
    intro tt htt
    refine up_ind _ (fun i h0 h1 ih s M1 hC hF hs => ?_)
    obtain ⟨hMo, hw5, hw6, hw7, hw8, hw9, hw10, hw11, hw13, hw14, hw15, hw16, hw17, hw18, -⟩ := _root_.id hC
    refine v_iload_n dX12_meanIce_23 rfl rfl ?_
    refine v_aload_n dX12_meanIce_24 rfl rfl ?_
    refine gf_X12_16 dX12_meanIce_25 rfl hMo ?_
    refine v_bipush (v := (7)) dX12_meanIce_28 (by decide) ?_
    refine v_iald dX12_meanIce_30 hw5 (by lia) (by lia) ?_
    refine v_icmp_ge (tgt := 53) dX12_meanIce_31 (by decide) (fun h31 => ?_) (fun h31 => ?_)
    · have hi : i = v 7 := by clear ih hs htt hnan hC hF hMo hw5 hw6 hw7 hw8 hw9 hw10 hw11 hw13 hw14 hw15 hw16 hw17 hw18; lia
      subst hi
      refine v_aload_n dX12_meanIce_53 rfl rfl ?_
      refine gf_X12_56 dX12_meanIce_54 rfl hMo ?_
      refine v_if_ne (tgt := 74) dX12_meanIce_57 (by decide) (fun h57 => ?_) (fun h57 => ?_)
      · refine v_dconst0 dX12_meanIce_74 ?_
        exact v_dret dX12_meanIce_75 rfl (by
        rcases htt with ⟨q1, q2⟩ | ⟨q1, q2⟩ <;> subst q2
        · first
            | (exfalso; revert h57; decide)
            | exact ⟨Or.inl ⟨q1, (by rw [hs]; rfl), hC⟩, hF⟩
        · first
            | (exfalso; revert h57; decide)
            | exact ⟨Or.inr ⟨q1, rfl, hC⟩, hF⟩) (by omega) (by omega)
      · refine v_iload_n dX12_meanIce_60 rfl rfl ?_
        refine v_i2d dX12_meanIce_61 ?_
        refine v_aload_n dX12_meanIce_62 rfl rfl ?_
        refine gf_X12_16 dX12_meanIce_63 rfl hMo ?_
        refine v_bipush (v := (7)) dX12_meanIce_66 (by decide) ?_
        refine v_iald dX12_meanIce_68 hw5 (by lia) (by lia) ?_
        refine v_i2d dX12_meanIce_69 ?_
        have hz9 : vf_n64 (FP.ddiv (FP.i2d s) (FP.i2d (v 7))) := by
          rcases htt with ⟨q1, q2⟩ | ⟨q1, q2⟩
          · rw [hs]
            exact hnan q1
          · exfalso
            rw [q2] at h57
            revert h57
            decide
        refine v_ddiv dX12_meanIce_70 hz9 ?_
        refine v_goto (tgt := 75) dX12_meanIce_71 (by decide) ?_
        exact v_dret dX12_meanIce_75 rfl (by
        rcases htt with ⟨q1, q2⟩ | ⟨q1, q2⟩ <;> subst q2
        · first
            | (exfalso; revert h57; decide)
            | exact ⟨Or.inl ⟨q1, (by rw [hs]; rfl), hC⟩, hF⟩
        · first
            | (exfalso; revert h57; decide)
            | exact ⟨Or.inr ⟨q1, rfl, hC⟩, hF⟩) (by omega) (by omega)
    · have hi : i < v 7 := by clear ih hs htt hnan hC hF hMo hw5 hw6 hw7 hw8 hw9 hw10 hw11 hw13 hw14 hw15 hw16 hw17 hw18; lia
      refine v_iload_n dX12_meanIce_34 rfl rfl ?_
      refine v_aload_n dX12_meanIce_35 rfl rfl ?_
      refine gf_X12_16 dX12_meanIce_36 rfl hMo ?_
      refine v_iload_n dX12_meanIce_39 rfl rfl ?_
      refine v_iconst (v := 5) dX12_meanIce_40 (by decide) ?_
      refine k_X12_70 dX12_meanIce_41 rfl (r_of htr i 5) (Nat.le_of_ble_eq_true rfl) (by omega) (by omega) (Nat.le_of_ble_eq_true rfl) (fun r41 M9 h9 => ?_) (fun _ _ h9 => h9.elim)
      obtain ⟨rfl, e9⟩ := h9
      subst M9
      refine v_iald dX12_meanIce_44 hw5 (by clear ih hs htt hnan hC hF hMo hw5 hw6 hw7 hw8 hw9 hw10 hw11 hw13 hw14 hw15 hw16 hw17 hw18; lia) (by clear ih hs htt hnan hC hF hMo hw5 hw6 hw7 hw8 hw9 hw10 hw11 hw13 hw14 hw15 hw16 hw17 hw18; lia) ?_
      refine v_iadd dX12_meanIce_45 ?_
      refine v_istore_1 dX12_meanIce_46 ?_
      refine v_iinc_2 dX12_meanIce_47 rfl ?_
      refine v_goto (tgt := 23) dX12_meanIce_50 (by decide) ?_
      refine ih hi _ _ hC hF ?_
      rw [sumU_1 h0 hi, hs]
      first
        | rfl
        | exact congrArg _ (if_pos (by first | assumption | exact Classical.not_not.mp (by assumption))).symm
        | exact congrArg _ (if_neg (by assumption)).symm
  refine v_aload_n dX12_meanIce_0 rfl rfl ?_
  refine v_aload_n dX12_meanIce_1 rfl rfl ?_
  refine gf_X12_16 dX12_meanIce_2 rfl hMo ?_
  refine v_bipush (v := (7)) dX12_meanIce_5 (by decide) ?_
  refine v_iald dX12_meanIce_7 hw5 (by lia) (by lia) ?_
  refine v_if_ne (tgt := 15) dX12_meanIce_8 (by decide) (fun h8 => ?_) (fun h8 => ?_)
  · refine v_iconst (v := 0) dX12_meanIce_15 (by decide) ?_
    refine pf_X12_56 dX12_meanIce_16 rfl hMo ?_
    refine V.md (Md.sc hC) (Frm.tr hF (Frm.up (hC.kd_sc))) (fun M1 hC hF => ?_)
    obtain ⟨hMo, hw5, hw6, hw7, hw8, hw9, hw10, hw11, hw13, hw14, hw15, hw16, hw17, hw18, -⟩ := _root_.id hC
    refine v_iconst (v := 0) dX12_meanIce_19 (by decide) ?_
    refine v_istore_1 dX12_meanIce_20 ?_
    refine v_iconst (v := 0) dX12_meanIce_21 (by decide) ?_
    refine v_istore_2 dX12_meanIce_22 ?_
    first
      | exact key 0 (Or.inl ⟨h8, rfl⟩) 0 (Int32.le_refl _) hg5 0 _ hC hF rfl
      | exact key 1 (Or.inr ⟨h8, rfl⟩) 0 (Int32.le_refl _) hg5 0 _ hC hF rfl
  · refine v_iconst (v := 1) dX12_meanIce_11 (by decide) ?_
    refine v_goto (tgt := 16) dX12_meanIce_12 (by decide) ?_
    refine pf_X12_56 dX12_meanIce_16 rfl hMo ?_
    refine V.md (Md.sc hC) (Frm.tr hF (Frm.up (hC.kd_sc))) (fun M1 hC hF => ?_)
    obtain ⟨hMo, hw5, hw6, hw7, hw8, hw9, hw10, hw11, hw13, hw14, hw15, hw16, hw17, hw18, -⟩ := _root_.id hC
    refine v_iconst (v := 0) dX12_meanIce_19 (by decide) ?_
    refine v_istore_1 dX12_meanIce_20 ?_
    refine v_iconst (v := 0) dX12_meanIce_21 (by decide) ?_
    refine v_istore_2 dX12_meanIce_22 ?_
    first
      | exact key 0 (Or.inl ⟨h8, rfl⟩) 0 (Int32.le_refl _) hg5 0 _ hC hF rfl
      | exact key 1 (Or.inr ⟨h8, rfl⟩) 0 (Int32.le_refl _) hg5 0 _ hC hF rfl

theorem dX12_openShare_0 : decode cX12_openShare 0 = .ok (.aload_n 0, 1) := by decide +kernel
theorem dX12_openShare_1 : decode cX12_openShare 1 = .ok (.aload_n 0, 1) := by decide +kernel
theorem dX12_openShare_2 : decode cX12_openShare 2 = .ok (.getfield 16, 3) := by decide +kernel
theorem dX12_openShare_5 : decode cX12_openShare 5 = .ok (.bipush 7, 2) := by decide +kernel
theorem dX12_openShare_7 : decode cX12_openShare 7 = .ok (.iaload, 1) := by decide +kernel
theorem dX12_openShare_8 : decode cX12_openShare 8 = .ok (.ifCond .ne 7, 3) := by decide +kernel
theorem dX12_openShare_11 : decode cX12_openShare 11 = .ok (.iconst 1, 1) := by decide +kernel
theorem dX12_openShare_12 : decode cX12_openShare 12 = .ok (.goto 4, 3) := by decide +kernel
theorem dX12_openShare_15 : decode cX12_openShare 15 = .ok (.iconst 0, 1) := by decide +kernel
theorem dX12_openShare_16 : decode cX12_openShare 16 = .ok (.putfield 56, 3) := by decide +kernel
theorem dX12_openShare_19 : decode cX12_openShare 19 = .ok (.iconst 0, 1) := by decide +kernel
theorem dX12_openShare_20 : decode cX12_openShare 20 = .ok (.istore_n 1, 1) := by decide +kernel
theorem dX12_openShare_21 : decode cX12_openShare 21 = .ok (.iconst 0, 1) := by decide +kernel
theorem dX12_openShare_22 : decode cX12_openShare 22 = .ok (.istore_n 2, 1) := by decide +kernel
theorem dX12_openShare_23 : decode cX12_openShare 23 = .ok (.iload_n 2, 1) := by decide +kernel
theorem dX12_openShare_24 : decode cX12_openShare 24 = .ok (.aload_n 0, 1) := by decide +kernel
theorem dX12_openShare_25 : decode cX12_openShare 25 = .ok (.getfield 16, 3) := by decide +kernel
theorem dX12_openShare_28 : decode cX12_openShare 28 = .ok (.bipush 7, 2) := by decide +kernel
theorem dX12_openShare_30 : decode cX12_openShare 30 = .ok (.iaload, 1) := by decide +kernel
theorem dX12_openShare_31 : decode cX12_openShare 31 = .ok (.if_icmp .ge 30, 3) := by decide +kernel
theorem dX12_openShare_34 : decode cX12_openShare 34 = .ok (.iload_n 1, 1) := by decide +kernel
theorem dX12_openShare_35 : decode cX12_openShare 35 = .ok (.aload_n 0, 1) := by decide +kernel
theorem dX12_openShare_36 : decode cX12_openShare 36 = .ok (.getfield 16, 3) := by decide +kernel
theorem dX12_openShare_39 : decode cX12_openShare 39 = .ok (.iload_n 2, 1) := by decide +kernel
theorem dX12_openShare_40 : decode cX12_openShare 40 = .ok (.iconst 5, 1) := by decide +kernel
theorem dX12_openShare_41 : decode cX12_openShare 41 = .ok (.invokestatic 70, 3) := by decide +kernel
theorem dX12_openShare_44 : decode cX12_openShare 44 = .ok (.iaload, 1) := by decide +kernel
theorem dX12_openShare_45 : decode cX12_openShare 45 = .ok (.ifCond .ne 7, 3) := by decide +kernel
theorem dX12_openShare_48 : decode cX12_openShare 48 = .ok (.iconst 1, 1) := by decide +kernel
theorem dX12_openShare_49 : decode cX12_openShare 49 = .ok (.goto 4, 3) := by decide +kernel
theorem dX12_openShare_52 : decode cX12_openShare 52 = .ok (.iconst 0, 1) := by decide +kernel
theorem dX12_openShare_53 : decode cX12_openShare 53 = .ok (.iadd, 1) := by decide +kernel
theorem dX12_openShare_54 : decode cX12_openShare 54 = .ok (.istore_n 1, 1) := by decide +kernel
theorem dX12_openShare_55 : decode cX12_openShare 55 = .ok (.iinc 2 1, 3) := by decide +kernel
theorem dX12_openShare_58 : decode cX12_openShare 58 = .ok (.goto (-35), 3) := by decide +kernel
theorem dX12_openShare_61 : decode cX12_openShare 61 = .ok (.aload_n 0, 1) := by decide +kernel
theorem dX12_openShare_62 : decode cX12_openShare 62 = .ok (.getfield 56, 3) := by decide +kernel
theorem dX12_openShare_65 : decode cX12_openShare 65 = .ok (.ifCond .ne 17, 3) := by decide +kernel
theorem dX12_openShare_68 : decode cX12_openShare 68 = .ok (.iload_n 1, 1) := by decide +kernel
theorem dX12_openShare_69 : decode cX12_openShare 69 = .ok (.i2f, 1) := by decide +kernel
theorem dX12_openShare_70 : decode cX12_openShare 70 = .ok (.aload_n 0, 1) := by decide +kernel
theorem dX12_openShare_71 : decode cX12_openShare 71 = .ok (.getfield 16, 3) := by decide +kernel
theorem dX12_openShare_74 : decode cX12_openShare 74 = .ok (.bipush 7, 2) := by decide +kernel
theorem dX12_openShare_76 : decode cX12_openShare 76 = .ok (.iaload, 1) := by decide +kernel
theorem dX12_openShare_77 : decode cX12_openShare 77 = .ok (.i2f, 1) := by decide +kernel
theorem dX12_openShare_78 : decode cX12_openShare 78 = .ok (.fdiv, 1) := by decide +kernel
theorem dX12_openShare_79 : decode cX12_openShare 79 = .ok (.goto 4, 3) := by decide +kernel
theorem dX12_openShare_82 : decode cX12_openShare 82 = .ok (.fconst 0, 1) := by decide +kernel
theorem dX12_openShare_83 : decode cX12_openShare 83 = .ok (.freturn, 1) := by decide +kernel
set_option maxRecDepth 100000 in
set_option maxHeartbeats 4000000 in
theorem r_openShare {l : Launch} {g : Nat → Nat} {M : LH} (htr : l.stackTraces = false) {kd : Nat → Nat} {r m : Nat} {w : Nat → Nat} {t ch ea fl sv bf tn he en ln wr dg : Int32} {v b4 sa pa fr th bs tx li lf to : Int32 → Int32} (hC : Md kd r M m w t ch ea fl sv bf tn he en ln wr dg v b4 sa pa fr th bs tx li lf to) (hG : Good v) (hnan : ¬ v 7 = 0 → vf_n32 (FP.fdiv (FP.i2f (thawN v)) (FP.i2f (v 7)))) : K_X12_openShare l g 1 0 0 [.ref m] M (RF (fun x M9 => ((¬ v 7 = 0 ∧ x = FP.fdiv (FP.i2f (thawN v)) (FP.i2f (v 7)) ∧ Md kd r M9 m w 0 ch ea fl sv bf tn he en ln wr dg v b4 sa pa fr th bs tx li lf to) ∨ (v 7 = 0 ∧ x = FP.fconst0 ∧ Md kd r M9 m w 1 ch ea fl sv bf tn he en ln wr dg v b4 sa pa fr th bs tx li lf to)) ∧ Frm kd r M M9) nX) := by
  refine Ko_X12_openShare htr (fun X => ?_)
  obtain ⟨hMo, hw5, hw6, hw7, hw8, hw9, hw10, hw11, hw13, hw14, hw15, hw16, hw17, hw18, -⟩ := _root_.id hC
  have hF : Frm kd r M M := Frm.rf
  obtain ⟨hg1, hg2, hg3, hg4, hg5, hg6, hg7, hg8, hgL, hgS, -⟩ := _root_.id hG
  clear hgS hgL
  have key : ∀ tt, ((¬ v 7 = 0 ∧ tt = 0) ∨ (v 7 = 0 ∧ tt = 1)) → ∀ i, 0 ≤ i → i ≤ v 7 → ∀ (s : Int32) (M1 : LH), Md kd r M1 m w tt ch ea fl sv bf tn he en ln wr dg v b4 sa pa fr th bs tx li lf to → Frm kd r M M1 → s = sumU (fun i => if lt v i 5 = 0 then 1 else 0) i → V l g yX12_openShare cX12_openShare ((some .float)) [] 1 0 0 (RF (fun x M9 => ((¬ v 7 = 0 ∧ x = FP.fdiv (FP.i2f (thawN v)) (FP.i2f (v 7)) ∧ Md kd r M9 m w 0 ch ea fl sv bf tn he en ln wr dg v b4 sa pa fr th bs tx li lf to) ∨ (v 7 = 0 ∧ x = FP.fconst0 ∧ Md kd r M9 m w 1 ch ea fl sv bf tn he en ln wr dg v b4 sa pa fr th bs tx li lf to)) ∧ Frm kd r M M9) nX) X M1 0 0 23 [some (.ref m), some (.int s), some (.int i)] [] := by
    clear hC hMo hw5 hw6 hw7 hw8 hw9 hw10 hw11 hw13 hw14 hw15 hw16 hw17 hw18 hF
    intro tt htt
    refine up_ind _ (fun i h0 h1 ih s M1 hC hF hs => ?_)
    obtain ⟨hMo, hw5, hw6, hw7, hw8, hw9, hw10, hw11, hw13, hw14, hw15, hw16, hw17, hw18, -⟩ := _root_.id hC
    refine v_iload_n dX12_openShare_23 rfl rfl ?_
    refine v_aload_n dX12_openShare_24 rfl rfl ?_
    refine gf_X12_16 dX12_openShare_25 rfl hMo ?_
    refine v_bipush (v := (7)) dX12_openShare_28 (by decide) ?_
    refine v_iald dX12_openShare_30 hw5 (by lia) (by lia) ?_
    refine v_icmp_ge (tgt := 61) dX12_openShare_31 (by decide) (fun h31 => ?_) (fun h31 => ?_)
    · have hi : i = v 7 := by clear ih hs htt hnan hC hF hMo hw5 hw6 hw7 hw8 hw9 hw10 hw11 hw13 hw14 hw15 hw16 hw17 hw18; lia
      subst hi
      refine v_aload_n dX12_openShare_61 rfl rfl ?_
      refine gf_X12_56 dX12_openShare_62 rfl hMo ?_
      refine v_if_ne (tgt := 82) dX12_openShare_65 (by decide) (fun h65 => ?_) (fun h65 => ?_)
      · refine v_fconst0 dX12_openShare_82 ?_
        exact v_fret dX12_openShare_83 rfl (by
        rcases htt with ⟨q1, q2⟩ | ⟨q1, q2⟩ <;> subst q2
        · first
            | (exfalso; revert h65; decide)
            | exact ⟨Or.inl ⟨q1, (by rw [hs]; rfl), hC⟩, hF⟩
        · first
            | (exfalso; revert h65; decide)
            | exact ⟨Or.inr ⟨q1, rfl, hC⟩, hF⟩) (by omega) (by omega)
      · refine v_iload_n dX12_openShare_68 rfl rfl ?_
        refine v_i2f dX12_openShare_69 ?_
        refine v_aload_n dX12_openShare_70 rfl rfl ?_
        refine gf_X12_16 dX12_openShare_71 rfl hMo ?_
        refine v_bipush (v := (7)) dX12_openShare_74 (by decide) ?_
        refine v_iald dX12_openShare_76 hw5 (by lia) (by lia) ?_
        refine v_i2f dX12_openShare_77 ?_
        have hz9 : vf_n32 (FP.fdiv (FP.i2f s) (FP.i2f (v 7))) := by
          rcases htt with ⟨q1, q2⟩ | ⟨q1, q2⟩
          · rw [hs]
            exact hnan q1
          · exfalso
            rw [q2] at h65
            revert h65
            decide
        refine v_fdiv dX12_openShare_78 hz9 ?_
        refine v_goto (tgt := 83) dX12_openShare_79 (by decide) ?_
        exact v_fret dX12_openShare_83 rfl (by
        rcases htt with ⟨q1, q2⟩ | ⟨q1, q2⟩ <;> subst q2
        · first
            | (exfalso; revert h65; decide)
            | exact ⟨Or.inl ⟨q1, (by rw [hs]; rfl), hC⟩, hF⟩
        · first
            | (exfalso; revert h65; decide)
            | exact ⟨Or.inr ⟨q1, rfl, hC⟩, hF⟩) (by omega) (by omega)
    · have hi : i < v 7 := by clear ih hs htt hnan hC hF hMo hw5 hw6 hw7 hw8 hw9 hw10 hw11 hw13 hw14 hw15 hw16 hw17 hw18; lia
      refine v_iload_n dX12_openShare_34 rfl rfl ?_
      refine v_aload_n dX12_openShare_35 rfl rfl ?_
      refine gf_X12_16 dX12_openShare_36 rfl hMo ?_
      refine v_iload_n dX12_openShare_39 rfl rfl ?_
      refine v_iconst (v := 5) dX12_openShare_40 (by decide) ?_
      refine k_X12_70 dX12_openShare_41 rfl (r_of htr i 5) (Nat.le_of_ble_eq_true rfl) (by omega) (by omega) (Nat.le_of_ble_eq_true rfl) (fun r41 M9 h9 => ?_) (fun _ _ h9 => h9.elim)
      obtain ⟨rfl, e9⟩ := h9
      subst M9
      refine v_iald dX12_openShare_44 hw5 (by clear ih hs htt hnan hC hF hMo hw5 hw6 hw7 hw8 hw9 hw10 hw11 hw13 hw14 hw15 hw16 hw17 hw18; lia) (by clear ih hs htt hnan hC hF hMo hw5 hw6 hw7 hw8 hw9 hw10 hw11 hw13 hw14 hw15 hw16 hw17 hw18; lia) ?_
      refine v_if_ne (tgt := 52) dX12_openShare_45 (by decide) (fun h45 => ?_) (fun h45 => ?_)
      · refine v_iconst (v := 0) dX12_openShare_52 (by decide) ?_
        refine v_iadd dX12_openShare_53 ?_
        refine v_istore_1 dX12_openShare_54 ?_
        refine v_iinc_2 dX12_openShare_55 rfl ?_
        refine v_goto (tgt := 23) dX12_openShare_58 (by decide) ?_
        refine ih hi _ _ hC hF ?_
        rw [sumU_1 h0 hi, hs]
        first
          | rfl
          | exact congrArg _ (if_pos (by first | assumption | exact Classical.not_not.mp (by assumption))).symm
          | exact congrArg _ (if_neg (by assumption)).symm
      · refine v_iconst (v := 1) dX12_openShare_48 (by decide) ?_
        refine v_goto (tgt := 53) dX12_openShare_49 (by decide) ?_
        refine v_iadd dX12_openShare_53 ?_
        refine v_istore_1 dX12_openShare_54 ?_
        refine v_iinc_2 dX12_openShare_55 rfl ?_
        refine v_goto (tgt := 23) dX12_openShare_58 (by decide) ?_
        refine ih hi _ _ hC hF ?_
        rw [sumU_1 h0 hi, hs]
        first
          | rfl
          | exact congrArg _ (if_pos (by first | assumption | exact Classical.not_not.mp (by assumption))).symm
          | exact congrArg _ (if_neg (by assumption)).symm
  refine v_aload_n dX12_openShare_0 rfl rfl ?_
  refine v_aload_n dX12_openShare_1 rfl rfl ?_
  refine gf_X12_16 dX12_openShare_2 rfl hMo ?_
  refine v_bipush (v := (7)) dX12_openShare_5 (by decide) ?_
  refine v_iald dX12_openShare_7 hw5 (by lia) (by lia) ?_
  refine v_if_ne (tgt := 15) dX12_openShare_8 (by decide) (fun h8 => ?_) (fun h8 => ?_)
  · refine v_iconst (v := 0) dX12_openShare_15 (by decide) ?_
    refine pf_X12_56 dX12_openShare_16 rfl hMo ?_
    refine V.md (Md.sc hC) (Frm.tr hF (Frm.up (hC.kd_sc))) (fun M1 hC hF => ?_)
    obtain ⟨hMo, hw5, hw6, hw7, hw8, hw9, hw10, hw11, hw13, hw14, hw15, hw16, hw17, hw18, -⟩ := _root_.id hC
    refine v_iconst (v := 0) dX12_openShare_19 (by decide) ?_
    refine v_istore_1 dX12_openShare_20 ?_
    refine v_iconst (v := 0) dX12_openShare_21 (by decide) ?_
    refine v_istore_2 dX12_openShare_22 ?_
    first
      | exact key 0 (Or.inl ⟨h8, rfl⟩) 0 (Int32.le_refl _) hg5 0 _ hC hF rfl
      | exact key 1 (Or.inr ⟨h8, rfl⟩) 0 (Int32.le_refl _) hg5 0 _ hC hF rfl
  · refine v_iconst (v := 1) dX12_openShare_11 (by decide) ?_
    refine v_goto (tgt := 16) dX12_openShare_12 (by decide) ?_
    refine pf_X12_56 dX12_openShare_16 rfl hMo ?_
    refine V.md (Md.sc hC) (Frm.tr hF (Frm.up (hC.kd_sc))) (fun M1 hC hF => ?_)
    obtain ⟨hMo, hw5, hw6, hw7, hw8, hw9, hw10, hw11, hw13, hw14, hw15, hw16, hw17, hw18, -⟩ := _root_.id hC
    refine v_iconst (v := 0) dX12_openShare_19 (by decide) ?_
    refine v_istore_1 dX12_openShare_20 ?_
    refine v_iconst (v := 0) dX12_openShare_21 (by decide) ?_
    refine v_istore_2 dX12_openShare_22 ?_
    first
      | exact key 0 (Or.inl ⟨h8, rfl⟩) 0 (Int32.le_refl _) hg5 0 _ hC hF rfl
      | exact key 1 (Or.inr ⟨h8, rfl⟩) 0 (Int32.le_refl _) hg5 0 _ hC hF rfl

