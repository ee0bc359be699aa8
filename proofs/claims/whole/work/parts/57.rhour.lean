/-! ===== the reference: hours ===== -/
theorem dX12_hour_0 : decode cX12_hour 0 = .ok (.aload_n 0, 1) := by decide +kernel
theorem dX12_hour_1 : decode cX12_hour 1 = .ok (.getfield 16, 3) := by decide +kernel
theorem dX12_hour_4 : decode cX12_hour 4 = .ok (.iconst 0, 1) := by decide +kernel
theorem dX12_hour_5 : decode cX12_hour 5 = .ok (.dup2, 1) := by decide +kernel
theorem dX12_hour_6 : decode cX12_hour 6 = .ok (.iaload, 1) := by decide +kernel
theorem dX12_hour_7 : decode cX12_hour 7 = .ok (.iconst 1, 1) := by decide +kernel
theorem dX12_hour_8 : decode cX12_hour 8 = .ok (.iadd, 1) := by decide +kernel
theorem dX12_hour_9 : decode cX12_hour 9 = .ok (.iastore, 1) := by decide +kernel
theorem dX12_hour_10 : decode cX12_hour 10 = .ok (.iconst 0, 1) := by decide +kernel
theorem dX12_hour_11 : decode cX12_hour 11 = .ok (.istore_n 1, 1) := by decide +kernel
theorem dX12_hour_12 : decode cX12_hour 12 = .ok (.iload_n 1, 1) := by decide +kernel
theorem dX12_hour_13 : decode cX12_hour 13 = .ok (.aload_n 0, 1) := by decide +kernel
theorem dX12_hour_14 : decode cX12_hour 14 = .ok (.getfield 16, 3) := by decide +kernel
theorem dX12_hour_17 : decode cX12_hour 17 = .ok (.bipush 7, 2) := by decide +kernel
theorem dX12_hour_19 : decode cX12_hour 19 = .ok (.iaload, 1) := by decide +kernel
theorem dX12_hour_20 : decode cX12_hour 20 = .ok (.if_icmp .ge 14, 3) := by decide +kernel
theorem dX12_hour_23 : decode cX12_hour 23 = .ok (.aload_n 0, 1) := by decide +kernel
theorem dX12_hour_24 : decode cX12_hour 24 = .ok (.iload_n 1, 1) := by decide +kernel
theorem dX12_hour_25 : decode cX12_hour 25 = .ok (.invokevirtual 145, 3) := by decide +kernel
theorem dX12_hour_28 : decode cX12_hour 28 = .ok (.iinc 1 1, 3) := by decide +kernel
theorem dX12_hour_31 : decode cX12_hour 31 = .ok (.goto (-19), 3) := by decide +kernel
theorem dX12_hour_34 : decode cX12_hour 34 = .ok (.iconst 0, 1) := by decide +kernel
theorem dX12_hour_35 : decode cX12_hour 35 = .ok (.istore_n 1, 1) := by decide +kernel
theorem dX12_hour_36 : decode cX12_hour 36 = .ok (.iconst 0, 1) := by decide +kernel
theorem dX12_hour_37 : decode cX12_hour 37 = .ok (.istore_n 2, 1) := by decide +kernel
theorem dX12_hour_38 : decode cX12_hour 38 = .ok (.iload_n 2, 1) := by decide +kernel
theorem dX12_hour_39 : decode cX12_hour 39 = .ok (.aload_n 0, 1) := by decide +kernel
theorem dX12_hour_40 : decode cX12_hour 40 = .ok (.getfield 16, 3) := by decide +kernel
theorem dX12_hour_43 : decode cX12_hour 43 = .ok (.bipush 6, 2) := by decide +kernel
theorem dX12_hour_45 : decode cX12_hour 45 = .ok (.iaload, 1) := by decide +kernel
theorem dX12_hour_46 : decode cX12_hour 46 = .ok (.if_icmp .ge 64, 3) := by decide +kernel
theorem dX12_hour_49 : decode cX12_hour 49 = .ok (.aload_n 0, 1) := by decide +kernel
theorem dX12_hour_50 : decode cX12_hour 50 = .ok (.getfield 16, 3) := by decide +kernel
theorem dX12_hour_53 : decode cX12_hour 53 = .ok (.iload_n 2, 1) := by decide +kernel
theorem dX12_hour_54 : decode cX12_hour 54 = .ok (.iconst 2, 1) := by decide +kernel
theorem dX12_hour_55 : decode cX12_hour 55 = .ok (.invokestatic 96, 3) := by decide +kernel
theorem dX12_hour_58 : decode cX12_hour 58 = .ok (.iaload, 1) := by decide +kernel
theorem dX12_hour_59 : decode cX12_hour 59 = .ok (.ifCond .ne 6, 3) := by decide +kernel
theorem dX12_hour_62 : decode cX12_hour 62 = .ok (.goto 42, 3) := by decide +kernel
theorem dX12_hour_65 : decode cX12_hour 65 = .ok (.aload_n 0, 1) := by decide +kernel
theorem dX12_hour_66 : decode cX12_hour 66 = .ok (.getfield 16, 3) := by decide +kernel
theorem dX12_hour_69 : decode cX12_hour 69 = .ok (.iload_n 2, 1) := by decide +kernel
theorem dX12_hour_70 : decode cX12_hour 70 = .ok (.iconst 2, 1) := by decide +kernel
theorem dX12_hour_71 : decode cX12_hour 71 = .ok (.invokestatic 96, 3) := by decide +kernel
theorem dX12_hour_74 : decode cX12_hour 74 = .ok (.dup2, 1) := by decide +kernel
theorem dX12_hour_75 : decode cX12_hour 75 = .ok (.iaload, 1) := by decide +kernel
theorem dX12_hour_76 : decode cX12_hour 76 = .ok (.iconst 1, 1) := by decide +kernel
theorem dX12_hour_77 : decode cX12_hour 77 = .ok (.isub, 1) := by decide +kernel
theorem dX12_hour_78 : decode cX12_hour 78 = .ok (.iastore, 1) := by decide +kernel
theorem dX12_hour_79 : decode cX12_hour 79 = .ok (.iload_n 1, 1) := by decide +kernel
theorem dX12_hour_80 : decode cX12_hour 80 = .ok (.aload_n 0, 1) := by decide +kernel
theorem dX12_hour_81 : decode cX12_hour 81 = .ok (.getfield 16, 3) := by decide +kernel
theorem dX12_hour_84 : decode cX12_hour 84 = .ok (.iload_n 2, 1) := by decide +kernel
theorem dX12_hour_85 : decode cX12_hour 85 = .ok (.iconst 2, 1) := by decide +kernel
theorem dX12_hour_86 : decode cX12_hour 86 = .ok (.invokestatic 96, 3) := by decide +kernel
theorem dX12_hour_89 : decode cX12_hour 89 = .ok (.iaload, 1) := by decide +kernel
theorem dX12_hour_90 : decode cX12_hour 90 = .ok (.ifCond .ne 11, 3) := by decide +kernel
theorem dX12_hour_93 : decode cX12_hour 93 = .ok (.aload_n 0, 1) := by decide +kernel
theorem dX12_hour_94 : decode cX12_hour 94 = .ok (.iload_n 2, 1) := by decide +kernel
theorem dX12_hour_95 : decode cX12_hour 95 = .ok (.invokevirtual 149, 3) := by decide +kernel
theorem dX12_hour_98 : decode cX12_hour 98 = .ok (.goto 4, 3) := by decide +kernel
theorem dX12_hour_101 : decode cX12_hour 101 = .ok (.iconst 0, 1) := by decide +kernel
theorem dX12_hour_102 : decode cX12_hour 102 = .ok (.iadd, 1) := by decide +kernel
theorem dX12_hour_103 : decode cX12_hour 103 = .ok (.istore_n 1, 1) := by decide +kernel
theorem dX12_hour_104 : decode cX12_hour 104 = .ok (.iinc 2 1, 3) := by decide +kernel
theorem dX12_hour_107 : decode cX12_hour 107 = .ok (.goto (-69), 3) := by decide +kernel
theorem dX12_hour_110 : decode cX12_hour 110 = .ok (.iload_n 1, 1) := by decide +kernel
theorem dX12_hour_111 : decode cX12_hour 111 = .ok (.ireturn, 1) := by decide +kernel
set_option maxRecDepth 100000 in
set_option maxHeartbeats 4000000 in
theorem r_hour {l : Launch} {g : Nat → Nat} {M : LH} (htr : l.stackTraces = false) {kd : Nat → Nat} {r m : Nat} {w : Nat → Nat} {t ch ea fl sv bf tn he en ln wr dg : Int32} {v b4 sa pa fr th bs tx li lf to : Int32 → Int32} (hC : Md kd r M m w t ch ea fl sv bf tn he en ln wr dg v b4 sa pa fr th bs tx li lf to) (hG : Good v) : K_X12_hour l g 2 0 0 [.ref m] M (RI (fun x M9 => x = hrS v 3 - v 3 ∧ Md kd r M9 m w t ch ea fl sv bf tn he en ln wr dg (hrS v) b4 sa pa fr th bs tx li lf to ∧ Frm kd r M M9) nX) := by
  refine Ko_X12_hour htr (fun X => ?_)
  obtain ⟨hMo, hw5, hw6, hw7, hw8, hw9, hw10, hw11, hw13, hw14, hw15, hw16, hw17, hw18, -⟩ := _root_.id hC
  have hF : Frm kd r M M := Frm.rf
  obtain ⟨hg1, hg2, hg3, hg4, hg5, hg6, hg7, hg8, hgL, hgS, -⟩ := _root_.id hG
  clear hgL hgS
  have hN12 : (v 7).toNatClampNeg ≤ 12 := tc_le hg6
  have z1 : (ui v 0 (v 0 + 1)) 3 = v 3 := ui_n (by decide)
  have z6 : (ui v 0 (v 0 + 1)) 6 = v 6 := ui_n (by decide)
  have z7 : (ui v 0 (v 0 + 1)) 7 = v 7 := ui_n (by decide)
  have hGt := Good_t0 hG (x := v 0 + 1)
  show V l g yX12_hour cX12_hour ((some .int)) [] 2 0 0 (RI (fun x M9 => x = hkN (thN (ui v 0 (v 0 + 1)) (v 7).toNatClampNeg) (v 6).toNatClampNeg 3 - v 3 ∧ Md kd r M9 m w t ch ea fl sv bf tn he en ln wr dg (hkN (thN (ui v 0 (v 0 + 1)) (v 7).toNatClampNeg) (v 6).toNatClampNeg) b4 sa pa fr th bs tx li lf to ∧ Frm kd r M M9) nX) X M 0 0 0 [some (.ref m), none, none] []
  have main : ∀ τ0 : Int32 → Int32, τ0 = (ui v 0 (v 0 + 1)) → V l g yX12_hour cX12_hour ((some .int)) [] 2 0 0 (RI (fun x M9 => x = hkN (thN τ0 (v 7).toNatClampNeg) (v 6).toNatClampNeg 3 - v 3 ∧ Md kd r M9 m w t ch ea fl sv bf tn he en ln wr dg (hkN (thN τ0 (v 7).toNatClampNeg) (v 6).toNatClampNeg) b4 sa pa fr th bs tx li lf to ∧ Frm kd r M M9) nX) X M 0 0 0 [some (.ref m), none, none] [] := by
    intro τ0 hτ
    rw [← hτ] at z1 z6 z7 hGt
    have hG1 := Good_thn hGt (v 7).toNatClampNeg (by rw [z7]; exact Nat.le_refl _)
    have y6 : thN τ0 (v 7).toNatClampNeg 6 = v 6 := (thN_lo (by decide) (by decide) _ hN12).trans z6
    have y3 : thN τ0 (v 7).toNatClampNeg 3 = v 3 := (thN_lo (by decide) (by decide) _ hN12).trans z1
    have key2 : ∀ i, 0 ≤ i → i ≤ v 6 → ∀ (M1 : LH), Md kd r M1 m w t ch ea fl sv bf tn he en ln wr dg (hkN (thN τ0 (v 7).toNatClampNeg) i.toNatClampNeg) b4 sa pa fr th bs tx li lf to → Frm kd r M M1 → V l g yX12_hour cX12_hour ((some .int)) [] 2 0 0 (RI (fun x M9 => x = hkN (thN τ0 (v 7).toNatClampNeg) (v 6).toNatClampNeg 3 - v 3 ∧ Md kd r M9 m w t ch ea fl sv bf tn he en ln wr dg (hkN (thN τ0 (v 7).toNatClampNeg) (v 6).toNatClampNeg) b4 sa pa fr th bs tx li lf to ∧ Frm kd r M M9) nX) X M1 0 0 38 [some (.ref m), some (.int (hkN (thN τ0 (v 7).toNatClampNeg) i.toNatClampNeg 3 - v 3)), some (.int i)] [] := by
      clear hC hF hMo hw5 hw6 hw7 hw8 hw9 hw10 hw11 hw13 hw14 hw15 hw16 hw17 hw18
      refine up_ind _ (fun i h0 h1 ih M1 hC hF => ?_)
      obtain ⟨hGi, e6⟩ := Good_hkn hG1 i.toNatClampNeg (by rw [y6]; exact tc_le h1)
      rw [y6] at e6
      by_cases hi : i < v 6
      · have hi3 : i < 3 := by clear ih hC hF; lia
        have hst := hkN_1 (σ := thN τ0 (v 7).toNatClampNeg) h0 (by clear ih hC hF; lia : i < 100)
        have ih2 := ih hi
        rw [hst] at ih2
        clear ih hst
        generalize hkN (thN τ0 (v 7).toNatClampNeg) i.toNatClampNeg = τ at hGi e6 hC ih2
        obtain ⟨hMo, hw5, hw6, hw7, hw8, hw9, hw10, hw11, hw13, hw14, hw15, hw16, hw17, hw18, -⟩ := _root_.id hC
        have hi6 : i < τ 6 := by rw [e6]; exact hi
        obtain ⟨-, -, -, -, d2, -⟩ := hGi.2.2.2.2.2.2.2.2.2.1 i h0 hi6
        have hd3 : dhS τ i 3 = τ 3 := dhS_n h0 hi3 (Or.inl (by decide))
        have hd7 : dhS τ i 7 = τ 7 := dhS_n h0 hi3 (Or.inl (by decide))
        unfold hkS at ih2
        refine v_iload_n dX12_hour_38 rfl rfl ?_
        refine v_aload_n dX12_hour_39 rfl rfl ?_
        refine gf_X12_16 dX12_hour_40 rfl hMo ?_
        refine v_bipush (v := (6)) dX12_hour_43 (by decide) ?_
        refine v_iald dX12_hour_45 hw5 (by lia) (by lia) ?_
        refine v_icmp_ge (tgt := 110) dX12_hour_46 (by decide) (fun h46 => ?_) (fun h46 => ?_)
        · exact absurd hi (Int32.not_lt.mpr (by rw [e6] at h46; exact h46))
        · refine v_aload_n dX12_hour_49 rfl rfl ?_
          refine gf_X12_16 dX12_hour_50 rfl hMo ?_
          refine v_iload_n dX12_hour_53 rfl rfl ?_
          refine v_iconst (v := 2) dX12_hour_54 (by decide) ?_
          refine k_X12_96 dX12_hour_55 rfl (r_in htr i 2) (Nat.le_of_ble_eq_true rfl) (by omega) (by omega) (Nat.le_of_ble_eq_true rfl) (fun r55 M9 h9 => ?_) (fun _ _ h9 => h9.elim)
          obtain ⟨rfl, e9⟩ := h9
          subst M9
          refine v_iald dX12_hour_58 hw5 (by clear ih2 hC hF hMo hw5 hw6 hw7 hw8 hw9 hw10 hw11 hw13 hw14 hw15 hw16 hw17 hw18; lia) (by clear ih2 hC hF hMo hw5 hw6 hw7 hw8 hw9 hw10 hw11 hw13 hw14 hw15 hw16 hw17 hw18; lia) ?_
          refine v_if_ne (tgt := 65) dX12_hour_59 (by decide) (fun hq59 => ?_) (fun hq59 => ?_)
          · have hp9 : 0 < sd τ i 2 := by
              have hne : ¬ sd τ i 2 = 0 := hq59
              clear ih2 hC hF
              lia
            rw [if_pos hp9] at ih2
            refine v_aload_n dX12_hour_65 rfl rfl ?_
            refine gf_X12_16 dX12_hour_66 rfl hMo ?_
            refine v_iload_n dX12_hour_69 rfl rfl ?_
            refine v_iconst (v := 2) dX12_hour_70 (by decide) ?_
            refine k_X12_96 dX12_hour_71 rfl (r_in htr i 2) (Nat.le_of_ble_eq_true rfl) (by omega) (by omega) (Nat.le_of_ble_eq_true rfl) (fun r71 M9 h9 => ?_) (fun _ _ h9 => h9.elim)
            obtain ⟨rfl, e9⟩ := h9
            subst M9
            refine v_dup2 dX12_hour_74 rfl rfl ?_
            refine v_iald dX12_hour_75 hw5 (by clear ih2 hC hF hMo hw5 hw6 hw7 hw8 hw9 hw10 hw11 hw13 hw14 hw15 hw16 hw17 hw18; lia) (by clear ih2 hC hF hMo hw5 hw6 hw7 hw8 hw9 hw10 hw11 hw13 hw14 hw15 hw16 hw17 hw18; lia) ?_
            refine v_iconst (v := 1) dX12_hour_76 (by decide) ?_
            refine v_isub dX12_hour_77 ?_
            refine v_iast dX12_hour_78 hw5 (by clear ih2 hC hF hMo hw5 hw6 hw7 hw8 hw9 hw10 hw11 hw13 hw14 hw15 hw16 hw17 hw18; lia) (by clear ih2 hC hF hMo hw5 hw6 hw7 hw8 hw9 hw10 hw11 hw13 hw14 hw15 hw16 hw17 hw18; lia) ?_
            refine V.md (Md.r5 hC) (Frm.tr hF (Frm.up (hC.kd_r5))) (fun M1 hC hF => ?_)
            obtain ⟨hMo, hw5, hw6, hw7, hw8, hw9, hw10, hw11, hw13, hw14, hw15, hw16, hw17, hw18, -⟩ := _root_.id hC
            have hGd := Good_dhS hGi h0 hi6 hp9
            have hC : Md kd r M1 m w t ch ea fl sv bf tn he en ln wr dg (dhS τ i) b4 sa pa fr th bs tx li lf to := hC
            refine v_iload_n dX12_hour_79 rfl rfl ?_
            refine v_aload_n dX12_hour_80 rfl rfl ?_
            refine gf_X12_16 dX12_hour_81 rfl hMo ?_
            refine v_iload_n dX12_hour_84 rfl rfl ?_
            refine v_iconst (v := 2) dX12_hour_85 (by decide) ?_
            refine k_X12_96 dX12_hour_86 rfl (r_in htr i 2) (Nat.le_of_ble_eq_true rfl) (by omega) (by omega) (Nat.le_of_ble_eq_true rfl) (fun r86 M9 h9 => ?_) (fun _ _ h9 => h9.elim)
            obtain ⟨rfl, e9⟩ := h9
            subst M9
            refine v_iald dX12_hour_89 hw5 (by clear ih2 hC hF hMo hw5 hw6 hw7 hw8 hw9 hw10 hw11 hw13 hw14 hw15 hw16 hw17 hw18; lia) (by clear ih2 hC hF hMo hw5 hw6 hw7 hw8 hw9 hw10 hw11 hw13 hw14 hw15 hw16 hw17 hw18; lia) ?_
            refine v_if_ne (tgt := 101) dX12_hour_90 (by decide) (fun hq90 => ?_) (fun hq90 => ?_)
            · refine v_iconst (v := 0) dX12_hour_101 (by decide) ?_
              refine v_iadd dX12_hour_102 ?_
              refine v_istore_1 dX12_hour_103 ?_
              refine v_iinc_2 dX12_hour_104 rfl ?_
              refine v_goto (tgt := 38) dX12_hour_107 (by decide) ?_
              first
                | (have hdv : dvS (dhS τ i) i = gvN (dhS τ i) i (dhS τ i 7).toNatClampNeg := if_neg (by rw [show sd (dhS τ i) i 2 = 0 from hq90]; decide)
                   rw [← hdv] at hC
                   have ih3 := ih2 _ hC hF
                   rw [show τ 3 - v 3 + (gvN (dhS τ i) i (dhS τ i 7).toNatClampNeg 3 - dhS τ i 3) = dvS (dhS τ i) i 3 - v 3 by (rw [hdv, hd3]; generalize gvN (dhS τ i) i (dhS τ i 7).toNatClampNeg 3 = z; clear ih2 ih3 hC hF; lia)]
                   exact ih3)
                | (have hdv : dvS (dhS τ i) i = dhS τ i := if_pos (by have hne : ¬ sd (dhS τ i) i 2 = 0 := hq90; obtain ⟨-, -, -, -, d4, -⟩ := hGd.2.2.2.2.2.2.2.2.2.1 i h0 (by rw [dhS_n h0 hi3 (Or.inl (by decide))]; exact hi6); clear ih2 hC hF; lia)
                   rw [hdv] at ih2
                   have ih3 := ih2 _ hC hF
                   rw [hd3] at ih3
                   rw [Int32.add_zero]
                   exact ih3)
                | (have hz9 : sd τ i 2 = 0 := hq59
                   rw [if_neg (by rw [hz9]; decide)] at ih2
                   exact ih2 _ hC hF)
            · refine v_aload_n dX12_hour_93 rfl rfl ?_
              refine v_iload_n dX12_hour_94 rfl rfl ?_
              refine k_X12_149 dX12_hour_95 rfl (r_gives htr hC hGd h0 hi3) hMo (Nat.le_of_ble_eq_true rfl) (by omega) (by omega) (Nat.le_of_ble_eq_true rfl) (fun r95 M9 h9 => ?_) (fun _ _ h9 => h9.elim)
              obtain ⟨rfl, hC, hF9⟩ := h9
              have hF := Frm.tr hF hF9
              refine v_goto (tgt := 102) dX12_hour_98 (by decide) ?_
              refine v_iadd dX12_hour_102 ?_
              refine v_istore_1 dX12_hour_103 ?_
              refine v_iinc_2 dX12_hour_104 rfl ?_
              refine v_goto (tgt := 38) dX12_hour_107 (by decide) ?_
              first
                | (have hdv : dvS (dhS τ i) i = gvN (dhS τ i) i (dhS τ i 7).toNatClampNeg := if_neg (by rw [show sd (dhS τ i) i 2 = 0 from hq90]; decide)
                   rw [← hdv] at hC
                   have ih3 := ih2 _ hC hF
                   rw [show τ 3 - v 3 + (gvN (dhS τ i) i (dhS τ i 7).toNatClampNeg 3 - dhS τ i 3) = dvS (dhS τ i) i 3 - v 3 by (rw [hdv, hd3]; generalize gvN (dhS τ i) i (dhS τ i 7).toNatClampNeg 3 = z; clear ih2 ih3 hC hF; lia)]
                   exact ih3)
                | (have hdv : dvS (dhS τ i) i = dhS τ i := if_pos (by have hne : ¬ sd (dhS τ i) i 2 = 0 := hq90; obtain ⟨-, -, -, -, d4, -⟩ := hGd.2.2.2.2.2.2.2.2.2.1 i h0 (by rw [dhS_n h0 hi3 (Or.inl (by decide))]; exact hi6); clear ih2 hC hF; lia)
                   rw [hdv] at ih2
                   have ih3 := ih2 _ hC hF
                   rw [hd3] at ih3
                   rw [Int32.add_zero]
                   exact ih3)
                | (have hz9 : sd τ i 2 = 0 := hq59
                   rw [if_neg (by rw [hz9]; decide)] at ih2
                   exact ih2 _ hC hF)
          · refine v_goto (tgt := 104) dX12_hour_62 (by decide) ?_
            refine v_iinc_2 dX12_hour_104 rfl ?_
            refine v_goto (tgt := 38) dX12_hour_107 (by decide) ?_
            first
              | (have hdv : dvS (dhS τ i) i = gvN (dhS τ i) i (dhS τ i 7).toNatClampNeg := if_neg (by rw [show sd (dhS τ i) i 2 = 0 from hq90]; decide)
                 rw [← hdv] at hC
                 have ih3 := ih2 _ hC hF
                 rw [show τ 3 - v 3 + (gvN (dhS τ i) i (dhS τ i 7).toNatClampNeg 3 - dhS τ i 3) = dvS (dhS τ i) i 3 - v 3 by (rw [hdv, hd3]; generalize gvN (dhS τ i) i (dhS τ i 7).toNatClampNeg 3 = z; clear ih2 ih3 hC hF; lia)]
                 exact ih3)
              | (have hdv : dvS (dhS τ i) i = dhS τ i := if_pos (by have hne : ¬ sd (dhS τ i) i 2 = 0 := hq90; obtain ⟨-, -, -, -, d4, -⟩ := hGd.2.2.2.2.2.2.2.2.2.1 i h0 (by rw [dhS_n h0 hi3 (Or.inl (by decide))]; exact hi6); clear ih2 hC hF; lia)
                 rw [hdv] at ih2
                 have ih3 := ih2 _ hC hF
                 rw [hd3] at ih3
                 rw [Int32.add_zero]
                 exact ih3)
              | (have hz9 : sd τ i 2 = 0 := hq59
                 rw [if_neg (by rw [hz9]; decide)] at ih2
                 exact ih2 _ hC hF)
      · have hie : i = v 6 := by clear ih hC hF; lia
        subst hie
        obtain ⟨hMo, hw5, hw6, hw7, hw8, hw9, hw10, hw11, hw13, hw14, hw15, hw16, hw17, hw18, -⟩ := _root_.id hC
        refine v_iload_n dX12_hour_38 rfl rfl ?_
        refine v_aload_n dX12_hour_39 rfl rfl ?_
        refine gf_X12_16 dX12_hour_40 rfl hMo ?_
        refine v_bipush (v := (6)) dX12_hour_43 (by decide) ?_
        refine v_iald dX12_hour_45 hw5 (by decide) (by decide) ?_
        refine v_icmp_ge (tgt := 110) dX12_hour_46 (by decide) (fun h46 => ?_) (fun h46 => ?_)
        · refine v_iload_n dX12_hour_110 rfl rfl ?_
          exact v_iret dX12_hour_111 rfl ⟨rfl, hC, hF⟩ (by omega) (by omega)
        · exact absurd (by rw [e6]; exact Int32.le_refl _) h46
    have key1 : ∀ i, 0 ≤ i → i ≤ v 7 → ∀ (M1 : LH) (z2 : Option Value), Md kd r M1 m w t ch ea fl sv bf tn he en ln wr dg (thN τ0 i.toNatClampNeg) b4 sa pa fr th bs tx li lf to → Frm kd r M M1 → V l g yX12_hour cX12_hour ((some .int)) [] 2 0 0 (RI (fun x M9 => x = hkN (thN τ0 (v 7).toNatClampNeg) (v 6).toNatClampNeg 3 - v 3 ∧ Md kd r M9 m w t ch ea fl sv bf tn he en ln wr dg (hkN (thN τ0 (v 7).toNatClampNeg) (v 6).toNatClampNeg) b4 sa pa fr th bs tx li lf to ∧ Frm kd r M M9) nX) X M1 0 0 12 [some (.ref m), some (.int i), z2] [] := by
      clear hC hF hMo hw5 hw6 hw7 hw8 hw9 hw10 hw11 hw13 hw14 hw15 hw16 hw17 hw18
      refine up_ind _ (fun i h0 h1 ih M1 z2 hC hF => ?_)
      obtain ⟨hMo, hw5, hw6, hw7, hw8, hw9, hw10, hw11, hw13, hw14, hw15, hw16, hw17, hw18, -⟩ := _root_.id hC
      have hiN : i.toNatClampNeg ≤ (v 7).toNatClampNeg := tc_le h1
      have e7 : thN τ0 i.toNatClampNeg 7 = v 7 := (thN_lo (by decide) (by decide) _ (Nat.le_trans hiN hN12)).trans z7
      refine v_iload_n dX12_hour_12 rfl rfl ?_
      refine v_aload_n dX12_hour_13 rfl rfl ?_
      refine gf_X12_16 dX12_hour_14 rfl hMo ?_
      refine v_bipush (v := (7)) dX12_hour_17 (by decide) ?_
      refine v_iald dX12_hour_19 hw5 (by decide) (by decide) ?_
      refine v_icmp_ge (tgt := 34) dX12_hour_20 (by decide) (fun h20 => ?_) (fun h20 => ?_)
      · have hie : i = v 7 := by (rw [e7] at h20; clear ih hC hF key2 hMo hw5 hw6 hw7 hw8 hw9 hw10 hw11 hw13 hw14 hw15 hw16 hw17 hw18; lia)
        subst hie
        refine v_iconst (v := 0) dX12_hour_34 (by decide) ?_
        refine v_istore_1 dX12_hour_35 ?_
        refine v_iconst (v := 0) dX12_hour_36 (by decide) ?_
        refine v_istore_2 dX12_hour_37 ?_
        have hk := key2 0 (by decide) hg3 M1 hC hF
        rw [show hkN (thN τ0 (v 7).toNatClampNeg) (0 : Int32).toNatClampNeg 3 - v 3 = 0 by (show thN τ0 (v 7).toNatClampNeg 3 - v 3 = 0; rw [y3]; exact Int32.sub_self _)] at hk
        exact hk
      · have hi : i < v 7 := by (rw [e7] at h20; clear ih hC hF key2 hMo hw5 hw6 hw7 hw8 hw9 hw10 hw11 hw13 hw14 hw15 hw16 hw17 hw18; lia)
        have hth := thN_1 (σ := τ0) h0 (by clear ih hC hF key2 hMo hw5 hw6 hw7 hw8 hw9 hw10 hw11 hw13 hw14 hw15 hw16 hw17 hw18; lia : i < 100)
        have hGi := Good_thn hGt i.toNatClampNeg (by rw [z7]; exact hiN)
        refine v_aload_n dX12_hour_23 rfl rfl ?_
        refine v_iload_n dX12_hour_24 rfl rfl ?_
        refine k_X12_145 dX12_hour_25 rfl (r_thaws htr hC hGi h0 (by rw [e7]; exact hi)) hMo (Nat.le_of_ble_eq_true rfl) (by omega) (by omega) (Nat.le_of_ble_eq_true rfl) (fun M9 h9 => ?_) (fun _ _ h9 => h9.elim)
        obtain ⟨hC, hF9⟩ := h9
        have hF := Frm.tr hF hF9
        rw [← hth] at hC
        refine v_iinc_1 dX12_hour_28 rfl ?_
        refine v_goto (tgt := 12) dX12_hour_31 (by decide) ?_
        exact ih hi _ _ hC hF
    refine v_aload_n dX12_hour_0 rfl rfl ?_
    refine gf_X12_16 dX12_hour_1 rfl hMo ?_
    refine v_iconst (v := 0) dX12_hour_4 (by decide) ?_
    refine v_dup2 dX12_hour_5 rfl rfl ?_
    refine v_iald dX12_hour_6 hw5 (by decide) (by decide) ?_
    refine v_iconst (v := 1) dX12_hour_7 (by decide) ?_
    refine v_iadd dX12_hour_8 ?_
    refine v_iast dX12_hour_9 hw5 (by decide) (by decide) ?_
    refine V.md (Md.r5 hC) (Frm.tr hF (Frm.up (hC.kd_r5))) (fun M1 hC hF => ?_)
    obtain ⟨hMo, hw5, hw6, hw7, hw8, hw9, hw10, hw11, hw13, hw14, hw15, hw16, hw17, hw18, -⟩ := _root_.id hC
    rw [← hτ] at hC
    refine v_iconst (v := 0) dX12_hour_10 (by decide) ?_
    refine v_istore_1 dX12_hour_11 ?_
    exact key1 0 (by decide) hg5 _ _ hC hF
  exact main _ rfl

theorem dX12_passes_0 : decode cX12_passes 0 = .ok (.iload_n 1, 1) := by decide +kernel
theorem dX12_passes_1 : decode cX12_passes 1 = .ok (.iconst 1, 1) := by decide +kernel
theorem dX12_passes_2 : decode cX12_passes 2 = .ok (.bipush 48, 2) := by decide +kernel
theorem dX12_passes_4 : decode cX12_passes 4 = .ok (.invokestatic 66, 3) := by decide +kernel
theorem dX12_passes_7 : decode cX12_passes 7 = .ok (.ifCond .ne 9, 3) := by decide +kernel
theorem dX12_passes_10 : decode cX12_passes 10 = .ok (.aload_n 0, 1) := by decide +kernel
theorem dX12_passes_11 : decode cX12_passes 11 = .ok (.iconst 1, 1) := by decide +kernel
theorem dX12_passes_12 : decode cX12_passes 12 = .ok (.invokevirtual 74, 3) := by decide +kernel
theorem dX12_passes_15 : decode cX12_passes 15 = .ok (.ireturn, 1) := by decide +kernel
theorem dX12_passes_16 : decode cX12_passes 16 = .ok (.iconst 0, 1) := by decide +kernel
theorem dX12_passes_17 : decode cX12_passes 17 = .ok (.istore_n 2, 1) := by decide +kernel
theorem dX12_passes_18 : decode cX12_passes 18 = .ok (.iconst 0, 1) := by decide +kernel
theorem dX12_passes_19 : decode cX12_passes 19 = .ok (.istore_n 3, 1) := by decide +kernel
theorem dX12_passes_20 : decode cX12_passes 20 = .ok (.iload_n 3, 1) := by decide +kernel
theorem dX12_passes_21 : decode cX12_passes 21 = .ok (.iload_n 1, 1) := by decide +kernel
theorem dX12_passes_22 : decode cX12_passes 22 = .ok (.if_icmp .ge 16, 3) := by decide +kernel
theorem dX12_passes_25 : decode cX12_passes 25 = .ok (.iload_n 2, 1) := by decide +kernel
theorem dX12_passes_26 : decode cX12_passes 26 = .ok (.aload_n 0, 1) := by decide +kernel
theorem dX12_passes_27 : decode cX12_passes 27 = .ok (.invokevirtual 152, 3) := by decide +kernel
theorem dX12_passes_30 : decode cX12_passes 30 = .ok (.iadd, 1) := by decide +kernel
theorem dX12_passes_31 : decode cX12_passes 31 = .ok (.istore_n 2, 1) := by decide +kernel
theorem dX12_passes_32 : decode cX12_passes 32 = .ok (.iinc 3 1, 3) := by decide +kernel
theorem dX12_passes_35 : decode cX12_passes 35 = .ok (.goto (-15), 3) := by decide +kernel
theorem dX12_passes_38 : decode cX12_passes 38 = .ok (.iload_n 2, 1) := by decide +kernel
theorem dX12_passes_39 : decode cX12_passes 39 = .ok (.ireturn, 1) := by decide +kernel
set_option maxRecDepth 100000 in
set_option maxHeartbeats 4000000 in
theorem r_passes {l : Launch} {g : Nat → Nat} {M : LH} (htr : l.stackTraces = false) {kd : Nat → Nat} {r m : Nat} {w : Nat → Nat} {t ch ea fl sv bf tn he en ln wr dg : Int32} {v b4 sa pa fr th bs tx li lf to : Int32 → Int32} (hC : Md kd r M m w t ch ea fl sv bf tn he en ln wr dg v b4 sa pa fr th bs tx li lf to) (hG : Good v) (n : Int32) : K_X12_passes l g 3 0 0 [.ref m, .int n] M (RI (fun x M9 => ((vdHrs n = 0 ∧ x = psN v n.toNatClampNeg 3 - v 3 ∧ Md kd r M9 m w t ch ea fl sv bf tn he en ln wr dg (psN v n.toNatClampNeg) b4 sa pa fr th bs tx li lf to) ∨ (¬ vdHrs n = 0 ∧ x = 0 ∧ Md kd r M9 m w (fcI 9 (vdHrs n)) ch ea fl sv bf tn he en ln wr dg v b4 sa pa fr th bs tx li lf to)) ∧ Frm kd r M M9) nX) := by
  refine Ko_X12_passes htr (fun X => ?_)
  obtain ⟨hMo, hw5, hw6, hw7, hw8, hw9, hw10, hw11, hw13, hw14, hw15, hw16, hw17, hw18, -⟩ := _root_.id hC
  have hF : Frm kd r M M := Frm.rf
  obtain ⟨hg1, hg2, hg3, hg4, hg5, hg6, hg7, hg8, hgL, hgS, -⟩ := _root_.id hG
  clear hgL hgS
  have key : vdHrs n = 0 → n ≤ 48 → ∀ i, 0 ≤ i → i ≤ n → ∀ (M1 : LH), Md kd r M1 m w t ch ea fl sv bf tn he en ln wr dg (psN v i.toNatClampNeg) b4 sa pa fr th bs tx li lf to → Frm kd r M M1 → V l g yX12_passes cX12_passes ((some .int)) [] 3 0 0 (RI (fun x M9 => ((vdHrs n = 0 ∧ x = psN v n.toNatClampNeg 3 - v 3 ∧ Md kd r M9 m w t ch ea fl sv bf tn he en ln wr dg (psN v n.toNatClampNeg) b4 sa pa fr th bs tx li lf to) ∨ (¬ vdHrs n = 0 ∧ x = 0 ∧ Md kd r M9 m w (fcI 9 (vdHrs n)) ch ea fl sv bf tn he en ln wr dg v b4 sa pa fr th bs tx li lf to)) ∧ Frm kd r M M9) nX) X M1 0 0 20 [some (.ref m), some (.int n), some (.int (psN v i.toNatClampNeg 3 - v 3)), some (.int i)] [] := by
    intro hv hn48
    clear hC hF hMo hw5 hw6 hw7 hw8 hw9 hw10 hw11 hw13 hw14 hw15 hw16 hw17 hw18
    refine up_ind _ (fun i h0 h1 ih M1 hC hF => ?_)
    obtain ⟨hMo, hw5, hw6, hw7, hw8, hw9, hw10, hw11, hw13, hw14, hw15, hw16, hw17, hw18, -⟩ := _root_.id hC
    have hGi := Good_ps hG i.toNatClampNeg
    refine v_iload_n dX12_passes_20 rfl rfl ?_
    refine v_iload_n dX12_passes_21 rfl rfl ?_
    refine v_icmp_ge (tgt := 38) dX12_passes_22 (by decide) (fun h22 => ?_) (fun h22 => ?_)
    · have hie : i = n := by clear ih hC hF hMo hw5 hw6 hw7 hw8 hw9 hw10 hw11 hw13 hw14 hw15 hw16 hw17 hw18; lia
      subst hie
      refine v_iload_n dX12_passes_38 rfl rfl ?_
      exact v_iret dX12_passes_39 rfl ⟨Or.inl ⟨hv, rfl, hC⟩, hF⟩ (by omega) (by omega)
    · have hi : i < n := by clear ih hC hF hMo hw5 hw6 hw7 hw8 hw9 hw10 hw11 hw13 hw14 hw15 hw16 hw17 hw18; lia
      have hps := psN_1 (σ := v) h0 (by clear ih hC hF hMo hw5 hw6 hw7 hw8 hw9 hw10 hw11 hw13 hw14 hw15 hw16 hw17 hw18; lia : i < 100)
      refine v_iload_n dX12_passes_25 rfl rfl ?_
      refine v_aload_n dX12_passes_26 rfl rfl ?_
      refine k_X12_152 dX12_passes_27 rfl (r_hour htr hC hGi) hMo (Nat.le_of_ble_eq_true rfl) (by omega) (by omega) (Nat.le_of_ble_eq_true rfl) (fun r27 M9 h9 => ?_) (fun _ _ h9 => h9.elim)
      obtain ⟨rfl, hC, hF9⟩ := h9
      have hF := Frm.tr hF hF9
      rw [← hps] at hC
      refine v_iadd dX12_passes_30 ?_
      refine v_istore_2 dX12_passes_31 ?_
      refine v_iinc_3 dX12_passes_32 rfl ?_
      refine v_goto (tgt := 20) dX12_passes_35 (by decide) ?_
      have ih2 := ih hi _ hC hF
      rw [show psN v i.toNatClampNeg 3 - v 3 + (hrS (psN v i.toNatClampNeg) 3 - psN v i.toNatClampNeg 3) = psN v (i + 1).toNatClampNeg 3 - v 3 by (rw [hps]; generalize hrS (psN v i.toNatClampNeg) 3 = z; generalize psN v i.toNatClampNeg 3 = y; clear ih ih2 hC hF; lia)]
      exact ih2
  refine v_iload_n dX12_passes_0 rfl rfl ?_
  refine v_iconst (v := 1) dX12_passes_1 (by decide) ?_
  refine v_bipush (v := (48)) dX12_passes_2 (by decide) ?_
  refine k_X12_66 dX12_passes_4 rfl (r_isIn htr n 1 48) (Nat.le_of_ble_eq_true rfl) (by omega) (by omega) (Nat.le_of_ble_eq_true rfl) (fun r4 M9 h9 => ?_) (fun _ _ h9 => h9.elim)
  obtain ⟨rfl, e9⟩ := h9
  subst M9
  refine v_if_ne (tgt := 16) dX12_passes_7 (by decide) (fun hq7 => ?_) (fun hq7 => ?_)
  · have hn9 := b_t hq7
    refine v_iconst (v := 0) dX12_passes_16 (by decide) ?_
    refine v_istore_2 dX12_passes_17 ?_
    refine v_iconst (v := 0) dX12_passes_18 (by decide) ?_
    refine v_istore_3 dX12_passes_19 ?_
    have hk := key (if_pos hn9) hn9.2 0 (by decide) (by have := hn9.1; clear key hC hF hMo hw5 hw6 hw7 hw8 hw9 hw10 hw11 hw13 hw14 hw15 hw16 hw17 hw18; lia) M hC hF
    rw [show psN v (0 : Int32).toNatClampNeg 3 - v 3 = 0 from Int32.sub_self _] at hk
    exact hk
  · refine v_aload_n dX12_passes_10 rfl rfl ?_
    refine v_iconst (v := 1) dX12_passes_11 (by decide) ?_
    refine k_X12_74 dX12_passes_12 rfl (r_fail htr hC 1) hMo (Nat.le_of_ble_eq_true rfl) (by omega) (by omega) (Nat.le_of_ble_eq_true rfl) (fun r12 M9 h9 => ?_) (fun _ _ h9 => h9.elim)
    obtain ⟨rfl, hC, hF9⟩ := h9
    have hF := Frm.tr hF hF9
    exact v_iret dX12_passes_15 rfl ⟨Or.inr ⟨(by unfold vdHrs; rw [if_neg (b_f hq7)]; decide), rfl, (by unfold vdHrs; rw [if_neg (b_f hq7)]; exact hC)⟩, hF⟩ (by omega) (by omega)

