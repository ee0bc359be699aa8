/-! ===== hours pass ===== -/
theorem clr_h : True := trivial
theorem dX3_passHour_0 : decode cX3_passHour 0 = .ok (.aload_n 0, 1) := by decide +kernel
theorem dX3_passHour_1 : decode cX3_passHour 1 = .ok (.getfield 12, 3) := by decide +kernel
theorem dX3_passHour_4 : decode cX3_passHour 4 = .ok (.dup, 1) := by decide +kernel
theorem dX3_passHour_5 : decode cX3_passHour 5 = .ok (.getfield 187, 3) := by decide +kernel
theorem dX3_passHour_8 : decode cX3_passHour 8 = .ok (.iconst 1, 1) := by decide +kernel
theorem dX3_passHour_9 : decode cX3_passHour 9 = .ok (.iadd, 1) := by decide +kernel
theorem dX3_passHour_10 : decode cX3_passHour 10 = .ok (.putfield 187, 3) := by decide +kernel
theorem dX3_passHour_13 : decode cX3_passHour 13 = .ok (.iconst 0, 1) := by decide +kernel
theorem dX3_passHour_14 : decode cX3_passHour 14 = .ok (.istore_n 1, 1) := by decide +kernel
theorem dX3_passHour_15 : decode cX3_passHour 15 = .ok (.iload_n 1, 1) := by decide +kernel
theorem dX3_passHour_16 : decode cX3_passHour 16 = .ok (.aload_n 0, 1) := by decide +kernel
theorem dX3_passHour_17 : decode cX3_passHour 17 = .ok (.getfield 12, 3) := by decide +kernel
theorem dX3_passHour_20 : decode cX3_passHour 20 = .ok (.getfield 92, 3) := by decide +kernel
theorem dX3_passHour_23 : decode cX3_passHour 23 = .ok (.if_icmp .ge 28, 3) := by decide +kernel
theorem dX3_passHour_26 : decode cX3_passHour 26 = .ok (.aload_n 0, 1) := by decide +kernel
theorem dX3_passHour_27 : decode cX3_passHour 27 = .ok (.getfield 12, 3) := by decide +kernel
theorem dX3_passHour_30 : decode cX3_passHour 30 = .ok (.getfield 95, 3) := by decide +kernel
theorem dX3_passHour_33 : decode cX3_passHour 33 = .ok (.iload_n 1, 1) := by decide +kernel
theorem dX3_passHour_34 : decode cX3_passHour 34 = .ok (.aaload, 1) := by decide +kernel
theorem dX3_passHour_35 : decode cX3_passHour 35 = .ok (.aload_n 0, 1) := by decide +kernel
theorem dX3_passHour_36 : decode cX3_passHour 36 = .ok (.getfield 12, 3) := by decide +kernel
theorem dX3_passHour_39 : decode cX3_passHour 39 = .ok (.getfield 178, 3) := by decide +kernel
theorem dX3_passHour_42 : decode cX3_passHour 42 = .ok (.invokevirtual 188, 3) := by decide +kernel
theorem dX3_passHour_45 : decode cX3_passHour 45 = .ok (.iinc 1 1, 3) := by decide +kernel
theorem dX3_passHour_48 : decode cX3_passHour 48 = .ok (.goto (-33), 3) := by decide +kernel
theorem dX3_passHour_51 : decode cX3_passHour 51 = .ok (.iconst 0, 1) := by decide +kernel
theorem dX3_passHour_52 : decode cX3_passHour 52 = .ok (.istore_n 1, 1) := by decide +kernel
theorem dX3_passHour_53 : decode cX3_passHour 53 = .ok (.iload_n 1, 1) := by decide +kernel
theorem dX3_passHour_54 : decode cX3_passHour 54 = .ok (.aload_n 0, 1) := by decide +kernel
theorem dX3_passHour_55 : decode cX3_passHour 55 = .ok (.getfield 12, 3) := by decide +kernel
theorem dX3_passHour_58 : decode cX3_passHour 58 = .ok (.getfield 74, 3) := by decide +kernel
theorem dX3_passHour_61 : decode cX3_passHour 61 = .ok (.if_icmp .ge 47, 3) := by decide +kernel
theorem dX3_passHour_64 : decode cX3_passHour 64 = .ok (.aload_n 0, 1) := by decide +kernel
theorem dX3_passHour_65 : decode cX3_passHour 65 = .ok (.getfield 12, 3) := by decide +kernel
theorem dX3_passHour_68 : decode cX3_passHour 68 = .ok (.getfield 77, 3) := by decide +kernel
theorem dX3_passHour_71 : decode cX3_passHour 71 = .ok (.iload_n 1, 1) := by decide +kernel
theorem dX3_passHour_72 : decode cX3_passHour 72 = .ok (.aaload, 1) := by decide +kernel
theorem dX3_passHour_73 : decode cX3_passHour 73 = .ok (.invokevirtual 136, 3) := by decide +kernel
theorem dX3_passHour_76 : decode cX3_passHour 76 = .ok (.ifCond .eq 26, 3) := by decide +kernel
theorem dX3_passHour_79 : decode cX3_passHour 79 = .ok (.aload_n 0, 1) := by decide +kernel
theorem dX3_passHour_80 : decode cX3_passHour 80 = .ok (.getfield 12, 3) := by decide +kernel
theorem dX3_passHour_83 : decode cX3_passHour 83 = .ok (.getfield 77, 3) := by decide +kernel
theorem dX3_passHour_86 : decode cX3_passHour 86 = .ok (.iload_n 1, 1) := by decide +kernel
theorem dX3_passHour_87 : decode cX3_passHour 87 = .ok (.aaload, 1) := by decide +kernel
theorem dX3_passHour_88 : decode cX3_passHour 88 = .ok (.dup, 1) := by decide +kernel
theorem dX3_passHour_89 : decode cX3_passHour 89 = .ok (.getfield 89, 3) := by decide +kernel
theorem dX3_passHour_92 : decode cX3_passHour 92 = .ok (.iconst 1, 1) := by decide +kernel
theorem dX3_passHour_93 : decode cX3_passHour 93 = .ok (.isub, 1) := by decide +kernel
theorem dX3_passHour_94 : decode cX3_passHour 94 = .ok (.putfield 89, 3) := by decide +kernel
theorem dX3_passHour_97 : decode cX3_passHour 97 = .ok (.aload_n 0, 1) := by decide +kernel
theorem dX3_passHour_98 : decode cX3_passHour 98 = .ok (.iload_n 1, 1) := by decide +kernel
theorem dX3_passHour_99 : decode cX3_passHour 99 = .ok (.invokevirtual 192, 3) := by decide +kernel
theorem dX3_passHour_102 : decode cX3_passHour 102 = .ok (.iinc 1 1, 3) := by decide +kernel
theorem dX3_passHour_105 : decode cX3_passHour 105 = .ok (.goto (-52), 3) := by decide +kernel
theorem dX3_passHour_108 : decode cX3_passHour 108 = .ok (.return_, 1) := by decide +kernel
set_option maxRecDepth 100000 in
set_option maxHeartbeats 4000000 in
theorem c_passHour {l : Launch} {g : Nat → Nat} {M : LH} (htr : l.stackTraces = false) {kd : Nat → Nat} {r a : Nat} {ad : Nat → Nat} {sl le : Int32 → Nat} {fg tp : Int32} {F : Nat → Int32 → Int32} {σ : Int32 → Int32} (hC : StR kd r M a ad sl le fg tp F σ) {q : Nat → Nat} {D : Nat} (hK : Dk kd D r M a q) : K_X3_passHour l g 2 0 0 [.ref (q 0)] M (RV (fun M9 => StE kd r M9 a ad sl (hrS σ) ∧ Frm kd r M M9) nX) := by
  refine Ko_X3_passHour htr (fun X => ?_)
  have hC0 := hC
  have hK0 := hK
  obtain ⟨hSt, hRo, hSR, hLR, hSl, hLe, hkd, -, ⟨-, hRd, hSd, hLt⟩, hG⟩ := hC
  obtain ⟨hDk, hDs, ⟨f1, hB1⟩, ⟨f2, hB2⟩, hBl, ⟨f3, hB3⟩, hRt, ⟨f4, hB4⟩, hkD, hn34, hDr⟩ := hK
  have hG0 := hG
  obtain ⟨hg1, hg2, hg3, hg4, hg5, hg6, hg7, hg8, hgL, hgS, -⟩ := hG
  have hFT := (StR.toR hC0).1
  have t0 := StR.sc (σ' := (ui σ 0 (σ 0 + 1))) (fg' := fg) (tp' := tp) hC0 (fun _ _ => rd_sc (by decide) (by decide)) (fun _ _ => sd_sc (by decide) (by decide)) (fun _ _ => lt_sc (by decide) (by decide)) (ui_n (by decide)) (ui_n (by decide)) (ui_n (by decide)) (by rw [ui_n (by decide)]; exact Int32.le_refl _) (by rw [ui_n (by decide)]; exact hg2) (by rw [ui_n (by decide)]; exact hg7) (by rw [ui_n (by decide)]; exact hg8) (by rw [ui_n (by decide)]; exact hFT)
  simp only [ui_s, ui_n (show ¬ (1 : Int32) = 0 by decide), ui_n (show ¬ (2 : Int32) = 0 by decide), ui_n (show ¬ (3 : Int32) = 0 by decide), ui_n (show ¬ (4 : Int32) = 0 by decide), ui_n (show ¬ (5 : Int32) = 0 by decide), ui_n (show ¬ (6 : Int32) = 0 by decide), ui_n (show ¬ (7 : Int32) = 0 by decide)] at t0
  have hN12 : (σ 7).toNatClampNeg ≤ 12 := tc_le hg6
  have z1 : (ui σ 0 (σ 0 + 1)) 1 = σ 1 := ui_n (by decide)
  have z6 : (ui σ 0 (σ 0 + 1)) 6 = σ 6 := ui_n (by decide)
  have z7 : (ui σ 0 (σ 0 + 1)) 7 = σ 7 := ui_n (by decide)
  clear hgL hgS hRd hSd hLt hLe hSl
  show V l g yX3_passHour cX3_passHour (none) [] 2 0 0 (RV (fun M9 => StE kd r M9 a ad sl (hkN (thN (ui σ 0 (σ 0 + 1)) (σ 7).toNatClampNeg) (σ 6).toNatClampNeg) ∧ Frm kd r M M9) nX) X M 0 0 0 [some (.ref (q 0)), none] []
  generalize (ui σ 0 (σ 0 + 1)) = τ0 at t0 z1 z6 z7 ⊢
  have key2 : ∀ i, 0 ≤ i → i ≤ σ 6 → ∀ (M1 : LH), hkN (thN τ0 (σ 7).toNatClampNeg) i.toNatClampNeg 6 = σ 6 → StE kd r M1 a ad sl (hkN (thN τ0 (σ 7).toNatClampNeg) i.toNatClampNeg) → Frm kd r M M1 → V l g yX3_passHour cX3_passHour (none) [] 2 0 0 (RV (fun M9 => StE kd r M9 a ad sl (hkN (thN τ0 (σ 7).toNatClampNeg) (σ 6).toNatClampNeg) ∧ Frm kd r M M9) nX) X M1 0 0 53 [some (.ref (q 0)), some (.int i)] [] := by
    refine up_ind _ (fun i h0 h1 ih M1 e6 hE hF1 => ?_)
    have hK1 := Dk.kept hK0 hDr hF1
    obtain ⟨le1, fg1, tp1, F1, hC1⟩ := hE
    by_cases hi : i < σ 6
    · have hi3 : i < 3 := by clear ih; lia
      have hst := hkN_1 (σ := thN τ0 (σ 7).toNatClampNeg) h0 (by clear ih; lia : i < 100)
      have hst6 := hkS_lo (k := i) h0 hi3 hC1.toG.2.2.2.2.2.1 (j := 6) (by decide) (by decide) (by decide) (by decide) (by decide)
      rw [← hst] at hst6
      have ih2 := fun M9 h9 h8 => ih hi M9 (hst6.trans e6) h9 h8
      rw [hst] at ih2
      clear ih hst hst6
      generalize hkN (thN τ0 (σ 7).toNatClampNeg) i.toNatClampNeg = τ at e6 hC1 ih2
      have hDk1 := hK1.1
      have hSt1 := hC1.1
      rw [e6] at hSt1
      have hSR1 := hC1.2.2.1
      have hSi1 := hC1.2.2.2.2.1 i h0 hi3
      have nbK : ¬ q 0 = sl i := ne_of_cell hDk1 hSi1 (ob_ob (by decide))
      have hi6 : i < τ 6 := by rw [e6]; exact hi
      obtain ⟨d0, d1, d2⟩ := (StR.toR hC1).2.2.1 i h0 hi6
      unfold hkS at ih2
      refine v_iload_n dX3_passHour_53 rfl rfl ?_
      refine v_aload_n dX3_passHour_54 rfl rfl ?_
      refine gf_X3_12 dX3_passHour_55 rfl hDk1 ?_
      refine gf_X3_74 dX3_passHour_58 rfl hSt1 ?_
      refine v_icmp_ge (tgt := 108) dX3_passHour_61 (by decide) (fun h61 => ?_) (fun h61 => ?_)
      · exact absurd hi (Int32.not_lt.mpr h61)
      · refine v_aload_n dX3_passHour_64 rfl rfl ?_
        refine gf_X3_12 dX3_passHour_65 rfl hDk1 ?_
        refine gf_X3_77 dX3_passHour_68 rfl hSt1 ?_
        refine v_iload_n dX3_passHour_71 rfl rfl ?_
        refine v_aald1 dX3_passHour_72 hSR1 h0 hi3 rfl ?_
        refine k_X3_136 dX3_passHour_73 rfl (c_travels htr hSi1) hSi1 (Nat.le_of_ble_eq_true rfl) (by omega) (by omega) (Nat.le_of_ble_eq_true rfl) (fun r73 M9 h9 => ?_) (fun _ _ h9 => h9.elim)
        obtain ⟨rfl, e9⟩ := h9
        subst M9
        refine v_if_eq (tgt := 102) dX3_passHour_76 (by decide) (fun h76 => ?_) (fun h76 => ?_)
        · refine v_iinc_1 dX3_passHour_102 rfl ?_
          refine v_goto (tgt := 53) dX3_passHour_105 (by decide) ?_
          first
            | exact ih2 M9 h91 (Frm.tr hF1 (Frm.tr f9 h92))
            | (rw [if_neg (by rw [← d2]; exact b_f h76)] at ih2
               exact ih2 M1 ⟨le1, fg1, tp1, F1, hC1⟩ hF1)
        · have hp9 : 0 < sd τ i 2 := by rw [← d2]; exact b_t h76
          rw [if_pos hp9] at ih2
          have t9 : StR kd r (hup M1 (sl i) (ob 7 [.int (F1 8 i), .int (F1 9 i), .int (F1 10 i - 1)])) a ad sl le1 fg1 tp1 (upF F1 8 11 i (fun w => if w = 8 then F1 8 i else if w = 9 then F1 9 i else F1 10 i - 1)) (dhS τ i) := by
            refine StR.mk1 (StC.sle (StR.toC hC1) h0 hi3 (fun w => if w = 8 then F1 8 i else if w = 9 then F1 9 i else F1 10 i - 1)) (Rl.cgS (StR.toR hC1) hC1.toG (fun _ _ => dhS_rd h0 hi3) (fun _ _ => dhS_lt h0 hi3) (dhS_n h0 hi3 (Or.inl (by decide))) (dhS_n h0 hi3 (Or.inl (by decide))) ((StR.toR hC1).1.trans (dhS_n h0 hi3 (Or.inl (by decide))).symm) (fun j w j0 j3 e w0 w3 => dhS_sn h0 hi3 j0 j3 w0 w3 (fun z => e z.1)) ?_ ?_ ?_) (Good_dhS hC1.toG h0 hi6 hp9) (fun j a b => dhS_n h0 hi3 (Or.inl (by lia)))
            · rw [dhS_sn h0 hi3 h0 hi3 (by decide) (by decide) (fun z => absurd z.2 (by decide))]
              exact d0
            · rw [dhS_sn h0 hi3 h0 hi3 (by decide) (by decide) (fun z => absurd z.2 (by decide))]
              exact d1
            · rw [dhS_2, ← d2]
              rfl
          have f9 := Frm.up (kd := kd) (r := r) (M := M1) (e := ob 7 [.int (F1 8 i), .int (F1 9 i), .int (F1 10 i - 1)]) (hkd.2.2.2.2.1 i h0 hi3)
          have hK9 := Dk.kept hK1 hDr f9
          refine v_aload_n dX3_passHour_79 rfl rfl ?_
          refine gf_X3_12 dX3_passHour_80 rfl hDk1 ?_
          refine gf_X3_77 dX3_passHour_83 rfl hSt1 ?_
          refine v_iload_n dX3_passHour_86 rfl rfl ?_
          refine v_aald1 dX3_passHour_87 hSR1 h0 hi3 rfl ?_
          refine v_dup dX3_passHour_88 rfl ?_
          refine gf_X3_89 dX3_passHour_89 rfl hSi1 ?_
          refine v_iconst (v := 1) dX3_passHour_92 (by decide) ?_
          refine v_isub dX3_passHour_93 ?_
          refine pf_X3_89 dX3_passHour_94 rfl hSi1 ?_
          refine v_aload_n dX3_passHour_97 rfl rfl ?_
          refine v_iload_n dX3_passHour_98 rfl rfl ?_
          refine k_X3_192 dX3_passHour_99 rfl (c_deliverIfArrived htr t9 hK9 h0 (by rw [dhS_n h0 hi3 (Or.inl (by decide))]; exact hi6)) hK9.1 (Nat.le_of_ble_eq_true rfl) (by omega) (by omega) (Nat.le_of_ble_eq_true rfl) (fun M9 h9 => ?_) (fun _ _ h9 => h9.elim)
          obtain ⟨h91, h92⟩ := h9
          refine v_iinc_1 dX3_passHour_102 rfl ?_
          refine v_goto (tgt := 53) dX3_passHour_105 (by decide) ?_
          first
            | exact ih2 M9 h91 (Frm.tr hF1 (Frm.tr f9 h92))
            | (rw [if_neg (by rw [← d2]; exact b_f h76)] at ih2
               exact ih2 M1 ⟨le1, fg1, tp1, F1, hC1⟩ hF1)
    · have hie : i = σ 6 := by clear ih; lia
      subst hie
      clear ih
      have hDk1 := hK1.1
      have hSt1 := hC1.1
      rw [e6] at hSt1
      refine v_iload_n dX3_passHour_53 rfl rfl ?_
      refine v_aload_n dX3_passHour_54 rfl rfl ?_
      refine gf_X3_12 dX3_passHour_55 rfl hDk1 ?_
      refine gf_X3_74 dX3_passHour_58 rfl hSt1 ?_
      refine v_icmp_ge (tgt := 108) dX3_passHour_61 (by decide) (fun h61 => ?_) (fun h61 => ?_)
      · exact v_vret dX3_passHour_108 rfl ⟨⟨le1, fg1, tp1, F1, hC1⟩, hF1⟩ (by omega) (by omega)
      · exact absurd (Int32.le_refl _) h61
  have key1 : ∀ i, 0 ≤ i → i ≤ σ 7 → ∀ (M1 : LH) (F1 : Nat → Int32 → Int32), StR kd r M1 a ad sl le fg tp F1 (thN τ0 i.toNatClampNeg) → Frm kd r M M1 → V l g yX3_passHour cX3_passHour (none) [] 2 0 0 (RV (fun M9 => StE kd r M9 a ad sl (hkN (thN τ0 (σ 7).toNatClampNeg) (σ 6).toNatClampNeg) ∧ Frm kd r M M9) nX) X M1 0 0 15 [some (.ref (q 0)), some (.int i)] [] := by
    refine up_ind _ (fun i h0 h1 ih M1 F1 hC1 hF1 => ?_)
    have hK1 := Dk.kept hK0 hDr hF1
    have hDk1 := hK1.1
    have hiN : i.toNatClampNeg ≤ 12 := Nat.le_trans (tc_le h1) hN12
    have hSt1 := StR.cell hC1 (σ := τ0) (fun j a b => thN_lo a (by clear ih; lia) _ hiN)
    rw [z1, z7] at hSt1
    have hLR1 := hC1.2.2.2.1
    refine v_iload_n dX3_passHour_15 rfl rfl ?_
    refine v_aload_n dX3_passHour_16 rfl rfl ?_
    refine gf_X3_12 dX3_passHour_17 rfl hDk1 ?_
    refine gf_X3_92 dX3_passHour_20 rfl hSt1 ?_
    refine v_icmp_ge (tgt := 51) dX3_passHour_23 (by decide) (fun h23 => ?_) (fun h23 => ?_)
    · have hie : i = σ 7 := by clear ih; lia
      subst hie
      clear ih
      refine v_iconst (v := 0) dX3_passHour_51 (by decide) ?_
      refine v_istore_1 dX3_passHour_52 ?_
      exact key2 0 (by lia) hg3 M1 ((thN_lo (by decide) (by decide) _ hN12).trans z6) ⟨le, fg, tp, F1, hC1⟩ hF1
    · have hi : i < σ 7 := by clear ih; lia
      have hi12 : i < 12 := by clear ih; lia
      have hLi1 := hC1.2.2.2.2.2.1 i h0 hi12
      refine v_aload_n dX3_passHour_26 rfl rfl ?_
      refine gf_X3_12 dX3_passHour_27 rfl hDk1 ?_
      refine gf_X3_95 dX3_passHour_30 rfl hSt1 ?_
      refine v_iload_n dX3_passHour_33 rfl rfl ?_
      refine v_aald1 dX3_passHour_34 hLR1 h0 hi12 rfl ?_
      refine v_aload_n dX3_passHour_35 rfl rfl ?_
      refine gf_X3_12 dX3_passHour_36 rfl hDk1 ?_
      refine gf_X3_178 dX3_passHour_39 rfl hSt1 ?_
      refine k_X3_188 dX3_passHour_42 rfl (c_feel htr hLi1 (σ 1)) hLi1 (Nat.le_of_ble_eq_true rfl) (by omega) (by omega) (Nat.le_of_ble_eq_true rfl) (fun M9 h9 => ?_) (fun _ _ h9 => h9.elim)
      subst h9
      refine v_iinc_1 dX3_passHour_45 rfl ?_
      refine v_goto (tgt := 15) dX3_passHour_48 (by decide) ?_
      have hth := thN_1 (σ := τ0) h0 (by clear ih; lia : i < 100)
      have l1 : thN τ0 i.toNatClampNeg 1 = σ 1 := (thN_lo (by decide) (by decide) _ hiN).trans z1
      have l7 : thN τ0 i.toNatClampNeg 7 = σ 7 := (thN_lo (by decide) (by decide) _ hiN).trans z7
      have hi7 : i < thN τ0 i.toNatClampNeg 7 := by rw [l7]; exact hi
      obtain ⟨q0, q1, q2, q3, q4, q5, q6, q7⟩ := (StR.toR hC1).2.2.2 i h0 hi7
      have t9 : StR kd r (hup M1 (le i) (ob 4 [.int (F1 0 i), .int (F1 1 i), .int (F1 2 i), .int (F1 3 i), .int (F1 4 i), .int (iceF (σ 1) (F1 4 i) (F1 5 i)), .int (F1 6 i), .int (F1 7 i)])) a ad sl le fg tp (upF F1 0 8 i (fun w => if w = 5 then iceF (σ 1) (F1 4 i) (F1 5 i) else F1 w i)) (thS (thN τ0 i.toNatClampNeg) i) :=
        StR.mk1 (StC.let (StR.toC hC1) h0 hi12 (fun w => if w = 5 then iceF (σ 1) (F1 4 i) (F1 5 i) else F1 w i)) (Rl_thS (StR.toR hC1) hC1.toG h0 hi7 (fun w _ hw => if_neg hw) (by rw [if_pos rfl, l1, q4, q5])) (Good_thS hC1.toG h0 hi7) (fun j a b => thS_lo h0 hi12 a (by clear ih; lia))
      rw [← hth] at t9
      exact ih hi _ _ t9 (Frm.tr hF1 (Frm.up (hkd.2.2.2.2.2 i h0 hi12)))
  refine v_aload_n dX3_passHour_0 rfl rfl ?_
  refine gf_X3_12 dX3_passHour_1 rfl hDk ?_
  refine v_dup dX3_passHour_4 rfl ?_
  refine gf_X3_187 dX3_passHour_5 rfl hSt ?_
  refine v_iconst (v := 1) dX3_passHour_8 (by decide) ?_
  refine v_iadd dX3_passHour_9 ?_
  refine pf_X3_187 dX3_passHour_10 rfl hSt ?_
  refine v_iconst (v := 0) dX3_passHour_13 (by decide) ?_
  refine v_istore_1 dX3_passHour_14 ?_
  exact key1 0 (by lia) hg5 _ F t0 (Frm.up hkd.1)

theorem dX3_passHours_0 : decode cX3_passHours 0 = .ok (.aload_n 0, 1) := by decide +kernel
theorem dX3_passHours_1 : decode cX3_passHours 1 = .ok (.getfield 12, 3) := by decide +kernel
theorem dX3_passHours_4 : decode cX3_passHours 4 = .ok (.getfield 181, 3) := by decide +kernel
theorem dX3_passHours_7 : decode cX3_passHours 7 = .ok (.istore_n 2, 1) := by decide +kernel
theorem dX3_passHours_8 : decode cX3_passHours 8 = .ok (.iconst 0, 1) := by decide +kernel
theorem dX3_passHours_9 : decode cX3_passHours 9 = .ok (.istore_n 3, 1) := by decide +kernel
theorem dX3_passHours_10 : decode cX3_passHours 10 = .ok (.iload_n 3, 1) := by decide +kernel
theorem dX3_passHours_11 : decode cX3_passHours 11 = .ok (.iload_n 1, 1) := by decide +kernel
theorem dX3_passHours_12 : decode cX3_passHours 12 = .ok (.if_icmp .ge 13, 3) := by decide +kernel
theorem dX3_passHours_15 : decode cX3_passHours 15 = .ok (.aload_n 0, 1) := by decide +kernel
theorem dX3_passHours_16 : decode cX3_passHours 16 = .ok (.invokevirtual 184, 3) := by decide +kernel
theorem dX3_passHours_19 : decode cX3_passHours 19 = .ok (.iinc 3 1, 3) := by decide +kernel
theorem dX3_passHours_22 : decode cX3_passHours 22 = .ok (.goto (-12), 3) := by decide +kernel
theorem dX3_passHours_25 : decode cX3_passHours 25 = .ok (.aload_n 0, 1) := by decide +kernel
theorem dX3_passHours_26 : decode cX3_passHours 26 = .ok (.getfield 12, 3) := by decide +kernel
theorem dX3_passHours_29 : decode cX3_passHours 29 = .ok (.getfield 181, 3) := by decide +kernel
theorem dX3_passHours_32 : decode cX3_passHours 32 = .ok (.iload_n 2, 1) := by decide +kernel
theorem dX3_passHours_33 : decode cX3_passHours 33 = .ok (.isub, 1) := by decide +kernel
theorem dX3_passHours_34 : decode cX3_passHours 34 = .ok (.ireturn, 1) := by decide +kernel
set_option maxRecDepth 100000 in
set_option maxHeartbeats 4000000 in
theorem c_passHours {l : Launch} {g : Nat → Nat} {M : LH} (htr : l.stackTraces = false) {kd : Nat → Nat} {r a : Nat} {ad : Nat → Nat} {sl le : Int32 → Nat} {fg tp : Int32} {F : Nat → Int32 → Int32} {σ : Int32 → Int32} (hC : StR kd r M a ad sl le fg tp F σ) {q : Nat → Nat} {D : Nat} (hK : Dk kd D r M a q) {n : Int32} (n1 : 1 ≤ n) (n48 : n ≤ 48) : K_X3_passHours l g 3 0 0 [.ref (q 0), .int n] M (RI (fun v M9 => v = psN σ n.toNatClampNeg 3 - σ 3 ∧ StE kd r M9 a ad sl (psN σ n.toNatClampNeg) ∧ Frm kd r M M9) nX) := by
  refine Ko_X3_passHours htr (fun X => ?_)
  have hC0 := hC
  have hK0 := hK
  obtain ⟨hSt, hRo, hSR, hLR, hSl, hLe, hkd, -, ⟨-, hRd, hSd, hLt⟩, hG⟩ := hC
  obtain ⟨hDk, hDs, ⟨f1, hB1⟩, ⟨f2, hB2⟩, hBl, ⟨f3, hB3⟩, hRt, ⟨f4, hB4⟩, hkD, hn34, hDr⟩ := hK
  have hG0 := hG
  obtain ⟨hg1, hg2, hg3, hg4, hg5, hg6, hg7, hg8, hgL, hgS, -⟩ := hG
  clear hgL hgS hRd hSd hLt hLe hSl
  have key : ∀ i, 0 ≤ i → i ≤ n → ∀ (M1 : LH), StE kd r M1 a ad sl (psN σ i.toNatClampNeg) → Frm kd r M M1 → V l g yX3_passHours cX3_passHours ((some .int)) [] 3 0 0 (RI (fun v M9 => v = psN σ n.toNatClampNeg 3 - σ 3 ∧ StE kd r M9 a ad sl (psN σ n.toNatClampNeg) ∧ Frm kd r M M9) nX) X M1 0 0 10 [some (.ref (q 0)), some (.int n), some (.int (σ 3)), some (.int i)] [] := by
    refine up_ind _ (fun i h0 h1 ih M1 hE hF1 => ?_)
    have hK1 := Dk.kept hK0 hDr hF1
    have hDk1 := hK1.1
    obtain ⟨le1, fg1, tp1, F1, hC1⟩ := hE
    have hSt1 := hC1.1
    refine v_iload_n dX3_passHours_10 rfl rfl ?_
    refine v_iload_n dX3_passHours_11 rfl rfl ?_
    refine v_icmp_ge (tgt := 25) dX3_passHours_12 (by decide) (fun h12 => ?_) (fun h12 => ?_)
    · have hie : i = n := by clear ih; lia
      subst hie
      refine v_aload_n dX3_passHours_25 rfl rfl ?_
      refine gf_X3_12 dX3_passHours_26 rfl hDk1 ?_
      refine gf_X3_181 dX3_passHours_29 rfl hSt1 ?_
      refine v_iload_n dX3_passHours_32 rfl rfl ?_
      refine v_isub dX3_passHours_33 ?_
      exact v_iret dX3_passHours_34 rfl ⟨rfl, ⟨le1, fg1, tp1, F1, hC1⟩, hF1⟩ (by omega) (by omega)
    · have hi : i < n := by clear ih; lia
      have hps := psN_1 (σ := σ) h0 (by clear ih; lia : i < 100)
      refine v_aload_n dX3_passHours_15 rfl rfl ?_
      refine k_X3_184 dX3_passHours_16 rfl (c_passHour htr hC1 hK1) hDk1 (Nat.le_of_ble_eq_true rfl) (by omega) (by omega) (Nat.le_of_ble_eq_true rfl) (fun M9 h9 => ?_) (fun _ _ h9 => h9.elim)
      obtain ⟨h91, h92⟩ := h9
      rw [← hps] at h91
      refine v_iinc_3 dX3_passHours_19 rfl ?_
      refine v_goto (tgt := 10) dX3_passHours_22 (by decide) ?_
      exact ih hi M9 h91 (Frm.tr hF1 h92)
  refine v_aload_n dX3_passHours_0 rfl rfl ?_
  refine gf_X3_12 dX3_passHours_1 rfl hDk ?_
  refine gf_X3_181 dX3_passHours_4 rfl hSt ?_
  refine v_istore_2 dX3_passHours_7 ?_
  refine v_iconst (v := 0) dX3_passHours_8 (by decide) ?_
  refine v_istore_3 dX3_passHours_9 ?_
  exact key 0 (by lia) (by lia) M ⟨le, fg, tp, F, hC0⟩ Frm.rf

