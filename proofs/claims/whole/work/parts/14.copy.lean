def cu (c : Nat → Int32) (k : Nat) (v : Int32) : Nat → Int32 := fun j => if j = k then v else c j
theorem kd_ne {kd : Nat → Nat} {r r2 x z : Nat} (h : kd x = r) (h2 : kd z = r2) (hr : ¬ r2 = r) : ¬ z = x := fun q => hr (by rw [← h2, ← h, q])
theorem dX9_copyFrom_0 : decode cX9_copyFrom 0 = .ok (.aload_n 0, 1) := by decide +kernel
theorem dX9_copyFrom_1 : decode cX9_copyFrom 1 = .ok (.aload_n 1, 1) := by decide +kernel
theorem dX9_copyFrom_2 : decode cX9_copyFrom 2 = .ok (.getfield 29, 3) := by decide +kernel
theorem dX9_copyFrom_5 : decode cX9_copyFrom 5 = .ok (.putfield 29, 3) := by decide +kernel
theorem dX9_copyFrom_8 : decode cX9_copyFrom 8 = .ok (.aload_n 1, 1) := by decide +kernel
theorem dX9_copyFrom_9 : decode cX9_copyFrom 9 = .ok (.getfield 9, 3) := by decide +kernel
theorem dX9_copyFrom_12 : decode cX9_copyFrom 12 = .ok (.iconst 0, 1) := by decide +kernel
theorem dX9_copyFrom_13 : decode cX9_copyFrom 13 = .ok (.aload_n 0, 1) := by decide +kernel
theorem dX9_copyFrom_14 : decode cX9_copyFrom 14 = .ok (.getfield 9, 3) := by decide +kernel
theorem dX9_copyFrom_17 : decode cX9_copyFrom 17 = .ok (.iconst 0, 1) := by decide +kernel
theorem dX9_copyFrom_18 : decode cX9_copyFrom 18 = .ok (.aload_n 0, 1) := by decide +kernel
theorem dX9_copyFrom_19 : decode cX9_copyFrom 19 = .ok (.getfield 9, 3) := by decide +kernel
theorem dX9_copyFrom_22 : decode cX9_copyFrom 22 = .ok (.arraylength, 1) := by decide +kernel
theorem dX9_copyFrom_23 : decode cX9_copyFrom 23 = .ok (.invokestatic 33, 3) := by decide +kernel
theorem dX9_copyFrom_26 : decode cX9_copyFrom 26 = .ok (.aload_n 0, 1) := by decide +kernel
theorem dX9_copyFrom_27 : decode cX9_copyFrom 27 = .ok (.aload_n 1, 1) := by decide +kernel
theorem dX9_copyFrom_28 : decode cX9_copyFrom 28 = .ok (.getfield 39, 3) := by decide +kernel
theorem dX9_copyFrom_31 : decode cX9_copyFrom 31 = .ok (.putfield 39, 3) := by decide +kernel
theorem dX9_copyFrom_34 : decode cX9_copyFrom 34 = .ok (.iconst 0, 1) := by decide +kernel
theorem dX9_copyFrom_35 : decode cX9_copyFrom 35 = .ok (.istore_n 2, 1) := by decide +kernel
theorem dX9_copyFrom_36 : decode cX9_copyFrom 36 = .ok (.iload_n 2, 1) := by decide +kernel
theorem dX9_copyFrom_37 : decode cX9_copyFrom 37 = .ok (.aload_n 0, 1) := by decide +kernel
theorem dX9_copyFrom_38 : decode cX9_copyFrom 38 = .ok (.getfield 39, 3) := by decide +kernel
theorem dX9_copyFrom_41 : decode cX9_copyFrom 41 = .ok (.if_icmp .ge 24, 3) := by decide +kernel
theorem dX9_copyFrom_44 : decode cX9_copyFrom 44 = .ok (.aload_n 0, 1) := by decide +kernel
theorem dX9_copyFrom_45 : decode cX9_copyFrom 45 = .ok (.getfield 17, 3) := by decide +kernel
theorem dX9_copyFrom_48 : decode cX9_copyFrom 48 = .ok (.iload_n 2, 1) := by decide +kernel
theorem dX9_copyFrom_49 : decode cX9_copyFrom 49 = .ok (.aaload, 1) := by decide +kernel
theorem dX9_copyFrom_50 : decode cX9_copyFrom 50 = .ok (.aload_n 1, 1) := by decide +kernel
theorem dX9_copyFrom_51 : decode cX9_copyFrom 51 = .ok (.getfield 17, 3) := by decide +kernel
theorem dX9_copyFrom_54 : decode cX9_copyFrom 54 = .ok (.iload_n 2, 1) := by decide +kernel
theorem dX9_copyFrom_55 : decode cX9_copyFrom 55 = .ok (.aaload, 1) := by decide +kernel
theorem dX9_copyFrom_56 : decode cX9_copyFrom 56 = .ok (.invokevirtual 42, 3) := by decide +kernel
theorem dX9_copyFrom_59 : decode cX9_copyFrom 59 = .ok (.iinc 2 1, 3) := by decide +kernel
theorem dX9_copyFrom_62 : decode cX9_copyFrom 62 = .ok (.goto (-26), 3) := by decide +kernel
theorem dX9_copyFrom_65 : decode cX9_copyFrom 65 = .ok (.aload_n 0, 1) := by decide +kernel
theorem dX9_copyFrom_66 : decode cX9_copyFrom 66 = .ok (.aload_n 1, 1) := by decide +kernel
theorem dX9_copyFrom_67 : decode cX9_copyFrom 67 = .ok (.getfield 46, 3) := by decide +kernel
theorem dX9_copyFrom_70 : decode cX9_copyFrom 70 = .ok (.putfield 46, 3) := by decide +kernel
theorem dX9_copyFrom_73 : decode cX9_copyFrom 73 = .ok (.iconst 0, 1) := by decide +kernel
theorem dX9_copyFrom_74 : decode cX9_copyFrom 74 = .ok (.istore_n 2, 1) := by decide +kernel
theorem dX9_copyFrom_75 : decode cX9_copyFrom 75 = .ok (.iload_n 2, 1) := by decide +kernel
theorem dX9_copyFrom_76 : decode cX9_copyFrom 76 = .ok (.aload_n 0, 1) := by decide +kernel
theorem dX9_copyFrom_77 : decode cX9_copyFrom 77 = .ok (.getfield 46, 3) := by decide +kernel
theorem dX9_copyFrom_80 : decode cX9_copyFrom 80 = .ok (.if_icmp .ge 24, 3) := by decide +kernel
theorem dX9_copyFrom_83 : decode cX9_copyFrom 83 = .ok (.aload_n 0, 1) := by decide +kernel
theorem dX9_copyFrom_84 : decode cX9_copyFrom 84 = .ok (.getfield 23, 3) := by decide +kernel
theorem dX9_copyFrom_87 : decode cX9_copyFrom 87 = .ok (.iload_n 2, 1) := by decide +kernel
theorem dX9_copyFrom_88 : decode cX9_copyFrom 88 = .ok (.aaload, 1) := by decide +kernel
theorem dX9_copyFrom_89 : decode cX9_copyFrom 89 = .ok (.aload_n 1, 1) := by decide +kernel
theorem dX9_copyFrom_90 : decode cX9_copyFrom 90 = .ok (.getfield 23, 3) := by decide +kernel
theorem dX9_copyFrom_93 : decode cX9_copyFrom 93 = .ok (.iload_n 2, 1) := by decide +kernel
theorem dX9_copyFrom_94 : decode cX9_copyFrom 94 = .ok (.aaload, 1) := by decide +kernel
theorem dX9_copyFrom_95 : decode cX9_copyFrom 95 = .ok (.invokevirtual 49, 3) := by decide +kernel
theorem dX9_copyFrom_98 : decode cX9_copyFrom 98 = .ok (.iinc 2 1, 3) := by decide +kernel
theorem dX9_copyFrom_101 : decode cX9_copyFrom 101 = .ok (.goto (-26), 3) := by decide +kernel
theorem dX9_copyFrom_104 : decode cX9_copyFrom 104 = .ok (.aload_n 0, 1) := by decide +kernel
theorem dX9_copyFrom_105 : decode cX9_copyFrom 105 = .ok (.aload_n 1, 1) := by decide +kernel
theorem dX9_copyFrom_106 : decode cX9_copyFrom 106 = .ok (.getfield 52, 3) := by decide +kernel
theorem dX9_copyFrom_109 : decode cX9_copyFrom 109 = .ok (.putfield 52, 3) := by decide +kernel
theorem dX9_copyFrom_112 : decode cX9_copyFrom 112 = .ok (.aload_n 0, 1) := by decide +kernel
theorem dX9_copyFrom_113 : decode cX9_copyFrom 113 = .ok (.aload_n 1, 1) := by decide +kernel
theorem dX9_copyFrom_114 : decode cX9_copyFrom 114 = .ok (.getfield 55, 3) := by decide +kernel
theorem dX9_copyFrom_117 : decode cX9_copyFrom 117 = .ok (.putfield 55, 3) := by decide +kernel
theorem dX9_copyFrom_120 : decode cX9_copyFrom 120 = .ok (.aload_n 0, 1) := by decide +kernel
theorem dX9_copyFrom_121 : decode cX9_copyFrom 121 = .ok (.aload_n 1, 1) := by decide +kernel
theorem dX9_copyFrom_122 : decode cX9_copyFrom 122 = .ok (.getfield 58, 3) := by decide +kernel
theorem dX9_copyFrom_125 : decode cX9_copyFrom 125 = .ok (.putfield 58, 3) := by decide +kernel
theorem dX9_copyFrom_128 : decode cX9_copyFrom 128 = .ok (.aload_n 0, 1) := by decide +kernel
theorem dX9_copyFrom_129 : decode cX9_copyFrom 129 = .ok (.aload_n 1, 1) := by decide +kernel
theorem dX9_copyFrom_130 : decode cX9_copyFrom 130 = .ok (.getfield 61, 3) := by decide +kernel
theorem dX9_copyFrom_133 : decode cX9_copyFrom 133 = .ok (.putfield 61, 3) := by decide +kernel
theorem dX9_copyFrom_136 : decode cX9_copyFrom 136 = .ok (.aload_n 0, 1) := by decide +kernel
theorem dX9_copyFrom_137 : decode cX9_copyFrom 137 = .ok (.aload_n 1, 1) := by decide +kernel
theorem dX9_copyFrom_138 : decode cX9_copyFrom 138 = .ok (.getfield 64, 3) := by decide +kernel
theorem dX9_copyFrom_141 : decode cX9_copyFrom 141 = .ok (.putfield 64, 3) := by decide +kernel
theorem dX9_copyFrom_144 : decode cX9_copyFrom 144 = .ok (.aload_n 0, 1) := by decide +kernel
theorem dX9_copyFrom_145 : decode cX9_copyFrom 145 = .ok (.aload_n 1, 1) := by decide +kernel
theorem dX9_copyFrom_146 : decode cX9_copyFrom 146 = .ok (.getfield 67, 3) := by decide +kernel
theorem dX9_copyFrom_149 : decode cX9_copyFrom 149 = .ok (.putfield 67, 3) := by decide +kernel
theorem dX9_copyFrom_152 : decode cX9_copyFrom 152 = .ok (.aload_n 0, 1) := by decide +kernel
theorem dX9_copyFrom_153 : decode cX9_copyFrom 153 = .ok (.aload_n 1, 1) := by decide +kernel
theorem dX9_copyFrom_154 : decode cX9_copyFrom 154 = .ok (.getfield 70, 3) := by decide +kernel
theorem dX9_copyFrom_157 : decode cX9_copyFrom 157 = .ok (.putfield 70, 3) := by decide +kernel
theorem dX9_copyFrom_160 : decode cX9_copyFrom 160 = .ok (.return_, 1) := by decide +kernel
set_option maxRecDepth 100000 in
set_option maxHeartbeats 4000000 in
theorem c_copySt {l : Launch} {g : Nat → Nat} {M : LH} (htr : l.stackTraces = false) {kd : Nat → Nat} {r r2 a b : Nat} {ad ad2 : Nat → Nat} {sl le sl2 le2 : Int32 → Nat} {fg tp : Int32} {c0 : Nat → Int32} {F0 F : Nat → Int32 → Int32} {σ : Int32 → Int32} (hC0 : StC kd r M a ad sl le c0 F0) (hB0 : StR kd r2 M b ad2 sl2 le2 fg tp F σ) (hr : ¬ r2 = r) : K_X9_copyFrom l g 1 0 0 [.ref a, .ref b] M (RV (fun M9 => (∃ F9, StR kd r M9 a ad sl le fg tp F9 σ) ∧ Frm kd r M M9) nX) := by
  refine Ko_X9_copyFrom htr (fun X => ?_)
  have hB0C := StR.toC hB0
  have hG := StR.toG hB0
  obtain ⟨hg1, hg2, hg3, hg4, hg5, hg6, -⟩ := hG
  have hka : kd a = r := hC0.2.2.2.2.2.2.1.1
  have hkb : kd b = r2 := hB0C.2.2.2.2.2.2.1.1
  have hba : ¬ b = a := kd_ne hka hkb hr
  have key2 : ∀ i, 0 ≤ i → i ≤ σ 7 → ∀ (M1 : LH) (c1 : Nat → Int32) (F1 : Nat → Int32 → Int32), StC kd r M1 a ad sl le c1 F1 → Frm kd r M M1 → c1 0 = σ 5 → c1 2 = σ 6 → c1 4 = σ 7 → F1 11 = F 11 → (∀ j, 0 ≤ j → j < σ 6 → F1 8 j = F 8 j ∧ F1 9 j = F 9 j ∧ F1 10 j = F 10 j) → (∀ j, 0 ≤ j → j < i → ∀ w, w < 8 → F1 w j = F w j) → V l g yX9_copyFrom cX9_copyFrom (none) [] 1 0 0 (RV (fun M9 => (∃ F9, StR kd r M9 a ad sl le fg tp F9 σ) ∧ Frm kd r M M9) nX) X M1 0 0 75 [some (.ref a), some (.ref b), some (.int i)] [] := by
    refine up_ind _ (fun i h0 h1 ih M1 c1 F1 hC1 hF1 e0 e2 e4 eR eS eL => ?_)
    have hB1 := StR.kept hB0 hr hF1
    obtain ⟨o1, o2, o3, o4, o5, o6, o7, o8⟩ := StR.toC hB1
    have hC1x := hC1
    obtain ⟨t1, t2, t3, t4, t5, t6, t7, t8⟩ := hC1x
    refine v_iload_n dX9_copyFrom_75 rfl rfl ?_
    refine v_aload_n dX9_copyFrom_76 rfl rfl ?_
    refine gf_X9_46 dX9_copyFrom_77 rfl t1 ?_
    refine v_icmp_ge (tgt := 104) dX9_copyFrom_80 (by decide) (fun h80 => ?_) (fun h80 => ?_)
    · rw [e4] at h80
      have hi : i = σ 7 := by lia
      subst hi
      refine v_aload_n dX9_copyFrom_104 rfl rfl ?_
      refine v_aload_n dX9_copyFrom_105 rfl rfl ?_
      refine gf_X9_52 dX9_copyFrom_106 rfl o1 ?_
      refine pf_X9_52 dX9_copyFrom_109 rfl t1 ?_
      refine v_aload_n dX9_copyFrom_112 rfl rfl ?_
      refine v_aload_n dX9_copyFrom_113 rfl rfl ?_
      refine gf_X9_55 dX9_copyFrom_114 rfl ((hup_n hba).trans o1) ?_
      refine pf_X9_55 dX9_copyFrom_117 rfl hup_s ?_
      rw [hup_hup]
      refine v_aload_n dX9_copyFrom_120 rfl rfl ?_
      refine v_aload_n dX9_copyFrom_121 rfl rfl ?_
      refine gf_X9_58 dX9_copyFrom_122 rfl ((hup_n hba).trans o1) ?_
      refine pf_X9_58 dX9_copyFrom_125 rfl hup_s ?_
      rw [hup_hup]
      refine v_aload_n dX9_copyFrom_128 rfl rfl ?_
      refine v_aload_n dX9_copyFrom_129 rfl rfl ?_
      refine gf_X9_61 dX9_copyFrom_130 rfl ((hup_n hba).trans o1) ?_
      refine pf_X9_61 dX9_copyFrom_133 rfl hup_s ?_
      rw [hup_hup]
      refine v_aload_n dX9_copyFrom_136 rfl rfl ?_
      refine v_aload_n dX9_copyFrom_137 rfl rfl ?_
      refine gf_X9_64 dX9_copyFrom_138 rfl ((hup_n hba).trans o1) ?_
      refine pf_X9_64 dX9_copyFrom_141 rfl hup_s ?_
      rw [hup_hup]
      refine v_aload_n dX9_copyFrom_144 rfl rfl ?_
      refine v_aload_n dX9_copyFrom_145 rfl rfl ?_
      refine gf_X9_67 dX9_copyFrom_146 rfl ((hup_n hba).trans o1) ?_
      refine pf_X9_67 dX9_copyFrom_149 rfl hup_s ?_
      rw [hup_hup]
      refine v_aload_n dX9_copyFrom_152 rfl rfl ?_
      refine v_aload_n dX9_copyFrom_153 rfl rfl ?_
      refine gf_X9_70 dX9_copyFrom_154 rfl ((hup_n hba).trans o1) ?_
      refine pf_X9_70 dX9_copyFrom_157 rfl hup_s ?_
      rw [hup_hup, e0, e2, e4]
      have hfin := StC.obj hC1 (cS fg tp σ)
      exact v_vret dX9_copyFrom_160 rfl ⟨⟨F1, StR.of hfin ⟨(StR.toR hB0).1, fun x z a b c d => by rw [eR]; exact (StR.toR hB0).2.1 x z a b c d, fun i a b => by obtain ⟨p1, p2, p3⟩ := eS i a b; rw [p1, p2, p3]; exact (StR.toR hB0).2.2.1 i a b, fun i a b => by rw [eL i a b 0 (by decide), eL i a b 1 (by decide), eL i a b 2 (by decide), eL i a b 3 (by decide), eL i a b 4 (by decide), eL i a b 5 (by decide), eL i a b 6 (by decide), eL i a b 7 (by decide)]; exact (StR.toR hB0).2.2.2 i a b⟩ (StR.toG hB0)⟩, Frm.tr hF1 (Frm.up hka)⟩ (by omega) (by omega)
    · rw [e4] at h80
      have hi : i < σ 7 := by lia
      have hi12 : i < 12 := by lia
      refine v_aload_n dX9_copyFrom_83 rfl rfl ?_
      refine gf_X9_23 dX9_copyFrom_84 rfl t1 ?_
      refine v_iload_n dX9_copyFrom_87 rfl rfl ?_
      refine v_aald1 dX9_copyFrom_88 t4 h0 hi12 rfl ?_
      refine v_aload_n dX9_copyFrom_89 rfl rfl ?_
      refine gf_X9_23 dX9_copyFrom_90 rfl o1 ?_
      refine v_iload_n dX9_copyFrom_93 rfl rfl ?_
      refine v_aald1 dX9_copyFrom_94 o4 h0 hi12 rfl ?_
      refine k_X9_49 dX9_copyFrom_95 rfl (c_copyL htr (t6 i h0 hi12) (o6 i h0 hi12) (kd_ne (t7.2.2.2.2.2 i h0 hi12) (o7.2.2.2.2.2 i h0 hi12) hr)) (t6 i h0 hi12) (Nat.le_of_ble_eq_true rfl) (by omega) (by omega) (Nat.le_of_ble_eq_true rfl) (fun M9 h9 => ?_) (fun _ _ h9 => h9.elim)
      subst h9
      refine v_iinc_2 dX9_copyFrom_98 rfl ?_
      refine v_goto (tgt := 75) dX9_copyFrom_101 (by decide) ?_
      refine ih hi _ c1 _ (StC.let hC1 h0 hi12 (fun w => F w i)) (Frm.tr hF1 (Frm.up (hC1.2.2.2.2.2.2.1.2.2.2.2.2 i h0 hi12))) e0 e2 e4 eR (fun j a b => eS j a b) (fun j a b w hw => ?_)
      by_cases hj : j = i
      · subst hj
        simp [upF, hw]
      · simp only [upF, hj, and_false, if_false]
        exact eL j a (by lia) w hw
  have key1 : ∀ i, 0 ≤ i → i ≤ σ 6 → ∀ (M1 : LH) (c1 : Nat → Int32) (F1 : Nat → Int32 → Int32), StC kd r M1 a ad sl le c1 F1 → Frm kd r M M1 → c1 0 = σ 5 → c1 2 = σ 6 → F1 11 = F 11 → (∀ j, 0 ≤ j → j < i → F1 8 j = F 8 j ∧ F1 9 j = F 9 j ∧ F1 10 j = F 10 j) → V l g yX9_copyFrom cX9_copyFrom (none) [] 1 0 0 (RV (fun M9 => (∃ F9, StR kd r M9 a ad sl le fg tp F9 σ) ∧ Frm kd r M M9) nX) X M1 0 0 36 [some (.ref a), some (.ref b), some (.int i)] [] := by
    refine up_ind _ (fun i h0 h1 ih M1 c1 F1 hC1 hF1 e0 e2 eR eS => ?_)
    have hB1 := StR.kept hB0 hr hF1
    obtain ⟨o1, o2, o3, o4, o5, o6, o7, o8⟩ := StR.toC hB1
    have hC1x := hC1
    obtain ⟨t1, t2, t3, t4, t5, t6, t7, t8⟩ := hC1x
    refine v_iload_n dX9_copyFrom_36 rfl rfl ?_
    refine v_aload_n dX9_copyFrom_37 rfl rfl ?_
    refine gf_X9_39 dX9_copyFrom_38 rfl t1 ?_
    refine v_icmp_ge (tgt := 65) dX9_copyFrom_41 (by decide) (fun h41 => ?_) (fun h41 => ?_)
    · rw [e2] at h41
      have hi : i = σ 6 := by lia
      subst hi
      refine v_aload_n dX9_copyFrom_65 rfl rfl ?_
      refine v_aload_n dX9_copyFrom_66 rfl rfl ?_
      refine gf_X9_46 dX9_copyFrom_67 rfl o1 ?_
      refine pf_X9_46 dX9_copyFrom_70 rfl t1 ?_
      refine v_iconst (v := 0) dX9_copyFrom_73 (by decide) ?_
      refine v_istore_2 dX9_copyFrom_74 ?_
      exact key2 0 (by lia) (by lia) _ (cu c1 4 (σ 7)) F1 (StC.obj hC1 (cu c1 4 (σ 7))) (Frm.tr hF1 (Frm.up hka)) e0 e2 rfl eR eS (fun j a b => absurd b (by lia))
    · rw [e2] at h41
      have hi : i < σ 6 := by lia
      have hi12 : i < 3 := by lia
      refine v_aload_n dX9_copyFrom_44 rfl rfl ?_
      refine gf_X9_17 dX9_copyFrom_45 rfl t1 ?_
      refine v_iload_n dX9_copyFrom_48 rfl rfl ?_
      refine v_aald1 dX9_copyFrom_49 t3 h0 hi12 rfl ?_
      refine v_aload_n dX9_copyFrom_50 rfl rfl ?_
      refine gf_X9_17 dX9_copyFrom_51 rfl o1 ?_
      refine v_iload_n dX9_copyFrom_54 rfl rfl ?_
      refine v_aald1 dX9_copyFrom_55 o3 h0 hi12 rfl ?_
      refine k_X9_42 dX9_copyFrom_56 rfl (c_copyS htr (t5 i h0 hi12) (o5 i h0 hi12) (kd_ne (t7.2.2.2.2.1 i h0 hi12) (o7.2.2.2.2.1 i h0 hi12) hr)) (t5 i h0 hi12) (Nat.le_of_ble_eq_true rfl) (by omega) (by omega) (Nat.le_of_ble_eq_true rfl) (fun M9 h9 => ?_) (fun _ _ h9 => h9.elim)
      subst h9
      refine v_iinc_2 dX9_copyFrom_59 rfl ?_
      refine v_goto (tgt := 36) dX9_copyFrom_62 (by decide) ?_
      refine ih hi _ c1 _ (StC.sle hC1 h0 hi12 (fun w => F w i)) (Frm.tr hF1 (Frm.up (hC1.2.2.2.2.2.2.1.2.2.2.2.1 i h0 hi12))) e0 e2 eR (fun j a b => ?_)
      by_cases hj : j = i
      · subst hj
        simp [upF]
      · simp only [upF, hj, and_false, if_false]
        exact eS j a (by lia)
  obtain ⟨o1, o2, o3, o4, o5, o6, o7, o8⟩ := hB0C
  have hC0x := hC0
  obtain ⟨t1, t2, t3, t4, t5, t6, t7, t8⟩ := hC0x
  refine v_aload_n dX9_copyFrom_0 rfl rfl ?_
  refine v_aload_n dX9_copyFrom_1 rfl rfl ?_
  refine gf_X9_29 dX9_copyFrom_2 rfl o1 ?_
  refine pf_X9_29 dX9_copyFrom_5 rfl t1 ?_
  refine (fun (H : ∀ M1 : LH, StC kd r M1 a ad sl le (cu c0 0 (σ 5)) F0 → Frm kd r M M1 → V l g yX9_copyFrom cX9_copyFrom (none) [] 1 0 0 (RV (fun M9 => (∃ F9, StR kd r M9 a ad sl le fg tp F9 σ) ∧ Frm kd r M M9) nX) X M1 0 0 8 [some (.ref a), some (.ref b), none] []) => H _ (StC.obj hC0 _) (Frm.up hka)) ?_
  intro M1 hC1 hF1
  obtain ⟨o1, o2, o3, o4, o5, o6, o7, o8⟩ := StR.toC (StR.kept hB0 hr hF1)
  have hC1x := hC1
  obtain ⟨t1, t2, t3, t4, t5, t6, t7, t8⟩ := hC1x
  refine v_aload_n dX9_copyFrom_8 rfl rfl ?_
  refine gf_X9_9 dX9_copyFrom_9 rfl o1 ?_
  refine v_iconst (v := 0) dX9_copyFrom_12 (by decide) ?_
  refine v_aload_n dX9_copyFrom_13 rfl rfl ?_
  refine gf_X9_9 dX9_copyFrom_14 rfl t1 ?_
  refine v_iconst (v := 0) dX9_copyFrom_17 (by decide) ?_
  refine v_aload_n dX9_copyFrom_18 rfl rfl ?_
  refine gf_X9_9 dX9_copyFrom_19 rfl t1 ?_
  refine v_ialen dX9_copyFrom_22 t2 ?_
  refine ac_X9_33 dX9_copyFrom_23 rfl o2 t2 (Nat.le_of_ble_eq_true rfl) ?_
  refine (fun (H : ∀ M2 : LH, StC kd r M2 a ad sl le (cu c0 0 (σ 5)) (upR F0 (F 11)) → Frm kd r M M2 → V l g yX9_copyFrom cX9_copyFrom (none) [] 1 0 0 (RV (fun M9 => (∃ F9, StR kd r M9 a ad sl le fg tp F9 σ) ∧ Frm kd r M M9) nX) X M2 0 0 26 [some (.ref a), some (.ref b), none] []) => H _ (StC.roa hC1 _) (Frm.tr hF1 (Frm.up hC1.2.2.2.2.2.2.1.2.1))) ?_
  intro M2 hC2 hF2
  obtain ⟨o1, o2, o3, o4, o5, o6, o7, o8⟩ := StR.toC (StR.kept hB0 hr hF2)
  have hC2x := hC2
  obtain ⟨t1, t2, t3, t4, t5, t6, t7, t8⟩ := hC2x
  refine v_aload_n dX9_copyFrom_26 rfl rfl ?_
  refine v_aload_n dX9_copyFrom_27 rfl rfl ?_
  refine gf_X9_39 dX9_copyFrom_28 rfl o1 ?_
  refine pf_X9_39 dX9_copyFrom_31 rfl t1 ?_
  refine v_iconst (v := 0) dX9_copyFrom_34 (by decide) ?_
  refine v_istore_2 dX9_copyFrom_35 ?_
  exact key1 0 (by lia) (by lia) _ (cu (cu c0 0 (σ 5)) 2 (σ 6)) (upR F0 (F 11)) (StC.obj hC2 (cu (cu c0 0 (σ 5)) 2 (σ 6))) (Frm.tr hF2 (Frm.up hka)) rfl rfl rfl (fun j a b => absurd b (by lia))
