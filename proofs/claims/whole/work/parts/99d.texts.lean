/-! ===== the face: the texts ===== -/
theorem ssc_b : ∀ c, c ≤ 3 → ssc c ≤ 246 := by decide
theorem dX11_renderLetter_0 : decode cX11_renderLetter 0 = .ok (.aload_n 0, 1) := by decide +kernel
theorem dX11_renderLetter_1 : decode cX11_renderLetter 1 = .ok (.iload_n 1, 1) := by decide +kernel
theorem dX11_renderLetter_2 : decode cX11_renderLetter 2 = .ok (.invokevirtual 240, 3) := by decide +kernel
theorem dX11_renderLetter_5 : decode cX11_renderLetter 5 = .ok (.astore_n 2, 1) := by decide +kernel
theorem dX11_renderLetter_6 : decode cX11_renderLetter 6 = .ok (.aload_n 0, 1) := by decide +kernel
theorem dX11_renderLetter_7 : decode cX11_renderLetter 7 = .ok (.getfield 51, 3) := by decide +kernel
theorem dX11_renderLetter_10 : decode cX11_renderLetter 10 = .ok (.iconst 0, 1) := by decide +kernel
theorem dX11_renderLetter_11 : decode cX11_renderLetter 11 = .ok (.invokevirtual 332, 3) := by decide +kernel
theorem dX11_renderLetter_14 : decode cX11_renderLetter 14 = .ok (.aload_n 0, 1) := by decide +kernel
theorem dX11_renderLetter_15 : decode cX11_renderLetter 15 = .ok (.getfield 51, 3) := by decide +kernel
theorem dX11_renderLetter_18 : decode cX11_renderLetter 18 = .ok (.aload_n 2, 1) := by decide +kernel
theorem dX11_renderLetter_19 : decode cX11_renderLetter 19 = .ok (.getfield 235, 3) := by decide +kernel
theorem dX11_renderLetter_22 : decode cX11_renderLetter 22 = .ok (.invokevirtual 335, 3) := by decide +kernel
theorem dX11_renderLetter_25 : decode cX11_renderLetter 25 = .ok (.bipush 62, 2) := by decide +kernel
theorem dX11_renderLetter_27 : decode cX11_renderLetter 27 = .ok (.invokevirtual 339, 3) := by decide +kernel
theorem dX11_renderLetter_30 : decode cX11_renderLetter 30 = .ok (.aload_n 2, 1) := by decide +kernel
theorem dX11_renderLetter_31 : decode cX11_renderLetter 31 = .ok (.getfield 244, 3) := by decide +kernel
theorem dX11_renderLetter_34 : decode cX11_renderLetter 34 = .ok (.invokevirtual 335, 3) := by decide +kernel
theorem dX11_renderLetter_37 : decode cX11_renderLetter 37 = .ok (.pop, 1) := by decide +kernel
theorem dX11_renderLetter_38 : decode cX11_renderLetter 38 = .ok (.aload_n 0, 1) := by decide +kernel
theorem dX11_renderLetter_39 : decode cX11_renderLetter 39 = .ok (.getfield 51, 3) := by decide +kernel
theorem dX11_renderLetter_42 : decode cX11_renderLetter 42 = .ok (.bipush 32, 2) := by decide +kernel
theorem dX11_renderLetter_44 : decode cX11_renderLetter 44 = .ok (.invokevirtual 339, 3) := by decide +kernel
theorem dX11_renderLetter_47 : decode cX11_renderLetter 47 = .ok (.aload_n 2, 1) := by decide +kernel
theorem dX11_renderLetter_48 : decode cX11_renderLetter 48 = .ok (.getfield 247, 3) := by decide +kernel
theorem dX11_renderLetter_51 : decode cX11_renderLetter 51 = .ok (.invokevirtual 335, 3) := by decide +kernel
theorem dX11_renderLetter_54 : decode cX11_renderLetter 54 = .ok (.pop, 1) := by decide +kernel
theorem dX11_renderLetter_55 : decode cX11_renderLetter 55 = .ok (.aload_n 0, 1) := by decide +kernel
theorem dX11_renderLetter_56 : decode cX11_renderLetter 56 = .ok (.getfield 51, 3) := by decide +kernel
theorem dX11_renderLetter_59 : decode cX11_renderLetter 59 = .ok (.bipush 103, 2) := by decide +kernel
theorem dX11_renderLetter_61 : decode cX11_renderLetter 61 = .ok (.invokevirtual 339, 3) := by decide +kernel
theorem dX11_renderLetter_64 : decode cX11_renderLetter 64 = .ok (.aload_n 2, 1) := by decide +kernel
theorem dX11_renderLetter_65 : decode cX11_renderLetter 65 = .ok (.getfield 250, 3) := by decide +kernel
theorem dX11_renderLetter_68 : decode cX11_renderLetter 68 = .ok (.invokevirtual 335, 3) := by decide +kernel
theorem dX11_renderLetter_71 : decode cX11_renderLetter 71 = .ok (.pop, 1) := by decide +kernel
theorem dX11_renderLetter_72 : decode cX11_renderLetter 72 = .ok (.aload_n 0, 1) := by decide +kernel
theorem dX11_renderLetter_73 : decode cX11_renderLetter 73 = .ok (.getfield 51, 3) := by decide +kernel
theorem dX11_renderLetter_76 : decode cX11_renderLetter 76 = .ok (.bipush 99, 2) := by decide +kernel
theorem dX11_renderLetter_78 : decode cX11_renderLetter 78 = .ok (.invokevirtual 339, 3) := by decide +kernel
theorem dX11_renderLetter_81 : decode cX11_renderLetter 81 = .ok (.aload_n 2, 1) := by decide +kernel
theorem dX11_renderLetter_82 : decode cX11_renderLetter 82 = .ok (.getfield 253, 3) := by decide +kernel
theorem dX11_renderLetter_85 : decode cX11_renderLetter 85 = .ok (.invokevirtual 335, 3) := by decide +kernel
theorem dX11_renderLetter_88 : decode cX11_renderLetter 88 = .ok (.pop, 1) := by decide +kernel
theorem dX11_renderLetter_89 : decode cX11_renderLetter 89 = .ok (.aload_n 0, 1) := by decide +kernel
theorem dX11_renderLetter_90 : decode cX11_renderLetter 90 = .ok (.getfield 51, 3) := by decide +kernel
theorem dX11_renderLetter_93 : decode cX11_renderLetter 93 = .ok (.bipush 47, 2) := by decide +kernel
theorem dX11_renderLetter_95 : decode cX11_renderLetter 95 = .ok (.invokevirtual 339, 3) := by decide +kernel
theorem dX11_renderLetter_98 : decode cX11_renderLetter 98 = .ok (.aload_n 2, 1) := by decide +kernel
theorem dX11_renderLetter_99 : decode cX11_renderLetter 99 = .ok (.getfield 345, 3) := by decide +kernel
theorem dX11_renderLetter_102 : decode cX11_renderLetter 102 = .ok (.invokevirtual 335, 3) := by decide +kernel
theorem dX11_renderLetter_105 : decode cX11_renderLetter 105 = .ok (.pop, 1) := by decide +kernel
theorem dX11_renderLetter_106 : decode cX11_renderLetter 106 = .ok (.aload_n 0, 1) := by decide +kernel
theorem dX11_renderLetter_107 : decode cX11_renderLetter 107 = .ok (.getfield 51, 3) := by decide +kernel
theorem dX11_renderLetter_110 : decode cX11_renderLetter 110 = .ok (.invokevirtual 342, 3) := by decide +kernel
theorem dX11_renderLetter_113 : decode cX11_renderLetter 113 = .ok (.ireturn, 1) := by decide +kernel
set_option maxRecDepth 100000 in
set_option maxHeartbeats 4000000 in
theorem f_renderLetter {l : Launch} {g : Nat → Nat} {M : LH} (htr : l.stackTraces = false) {kd : Nat → Nat} {p : Nat} {q a : Nat → Nat} {e8 : Int32 → Nat} {v : Int32 → Int32} {sv : Int32} {sa : Int32 → Int32} {ch : Int32} {pa tx : Int32 → Int32} {tn : Int32} {Ls : List Int32} {ea fl : Int32} (hP : Pg kd M p q a e8 v sv sa ch pa tx tn Ls ea fl) (id : Int32) (h4 : v 4 < 1000000) : K_X11_renderLetter l g 5 4 252 [.ref p, .int id] M (RI (fun x M9 => ¬ find v id = -1 ∧ x = nI (ltT v (find v id)).length ∧ ∃ kd', Pg kd' M9 p q a e8 v sv sa ch pa tx tn (ltT v (find v id)) ea fl ∧ T30 kd kd' M M9) (fun E M9 => find v id = -1 ∧ E = exV 3 ∧ Pg kd M9 p q a e8 v sv sa ch pa tx tn Ls ea fl ∧ F30 kd M M9)) := by
  refine Ko_X11_renderLetter htr (fun X => ?_)
  obtain ⟨hs, old, hB, hR⟩ := _root_.id hP
  obtain ⟨hO, hE8, hkp, hk3, ⟨ad, sl, le, fg, tp, F, hC⟩, hK, hS2, hS3, hS8, hRO⟩ := _root_.id hB
  obtain ⟨hSt, hRo, hSR, hLR, hSl, hLe, hkd, hinj, ⟨hfg, hRd, hSd, hLt⟩, hG⟩ := _root_.id hC
  obtain ⟨hDk, hDs, ⟨f1, hB1⟩, ⟨f2, hB2⟩, hBl, ⟨f3, hB3⟩, hRt, ⟨f4, hB4⟩, hkD, hn34, hDr⟩ := _root_.id hK
  obtain ⟨hg1, hg2, hg3, hg4, hg5, hg6, hg7, hg8, hgL, hgS, hgR, hgI, hgN, hg0⟩ := _root_.id hG
  obtain ⟨vt, ct, f0, cm, at9, nc, NN, vo, co, c1, hRr, c3, c4, hSo, c6, c7, c8⟩ := _root_.id hRO
  obtain ⟨s1, ⟨fo, hSb, s5⟩, s6⟩ := _root_.id hSo
  obtain ⟨⟨mlo, hBo⟩, -⟩ := _root_.id hSb
  have hb0 : ¬ M (a 7) = none := hSb.nb
  have tK : ∀ (M9 : LH) (v9 : Nat), BT (a 7) vo M M9 v9 → M9 p = some (ob 9 [.ref (q 0), .ref (a 0), .ref (a 1), .int hs, .ref (a 3), .int old, .int ch, .ref (a 4), .ref (a 2), .int ea, .int fl, .ref (a 7)]) ∧ StR kd 1 M9 (a 0) ad sl le fg tp F v := fun M9 v9 h => by
    have t := FB.keep (Or.inr c6) c7 h.1
    exact ⟨(t 21 (by decide) (by decide) (by decide) _ _ hkp hO).1, StR.of (StC.tp (StR.toC hC) (t 1 (by decide) (by decide) (by decide))) (StR.toR hC) (StR.toG hC)⟩
  refine v_aload_n dX11_renderLetter_0 rfl rfl ?_
  refine v_iload_n dX11_renderLetter_1 rfl rfl ?_
  refine k_X11_240 dX11_renderLetter_2 rfl (c_needLetter htr hO hC id) hO (Nat.le_of_ble_eq_true rfl) (by omega) (by omega) (Nat.le_of_ble_eq_true rfl) (fun r2 M9 h9 => ?_) (fun _ _ h9 => by obtain ⟨h91, rfl, rfl⟩ := h9; exact VX.out ⟨h91, rfl, hP, F30.rf⟩ (by omega) (by omega))
  obtain ⟨hf, rfl, e9⟩ := h9
  subst M9
  obtain ⟨p0, p1⟩ := (show 0 ≤ find v id ∧ find v id < v 7 from ⟨(find_in hg5 hf).1, (find_in hg5 hf).2.1⟩)
  have p12 := Int32.lt_of_lt_of_le p1 hg6
  obtain ⟨q0, q1, q2, q3, q4, q5, q6, q7⟩ := hLt _ p0 p1
  have hLf := hLe _ p0 p12
  obtain ⟨z1, z2, z3, z4, z5, z6, z7, z8, z9, z10, -, -, -, z14⟩ := hgL _ p0 p1
  have y6 : lt v (find v id) 0 < 1000000 := Int32.lt_trans (hgN _ p0 p1) h4
  have t6 : lt v (find v id) 1 < 1000000 := Int32.lt_of_lt_of_le z2 (Int32.le_trans hg2 (by decide))
  have w6 : lt v (find v id) 2 < 1000000 := Int32.lt_of_le_of_lt z4 (by decide)
  have w0 : 0 ≤ lt v (find v id) 2 := Int32.le_trans (by decide) z3
  have f6 : lt v (find v id) 3 < 1000000 := Int32.lt_of_le_of_lt z6 (by decide)
  have s6q : lt v (find v id) 4 < 1000000 := Int32.lt_of_le_of_lt z8 (by decide)
  have s0q : 0 ≤ lt v (find v id) 4 := Int32.le_trans (by decide) z7
  have i6 : lt v (find v id) 5 < 1000000 := Int32.lt_of_le_of_lt z10 s6q
  have n0 := num_len (lt v (find v id) 0)
  have n1 := num_len (lt v (find v id) 1)
  have n2 := num_len (lt v (find v id) 2)
  have n3 := num_len (lt v (find v id) 3)
  have n4 := num_len (lt v (find v id) 4)
  have n5 := num_len (lt v (find v id) 5)
  clear hgL hgS hgR hgI
  refine v_astore_2 dX11_renderLetter_5 ?_
  refine v_aload_n dX11_renderLetter_6 rfl rfl ?_
  refine gf_X11_51 dX11_renderLetter_7 rfl hO ?_
  refine v_iconst (v := 0) dX11_renderLetter_10 (by decide) ?_
  refine k_X11_332 dX11_renderLetter_11 rfl (c_setL htr hSb) hBo (Nat.le_of_ble_eq_true rfl) (by omega) (by omega) (Nat.le_of_ble_eq_true rfl) (fun M9 h9 => ?_) (fun _ _ h9 => h9.elim)
  obtain ⟨h91, hF9⟩ := h9
  have hT : BT (a 7) vo M M9 vo := ⟨hF9, Or.inl rfl⟩
  have hS : SbC M9 (a 7) vo co [] := ⟨s1, ⟨fo, h91, fun j hj => absurd hj (Nat.not_lt_zero j)⟩, Nat.zero_le _⟩
  have hc9 := hS.1
  have hs9 := ssc_b _ hS.1
  obtain ⟨hO, hC⟩ := tK _ _ hT
  obtain ⟨hSt, hRo, hSR, hLR, hSl, hLe, hkd, hinj, ⟨hfg, hRd, hSd, hLt⟩, -⟩ := _root_.id hC
  have hLf := hLe _ p0 p12
  refine V.wid (k' := co + 1) (n' := ssc co + 6) (by omega) (by omega) ?_
  refine v_aload_n dX11_renderLetter_14 rfl rfl ?_
  refine gf_X11_51 dX11_renderLetter_15 rfl hO ?_
  refine v_aload_n dX11_renderLetter_18 rfl rfl ?_
  refine gf_X11_235 dX11_renderLetter_19 rfl hLf ?_
  rw [q0]
  refine ap_x htr dX11_renderLetter_22 rfl hS hT hb0 (by simp only [List.length_append, List.length_cons, List.length_nil, List.nil_append]; omega) z14 y6 (by omega) (by omega) (by omega) (Nat.le_of_ble_eq_true rfl) (fun M9 v9 c9 hS hT => ?_)
  have hc9 := hS.1
  have hs9 := ssc_b _ hS.1
  obtain ⟨hO, hC⟩ := tK _ _ hT
  obtain ⟨hSt, hRo, hSR, hLR, hSl, hLe, hkd, hinj, ⟨hfg, hRd, hSd, hLt⟩, -⟩ := _root_.id hC
  have hLf := hLe _ p0 p12
  refine v_bipush (v := (62)) dX11_renderLetter_25 (by decide) ?_
  refine ap_c htr dX11_renderLetter_27 rfl hS hT hb0 (by simp only [List.length_append, List.length_cons, List.length_nil, List.nil_append]; omega) (by decide) (by decide) (by omega) (by omega) (by omega) (Nat.le_of_ble_eq_true rfl) (fun M9 v9 c9 hS hT => ?_)
  have hc9 := hS.1
  have hs9 := ssc_b _ hS.1
  obtain ⟨hO, hC⟩ := tK _ _ hT
  obtain ⟨hSt, hRo, hSR, hLR, hSl, hLe, hkd, hinj, ⟨hfg, hRd, hSd, hLt⟩, -⟩ := _root_.id hC
  have hLf := hLe _ p0 p12
  refine v_aload_n dX11_renderLetter_30 rfl rfl ?_
  refine gf_X11_244 dX11_renderLetter_31 rfl hLf ?_
  rw [q1]
  refine ap_x htr dX11_renderLetter_34 rfl hS hT hb0 (by simp only [List.length_append, List.length_cons, List.length_nil, List.nil_append]; omega) z1 t6 (by omega) (by omega) (by omega) (Nat.le_of_ble_eq_true rfl) (fun M9 v9 c9 hS hT => ?_)
  have hc9 := hS.1
  have hs9 := ssc_b _ hS.1
  obtain ⟨hO, hC⟩ := tK _ _ hT
  obtain ⟨hSt, hRo, hSR, hLR, hSl, hLe, hkd, hinj, ⟨hfg, hRd, hSd, hLt⟩, -⟩ := _root_.id hC
  have hLf := hLe _ p0 p12
  refine v_pop dX11_renderLetter_37 rfl ?_
  refine v_aload_n dX11_renderLetter_38 rfl rfl ?_
  refine gf_X11_51 dX11_renderLetter_39 rfl hO ?_
  refine v_bipush (v := (32)) dX11_renderLetter_42 (by decide) ?_
  refine ap_c htr dX11_renderLetter_44 rfl hS hT hb0 (by simp only [List.length_append, List.length_cons, List.length_nil, List.nil_append]; omega) (by decide) (by decide) (by omega) (by omega) (by omega) (Nat.le_of_ble_eq_true rfl) (fun M9 v9 c9 hS hT => ?_)
  have hc9 := hS.1
  have hs9 := ssc_b _ hS.1
  obtain ⟨hO, hC⟩ := tK _ _ hT
  obtain ⟨hSt, hRo, hSR, hLR, hSl, hLe, hkd, hinj, ⟨hfg, hRd, hSd, hLt⟩, -⟩ := _root_.id hC
  have hLf := hLe _ p0 p12
  refine v_aload_n dX11_renderLetter_47 rfl rfl ?_
  refine gf_X11_247 dX11_renderLetter_48 rfl hLf ?_
  rw [q2]
  refine ap_x htr dX11_renderLetter_51 rfl hS hT hb0 (by simp only [List.length_append, List.length_cons, List.length_nil, List.nil_append]; omega) w0 w6 (by omega) (by omega) (by omega) (Nat.le_of_ble_eq_true rfl) (fun M9 v9 c9 hS hT => ?_)
  have hc9 := hS.1
  have hs9 := ssc_b _ hS.1
  obtain ⟨hO, hC⟩ := tK _ _ hT
  obtain ⟨hSt, hRo, hSR, hLR, hSl, hLe, hkd, hinj, ⟨hfg, hRd, hSd, hLt⟩, -⟩ := _root_.id hC
  have hLf := hLe _ p0 p12
  refine v_pop dX11_renderLetter_54 rfl ?_
  refine v_aload_n dX11_renderLetter_55 rfl rfl ?_
  refine gf_X11_51 dX11_renderLetter_56 rfl hO ?_
  refine v_bipush (v := (103)) dX11_renderLetter_59 (by decide) ?_
  refine ap_c htr dX11_renderLetter_61 rfl hS hT hb0 (by simp only [List.length_append, List.length_cons, List.length_nil, List.nil_append]; omega) (by decide) (by decide) (by omega) (by omega) (by omega) (Nat.le_of_ble_eq_true rfl) (fun M9 v9 c9 hS hT => ?_)
  have hc9 := hS.1
  have hs9 := ssc_b _ hS.1
  obtain ⟨hO, hC⟩ := tK _ _ hT
  obtain ⟨hSt, hRo, hSR, hLR, hSl, hLe, hkd, hinj, ⟨hfg, hRd, hSd, hLt⟩, -⟩ := _root_.id hC
  have hLf := hLe _ p0 p12
  refine v_aload_n dX11_renderLetter_64 rfl rfl ?_
  refine gf_X11_250 dX11_renderLetter_65 rfl hLf ?_
  rw [q3]
  refine ap_x htr dX11_renderLetter_68 rfl hS hT hb0 (by simp only [List.length_append, List.length_cons, List.length_nil, List.nil_append]; omega) z5 f6 (by omega) (by omega) (by omega) (Nat.le_of_ble_eq_true rfl) (fun M9 v9 c9 hS hT => ?_)
  have hc9 := hS.1
  have hs9 := ssc_b _ hS.1
  obtain ⟨hO, hC⟩ := tK _ _ hT
  obtain ⟨hSt, hRo, hSR, hLR, hSl, hLe, hkd, hinj, ⟨hfg, hRd, hSd, hLt⟩, -⟩ := _root_.id hC
  have hLf := hLe _ p0 p12
  refine v_pop dX11_renderLetter_71 rfl ?_
  refine v_aload_n dX11_renderLetter_72 rfl rfl ?_
  refine gf_X11_51 dX11_renderLetter_73 rfl hO ?_
  refine v_bipush (v := (99)) dX11_renderLetter_76 (by decide) ?_
  refine ap_c htr dX11_renderLetter_78 rfl hS hT hb0 (by simp only [List.length_append, List.length_cons, List.length_nil, List.nil_append]; omega) (by decide) (by decide) (by omega) (by omega) (by omega) (Nat.le_of_ble_eq_true rfl) (fun M9 v9 c9 hS hT => ?_)
  have hc9 := hS.1
  have hs9 := ssc_b _ hS.1
  obtain ⟨hO, hC⟩ := tK _ _ hT
  obtain ⟨hSt, hRo, hSR, hLR, hSl, hLe, hkd, hinj, ⟨hfg, hRd, hSd, hLt⟩, -⟩ := _root_.id hC
  have hLf := hLe _ p0 p12
  refine v_aload_n dX11_renderLetter_81 rfl rfl ?_
  refine gf_X11_253 dX11_renderLetter_82 rfl hLf ?_
  rw [q5]
  refine ap_x htr dX11_renderLetter_85 rfl hS hT hb0 (by simp only [List.length_append, List.length_cons, List.length_nil, List.nil_append]; omega) z9 i6 (by omega) (by omega) (by omega) (Nat.le_of_ble_eq_true rfl) (fun M9 v9 c9 hS hT => ?_)
  have hc9 := hS.1
  have hs9 := ssc_b _ hS.1
  obtain ⟨hO, hC⟩ := tK _ _ hT
  obtain ⟨hSt, hRo, hSR, hLR, hSl, hLe, hkd, hinj, ⟨hfg, hRd, hSd, hLt⟩, -⟩ := _root_.id hC
  have hLf := hLe _ p0 p12
  refine v_pop dX11_renderLetter_88 rfl ?_
  refine v_aload_n dX11_renderLetter_89 rfl rfl ?_
  refine gf_X11_51 dX11_renderLetter_90 rfl hO ?_
  refine v_bipush (v := (47)) dX11_renderLetter_93 (by decide) ?_
  refine ap_c htr dX11_renderLetter_95 rfl hS hT hb0 (by simp only [List.length_append, List.length_cons, List.length_nil, List.nil_append]; omega) (by decide) (by decide) (by omega) (by omega) (by omega) (Nat.le_of_ble_eq_true rfl) (fun M9 v9 c9 hS hT => ?_)
  have hc9 := hS.1
  have hs9 := ssc_b _ hS.1
  obtain ⟨hO, hC⟩ := tK _ _ hT
  obtain ⟨hSt, hRo, hSR, hLR, hSl, hLe, hkd, hinj, ⟨hfg, hRd, hSd, hLt⟩, -⟩ := _root_.id hC
  have hLf := hLe _ p0 p12
  refine v_aload_n dX11_renderLetter_98 rfl rfl ?_
  refine gf_X11_345 dX11_renderLetter_99 rfl hLf ?_
  rw [q4]
  refine ap_x htr dX11_renderLetter_102 rfl hS hT hb0 (by simp only [List.length_append, List.length_cons, List.length_nil, List.nil_append]; omega) s0q s6q (by omega) (by omega) (by omega) (Nat.le_of_ble_eq_true rfl) (fun M9 v9 c9 hS hT => ?_)
  have hc9 := hS.1
  have hs9 := ssc_b _ hS.1
  obtain ⟨hO, hC⟩ := tK _ _ hT
  obtain ⟨hSt, hRo, hSR, hLR, hSl, hLe, hkd, hinj, ⟨hfg, hRd, hSd, hLt⟩, -⟩ := _root_.id hC
  have hLf := hLe _ p0 p12
  refine v_pop dX11_renderLetter_105 rfl ?_
  have e : (((((((((([] ++ num (lt v (find v id) 0)) ++ [62]) ++ num (lt v (find v id) 1)) ++ [32]) ++ num (lt v (find v id) 2)) ++ [103]) ++ num (lt v (find v id) 3)) ++ [99]) ++ num (lt v (find v id) 5)) ++ [47]) ++ num (lt v (find v id) 4) = ltT v (find v id) := by simp [ltT]
  rw [e] at hS
  have eT : True := trivial
  obtain ⟨hc3, ⟨f2, hS2, hT2⟩, hc5⟩ := _root_.id hS
  obtain ⟨⟨ml2, hBo2⟩, -⟩ := _root_.id hS2
  refine v_aload_n dX11_renderLetter_106 rfl rfl ?_
  refine gf_X11_51 dX11_renderLetter_107 rfl hO ?_
  refine k_X11_342 dX11_renderLetter_110 rfl (c_len4 htr hS2) hBo2 (Nat.le_of_ble_eq_true rfl) (by omega) (by omega) (Nat.le_of_ble_eq_true rfl) (fun r110 M9 h9 => ?_) (fun _ _ h9 => h9.elim)
  obtain ⟨h91, e9⟩ := h9
  rw [h91]
  subst M9
  exact v_iret dX11_renderLetter_113 rfl (by
      obtain ⟨hB9, hT9⟩ := hB.out c1 hRr c3 c4 hSo c6 c7 c8 hT hS
      exact ⟨hf, rfl, kz kd v9, ⟨hs, old, hB9, hR.tq hT9⟩, hT9.t⟩) (by omega) (by omega)
theorem dX11_renderSledge_0 : decode cX11_renderSledge 0 = .ok (.aload_n 0, 1) := by decide +kernel
theorem dX11_renderSledge_1 : decode cX11_renderSledge 1 = .ok (.iload_n 1, 1) := by decide +kernel
theorem dX11_renderSledge_2 : decode cX11_renderSledge 2 = .ok (.invokevirtual 173, 3) := by decide +kernel
theorem dX11_renderSledge_5 : decode cX11_renderSledge 5 = .ok (.astore_n 2, 1) := by decide +kernel
theorem dX11_renderSledge_6 : decode cX11_renderSledge 6 = .ok (.aload_n 0, 1) := by decide +kernel
theorem dX11_renderSledge_7 : decode cX11_renderSledge 7 = .ok (.getfield 51, 3) := by decide +kernel
theorem dX11_renderSledge_10 : decode cX11_renderSledge 10 = .ok (.iconst 0, 1) := by decide +kernel
theorem dX11_renderSledge_11 : decode cX11_renderSledge 11 = .ok (.invokevirtual 332, 3) := by decide +kernel
theorem dX11_renderSledge_14 : decode cX11_renderSledge 14 = .ok (.aload_n 0, 1) := by decide +kernel
theorem dX11_renderSledge_15 : decode cX11_renderSledge 15 = .ok (.getfield 51, 3) := by decide +kernel
theorem dX11_renderSledge_18 : decode cX11_renderSledge 18 = .ok (.iload_n 1, 1) := by decide +kernel
theorem dX11_renderSledge_19 : decode cX11_renderSledge 19 = .ok (.invokevirtual 335, 3) := by decide +kernel
theorem dX11_renderSledge_22 : decode cX11_renderSledge 22 = .ok (.bipush 58, 2) := by decide +kernel
theorem dX11_renderSledge_24 : decode cX11_renderSledge 24 = .ok (.invokevirtual 339, 3) := by decide +kernel
theorem dX11_renderSledge_27 : decode cX11_renderSledge 27 = .ok (.aload_n 0, 1) := by decide +kernel
theorem dX11_renderSledge_28 : decode cX11_renderSledge 28 = .ok (.getfield 20, 3) := by decide +kernel
theorem dX11_renderSledge_31 : decode cX11_renderSledge 31 = .ok (.iload_n 1, 1) := by decide +kernel
theorem dX11_renderSledge_32 : decode cX11_renderSledge 32 = .ok (.invokevirtual 182, 3) := by decide +kernel
theorem dX11_renderSledge_35 : decode cX11_renderSledge 35 = .ok (.invokevirtual 335, 3) := by decide +kernel
theorem dX11_renderSledge_38 : decode cX11_renderSledge 38 = .ok (.pop, 1) := by decide +kernel
theorem dX11_renderSledge_39 : decode cX11_renderSledge 39 = .ok (.aload_n 0, 1) := by decide +kernel
theorem dX11_renderSledge_40 : decode cX11_renderSledge 40 = .ok (.getfield 51, 3) := by decide +kernel
theorem dX11_renderSledge_43 : decode cX11_renderSledge 43 = .ok (.bipush 47, 2) := by decide +kernel
theorem dX11_renderSledge_45 : decode cX11_renderSledge 45 = .ok (.invokevirtual 339, 3) := by decide +kernel
theorem dX11_renderSledge_48 : decode cX11_renderSledge 48 = .ok (.aload_n 2, 1) := by decide +kernel
theorem dX11_renderSledge_49 : decode cX11_renderSledge 49 = .ok (.getfield 177, 3) := by decide +kernel
theorem dX11_renderSledge_52 : decode cX11_renderSledge 52 = .ok (.invokevirtual 335, 3) := by decide +kernel
theorem dX11_renderSledge_55 : decode cX11_renderSledge 55 = .ok (.pop, 1) := by decide +kernel
theorem dX11_renderSledge_56 : decode cX11_renderSledge 56 = .ok (.aload_n 0, 1) := by decide +kernel
theorem dX11_renderSledge_57 : decode cX11_renderSledge 57 = .ok (.getfield 51, 3) := by decide +kernel
theorem dX11_renderSledge_60 : decode cX11_renderSledge 60 = .ok (.aload_n 2, 1) := by decide +kernel
theorem dX11_renderSledge_61 : decode cX11_renderSledge 61 = .ok (.invokevirtual 185, 3) := by decide +kernel
theorem dX11_renderSledge_64 : decode cX11_renderSledge 64 = .ok (.ifCond .eq 8, 3) := by decide +kernel
theorem dX11_renderSledge_67 : decode cX11_renderSledge 67 = .ok (.bipush 62, 2) := by decide +kernel
theorem dX11_renderSledge_69 : decode cX11_renderSledge 69 = .ok (.goto 5, 3) := by decide +kernel
theorem dX11_renderSledge_72 : decode cX11_renderSledge 72 = .ok (.bipush 64, 2) := by decide +kernel
theorem dX11_renderSledge_74 : decode cX11_renderSledge 74 = .ok (.invokevirtual 339, 3) := by decide +kernel
theorem dX11_renderSledge_77 : decode cX11_renderSledge 77 = .ok (.aload_n 2, 1) := by decide +kernel
theorem dX11_renderSledge_78 : decode cX11_renderSledge 78 = .ok (.getfield 189, 3) := by decide +kernel
theorem dX11_renderSledge_81 : decode cX11_renderSledge 81 = .ok (.invokevirtual 335, 3) := by decide +kernel
theorem dX11_renderSledge_84 : decode cX11_renderSledge 84 = .ok (.pop, 1) := by decide +kernel
theorem dX11_renderSledge_85 : decode cX11_renderSledge 85 = .ok (.aload_n 2, 1) := by decide +kernel
theorem dX11_renderSledge_86 : decode cX11_renderSledge 86 = .ok (.invokevirtual 185, 3) := by decide +kernel
theorem dX11_renderSledge_89 : decode cX11_renderSledge 89 = .ok (.ifCond .eq 20, 3) := by decide +kernel
theorem dX11_renderSledge_92 : decode cX11_renderSledge 92 = .ok (.aload_n 0, 1) := by decide +kernel
theorem dX11_renderSledge_93 : decode cX11_renderSledge 93 = .ok (.getfield 51, 3) := by decide +kernel
theorem dX11_renderSledge_96 : decode cX11_renderSledge 96 = .ok (.bipush 43, 2) := by decide +kernel
theorem dX11_renderSledge_98 : decode cX11_renderSledge 98 = .ok (.invokevirtual 339, 3) := by decide +kernel
theorem dX11_renderSledge_101 : decode cX11_renderSledge 101 = .ok (.aload_n 2, 1) := by decide +kernel
theorem dX11_renderSledge_102 : decode cX11_renderSledge 102 = .ok (.getfield 192, 3) := by decide +kernel
theorem dX11_renderSledge_105 : decode cX11_renderSledge 105 = .ok (.invokevirtual 335, 3) := by decide +kernel
theorem dX11_renderSledge_108 : decode cX11_renderSledge 108 = .ok (.pop, 1) := by decide +kernel
theorem dX11_renderSledge_109 : decode cX11_renderSledge 109 = .ok (.iconst 0, 1) := by decide +kernel
theorem dX11_renderSledge_110 : decode cX11_renderSledge 110 = .ok (.istore_n 3, 1) := by decide +kernel
theorem dX11_renderSledge_111 : decode cX11_renderSledge 111 = .ok (.iload_n 3, 1) := by decide +kernel
theorem dX11_renderSledge_112 : decode cX11_renderSledge 112 = .ok (.aload_n 0, 1) := by decide +kernel
theorem dX11_renderSledge_113 : decode cX11_renderSledge 113 = .ok (.getfield 20, 3) := by decide +kernel
theorem dX11_renderSledge_116 : decode cX11_renderSledge 116 = .ok (.getfield 221, 3) := by decide +kernel
theorem dX11_renderSledge_119 : decode cX11_renderSledge 119 = .ok (.if_icmp .ge 50, 3) := by decide +kernel
theorem dX11_renderSledge_122 : decode cX11_renderSledge 122 = .ok (.aload_n 0, 1) := by decide +kernel
theorem dX11_renderSledge_123 : decode cX11_renderSledge 123 = .ok (.getfield 20, 3) := by decide +kernel
theorem dX11_renderSledge_126 : decode cX11_renderSledge 126 = .ok (.getfield 231, 3) := by decide +kernel
theorem dX11_renderSledge_129 : decode cX11_renderSledge 129 = .ok (.iload_n 3, 1) := by decide +kernel
theorem dX11_renderSledge_130 : decode cX11_renderSledge 130 = .ok (.aaload, 1) := by decide +kernel
theorem dX11_renderSledge_131 : decode cX11_renderSledge 131 = .ok (.getfield 264, 3) := by decide +kernel
theorem dX11_renderSledge_134 : decode cX11_renderSledge 134 = .ok (.iload_n 1, 1) := by decide +kernel
theorem dX11_renderSledge_135 : decode cX11_renderSledge 135 = .ok (.if_icmp .ne 28, 3) := by decide +kernel
theorem dX11_renderSledge_138 : decode cX11_renderSledge 138 = .ok (.aload_n 0, 1) := by decide +kernel
theorem dX11_renderSledge_139 : decode cX11_renderSledge 139 = .ok (.getfield 51, 3) := by decide +kernel
theorem dX11_renderSledge_142 : decode cX11_renderSledge 142 = .ok (.bipush 35, 2) := by decide +kernel
theorem dX11_renderSledge_144 : decode cX11_renderSledge 144 = .ok (.invokevirtual 339, 3) := by decide +kernel
theorem dX11_renderSledge_147 : decode cX11_renderSledge 147 = .ok (.aload_n 0, 1) := by decide +kernel
theorem dX11_renderSledge_148 : decode cX11_renderSledge 148 = .ok (.getfield 20, 3) := by decide +kernel
theorem dX11_renderSledge_151 : decode cX11_renderSledge 151 = .ok (.getfield 231, 3) := by decide +kernel
theorem dX11_renderSledge_154 : decode cX11_renderSledge 154 = .ok (.iload_n 3, 1) := by decide +kernel
theorem dX11_renderSledge_155 : decode cX11_renderSledge 155 = .ok (.aaload, 1) := by decide +kernel
theorem dX11_renderSledge_156 : decode cX11_renderSledge 156 = .ok (.getfield 235, 3) := by decide +kernel
theorem dX11_renderSledge_159 : decode cX11_renderSledge 159 = .ok (.invokevirtual 335, 3) := by decide +kernel
theorem dX11_renderSledge_162 : decode cX11_renderSledge 162 = .ok (.pop, 1) := by decide +kernel
theorem dX11_renderSledge_163 : decode cX11_renderSledge 163 = .ok (.iinc 3 1, 3) := by decide +kernel
theorem dX11_renderSledge_166 : decode cX11_renderSledge 166 = .ok (.goto (-55), 3) := by decide +kernel
theorem dX11_renderSledge_169 : decode cX11_renderSledge 169 = .ok (.aload_n 0, 1) := by decide +kernel
theorem dX11_renderSledge_170 : decode cX11_renderSledge 170 = .ok (.getfield 51, 3) := by decide +kernel
theorem dX11_renderSledge_173 : decode cX11_renderSledge 173 = .ok (.invokevirtual 342, 3) := by decide +kernel
theorem dX11_renderSledge_176 : decode cX11_renderSledge 176 = .ok (.ireturn, 1) := by decide +kernel
set_option maxRecDepth 100000 in
set_option maxHeartbeats 4000000 in
theorem f_renderSledge {l : Launch} {g : Nat → Nat} {M : LH} (htr : l.stackTraces = false) {kd : Nat → Nat} {p : Nat} {q a : Nat → Nat} {e8 : Int32 → Nat} {v : Int32 → Int32} {sv : Int32} {sa : Int32 → Int32} {ch : Int32} {pa tx : Int32 → Int32} {tn : Int32} {Ls : List Int32} {ea fl : Int32} (hP : Pg kd M p q a e8 v sv sa ch pa tx tn Ls ea fl) (k : Int32) (h4 : v 4 < 1000000) : K_X11_renderSledge l g 5 4 252 [.ref p, .int k] M (RI (fun x M9 => hsl v k ∧ x = nI (slT v k ++ idT v (wL v (10 + k) (v 7).toNatClampNeg) (wN v (10 + k) (v 7).toNatClampNeg)).length ∧ ∃ kd', Pg kd' M9 p q a e8 v sv sa ch pa tx tn (slT v k ++ idT v (wL v (10 + k) (v 7).toNatClampNeg) (wN v (10 + k) (v 7).toNatClampNeg)) ea fl ∧ T30 kd kd' M M9) (fun E M9 => ¬ hsl v k ∧ E = exV 1 ∧ Pg kd M9 p q a e8 v sv sa ch pa tx tn Ls ea fl ∧ F30 kd M M9)) := by
  refine Ko_X11_renderSledge htr (fun X => ?_)
  obtain ⟨hs, old, hB, hR⟩ := _root_.id hP
  obtain ⟨hO, hE8, hkp, hk3, ⟨ad, sl, le, fg, tp, F, hC⟩, hK, hS2, hS3, hS8, hRO⟩ := _root_.id hB
  obtain ⟨hSt, hRo, hSR, hLR, hSl, hLe, hkd, hinj, ⟨hfg, hRd, hSd, hLt⟩, hG⟩ := _root_.id hC
  obtain ⟨hDk, hDs, ⟨f1, hB1⟩, ⟨f2, hB2⟩, hBl, ⟨f3, hB3⟩, hRt, ⟨f4, hB4⟩, hkD, hn34, hDr⟩ := _root_.id hK
  obtain ⟨hg1, hg2, hg3, hg4, hg5, hg6, hg7, hg8, hgL, hgS, hgR, hgI, hgN, hg0⟩ := _root_.id hG
  obtain ⟨vt, ct, f0, cm, at9, nc, NN, vo, co, c1, hRr, c3, c4, hSo, c6, c7, c8⟩ := _root_.id hRO
  obtain ⟨s1, ⟨fo, hSb, s5⟩, s6⟩ := _root_.id hSo
  obtain ⟨⟨mlo, hBo⟩, -⟩ := _root_.id hSb
  have hb0 : ¬ M (a 7) = none := hSb.nb
  have tK : ∀ (M9 : LH) (v9 : Nat), BT (a 7) vo M M9 v9 → M9 p = some (ob 9 [.ref (q 0), .ref (a 0), .ref (a 1), .int hs, .ref (a 3), .int old, .int ch, .ref (a 4), .ref (a 2), .int ea, .int fl, .ref (a 7)]) ∧ StR kd 1 M9 (a 0) ad sl le fg tp F v := fun M9 v9 h => by
    have t := FB.keep (Or.inr c6) c7 h.1
    exact ⟨(t 21 (by decide) (by decide) (by decide) _ _ hkp hO).1, StR.of (StC.tp (StR.toC hC) (t 1 (by decide) (by decide) (by decide))) (StR.toR hC) (StR.toG hC)⟩
  refine v_aload_n dX11_renderSledge_0 rfl rfl ?_
  refine v_iload_n dX11_renderSledge_1 rfl rfl ?_
  refine k_X11_173 dX11_renderSledge_2 rfl (c_needSledge htr hO hC k) hO (Nat.le_of_ble_eq_true rfl) (by omega) (by omega) (Nat.le_of_ble_eq_true rfl) (fun r2 M9 h9 => ?_) (fun _ _ h9 => by obtain ⟨h91, rfl, rfl⟩ := h9; exact VX.out ⟨h91, rfl, hP, F30.rf⟩ (by omega) (by omega))
  obtain ⟨hk9, rfl, e9⟩ := h9
  subst M9
  obtain ⟨k0, k1⟩ := _root_.id hk9
  have k3 : k < 3 := Int32.lt_of_lt_of_le k1 hg4
  obtain ⟨y0, y1, y2⟩ := hSd k k0 k1
  have hSk := hSl k k0 k3
  obtain ⟨u0, u1, u2, u3, u4, u5, u6, u7⟩ := hgS k k0 k1
  have k100 : k < 100 := Int32.lt_trans k3 (by decide)
  have k6 : k < 1000000 := Int32.lt_trans k3 (by decide)
  have cz : 0 ≤ sd v k 0 := Int32.le_trans (by decide) u0
  have cz6 : sd v k 0 < 1000000 := Int32.lt_of_le_of_lt u1 (by decide)
  have a6 : sd v k 1 < 1000000 := Int32.lt_of_lt_of_le u3 (Int32.le_trans hg2 (by decide))
  have o6 : sd v k 2 < 1000000 := Int32.lt_of_le_of_lt u5 (by decide)
  have l6 : loadOn v k < 1000000 := Int32.lt_of_le_of_lt u7 cz6
  have n0 := num_len k
  have n1 := num_len (loadOn v k)
  have n2 := num_len (sd v k 0)
  have n3 := num_len (sd v k 1)
  have n4 := num_len (sd v k 2)
  have hsl34 := slT_len (σ := v) (k := k)
  have hW : wN v (10 + k) (v 7).toNatClampNeg ≤ 12 := Nat.le_trans (wL_len _) (tc_le hg6)
  clear hgS hgR hgI
  have key : ∀ i, 0 ≤ i → i ≤ v 7 → ∀ (M9 : LH) (v9 c9 : Nat), SbC M9 (a 7) v9 c9 (slT v k ++ idT v (wL v (10 + k) (v 7).toNatClampNeg) (wN v (10 + k) i.toNatClampNeg)) → BT (a 7) vo M M9 v9 → V l g yX11_renderSledge cX11_renderSledge ((some .int)) [] 5 4 252 (RI (fun x M9 => hsl v k ∧ x = nI (slT v k ++ idT v (wL v (10 + k) (v 7).toNatClampNeg) (wN v (10 + k) (v 7).toNatClampNeg)).length ∧ ∃ kd', Pg kd' M9 p q a e8 v sv sa ch pa tx tn (slT v k ++ idT v (wL v (10 + k) (v 7).toNatClampNeg) (wN v (10 + k) (v 7).toNatClampNeg)) ea fl ∧ T30 kd kd' M M9) (fun E M9 => ¬ hsl v k ∧ E = exV 1 ∧ Pg kd M9 p q a e8 v sv sa ch pa tx tn Ls ea fl ∧ F30 kd M M9)) X M9 (c9 + 1) (ssc c9 + 6) 111 [some (.ref p), some (.int k), some (.ref (sl k)), some (.int i)] [] := by
    refine up_ind _ (fun i i0 i1 ih M9 v9 c9 hS hT => ?_)
    have hc9 := hS.1
    have hs9 := ssc_b _ hS.1
    obtain ⟨hO, hC⟩ := tK _ _ hT
    obtain ⟨hSt, hRo, hSR, hLR, hSl, hLe, hkd, hinj, ⟨hfg, hRd, hSd, hLt⟩, -⟩ := _root_.id hC
    have hSk := hSl k k0 k3
    refine v_iload_n dX11_renderSledge_111 rfl rfl ?_
    refine v_aload_n dX11_renderSledge_112 rfl rfl ?_
    refine gf_X11_20 dX11_renderSledge_113 rfl hO ?_
    refine gf_X11_221 dX11_renderSledge_116 rfl hSt ?_
    refine v_icmp_ge (tgt := 169) dX11_renderSledge_119 (by decide) (fun h119 => ?_) (fun h119 => ?_)
    · have hie : i = v 7 := by clear hgL hRd hSd hLt hLe hSl hinj hgN hO hC hS hT hP hB hR hK hS2 hS3 hS8 hRO ih tK hRr hSo hSb; lia
      subst hie
      obtain ⟨hc3, ⟨f2, hS2q, hT2⟩, hc5⟩ := _root_.id hS
      obtain ⟨⟨ml2, hBo2⟩, -⟩ := _root_.id hS2q
      refine v_aload_n dX11_renderSledge_169 rfl rfl ?_
      refine gf_X11_51 dX11_renderSledge_170 rfl hO ?_
      refine k_X11_342 dX11_renderSledge_173 rfl (c_len4 htr hS2q) hBo2 (Nat.le_of_ble_eq_true rfl) (by omega) (by omega) (Nat.le_of_ble_eq_true rfl) (fun r173 M9 h9 => ?_) (fun _ _ h9 => h9.elim)
      obtain ⟨h91, e9⟩ := h9
      rw [h91]
      subst M9
      exact v_iret dX11_renderSledge_176 rfl (by
          obtain ⟨hB9, hT9⟩ := hB.out c1 hRr c3 c4 hSo c6 c7 c8 hT hS
          exact ⟨hk9, rfl, kz kd v9, ⟨hs, old, hB9, hR.tq hT9⟩, hT9.t⟩) (by omega) (by omega)
    · have h119 := Int32.not_le.mp h119
      have i12 := Int32.lt_of_lt_of_le h119 hg6
      obtain ⟨w0, w1, w2, w3, w4, w5, w6, w7⟩ := hLt i i0 h119
      have hLf := hLe i i0 i12
      obtain ⟨-, -, -, -, -, -, -, -, -, -, g6, -, -, g14⟩ := hgL i i0 h119
      have yi6 : lt v i 0 < 1000000 := Int32.lt_trans (hgN i i0 h119) h4
      have n9 := num_len (lt v i 0)
      have hin : i.toNatClampNeg < (v 7).toNatClampNeg := tc_lt i0 h119
      have ein : nI i.toNatClampNeg = i := tc_nI i0
      have es : (i + 1).toNatClampNeg = i.toNatClampNeg + 1 := (tc_i i0 (Int32.lt_trans i12 (by decide))).1
      have e6 : F 6 i = k ↔ lt v i 6 = 10 + k := by
        rw [w6]
        clear hgL hRd hSd hLt hLe hSl hinj hgN hO hC hS hT hP hB hR hK hS2 hS3 hS8 hRO ih tK hRr hSo hSb hLf
        split <;> lia
      have hle := wN_le (σ := v) (p := 10 + k) (i := i.toNatClampNeg) (v 7).toNatClampNeg (Nat.le_of_lt hin)
      have hidl := idT_len (σ := v) (L := wL v (10 + k) (v 7).toNatClampNeg) (wN v (10 + k) i.toNatClampNeg)
      refine v_aload_n dX11_renderSledge_122 rfl rfl ?_
      refine gf_X11_20 dX11_renderSledge_123 rfl hO ?_
      refine gf_X11_231 dX11_renderSledge_126 rfl hSt ?_
      refine v_iload_n dX11_renderSledge_129 rfl rfl ?_
      refine v_aald1 dX11_renderSledge_130 hLR i0 i12 rfl ?_
      refine gf_X11_264 dX11_renderSledge_131 rfl hLf ?_
      refine v_iload_n dX11_renderSledge_134 rfl rfl ?_
      refine v_icmp_ne (tgt := 163) dX11_renderSledge_135 (by decide) (fun h135 => ?_) (fun h135 => ?_)
      · have hp : ¬ lt v i 6 = 10 + k := fun z => absurd (e6.mpr z) (by assumption)
        have hi := ih h119
        have wn1 : wN v (10 + k) (i + 1).toNatClampNeg = wN v (10 + k) i.toNatClampNeg := by rw [es, wN_1, ein, if_neg hp]
        rw [wn1] at hi
        refine v_iinc_3 dX11_renderSledge_163 rfl ?_
        refine v_goto (tgt := 111) dX11_renderSledge_166 (by decide) ?_
        exact hi _ _ _ hS hT
      · have hp := e6.mp h135
        have hi := ih h119
        have wn1 : wN v (10 + k) (i + 1).toNatClampNeg = wN v (10 + k) i.toNatClampNeg + 1 := by rw [es, wN_1, ein, if_pos hp]
        have wg : (wL v (10 + k) (v 7).toNatClampNeg).getD (wN v (10 + k) i.toNatClampNeg) 0 = i := by
          have z := wL_get (σ := v) (p := 10 + k) (i := i.toNatClampNeg) (by rw [ein]; exact hp) _ hin
          rw [z, ein]
        have hle2 := wN_le (σ := v) (p := 10 + k) (i := i.toNatClampNeg + 1) (v 7).toNatClampNeg hin
        rw [wN_1, ein, if_pos hp] at hle2
        rw [wn1, idT_1, wg, show (35 : Int32) :: num (lt v i 0) = [35] ++ num (lt v i 0) from rfl, ← List.append_assoc, ← List.append_assoc] at hi
        refine v_aload_n dX11_renderSledge_138 rfl rfl ?_
        refine gf_X11_51 dX11_renderSledge_139 rfl hO ?_
        refine v_bipush (v := (35)) dX11_renderSledge_142 (by decide) ?_
        refine ap_c htr dX11_renderSledge_144 rfl hS hT hb0 (by simp only [List.length_append, List.length_cons, List.length_nil, List.nil_append]; omega) (by decide) (by decide) (by omega) (by omega) (by omega) (Nat.le_of_ble_eq_true rfl) (fun M9 v9 c9 hS hT => ?_)
        have hc9 := hS.1
        have hs9 := ssc_b _ hS.1
        obtain ⟨hO, hC⟩ := tK _ _ hT
        obtain ⟨hSt, hRo, hSR, hLR, hSl, hLe, hkd, hinj, ⟨hfg, hRd, hSd, hLt⟩, -⟩ := _root_.id hC
        have hLf := hLe i i0 i12
        refine v_aload_n dX11_renderSledge_147 rfl rfl ?_
        refine gf_X11_20 dX11_renderSledge_148 rfl hO ?_
        refine gf_X11_231 dX11_renderSledge_151 rfl hSt ?_
        refine v_iload_n dX11_renderSledge_154 rfl rfl ?_
        refine v_aald1 dX11_renderSledge_155 hLR i0 i12 rfl ?_
        refine gf_X11_235 dX11_renderSledge_156 rfl hLf ?_
        rw [w0]
        refine ap_x htr dX11_renderSledge_159 rfl hS hT hb0 (by simp only [List.length_append, List.length_cons, List.length_nil, List.nil_append]; omega) g14 yi6 (by omega) (by omega) (by omega) (Nat.le_of_ble_eq_true rfl) (fun M9 v9 c9 hS hT => ?_)
        have hc9 := hS.1
        have hs9 := ssc_b _ hS.1
        obtain ⟨hO, hC⟩ := tK _ _ hT
        obtain ⟨hSt, hRo, hSR, hLR, hSl, hLe, hkd, hinj, ⟨hfg, hRd, hSd, hLt⟩, -⟩ := _root_.id hC
        have hLf := hLe i i0 i12
        refine v_pop dX11_renderSledge_162 rfl ?_
        refine v_iinc_3 dX11_renderSledge_163 rfl ?_
        refine v_goto (tgt := 111) dX11_renderSledge_166 (by decide) ?_
        exact hi _ _ _ hS hT
  refine v_astore_2 dX11_renderSledge_5 ?_
  by_cases hh : 0 < sd v k 2
  · skip
    refine v_aload_n dX11_renderSledge_6 rfl rfl ?_
    refine gf_X11_51 dX11_renderSledge_7 rfl hO ?_
    refine v_iconst (v := 0) dX11_renderSledge_10 (by decide) ?_
    refine k_X11_332 dX11_renderSledge_11 rfl (c_setL htr hSb) hBo (Nat.le_of_ble_eq_true rfl) (by omega) (by omega) (Nat.le_of_ble_eq_true rfl) (fun M9 h9 => ?_) (fun _ _ h9 => h9.elim)
    obtain ⟨h91, hF9⟩ := h9
    have hT : BT (a 7) vo M M9 vo := ⟨hF9, Or.inl rfl⟩
    have hS : SbC M9 (a 7) vo co [] := ⟨s1, ⟨fo, h91, fun j hj => absurd hj (Nat.not_lt_zero j)⟩, Nat.zero_le _⟩
    have hc9 := hS.1
    have hs9 := ssc_b _ hS.1
    obtain ⟨hO, hC⟩ := tK _ _ hT
    obtain ⟨hSt, hRo, hSR, hLR, hSl, hLe, hkd, hinj, ⟨hfg, hRd, hSd, hLt⟩, -⟩ := _root_.id hC
    have hSk := hSl k k0 k3
    refine V.wid (k' := co + 1) (n' := ssc co + 6) (by omega) (by omega) ?_
    refine v_aload_n dX11_renderSledge_14 rfl rfl ?_
    refine gf_X11_51 dX11_renderSledge_15 rfl hO ?_
    refine v_iload_n dX11_renderSledge_18 rfl rfl ?_
    refine ap_x htr dX11_renderSledge_19 rfl hS hT hb0 (by simp only [List.length_append, List.length_cons, List.length_nil, List.nil_append]; omega) k0 k6 (by omega) (by omega) (by omega) (Nat.le_of_ble_eq_true rfl) (fun M9 v9 c9 hS hT => ?_)
    have hc9 := hS.1
    have hs9 := ssc_b _ hS.1
    obtain ⟨hO, hC⟩ := tK _ _ hT
    obtain ⟨hSt, hRo, hSR, hLR, hSl, hLe, hkd, hinj, ⟨hfg, hRd, hSd, hLt⟩, -⟩ := _root_.id hC
    have hSk := hSl k k0 k3
    refine v_bipush (v := (58)) dX11_renderSledge_22 (by decide) ?_
    refine ap_c htr dX11_renderSledge_24 rfl hS hT hb0 (by simp only [List.length_append, List.length_cons, List.length_nil, List.nil_append]; omega) (by decide) (by decide) (by omega) (by omega) (by omega) (Nat.le_of_ble_eq_true rfl) (fun M9 v9 c9 hS hT => ?_)
    have hc9 := hS.1
    have hs9 := ssc_b _ hS.1
    obtain ⟨hO, hC⟩ := tK _ _ hT
    obtain ⟨hSt, hRo, hSR, hLR, hSl, hLe, hkd, hinj, ⟨hfg, hRd, hSd, hLt⟩, -⟩ := _root_.id hC
    have hSk := hSl k k0 k3
    refine v_aload_n dX11_renderSledge_27 rfl rfl ?_
    refine gf_X11_20 dX11_renderSledge_28 rfl hO ?_
    refine v_iload_n dX11_renderSledge_31 rfl rfl ?_
    refine k_X11_182 dX11_renderSledge_32 rfl (c_weightOn htr hC k0 k100) hSt (Nat.le_of_ble_eq_true rfl) (by omega) (by omega) (Nat.le_of_ble_eq_true rfl) (fun r32 M9 h9 => ?_) (fun _ _ h9 => h9.elim)
    obtain ⟨rfl, e9⟩ := h9
    subst M9
    refine ap_x htr dX11_renderSledge_35 rfl hS hT hb0 (by simp only [List.length_append, List.length_cons, List.length_nil, List.nil_append]; omega) u6 l6 (by omega) (by omega) (by omega) (Nat.le_of_ble_eq_true rfl) (fun M9 v9 c9 hS hT => ?_)
    have hc9 := hS.1
    have hs9 := ssc_b _ hS.1
    obtain ⟨hO, hC⟩ := tK _ _ hT
    obtain ⟨hSt, hRo, hSR, hLR, hSl, hLe, hkd, hinj, ⟨hfg, hRd, hSd, hLt⟩, -⟩ := _root_.id hC
    have hSk := hSl k k0 k3
    refine v_pop dX11_renderSledge_38 rfl ?_
    refine v_aload_n dX11_renderSledge_39 rfl rfl ?_
    refine gf_X11_51 dX11_renderSledge_40 rfl hO ?_
    refine v_bipush (v := (47)) dX11_renderSledge_43 (by decide) ?_
    refine ap_c htr dX11_renderSledge_45 rfl hS hT hb0 (by simp only [List.length_append, List.length_cons, List.length_nil, List.nil_append]; omega) (by decide) (by decide) (by omega) (by omega) (by omega) (Nat.le_of_ble_eq_true rfl) (fun M9 v9 c9 hS hT => ?_)
    have hc9 := hS.1
    have hs9 := ssc_b _ hS.1
    obtain ⟨hO, hC⟩ := tK _ _ hT
    obtain ⟨hSt, hRo, hSR, hLR, hSl, hLe, hkd, hinj, ⟨hfg, hRd, hSd, hLt⟩, -⟩ := _root_.id hC
    have hSk := hSl k k0 k3
    refine v_aload_n dX11_renderSledge_48 rfl rfl ?_
    refine gf_X11_177 dX11_renderSledge_49 rfl hSk ?_
    rw [y0]
    refine ap_x htr dX11_renderSledge_52 rfl hS hT hb0 (by simp only [List.length_append, List.length_cons, List.length_nil, List.nil_append]; omega) cz cz6 (by omega) (by omega) (by omega) (Nat.le_of_ble_eq_true rfl) (fun M9 v9 c9 hS hT => ?_)
    have hc9 := hS.1
    have hs9 := ssc_b _ hS.1
    obtain ⟨hO, hC⟩ := tK _ _ hT
    obtain ⟨hSt, hRo, hSR, hLR, hSl, hLe, hkd, hinj, ⟨hfg, hRd, hSd, hLt⟩, -⟩ := _root_.id hC
    have hSk := hSl k k0 k3
    refine v_pop dX11_renderSledge_55 rfl ?_
    refine v_aload_n dX11_renderSledge_56 rfl rfl ?_
    refine gf_X11_51 dX11_renderSledge_57 rfl hO ?_
    refine v_aload_n dX11_renderSledge_60 rfl rfl ?_
    refine k_X11_185 dX11_renderSledge_61 rfl (c_travels htr hSk) hSk (Nat.le_of_ble_eq_true rfl) (by omega) (by omega) (Nat.le_of_ble_eq_true rfl) (fun r61 M9 h9 => ?_) (fun _ _ h9 => h9.elim)
    obtain ⟨h91, e9⟩ := h9
    rw [h91, y2, if_pos hh]
    subst M9
    refine v_if_eq (tgt := 72) dX11_renderSledge_64 (by decide) (fun h64 => ?_) (fun h64 => ?_)
    · exact absurd h64 (by decide)
    · refine v_bipush (v := (62)) dX11_renderSledge_67 (by decide) ?_
      refine v_goto (tgt := 74) dX11_renderSledge_69 (by decide) ?_
      refine ap_c htr dX11_renderSledge_74 rfl hS hT hb0 (by simp only [List.length_append, List.length_cons, List.length_nil, List.nil_append]; omega) (by decide) (by decide) (by omega) (by omega) (by omega) (Nat.le_of_ble_eq_true rfl) (fun M9 v9 c9 hS hT => ?_)
      have hc9 := hS.1
      have hs9 := ssc_b _ hS.1
      obtain ⟨hO, hC⟩ := tK _ _ hT
      obtain ⟨hSt, hRo, hSR, hLR, hSl, hLe, hkd, hinj, ⟨hfg, hRd, hSd, hLt⟩, -⟩ := _root_.id hC
      have hSk := hSl k k0 k3
      refine v_aload_n dX11_renderSledge_77 rfl rfl ?_
      refine gf_X11_189 dX11_renderSledge_78 rfl hSk ?_
      rw [y1]
      refine ap_x htr dX11_renderSledge_81 rfl hS hT hb0 (by simp only [List.length_append, List.length_cons, List.length_nil, List.nil_append]; omega) u2 a6 (by omega) (by omega) (by omega) (Nat.le_of_ble_eq_true rfl) (fun M9 v9 c9 hS hT => ?_)
      have hc9 := hS.1
      have hs9 := ssc_b _ hS.1
      obtain ⟨hO, hC⟩ := tK _ _ hT
      obtain ⟨hSt, hRo, hSR, hLR, hSl, hLe, hkd, hinj, ⟨hfg, hRd, hSd, hLt⟩, -⟩ := _root_.id hC
      have hSk := hSl k k0 k3
      refine v_pop dX11_renderSledge_84 rfl ?_
      refine v_aload_n dX11_renderSledge_85 rfl rfl ?_
      refine k_X11_185 dX11_renderSledge_86 rfl (c_travels htr hSk) hSk (Nat.le_of_ble_eq_true rfl) (by omega) (by omega) (Nat.le_of_ble_eq_true rfl) (fun r86 M9 h9 => ?_) (fun _ _ h9 => h9.elim)
      obtain ⟨h91, e9⟩ := h9
      rw [h91, y2, if_pos hh]
      subst M9
      refine v_if_eq (tgt := 109) dX11_renderSledge_89 (by decide) (fun h89 => ?_) (fun h89 => ?_)
      · exact absurd h89 (by decide)
      · refine v_aload_n dX11_renderSledge_92 rfl rfl ?_
        refine gf_X11_51 dX11_renderSledge_93 rfl hO ?_
        refine v_bipush (v := (43)) dX11_renderSledge_96 (by decide) ?_
        refine ap_c htr dX11_renderSledge_98 rfl hS hT hb0 (by simp only [List.length_append, List.length_cons, List.length_nil, List.nil_append]; omega) (by decide) (by decide) (by omega) (by omega) (by omega) (Nat.le_of_ble_eq_true rfl) (fun M9 v9 c9 hS hT => ?_)
        have hc9 := hS.1
        have hs9 := ssc_b _ hS.1
        obtain ⟨hO, hC⟩ := tK _ _ hT
        obtain ⟨hSt, hRo, hSR, hLR, hSl, hLe, hkd, hinj, ⟨hfg, hRd, hSd, hLt⟩, -⟩ := _root_.id hC
        have hSk := hSl k k0 k3
        refine v_aload_n dX11_renderSledge_101 rfl rfl ?_
        refine gf_X11_192 dX11_renderSledge_102 rfl hSk ?_
        rw [y2]
        refine ap_x htr dX11_renderSledge_105 rfl hS hT hb0 (by simp only [List.length_append, List.length_cons, List.length_nil, List.nil_append]; omega) u4 o6 (by omega) (by omega) (by omega) (Nat.le_of_ble_eq_true rfl) (fun M9 v9 c9 hS hT => ?_)
        have hc9 := hS.1
        have hs9 := ssc_b _ hS.1
        obtain ⟨hO, hC⟩ := tK _ _ hT
        obtain ⟨hSt, hRo, hSR, hLR, hSl, hLe, hkd, hinj, ⟨hfg, hRd, hSd, hLt⟩, -⟩ := _root_.id hC
        have hSk := hSl k k0 k3
        refine v_pop dX11_renderSledge_108 rfl ?_
        refine v_iconst (v := 0) dX11_renderSledge_109 (by decide) ?_
        refine v_istore_3 dX11_renderSledge_110 ?_
        have e : ((((((((([] ++ num k) ++ [58]) ++ num (loadOn v k)) ++ [47]) ++ num (sd v k 0)) ++ [62]) ++ num (sd v k 1)) ++ [43]) ++ num (sd v k 2)) = slT v k := by
          have e2 : slT v k = _ := if_pos hh
          rw [e2]
          simp
        rw [e] at hS
        exact key 0 (Int32.le_refl _) hg5 _ _ _ (by rw [show wN v (10 + k) (0 : Int32).toNatClampNeg = 0 from rfl, show idT v (wL v (10 + k) (v 7).toNatClampNeg) 0 = [] from rfl, List.append_nil]; exact hS) hT
  · skip
    refine v_aload_n dX11_renderSledge_6 rfl rfl ?_
    refine gf_X11_51 dX11_renderSledge_7 rfl hO ?_
    refine v_iconst (v := 0) dX11_renderSledge_10 (by decide) ?_
    refine k_X11_332 dX11_renderSledge_11 rfl (c_setL htr hSb) hBo (Nat.le_of_ble_eq_true rfl) (by omega) (by omega) (Nat.le_of_ble_eq_true rfl) (fun M9 h9 => ?_) (fun _ _ h9 => h9.elim)
    obtain ⟨h91, hF9⟩ := h9
    have hT : BT (a 7) vo M M9 vo := ⟨hF9, Or.inl rfl⟩
    have hS : SbC M9 (a 7) vo co [] := ⟨s1, ⟨fo, h91, fun j hj => absurd hj (Nat.not_lt_zero j)⟩, Nat.zero_le _⟩
    have hc9 := hS.1
    have hs9 := ssc_b _ hS.1
    obtain ⟨hO, hC⟩ := tK _ _ hT
    obtain ⟨hSt, hRo, hSR, hLR, hSl, hLe, hkd, hinj, ⟨hfg, hRd, hSd, hLt⟩, -⟩ := _root_.id hC
    have hSk := hSl k k0 k3
    refine V.wid (k' := co + 1) (n' := ssc co + 6) (by omega) (by omega) ?_
    refine v_aload_n dX11_renderSledge_14 rfl rfl ?_
    refine gf_X11_51 dX11_renderSledge_15 rfl hO ?_
    refine v_iload_n dX11_renderSledge_18 rfl rfl ?_
    refine ap_x htr dX11_renderSledge_19 rfl hS hT hb0 (by simp only [List.length_append, List.length_cons, List.length_nil, List.nil_append]; omega) k0 k6 (by omega) (by omega) (by omega) (Nat.le_of_ble_eq_true rfl) (fun M9 v9 c9 hS hT => ?_)
    have hc9 := hS.1
    have hs9 := ssc_b _ hS.1
    obtain ⟨hO, hC⟩ := tK _ _ hT
    obtain ⟨hSt, hRo, hSR, hLR, hSl, hLe, hkd, hinj, ⟨hfg, hRd, hSd, hLt⟩, -⟩ := _root_.id hC
    have hSk := hSl k k0 k3
    refine v_bipush (v := (58)) dX11_renderSledge_22 (by decide) ?_
    refine ap_c htr dX11_renderSledge_24 rfl hS hT hb0 (by simp only [List.length_append, List.length_cons, List.length_nil, List.nil_append]; omega) (by decide) (by decide) (by omega) (by omega) (by omega) (Nat.le_of_ble_eq_true rfl) (fun M9 v9 c9 hS hT => ?_)
    have hc9 := hS.1
    have hs9 := ssc_b _ hS.1
    obtain ⟨hO, hC⟩ := tK _ _ hT
    obtain ⟨hSt, hRo, hSR, hLR, hSl, hLe, hkd, hinj, ⟨hfg, hRd, hSd, hLt⟩, -⟩ := _root_.id hC
    have hSk := hSl k k0 k3
    refine v_aload_n dX11_renderSledge_27 rfl rfl ?_
    refine gf_X11_20 dX11_renderSledge_28 rfl hO ?_
    refine v_iload_n dX11_renderSledge_31 rfl rfl ?_
    refine k_X11_182 dX11_renderSledge_32 rfl (c_weightOn htr hC k0 k100) hSt (Nat.le_of_ble_eq_true rfl) (by omega) (by omega) (Nat.le_of_ble_eq_true rfl) (fun r32 M9 h9 => ?_) (fun _ _ h9 => h9.elim)
    obtain ⟨rfl, e9⟩ := h9
    subst M9
    refine ap_x htr dX11_renderSledge_35 rfl hS hT hb0 (by simp only [List.length_append, List.length_cons, List.length_nil, List.nil_append]; omega) u6 l6 (by omega) (by omega) (by omega) (Nat.le_of_ble_eq_true rfl) (fun M9 v9 c9 hS hT => ?_)
    have hc9 := hS.1
    have hs9 := ssc_b _ hS.1
    obtain ⟨hO, hC⟩ := tK _ _ hT
    obtain ⟨hSt, hRo, hSR, hLR, hSl, hLe, hkd, hinj, ⟨hfg, hRd, hSd, hLt⟩, -⟩ := _root_.id hC
    have hSk := hSl k k0 k3
    refine v_pop dX11_renderSledge_38 rfl ?_
    refine v_aload_n dX11_renderSledge_39 rfl rfl ?_
    refine gf_X11_51 dX11_renderSledge_40 rfl hO ?_
    refine v_bipush (v := (47)) dX11_renderSledge_43 (by decide) ?_
    refine ap_c htr dX11_renderSledge_45 rfl hS hT hb0 (by simp only [List.length_append, List.length_cons, List.length_nil, List.nil_append]; omega) (by decide) (by decide) (by omega) (by omega) (by omega) (Nat.le_of_ble_eq_true rfl) (fun M9 v9 c9 hS hT => ?_)
    have hc9 := hS.1
    have hs9 := ssc_b _ hS.1
    obtain ⟨hO, hC⟩ := tK _ _ hT
    obtain ⟨hSt, hRo, hSR, hLR, hSl, hLe, hkd, hinj, ⟨hfg, hRd, hSd, hLt⟩, -⟩ := _root_.id hC
    have hSk := hSl k k0 k3
    refine v_aload_n dX11_renderSledge_48 rfl rfl ?_
    refine gf_X11_177 dX11_renderSledge_49 rfl hSk ?_
    rw [y0]
    refine ap_x htr dX11_renderSledge_52 rfl hS hT hb0 (by simp only [List.length_append, List.length_cons, List.length_nil, List.nil_append]; omega) cz cz6 (by omega) (by omega) (by omega) (Nat.le_of_ble_eq_true rfl) (fun M9 v9 c9 hS hT => ?_)
    have hc9 := hS.1
    have hs9 := ssc_b _ hS.1
    obtain ⟨hO, hC⟩ := tK _ _ hT
    obtain ⟨hSt, hRo, hSR, hLR, hSl, hLe, hkd, hinj, ⟨hfg, hRd, hSd, hLt⟩, -⟩ := _root_.id hC
    have hSk := hSl k k0 k3
    refine v_pop dX11_renderSledge_55 rfl ?_
    refine v_aload_n dX11_renderSledge_56 rfl rfl ?_
    refine gf_X11_51 dX11_renderSledge_57 rfl hO ?_
    refine v_aload_n dX11_renderSledge_60 rfl rfl ?_
    refine k_X11_185 dX11_renderSledge_61 rfl (c_travels htr hSk) hSk (Nat.le_of_ble_eq_true rfl) (by omega) (by omega) (Nat.le_of_ble_eq_true rfl) (fun r61 M9 h9 => ?_) (fun _ _ h9 => h9.elim)
    obtain ⟨h91, e9⟩ := h9
    rw [h91, y2, if_neg hh]
    subst M9
    refine v_if_eq (tgt := 72) dX11_renderSledge_64 (by decide) (fun h64 => ?_) (fun h64 => ?_)
    · refine v_bipush (v := (64)) dX11_renderSledge_72 (by decide) ?_
      refine ap_c htr dX11_renderSledge_74 rfl hS hT hb0 (by simp only [List.length_append, List.length_cons, List.length_nil, List.nil_append]; omega) (by decide) (by decide) (by omega) (by omega) (by omega) (Nat.le_of_ble_eq_true rfl) (fun M9 v9 c9 hS hT => ?_)
      have hc9 := hS.1
      have hs9 := ssc_b _ hS.1
      obtain ⟨hO, hC⟩ := tK _ _ hT
      obtain ⟨hSt, hRo, hSR, hLR, hSl, hLe, hkd, hinj, ⟨hfg, hRd, hSd, hLt⟩, -⟩ := _root_.id hC
      have hSk := hSl k k0 k3
      refine v_aload_n dX11_renderSledge_77 rfl rfl ?_
      refine gf_X11_189 dX11_renderSledge_78 rfl hSk ?_
      rw [y1]
      refine ap_x htr dX11_renderSledge_81 rfl hS hT hb0 (by simp only [List.length_append, List.length_cons, List.length_nil, List.nil_append]; omega) u2 a6 (by omega) (by omega) (by omega) (Nat.le_of_ble_eq_true rfl) (fun M9 v9 c9 hS hT => ?_)
      have hc9 := hS.1
      have hs9 := ssc_b _ hS.1
      obtain ⟨hO, hC⟩ := tK _ _ hT
      obtain ⟨hSt, hRo, hSR, hLR, hSl, hLe, hkd, hinj, ⟨hfg, hRd, hSd, hLt⟩, -⟩ := _root_.id hC
      have hSk := hSl k k0 k3
      refine v_pop dX11_renderSledge_84 rfl ?_
      refine v_aload_n dX11_renderSledge_85 rfl rfl ?_
      refine k_X11_185 dX11_renderSledge_86 rfl (c_travels htr hSk) hSk (Nat.le_of_ble_eq_true rfl) (by omega) (by omega) (Nat.le_of_ble_eq_true rfl) (fun r86 M9 h9 => ?_) (fun _ _ h9 => h9.elim)
      obtain ⟨h91, e9⟩ := h9
      rw [h91, y2, if_neg hh]
      subst M9
      refine v_if_eq (tgt := 109) dX11_renderSledge_89 (by decide) (fun h89 => ?_) (fun h89 => ?_)
      · refine v_iconst (v := 0) dX11_renderSledge_109 (by decide) ?_
        refine v_istore_3 dX11_renderSledge_110 ?_
        have e : ((((((([] ++ num k) ++ [58]) ++ num (loadOn v k)) ++ [47]) ++ num (sd v k 0)) ++ [64]) ++ num (sd v k 1)) = slT v k := by
          have e2 : slT v k = _ := if_neg hh
          rw [e2]
          simp
        rw [e] at hS
        exact key 0 (Int32.le_refl _) hg5 _ _ _ (by rw [show wN v (10 + k) (0 : Int32).toNatClampNeg = 0 from rfl, show idT v (wL v (10 + k) (v 7).toNatClampNeg) 0 = [] from rfl, List.append_nil]; exact hS) hT
      · exact absurd rfl h89
    · exact absurd rfl h64
