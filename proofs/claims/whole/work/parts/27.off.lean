/-! ===== a letter is taken off ===== -/
theorem sumN_nn {f : Int32 → Int32} : ∀ n : Nat, n ≤ 12 → (∀ i : Nat, i < n → 0 ≤ f (nI i) ∧ f (nI i) ≤ 9) → 0 ≤ (sumN f n).toInt ∧ (sumN f n).toInt ≤ 9 * n := by
  intro n
  induction n with
  | zero => exact fun _ _ => ⟨Int.le_refl 0, Int.le_refl 0⟩
  | succ n ih =>
    intro hn h
    obtain ⟨a1, a2⟩ := ih (by omega) (fun i hi => h i (by omega))
    obtain ⟨b1, b2⟩ := h n (by omega)
    have b3 := i_le.mp b1
    have b4 := i_le.mp b2
    have b5 : (9 : Int32).toInt = 9 := rfl
    rw [i_0] at b3
    rw [b5] at b4
    show 0 ≤ (sumN f n + f (nI n)).toInt ∧ (sumN f n + f (nI n)).toInt ≤ 9 * ((n + 1 : Nat) : Int)
    rw [i_add (by omega) (by omega)]
    omega
theorem loadOn_nn {σ : Int32 → Int32} (h7 : σ 7 ≤ 12) (hw : ∀ i, 0 ≤ i → i < σ 7 → 0 ≤ lt σ i 2 ∧ lt σ i 2 ≤ 9) (j : Int32) : 0 ≤ loadOn σ j := by
  unfold loadOn sumU
  have h12 := tc_le h7
  have e12 : (12 : Int32).toNatClampNeg = 12 := rfl
  rw [i_le, i_0]
  refine (sumN_nn _ (by omega) (fun i hi => ?_)).1
  obtain ⟨n0, n1⟩ := nI12 i (by omega)
  have lt9 : nI i < σ 7 := by
    by_cases q : 0 ≤ σ 7
    · rw [i_lt, ← tc_Int n0, ← tc_Int q, nI_t (by omega)]
      omega
    · have e0 : (σ 7).toNatClampNeg = 0 := by
        have q1 : (σ 7).toInt < 0 := by
          rw [i_le, i_0] at q
          omega
        exact Int.toNat_of_nonpos (by omega)
      omega
  obtain ⟨w1, w2⟩ := hw _ n0 lt9
  split
  · exact ⟨w1, w2⟩
  · exact ⟨by decide, by decide⟩
theorem dX3_takeOff_0 : decode cX3_takeOff 0 = .ok (.aload_n 0, 1) := by decide +kernel
theorem dX3_takeOff_1 : decode cX3_takeOff 1 = .ok (.getfield 12, 3) := by decide +kernel
theorem dX3_takeOff_4 : decode cX3_takeOff 4 = .ok (.iload_n 2, 1) := by decide +kernel
theorem dX3_takeOff_5 : decode cX3_takeOff 5 = .ok (.invokevirtual 129, 3) := by decide +kernel
theorem dX3_takeOff_8 : decode cX3_takeOff 8 = .ok (.astore_n 3, 1) := by decide +kernel
theorem dX3_takeOff_9 : decode cX3_takeOff 9 = .ok (.aload_n 3, 1) := by decide +kernel
theorem dX3_takeOff_10 : decode cX3_takeOff 10 = .ok (.ifnull 24, 3) := by decide +kernel
theorem dX3_takeOff_13 : decode cX3_takeOff 13 = .ok (.aload_n 3, 1) := by decide +kernel
theorem dX3_takeOff_14 : decode cX3_takeOff 14 = .ok (.iconst (-1), 1) := by decide +kernel
theorem dX3_takeOff_15 : decode cX3_takeOff 15 = .ok (.putfield 122, 3) := by decide +kernel
theorem dX3_takeOff_18 : decode cX3_takeOff 18 = .ok (.aload_n 3, 1) := by decide +kernel
theorem dX3_takeOff_19 : decode cX3_takeOff 19 = .ok (.aload_n 0, 1) := by decide +kernel
theorem dX3_takeOff_20 : decode cX3_takeOff 20 = .ok (.getfield 12, 3) := by decide +kernel
theorem dX3_takeOff_23 : decode cX3_takeOff 23 = .ok (.getfield 77, 3) := by decide +kernel
theorem dX3_takeOff_26 : decode cX3_takeOff 26 = .ok (.iload_n 1, 1) := by decide +kernel
theorem dX3_takeOff_27 : decode cX3_takeOff 27 = .ok (.aaload, 1) := by decide +kernel
theorem dX3_takeOff_28 : decode cX3_takeOff 28 = .ok (.getfield 86, 3) := by decide +kernel
theorem dX3_takeOff_31 : decode cX3_takeOff 31 = .ok (.putfield 125, 3) := by decide +kernel
theorem dX3_takeOff_34 : decode cX3_takeOff 34 = .ok (.aload_n 0, 1) := by decide +kernel
theorem dX3_takeOff_35 : decode cX3_takeOff 35 = .ok (.getfield 12, 3) := by decide +kernel
theorem dX3_takeOff_38 : decode cX3_takeOff 38 = .ok (.iload_n 1, 1) := by decide +kernel
theorem dX3_takeOff_39 : decode cX3_takeOff 39 = .ok (.invokevirtual 150, 3) := by decide +kernel
theorem dX3_takeOff_42 : decode cX3_takeOff 42 = .ok (.ireturn, 1) := by decide +kernel
set_option maxRecDepth 100000 in
set_option maxHeartbeats 4000000 in
theorem c_takeOff {l : Launch} {g : Nat → Nat} {M : LH} (htr : l.stackTraces = false) {kd : Nat → Nat} {r a : Nat} {ad : Nat → Nat} {sl le : Int32 → Nat} {fg tp : Int32} {F : Nat → Int32 → Int32} {σ : Int32 → Int32} (hC : StR kd r M a ad sl le fg tp F σ) {q : Nat → Nat} {D : Nat} (hK : Dk kd D r M a q) {k id : Int32} (hk0 : 0 ≤ k) (hk1 : k < σ 6) (hf : ¬ find σ id = -1) (hpl : lt σ (find σ id) 6 = 10 + k) : K_X3_takeOff l g 1 0 0 [.ref (q 0), .int k, .int id] M (RI (fun v M9 => v = loadOn (plS σ (find σ id) (sd σ k 1)) k ∧ ∃ F', StR kd r M9 a ad sl le fg tp F' (plS σ (find σ id) (sd σ k 1)) ∧ Frm kd r M M9) nX) := by
  refine Ko_X3_takeOff htr (fun X => ?_)
  have hC0 := hC
  have hK0 := hK
  obtain ⟨hSt, hRo, hSR, hLR, hSl, hLe, hkd, -, ⟨-, hRd, hSd, hLt⟩, hG⟩ := hC
  obtain ⟨hDk, hDs, ⟨f1, hB1⟩, ⟨f2, hB2⟩, hBl, ⟨f3, hB3⟩, hRt, ⟨f4, hB4⟩, hkD, hn34, hDr⟩ := hK
  have hG0 := hG
  obtain ⟨hg1, hg2, hg3, hg4, hg5, hg6, hg7, hg8, hgL, hgS, -⟩ := hG
  obtain ⟨p0, p1, -⟩ := find_in hg5 hf
  have p12 : (find σ id) < 12 := by clear hgL hgS hRd hSd hLt hLe hSl; lia
  have k3 : k < 3 := by clear hgL hgS hRd hSd hLt hLe hSl; lia
  obtain ⟨q0, q1, q2, q3, q4, q5, q6, q7⟩ := hLt _ p0 p1
  obtain ⟨z1, z2, z3, z4, -⟩ := hgL _ p0 p1
  have hLf := hLe _ p0 p12
  have hSk := hSl k hk0 k3
  obtain ⟨c0, c1, c2⟩ := hSd k hk0 hk1
  obtain ⟨u0, u1, u2, u3, -⟩ := hgS k hk0 hk1
  have nbL : ¬ q 0 = le (find σ id) := ne_of_cell hDk hLf (ob_ob (by decide))
  have nbS : ¬ a = le (find σ id) := ne_of_cell hSt hLf (ob_ob (by decide))
  have nbR : ¬ ad 1 = le (find σ id) := ne_of_cell hSR hLf ob_ra.symm
  have nbK : ¬ sl k = le (find σ id) := ne_of_cell hSk hLf (ob_ob (by decide))
  have hg9 : Good (plS σ (find σ id) (sd σ k 1)) := by
    refine Good_pl hG0 p0 p1 u2 (Or.inl u3) (by clear hgL hgS hRd hSd hLt hLe hSl; lia) (fun j j0 j1 => ?_)
    refine ⟨loadOn_nn (by rw [plS_lo p0 p12 (by decide) (by decide)]; exact hg6) (fun i i0 i1 => ?_) j, ?_⟩
    · rw [plS_lo p0 p12 (by decide) (by decide)] at i1
      rw [plS_n p0 p12 i0 (by clear hgL hgS hRd hSd hLt hLe hSl; lia) (by decide) (by decide) (fun z => absurd z.2 (by decide))]
      obtain ⟨w1, w2, w3, w4, -⟩ := hgL i i0 i1
      clear hgL hgS hRd hSd hLt hLe hSl
      exact ⟨by lia, w4⟩
    · obtain ⟨y0, y1, y2, y3, y4, y5, y6, y7⟩ := hgS j j0 j1
      rw [loadOn_pl hg6 p0 p1 j, hpl, if_neg (by clear hgL hgS hRd hSd hLt hLe hSl; lia : ¬ sd σ k 1 = 10 + j)]
      by_cases e : j = k
      · subst e
        rw [if_pos rfl]
        clear hgL hgS hRd hSd hLt hLe hSl q0 q1 q2 q3 q4 q5 q6 q7
        lia
      · rw [if_neg (fun z => e (by clear hgL hgS hRd hSd hLt hLe hSl q0 q1 q2 q3 q4 q5 q6 q7; lia))]
        clear hgL hgS hRd hSd hLt hLe hSl q0 q1 q2 q3 q4 q5 q6 q7
        lia
  have t9 : StR kd r (hup M (le (find σ id)) (ob 4 [.int (F 0 (find σ id)), .int (F 1 (find σ id)), .int (F 2 (find σ id)), .int (F 3 (find σ id)), .int (F 4 (find σ id)), .int (F 5 (find σ id)), .int (-1), .int (F 9 k)])) a ad sl le fg tp (upF F 0 8 (find σ id) (fun w => if w = 6 then -1 else if w = 7 then F 9 k else F w (find σ id))) (plS σ (find σ id) (sd σ k 1)) := by
    refine StR.of ?_ (Rl_pl (StR.toR hC0) hG0 p0 p1 (fun w hw => (if_neg (by omega)).trans (if_neg (by omega))) ?_ ?_) hg9
    · rw [plS_cS p0 p12]
      exact StC.let (StR.toC hC0) p0 p12 (fun w => if w = 6 then -1 else if w = 7 then F 9 k else F w (find σ id))
    · rw [if_pos rfl, if_pos (by clear hgL hgS hRd hSd hLt hLe hSl; lia)]
    · intro z
      exact c1
  refine v_aload_n dX3_takeOff_0 rfl rfl ?_
  refine gf_X3_12 dX3_takeOff_1 rfl hDk ?_
  refine v_iload_n dX3_takeOff_4 rfl rfl ?_
  refine kq_X3_129 dX3_takeOff_5 rfl (c_findLetter htr hC0 id) hSt (Nat.le_of_ble_eq_true rfl) (by omega) (by omega) (Nat.le_of_ble_eq_true rfl) (fun r5 M9 h9 => ?_) (fun _ _ h9 => h9.elim)
  obtain ⟨h9, e9⟩ := h9
  subst M9
  subst h9
  rw [if_neg hf]
  refine v_astore_3 dX3_takeOff_8 ?_
  refine v_aload_n dX3_takeOff_9 rfl rfl ?_
  refine v_ifnull dX3_takeOff_10 ?_
  refine v_aload_n dX3_takeOff_13 rfl rfl ?_
  refine v_iconst (v := (-1)) dX3_takeOff_14 (by decide) ?_
  refine pf_X3_122 dX3_takeOff_15 rfl hLf ?_
  refine v_aload_n dX3_takeOff_18 rfl rfl ?_
  refine v_aload_n dX3_takeOff_19 rfl rfl ?_
  refine gf_X3_12 dX3_takeOff_20 rfl ((hup_n nbL).trans hDk) ?_
  refine gf_X3_77 dX3_takeOff_23 rfl ((hup_n nbS).trans hSt) ?_
  refine v_iload_n dX3_takeOff_26 rfl rfl ?_
  refine v_aald1 dX3_takeOff_27 ((hup_n nbR).trans hSR) hk0 k3 rfl ?_
  refine gf_X3_86 dX3_takeOff_28 rfl ((hup_n nbK).trans hSk) ?_
  refine pf_X3_125 dX3_takeOff_31 rfl hup_s ?_
  rw [hup_hup]
  refine v_aload_n dX3_takeOff_34 rfl rfl ?_
  refine gf_X3_12 dX3_takeOff_35 rfl ((hup_n nbL).trans hDk) ?_
  refine v_iload_n dX3_takeOff_38 rfl rfl ?_
  refine k_X3_150 dX3_takeOff_39 rfl (c_weightOn htr t9 hk0 (by clear hgL hgS hRd hSd hLt hLe hSl; lia)) t9.1 (Nat.le_of_ble_eq_true rfl) (by omega) (by omega) (Nat.le_of_ble_eq_true rfl) (fun r39 M9 h9 => ?_) (fun _ _ h9 => h9.elim)
  obtain ⟨rfl, e9⟩ := h9
  subst M9
  exact v_iret dX3_takeOff_42 rfl ⟨rfl, _, t9, Frm.up (hkd.2.2.2.2.2 _ p0 p12)⟩ (by omega) (by omega)
