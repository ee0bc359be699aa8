theorem fst_in {p : Int32 → Bool} {n : Int32} (h : 0 ≤ n) : ∀ i, 0 ≤ i → i ≤ n → fstU p n i = -1 ∨ (i ≤ fstU p n i ∧ fstU p n i < n ∧ p (fstU p n i) = true) := by
  refine up_ind n (fun i h0 h1 ih => ?_)
  by_cases hi : i < n
  · rw [fstU_1 h0 hi]
    by_cases hp : p i = true
    · rw [if_pos hp]
      exact Or.inr ⟨by lia, hi, hp⟩
    · rw [if_neg hp]
      rcases ih hi with e | ⟨e1, e2, e3⟩
      · exact Or.inl e
      · exact Or.inr ⟨by lia, e2, e3⟩
  · have : i = n := by lia
    subst this
    exact Or.inl (fstU_n _ _)
theorem dX9_findLetter_0 : decode cX9_findLetter 0 = .ok (.iconst 0, 1) := by decide +kernel
theorem dX9_findLetter_1 : decode cX9_findLetter 1 = .ok (.istore_n 2, 1) := by decide +kernel
theorem dX9_findLetter_2 : decode cX9_findLetter 2 = .ok (.iload_n 2, 1) := by decide +kernel
theorem dX9_findLetter_3 : decode cX9_findLetter 3 = .ok (.aload_n 0, 1) := by decide +kernel
theorem dX9_findLetter_4 : decode cX9_findLetter 4 = .ok (.getfield 46, 3) := by decide +kernel
theorem dX9_findLetter_7 : decode cX9_findLetter 7 = .ok (.if_icmp .ge 29, 3) := by decide +kernel
theorem dX9_findLetter_10 : decode cX9_findLetter 10 = .ok (.aload_n 0, 1) := by decide +kernel
theorem dX9_findLetter_11 : decode cX9_findLetter 11 = .ok (.getfield 23, 3) := by decide +kernel
theorem dX9_findLetter_14 : decode cX9_findLetter 14 = .ok (.iload_n 2, 1) := by decide +kernel
theorem dX9_findLetter_15 : decode cX9_findLetter 15 = .ok (.aaload, 1) := by decide +kernel
theorem dX9_findLetter_16 : decode cX9_findLetter 16 = .ok (.getfield 73, 3) := by decide +kernel
theorem dX9_findLetter_19 : decode cX9_findLetter 19 = .ok (.iload_n 1, 1) := by decide +kernel
theorem dX9_findLetter_20 : decode cX9_findLetter 20 = .ok (.if_icmp .ne 10, 3) := by decide +kernel
theorem dX9_findLetter_23 : decode cX9_findLetter 23 = .ok (.aload_n 0, 1) := by decide +kernel
theorem dX9_findLetter_24 : decode cX9_findLetter 24 = .ok (.getfield 23, 3) := by decide +kernel
theorem dX9_findLetter_27 : decode cX9_findLetter 27 = .ok (.iload_n 2, 1) := by decide +kernel
theorem dX9_findLetter_28 : decode cX9_findLetter 28 = .ok (.aaload, 1) := by decide +kernel
theorem dX9_findLetter_29 : decode cX9_findLetter 29 = .ok (.areturn, 1) := by decide +kernel
theorem dX9_findLetter_30 : decode cX9_findLetter 30 = .ok (.iinc 2 1, 3) := by decide +kernel
theorem dX9_findLetter_33 : decode cX9_findLetter 33 = .ok (.goto (-31), 3) := by decide +kernel
theorem dX9_findLetter_36 : decode cX9_findLetter 36 = .ok (.aconst_null, 1) := by decide +kernel
theorem dX9_findLetter_37 : decode cX9_findLetter 37 = .ok (.areturn, 1) := by decide +kernel
set_option maxRecDepth 100000 in
theorem c_findLetter {l : Launch} {g : Nat → Nat} {M : LH} (htr : l.stackTraces = false) {kd : Nat → Nat} {r a : Nat} {ad : Nat → Nat} {sl le : Int32 → Nat} {fg tp : Int32} {F : Nat → Int32 → Int32} {σ : Int32 → Int32} (hC : StR kd r M a ad sl le fg tp F σ) (id : Int32) : K_X9_findLetter l g 0 0 0 [.ref a, .int id] M (RQ (fun o M9 => o = (if find σ id = -1 then none else some (le (find σ id))) ∧ M9 = M) nX) := by
  refine Ko_X9_findLetter htr (fun X => ?_)
  obtain ⟨hSt, hRo, hSa, hLs, hSl, hLe, -, -, ⟨-, hRd, hSd, hLt⟩, hG⟩ := hC
  obtain ⟨hg1, hg2, hg3, hg4, hg5, hg6, hg7, hg8, hgL, hgS, hgR, hgI, hgN, hg0⟩ := hG
  have key : ∀ i, 0 ≤ i → i ≤ σ 7 → find σ id = fstU (fun i => decide (lt σ i 0 = id)) (σ 7) i → V l g yX9_findLetter cX9_findLetter ((some (.object "SledgePost$Letter"))) [] 0 0 0 (RQ (fun o M9 => o = (if find σ id = -1 then none else some (le (find σ id))) ∧ M9 = M) nX) X M 0 0 2 [some (.ref a), some (.int id), some (.int i)] [] := by
    refine up_ind _ (fun i h0 h1 ih hs => ?_)
    refine v_iload_n dX9_findLetter_2 rfl rfl ?_
    refine v_aload_n dX9_findLetter_3 rfl rfl ?_
    refine gf_X9_46 dX9_findLetter_4 rfl (by assumption) ?_
    refine v_icmp_ge (tgt := 36) dX9_findLetter_7 (by decide) (fun h7 => ?_) (fun h7 => ?_)
    · have hi : i = σ 7 := by lia
      subst hi
      refine v_null dX9_findLetter_36 ?_
      exact v_nret dX9_findLetter_37 rfl ⟨by rw [hs, fstU_n]; rfl, rfl⟩ (by omega) (by omega)
    · have hi : i < σ 7 := by lia
      have hi12 : i < 12 := by lia
      obtain ⟨q0, q1, q2, q3, q4, q5, q6, q7⟩ := hLt i h0 hi
      obtain ⟨z1, z2, z3, z4, z5, z6, z7, z8, z9, z10, z11, z12, z13, z14⟩ := hgL i h0 hi
      refine v_aload_n dX9_findLetter_10 rfl rfl ?_
      refine gf_X9_23 dX9_findLetter_11 rfl (by assumption) ?_
      refine v_iload_n dX9_findLetter_14 rfl rfl ?_
      refine v_aald1 dX9_findLetter_15 (by assumption) h0 hi12 rfl ?_
      refine gf_X9_73 dX9_findLetter_16 rfl (hLe _ h0 hi12) ?_
      refine v_iload_n dX9_findLetter_19 rfl rfl ?_
      refine v_icmp_ne (tgt := 30) dX9_findLetter_20 (by decide) (fun h20 => ?_) (fun h20 => ?_)
      · refine v_iinc_2 dX9_findLetter_30 rfl ?_
        refine v_goto (tgt := 2) dX9_findLetter_33 (by decide) ?_
        have e9 : ¬ (decide (lt σ i 0 = id) = true) := by rw [decide_eq_true_eq]; intro e8; exact absurd (q0.trans e8) (by assumption)
        exact ih hi (hs.trans ((fstU_1 h0 hi).trans (if_neg e9)))
      · refine v_aload_n dX9_findLetter_23 rfl rfl ?_
        refine gf_X9_23 dX9_findLetter_24 rfl (by assumption) ?_
        refine v_iload_n dX9_findLetter_27 rfl rfl ?_
        refine v_aald1 dX9_findLetter_28 (by assumption) h0 hi12 rfl ?_
        have e9 : find σ id = i := hs.trans ((fstU_1 h0 hi).trans (if_pos (decide_eq_true_eq.mpr (q0.symm.trans (by assumption)))))
        exact v_aret dX9_findLetter_29 rfl ⟨by rw [e9, if_neg (by lia)], rfl⟩ (by omega) (by omega)
  refine v_iconst (v := 0) dX9_findLetter_0 (by decide) ?_
  refine v_istore_2 dX9_findLetter_1 ?_
  exact key 0 (by lia) (by lia) rfl
theorem dX9_letterOfCode_0 : decode cX9_letterOfCode 0 = .ok (.iconst 0, 1) := by decide +kernel
theorem dX9_letterOfCode_1 : decode cX9_letterOfCode 1 = .ok (.istore_n 2, 1) := by decide +kernel
theorem dX9_letterOfCode_2 : decode cX9_letterOfCode 2 = .ok (.iload_n 2, 1) := by decide +kernel
theorem dX9_letterOfCode_3 : decode cX9_letterOfCode 3 = .ok (.aload_n 0, 1) := by decide +kernel
theorem dX9_letterOfCode_4 : decode cX9_letterOfCode 4 = .ok (.getfield 46, 3) := by decide +kernel
theorem dX9_letterOfCode_7 : decode cX9_letterOfCode 7 = .ok (.if_icmp .ge 29, 3) := by decide +kernel
theorem dX9_letterOfCode_10 : decode cX9_letterOfCode 10 = .ok (.aload_n 0, 1) := by decide +kernel
theorem dX9_letterOfCode_11 : decode cX9_letterOfCode 11 = .ok (.getfield 23, 3) := by decide +kernel
theorem dX9_letterOfCode_14 : decode cX9_letterOfCode 14 = .ok (.iload_n 2, 1) := by decide +kernel
theorem dX9_letterOfCode_15 : decode cX9_letterOfCode 15 = .ok (.aaload, 1) := by decide +kernel
theorem dX9_letterOfCode_16 : decode cX9_letterOfCode 16 = .ok (.invokevirtual 76, 3) := by decide +kernel
theorem dX9_letterOfCode_19 : decode cX9_letterOfCode 19 = .ok (.iload_n 1, 1) := by decide +kernel
theorem dX9_letterOfCode_20 : decode cX9_letterOfCode 20 = .ok (.if_icmp .ne 10, 3) := by decide +kernel
theorem dX9_letterOfCode_23 : decode cX9_letterOfCode 23 = .ok (.aload_n 0, 1) := by decide +kernel
theorem dX9_letterOfCode_24 : decode cX9_letterOfCode 24 = .ok (.getfield 23, 3) := by decide +kernel
theorem dX9_letterOfCode_27 : decode cX9_letterOfCode 27 = .ok (.iload_n 2, 1) := by decide +kernel
theorem dX9_letterOfCode_28 : decode cX9_letterOfCode 28 = .ok (.aaload, 1) := by decide +kernel
theorem dX9_letterOfCode_29 : decode cX9_letterOfCode 29 = .ok (.areturn, 1) := by decide +kernel
theorem dX9_letterOfCode_30 : decode cX9_letterOfCode 30 = .ok (.iinc 2 1, 3) := by decide +kernel
theorem dX9_letterOfCode_33 : decode cX9_letterOfCode 33 = .ok (.goto (-31), 3) := by decide +kernel
theorem dX9_letterOfCode_36 : decode cX9_letterOfCode 36 = .ok (.aconst_null, 1) := by decide +kernel
theorem dX9_letterOfCode_37 : decode cX9_letterOfCode 37 = .ok (.areturn, 1) := by decide +kernel
set_option maxRecDepth 100000 in
theorem c_letterOfCode {l : Launch} {g : Nat → Nat} {M : LH} (htr : l.stackTraces = false) {kd : Nat → Nat} {r a : Nat} {ad : Nat → Nat} {sl le : Int32 → Nat} {fg tp : Int32} {F : Nat → Int32 → Int32} {σ : Int32 → Int32} (hC : StR kd r M a ad sl le fg tp F σ) (cd : Int32) : K_X9_letterOfCode l g 1 0 0 [.ref a, .int cd] M (RQ (fun o M9 => o = (if findC σ cd = -1 then none else some (le (findC σ cd))) ∧ M9 = M) nX) := by
  refine Ko_X9_letterOfCode htr (fun X => ?_)
  obtain ⟨hSt, hRo, hSa, hLs, hSl, hLe, -, -, ⟨-, hRd, hSd, hLt⟩, hG⟩ := hC
  obtain ⟨hg1, hg2, hg3, hg4, hg5, hg6, hg7, hg8, hgL, hgS, hgR, hgI, hgN, hg0⟩ := hG
  have key : ∀ i, 0 ≤ i → i ≤ σ 7 → findC σ cd = fstU (fun i => decide (codeN (lt σ i 0) (lt σ i 1) = cd)) (σ 7) i → V l g yX9_letterOfCode cX9_letterOfCode ((some (.object "SledgePost$Letter"))) [] 1 0 0 (RQ (fun o M9 => o = (if findC σ cd = -1 then none else some (le (findC σ cd))) ∧ M9 = M) nX) X M 0 0 2 [some (.ref a), some (.int cd), some (.int i)] [] := by
    refine up_ind _ (fun i h0 h1 ih hs => ?_)
    refine v_iload_n dX9_letterOfCode_2 rfl rfl ?_
    refine v_aload_n dX9_letterOfCode_3 rfl rfl ?_
    refine gf_X9_46 dX9_letterOfCode_4 rfl (by assumption) ?_
    refine v_icmp_ge (tgt := 36) dX9_letterOfCode_7 (by decide) (fun h7 => ?_) (fun h7 => ?_)
    · have hi : i = σ 7 := by lia
      subst hi
      refine v_null dX9_letterOfCode_36 ?_
      exact v_nret dX9_letterOfCode_37 rfl ⟨by rw [hs, fstU_n]; rfl, rfl⟩ (by omega) (by omega)
    · have hi : i < σ 7 := by lia
      have hi12 : i < 12 := by lia
      obtain ⟨q0, q1, q2, q3, q4, q5, q6, q7⟩ := hLt i h0 hi
      obtain ⟨z1, z2, z3, z4, z5, z6, z7, z8, z9, z10, z11, z12, z13, z14⟩ := hgL i h0 hi
      refine v_aload_n dX9_letterOfCode_10 rfl rfl ?_
      refine gf_X9_23 dX9_letterOfCode_11 rfl (by assumption) ?_
      refine v_iload_n dX9_letterOfCode_14 rfl rfl ?_
      refine v_aald1 dX9_letterOfCode_15 (by assumption) h0 hi12 rfl ?_
      refine k_X9_76 dX9_letterOfCode_16 rfl (c_code htr (hLe i h0 hi12)) (hLe i h0 hi12) (Nat.le_of_ble_eq_true rfl) (by omega) (by omega) (Nat.le_of_ble_eq_true rfl) (fun r16 M9 h9 => ?_) (fun _ _ h9 => h9.elim)
      obtain ⟨rfl, rfl⟩ := h9
      refine v_iload_n dX9_letterOfCode_19 rfl rfl ?_
      refine v_icmp_ne (tgt := 30) dX9_letterOfCode_20 (by decide) (fun h20 => ?_) (fun h20 => ?_)
      · refine v_iinc_2 dX9_letterOfCode_30 rfl ?_
        refine v_goto (tgt := 2) dX9_letterOfCode_33 (by decide) ?_
        have e9 : ¬ (decide (codeN (lt σ i 0) (lt σ i 1) = cd) = true) := by rw [decide_eq_true_eq]; intro e8; exact absurd (show codeN (F 0 i) (F 1 i) = cd by rw [q0, q1]; exact e8) (by assumption)
        exact ih hi (hs.trans ((fstU_1 h0 hi).trans (if_neg e9)))
      · refine v_aload_n dX9_letterOfCode_23 rfl rfl ?_
        refine gf_X9_23 dX9_letterOfCode_24 rfl (by assumption) ?_
        refine v_iload_n dX9_letterOfCode_27 rfl rfl ?_
        refine v_aald1 dX9_letterOfCode_28 (by assumption) h0 hi12 rfl ?_
        have e9 : findC σ cd = i := hs.trans ((fstU_1 h0 hi).trans (if_pos (decide_eq_true_eq.mpr (by rw [← q0, ← q1]; assumption))))
        exact v_aret dX9_letterOfCode_29 rfl ⟨by rw [e9, if_neg (by lia)], rfl⟩ (by omega) (by omega)
  refine v_iconst (v := 0) dX9_letterOfCode_0 (by decide) ?_
  refine v_istore_2 dX9_letterOfCode_1 ?_
  exact key 0 (by lia) (by lia) rfl
theorem dX9_countBefore_0 : decode cX9_countBefore 0 = .ok (.iconst 0, 1) := by decide +kernel
theorem dX9_countBefore_1 : decode cX9_countBefore 1 = .ok (.istore_n 2, 1) := by decide +kernel
theorem dX9_countBefore_2 : decode cX9_countBefore 2 = .ok (.iconst 0, 1) := by decide +kernel
theorem dX9_countBefore_3 : decode cX9_countBefore 3 = .ok (.istore_n 3, 1) := by decide +kernel
theorem dX9_countBefore_4 : decode cX9_countBefore 4 = .ok (.iload_n 3, 1) := by decide +kernel
theorem dX9_countBefore_5 : decode cX9_countBefore 5 = .ok (.aload_n 0, 1) := by decide +kernel
theorem dX9_countBefore_6 : decode cX9_countBefore 6 = .ok (.getfield 46, 3) := by decide +kernel
theorem dX9_countBefore_9 : decode cX9_countBefore 9 = .ok (.if_icmp .ge 25, 3) := by decide +kernel
theorem dX9_countBefore_12 : decode cX9_countBefore 12 = .ok (.aload_n 0, 1) := by decide +kernel
theorem dX9_countBefore_13 : decode cX9_countBefore 13 = .ok (.getfield 23, 3) := by decide +kernel
theorem dX9_countBefore_16 : decode cX9_countBefore 16 = .ok (.iload_n 3, 1) := by decide +kernel
theorem dX9_countBefore_17 : decode cX9_countBefore 17 = .ok (.aaload, 1) := by decide +kernel
theorem dX9_countBefore_18 : decode cX9_countBefore 18 = .ok (.aload_n 1, 1) := by decide +kernel
theorem dX9_countBefore_19 : decode cX9_countBefore 19 = .ok (.invokevirtual 84, 3) := by decide +kernel
theorem dX9_countBefore_22 : decode cX9_countBefore 22 = .ok (.ifCond .eq 6, 3) := by decide +kernel
theorem dX9_countBefore_25 : decode cX9_countBefore 25 = .ok (.iinc 2 1, 3) := by decide +kernel
theorem dX9_countBefore_28 : decode cX9_countBefore 28 = .ok (.iinc 3 1, 3) := by decide +kernel
theorem dX9_countBefore_31 : decode cX9_countBefore 31 = .ok (.goto (-27), 3) := by decide +kernel
theorem dX9_countBefore_34 : decode cX9_countBefore 34 = .ok (.iload_n 2, 1) := by decide +kernel
theorem dX9_countBefore_35 : decode cX9_countBefore 35 = .ok (.ireturn, 1) := by decide +kernel
set_option maxRecDepth 100000 in
theorem c_countBefore {l : Launch} {g : Nat → Nat} {M : LH} (htr : l.stackTraces = false) {kd : Nat → Nat} {r a : Nat} {ad : Nat → Nat} {sl le : Int32 → Nat} {fg tp : Int32} {F : Nat → Int32 → Int32} {σ : Int32 → Int32} (hC : StR kd r M a ad sl le fg tp F σ) {j : Int32} (hj0 : 0 ≤ j) (hj : j < σ 7) : K_X9_countBefore l g 1 0 0 [.ref a, .ref (le j)] M (RI (fun v M9 => v = rankU σ j ∧ M9 = M) nX) := by
  refine Ko_X9_countBefore htr (fun X => ?_)
  obtain ⟨hSt, hRo, hSa, hLs, hSl, hLe, -, -, ⟨-, hRd, hSd, hLt⟩, hG⟩ := hC
  obtain ⟨hg1, hg2, hg3, hg4, hg5, hg6, hg7, hg8, hgL, hgS, hgR, hgI, hgN, hg0⟩ := hG
  have hj12 : j < 12 := by lia
  obtain ⟨p0, p1, p2, p3, -⟩ := hLt j hj0 hj
  have key : ∀ i, 0 ≤ i → i ≤ σ 7 → ∀ s : Int32, s = sumU (fun o => if bef σ o j = true then 1 else 0) i → V l g yX9_countBefore cX9_countBefore ((some .int)) [] 1 0 0 (RI (fun v M9 => v = rankU σ j ∧ M9 = M) nX) X M 0 0 4 [some (.ref a), some (.ref (le j)), some (.int s), some (.int i)] [] := by
    refine up_ind _ (fun i h0 h1 ih s hs => ?_)
    refine v_iload_n dX9_countBefore_4 rfl rfl ?_
    refine v_aload_n dX9_countBefore_5 rfl rfl ?_
    refine gf_X9_46 dX9_countBefore_6 rfl (by assumption) ?_
    refine v_icmp_ge (tgt := 34) dX9_countBefore_9 (by decide) (fun h9 => ?_) (fun h9 => ?_)
    · have hi : i = σ 7 := by lia
      subst hi
      refine v_iload_n dX9_countBefore_34 rfl rfl ?_
      exact v_iret dX9_countBefore_35 rfl ⟨hs, rfl⟩ (by omega) (by omega)
    · have hi : i < σ 7 := by lia
      have hi12 : i < 12 := by lia
      obtain ⟨q0, q1, q2, q3, q4, q5, q6, q7⟩ := hLt i h0 hi
      obtain ⟨z1, z2, z3, z4, z5, z6, z7, z8, z9, z10, z11, z12, z13, z14⟩ := hgL i h0 hi
      have hid : lt σ i 0 < lt σ j 0 ↔ i < j := by
        constructor
        · intro h
          rcases Int32.lt_or_le i j with q | q
          · exact q
          · rcases (by lia : i = j ∨ j < i) with e | e
            · subst e; lia
            · have := hgI j i hj0 e hi; lia
        · exact fun h => hgI i j h0 h hj
      refine v_aload_n dX9_countBefore_12 rfl rfl ?_
      refine gf_X9_23 dX9_countBefore_13 rfl (by assumption) ?_
      refine v_iload_n dX9_countBefore_16 rfl rfl ?_
      refine v_aald1 dX9_countBefore_17 (by assumption) h0 hi12 rfl ?_
      refine v_aload_n dX9_countBefore_18 rfl rfl ?_
      refine k_X9_84 dX9_countBefore_19 rfl (c_ranksBefore htr (hLe i h0 hi12) (hLe j hj0 hj12)) (hLe i h0 hi12) (Nat.le_of_ble_eq_true rfl) (by omega) (by omega) (Nat.le_of_ble_eq_true rfl) (fun r19 M9 h9 => ?_) (fun _ _ h9 => h9.elim)
      obtain ⟨rfl, rfl⟩ := h9
      refine v_if_eq (tgt := 28) dX9_countBefore_22 (by decide) (fun h22 => ?_) (fun h22 => ?_)
      · refine v_iinc_3 dX9_countBefore_28 rfl ?_
        refine v_goto (tgt := 4) dX9_countBefore_31 (by decide) ?_
        refine ih hi _ ?_
        rw [sumU_1 h0 hi, hs]
        unfold bef
        clear hgI hgN hgS hgR hgL hRd hSd hLt hLe hSl ih
        grind
      · refine v_iinc_2 dX9_countBefore_25 rfl ?_
        refine v_iinc_3 dX9_countBefore_28 rfl ?_
        refine v_goto (tgt := 4) dX9_countBefore_31 (by decide) ?_
        refine ih hi _ ?_
        rw [sumU_1 h0 hi, hs]
        unfold bef
        clear hgI hgN hgS hgR hgL hRd hSd hLt hLe hSl ih
        grind
  refine v_iconst (v := 0) dX9_countBefore_0 (by decide) ?_
  refine v_istore_2 dX9_countBefore_1 ?_
  refine v_iconst (v := 0) dX9_countBefore_2 (by decide) ?_
  refine v_istore_3 dX9_countBefore_3 ?_
  exact key 0 (by lia) (by lia) 0 rfl
theorem dX9_letterOfRank_0 : decode cX9_letterOfRank 0 = .ok (.iconst 0, 1) := by decide +kernel
theorem dX9_letterOfRank_1 : decode cX9_letterOfRank 1 = .ok (.istore_n 2, 1) := by decide +kernel
theorem dX9_letterOfRank_2 : decode cX9_letterOfRank 2 = .ok (.iload_n 2, 1) := by decide +kernel
theorem dX9_letterOfRank_3 : decode cX9_letterOfRank 3 = .ok (.aload_n 0, 1) := by decide +kernel
theorem dX9_letterOfRank_4 : decode cX9_letterOfRank 4 = .ok (.getfield 46, 3) := by decide +kernel
theorem dX9_letterOfRank_7 : decode cX9_letterOfRank 7 = .ok (.if_icmp .ge 30, 3) := by decide +kernel
theorem dX9_letterOfRank_10 : decode cX9_letterOfRank 10 = .ok (.aload_n 0, 1) := by decide +kernel
theorem dX9_letterOfRank_11 : decode cX9_letterOfRank 11 = .ok (.aload_n 0, 1) := by decide +kernel
theorem dX9_letterOfRank_12 : decode cX9_letterOfRank 12 = .ok (.getfield 23, 3) := by decide +kernel
theorem dX9_letterOfRank_15 : decode cX9_letterOfRank 15 = .ok (.iload_n 2, 1) := by decide +kernel
theorem dX9_letterOfRank_16 : decode cX9_letterOfRank 16 = .ok (.aaload, 1) := by decide +kernel
theorem dX9_letterOfRank_17 : decode cX9_letterOfRank 17 = .ok (.invokevirtual 80, 3) := by decide +kernel
theorem dX9_letterOfRank_20 : decode cX9_letterOfRank 20 = .ok (.iload_n 1, 1) := by decide +kernel
theorem dX9_letterOfRank_21 : decode cX9_letterOfRank 21 = .ok (.if_icmp .ne 10, 3) := by decide +kernel
theorem dX9_letterOfRank_24 : decode cX9_letterOfRank 24 = .ok (.aload_n 0, 1) := by decide +kernel
theorem dX9_letterOfRank_25 : decode cX9_letterOfRank 25 = .ok (.getfield 23, 3) := by decide +kernel
theorem dX9_letterOfRank_28 : decode cX9_letterOfRank 28 = .ok (.iload_n 2, 1) := by decide +kernel
theorem dX9_letterOfRank_29 : decode cX9_letterOfRank 29 = .ok (.aaload, 1) := by decide +kernel
theorem dX9_letterOfRank_30 : decode cX9_letterOfRank 30 = .ok (.areturn, 1) := by decide +kernel
theorem dX9_letterOfRank_31 : decode cX9_letterOfRank 31 = .ok (.iinc 2 1, 3) := by decide +kernel
theorem dX9_letterOfRank_34 : decode cX9_letterOfRank 34 = .ok (.goto (-32), 3) := by decide +kernel
theorem dX9_letterOfRank_37 : decode cX9_letterOfRank 37 = .ok (.aconst_null, 1) := by decide +kernel
theorem dX9_letterOfRank_38 : decode cX9_letterOfRank 38 = .ok (.areturn, 1) := by decide +kernel
set_option maxRecDepth 100000 in
theorem c_letterOfRank {l : Launch} {g : Nat → Nat} {M : LH} (htr : l.stackTraces = false) {kd : Nat → Nat} {r a : Nat} {ad : Nat → Nat} {sl le : Int32 → Nat} {fg tp : Int32} {F : Nat → Int32 → Int32} {σ : Int32 → Int32} (hC : StR kd r M a ad sl le fg tp F σ) (rk : Int32) : K_X9_letterOfRank l g 2 0 0 [.ref a, .int rk] M (RQ (fun o M9 => o = (if findR σ rk = -1 then none else some (le (findR σ rk))) ∧ M9 = M) nX) := by
  refine Ko_X9_letterOfRank htr (fun X => ?_)
  have hC0 := hC
  obtain ⟨hSt, hRo, hSa, hLs, hSl, hLe, -, -, ⟨-, hRd, hSd, hLt⟩, hG⟩ := hC
  obtain ⟨hg1, hg2, hg3, hg4, hg5, hg6, hg7, hg8, hgL, hgS, hgR, hgI, hgN, hg0⟩ := hG
  have key : ∀ i, 0 ≤ i → i ≤ σ 7 → findR σ rk = fstU (fun i => decide (rankU σ i = rk)) (σ 7) i → V l g yX9_letterOfRank cX9_letterOfRank ((some (.object "SledgePost$Letter"))) [] 2 0 0 (RQ (fun o M9 => o = (if findR σ rk = -1 then none else some (le (findR σ rk))) ∧ M9 = M) nX) X M 0 0 2 [some (.ref a), some (.int rk), some (.int i)] [] := by
    refine up_ind _ (fun i h0 h1 ih hs => ?_)
    refine v_iload_n dX9_letterOfRank_2 rfl rfl ?_
    refine v_aload_n dX9_letterOfRank_3 rfl rfl ?_
    refine gf_X9_46 dX9_letterOfRank_4 rfl (by assumption) ?_
    refine v_icmp_ge (tgt := 37) dX9_letterOfRank_7 (by decide) (fun h7 => ?_) (fun h7 => ?_)
    · have hi : i = σ 7 := by lia
      subst hi
      refine v_null dX9_letterOfRank_37 ?_
      exact v_nret dX9_letterOfRank_38 rfl ⟨by rw [hs, fstU_n]; rfl, rfl⟩ (by omega) (by omega)
    · have hi : i < σ 7 := by lia
      have hi12 : i < 12 := by lia
      obtain ⟨q0, q1, q2, q3, q4, q5, q6, q7⟩ := hLt i h0 hi
      obtain ⟨z1, z2, z3, z4, z5, z6, z7, z8, z9, z10, z11, z12, z13, z14⟩ := hgL i h0 hi
      refine v_aload_n dX9_letterOfRank_10 rfl rfl ?_
      refine v_aload_n dX9_letterOfRank_11 rfl rfl ?_
      refine gf_X9_23 dX9_letterOfRank_12 rfl (by assumption) ?_
      refine v_iload_n dX9_letterOfRank_15 rfl rfl ?_
      refine v_aald1 dX9_letterOfRank_16 (by assumption) h0 hi12 rfl ?_
      refine k_X9_80 dX9_letterOfRank_17 rfl (c_countBefore htr hC0 h0 hi) (by assumption) (Nat.le_of_ble_eq_true rfl) (by omega) (by omega) (Nat.le_of_ble_eq_true rfl) (fun r17 M9 h9 => ?_) (fun _ _ h9 => h9.elim)
      obtain ⟨rfl, rfl⟩ := h9
      refine v_iload_n dX9_letterOfRank_20 rfl rfl ?_
      refine v_icmp_ne (tgt := 31) dX9_letterOfRank_21 (by decide) (fun h21 => ?_) (fun h21 => ?_)
      · refine v_iinc_2 dX9_letterOfRank_31 rfl ?_
        refine v_goto (tgt := 2) dX9_letterOfRank_34 (by decide) ?_
        have e9 : ¬ (decide (rankU σ i = rk) = true) := by rw [decide_eq_true_eq]; intro e8; exact absurd (e8) (by assumption)
        exact ih hi (hs.trans ((fstU_1 h0 hi).trans (if_neg e9)))
      · refine v_aload_n dX9_letterOfRank_24 rfl rfl ?_
        refine gf_X9_23 dX9_letterOfRank_25 rfl (by assumption) ?_
        refine v_iload_n dX9_letterOfRank_28 rfl rfl ?_
        refine v_aald1 dX9_letterOfRank_29 (by assumption) h0 hi12 rfl ?_
        have e9 : findR σ rk = i := hs.trans ((fstU_1 h0 hi).trans (if_pos (decide_eq_true_eq.mpr (by assumption))))
        exact v_aret dX9_letterOfRank_30 rfl ⟨by rw [e9, if_neg (by lia)], rfl⟩ (by omega) (by omega)
  refine v_iconst (v := 0) dX9_letterOfRank_0 (by decide) ?_
  refine v_istore_2 dX9_letterOfRank_1 ?_
  exact key 0 (by lia) (by lia) rfl
theorem dX9_letterAtPlace_0 : decode cX9_letterAtPlace 0 = .ok (.iconst 0, 1) := by decide +kernel
theorem dX9_letterAtPlace_1 : decode cX9_letterAtPlace 1 = .ok (.istore_n 3, 1) := by decide +kernel
theorem dX9_letterAtPlace_2 : decode cX9_letterAtPlace 2 = .ok (.iconst 0, 1) := by decide +kernel
theorem dX9_letterAtPlace_3 : decode cX9_letterAtPlace 3 = .ok (.istore 4, 2) := by decide +kernel
theorem dX9_letterAtPlace_5 : decode cX9_letterAtPlace 5 = .ok (.iload 4, 2) := by decide +kernel
theorem dX9_letterAtPlace_7 : decode cX9_letterAtPlace 7 = .ok (.aload_n 0, 1) := by decide +kernel
theorem dX9_letterAtPlace_8 : decode cX9_letterAtPlace 8 = .ok (.getfield 46, 3) := by decide +kernel
theorem dX9_letterAtPlace_11 : decode cX9_letterAtPlace 11 = .ok (.if_icmp .ge 39, 3) := by decide +kernel
theorem dX9_letterAtPlace_14 : decode cX9_letterAtPlace 14 = .ok (.aload_n 0, 1) := by decide +kernel
theorem dX9_letterAtPlace_15 : decode cX9_letterAtPlace 15 = .ok (.getfield 23, 3) := by decide +kernel
theorem dX9_letterAtPlace_18 : decode cX9_letterAtPlace 18 = .ok (.iload 4, 2) := by decide +kernel
theorem dX9_letterAtPlace_20 : decode cX9_letterAtPlace 20 = .ok (.aaload, 1) := by decide +kernel
theorem dX9_letterAtPlace_21 : decode cX9_letterAtPlace 21 = .ok (.getfield 88, 3) := by decide +kernel
theorem dX9_letterAtPlace_24 : decode cX9_letterAtPlace 24 = .ok (.iload_n 1, 1) := by decide +kernel
theorem dX9_letterAtPlace_25 : decode cX9_letterAtPlace 25 = .ok (.if_icmp .ne 19, 3) := by decide +kernel
theorem dX9_letterAtPlace_28 : decode cX9_letterAtPlace 28 = .ok (.iload_n 3, 1) := by decide +kernel
theorem dX9_letterAtPlace_29 : decode cX9_letterAtPlace 29 = .ok (.iload_n 2, 1) := by decide +kernel
theorem dX9_letterAtPlace_30 : decode cX9_letterAtPlace 30 = .ok (.if_icmp .ne 11, 3) := by decide +kernel
theorem dX9_letterAtPlace_33 : decode cX9_letterAtPlace 33 = .ok (.aload_n 0, 1) := by decide +kernel
theorem dX9_letterAtPlace_34 : decode cX9_letterAtPlace 34 = .ok (.getfield 23, 3) := by decide +kernel
theorem dX9_letterAtPlace_37 : decode cX9_letterAtPlace 37 = .ok (.iload 4, 2) := by decide +kernel
theorem dX9_letterAtPlace_39 : decode cX9_letterAtPlace 39 = .ok (.aaload, 1) := by decide +kernel
theorem dX9_letterAtPlace_40 : decode cX9_letterAtPlace 40 = .ok (.areturn, 1) := by decide +kernel
theorem dX9_letterAtPlace_41 : decode cX9_letterAtPlace 41 = .ok (.iinc 3 1, 3) := by decide +kernel
theorem dX9_letterAtPlace_44 : decode cX9_letterAtPlace 44 = .ok (.iinc 4 1, 3) := by decide +kernel
theorem dX9_letterAtPlace_47 : decode cX9_letterAtPlace 47 = .ok (.goto (-42), 3) := by decide +kernel
theorem dX9_letterAtPlace_50 : decode cX9_letterAtPlace 50 = .ok (.aconst_null, 1) := by decide +kernel
theorem dX9_letterAtPlace_51 : decode cX9_letterAtPlace 51 = .ok (.areturn, 1) := by decide +kernel
set_option maxRecDepth 100000 in
theorem c_letterAtPlace {l : Launch} {g : Nat → Nat} {M : LH} (htr : l.stackTraces = false) {kd : Nat → Nat} {r a : Nat} {ad : Nat → Nat} {sl le : Int32 → Nat} {fg tp : Int32} {F : Nat → Int32 → Int32} {σ : Int32 → Int32} (hC : StR kd r M a ad sl le fg tp F σ) {k : Int32} (hk0 : 0 ≤ k) (hk1 : k < 100) (pl : Int32) : K_X9_letterAtPlace l g 0 0 0 [.ref a, .int k, .int pl] M (RQ (fun o M9 => o = (if findP σ k pl = -1 then none else some (le (findP σ k pl))) ∧ M9 = M) nX) := by
  refine Ko_X9_letterAtPlace htr (fun X => ?_)
  obtain ⟨hSt, hRo, hSa, hLs, hSl, hLe, -, -, ⟨-, hRd, hSd, hLt⟩, hG⟩ := hC
  obtain ⟨hg1, hg2, hg3, hg4, hg5, hg6, hg7, hg8, hgL, hgS, hgR, hgI, hgN, hg0⟩ := hG
  have key : ∀ i, 0 ≤ i → i ≤ σ 7 → ∀ s : Int32, s = cntU σ (10 + k) i → findP σ k pl = fstU (fun i => decide (lt σ i 6 = 10 + k ∧ cntU σ (10 + k) i = pl)) (σ 7) i → V l g yX9_letterAtPlace cX9_letterAtPlace ((some (.object "SledgePost$Letter"))) [] 0 0 0 (RQ (fun o M9 => o = (if findP σ k pl = -1 then none else some (le (findP σ k pl))) ∧ M9 = M) nX) X M 0 0 5 [some (.ref a), some (.int k), some (.int pl), some (.int s), some (.int i)] [] := by
    refine up_ind _ (fun i h0 h1 ih s hs hf => ?_)
    refine v_iload dX9_letterAtPlace_5 rfl ?_
    refine v_aload_n dX9_letterAtPlace_7 rfl rfl ?_
    refine gf_X9_46 dX9_letterAtPlace_8 rfl (by assumption) ?_
    refine v_icmp_ge (tgt := 50) dX9_letterAtPlace_11 (by decide) (fun h11 => ?_) (fun h11 => ?_)
    · have hi : i = σ 7 := by lia
      subst hi
      refine v_null dX9_letterAtPlace_50 ?_
      exact v_nret dX9_letterAtPlace_51 rfl ⟨by rw [hf, fstU_n]; rfl, rfl⟩ (by omega) (by omega)
    · have hi : i < σ 7 := by lia
      have hi12 : i < 12 := by lia
      obtain ⟨q0, q1, q2, q3, q4, q5, q6, q7⟩ := hLt i h0 hi
      obtain ⟨z1, z2, z3, z4, z5, z6, z7, z8, z9, z10, z11, z12, z13, z14⟩ := hgL i h0 hi
      have hcn : cntU σ (10 + k) (i + 1) = cntU σ (10 + k) i + (if lt σ i 6 = 10 + k then 1 else 0) := sumU_1 h0 hi
      refine v_aload_n dX9_letterAtPlace_14 rfl rfl ?_
      refine gf_X9_23 dX9_letterAtPlace_15 rfl (by assumption) ?_
      refine v_iload dX9_letterAtPlace_18 rfl ?_
      refine v_aald1 dX9_letterAtPlace_20 (by assumption) h0 hi12 rfl ?_
      refine gf_X9_88 dX9_letterAtPlace_21 rfl (hLe _ h0 hi12) ?_
      refine v_iload_n dX9_letterAtPlace_24 rfl rfl ?_
      refine v_icmp_ne (tgt := 44) dX9_letterAtPlace_25 (by decide) (fun h25 => ?_) (fun h25 => ?_)
      · refine v_iinc_4 dX9_letterAtPlace_44 rfl ?_
        refine v_goto (tgt := 5) dX9_letterAtPlace_47 (by decide) ?_
        have e7 : lt σ i 6 = 10 + k ↔ F 6 i = k := by clear hgI hgN hgS hgR hgL hRd hSd hLt hLe hSl ih hcn; grind
        refine ih hi _ (by clear hgI hgN hgS hgR hgL hRd hSd hLt hLe hSl ih; grind) (hf.trans ((fstU_1 h0 hi).trans (if_neg ?_)))
        rw [decide_eq_true_eq]
        clear hgI hgN hgS hgR hgL hRd hSd hLt hLe hSl ih hcn
        grind
      · refine v_iload_n dX9_letterAtPlace_28 rfl rfl ?_
        refine v_iload_n dX9_letterAtPlace_29 rfl rfl ?_
        refine v_icmp_ne (tgt := 41) dX9_letterAtPlace_30 (by decide) (fun h30 => ?_) (fun h30 => ?_)
        · refine v_iinc_3 dX9_letterAtPlace_41 rfl ?_
          refine v_iinc_4 dX9_letterAtPlace_44 rfl ?_
          refine v_goto (tgt := 5) dX9_letterAtPlace_47 (by decide) ?_
          have e7 : lt σ i 6 = 10 + k ↔ F 6 i = k := by clear hgI hgN hgS hgR hgL hRd hSd hLt hLe hSl ih hcn; grind
          refine ih hi _ (by clear hgI hgN hgS hgR hgL hRd hSd hLt hLe hSl ih; grind) (hf.trans ((fstU_1 h0 hi).trans (if_neg ?_)))
          rw [decide_eq_true_eq]
          clear hgI hgN hgS hgR hgL hRd hSd hLt hLe hSl ih hcn
          grind
        · refine v_aload_n dX9_letterAtPlace_33 rfl rfl ?_
          refine gf_X9_23 dX9_letterAtPlace_34 rfl (by assumption) ?_
          refine v_iload dX9_letterAtPlace_37 rfl ?_
          refine v_aald1 dX9_letterAtPlace_39 (by assumption) h0 hi12 rfl ?_
          have e8 : lt σ i 6 = 10 + k := by clear hgI hgN hgS hgR hgL hRd hSd hLt hLe hSl ih; grind
          have e9 : findP σ k pl = i := hf.trans ((fstU_1 h0 hi).trans (if_pos (decide_eq_true_eq.mpr ⟨e8, by lia⟩)))
          exact v_aret dX9_letterAtPlace_40 rfl ⟨by rw [e9, if_neg (by lia)], rfl⟩ (by omega) (by omega)
  refine v_iconst (v := 0) dX9_letterAtPlace_0 (by decide) ?_
  refine v_istore_3 dX9_letterAtPlace_1 ?_
  refine v_iconst (v := 0) dX9_letterAtPlace_2 (by decide) ?_
  refine v_istore_4 dX9_letterAtPlace_3 ?_
  exact key 0 (by lia) (by lia) 0 rfl rfl
theorem dX9_roomOn_0 : decode cX9_roomOn 0 = .ok (.aload_n 0, 1) := by decide +kernel
theorem dX9_roomOn_1 : decode cX9_roomOn 1 = .ok (.getfield 17, 3) := by decide +kernel
theorem dX9_roomOn_4 : decode cX9_roomOn 4 = .ok (.iload_n 1, 1) := by decide +kernel
theorem dX9_roomOn_5 : decode cX9_roomOn 5 = .ok (.aaload, 1) := by decide +kernel
theorem dX9_roomOn_6 : decode cX9_roomOn 6 = .ok (.getfield 94, 3) := by decide +kernel
theorem dX9_roomOn_9 : decode cX9_roomOn 9 = .ok (.aload_n 0, 1) := by decide +kernel
theorem dX9_roomOn_10 : decode cX9_roomOn 10 = .ok (.iload_n 1, 1) := by decide +kernel
theorem dX9_roomOn_11 : decode cX9_roomOn 11 = .ok (.invokevirtual 97, 3) := by decide +kernel
theorem dX9_roomOn_14 : decode cX9_roomOn 14 = .ok (.isub, 1) := by decide +kernel
theorem dX9_roomOn_15 : decode cX9_roomOn 15 = .ok (.ireturn, 1) := by decide +kernel
set_option maxRecDepth 100000 in
theorem c_roomOn {l : Launch} {g : Nat → Nat} {M : LH} (htr : l.stackTraces = false) {kd : Nat → Nat} {r a : Nat} {ad : Nat → Nat} {sl le : Int32 → Nat} {fg tp : Int32} {F : Nat → Int32 → Int32} {σ : Int32 → Int32} (hC : StR kd r M a ad sl le fg tp F σ) {k : Int32} (h0 : 0 ≤ k) (hk : k < σ 6) : K_X9_roomOn l g 1 0 0 [.ref a, .int k] M (RI (fun v M9 => v = sd σ k 0 - loadOn σ k ∧ M9 = M) nX) := by
  refine Ko_X9_roomOn htr (fun X => ?_)
  have hC0 := hC
  obtain ⟨hSt, hRo, hSa, hLs, hSl, hLe, -, -, ⟨-, hRd, hSd, hLt⟩, hG⟩ := hC
  obtain ⟨hg1, hg2, hg3, hg4, hg5, hg6, hg7, hg8, hgL, hgS, hgR, hgI, hgN, hg0⟩ := hG
  have hi3 : k < 3 := by lia
  obtain ⟨q0, q1, q2⟩ := hSd k h0 hk
  refine v_aload_n dX9_roomOn_0 rfl rfl ?_
  refine gf_X9_17 dX9_roomOn_1 rfl (by assumption) ?_
  refine v_iload_n dX9_roomOn_4 rfl rfl ?_
  refine v_aald1 dX9_roomOn_5 (by assumption) h0 hi3 rfl ?_
  refine gf_X9_94 dX9_roomOn_6 rfl (hSl _ h0 hi3) ?_
  refine v_aload_n dX9_roomOn_9 rfl rfl ?_
  refine v_iload_n dX9_roomOn_10 rfl rfl ?_
  refine k_X9_97 dX9_roomOn_11 rfl (c_weightOn htr hC0 h0 (by lia)) (by assumption) (Nat.le_of_ble_eq_true rfl) (by omega) (by omega) (Nat.le_of_ble_eq_true rfl) (fun r11 M9 h9 => ?_) (fun _ _ h9 => h9.elim)
  obtain ⟨rfl, rfl⟩ := h9
  refine v_isub dX9_roomOn_14 ?_
  exact v_iret dX9_roomOn_15 rfl ⟨by rw [q0], rfl⟩ (by omega) (by omega)
