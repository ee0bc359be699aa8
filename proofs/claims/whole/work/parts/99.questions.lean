/-! ===== the face: questions ===== -/
theorem fst_no {p : Int32 → Bool} {n : Int32} (hn : 0 ≤ n) : ∀ i, 0 ≤ i → i ≤ n → fstU p n i = -1 → ∀ j, i ≤ j → j < n → p j = false := by
  refine up_ind n (fun i i0 i1 ih h j j0 j1 => ?_)
  have hi : i < n := Int32.lt_of_le_of_lt j0 j1
  rw [fstU_1 i0 hi] at h
  split at h
  · rw [h] at i0
    exact absurd i0 (by decide)
  · rename_i hp
    by_cases e : j = i
    · rw [e]
      simpa using hp
    · exact ih hi h j (by clear ih h; lia) j1
theorem cnt_wL {σ : Int32 → Int32} {p n : Int32} : cntU σ p n = nI (wL σ p n.toNatClampNeg).length := (wL_cnt _).symm
theorem wN_ex {σ : Int32 → Int32} {p : Int32} : ∀ n l, l < (wL σ p n).length → ∃ i, i < n ∧ lt σ (nI i) 6 = p ∧ wN σ p i = l := by
  intro n
  induction n with
  | zero => exact fun l h => absurd h (Nat.not_lt_zero l)
  | succ n ih =>
    intro l h
    by_cases e : lt σ (nI n) 6 = p
    · have h2 : (wL σ p (n + 1)).length = (wL σ p n).length + 1 := by
        show (if lt σ (nI n) 6 = p then wL σ p n ++ [nI n] else wL σ p n).length = _
        rw [if_pos e, List.length_append]
        rfl
      by_cases q : l = (wL σ p n).length
      · exact ⟨n, Nat.lt_succ_self n, e, q.symm⟩
      · obtain ⟨i, a, b, c⟩ := ih l (by omega)
        exact ⟨i, by omega, b, c⟩
    · have h2 : wL σ p (n + 1) = wL σ p n := if_neg e
      rw [h2] at h
      obtain ⟨i, a, b, c⟩ := ih l h
      exact ⟨i, by omega, b, c⟩
theorem findP_wL {σ : Int32 → Int32} {k j : Int32} (hG : Good σ) : (0 ≤ j ∧ j.toNatClampNeg < (wL σ (10 + k) (σ 7).toNatClampNeg).length → ¬ findP σ k j = -1 ∧ 0 ≤ findP σ k j ∧ findP σ k j < σ 7 ∧ findP σ k j = (wL σ (10 + k) (σ 7).toNatClampNeg).getD j.toNatClampNeg 0) ∧ (¬ (0 ≤ j ∧ j.toNatClampNeg < (wL σ (10 + k) (σ 7).toNatClampNeg).length) → findP σ k j = -1) := by
  have h70 := hG.2.2.2.2.1
  have h712 := hG.2.2.2.2.2.1
  have h12 : (σ 7).toNatClampNeg ≤ 12 := tc_le h712
  have yes : ∀ i : Int32, 0 ≤ i → i < σ 7 → lt σ i 6 = 10 + k ∧ cntU σ (10 + k) i = j → (0 ≤ j ∧ j.toNatClampNeg < (wL σ (10 + k) (σ 7).toNatClampNeg).length) ∧ i = (wL σ (10 + k) (σ 7).toNatClampNeg).getD j.toNatClampNeg 0 := by
    intro i i0 i1 ⟨a, b⟩
    have hi := tc_lt i0 i1
    have hle := wL_len (σ := σ) (p := 10 + k) i.toNatClampNeg
    rw [cnt_wL] at b
    have e : nI i.toNatClampNeg = i := tc_nI i0
    have hg := wL_get (σ := σ) (p := 10 + k) (i := i.toNatClampNeg) (by rw [e]; exact a) _ hi
    have hj : j.toNatClampNeg = wN σ (10 + k) i.toNatClampNeg := by rw [← b, nI_clamp (by omega)]; rfl
    refine ⟨⟨by rw [← b]; exact nI_pos' (by omega), ?_⟩, by rw [hj, hg, e]⟩
    rw [hj]
    have h2 := wN_le (σ := σ) (p := 10 + k) (i := i.toNatClampNeg + 1) _ hi
    rw [wN_1, e, if_pos a] at h2
    exact h2
  constructor
  · intro ⟨j0, j1⟩
    obtain ⟨i, a, b, c⟩ := wN_ex _ _ j1
    rcases fst_in (p := fun i => decide (lt σ i 6 = 10 + k ∧ cntU σ (10 + k) i = j)) h70 0 (Int32.le_refl _) h70 with z | ⟨z1, z2, z3⟩
    · exfalso
      have q := fst_no h70 0 (Int32.le_refl _) h70 z (nI i) (nI_pos' (by omega)) (by rw [← tc_nI h70]; exact nI_lt a (by omega))
      have q2 : cntU σ (10 + k) (nI i) = j := by
        rw [cnt_wL, nI_clamp (by omega)]
        show nI (wN σ (10 + k) i) = j
        rw [c, tc_nI j0]
      exact absurd (decide_eq_true (⟨b, q2⟩ : lt σ (nI i) 6 = 10 + k ∧ cntU σ (10 + k) (nI i) = j)) (by rw [q]; exact Bool.false_ne_true)
    · have z4 := (yes _ z1 z2 (of_decide_eq_true z3)).2
      exact ⟨fun z5 => absurd z1 (by unfold findP at z5; rw [z5]; decide), z1, z2, z4⟩
  · intro hn
    rcases fst_in (p := fun i => decide (lt σ i 6 = 10 + k ∧ cntU σ (10 + k) i = j)) h70 0 (Int32.le_refl _) h70 with z | ⟨z1, z2, z3⟩
    · exact z
    · exact absurd (yes _ z1 z2 (of_decide_eq_true z3)).1 hn
theorem findP_in {σ : Int32 → Int32} {k z : Int32} (h7 : 0 ≤ σ 7) (hf : ¬ findP σ k z = -1) : 0 ≤ findP σ k z ∧ findP σ k z < σ 7 := by
  rcases fst_in (p := fun i => decide (lt σ i 6 = 10 + k ∧ cntU σ (10 + k) i = z)) h7 0 (Int32.le_refl _) h7 with q | ⟨q1, q2, -⟩
  · exact absurd q hf
  · exact ⟨q1, q2⟩
theorem findR_in {σ : Int32 → Int32} {z : Int32} (h7 : 0 ≤ σ 7) (hf : ¬ findR σ z = -1) : 0 ≤ findR σ z ∧ findR σ z < σ 7 := by
  rcases fst_in (p := fun i => decide (rankU σ i = z)) h7 0 (Int32.le_refl _) h7 with q | ⟨q1, q2, -⟩
  · exact absurd q hf
  · exact ⟨q1, q2⟩
theorem findC_in {σ : Int32 → Int32} {z : Int32} (h7 : 0 ≤ σ 7) (hf : ¬ findC σ z = -1) : 0 ≤ findC σ z ∧ findC σ z < σ 7 := by
  rcases fst_in (p := fun i => decide (codeN (lt σ i 0) (lt σ i 1) = z)) h7 0 (Int32.le_refl _) h7 with q | ⟨q1, q2, -⟩
  · exact absurd q hf
  · exact ⟨q1, q2⟩
theorem dX11_stationCount_0 : decode cX11_stationCount 0 = .ok (.aload_n 0, 1) := by decide +kernel
theorem dX11_stationCount_1 : decode cX11_stationCount 1 = .ok (.getfield 20, 3) := by decide +kernel
theorem dX11_stationCount_4 : decode cX11_stationCount 4 = .ok (.getfield 133, 3) := by decide +kernel
theorem dX11_stationCount_7 : decode cX11_stationCount 7 = .ok (.ireturn, 1) := by decide +kernel
set_option maxRecDepth 100000 in
set_option maxHeartbeats 4000000 in
theorem f_stationCount {l : Launch} {g : Nat → Nat} {M : LH} (htr : l.stackTraces = false) {kd : Nat → Nat} {p : Nat} {q a : Nat → Nat} {e8 : Int32 → Nat} {v : Int32 → Int32} {sv : Int32} {sa : Int32 → Int32} {ch : Int32} {pa tx : Int32 → Int32} {tn : Int32} {Ls : List Int32} {ea fl : Int32} (hP : Pg kd M p q a e8 v sv sa ch pa tx tn Ls ea fl) : K_X11_stationCount l g 0 0 0 [.ref p] M (RI (fun x M9 => x = v 5 ∧ Pg kd M9 p q a e8 v sv sa ch pa tx tn Ls ea fl ∧ F30 kd M M9) nX) := by
  refine Ko_X11_stationCount htr (fun X => ?_)
  obtain ⟨hs, old, hB, hR⟩ := _root_.id hP
  obtain ⟨hO, hE8, hkp, hk3, ⟨ad, sl, le, fg, tp, F, hC⟩, hK, hS2, hS3, hS8, hRO⟩ := _root_.id hB
  obtain ⟨hSt, hRo, hSR, hLR, hSl, hLe, hkd, hinj, ⟨hfg, hRd, hSd, hLt⟩, hG⟩ := _root_.id hC
  obtain ⟨hDk, hDs, ⟨f1, hB1⟩, ⟨f2, hB2⟩, hBl, ⟨f3, hB3⟩, hRt, ⟨f4, hB4⟩, hkD, hn34, hDr⟩ := _root_.id hK
  obtain ⟨hg1, hg2, hg3, hg4, hg5, hg6, hg7, hg8, hgL, hgS, hgR, hgI, hgN, hg0⟩ := _root_.id hG
  refine v_aload_n dX11_stationCount_0 rfl rfl ?_
  refine gf_X11_20 dX11_stationCount_1 rfl hO ?_
  refine gf_X11_133 dX11_stationCount_4 rfl hSt ?_
  exact v_iret dX11_stationCount_7 rfl ⟨rfl, hP, F30.rf⟩ (by omega) (by omega)
theorem dX11_sledgeCount_0 : decode cX11_sledgeCount 0 = .ok (.aload_n 0, 1) := by decide +kernel
theorem dX11_sledgeCount_1 : decode cX11_sledgeCount 1 = .ok (.getfield 20, 3) := by decide +kernel
theorem dX11_sledgeCount_4 : decode cX11_sledgeCount 4 = .ok (.getfield 170, 3) := by decide +kernel
theorem dX11_sledgeCount_7 : decode cX11_sledgeCount 7 = .ok (.ireturn, 1) := by decide +kernel
set_option maxRecDepth 100000 in
set_option maxHeartbeats 4000000 in
theorem f_sledgeCount {l : Launch} {g : Nat → Nat} {M : LH} (htr : l.stackTraces = false) {kd : Nat → Nat} {p : Nat} {q a : Nat → Nat} {e8 : Int32 → Nat} {v : Int32 → Int32} {sv : Int32} {sa : Int32 → Int32} {ch : Int32} {pa tx : Int32 → Int32} {tn : Int32} {Ls : List Int32} {ea fl : Int32} (hP : Pg kd M p q a e8 v sv sa ch pa tx tn Ls ea fl) : K_X11_sledgeCount l g 0 0 0 [.ref p] M (RI (fun x M9 => x = v 6 ∧ Pg kd M9 p q a e8 v sv sa ch pa tx tn Ls ea fl ∧ F30 kd M M9) nX) := by
  refine Ko_X11_sledgeCount htr (fun X => ?_)
  obtain ⟨hs, old, hB, hR⟩ := _root_.id hP
  obtain ⟨hO, hE8, hkp, hk3, ⟨ad, sl, le, fg, tp, F, hC⟩, hK, hS2, hS3, hS8, hRO⟩ := _root_.id hB
  obtain ⟨hSt, hRo, hSR, hLR, hSl, hLe, hkd, hinj, ⟨hfg, hRd, hSd, hLt⟩, hG⟩ := _root_.id hC
  obtain ⟨hDk, hDs, ⟨f1, hB1⟩, ⟨f2, hB2⟩, hBl, ⟨f3, hB3⟩, hRt, ⟨f4, hB4⟩, hkD, hn34, hDr⟩ := _root_.id hK
  obtain ⟨hg1, hg2, hg3, hg4, hg5, hg6, hg7, hg8, hgL, hgS, hgR, hgI, hgN, hg0⟩ := _root_.id hG
  refine v_aload_n dX11_sledgeCount_0 rfl rfl ?_
  refine gf_X11_20 dX11_sledgeCount_1 rfl hO ?_
  refine gf_X11_170 dX11_sledgeCount_4 rfl hSt ?_
  exact v_iret dX11_sledgeCount_7 rfl ⟨rfl, hP, F30.rf⟩ (by omega) (by omega)
theorem dX11_letterCount_0 : decode cX11_letterCount 0 = .ok (.aload_n 0, 1) := by decide +kernel
theorem dX11_letterCount_1 : decode cX11_letterCount 1 = .ok (.getfield 20, 3) := by decide +kernel
theorem dX11_letterCount_4 : decode cX11_letterCount 4 = .ok (.getfield 221, 3) := by decide +kernel
theorem dX11_letterCount_7 : decode cX11_letterCount 7 = .ok (.ireturn, 1) := by decide +kernel
set_option maxRecDepth 100000 in
set_option maxHeartbeats 4000000 in
theorem f_letterCount {l : Launch} {g : Nat → Nat} {M : LH} (htr : l.stackTraces = false) {kd : Nat → Nat} {p : Nat} {q a : Nat → Nat} {e8 : Int32 → Nat} {v : Int32 → Int32} {sv : Int32} {sa : Int32 → Int32} {ch : Int32} {pa tx : Int32 → Int32} {tn : Int32} {Ls : List Int32} {ea fl : Int32} (hP : Pg kd M p q a e8 v sv sa ch pa tx tn Ls ea fl) : K_X11_letterCount l g 0 0 0 [.ref p] M (RI (fun x M9 => x = v 7 ∧ Pg kd M9 p q a e8 v sv sa ch pa tx tn Ls ea fl ∧ F30 kd M M9) nX) := by
  refine Ko_X11_letterCount htr (fun X => ?_)
  obtain ⟨hs, old, hB, hR⟩ := _root_.id hP
  obtain ⟨hO, hE8, hkp, hk3, ⟨ad, sl, le, fg, tp, F, hC⟩, hK, hS2, hS3, hS8, hRO⟩ := _root_.id hB
  obtain ⟨hSt, hRo, hSR, hLR, hSl, hLe, hkd, hinj, ⟨hfg, hRd, hSd, hLt⟩, hG⟩ := _root_.id hC
  obtain ⟨hDk, hDs, ⟨f1, hB1⟩, ⟨f2, hB2⟩, hBl, ⟨f3, hB3⟩, hRt, ⟨f4, hB4⟩, hkD, hn34, hDr⟩ := _root_.id hK
  obtain ⟨hg1, hg2, hg3, hg4, hg5, hg6, hg7, hg8, hgL, hgS, hgR, hgI, hgN, hg0⟩ := _root_.id hG
  refine v_aload_n dX11_letterCount_0 rfl rfl ?_
  refine gf_X11_20 dX11_letterCount_1 rfl hO ?_
  refine gf_X11_221 dX11_letterCount_4 rfl hSt ?_
  exact v_iret dX11_letterCount_7 rfl ⟨rfl, hP, F30.rf⟩ (by omega) (by omega)
theorem dX11_time_0 : decode cX11_time 0 = .ok (.aload_n 0, 1) := by decide +kernel
theorem dX11_time_1 : decode cX11_time 1 = .ok (.getfield 20, 3) := by decide +kernel
theorem dX11_time_4 : decode cX11_time 4 = .ok (.getfield 293, 3) := by decide +kernel
theorem dX11_time_7 : decode cX11_time 7 = .ok (.ireturn, 1) := by decide +kernel
set_option maxRecDepth 100000 in
set_option maxHeartbeats 4000000 in
theorem f_time {l : Launch} {g : Nat → Nat} {M : LH} (htr : l.stackTraces = false) {kd : Nat → Nat} {p : Nat} {q a : Nat → Nat} {e8 : Int32 → Nat} {v : Int32 → Int32} {sv : Int32} {sa : Int32 → Int32} {ch : Int32} {pa tx : Int32 → Int32} {tn : Int32} {Ls : List Int32} {ea fl : Int32} (hP : Pg kd M p q a e8 v sv sa ch pa tx tn Ls ea fl) : K_X11_time l g 0 0 0 [.ref p] M (RI (fun x M9 => x = v 0 ∧ Pg kd M9 p q a e8 v sv sa ch pa tx tn Ls ea fl ∧ F30 kd M M9) nX) := by
  refine Ko_X11_time htr (fun X => ?_)
  obtain ⟨hs, old, hB, hR⟩ := _root_.id hP
  obtain ⟨hO, hE8, hkp, hk3, ⟨ad, sl, le, fg, tp, F, hC⟩, hK, hS2, hS3, hS8, hRO⟩ := _root_.id hB
  obtain ⟨hSt, hRo, hSR, hLR, hSl, hLe, hkd, hinj, ⟨hfg, hRd, hSd, hLt⟩, hG⟩ := _root_.id hC
  obtain ⟨hDk, hDs, ⟨f1, hB1⟩, ⟨f2, hB2⟩, hBl, ⟨f3, hB3⟩, hRt, ⟨f4, hB4⟩, hkD, hn34, hDr⟩ := _root_.id hK
  obtain ⟨hg1, hg2, hg3, hg4, hg5, hg6, hg7, hg8, hgL, hgS, hgR, hgI, hgN, hg0⟩ := _root_.id hG
  refine v_aload_n dX11_time_0 rfl rfl ?_
  refine gf_X11_20 dX11_time_1 rfl hO ?_
  refine gf_X11_293 dX11_time_4 rfl hSt ?_
  exact v_iret dX11_time_7 rfl ⟨rfl, hP, F30.rf⟩ (by omega) (by omega)
theorem dX11_temperature_0 : decode cX11_temperature 0 = .ok (.aload_n 0, 1) := by decide +kernel
theorem dX11_temperature_1 : decode cX11_temperature 1 = .ok (.getfield 20, 3) := by decide +kernel
theorem dX11_temperature_4 : decode cX11_temperature 4 = .ok (.getfield 270, 3) := by decide +kernel
theorem dX11_temperature_7 : decode cX11_temperature 7 = .ok (.ireturn, 1) := by decide +kernel
set_option maxRecDepth 100000 in
set_option maxHeartbeats 4000000 in
theorem f_temperature {l : Launch} {g : Nat → Nat} {M : LH} (htr : l.stackTraces = false) {kd : Nat → Nat} {p : Nat} {q a : Nat → Nat} {e8 : Int32 → Nat} {v : Int32 → Int32} {sv : Int32} {sa : Int32 → Int32} {ch : Int32} {pa tx : Int32 → Int32} {tn : Int32} {Ls : List Int32} {ea fl : Int32} (hP : Pg kd M p q a e8 v sv sa ch pa tx tn Ls ea fl) : K_X11_temperature l g 0 0 0 [.ref p] M (RI (fun x M9 => x = v 1 ∧ Pg kd M9 p q a e8 v sv sa ch pa tx tn Ls ea fl ∧ F30 kd M M9) nX) := by
  refine Ko_X11_temperature htr (fun X => ?_)
  obtain ⟨hs, old, hB, hR⟩ := _root_.id hP
  obtain ⟨hO, hE8, hkp, hk3, ⟨ad, sl, le, fg, tp, F, hC⟩, hK, hS2, hS3, hS8, hRO⟩ := _root_.id hB
  obtain ⟨hSt, hRo, hSR, hLR, hSl, hLe, hkd, hinj, ⟨hfg, hRd, hSd, hLt⟩, hG⟩ := _root_.id hC
  obtain ⟨hDk, hDs, ⟨f1, hB1⟩, ⟨f2, hB2⟩, hBl, ⟨f3, hB3⟩, hRt, ⟨f4, hB4⟩, hkD, hn34, hDr⟩ := _root_.id hK
  obtain ⟨hg1, hg2, hg3, hg4, hg5, hg6, hg7, hg8, hgL, hgS, hgR, hgI, hgN, hg0⟩ := _root_.id hG
  refine v_aload_n dX11_temperature_0 rfl rfl ?_
  refine gf_X11_20 dX11_temperature_1 rfl hO ?_
  refine gf_X11_270 dX11_temperature_4 rfl hSt ?_
  exact v_iret dX11_temperature_7 rfl ⟨rfl, hP, F30.rf⟩ (by omega) (by omega)
theorem dX11_coins_0 : decode cX11_coins 0 = .ok (.aload_n 0, 1) := by decide +kernel
theorem dX11_coins_1 : decode cX11_coins 1 = .ok (.getfield 20, 3) := by decide +kernel
theorem dX11_coins_4 : decode cX11_coins 4 = .ok (.getfield 294, 3) := by decide +kernel
theorem dX11_coins_7 : decode cX11_coins 7 = .ok (.ireturn, 1) := by decide +kernel
set_option maxRecDepth 100000 in
set_option maxHeartbeats 4000000 in
theorem f_coins {l : Launch} {g : Nat → Nat} {M : LH} (htr : l.stackTraces = false) {kd : Nat → Nat} {p : Nat} {q a : Nat → Nat} {e8 : Int32 → Nat} {v : Int32 → Int32} {sv : Int32} {sa : Int32 → Int32} {ch : Int32} {pa tx : Int32 → Int32} {tn : Int32} {Ls : List Int32} {ea fl : Int32} (hP : Pg kd M p q a e8 v sv sa ch pa tx tn Ls ea fl) : K_X11_coins l g 0 0 0 [.ref p] M (RI (fun x M9 => x = v 2 ∧ Pg kd M9 p q a e8 v sv sa ch pa tx tn Ls ea fl ∧ F30 kd M M9) nX) := by
  refine Ko_X11_coins htr (fun X => ?_)
  obtain ⟨hs, old, hB, hR⟩ := _root_.id hP
  obtain ⟨hO, hE8, hkp, hk3, ⟨ad, sl, le, fg, tp, F, hC⟩, hK, hS2, hS3, hS8, hRO⟩ := _root_.id hB
  obtain ⟨hSt, hRo, hSR, hLR, hSl, hLe, hkd, hinj, ⟨hfg, hRd, hSd, hLt⟩, hG⟩ := _root_.id hC
  obtain ⟨hDk, hDs, ⟨f1, hB1⟩, ⟨f2, hB2⟩, hBl, ⟨f3, hB3⟩, hRt, ⟨f4, hB4⟩, hkD, hn34, hDr⟩ := _root_.id hK
  obtain ⟨hg1, hg2, hg3, hg4, hg5, hg6, hg7, hg8, hgL, hgS, hgR, hgI, hgN, hg0⟩ := _root_.id hG
  refine v_aload_n dX11_coins_0 rfl rfl ?_
  refine gf_X11_20 dX11_coins_1 rfl hO ?_
  refine gf_X11_294 dX11_coins_4 rfl hSt ?_
  exact v_iret dX11_coins_7 rfl ⟨rfl, hP, F30.rf⟩ (by omega) (by omega)
theorem dX11_deliveredTotal_0 : decode cX11_deliveredTotal 0 = .ok (.aload_n 0, 1) := by decide +kernel
theorem dX11_deliveredTotal_1 : decode cX11_deliveredTotal 1 = .ok (.getfield 20, 3) := by decide +kernel
theorem dX11_deliveredTotal_4 : decode cX11_deliveredTotal 4 = .ok (.getfield 303, 3) := by decide +kernel
theorem dX11_deliveredTotal_7 : decode cX11_deliveredTotal 7 = .ok (.ireturn, 1) := by decide +kernel
set_option maxRecDepth 100000 in
set_option maxHeartbeats 4000000 in
theorem f_deliveredTotal {l : Launch} {g : Nat → Nat} {M : LH} (htr : l.stackTraces = false) {kd : Nat → Nat} {p : Nat} {q a : Nat → Nat} {e8 : Int32 → Nat} {v : Int32 → Int32} {sv : Int32} {sa : Int32 → Int32} {ch : Int32} {pa tx : Int32 → Int32} {tn : Int32} {Ls : List Int32} {ea fl : Int32} (hP : Pg kd M p q a e8 v sv sa ch pa tx tn Ls ea fl) : K_X11_deliveredTotal l g 0 0 0 [.ref p] M (RI (fun x M9 => x = v 3 ∧ Pg kd M9 p q a e8 v sv sa ch pa tx tn Ls ea fl ∧ F30 kd M M9) nX) := by
  refine Ko_X11_deliveredTotal htr (fun X => ?_)
  obtain ⟨hs, old, hB, hR⟩ := _root_.id hP
  obtain ⟨hO, hE8, hkp, hk3, ⟨ad, sl, le, fg, tp, F, hC⟩, hK, hS2, hS3, hS8, hRO⟩ := _root_.id hB
  obtain ⟨hSt, hRo, hSR, hLR, hSl, hLe, hkd, hinj, ⟨hfg, hRd, hSd, hLt⟩, hG⟩ := _root_.id hC
  obtain ⟨hDk, hDs, ⟨f1, hB1⟩, ⟨f2, hB2⟩, hBl, ⟨f3, hB3⟩, hRt, ⟨f4, hB4⟩, hkD, hn34, hDr⟩ := _root_.id hK
  obtain ⟨hg1, hg2, hg3, hg4, hg5, hg6, hg7, hg8, hgL, hgS, hgR, hgI, hgN, hg0⟩ := _root_.id hG
  refine v_aload_n dX11_deliveredTotal_0 rfl rfl ?_
  refine gf_X11_20 dX11_deliveredTotal_1 rfl hO ?_
  refine gf_X11_303 dX11_deliveredTotal_4 rfl hSt ?_
  exact v_iret dX11_deliveredTotal_7 rfl ⟨rfl, hP, F30.rf⟩ (by omega) (by omega)
theorem dX11_coinsByAccounts_0 : decode cX11_coinsByAccounts 0 = .ok (.aload_n 0, 1) := by decide +kernel
theorem dX11_coinsByAccounts_1 : decode cX11_coinsByAccounts 1 = .ok (.getfield 20, 3) := by decide +kernel
theorem dX11_coinsByAccounts_4 : decode cX11_coinsByAccounts 4 = .ok (.getfield 297, 3) := by decide +kernel
theorem dX11_coinsByAccounts_7 : decode cX11_coinsByAccounts 7 = .ok (.aload_n 0, 1) := by decide +kernel
theorem dX11_coinsByAccounts_8 : decode cX11_coinsByAccounts 8 = .ok (.getfield 20, 3) := by decide +kernel
theorem dX11_coinsByAccounts_11 : decode cX11_coinsByAccounts 11 = .ok (.getfield 300, 3) := by decide +kernel
theorem dX11_coinsByAccounts_14 : decode cX11_coinsByAccounts 14 = .ok (.isub, 1) := by decide +kernel
theorem dX11_coinsByAccounts_15 : decode cX11_coinsByAccounts 15 = .ok (.ireturn, 1) := by decide +kernel
set_option maxRecDepth 100000 in
set_option maxHeartbeats 4000000 in
theorem f_coinsByAccounts {l : Launch} {g : Nat → Nat} {M : LH} (htr : l.stackTraces = false) {kd : Nat → Nat} {p : Nat} {q a : Nat → Nat} {e8 : Int32 → Nat} {v : Int32 → Int32} {sv : Int32} {sa : Int32 → Int32} {ch : Int32} {pa tx : Int32 → Int32} {tn : Int32} {Ls : List Int32} {ea fl : Int32} (hP : Pg kd M p q a e8 v sv sa ch pa tx tn Ls ea fl) : K_X11_coinsByAccounts l g 0 0 0 [.ref p] M (RI (fun x M9 => x = v 2 ∧ Pg kd M9 p q a e8 v sv sa ch pa tx tn Ls ea fl ∧ F30 kd M M9) nX) := by
  refine Ko_X11_coinsByAccounts htr (fun X => ?_)
  obtain ⟨hs, old, hB, hR⟩ := _root_.id hP
  obtain ⟨hO, hE8, hkp, hk3, ⟨ad, sl, le, fg, tp, F, hC⟩, hK, hS2, hS3, hS8, hRO⟩ := _root_.id hB
  obtain ⟨hSt, hRo, hSR, hLR, hSl, hLe, hkd, hinj, ⟨hfg, hRd, hSd, hLt⟩, hG⟩ := _root_.id hC
  obtain ⟨hDk, hDs, ⟨f1, hB1⟩, ⟨f2, hB2⟩, hBl, ⟨f3, hB3⟩, hRt, ⟨f4, hB4⟩, hkD, hn34, hDr⟩ := _root_.id hK
  obtain ⟨hg1, hg2, hg3, hg4, hg5, hg6, hg7, hg8, hgL, hgS, hgR, hgI, hgN, hg0⟩ := _root_.id hG
  refine v_aload_n dX11_coinsByAccounts_0 rfl rfl ?_
  refine gf_X11_20 dX11_coinsByAccounts_1 rfl hO ?_
  refine gf_X11_297 dX11_coinsByAccounts_4 rfl hSt ?_
  refine v_aload_n dX11_coinsByAccounts_7 rfl rfl ?_
  refine gf_X11_20 dX11_coinsByAccounts_8 rfl hO ?_
  refine gf_X11_300 dX11_coinsByAccounts_11 rfl hSt ?_
  refine v_isub dX11_coinsByAccounts_14 ?_
  exact v_iret dX11_coinsByAccounts_15 rfl ⟨hfg, hP, F30.rf⟩ (by omega) (by omega)
theorem dX11_road_0 : decode cX11_road 0 = .ok (.aload_n 0, 1) := by decide +kernel
theorem dX11_road_1 : decode cX11_road 1 = .ok (.iload_n 1, 1) := by decide +kernel
theorem dX11_road_2 : decode cX11_road 2 = .ok (.invokevirtual 136, 3) := by decide +kernel
theorem dX11_road_5 : decode cX11_road 5 = .ok (.aload_n 0, 1) := by decide +kernel
theorem dX11_road_6 : decode cX11_road 6 = .ok (.iload_n 2, 1) := by decide +kernel
theorem dX11_road_7 : decode cX11_road 7 = .ok (.invokevirtual 136, 3) := by decide +kernel
theorem dX11_road_10 : decode cX11_road 10 = .ok (.aload_n 0, 1) := by decide +kernel
theorem dX11_road_11 : decode cX11_road 11 = .ok (.getfield 20, 3) := by decide +kernel
theorem dX11_road_14 : decode cX11_road 14 = .ok (.getfield 140, 3) := by decide +kernel
theorem dX11_road_17 : decode cX11_road 17 = .ok (.iload_n 1, 1) := by decide +kernel
theorem dX11_road_18 : decode cX11_road 18 = .ok (.iload_n 2, 1) := by decide +kernel
theorem dX11_road_19 : decode cX11_road 19 = .ok (.invokestatic 144, 3) := by decide +kernel
theorem dX11_road_22 : decode cX11_road 22 = .ok (.iaload, 1) := by decide +kernel
theorem dX11_road_23 : decode cX11_road 23 = .ok (.ireturn, 1) := by decide +kernel
set_option maxRecDepth 100000 in
set_option maxHeartbeats 4000000 in
theorem f_road {l : Launch} {g : Nat → Nat} {M : LH} (htr : l.stackTraces = false) {kd : Nat → Nat} {p : Nat} {q a : Nat → Nat} {e8 : Int32 → Nat} {v : Int32 → Int32} {sv : Int32} {sa : Int32 → Int32} {ch : Int32} {pa tx : Int32 → Int32} {tn : Int32} {Ls : List Int32} {ea fl : Int32} (hP : Pg kd M p q a e8 v sv sa ch pa tx tn Ls ea fl) (s t : Int32) : K_X11_road l g 5 2 12 [.ref p, .int s, .int t] M (RI (fun x M9 => (hst v s ∧ hst v t) ∧ x = rd v s t ∧ Pg kd M9 p q a e8 v sv sa ch pa tx tn Ls ea fl ∧ F30 kd M M9) (fun E M9 => ¬ (hst v s ∧ hst v t) ∧ E = exV 1 ∧ Pg kd M9 p q a e8 v sv sa ch pa tx tn Ls ea fl ∧ F30 kd M M9)) := by
  refine Ko_X11_road htr (fun X => ?_)
  obtain ⟨hs, old, hB, hR⟩ := _root_.id hP
  obtain ⟨hO, hE8, hkp, hk3, ⟨ad, sl, le, fg, tp, F, hC⟩, hK, hS2, hS3, hS8, hRO⟩ := _root_.id hB
  obtain ⟨hSt, hRo, hSR, hLR, hSl, hLe, hkd, hinj, ⟨hfg, hRd, hSd, hLt⟩, hG⟩ := _root_.id hC
  obtain ⟨hDk, hDs, ⟨f1, hB1⟩, ⟨f2, hB2⟩, hBl, ⟨f3, hB3⟩, hRt, ⟨f4, hB4⟩, hkD, hn34, hDr⟩ := _root_.id hK
  obtain ⟨hg1, hg2, hg3, hg4, hg5, hg6, hg7, hg8, hgL, hgS, hgR, hgI, hgN, hg0⟩ := _root_.id hG
  refine v_aload_n dX11_road_0 rfl rfl ?_
  refine v_iload_n dX11_road_1 rfl rfl ?_
  refine k_X11_136 dX11_road_2 rfl (c_needStation htr hP s) hO (Nat.le_of_ble_eq_true rfl) (by omega) (by omega) (Nat.le_of_ble_eq_true rfl) (fun M9 h9 => ?_) (fun _ _ h9 => by obtain ⟨h91, rfl, rfl⟩ := h9; exact VX.out ⟨fun z => h91 z.1, rfl, hP, F30.rf⟩ (by omega) (by omega))
  obtain ⟨hs9, e9⟩ := h9
  subst M9
  refine v_aload_n dX11_road_5 rfl rfl ?_
  refine v_iload_n dX11_road_6 rfl rfl ?_
  refine k_X11_136 dX11_road_7 rfl (c_needStation htr hP t) hO (Nat.le_of_ble_eq_true rfl) (by omega) (by omega) (Nat.le_of_ble_eq_true rfl) (fun M9 h9 => ?_) (fun _ _ h9 => by obtain ⟨h91, rfl, rfl⟩ := h9; exact VX.out ⟨fun z => h91 z.2, rfl, hP, F30.rf⟩ (by omega) (by omega))
  obtain ⟨ht9, e9⟩ := h9
  subst M9
  obtain ⟨s0, s1⟩ := hs9
  obtain ⟨t0, t1⟩ := ht9
  have s7 := Int32.lt_of_lt_of_le s1 hg2
  have t7 := Int32.lt_of_lt_of_le t1 hg2
  obtain ⟨b0, b1⟩ := cell_in s0 s7 t0 t7
  refine v_aload_n dX11_road_10 rfl rfl ?_
  refine gf_X11_20 dX11_road_11 rfl hO ?_
  refine gf_X11_140 dX11_road_14 rfl hSt ?_
  refine v_iload_n dX11_road_17 rfl rfl ?_
  refine v_iload_n dX11_road_18 rfl rfl ?_
  refine k_X11_144 dX11_road_19 rfl (c_cell htr s t) (Nat.le_of_ble_eq_true rfl) (by omega) (by omega) (Nat.le_of_ble_eq_true rfl) (fun r19 M9 h9 => ?_) (fun _ _ h9 => h9.elim)
  obtain ⟨rfl, e9⟩ := h9
  subst M9
  refine v_iald dX11_road_22 hRo b0 b1 ?_
  exact v_iret dX11_road_23 rfl ⟨⟨⟨s0, s1⟩, t0, t1⟩, (by rw [← hRd s t s0 s7 t0 t7, Int32.mul_comm]), hP, F30.rf⟩ (by omega) (by omega)
theorem far_lt {z : Int32} (h : z.toInt ≤ 120 ∨ z.toInt = 1000000) : (z < 1000000 ↔ z.toInt < 1000000) ∧ (¬ z < 1000000 → z.toInt = 1000000) := by
  have e : (1000000 : Int32).toInt = 1000000 := rfl
  refine ⟨by rw [i_lt, e], fun q => ?_⟩
  rw [i_lt, e] at q
  omega
theorem far_l2 {z : Int32} (h : z.toInt ≤ 2560 ∨ z.toInt = 1000000) : (z < 1000000 ↔ z.toInt < 1000000) ∧ (¬ z < 1000000 → z.toInt = 1000000) := by
  have e : (1000000 : Int32).toInt = 1000000 := rfl
  refine ⟨by rw [i_lt, e], fun q => ?_⟩
  rw [i_lt, e] at q
  omega
theorem dX11_areConnected_0 : decode cX11_areConnected 0 = .ok (.aload_n 0, 1) := by decide +kernel
theorem dX11_areConnected_1 : decode cX11_areConnected 1 = .ok (.iload_n 1, 1) := by decide +kernel
theorem dX11_areConnected_2 : decode cX11_areConnected 2 = .ok (.invokevirtual 136, 3) := by decide +kernel
theorem dX11_areConnected_5 : decode cX11_areConnected 5 = .ok (.aload_n 0, 1) := by decide +kernel
theorem dX11_areConnected_6 : decode cX11_areConnected 6 = .ok (.iload_n 2, 1) := by decide +kernel
theorem dX11_areConnected_7 : decode cX11_areConnected 7 = .ok (.invokevirtual 136, 3) := by decide +kernel
theorem dX11_areConnected_10 : decode cX11_areConnected 10 = .ok (.aload_n 0, 1) := by decide +kernel
theorem dX11_areConnected_11 : decode cX11_areConnected 11 = .ok (.getfield 10, 3) := by decide +kernel
theorem dX11_areConnected_14 : decode cX11_areConnected 14 = .ok (.getfield 147, 3) := by decide +kernel
theorem dX11_areConnected_17 : decode cX11_areConnected 17 = .ok (.aload_n 0, 1) := by decide +kernel
theorem dX11_areConnected_18 : decode cX11_areConnected 18 = .ok (.getfield 20, 3) := by decide +kernel
theorem dX11_areConnected_21 : decode cX11_areConnected 21 = .ok (.iload_n 1, 1) := by decide +kernel
theorem dX11_areConnected_22 : decode cX11_areConnected 22 = .ok (.iload_n 2, 1) := by decide +kernel
theorem dX11_areConnected_23 : decode cX11_areConnected 23 = .ok (.invokevirtual 151, 3) := by decide +kernel
theorem dX11_areConnected_26 : decode cX11_areConnected 26 = .ok (.ldc 157, 2) := by decide +kernel
theorem dX11_areConnected_28 : decode cX11_areConnected 28 = .ok (.if_icmp .ge 7, 3) := by decide +kernel
theorem dX11_areConnected_31 : decode cX11_areConnected 31 = .ok (.iconst 1, 1) := by decide +kernel
theorem dX11_areConnected_32 : decode cX11_areConnected 32 = .ok (.goto 4, 3) := by decide +kernel
theorem dX11_areConnected_35 : decode cX11_areConnected 35 = .ok (.iconst 0, 1) := by decide +kernel
theorem dX11_areConnected_36 : decode cX11_areConnected 36 = .ok (.ireturn, 1) := by decide +kernel
set_option maxRecDepth 100000 in
set_option maxHeartbeats 4000000 in
theorem f_areConnected {l : Launch} {g : Nat → Nat} {M : LH} (htr : l.stackTraces = false) {kd : Nat → Nat} {p : Nat} {q a : Nat → Nat} {e8 : Int32 → Nat} {v : Int32 → Int32} {sv : Int32} {sa : Int32 → Int32} {ch : Int32} {pa tx : Int32 → Int32} {tn : Int32} {Ls : List Int32} {ea fl : Int32} (hP : Pg kd M p q a e8 v sv sa ch pa tx tn Ls ea fl) (s t : Int32) : K_X11_areConnected l g 5 2 12 [.ref p, .int s, .int t] M (RI (fun x M9 => (hst v s ∧ hst v t) ∧ (∃ bb, IsD v 1000000 s t bb ∧ x = if bb < 1000000 then 1 else 0) ∧ Pg kd M9 p q a e8 v sv sa ch pa tx tn Ls ea fl ∧ F30 kd M M9) (fun E M9 => ¬ (hst v s ∧ hst v t) ∧ E = exV 1 ∧ Pg kd M9 p q a e8 v sv sa ch pa tx tn Ls ea fl ∧ F30 kd M M9)) := by
  refine Ko_X11_areConnected htr (fun X => ?_)
  obtain ⟨hs, old, hB, hR⟩ := _root_.id hP
  obtain ⟨hO, hE8, hkp, hk3, ⟨ad, sl, le, fg, tp, F, hC⟩, hK, hS2, hS3, hS8, hRO⟩ := _root_.id hB
  obtain ⟨hSt, hRo, hSR, hLR, hSl, hLe, hkd, hinj, ⟨hfg, hRd, hSd, hLt⟩, hG⟩ := _root_.id hC
  obtain ⟨hDk, hDs, ⟨f1, hB1⟩, ⟨f2, hB2⟩, hBl, ⟨f3, hB3⟩, hRt, ⟨f4, hB4⟩, hkD, hn34, hDr⟩ := _root_.id hK
  obtain ⟨hg1, hg2, hg3, hg4, hg5, hg6, hg7, hg8, hgL, hgS, hgR, hgI, hgN, hg0⟩ := _root_.id hG
  refine v_aload_n dX11_areConnected_0 rfl rfl ?_
  refine v_iload_n dX11_areConnected_1 rfl rfl ?_
  refine k_X11_136 dX11_areConnected_2 rfl (c_needStation htr hP s) hO (Nat.le_of_ble_eq_true rfl) (by omega) (by omega) (Nat.le_of_ble_eq_true rfl) (fun M9 h9 => ?_) (fun _ _ h9 => by obtain ⟨h91, rfl, rfl⟩ := h9; exact VX.out ⟨fun z => h91 z.1, rfl, hP, F30.rf⟩ (by omega) (by omega))
  obtain ⟨hs9, e9⟩ := h9
  subst M9
  refine v_aload_n dX11_areConnected_5 rfl rfl ?_
  refine v_iload_n dX11_areConnected_6 rfl rfl ?_
  refine k_X11_136 dX11_areConnected_7 rfl (c_needStation htr hP t) hO (Nat.le_of_ble_eq_true rfl) (by omega) (by omega) (Nat.le_of_ble_eq_true rfl) (fun M9 h9 => ?_) (fun _ _ h9 => by obtain ⟨h91, rfl, rfl⟩ := h9; exact VX.out ⟨fun z => h91 z.2, rfl, hP, F30.rf⟩ (by omega) (by omega))
  obtain ⟨ht9, e9⟩ := h9
  subst M9
  obtain ⟨s0, s1⟩ := hs9
  obtain ⟨t0, t1⟩ := ht9
  have s7 := Int32.lt_of_lt_of_le s1 hg2
  have t7 := Int32.lt_of_lt_of_le t1 hg2
  obtain ⟨b0, b1⟩ := cell_in s0 s7 t0 t7
  refine v_aload_n dX11_areConnected_10 rfl rfl ?_
  refine gf_X11_10 dX11_areConnected_11 rfl hO ?_
  refine gf_X11_147 dX11_areConnected_14 rfl hDk ?_
  refine v_aload_n dX11_areConnected_17 rfl rfl ?_
  refine gf_X11_20 dX11_areConnected_18 rfl hO ?_
  refine v_iload_n dX11_areConnected_21 rfl rfl ?_
  refine v_iload_n dX11_areConnected_22 rfl rfl ?_
  refine k_X11_151 dX11_areConnected_23 rfl (c_nearestWay htr hC hDs hB1 (fun z => hDr (hkD.2.2.1.symm.trans z)) s0 s1 t0 t1) hDs (Nat.le_of_ble_eq_true rfl) (by omega) (by omega) (Nat.le_of_ble_eq_true rfl) (fun r23 M9 h9 => ?_) (fun _ _ h9 => h9.elim)
  obtain ⟨f9, hq9, rfl, e9⟩ := h9
  have hQ := hP.desk (M' := M9) (by rw [e9]; exact Frm.up hkD.2.2.1) (by rw [e9]; exact Dk.row hK hB1 f9)
  have hF9 : F30 kd M M9 := by rw [e9]; exact Frm.f30 (r := 20) (Frm.up hkD.2.2.1) (by decide)
  clear e9
  obtain ⟨i1, i2, i3⟩ := hq9.2 t t0 t1
  refine lc_X11_157 dX11_areConnected_26 rfl ?_
  refine v_icmp_ge (tgt := 35) dX11_areConnected_28 (by decide) (fun h28 => ?_) (fun h28 => ?_)
  · refine v_iconst (v := 0) dX11_areConnected_35 (by decide) ?_
    exact v_zret dX11_areConnected_36 rfl (by first | rfl | assumption)  (by
        first
          | exact ⟨⟨⟨s0, s1⟩, t0, t1⟩, ⟨_, i1, (if_pos ((far_lt i3).1.mp (Int32.not_le.mp h28))).symm⟩, hQ, hF9⟩
          | exact ⟨⟨⟨s0, s1⟩, t0, t1⟩, ⟨_, i1, (if_neg (fun z => absurd ((far_lt i3).1.mpr z) (Int32.not_lt.mpr h28))).symm⟩, hQ, hF9⟩) (by omega) (by omega)
  · refine v_iconst (v := 1) dX11_areConnected_31 (by decide) ?_
    refine v_goto (tgt := 36) dX11_areConnected_32 (by decide) ?_
    exact v_zret dX11_areConnected_36 rfl (by first | rfl | assumption)  (by
        first
          | exact ⟨⟨⟨s0, s1⟩, t0, t1⟩, ⟨_, i1, (if_pos ((far_lt i3).1.mp (Int32.not_le.mp h28))).symm⟩, hQ, hF9⟩
          | exact ⟨⟨⟨s0, s1⟩, t0, t1⟩, ⟨_, i1, (if_neg (fun z => absurd ((far_lt i3).1.mpr z) (Int32.not_lt.mpr h28))).symm⟩, hQ, hF9⟩) (by omega) (by omega)
theorem dX11_distance_0 : decode cX11_distance 0 = .ok (.aload_n 0, 1) := by decide +kernel
theorem dX11_distance_1 : decode cX11_distance 1 = .ok (.iload_n 1, 1) := by decide +kernel
theorem dX11_distance_2 : decode cX11_distance 2 = .ok (.invokevirtual 136, 3) := by decide +kernel
theorem dX11_distance_5 : decode cX11_distance 5 = .ok (.aload_n 0, 1) := by decide +kernel
theorem dX11_distance_6 : decode cX11_distance 6 = .ok (.iload_n 2, 1) := by decide +kernel
theorem dX11_distance_7 : decode cX11_distance 7 = .ok (.invokevirtual 136, 3) := by decide +kernel
theorem dX11_distance_10 : decode cX11_distance 10 = .ok (.aload_n 0, 1) := by decide +kernel
theorem dX11_distance_11 : decode cX11_distance 11 = .ok (.getfield 10, 3) := by decide +kernel
theorem dX11_distance_14 : decode cX11_distance 14 = .ok (.getfield 147, 3) := by decide +kernel
theorem dX11_distance_17 : decode cX11_distance 17 = .ok (.aload_n 0, 1) := by decide +kernel
theorem dX11_distance_18 : decode cX11_distance 18 = .ok (.getfield 20, 3) := by decide +kernel
theorem dX11_distance_21 : decode cX11_distance 21 = .ok (.iload_n 1, 1) := by decide +kernel
theorem dX11_distance_22 : decode cX11_distance 22 = .ok (.iload_n 2, 1) := by decide +kernel
theorem dX11_distance_23 : decode cX11_distance 23 = .ok (.invokevirtual 151, 3) := by decide +kernel
theorem dX11_distance_26 : decode cX11_distance 26 = .ok (.invokestatic 158, 3) := by decide +kernel
theorem dX11_distance_29 : decode cX11_distance 29 = .ok (.ireturn, 1) := by decide +kernel
set_option maxRecDepth 100000 in
set_option maxHeartbeats 4000000 in
theorem f_distance {l : Launch} {g : Nat → Nat} {M : LH} (htr : l.stackTraces = false) {kd : Nat → Nat} {p : Nat} {q a : Nat → Nat} {e8 : Int32 → Nat} {v : Int32 → Int32} {sv : Int32} {sa : Int32 → Int32} {ch : Int32} {pa tx : Int32 → Int32} {tn : Int32} {Ls : List Int32} {ea fl : Int32} (hP : Pg kd M p q a e8 v sv sa ch pa tx tn Ls ea fl) (s t : Int32) : K_X11_distance l g 5 3 18 [.ref p, .int s, .int t] M (RI (fun x M9 => (hst v s ∧ hst v t) ∧ IsD v 1000000 s t x.toInt ∧ x < 1000000 ∧ Pg kd M9 p q a e8 v sv sa ch pa tx tn Ls ea fl ∧ F30 kd M M9) (fun E M9 => ((¬ (hst v s ∧ hst v t) ∧ E = exV 1) ∨ ((hst v s ∧ hst v t) ∧ IsD v 1000000 s t 1000000 ∧ E = exV 3)) ∧ Pg kd M9 p q a e8 v sv sa ch pa tx tn Ls ea fl ∧ F30 kd M M9)) := by
  refine Ko_X11_distance htr (fun X => ?_)
  obtain ⟨hs, old, hB, hR⟩ := _root_.id hP
  obtain ⟨hO, hE8, hkp, hk3, ⟨ad, sl, le, fg, tp, F, hC⟩, hK, hS2, hS3, hS8, hRO⟩ := _root_.id hB
  obtain ⟨hSt, hRo, hSR, hLR, hSl, hLe, hkd, hinj, ⟨hfg, hRd, hSd, hLt⟩, hG⟩ := _root_.id hC
  obtain ⟨hDk, hDs, ⟨f1, hB1⟩, ⟨f2, hB2⟩, hBl, ⟨f3, hB3⟩, hRt, ⟨f4, hB4⟩, hkD, hn34, hDr⟩ := _root_.id hK
  obtain ⟨hg1, hg2, hg3, hg4, hg5, hg6, hg7, hg8, hgL, hgS, hgR, hgI, hgN, hg0⟩ := _root_.id hG
  refine v_aload_n dX11_distance_0 rfl rfl ?_
  refine v_iload_n dX11_distance_1 rfl rfl ?_
  refine k_X11_136 dX11_distance_2 rfl (c_needStation htr hP s) hO (Nat.le_of_ble_eq_true rfl) (by omega) (by omega) (Nat.le_of_ble_eq_true rfl) (fun M9 h9 => ?_) (fun _ _ h9 => by obtain ⟨h91, rfl, rfl⟩ := h9; exact VX.out ⟨Or.inl ⟨fun z => h91 z.1, rfl⟩, hP, F30.rf⟩ (by omega) (by omega))
  obtain ⟨hs9, e9⟩ := h9
  subst M9
  refine v_aload_n dX11_distance_5 rfl rfl ?_
  refine v_iload_n dX11_distance_6 rfl rfl ?_
  refine k_X11_136 dX11_distance_7 rfl (c_needStation htr hP t) hO (Nat.le_of_ble_eq_true rfl) (by omega) (by omega) (Nat.le_of_ble_eq_true rfl) (fun M9 h9 => ?_) (fun _ _ h9 => by obtain ⟨h91, rfl, rfl⟩ := h9; exact VX.out ⟨Or.inl ⟨fun z => h91 z.2, rfl⟩, hP, F30.rf⟩ (by omega) (by omega))
  obtain ⟨ht9, e9⟩ := h9
  subst M9
  obtain ⟨s0, s1⟩ := hs9
  obtain ⟨t0, t1⟩ := ht9
  have s7 := Int32.lt_of_lt_of_le s1 hg2
  have t7 := Int32.lt_of_lt_of_le t1 hg2
  obtain ⟨b0, b1⟩ := cell_in s0 s7 t0 t7
  refine v_aload_n dX11_distance_10 rfl rfl ?_
  refine gf_X11_10 dX11_distance_11 rfl hO ?_
  refine gf_X11_147 dX11_distance_14 rfl hDk ?_
  refine v_aload_n dX11_distance_17 rfl rfl ?_
  refine gf_X11_20 dX11_distance_18 rfl hO ?_
  refine v_iload_n dX11_distance_21 rfl rfl ?_
  refine v_iload_n dX11_distance_22 rfl rfl ?_
  refine k_X11_151 dX11_distance_23 rfl (c_nearestWay htr hC hDs hB1 (fun z => hDr (hkD.2.2.1.symm.trans z)) s0 s1 t0 t1) hDs (Nat.le_of_ble_eq_true rfl) (by omega) (by omega) (Nat.le_of_ble_eq_true rfl) (fun r23 M9 h9 => ?_) (fun _ _ h9 => h9.elim)
  obtain ⟨f9, hq9, rfl, e9⟩ := h9
  have hQ := hP.desk (M' := M9) (by rw [e9]; exact Frm.up hkD.2.2.1) (by rw [e9]; exact Dk.row hK hB1 f9)
  have hF9 : F30 kd M M9 := by rw [e9]; exact Frm.f30 (r := 20) (Frm.up hkD.2.2.1) (by decide)
  clear e9
  obtain ⟨i1, i2, i3⟩ := hq9.2 t t0 t1
  refine k_X11_158 dX11_distance_26 rfl (c_needWay htr) (Nat.le_of_ble_eq_true rfl) (by omega) (by omega) (Nat.le_of_ble_eq_true rfl) (fun r26 M9 h9 => ?_) (fun _ _ h9 => by obtain ⟨h91, rfl, rfl⟩ := h9; exact VX.out ⟨Or.inr ⟨⟨⟨s0, s1⟩, t0, t1⟩, (by have e := (far_lt i3).2 (Int32.not_lt.mpr h91); rw [e] at i1; exact i1), rfl⟩, hQ, hF9⟩ (by omega) (by omega))
  obtain ⟨hw1, rfl, e9⟩ := h9
  subst M9
  exact v_iret dX11_distance_29 rfl ⟨⟨⟨s0, s1⟩, t0, t1⟩, i1, hw1, hQ, hF9⟩ (by omega) (by omega)
theorem dX11_distanceByStations_0 : decode cX11_distanceByStations 0 = .ok (.aload_n 0, 1) := by decide +kernel
theorem dX11_distanceByStations_1 : decode cX11_distanceByStations 1 = .ok (.iload_n 1, 1) := by decide +kernel
theorem dX11_distanceByStations_2 : decode cX11_distanceByStations 2 = .ok (.invokevirtual 136, 3) := by decide +kernel
theorem dX11_distanceByStations_5 : decode cX11_distanceByStations 5 = .ok (.aload_n 0, 1) := by decide +kernel
theorem dX11_distanceByStations_6 : decode cX11_distanceByStations 6 = .ok (.iload_n 2, 1) := by decide +kernel
theorem dX11_distanceByStations_7 : decode cX11_distanceByStations 7 = .ok (.invokevirtual 136, 3) := by decide +kernel
theorem dX11_distanceByStations_10 : decode cX11_distanceByStations 10 = .ok (.aload_n 0, 1) := by decide +kernel
theorem dX11_distanceByStations_11 : decode cX11_distanceByStations 11 = .ok (.getfield 10, 3) := by decide +kernel
theorem dX11_distanceByStations_14 : decode cX11_distanceByStations 14 = .ok (.getfield 147, 3) := by decide +kernel
theorem dX11_distanceByStations_17 : decode cX11_distanceByStations 17 = .ok (.aload_n 0, 1) := by decide +kernel
theorem dX11_distanceByStations_18 : decode cX11_distanceByStations 18 = .ok (.getfield 20, 3) := by decide +kernel
theorem dX11_distanceByStations_21 : decode cX11_distanceByStations 21 = .ok (.invokevirtual 161, 3) := by decide +kernel
theorem dX11_distanceByStations_24 : decode cX11_distanceByStations 24 = .ok (.aload_n 0, 1) := by decide +kernel
theorem dX11_distanceByStations_25 : decode cX11_distanceByStations 25 = .ok (.getfield 10, 3) := by decide +kernel
theorem dX11_distanceByStations_28 : decode cX11_distanceByStations 28 = .ok (.getfield 147, 3) := by decide +kernel
theorem dX11_distanceByStations_31 : decode cX11_distanceByStations 31 = .ok (.getfield 164, 3) := by decide +kernel
theorem dX11_distanceByStations_34 : decode cX11_distanceByStations 34 = .ok (.iload_n 1, 1) := by decide +kernel
theorem dX11_distanceByStations_35 : decode cX11_distanceByStations 35 = .ok (.iload_n 2, 1) := by decide +kernel
theorem dX11_distanceByStations_36 : decode cX11_distanceByStations 36 = .ok (.invokestatic 144, 3) := by decide +kernel
theorem dX11_distanceByStations_39 : decode cX11_distanceByStations 39 = .ok (.iaload, 1) := by decide +kernel
theorem dX11_distanceByStations_40 : decode cX11_distanceByStations 40 = .ok (.invokestatic 158, 3) := by decide +kernel
theorem dX11_distanceByStations_43 : decode cX11_distanceByStations 43 = .ok (.ireturn, 1) := by decide +kernel
set_option maxRecDepth 100000 in
set_option maxHeartbeats 4000000 in
theorem f_distanceByStations {l : Launch} {g : Nat → Nat} {M : LH} (htr : l.stackTraces = false) {kd : Nat → Nat} {p : Nat} {q a : Nat → Nat} {e8 : Int32 → Nat} {v : Int32 → Int32} {sv : Int32} {sa : Int32 → Int32} {ch : Int32} {pa tx : Int32 → Int32} {tn : Int32} {Ls : List Int32} {ea fl : Int32} (hP : Pg kd M p q a e8 v sv sa ch pa tx tn Ls ea fl) (s t : Int32) : K_X11_distanceByStations l g 5 3 18 [.ref p, .int s, .int t] M (RI (fun x M9 => (hst v s ∧ hst v t) ∧ IsD v 1000000 s t x.toInt ∧ x < 1000000 ∧ Pg kd M9 p q a e8 v sv sa ch pa tx tn Ls ea fl ∧ F30 kd M M9) (fun E M9 => ((¬ (hst v s ∧ hst v t) ∧ E = exV 1) ∨ ((hst v s ∧ hst v t) ∧ IsD v 1000000 s t 1000000 ∧ E = exV 3)) ∧ Pg kd M9 p q a e8 v sv sa ch pa tx tn Ls ea fl ∧ F30 kd M M9)) := by
  refine Ko_X11_distanceByStations htr (fun X => ?_)
  obtain ⟨hs, old, hB, hR⟩ := _root_.id hP
  obtain ⟨hO, hE8, hkp, hk3, ⟨ad, sl, le, fg, tp, F, hC⟩, hK, hS2, hS3, hS8, hRO⟩ := _root_.id hB
  obtain ⟨hSt, hRo, hSR, hLR, hSl, hLe, hkd, hinj, ⟨hfg, hRd, hSd, hLt⟩, hG⟩ := _root_.id hC
  obtain ⟨hDk, hDs, ⟨f1, hB1⟩, ⟨f2, hB2⟩, hBl, ⟨f3, hB3⟩, hRt, ⟨f4, hB4⟩, hkD, hn34, hDr⟩ := _root_.id hK
  obtain ⟨hg1, hg2, hg3, hg4, hg5, hg6, hg7, hg8, hgL, hgS, hgR, hgI, hgN, hg0⟩ := _root_.id hG
  refine v_aload_n dX11_distanceByStations_0 rfl rfl ?_
  refine v_iload_n dX11_distanceByStations_1 rfl rfl ?_
  refine k_X11_136 dX11_distanceByStations_2 rfl (c_needStation htr hP s) hO (Nat.le_of_ble_eq_true rfl) (by omega) (by omega) (Nat.le_of_ble_eq_true rfl) (fun M9 h9 => ?_) (fun _ _ h9 => by obtain ⟨h91, rfl, rfl⟩ := h9; exact VX.out ⟨Or.inl ⟨fun z => h91 z.1, rfl⟩, hP, F30.rf⟩ (by omega) (by omega))
  obtain ⟨hs9, e9⟩ := h9
  subst M9
  refine v_aload_n dX11_distanceByStations_5 rfl rfl ?_
  refine v_iload_n dX11_distanceByStations_6 rfl rfl ?_
  refine k_X11_136 dX11_distanceByStations_7 rfl (c_needStation htr hP t) hO (Nat.le_of_ble_eq_true rfl) (by omega) (by omega) (Nat.le_of_ble_eq_true rfl) (fun M9 h9 => ?_) (fun _ _ h9 => by obtain ⟨h91, rfl, rfl⟩ := h9; exact VX.out ⟨Or.inl ⟨fun z => h91 z.2, rfl⟩, hP, F30.rf⟩ (by omega) (by omega))
  obtain ⟨ht9, e9⟩ := h9
  subst M9
  obtain ⟨s0, s1⟩ := hs9
  obtain ⟨t0, t1⟩ := ht9
  have s7 := Int32.lt_of_lt_of_le s1 hg2
  have t7 := Int32.lt_of_lt_of_le t1 hg2
  obtain ⟨b0, b1⟩ := cell_in s0 s7 t0 t7
  refine v_aload_n dX11_distanceByStations_10 rfl rfl ?_
  refine gf_X11_10 dX11_distanceByStations_11 rfl hO ?_
  refine gf_X11_147 dX11_distanceByStations_14 rfl hDk ?_
  refine v_aload_n dX11_distanceByStations_17 rfl rfl ?_
  refine gf_X11_20 dX11_distanceByStations_18 rfl hO ?_
  refine k_X11_161 dX11_distanceByStations_21 rfl (c_allowMoreStations htr hC hDs hB2 (fun z => hDr (hkD.2.2.2.1.symm.trans z))) hDs (Nat.le_of_ble_eq_true rfl) (by omega) (by omega) (Nat.le_of_ble_eq_true rfl) (fun M9 h9 => ?_) (fun _ _ h9 => h9.elim)
  obtain ⟨f9, hq9, e9⟩ := h9
  have hQ := hP.desk (M' := M9) (by rw [e9]; exact Frm.up hkD.2.2.2.1) (by rw [e9]; exact Dk.row hK hB2 f9)
  have hF9 : F30 kd M M9 := by rw [e9]; exact Frm.f30 (r := 20) (Frm.up hkD.2.2.2.1) (by decide)
  obtain ⟨i1, i2, i3⟩ := hq9 s s0 s1 t t0 t1
  have hB2q : M9 (q 4) = some (ia 49 f9) := by rw [e9]; exact hup_s
  clear e9
  obtain ⟨hs2, old2, hBq, hRq⟩ := _root_.id hQ
  obtain ⟨hO, -, -, -, -, hKq, -⟩ := _root_.id hBq
  obtain ⟨hDk, hDs, -⟩ := _root_.id hKq
  refine v_aload_n dX11_distanceByStations_24 rfl rfl ?_
  refine gf_X11_10 dX11_distanceByStations_25 rfl hO ?_
  refine gf_X11_147 dX11_distanceByStations_28 rfl hDk ?_
  refine gf_X11_164 dX11_distanceByStations_31 rfl hDs ?_
  refine v_iload_n dX11_distanceByStations_34 rfl rfl ?_
  refine v_iload_n dX11_distanceByStations_35 rfl rfl ?_
  refine k_X11_144 dX11_distanceByStations_36 rfl (c_cell htr s t) (Nat.le_of_ble_eq_true rfl) (by omega) (by omega) (Nat.le_of_ble_eq_true rfl) (fun r36 M9 h9 => ?_) (fun _ _ h9 => h9.elim)
  obtain ⟨rfl, e9⟩ := h9
  subst M9
  refine v_iald dX11_distanceByStations_39 hB2q b0 b1 ?_
  refine k_X11_158 dX11_distanceByStations_40 rfl (c_needWay htr) (Nat.le_of_ble_eq_true rfl) (by omega) (by omega) (Nat.le_of_ble_eq_true rfl) (fun r40 M9 h9 => ?_) (fun _ _ h9 => by obtain ⟨h91, rfl, rfl⟩ := h9; exact VX.out ⟨Or.inr ⟨⟨⟨s0, s1⟩, t0, t1⟩, (by have e := (far_l2 i3).2 (Int32.not_lt.mpr h91); rw [e] at i1; exact i1), rfl⟩, hQ, hF9⟩ (by omega) (by omega))
  obtain ⟨hw1, rfl, e9⟩ := h9
  subst M9
  exact v_iret dX11_distanceByStations_43 rfl ⟨⟨⟨s0, s1⟩, t0, t1⟩, i1, hw1, hQ, hF9⟩ (by omega) (by omega)
theorem dX11_waitingIn_0 : decode cX11_waitingIn 0 = .ok (.aload_n 0, 1) := by decide +kernel
theorem dX11_waitingIn_1 : decode cX11_waitingIn 1 = .ok (.iload_n 1, 1) := by decide +kernel
theorem dX11_waitingIn_2 : decode cX11_waitingIn 2 = .ok (.invokevirtual 136, 3) := by decide +kernel
theorem dX11_waitingIn_5 : decode cX11_waitingIn 5 = .ok (.aload_n 0, 1) := by decide +kernel
theorem dX11_waitingIn_6 : decode cX11_waitingIn 6 = .ok (.getfield 20, 3) := by decide +kernel
theorem dX11_waitingIn_9 : decode cX11_waitingIn 9 = .ok (.iload_n 1, 1) := by decide +kernel
theorem dX11_waitingIn_10 : decode cX11_waitingIn 10 = .ok (.invokevirtual 167, 3) := by decide +kernel
theorem dX11_waitingIn_13 : decode cX11_waitingIn 13 = .ok (.ireturn, 1) := by decide +kernel
set_option maxRecDepth 100000 in
set_option maxHeartbeats 4000000 in
theorem f_waitingIn {l : Launch} {g : Nat → Nat} {M : LH} (htr : l.stackTraces = false) {kd : Nat → Nat} {p : Nat} {q a : Nat → Nat} {e8 : Int32 → Nat} {v : Int32 → Int32} {sv : Int32} {sa : Int32 → Int32} {ch : Int32} {pa tx : Int32 → Int32} {tn : Int32} {Ls : List Int32} {ea fl : Int32} (hP : Pg kd M p q a e8 v sv sa ch pa tx tn Ls ea fl) (s : Int32) : K_X11_waitingIn l g 5 2 12 [.ref p, .int s] M (RI (fun x M9 => hst v s ∧ x = nI (wL v s (v 7).toNatClampNeg).length ∧ Pg kd M9 p q a e8 v sv sa ch pa tx tn Ls ea fl ∧ F30 kd M M9) (fun E M9 => ¬ hst v s ∧ E = exV 1 ∧ Pg kd M9 p q a e8 v sv sa ch pa tx tn Ls ea fl ∧ F30 kd M M9)) := by
  refine Ko_X11_waitingIn htr (fun X => ?_)
  obtain ⟨hs, old, hB, hR⟩ := _root_.id hP
  obtain ⟨hO, hE8, hkp, hk3, ⟨ad, sl, le, fg, tp, F, hC⟩, hK, hS2, hS3, hS8, hRO⟩ := _root_.id hB
  obtain ⟨hSt, hRo, hSR, hLR, hSl, hLe, hkd, hinj, ⟨hfg, hRd, hSd, hLt⟩, hG⟩ := _root_.id hC
  obtain ⟨hDk, hDs, ⟨f1, hB1⟩, ⟨f2, hB2⟩, hBl, ⟨f3, hB3⟩, hRt, ⟨f4, hB4⟩, hkD, hn34, hDr⟩ := _root_.id hK
  obtain ⟨hg1, hg2, hg3, hg4, hg5, hg6, hg7, hg8, hgL, hgS, hgR, hgI, hgN, hg0⟩ := _root_.id hG
  refine v_aload_n dX11_waitingIn_0 rfl rfl ?_
  refine v_iload_n dX11_waitingIn_1 rfl rfl ?_
  refine k_X11_136 dX11_waitingIn_2 rfl (c_needStation htr hP s) hO (Nat.le_of_ble_eq_true rfl) (by omega) (by omega) (Nat.le_of_ble_eq_true rfl) (fun M9 h9 => ?_) (fun _ _ h9 => by obtain ⟨h91, rfl, rfl⟩ := h9; exact VX.out ⟨h91, rfl, hP, F30.rf⟩ (by omega) (by omega))
  obtain ⟨hs9, e9⟩ := h9
  subst M9
  refine v_aload_n dX11_waitingIn_5 rfl rfl ?_
  refine gf_X11_20 dX11_waitingIn_6 rfl hO ?_
  refine v_iload_n dX11_waitingIn_9 rfl rfl ?_
  refine k_X11_167 dX11_waitingIn_10 rfl (c_countIn htr hC hs9.1 (Int32.lt_trans (Int32.lt_of_lt_of_le hs9.2 hg2) (by decide))) hSt (Nat.le_of_ble_eq_true rfl) (by omega) (by omega) (Nat.le_of_ble_eq_true rfl) (fun r10 M9 h9 => ?_) (fun _ _ h9 => h9.elim)
  obtain ⟨rfl, e9⟩ := h9
  subst M9
  exact v_iret dX11_waitingIn_13 rfl ⟨hs9, cnt_wL, hP, F30.rf⟩ (by omega) (by omega)
theorem dX11_capacity_0 : decode cX11_capacity 0 = .ok (.aload_n 0, 1) := by decide +kernel
theorem dX11_capacity_1 : decode cX11_capacity 1 = .ok (.iload_n 1, 1) := by decide +kernel
theorem dX11_capacity_2 : decode cX11_capacity 2 = .ok (.invokevirtual 173, 3) := by decide +kernel
theorem dX11_capacity_5 : decode cX11_capacity 5 = .ok (.getfield 177, 3) := by decide +kernel
theorem dX11_capacity_8 : decode cX11_capacity 8 = .ok (.ireturn, 1) := by decide +kernel
set_option maxRecDepth 100000 in
set_option maxHeartbeats 4000000 in
theorem f_capacity {l : Launch} {g : Nat → Nat} {M : LH} (htr : l.stackTraces = false) {kd : Nat → Nat} {p : Nat} {q a : Nat → Nat} {e8 : Int32 → Nat} {v : Int32 → Int32} {sv : Int32} {sa : Int32 → Int32} {ch : Int32} {pa tx : Int32 → Int32} {tn : Int32} {Ls : List Int32} {ea fl : Int32} (hP : Pg kd M p q a e8 v sv sa ch pa tx tn Ls ea fl) (k : Int32) : K_X11_capacity l g 5 2 12 [.ref p, .int k] M (RI (fun x M9 => hsl v k ∧ x = sd v k 0 ∧ Pg kd M9 p q a e8 v sv sa ch pa tx tn Ls ea fl ∧ F30 kd M M9) (fun E M9 => ¬ hsl v k ∧ E = exV 1 ∧ Pg kd M9 p q a e8 v sv sa ch pa tx tn Ls ea fl ∧ F30 kd M M9)) := by
  refine Ko_X11_capacity htr (fun X => ?_)
  obtain ⟨hs, old, hB, hR⟩ := _root_.id hP
  obtain ⟨hO, hE8, hkp, hk3, ⟨ad, sl, le, fg, tp, F, hC⟩, hK, hS2, hS3, hS8, hRO⟩ := _root_.id hB
  obtain ⟨hSt, hRo, hSR, hLR, hSl, hLe, hkd, hinj, ⟨hfg, hRd, hSd, hLt⟩, hG⟩ := _root_.id hC
  obtain ⟨hDk, hDs, ⟨f1, hB1⟩, ⟨f2, hB2⟩, hBl, ⟨f3, hB3⟩, hRt, ⟨f4, hB4⟩, hkD, hn34, hDr⟩ := _root_.id hK
  obtain ⟨hg1, hg2, hg3, hg4, hg5, hg6, hg7, hg8, hgL, hgS, hgR, hgI, hgN, hg0⟩ := _root_.id hG
  refine v_aload_n dX11_capacity_0 rfl rfl ?_
  refine v_iload_n dX11_capacity_1 rfl rfl ?_
  refine k_X11_173 dX11_capacity_2 rfl (c_needSledge htr hO hC k) hO (Nat.le_of_ble_eq_true rfl) (by omega) (by omega) (Nat.le_of_ble_eq_true rfl) (fun r2 M9 h9 => ?_) (fun _ _ h9 => by obtain ⟨h91, rfl, rfl⟩ := h9; exact VX.out ⟨h91, rfl, hP, F30.rf⟩ (by omega) (by omega))
  obtain ⟨hk9, rfl, e9⟩ := h9
  subst M9
  obtain ⟨k0, k1⟩ := _root_.id hk9
  have k3 : k < 3 := Int32.lt_of_lt_of_le k1 hg4
  obtain ⟨y0, y1, y2⟩ := hSd k k0 k1
  have hSk := hSl k k0 k3
  refine gf_X11_177 dX11_capacity_5 rfl hSk ?_
  exact v_iret dX11_capacity_8 rfl ⟨hk9, y0, hP, F30.rf⟩ (by omega) (by omega)
theorem dX11_stationOfSledge_0 : decode cX11_stationOfSledge 0 = .ok (.aload_n 0, 1) := by decide +kernel
theorem dX11_stationOfSledge_1 : decode cX11_stationOfSledge 1 = .ok (.iload_n 1, 1) := by decide +kernel
theorem dX11_stationOfSledge_2 : decode cX11_stationOfSledge 2 = .ok (.invokevirtual 173, 3) := by decide +kernel
theorem dX11_stationOfSledge_5 : decode cX11_stationOfSledge 5 = .ok (.getfield 189, 3) := by decide +kernel
theorem dX11_stationOfSledge_8 : decode cX11_stationOfSledge 8 = .ok (.ireturn, 1) := by decide +kernel
set_option maxRecDepth 100000 in
set_option maxHeartbeats 4000000 in
theorem f_stationOfSledge {l : Launch} {g : Nat → Nat} {M : LH} (htr : l.stackTraces = false) {kd : Nat → Nat} {p : Nat} {q a : Nat → Nat} {e8 : Int32 → Nat} {v : Int32 → Int32} {sv : Int32} {sa : Int32 → Int32} {ch : Int32} {pa tx : Int32 → Int32} {tn : Int32} {Ls : List Int32} {ea fl : Int32} (hP : Pg kd M p q a e8 v sv sa ch pa tx tn Ls ea fl) (k : Int32) : K_X11_stationOfSledge l g 5 2 12 [.ref p, .int k] M (RI (fun x M9 => hsl v k ∧ x = sd v k 1 ∧ Pg kd M9 p q a e8 v sv sa ch pa tx tn Ls ea fl ∧ F30 kd M M9) (fun E M9 => ¬ hsl v k ∧ E = exV 1 ∧ Pg kd M9 p q a e8 v sv sa ch pa tx tn Ls ea fl ∧ F30 kd M M9)) := by
  refine Ko_X11_stationOfSledge htr (fun X => ?_)
  obtain ⟨hs, old, hB, hR⟩ := _root_.id hP
  obtain ⟨hO, hE8, hkp, hk3, ⟨ad, sl, le, fg, tp, F, hC⟩, hK, hS2, hS3, hS8, hRO⟩ := _root_.id hB
  obtain ⟨hSt, hRo, hSR, hLR, hSl, hLe, hkd, hinj, ⟨hfg, hRd, hSd, hLt⟩, hG⟩ := _root_.id hC
  obtain ⟨hDk, hDs, ⟨f1, hB1⟩, ⟨f2, hB2⟩, hBl, ⟨f3, hB3⟩, hRt, ⟨f4, hB4⟩, hkD, hn34, hDr⟩ := _root_.id hK
  obtain ⟨hg1, hg2, hg3, hg4, hg5, hg6, hg7, hg8, hgL, hgS, hgR, hgI, hgN, hg0⟩ := _root_.id hG
  refine v_aload_n dX11_stationOfSledge_0 rfl rfl ?_
  refine v_iload_n dX11_stationOfSledge_1 rfl rfl ?_
  refine k_X11_173 dX11_stationOfSledge_2 rfl (c_needSledge htr hO hC k) hO (Nat.le_of_ble_eq_true rfl) (by omega) (by omega) (Nat.le_of_ble_eq_true rfl) (fun r2 M9 h9 => ?_) (fun _ _ h9 => by obtain ⟨h91, rfl, rfl⟩ := h9; exact VX.out ⟨h91, rfl, hP, F30.rf⟩ (by omega) (by omega))
  obtain ⟨hk9, rfl, e9⟩ := h9
  subst M9
  obtain ⟨k0, k1⟩ := _root_.id hk9
  have k3 : k < 3 := Int32.lt_of_lt_of_le k1 hg4
  obtain ⟨y0, y1, y2⟩ := hSd k k0 k1
  have hSk := hSl k k0 k3
  refine gf_X11_189 dX11_stationOfSledge_5 rfl hSk ?_
  exact v_iret dX11_stationOfSledge_8 rfl ⟨hk9, y1, hP, F30.rf⟩ (by omega) (by omega)
theorem dX11_hoursLeft_0 : decode cX11_hoursLeft 0 = .ok (.aload_n 0, 1) := by decide +kernel
theorem dX11_hoursLeft_1 : decode cX11_hoursLeft 1 = .ok (.iload_n 1, 1) := by decide +kernel
theorem dX11_hoursLeft_2 : decode cX11_hoursLeft 2 = .ok (.invokevirtual 173, 3) := by decide +kernel
theorem dX11_hoursLeft_5 : decode cX11_hoursLeft 5 = .ok (.getfield 192, 3) := by decide +kernel
theorem dX11_hoursLeft_8 : decode cX11_hoursLeft 8 = .ok (.ireturn, 1) := by decide +kernel
set_option maxRecDepth 100000 in
set_option maxHeartbeats 4000000 in
theorem f_hoursLeft {l : Launch} {g : Nat → Nat} {M : LH} (htr : l.stackTraces = false) {kd : Nat → Nat} {p : Nat} {q a : Nat → Nat} {e8 : Int32 → Nat} {v : Int32 → Int32} {sv : Int32} {sa : Int32 → Int32} {ch : Int32} {pa tx : Int32 → Int32} {tn : Int32} {Ls : List Int32} {ea fl : Int32} (hP : Pg kd M p q a e8 v sv sa ch pa tx tn Ls ea fl) (k : Int32) : K_X11_hoursLeft l g 5 2 12 [.ref p, .int k] M (RI (fun x M9 => hsl v k ∧ x = sd v k 2 ∧ Pg kd M9 p q a e8 v sv sa ch pa tx tn Ls ea fl ∧ F30 kd M M9) (fun E M9 => ¬ hsl v k ∧ E = exV 1 ∧ Pg kd M9 p q a e8 v sv sa ch pa tx tn Ls ea fl ∧ F30 kd M M9)) := by
  refine Ko_X11_hoursLeft htr (fun X => ?_)
  obtain ⟨hs, old, hB, hR⟩ := _root_.id hP
  obtain ⟨hO, hE8, hkp, hk3, ⟨ad, sl, le, fg, tp, F, hC⟩, hK, hS2, hS3, hS8, hRO⟩ := _root_.id hB
  obtain ⟨hSt, hRo, hSR, hLR, hSl, hLe, hkd, hinj, ⟨hfg, hRd, hSd, hLt⟩, hG⟩ := _root_.id hC
  obtain ⟨hDk, hDs, ⟨f1, hB1⟩, ⟨f2, hB2⟩, hBl, ⟨f3, hB3⟩, hRt, ⟨f4, hB4⟩, hkD, hn34, hDr⟩ := _root_.id hK
  obtain ⟨hg1, hg2, hg3, hg4, hg5, hg6, hg7, hg8, hgL, hgS, hgR, hgI, hgN, hg0⟩ := _root_.id hG
  refine v_aload_n dX11_hoursLeft_0 rfl rfl ?_
  refine v_iload_n dX11_hoursLeft_1 rfl rfl ?_
  refine k_X11_173 dX11_hoursLeft_2 rfl (c_needSledge htr hO hC k) hO (Nat.le_of_ble_eq_true rfl) (by omega) (by omega) (Nat.le_of_ble_eq_true rfl) (fun r2 M9 h9 => ?_) (fun _ _ h9 => by obtain ⟨h91, rfl, rfl⟩ := h9; exact VX.out ⟨h91, rfl, hP, F30.rf⟩ (by omega) (by omega))
  obtain ⟨hk9, rfl, e9⟩ := h9
  subst M9
  obtain ⟨k0, k1⟩ := _root_.id hk9
  have k3 : k < 3 := Int32.lt_of_lt_of_le k1 hg4
  obtain ⟨y0, y1, y2⟩ := hSd k k0 k1
  have hSk := hSl k k0 k3
  refine gf_X11_192 dX11_hoursLeft_5 rfl hSk ?_
  exact v_iret dX11_hoursLeft_8 rfl ⟨hk9, y2, hP, F30.rf⟩ (by omega) (by omega)
theorem dX11_isTravelling_0 : decode cX11_isTravelling 0 = .ok (.aload_n 0, 1) := by decide +kernel
theorem dX11_isTravelling_1 : decode cX11_isTravelling 1 = .ok (.iload_n 1, 1) := by decide +kernel
theorem dX11_isTravelling_2 : decode cX11_isTravelling 2 = .ok (.invokevirtual 173, 3) := by decide +kernel
theorem dX11_isTravelling_5 : decode cX11_isTravelling 5 = .ok (.invokevirtual 185, 3) := by decide +kernel
theorem dX11_isTravelling_8 : decode cX11_isTravelling 8 = .ok (.ireturn, 1) := by decide +kernel
set_option maxRecDepth 100000 in
set_option maxHeartbeats 4000000 in
theorem f_isTravelling {l : Launch} {g : Nat → Nat} {M : LH} (htr : l.stackTraces = false) {kd : Nat → Nat} {p : Nat} {q a : Nat → Nat} {e8 : Int32 → Nat} {v : Int32 → Int32} {sv : Int32} {sa : Int32 → Int32} {ch : Int32} {pa tx : Int32 → Int32} {tn : Int32} {Ls : List Int32} {ea fl : Int32} (hP : Pg kd M p q a e8 v sv sa ch pa tx tn Ls ea fl) (k : Int32) : K_X11_isTravelling l g 5 2 12 [.ref p, .int k] M (RI (fun x M9 => hsl v k ∧ x = (if 0 < sd v k 2 then 1 else 0) ∧ Pg kd M9 p q a e8 v sv sa ch pa tx tn Ls ea fl ∧ F30 kd M M9) (fun E M9 => ¬ hsl v k ∧ E = exV 1 ∧ Pg kd M9 p q a e8 v sv sa ch pa tx tn Ls ea fl ∧ F30 kd M M9)) := by
  refine Ko_X11_isTravelling htr (fun X => ?_)
  obtain ⟨hs, old, hB, hR⟩ := _root_.id hP
  obtain ⟨hO, hE8, hkp, hk3, ⟨ad, sl, le, fg, tp, F, hC⟩, hK, hS2, hS3, hS8, hRO⟩ := _root_.id hB
  obtain ⟨hSt, hRo, hSR, hLR, hSl, hLe, hkd, hinj, ⟨hfg, hRd, hSd, hLt⟩, hG⟩ := _root_.id hC
  obtain ⟨hDk, hDs, ⟨f1, hB1⟩, ⟨f2, hB2⟩, hBl, ⟨f3, hB3⟩, hRt, ⟨f4, hB4⟩, hkD, hn34, hDr⟩ := _root_.id hK
  obtain ⟨hg1, hg2, hg3, hg4, hg5, hg6, hg7, hg8, hgL, hgS, hgR, hgI, hgN, hg0⟩ := _root_.id hG
  refine v_aload_n dX11_isTravelling_0 rfl rfl ?_
  refine v_iload_n dX11_isTravelling_1 rfl rfl ?_
  refine k_X11_173 dX11_isTravelling_2 rfl (c_needSledge htr hO hC k) hO (Nat.le_of_ble_eq_true rfl) (by omega) (by omega) (Nat.le_of_ble_eq_true rfl) (fun r2 M9 h9 => ?_) (fun _ _ h9 => by obtain ⟨h91, rfl, rfl⟩ := h9; exact VX.out ⟨h91, rfl, hP, F30.rf⟩ (by omega) (by omega))
  obtain ⟨hk9, rfl, e9⟩ := h9
  subst M9
  obtain ⟨k0, k1⟩ := _root_.id hk9
  have k3 : k < 3 := Int32.lt_of_lt_of_le k1 hg4
  obtain ⟨y0, y1, y2⟩ := hSd k k0 k1
  have hSk := hSl k k0 k3
  refine k_X11_185 dX11_isTravelling_5 rfl (c_travels htr hSk) hSk (Nat.le_of_ble_eq_true rfl) (by omega) (by omega) (Nat.le_of_ble_eq_true rfl) (fun r5 M9 h9 => ?_) (fun _ _ h9 => h9.elim)
  obtain ⟨rfl, e9⟩ := h9
  subst M9
  exact v_zret dX11_isTravelling_8 rfl (by split <;> rfl)  ⟨hk9, (by rw [y2]), hP, F30.rf⟩ (by omega) (by omega)
theorem dX11_loadOf_0 : decode cX11_loadOf 0 = .ok (.aload_n 0, 1) := by decide +kernel
theorem dX11_loadOf_1 : decode cX11_loadOf 1 = .ok (.iload_n 1, 1) := by decide +kernel
theorem dX11_loadOf_2 : decode cX11_loadOf 2 = .ok (.invokevirtual 173, 3) := by decide +kernel
theorem dX11_loadOf_5 : decode cX11_loadOf 5 = .ok (.pop, 1) := by decide +kernel
theorem dX11_loadOf_6 : decode cX11_loadOf 6 = .ok (.aload_n 0, 1) := by decide +kernel
theorem dX11_loadOf_7 : decode cX11_loadOf 7 = .ok (.getfield 20, 3) := by decide +kernel
theorem dX11_loadOf_10 : decode cX11_loadOf 10 = .ok (.iload_n 1, 1) := by decide +kernel
theorem dX11_loadOf_11 : decode cX11_loadOf 11 = .ok (.invokevirtual 182, 3) := by decide +kernel
theorem dX11_loadOf_14 : decode cX11_loadOf 14 = .ok (.ireturn, 1) := by decide +kernel
set_option maxRecDepth 100000 in
set_option maxHeartbeats 4000000 in
theorem f_loadOf {l : Launch} {g : Nat → Nat} {M : LH} (htr : l.stackTraces = false) {kd : Nat → Nat} {p : Nat} {q a : Nat → Nat} {e8 : Int32 → Nat} {v : Int32 → Int32} {sv : Int32} {sa : Int32 → Int32} {ch : Int32} {pa tx : Int32 → Int32} {tn : Int32} {Ls : List Int32} {ea fl : Int32} (hP : Pg kd M p q a e8 v sv sa ch pa tx tn Ls ea fl) (k : Int32) : K_X11_loadOf l g 5 2 12 [.ref p, .int k] M (RI (fun x M9 => hsl v k ∧ x = loadOn v k ∧ Pg kd M9 p q a e8 v sv sa ch pa tx tn Ls ea fl ∧ F30 kd M M9) (fun E M9 => ¬ hsl v k ∧ E = exV 1 ∧ Pg kd M9 p q a e8 v sv sa ch pa tx tn Ls ea fl ∧ F30 kd M M9)) := by
  refine Ko_X11_loadOf htr (fun X => ?_)
  obtain ⟨hs, old, hB, hR⟩ := _root_.id hP
  obtain ⟨hO, hE8, hkp, hk3, ⟨ad, sl, le, fg, tp, F, hC⟩, hK, hS2, hS3, hS8, hRO⟩ := _root_.id hB
  obtain ⟨hSt, hRo, hSR, hLR, hSl, hLe, hkd, hinj, ⟨hfg, hRd, hSd, hLt⟩, hG⟩ := _root_.id hC
  obtain ⟨hDk, hDs, ⟨f1, hB1⟩, ⟨f2, hB2⟩, hBl, ⟨f3, hB3⟩, hRt, ⟨f4, hB4⟩, hkD, hn34, hDr⟩ := _root_.id hK
  obtain ⟨hg1, hg2, hg3, hg4, hg5, hg6, hg7, hg8, hgL, hgS, hgR, hgI, hgN, hg0⟩ := _root_.id hG
  refine v_aload_n dX11_loadOf_0 rfl rfl ?_
  refine v_iload_n dX11_loadOf_1 rfl rfl ?_
  refine k_X11_173 dX11_loadOf_2 rfl (c_needSledge htr hO hC k) hO (Nat.le_of_ble_eq_true rfl) (by omega) (by omega) (Nat.le_of_ble_eq_true rfl) (fun r2 M9 h9 => ?_) (fun _ _ h9 => by obtain ⟨h91, rfl, rfl⟩ := h9; exact VX.out ⟨h91, rfl, hP, F30.rf⟩ (by omega) (by omega))
  obtain ⟨hk9, rfl, e9⟩ := h9
  subst M9
  obtain ⟨k0, k1⟩ := _root_.id hk9
  have k3 : k < 3 := Int32.lt_of_lt_of_le k1 hg4
  obtain ⟨y0, y1, y2⟩ := hSd k k0 k1
  have hSk := hSl k k0 k3
  refine v_pop dX11_loadOf_5 rfl ?_
  refine v_aload_n dX11_loadOf_6 rfl rfl ?_
  refine gf_X11_20 dX11_loadOf_7 rfl hO ?_
  refine v_iload_n dX11_loadOf_10 rfl rfl ?_
  refine k_X11_182 dX11_loadOf_11 rfl (c_weightOn htr hC k0 (Int32.lt_trans k3 (by decide))) hSt (Nat.le_of_ble_eq_true rfl) (by omega) (by omega) (Nat.le_of_ble_eq_true rfl) (fun r11 M9 h9 => ?_) (fun _ _ h9 => h9.elim)
  obtain ⟨rfl, e9⟩ := h9
  subst M9
  exact v_iret dX11_loadOf_14 rfl ⟨hk9, rfl, hP, F30.rf⟩ (by omega) (by omega)
theorem dX11_lettersOn_0 : decode cX11_lettersOn 0 = .ok (.aload_n 0, 1) := by decide +kernel
theorem dX11_lettersOn_1 : decode cX11_lettersOn 1 = .ok (.iload_n 1, 1) := by decide +kernel
theorem dX11_lettersOn_2 : decode cX11_lettersOn 2 = .ok (.invokevirtual 173, 3) := by decide +kernel
theorem dX11_lettersOn_5 : decode cX11_lettersOn 5 = .ok (.pop, 1) := by decide +kernel
theorem dX11_lettersOn_6 : decode cX11_lettersOn 6 = .ok (.aload_n 0, 1) := by decide +kernel
theorem dX11_lettersOn_7 : decode cX11_lettersOn 7 = .ok (.getfield 20, 3) := by decide +kernel
theorem dX11_lettersOn_10 : decode cX11_lettersOn 10 = .ok (.iload_n 1, 1) := by decide +kernel
theorem dX11_lettersOn_11 : decode cX11_lettersOn 11 = .ok (.invokevirtual 195, 3) := by decide +kernel
theorem dX11_lettersOn_14 : decode cX11_lettersOn 14 = .ok (.ireturn, 1) := by decide +kernel
set_option maxRecDepth 100000 in
set_option maxHeartbeats 4000000 in
theorem f_lettersOn {l : Launch} {g : Nat → Nat} {M : LH} (htr : l.stackTraces = false) {kd : Nat → Nat} {p : Nat} {q a : Nat → Nat} {e8 : Int32 → Nat} {v : Int32 → Int32} {sv : Int32} {sa : Int32 → Int32} {ch : Int32} {pa tx : Int32 → Int32} {tn : Int32} {Ls : List Int32} {ea fl : Int32} (hP : Pg kd M p q a e8 v sv sa ch pa tx tn Ls ea fl) (k : Int32) : K_X11_lettersOn l g 5 2 12 [.ref p, .int k] M (RI (fun x M9 => hsl v k ∧ x = nI (wL v (10 + k) (v 7).toNatClampNeg).length ∧ Pg kd M9 p q a e8 v sv sa ch pa tx tn Ls ea fl ∧ F30 kd M M9) (fun E M9 => ¬ hsl v k ∧ E = exV 1 ∧ Pg kd M9 p q a e8 v sv sa ch pa tx tn Ls ea fl ∧ F30 kd M M9)) := by
  refine Ko_X11_lettersOn htr (fun X => ?_)
  obtain ⟨hs, old, hB, hR⟩ := _root_.id hP
  obtain ⟨hO, hE8, hkp, hk3, ⟨ad, sl, le, fg, tp, F, hC⟩, hK, hS2, hS3, hS8, hRO⟩ := _root_.id hB
  obtain ⟨hSt, hRo, hSR, hLR, hSl, hLe, hkd, hinj, ⟨hfg, hRd, hSd, hLt⟩, hG⟩ := _root_.id hC
  obtain ⟨hDk, hDs, ⟨f1, hB1⟩, ⟨f2, hB2⟩, hBl, ⟨f3, hB3⟩, hRt, ⟨f4, hB4⟩, hkD, hn34, hDr⟩ := _root_.id hK
  obtain ⟨hg1, hg2, hg3, hg4, hg5, hg6, hg7, hg8, hgL, hgS, hgR, hgI, hgN, hg0⟩ := _root_.id hG
  refine v_aload_n dX11_lettersOn_0 rfl rfl ?_
  refine v_iload_n dX11_lettersOn_1 rfl rfl ?_
  refine k_X11_173 dX11_lettersOn_2 rfl (c_needSledge htr hO hC k) hO (Nat.le_of_ble_eq_true rfl) (by omega) (by omega) (Nat.le_of_ble_eq_true rfl) (fun r2 M9 h9 => ?_) (fun _ _ h9 => by obtain ⟨h91, rfl, rfl⟩ := h9; exact VX.out ⟨h91, rfl, hP, F30.rf⟩ (by omega) (by omega))
  obtain ⟨hk9, rfl, e9⟩ := h9
  subst M9
  obtain ⟨k0, k1⟩ := _root_.id hk9
  have k3 : k < 3 := Int32.lt_of_lt_of_le k1 hg4
  obtain ⟨y0, y1, y2⟩ := hSd k k0 k1
  have hSk := hSl k k0 k3
  refine v_pop dX11_lettersOn_5 rfl ?_
  refine v_aload_n dX11_lettersOn_6 rfl rfl ?_
  refine gf_X11_20 dX11_lettersOn_7 rfl hO ?_
  refine v_iload_n dX11_lettersOn_10 rfl rfl ?_
  refine k_X11_195 dX11_lettersOn_11 rfl (c_countOn htr hC k0 (Int32.lt_trans k3 (by decide))) hSt (Nat.le_of_ble_eq_true rfl) (by omega) (by omega) (Nat.le_of_ble_eq_true rfl) (fun r11 M9 h9 => ?_) (fun _ _ h9 => h9.elim)
  obtain ⟨rfl, e9⟩ := h9
  subst M9
  exact v_iret dX11_lettersOn_14 rfl ⟨hk9, cnt_wL, hP, F30.rf⟩ (by omega) (by omega)
theorem dX11_letterOn_0 : decode cX11_letterOn 0 = .ok (.aload_n 0, 1) := by decide +kernel
theorem dX11_letterOn_1 : decode cX11_letterOn 1 = .ok (.iload_n 1, 1) := by decide +kernel
theorem dX11_letterOn_2 : decode cX11_letterOn 2 = .ok (.invokevirtual 173, 3) := by decide +kernel
theorem dX11_letterOn_5 : decode cX11_letterOn 5 = .ok (.pop, 1) := by decide +kernel
theorem dX11_letterOn_6 : decode cX11_letterOn 6 = .ok (.aload_n 0, 1) := by decide +kernel
theorem dX11_letterOn_7 : decode cX11_letterOn 7 = .ok (.getfield 20, 3) := by decide +kernel
theorem dX11_letterOn_10 : decode cX11_letterOn 10 = .ok (.iload_n 1, 1) := by decide +kernel
theorem dX11_letterOn_11 : decode cX11_letterOn 11 = .ok (.iload_n 2, 1) := by decide +kernel
theorem dX11_letterOn_12 : decode cX11_letterOn 12 = .ok (.invokevirtual 198, 3) := by decide +kernel
theorem dX11_letterOn_15 : decode cX11_letterOn 15 = .ok (.invokestatic 202, 3) := by decide +kernel
theorem dX11_letterOn_18 : decode cX11_letterOn 18 = .ok (.ireturn, 1) := by decide +kernel
set_option maxRecDepth 100000 in
set_option maxHeartbeats 4000000 in
theorem f_letterOn {l : Launch} {g : Nat → Nat} {M : LH} (htr : l.stackTraces = false) {kd : Nat → Nat} {p : Nat} {q a : Nat → Nat} {e8 : Int32 → Nat} {v : Int32 → Int32} {sv : Int32} {sa : Int32 → Int32} {ch : Int32} {pa tx : Int32 → Int32} {tn : Int32} {Ls : List Int32} {ea fl : Int32} (hP : Pg kd M p q a e8 v sv sa ch pa tx tn Ls ea fl) (k j : Int32) : K_X11_letterOn l g 5 2 12 [.ref p, .int k, .int j] M (RI (fun x M9 => hsl v k ∧ (0 ≤ j ∧ j.toNatClampNeg < (wL v (10 + k) (v 7).toNatClampNeg).length) ∧ x = lt v ((wL v (10 + k) (v 7).toNatClampNeg).getD j.toNatClampNeg 0) 0 ∧ Pg kd M9 p q a e8 v sv sa ch pa tx tn Ls ea fl ∧ F30 kd M M9) (fun E M9 => ((¬ hsl v k ∧ E = exV 1) ∨ (hsl v k ∧ ¬ (0 ≤ j ∧ j.toNatClampNeg < (wL v (10 + k) (v 7).toNatClampNeg).length) ∧ E = exV 3)) ∧ Pg kd M9 p q a e8 v sv sa ch pa tx tn Ls ea fl ∧ F30 kd M M9)) := by
  refine Ko_X11_letterOn htr (fun X => ?_)
  obtain ⟨hs, old, hB, hR⟩ := _root_.id hP
  obtain ⟨hO, hE8, hkp, hk3, ⟨ad, sl, le, fg, tp, F, hC⟩, hK, hS2, hS3, hS8, hRO⟩ := _root_.id hB
  obtain ⟨hSt, hRo, hSR, hLR, hSl, hLe, hkd, hinj, ⟨hfg, hRd, hSd, hLt⟩, hG⟩ := _root_.id hC
  obtain ⟨hDk, hDs, ⟨f1, hB1⟩, ⟨f2, hB2⟩, hBl, ⟨f3, hB3⟩, hRt, ⟨f4, hB4⟩, hkD, hn34, hDr⟩ := _root_.id hK
  obtain ⟨hg1, hg2, hg3, hg4, hg5, hg6, hg7, hg8, hgL, hgS, hgR, hgI, hgN, hg0⟩ := _root_.id hG
  refine v_aload_n dX11_letterOn_0 rfl rfl ?_
  refine v_iload_n dX11_letterOn_1 rfl rfl ?_
  refine k_X11_173 dX11_letterOn_2 rfl (c_needSledge htr hO hC k) hO (Nat.le_of_ble_eq_true rfl) (by omega) (by omega) (Nat.le_of_ble_eq_true rfl) (fun r2 M9 h9 => ?_) (fun _ _ h9 => by obtain ⟨h91, rfl, rfl⟩ := h9; exact VX.out ⟨Or.inl ⟨h91, rfl⟩, hP, F30.rf⟩ (by omega) (by omega))
  obtain ⟨hk9, rfl, e9⟩ := h9
  subst M9
  obtain ⟨k0, k1⟩ := _root_.id hk9
  have k3 : k < 3 := Int32.lt_of_lt_of_le k1 hg4
  obtain ⟨y0, y1, y2⟩ := hSd k k0 k1
  have hSk := hSl k k0 k3
  refine v_pop dX11_letterOn_5 rfl ?_
  refine v_aload_n dX11_letterOn_6 rfl rfl ?_
  refine gf_X11_20 dX11_letterOn_7 rfl hO ?_
  refine v_iload_n dX11_letterOn_10 rfl rfl ?_
  refine v_iload_n dX11_letterOn_11 rfl rfl ?_
  refine kq_X11_198 dX11_letterOn_12 rfl (c_letterAtPlace htr hC k0 (Int32.lt_trans k3 (by decide)) j) hSt (Nat.le_of_ble_eq_true rfl) (by omega) (by omega) (Nat.le_of_ble_eq_true rfl) (fun r12 M9 h9 => ?_) (fun _ _ h9 => h9.elim)
  obtain ⟨rfl, e9⟩ := h9
  subst M9
  by_cases hf : findP v k j = -1
  · rw [if_pos hf]
    exact kN_X11_202 dX11_letterOn_15 rfl (c_idOfN htr) (Nat.le_of_ble_eq_true rfl) (by omega) (by omega) (Nat.le_of_ble_eq_true rfl) (fun _ _ h9 => h9.elim) (fun _ _ h9 => by obtain ⟨rfl, rfl⟩ := h9; exact VX.out ⟨Or.inr ⟨hk9, (fun z => ((findP_wL hG).1 z).1 hf), rfl⟩, hP, F30.rf⟩ (by omega) (by omega))
  · rw [if_neg hf]
    obtain ⟨p0, p1⟩ := (findP_in hg5 hf)
    have p12 := Int32.lt_of_lt_of_le p1 hg6
    obtain ⟨q0, q1, q2, q3, q4, q5, q6, q7⟩ := hLt _ p0 p1
    have hLf := hLe _ p0 p12
    refine k_X11_202 dX11_letterOn_15 rfl (c_idOf htr hLf) (Nat.le_of_ble_eq_true rfl) (by omega) (by omega) (Nat.le_of_ble_eq_true rfl) (fun r15 M9 h9 => ?_) (fun _ _ h9 => h9.elim)
    obtain ⟨rfl, e9⟩ := h9
    subst M9
    exact v_iret dX11_letterOn_18 rfl (by
      have z : (0 ≤ j ∧ j.toNatClampNeg < (wL v (10 + k) (v 7).toNatClampNeg).length) := Classical.byContradiction (fun z => hf ((findP_wL hG).2 z))
      exact ⟨hk9, z, by rw [q0, ((findP_wL hG).1 z).2.2.2], hP, F30.rf⟩) (by omega) (by omega)
theorem dX11_letterByFee_0 : decode cX11_letterByFee 0 = .ok (.aload_n 0, 1) := by decide +kernel
theorem dX11_letterByFee_1 : decode cX11_letterByFee 1 = .ok (.getfield 20, 3) := by decide +kernel
theorem dX11_letterByFee_4 : decode cX11_letterByFee 4 = .ok (.iload_n 1, 1) := by decide +kernel
theorem dX11_letterByFee_5 : decode cX11_letterByFee 5 = .ok (.invokevirtual 275, 3) := by decide +kernel
theorem dX11_letterByFee_8 : decode cX11_letterByFee 8 = .ok (.invokestatic 202, 3) := by decide +kernel
theorem dX11_letterByFee_11 : decode cX11_letterByFee 11 = .ok (.ireturn, 1) := by decide +kernel
set_option maxRecDepth 100000 in
set_option maxHeartbeats 4000000 in
theorem f_letterByFee {l : Launch} {g : Nat → Nat} {M : LH} (htr : l.stackTraces = false) {kd : Nat → Nat} {p : Nat} {q a : Nat → Nat} {e8 : Int32 → Nat} {v : Int32 → Int32} {sv : Int32} {sa : Int32 → Int32} {ch : Int32} {pa tx : Int32 → Int32} {tn : Int32} {Ls : List Int32} {ea fl : Int32} (hP : Pg kd M p q a e8 v sv sa ch pa tx tn Ls ea fl) (rk : Int32) : K_X11_letterByFee l g 5 2 12 [.ref p, .int rk] M (RI (fun x M9 => ¬ findR v rk = -1 ∧ x = lt v (findR v rk) 0 ∧ Pg kd M9 p q a e8 v sv sa ch pa tx tn Ls ea fl ∧ F30 kd M M9) (fun E M9 => findR v rk = -1 ∧ E = exV 3 ∧ Pg kd M9 p q a e8 v sv sa ch pa tx tn Ls ea fl ∧ F30 kd M M9)) := by
  refine Ko_X11_letterByFee htr (fun X => ?_)
  obtain ⟨hs, old, hB, hR⟩ := _root_.id hP
  obtain ⟨hO, hE8, hkp, hk3, ⟨ad, sl, le, fg, tp, F, hC⟩, hK, hS2, hS3, hS8, hRO⟩ := _root_.id hB
  obtain ⟨hSt, hRo, hSR, hLR, hSl, hLe, hkd, hinj, ⟨hfg, hRd, hSd, hLt⟩, hG⟩ := _root_.id hC
  obtain ⟨hDk, hDs, ⟨f1, hB1⟩, ⟨f2, hB2⟩, hBl, ⟨f3, hB3⟩, hRt, ⟨f4, hB4⟩, hkD, hn34, hDr⟩ := _root_.id hK
  obtain ⟨hg1, hg2, hg3, hg4, hg5, hg6, hg7, hg8, hgL, hgS, hgR, hgI, hgN, hg0⟩ := _root_.id hG
  refine v_aload_n dX11_letterByFee_0 rfl rfl ?_
  refine gf_X11_20 dX11_letterByFee_1 rfl hO ?_
  refine v_iload_n dX11_letterByFee_4 rfl rfl ?_
  refine kq_X11_275 dX11_letterByFee_5 rfl (c_letterOfRank htr hC rk) hSt (Nat.le_of_ble_eq_true rfl) (by omega) (by omega) (Nat.le_of_ble_eq_true rfl) (fun r5 M9 h9 => ?_) (fun _ _ h9 => h9.elim)
  obtain ⟨rfl, e9⟩ := h9
  subst M9
  by_cases hf : findR v rk = -1
  · rw [if_pos hf]
    exact kN_X11_202 dX11_letterByFee_8 rfl (c_idOfN htr) (Nat.le_of_ble_eq_true rfl) (by omega) (by omega) (Nat.le_of_ble_eq_true rfl) (fun _ _ h9 => h9.elim) (fun _ _ h9 => by obtain ⟨rfl, rfl⟩ := h9; exact VX.out ⟨hf, rfl, hP, F30.rf⟩ (by omega) (by omega))
  · rw [if_neg hf]
    obtain ⟨p0, p1⟩ := (findR_in hg5 hf)
    have p12 := Int32.lt_of_lt_of_le p1 hg6
    obtain ⟨q0, q1, q2, q3, q4, q5, q6, q7⟩ := hLt _ p0 p1
    have hLf := hLe _ p0 p12
    refine k_X11_202 dX11_letterByFee_8 rfl (c_idOf htr hLf) (Nat.le_of_ble_eq_true rfl) (by omega) (by omega) (Nat.le_of_ble_eq_true rfl) (fun r8 M9 h9 => ?_) (fun _ _ h9 => h9.elim)
    obtain ⟨rfl, e9⟩ := h9
    subst M9
    exact v_iret dX11_letterByFee_11 rfl ⟨hf, q0, hP, F30.rf⟩ (by omega) (by omega)
theorem dX11_letterByCode_0 : decode cX11_letterByCode 0 = .ok (.iload_n 1, 1) := by decide +kernel
theorem dX11_letterByCode_1 : decode cX11_letterByCode 1 = .ok (.invokestatic 281, 3) := by decide +kernel
theorem dX11_letterByCode_4 : decode cX11_letterByCode 4 = .ok (.ifCond .ne 14, 3) := by decide +kernel
theorem dX11_letterByCode_7 : decode cX11_letterByCode 7 = .ok (.new 285, 3) := by decide +kernel
theorem dX11_letterByCode_10 : decode cX11_letterByCode 10 = .ok (.dup, 1) := by decide +kernel
theorem dX11_letterByCode_11 : decode cX11_letterByCode 11 = .ok (.ldc_w 287, 3) := by decide +kernel
theorem dX11_letterByCode_14 : decode cX11_letterByCode 14 = .ok (.invokespecial 289, 3) := by decide +kernel
theorem dX11_letterByCode_17 : decode cX11_letterByCode 17 = .ok (.athrow, 1) := by decide +kernel
theorem dX11_letterByCode_18 : decode cX11_letterByCode 18 = .ok (.aload_n 0, 1) := by decide +kernel
theorem dX11_letterByCode_19 : decode cX11_letterByCode 19 = .ok (.getfield 20, 3) := by decide +kernel
theorem dX11_letterByCode_22 : decode cX11_letterByCode 22 = .ok (.iload_n 1, 1) := by decide +kernel
theorem dX11_letterByCode_23 : decode cX11_letterByCode 23 = .ok (.invokevirtual 290, 3) := by decide +kernel
theorem dX11_letterByCode_26 : decode cX11_letterByCode 26 = .ok (.invokestatic 202, 3) := by decide +kernel
theorem dX11_letterByCode_29 : decode cX11_letterByCode 29 = .ok (.ireturn, 1) := by decide +kernel
set_option maxRecDepth 100000 in
set_option maxHeartbeats 4000000 in
theorem f_letterByCode {l : Launch} {g : Nat → Nat} {M : LH} (htr : l.stackTraces = false) {kd : Nat → Nat} {p : Nat} {q a : Nat → Nat} {e8 : Int32 → Nat} {v : Int32 → Int32} {sv : Int32} {sa : Int32 → Int32} {ch : Int32} {pa tx : Int32 → Int32} {tn : Int32} {Ls : List Int32} {ea fl : Int32} (hP : Pg kd M p q a e8 v sv sa ch pa tx tn Ls ea fl) (cd : Int32) : K_X11_letterByCode l g 5 2 12 [.ref p, .int cd] M (RI (fun x M9 => validC cd ∧ ¬ findC v cd = -1 ∧ x = lt v (findC v cd) 0 ∧ Pg kd M9 p q a e8 v sv sa ch pa tx tn Ls ea fl ∧ F30 kd M M9) (fun E M9 => ((¬ validC cd ∧ E = exV 2) ∨ (validC cd ∧ findC v cd = -1 ∧ E = exV 3)) ∧ Pg kd M9 p q a e8 v sv sa ch pa tx tn Ls ea fl ∧ F30 kd M M9)) := by
  refine Ko_X11_letterByCode htr (fun X => ?_)
  obtain ⟨hs, old, hB, hR⟩ := _root_.id hP
  obtain ⟨hO, hE8, hkp, hk3, ⟨ad, sl, le, fg, tp, F, hC⟩, hK, hS2, hS3, hS8, hRO⟩ := _root_.id hB
  obtain ⟨hSt, hRo, hSR, hLR, hSl, hLe, hkd, hinj, ⟨hfg, hRd, hSd, hLt⟩, hG⟩ := _root_.id hC
  obtain ⟨hDk, hDs, ⟨f1, hB1⟩, ⟨f2, hB2⟩, hBl, ⟨f3, hB3⟩, hRt, ⟨f4, hB4⟩, hkD, hn34, hDr⟩ := _root_.id hK
  obtain ⟨hg1, hg2, hg3, hg4, hg5, hg6, hg7, hg8, hgL, hgS, hgR, hgI, hgN, hg0⟩ := _root_.id hG
  refine v_iload_n dX11_letterByCode_0 rfl rfl ?_
  refine k_X11_281 dX11_letterByCode_1 rfl (c_isValidCode htr cd) (Nat.le_of_ble_eq_true rfl) (by omega) (by omega) (Nat.le_of_ble_eq_true rfl) (fun r1 M9 h9 => ?_) (fun _ _ h9 => h9.elim)
  obtain ⟨hv9, e9⟩ := h9
  subst M9
  refine v_if_ne (tgt := 18) dX11_letterByCode_4 (by decide) (fun h4 => ?_) (fun h4 => ?_)
  · have hvc : validC cd := (hv9.resolve_right (fun z => h4 z.1)).2
    refine v_aload_n dX11_letterByCode_18 rfl rfl ?_
    refine gf_X11_20 dX11_letterByCode_19 rfl hO ?_
    refine v_iload_n dX11_letterByCode_22 rfl rfl ?_
    refine kq_X11_290 dX11_letterByCode_23 rfl (c_letterOfCode htr hC cd) hSt (Nat.le_of_ble_eq_true rfl) (by omega) (by omega) (Nat.le_of_ble_eq_true rfl) (fun r23 M9 h9 => ?_) (fun _ _ h9 => h9.elim)
    obtain ⟨rfl, e9⟩ := h9
    subst M9
    by_cases hf : findC v cd = -1
    · rw [if_pos hf]
      exact kN_X11_202 dX11_letterByCode_26 rfl (c_idOfN htr) (Nat.le_of_ble_eq_true rfl) (by omega) (by omega) (Nat.le_of_ble_eq_true rfl) (fun _ _ h9 => h9.elim) (fun _ _ h9 => by obtain ⟨rfl, rfl⟩ := h9; exact VX.out ⟨Or.inr ⟨hvc, hf, rfl⟩, hP, F30.rf⟩ (by omega) (by omega))
    · rw [if_neg hf]
      obtain ⟨p0, p1⟩ := (findC_in hg5 hf)
      have p12 := Int32.lt_of_lt_of_le p1 hg6
      obtain ⟨q0, q1, q2, q3, q4, q5, q6, q7⟩ := hLt _ p0 p1
      have hLf := hLe _ p0 p12
      refine k_X11_202 dX11_letterByCode_26 rfl (c_idOf htr hLf) (Nat.le_of_ble_eq_true rfl) (by omega) (by omega) (Nat.le_of_ble_eq_true rfl) (fun r26 M9 h9 => ?_) (fun _ _ h9 => h9.elim)
      obtain ⟨rfl, e9⟩ := h9
      subst M9
      exact v_iret dX11_letterByCode_29 rfl ⟨hvc, hf, q0, hP, F30.rf⟩ (by omega) (by omega)
  · have hvc : ¬ validC cd := (hv9.resolve_left (fun z => by rw [h4] at z; exact absurd z.1 (by decide))).2
    exact th_X11_285_287 dX11_letterByCode_7 dX11_letterByCode_10 dX11_letterByCode_11 dX11_letterByCode_14 dX11_letterByCode_17 rfl (Nat.le_of_ble_eq_true rfl) ⟨Or.inl ⟨hvc, rfl⟩, hP, F30.rf⟩ (by omega) (by omega)
theorem dX11_destinationOf_0 : decode cX11_destinationOf 0 = .ok (.aload_n 0, 1) := by decide +kernel
theorem dX11_destinationOf_1 : decode cX11_destinationOf 1 = .ok (.iload_n 1, 1) := by decide +kernel
theorem dX11_destinationOf_2 : decode cX11_destinationOf 2 = .ok (.invokevirtual 240, 3) := by decide +kernel
theorem dX11_destinationOf_5 : decode cX11_destinationOf 5 = .ok (.getfield 244, 3) := by decide +kernel
theorem dX11_destinationOf_8 : decode cX11_destinationOf 8 = .ok (.ireturn, 1) := by decide +kernel
set_option maxRecDepth 100000 in
set_option maxHeartbeats 4000000 in
theorem f_destinationOf {l : Launch} {g : Nat → Nat} {M : LH} (htr : l.stackTraces = false) {kd : Nat → Nat} {p : Nat} {q a : Nat → Nat} {e8 : Int32 → Nat} {v : Int32 → Int32} {sv : Int32} {sa : Int32 → Int32} {ch : Int32} {pa tx : Int32 → Int32} {tn : Int32} {Ls : List Int32} {ea fl : Int32} (hP : Pg kd M p q a e8 v sv sa ch pa tx tn Ls ea fl) (id : Int32) : K_X11_destinationOf l g 5 2 12 [.ref p, .int id] M (RI (fun x M9 => ¬ find v id = -1 ∧ x = lt v (find v id) 1 ∧ Pg kd M9 p q a e8 v sv sa ch pa tx tn Ls ea fl ∧ F30 kd M M9) (fun E M9 => find v id = -1 ∧ E = exV 3 ∧ Pg kd M9 p q a e8 v sv sa ch pa tx tn Ls ea fl ∧ F30 kd M M9)) := by
  refine Ko_X11_destinationOf htr (fun X => ?_)
  obtain ⟨hs, old, hB, hR⟩ := _root_.id hP
  obtain ⟨hO, hE8, hkp, hk3, ⟨ad, sl, le, fg, tp, F, hC⟩, hK, hS2, hS3, hS8, hRO⟩ := _root_.id hB
  obtain ⟨hSt, hRo, hSR, hLR, hSl, hLe, hkd, hinj, ⟨hfg, hRd, hSd, hLt⟩, hG⟩ := _root_.id hC
  obtain ⟨hDk, hDs, ⟨f1, hB1⟩, ⟨f2, hB2⟩, hBl, ⟨f3, hB3⟩, hRt, ⟨f4, hB4⟩, hkD, hn34, hDr⟩ := _root_.id hK
  obtain ⟨hg1, hg2, hg3, hg4, hg5, hg6, hg7, hg8, hgL, hgS, hgR, hgI, hgN, hg0⟩ := _root_.id hG
  refine v_aload_n dX11_destinationOf_0 rfl rfl ?_
  refine v_iload_n dX11_destinationOf_1 rfl rfl ?_
  refine k_X11_240 dX11_destinationOf_2 rfl (c_needLetter htr hO hC id) hO (Nat.le_of_ble_eq_true rfl) (by omega) (by omega) (Nat.le_of_ble_eq_true rfl) (fun r2 M9 h9 => ?_) (fun _ _ h9 => by obtain ⟨h91, rfl, rfl⟩ := h9; exact VX.out ⟨h91, rfl, hP, F30.rf⟩ (by omega) (by omega))
  obtain ⟨hf, rfl, e9⟩ := h9
  subst M9
  obtain ⟨p0, p1⟩ := (show 0 ≤ find v id ∧ find v id < v 7 from ⟨(find_in hg5 hf).1, (find_in hg5 hf).2.1⟩)
  have p12 := Int32.lt_of_lt_of_le p1 hg6
  obtain ⟨q0, q1, q2, q3, q4, q5, q6, q7⟩ := hLt _ p0 p1
  have hLf := hLe _ p0 p12
  refine gf_X11_244 dX11_destinationOf_5 rfl hLf ?_
  exact v_iret dX11_destinationOf_8 rfl ⟨hf, q1, hP, F30.rf⟩ (by omega) (by omega)
theorem dX11_weightOf_0 : decode cX11_weightOf 0 = .ok (.aload_n 0, 1) := by decide +kernel
theorem dX11_weightOf_1 : decode cX11_weightOf 1 = .ok (.iload_n 1, 1) := by decide +kernel
theorem dX11_weightOf_2 : decode cX11_weightOf 2 = .ok (.invokevirtual 240, 3) := by decide +kernel
theorem dX11_weightOf_5 : decode cX11_weightOf 5 = .ok (.getfield 247, 3) := by decide +kernel
theorem dX11_weightOf_8 : decode cX11_weightOf 8 = .ok (.ireturn, 1) := by decide +kernel
set_option maxRecDepth 100000 in
set_option maxHeartbeats 4000000 in
theorem f_weightOf {l : Launch} {g : Nat → Nat} {M : LH} (htr : l.stackTraces = false) {kd : Nat → Nat} {p : Nat} {q a : Nat → Nat} {e8 : Int32 → Nat} {v : Int32 → Int32} {sv : Int32} {sa : Int32 → Int32} {ch : Int32} {pa tx : Int32 → Int32} {tn : Int32} {Ls : List Int32} {ea fl : Int32} (hP : Pg kd M p q a e8 v sv sa ch pa tx tn Ls ea fl) (id : Int32) : K_X11_weightOf l g 5 2 12 [.ref p, .int id] M (RI (fun x M9 => ¬ find v id = -1 ∧ x = lt v (find v id) 2 ∧ Pg kd M9 p q a e8 v sv sa ch pa tx tn Ls ea fl ∧ F30 kd M M9) (fun E M9 => find v id = -1 ∧ E = exV 3 ∧ Pg kd M9 p q a e8 v sv sa ch pa tx tn Ls ea fl ∧ F30 kd M M9)) := by
  refine Ko_X11_weightOf htr (fun X => ?_)
  obtain ⟨hs, old, hB, hR⟩ := _root_.id hP
  obtain ⟨hO, hE8, hkp, hk3, ⟨ad, sl, le, fg, tp, F, hC⟩, hK, hS2, hS3, hS8, hRO⟩ := _root_.id hB
  obtain ⟨hSt, hRo, hSR, hLR, hSl, hLe, hkd, hinj, ⟨hfg, hRd, hSd, hLt⟩, hG⟩ := _root_.id hC
  obtain ⟨hDk, hDs, ⟨f1, hB1⟩, ⟨f2, hB2⟩, hBl, ⟨f3, hB3⟩, hRt, ⟨f4, hB4⟩, hkD, hn34, hDr⟩ := _root_.id hK
  obtain ⟨hg1, hg2, hg3, hg4, hg5, hg6, hg7, hg8, hgL, hgS, hgR, hgI, hgN, hg0⟩ := _root_.id hG
  refine v_aload_n dX11_weightOf_0 rfl rfl ?_
  refine v_iload_n dX11_weightOf_1 rfl rfl ?_
  refine k_X11_240 dX11_weightOf_2 rfl (c_needLetter htr hO hC id) hO (Nat.le_of_ble_eq_true rfl) (by omega) (by omega) (Nat.le_of_ble_eq_true rfl) (fun r2 M9 h9 => ?_) (fun _ _ h9 => by obtain ⟨h91, rfl, rfl⟩ := h9; exact VX.out ⟨h91, rfl, hP, F30.rf⟩ (by omega) (by omega))
  obtain ⟨hf, rfl, e9⟩ := h9
  subst M9
  obtain ⟨p0, p1⟩ := (show 0 ≤ find v id ∧ find v id < v 7 from ⟨(find_in hg5 hf).1, (find_in hg5 hf).2.1⟩)
  have p12 := Int32.lt_of_lt_of_le p1 hg6
  obtain ⟨q0, q1, q2, q3, q4, q5, q6, q7⟩ := hLt _ p0 p1
  have hLf := hLe _ p0 p12
  refine gf_X11_247 dX11_weightOf_5 rfl hLf ?_
  exact v_iret dX11_weightOf_8 rfl ⟨hf, q2, hP, F30.rf⟩ (by omega) (by omega)
theorem dX11_feeOf_0 : decode cX11_feeOf 0 = .ok (.aload_n 0, 1) := by decide +kernel
theorem dX11_feeOf_1 : decode cX11_feeOf 1 = .ok (.iload_n 1, 1) := by decide +kernel
theorem dX11_feeOf_2 : decode cX11_feeOf 2 = .ok (.invokevirtual 240, 3) := by decide +kernel
theorem dX11_feeOf_5 : decode cX11_feeOf 5 = .ok (.getfield 250, 3) := by decide +kernel
theorem dX11_feeOf_8 : decode cX11_feeOf 8 = .ok (.ireturn, 1) := by decide +kernel
set_option maxRecDepth 100000 in
set_option maxHeartbeats 4000000 in
theorem f_feeOf {l : Launch} {g : Nat → Nat} {M : LH} (htr : l.stackTraces = false) {kd : Nat → Nat} {p : Nat} {q a : Nat → Nat} {e8 : Int32 → Nat} {v : Int32 → Int32} {sv : Int32} {sa : Int32 → Int32} {ch : Int32} {pa tx : Int32 → Int32} {tn : Int32} {Ls : List Int32} {ea fl : Int32} (hP : Pg kd M p q a e8 v sv sa ch pa tx tn Ls ea fl) (id : Int32) : K_X11_feeOf l g 5 2 12 [.ref p, .int id] M (RI (fun x M9 => ¬ find v id = -1 ∧ x = lt v (find v id) 3 ∧ Pg kd M9 p q a e8 v sv sa ch pa tx tn Ls ea fl ∧ F30 kd M M9) (fun E M9 => find v id = -1 ∧ E = exV 3 ∧ Pg kd M9 p q a e8 v sv sa ch pa tx tn Ls ea fl ∧ F30 kd M M9)) := by
  refine Ko_X11_feeOf htr (fun X => ?_)
  obtain ⟨hs, old, hB, hR⟩ := _root_.id hP
  obtain ⟨hO, hE8, hkp, hk3, ⟨ad, sl, le, fg, tp, F, hC⟩, hK, hS2, hS3, hS8, hRO⟩ := _root_.id hB
  obtain ⟨hSt, hRo, hSR, hLR, hSl, hLe, hkd, hinj, ⟨hfg, hRd, hSd, hLt⟩, hG⟩ := _root_.id hC
  obtain ⟨hDk, hDs, ⟨f1, hB1⟩, ⟨f2, hB2⟩, hBl, ⟨f3, hB3⟩, hRt, ⟨f4, hB4⟩, hkD, hn34, hDr⟩ := _root_.id hK
  obtain ⟨hg1, hg2, hg3, hg4, hg5, hg6, hg7, hg8, hgL, hgS, hgR, hgI, hgN, hg0⟩ := _root_.id hG
  refine v_aload_n dX11_feeOf_0 rfl rfl ?_
  refine v_iload_n dX11_feeOf_1 rfl rfl ?_
  refine k_X11_240 dX11_feeOf_2 rfl (c_needLetter htr hO hC id) hO (Nat.le_of_ble_eq_true rfl) (by omega) (by omega) (Nat.le_of_ble_eq_true rfl) (fun r2 M9 h9 => ?_) (fun _ _ h9 => by obtain ⟨h91, rfl, rfl⟩ := h9; exact VX.out ⟨h91, rfl, hP, F30.rf⟩ (by omega) (by omega))
  obtain ⟨hf, rfl, e9⟩ := h9
  subst M9
  obtain ⟨p0, p1⟩ := (show 0 ≤ find v id ∧ find v id < v 7 from ⟨(find_in hg5 hf).1, (find_in hg5 hf).2.1⟩)
  have p12 := Int32.lt_of_lt_of_le p1 hg6
  obtain ⟨q0, q1, q2, q3, q4, q5, q6, q7⟩ := hLt _ p0 p1
  have hLf := hLe _ p0 p12
  refine gf_X11_250 dX11_feeOf_5 rfl hLf ?_
  exact v_iret dX11_feeOf_8 rfl ⟨hf, q3, hP, F30.rf⟩ (by omega) (by omega)
theorem dX11_iceOf_0 : decode cX11_iceOf 0 = .ok (.aload_n 0, 1) := by decide +kernel
theorem dX11_iceOf_1 : decode cX11_iceOf 1 = .ok (.iload_n 1, 1) := by decide +kernel
theorem dX11_iceOf_2 : decode cX11_iceOf 2 = .ok (.invokevirtual 240, 3) := by decide +kernel
theorem dX11_iceOf_5 : decode cX11_iceOf 5 = .ok (.getfield 253, 3) := by decide +kernel
theorem dX11_iceOf_8 : decode cX11_iceOf 8 = .ok (.ireturn, 1) := by decide +kernel
set_option maxRecDepth 100000 in
set_option maxHeartbeats 4000000 in
theorem f_iceOf {l : Launch} {g : Nat → Nat} {M : LH} (htr : l.stackTraces = false) {kd : Nat → Nat} {p : Nat} {q a : Nat → Nat} {e8 : Int32 → Nat} {v : Int32 → Int32} {sv : Int32} {sa : Int32 → Int32} {ch : Int32} {pa tx : Int32 → Int32} {tn : Int32} {Ls : List Int32} {ea fl : Int32} (hP : Pg kd M p q a e8 v sv sa ch pa tx tn Ls ea fl) (id : Int32) : K_X11_iceOf l g 5 2 12 [.ref p, .int id] M (RI (fun x M9 => ¬ find v id = -1 ∧ x = lt v (find v id) 5 ∧ Pg kd M9 p q a e8 v sv sa ch pa tx tn Ls ea fl ∧ F30 kd M M9) (fun E M9 => find v id = -1 ∧ E = exV 3 ∧ Pg kd M9 p q a e8 v sv sa ch pa tx tn Ls ea fl ∧ F30 kd M M9)) := by
  refine Ko_X11_iceOf htr (fun X => ?_)
  obtain ⟨hs, old, hB, hR⟩ := _root_.id hP
  obtain ⟨hO, hE8, hkp, hk3, ⟨ad, sl, le, fg, tp, F, hC⟩, hK, hS2, hS3, hS8, hRO⟩ := _root_.id hB
  obtain ⟨hSt, hRo, hSR, hLR, hSl, hLe, hkd, hinj, ⟨hfg, hRd, hSd, hLt⟩, hG⟩ := _root_.id hC
  obtain ⟨hDk, hDs, ⟨f1, hB1⟩, ⟨f2, hB2⟩, hBl, ⟨f3, hB3⟩, hRt, ⟨f4, hB4⟩, hkD, hn34, hDr⟩ := _root_.id hK
  obtain ⟨hg1, hg2, hg3, hg4, hg5, hg6, hg7, hg8, hgL, hgS, hgR, hgI, hgN, hg0⟩ := _root_.id hG
  refine v_aload_n dX11_iceOf_0 rfl rfl ?_
  refine v_iload_n dX11_iceOf_1 rfl rfl ?_
  refine k_X11_240 dX11_iceOf_2 rfl (c_needLetter htr hO hC id) hO (Nat.le_of_ble_eq_true rfl) (by omega) (by omega) (Nat.le_of_ble_eq_true rfl) (fun r2 M9 h9 => ?_) (fun _ _ h9 => by obtain ⟨h91, rfl, rfl⟩ := h9; exact VX.out ⟨h91, rfl, hP, F30.rf⟩ (by omega) (by omega))
  obtain ⟨hf, rfl, e9⟩ := h9
  subst M9
  obtain ⟨p0, p1⟩ := (show 0 ≤ find v id ∧ find v id < v 7 from ⟨(find_in hg5 hf).1, (find_in hg5 hf).2.1⟩)
  have p12 := Int32.lt_of_lt_of_le p1 hg6
  obtain ⟨q0, q1, q2, q3, q4, q5, q6, q7⟩ := hLt _ p0 p1
  have hLf := hLe _ p0 p12
  refine gf_X11_253 dX11_iceOf_5 rfl hLf ?_
  exact v_iret dX11_iceOf_8 rfl ⟨hf, q5, hP, F30.rf⟩ (by omega) (by omega)
theorem dX11_isOpen_0 : decode cX11_isOpen 0 = .ok (.aload_n 0, 1) := by decide +kernel
theorem dX11_isOpen_1 : decode cX11_isOpen 1 = .ok (.iload_n 1, 1) := by decide +kernel
theorem dX11_isOpen_2 : decode cX11_isOpen 2 = .ok (.invokevirtual 240, 3) := by decide +kernel
theorem dX11_isOpen_5 : decode cX11_isOpen 5 = .ok (.invokevirtual 256, 3) := by decide +kernel
theorem dX11_isOpen_8 : decode cX11_isOpen 8 = .ok (.ireturn, 1) := by decide +kernel
set_option maxRecDepth 100000 in
set_option maxHeartbeats 4000000 in
theorem f_isOpen {l : Launch} {g : Nat → Nat} {M : LH} (htr : l.stackTraces = false) {kd : Nat → Nat} {p : Nat} {q a : Nat → Nat} {e8 : Int32 → Nat} {v : Int32 → Int32} {sv : Int32} {sa : Int32 → Int32} {ch : Int32} {pa tx : Int32 → Int32} {tn : Int32} {Ls : List Int32} {ea fl : Int32} (hP : Pg kd M p q a e8 v sv sa ch pa tx tn Ls ea fl) (id : Int32) : K_X11_isOpen l g 5 2 12 [.ref p, .int id] M (RI (fun x M9 => ¬ find v id = -1 ∧ x = (if lt v (find v id) 5 = 0 then 1 else 0) ∧ Pg kd M9 p q a e8 v sv sa ch pa tx tn Ls ea fl ∧ F30 kd M M9) (fun E M9 => find v id = -1 ∧ E = exV 3 ∧ Pg kd M9 p q a e8 v sv sa ch pa tx tn Ls ea fl ∧ F30 kd M M9)) := by
  refine Ko_X11_isOpen htr (fun X => ?_)
  obtain ⟨hs, old, hB, hR⟩ := _root_.id hP
  obtain ⟨hO, hE8, hkp, hk3, ⟨ad, sl, le, fg, tp, F, hC⟩, hK, hS2, hS3, hS8, hRO⟩ := _root_.id hB
  obtain ⟨hSt, hRo, hSR, hLR, hSl, hLe, hkd, hinj, ⟨hfg, hRd, hSd, hLt⟩, hG⟩ := _root_.id hC
  obtain ⟨hDk, hDs, ⟨f1, hB1⟩, ⟨f2, hB2⟩, hBl, ⟨f3, hB3⟩, hRt, ⟨f4, hB4⟩, hkD, hn34, hDr⟩ := _root_.id hK
  obtain ⟨hg1, hg2, hg3, hg4, hg5, hg6, hg7, hg8, hgL, hgS, hgR, hgI, hgN, hg0⟩ := _root_.id hG
  refine v_aload_n dX11_isOpen_0 rfl rfl ?_
  refine v_iload_n dX11_isOpen_1 rfl rfl ?_
  refine k_X11_240 dX11_isOpen_2 rfl (c_needLetter htr hO hC id) hO (Nat.le_of_ble_eq_true rfl) (by omega) (by omega) (Nat.le_of_ble_eq_true rfl) (fun r2 M9 h9 => ?_) (fun _ _ h9 => by obtain ⟨h91, rfl, rfl⟩ := h9; exact VX.out ⟨h91, rfl, hP, F30.rf⟩ (by omega) (by omega))
  obtain ⟨hf, rfl, e9⟩ := h9
  subst M9
  obtain ⟨p0, p1⟩ := (show 0 ≤ find v id ∧ find v id < v 7 from ⟨(find_in hg5 hf).1, (find_in hg5 hf).2.1⟩)
  have p12 := Int32.lt_of_lt_of_le p1 hg6
  obtain ⟨q0, q1, q2, q3, q4, q5, q6, q7⟩ := hLt _ p0 p1
  have hLf := hLe _ p0 p12
  refine k_X11_256 dX11_isOpen_5 rfl (c_thawed htr hLf) hLf (Nat.le_of_ble_eq_true rfl) (by omega) (by omega) (Nat.le_of_ble_eq_true rfl) (fun r5 M9 h9 => ?_) (fun _ _ h9 => h9.elim)
  obtain ⟨rfl, e9⟩ := h9
  subst M9
  exact v_zret dX11_isOpen_8 rfl (by split <;> rfl)  ⟨hf, (by rw [q5]), hP, F30.rf⟩ (by omega) (by omega)
theorem dX11_codeOf_0 : decode cX11_codeOf 0 = .ok (.aload_n 0, 1) := by decide +kernel
theorem dX11_codeOf_1 : decode cX11_codeOf 1 = .ok (.iload_n 1, 1) := by decide +kernel
theorem dX11_codeOf_2 : decode cX11_codeOf 2 = .ok (.invokevirtual 240, 3) := by decide +kernel
theorem dX11_codeOf_5 : decode cX11_codeOf 5 = .ok (.invokevirtual 278, 3) := by decide +kernel
theorem dX11_codeOf_8 : decode cX11_codeOf 8 = .ok (.ireturn, 1) := by decide +kernel
set_option maxRecDepth 100000 in
set_option maxHeartbeats 4000000 in
theorem f_codeOf {l : Launch} {g : Nat → Nat} {M : LH} (htr : l.stackTraces = false) {kd : Nat → Nat} {p : Nat} {q a : Nat → Nat} {e8 : Int32 → Nat} {v : Int32 → Int32} {sv : Int32} {sa : Int32 → Int32} {ch : Int32} {pa tx : Int32 → Int32} {tn : Int32} {Ls : List Int32} {ea fl : Int32} (hP : Pg kd M p q a e8 v sv sa ch pa tx tn Ls ea fl) (id : Int32) : K_X11_codeOf l g 5 2 12 [.ref p, .int id] M (RI (fun x M9 => ¬ find v id = -1 ∧ x = codeN (lt v (find v id) 0) (lt v (find v id) 1) ∧ Pg kd M9 p q a e8 v sv sa ch pa tx tn Ls ea fl ∧ F30 kd M M9) (fun E M9 => find v id = -1 ∧ E = exV 3 ∧ Pg kd M9 p q a e8 v sv sa ch pa tx tn Ls ea fl ∧ F30 kd M M9)) := by
  refine Ko_X11_codeOf htr (fun X => ?_)
  obtain ⟨hs, old, hB, hR⟩ := _root_.id hP
  obtain ⟨hO, hE8, hkp, hk3, ⟨ad, sl, le, fg, tp, F, hC⟩, hK, hS2, hS3, hS8, hRO⟩ := _root_.id hB
  obtain ⟨hSt, hRo, hSR, hLR, hSl, hLe, hkd, hinj, ⟨hfg, hRd, hSd, hLt⟩, hG⟩ := _root_.id hC
  obtain ⟨hDk, hDs, ⟨f1, hB1⟩, ⟨f2, hB2⟩, hBl, ⟨f3, hB3⟩, hRt, ⟨f4, hB4⟩, hkD, hn34, hDr⟩ := _root_.id hK
  obtain ⟨hg1, hg2, hg3, hg4, hg5, hg6, hg7, hg8, hgL, hgS, hgR, hgI, hgN, hg0⟩ := _root_.id hG
  refine v_aload_n dX11_codeOf_0 rfl rfl ?_
  refine v_iload_n dX11_codeOf_1 rfl rfl ?_
  refine k_X11_240 dX11_codeOf_2 rfl (c_needLetter htr hO hC id) hO (Nat.le_of_ble_eq_true rfl) (by omega) (by omega) (Nat.le_of_ble_eq_true rfl) (fun r2 M9 h9 => ?_) (fun _ _ h9 => by obtain ⟨h91, rfl, rfl⟩ := h9; exact VX.out ⟨h91, rfl, hP, F30.rf⟩ (by omega) (by omega))
  obtain ⟨hf, rfl, e9⟩ := h9
  subst M9
  obtain ⟨p0, p1⟩ := (show 0 ≤ find v id ∧ find v id < v 7 from ⟨(find_in hg5 hf).1, (find_in hg5 hf).2.1⟩)
  have p12 := Int32.lt_of_lt_of_le p1 hg6
  obtain ⟨q0, q1, q2, q3, q4, q5, q6, q7⟩ := hLt _ p0 p1
  have hLf := hLe _ p0 p12
  refine k_X11_278 dX11_codeOf_5 rfl (c_code htr hLf) hLf (Nat.le_of_ble_eq_true rfl) (by omega) (by omega) (Nat.le_of_ble_eq_true rfl) (fun r5 M9 h9 => ?_) (fun _ _ h9 => h9.elim)
  obtain ⟨rfl, e9⟩ := h9
  subst M9
  exact v_iret dX11_codeOf_8 rfl ⟨hf, (by rw [q0, q1]), hP, F30.rf⟩ (by omega) (by omega)
theorem dX11_sledgeOf_0 : decode cX11_sledgeOf 0 = .ok (.aload_n 0, 1) := by decide +kernel
theorem dX11_sledgeOf_1 : decode cX11_sledgeOf 1 = .ok (.iload_n 1, 1) := by decide +kernel
theorem dX11_sledgeOf_2 : decode cX11_sledgeOf 2 = .ok (.invokevirtual 240, 3) := by decide +kernel
theorem dX11_sledgeOf_5 : decode cX11_sledgeOf 5 = .ok (.astore_n 2, 1) := by decide +kernel
theorem dX11_sledgeOf_6 : decode cX11_sledgeOf 6 = .ok (.aload_n 2, 1) := by decide +kernel
theorem dX11_sledgeOf_7 : decode cX11_sledgeOf 7 = .ok (.invokevirtual 259, 3) := by decide +kernel
theorem dX11_sledgeOf_10 : decode cX11_sledgeOf 10 = .ok (.ifCond .eq 14, 3) := by decide +kernel
theorem dX11_sledgeOf_13 : decode cX11_sledgeOf 13 = .ok (.new 224, 3) := by decide +kernel
theorem dX11_sledgeOf_16 : decode cX11_sledgeOf 16 = .ok (.dup, 1) := by decide +kernel
theorem dX11_sledgeOf_17 : decode cX11_sledgeOf 17 = .ok (.ldc_w 262, 3) := by decide +kernel
theorem dX11_sledgeOf_20 : decode cX11_sledgeOf 20 = .ok (.invokespecial 228, 3) := by decide +kernel
theorem dX11_sledgeOf_23 : decode cX11_sledgeOf 23 = .ok (.athrow, 1) := by decide +kernel
theorem dX11_sledgeOf_24 : decode cX11_sledgeOf 24 = .ok (.aload_n 2, 1) := by decide +kernel
theorem dX11_sledgeOf_25 : decode cX11_sledgeOf 25 = .ok (.getfield 264, 3) := by decide +kernel
theorem dX11_sledgeOf_28 : decode cX11_sledgeOf 28 = .ok (.ireturn, 1) := by decide +kernel
set_option maxRecDepth 100000 in
set_option maxHeartbeats 4000000 in
theorem f_sledgeOf {l : Launch} {g : Nat → Nat} {M : LH} (htr : l.stackTraces = false) {kd : Nat → Nat} {p : Nat} {q a : Nat → Nat} {e8 : Int32 → Nat} {v : Int32 → Int32} {sv : Int32} {sa : Int32 → Int32} {ch : Int32} {pa tx : Int32 → Int32} {tn : Int32} {Ls : List Int32} {ea fl : Int32} (hP : Pg kd M p q a e8 v sv sa ch pa tx tn Ls ea fl) (id : Int32) : K_X11_sledgeOf l g 5 2 12 [.ref p, .int id] M (RI (fun x M9 => ¬ find v id = -1 ∧ 10 ≤ lt v (find v id) 6 ∧ x = lt v (find v id) 6 - 10 ∧ Pg kd M9 p q a e8 v sv sa ch pa tx tn Ls ea fl ∧ F30 kd M M9) (fun E M9 => ¬ (¬ find v id = -1 ∧ 10 ≤ lt v (find v id) 6) ∧ E = exV 3 ∧ Pg kd M9 p q a e8 v sv sa ch pa tx tn Ls ea fl ∧ F30 kd M M9)) := by
  refine Ko_X11_sledgeOf htr (fun X => ?_)
  obtain ⟨hs, old, hB, hR⟩ := _root_.id hP
  obtain ⟨hO, hE8, hkp, hk3, ⟨ad, sl, le, fg, tp, F, hC⟩, hK, hS2, hS3, hS8, hRO⟩ := _root_.id hB
  obtain ⟨hSt, hRo, hSR, hLR, hSl, hLe, hkd, hinj, ⟨hfg, hRd, hSd, hLt⟩, hG⟩ := _root_.id hC
  obtain ⟨hDk, hDs, ⟨f1, hB1⟩, ⟨f2, hB2⟩, hBl, ⟨f3, hB3⟩, hRt, ⟨f4, hB4⟩, hkD, hn34, hDr⟩ := _root_.id hK
  obtain ⟨hg1, hg2, hg3, hg4, hg5, hg6, hg7, hg8, hgL, hgS, hgR, hgI, hgN, hg0⟩ := _root_.id hG
  refine v_aload_n dX11_sledgeOf_0 rfl rfl ?_
  refine v_iload_n dX11_sledgeOf_1 rfl rfl ?_
  refine k_X11_240 dX11_sledgeOf_2 rfl (c_needLetter htr hO hC id) hO (Nat.le_of_ble_eq_true rfl) (by omega) (by omega) (Nat.le_of_ble_eq_true rfl) (fun r2 M9 h9 => ?_) (fun _ _ h9 => by obtain ⟨h91, rfl, rfl⟩ := h9; exact VX.out ⟨(fun z => z.1 h91), rfl, hP, F30.rf⟩ (by omega) (by omega))
  obtain ⟨hf, rfl, e9⟩ := h9
  subst M9
  obtain ⟨p0, p1⟩ := (show 0 ≤ find v id ∧ find v id < v 7 from ⟨(find_in hg5 hf).1, (find_in hg5 hf).2.1⟩)
  have p12 := Int32.lt_of_lt_of_le p1 hg6
  obtain ⟨q0, q1, q2, q3, q4, q5, q6, q7⟩ := hLt _ p0 p1
  have hLf := hLe _ p0 p12
  have w6 : (F 6 (find v id) = -1 ↔ lt v (find v id) 6 < 10) := by
    obtain ⟨-, -, -, -, -, -, -, -, -, -, g6, -⟩ := hgL _ p0 p1
    rw [q6]
    clear hgL hgS hgR hgI hgN hRd hSd hLt hLe hSl hinj hLf
    split
    · exact ⟨fun _ => by assumption, fun _ => rfl⟩
    · rename_i z
      exact ⟨fun e => absurd e (by lia), fun e => absurd e z⟩
  refine v_astore_2 dX11_sledgeOf_5 ?_
  refine v_aload_n dX11_sledgeOf_6 rfl rfl ?_
  refine k_X11_259 dX11_sledgeOf_7 rfl (c_waits htr hLf) hLf (Nat.le_of_ble_eq_true rfl) (by omega) (by omega) (Nat.le_of_ble_eq_true rfl) (fun r7 M9 h9 => ?_) (fun _ _ h9 => h9.elim)
  obtain ⟨rfl, e9⟩ := h9
  subst M9
  refine v_if_eq (tgt := 24) dX11_sledgeOf_10 (by decide) (fun h10 => ?_) (fun h10 => ?_)
  · have hn10 : ¬ lt v (find v id) 6 < 10 := fun z => b_f h10 (w6.mpr z)
    refine v_aload_n dX11_sledgeOf_24 rfl rfl ?_
    refine gf_X11_264 dX11_sledgeOf_25 rfl hLf ?_
    exact v_iret dX11_sledgeOf_28 rfl ⟨hf, Int32.not_lt.mp hn10, (by rw [q6, if_neg hn10]), hP, F30.rf⟩ (by omega) (by omega)
  · have hy10 : lt v (find v id) 6 < 10 := w6.mp (b_t h10)
    exact th_X11_224_262 dX11_sledgeOf_13 dX11_sledgeOf_16 dX11_sledgeOf_17 dX11_sledgeOf_20 dX11_sledgeOf_23 rfl (Nat.le_of_ble_eq_true rfl) ⟨(fun z => absurd hy10 (Int32.not_lt.mpr z.2)), rfl, hP, F30.rf⟩ (by omega) (by omega)
theorem dX11_stationOfLetter_0 : decode cX11_stationOfLetter 0 = .ok (.aload_n 0, 1) := by decide +kernel
theorem dX11_stationOfLetter_1 : decode cX11_stationOfLetter 1 = .ok (.iload_n 1, 1) := by decide +kernel
theorem dX11_stationOfLetter_2 : decode cX11_stationOfLetter 2 = .ok (.invokevirtual 240, 3) := by decide +kernel
theorem dX11_stationOfLetter_5 : decode cX11_stationOfLetter 5 = .ok (.astore_n 2, 1) := by decide +kernel
theorem dX11_stationOfLetter_6 : decode cX11_stationOfLetter 6 = .ok (.aload_n 2, 1) := by decide +kernel
theorem dX11_stationOfLetter_7 : decode cX11_stationOfLetter 7 = .ok (.invokevirtual 259, 3) := by decide +kernel
theorem dX11_stationOfLetter_10 : decode cX11_stationOfLetter 10 = .ok (.ifCond .ne 14, 3) := by decide +kernel
theorem dX11_stationOfLetter_13 : decode cX11_stationOfLetter 13 = .ok (.new 224, 3) := by decide +kernel
theorem dX11_stationOfLetter_16 : decode cX11_stationOfLetter 16 = .ok (.dup, 1) := by decide +kernel
theorem dX11_stationOfLetter_17 : decode cX11_stationOfLetter 17 = .ok (.ldc_w 267, 3) := by decide +kernel
theorem dX11_stationOfLetter_20 : decode cX11_stationOfLetter 20 = .ok (.invokespecial 228, 3) := by decide +kernel
theorem dX11_stationOfLetter_23 : decode cX11_stationOfLetter 23 = .ok (.athrow, 1) := by decide +kernel
theorem dX11_stationOfLetter_24 : decode cX11_stationOfLetter 24 = .ok (.aload_n 2, 1) := by decide +kernel
theorem dX11_stationOfLetter_25 : decode cX11_stationOfLetter 25 = .ok (.getfield 269, 3) := by decide +kernel
theorem dX11_stationOfLetter_28 : decode cX11_stationOfLetter 28 = .ok (.ireturn, 1) := by decide +kernel
set_option maxRecDepth 100000 in
set_option maxHeartbeats 4000000 in
theorem f_stationOfLetter {l : Launch} {g : Nat → Nat} {M : LH} (htr : l.stackTraces = false) {kd : Nat → Nat} {p : Nat} {q a : Nat → Nat} {e8 : Int32 → Nat} {v : Int32 → Int32} {sv : Int32} {sa : Int32 → Int32} {ch : Int32} {pa tx : Int32 → Int32} {tn : Int32} {Ls : List Int32} {ea fl : Int32} (hP : Pg kd M p q a e8 v sv sa ch pa tx tn Ls ea fl) (id : Int32) : K_X11_stationOfLetter l g 5 2 12 [.ref p, .int id] M (RI (fun x M9 => ¬ find v id = -1 ∧ lt v (find v id) 6 < 10 ∧ x = lt v (find v id) 6 ∧ Pg kd M9 p q a e8 v sv sa ch pa tx tn Ls ea fl ∧ F30 kd M M9) (fun E M9 => ¬ (¬ find v id = -1 ∧ lt v (find v id) 6 < 10) ∧ E = exV 3 ∧ Pg kd M9 p q a e8 v sv sa ch pa tx tn Ls ea fl ∧ F30 kd M M9)) := by
  refine Ko_X11_stationOfLetter htr (fun X => ?_)
  obtain ⟨hs, old, hB, hR⟩ := _root_.id hP
  obtain ⟨hO, hE8, hkp, hk3, ⟨ad, sl, le, fg, tp, F, hC⟩, hK, hS2, hS3, hS8, hRO⟩ := _root_.id hB
  obtain ⟨hSt, hRo, hSR, hLR, hSl, hLe, hkd, hinj, ⟨hfg, hRd, hSd, hLt⟩, hG⟩ := _root_.id hC
  obtain ⟨hDk, hDs, ⟨f1, hB1⟩, ⟨f2, hB2⟩, hBl, ⟨f3, hB3⟩, hRt, ⟨f4, hB4⟩, hkD, hn34, hDr⟩ := _root_.id hK
  obtain ⟨hg1, hg2, hg3, hg4, hg5, hg6, hg7, hg8, hgL, hgS, hgR, hgI, hgN, hg0⟩ := _root_.id hG
  refine v_aload_n dX11_stationOfLetter_0 rfl rfl ?_
  refine v_iload_n dX11_stationOfLetter_1 rfl rfl ?_
  refine k_X11_240 dX11_stationOfLetter_2 rfl (c_needLetter htr hO hC id) hO (Nat.le_of_ble_eq_true rfl) (by omega) (by omega) (Nat.le_of_ble_eq_true rfl) (fun r2 M9 h9 => ?_) (fun _ _ h9 => by obtain ⟨h91, rfl, rfl⟩ := h9; exact VX.out ⟨(fun z => z.1 h91), rfl, hP, F30.rf⟩ (by omega) (by omega))
  obtain ⟨hf, rfl, e9⟩ := h9
  subst M9
  obtain ⟨p0, p1⟩ := (show 0 ≤ find v id ∧ find v id < v 7 from ⟨(find_in hg5 hf).1, (find_in hg5 hf).2.1⟩)
  have p12 := Int32.lt_of_lt_of_le p1 hg6
  obtain ⟨q0, q1, q2, q3, q4, q5, q6, q7⟩ := hLt _ p0 p1
  have hLf := hLe _ p0 p12
  have w6 : (F 6 (find v id) = -1 ↔ lt v (find v id) 6 < 10) := by
    obtain ⟨-, -, -, -, -, -, -, -, -, -, g6, -⟩ := hgL _ p0 p1
    rw [q6]
    clear hgL hgS hgR hgI hgN hRd hSd hLt hLe hSl hinj hLf
    split
    · exact ⟨fun _ => by assumption, fun _ => rfl⟩
    · rename_i z
      exact ⟨fun e => absurd e (by lia), fun e => absurd e z⟩
  refine v_astore_2 dX11_stationOfLetter_5 ?_
  refine v_aload_n dX11_stationOfLetter_6 rfl rfl ?_
  refine k_X11_259 dX11_stationOfLetter_7 rfl (c_waits htr hLf) hLf (Nat.le_of_ble_eq_true rfl) (by omega) (by omega) (Nat.le_of_ble_eq_true rfl) (fun r7 M9 h9 => ?_) (fun _ _ h9 => h9.elim)
  obtain ⟨rfl, e9⟩ := h9
  subst M9
  refine v_if_ne (tgt := 24) dX11_stationOfLetter_10 (by decide) (fun h10 => ?_) (fun h10 => ?_)
  · have hy10 : lt v (find v id) 6 < 10 := w6.mp (b_t h10)
    refine v_aload_n dX11_stationOfLetter_24 rfl rfl ?_
    refine gf_X11_269 dX11_stationOfLetter_25 rfl hLf ?_
    exact v_iret dX11_stationOfLetter_28 rfl ⟨hf, hy10, q7 hy10, hP, F30.rf⟩ (by omega) (by omega)
  · have hn10 : ¬ lt v (find v id) 6 < 10 := fun z => b_f h10 (w6.mpr z)
    exact th_X11_224_267 dX11_stationOfLetter_13 dX11_stationOfLetter_16 dX11_stationOfLetter_17 dX11_stationOfLetter_20 dX11_stationOfLetter_23 rfl (Nat.le_of_ble_eq_true rfl) ⟨(fun z => absurd z.2 hn10), rfl, hP, F30.rf⟩ (by omega) (by omega)
theorem dX11_hoursUntilOpen_0 : decode cX11_hoursUntilOpen 0 = .ok (.aload_n 0, 1) := by decide +kernel
theorem dX11_hoursUntilOpen_1 : decode cX11_hoursUntilOpen 1 = .ok (.iload_n 1, 1) := by decide +kernel
theorem dX11_hoursUntilOpen_2 : decode cX11_hoursUntilOpen 2 = .ok (.invokevirtual 240, 3) := by decide +kernel
theorem dX11_hoursUntilOpen_5 : decode cX11_hoursUntilOpen 5 = .ok (.astore_n 2, 1) := by decide +kernel
theorem dX11_hoursUntilOpen_6 : decode cX11_hoursUntilOpen 6 = .ok (.aload_n 2, 1) := by decide +kernel
theorem dX11_hoursUntilOpen_7 : decode cX11_hoursUntilOpen 7 = .ok (.invokevirtual 256, 3) := by decide +kernel
theorem dX11_hoursUntilOpen_10 : decode cX11_hoursUntilOpen 10 = .ok (.ifCond .eq 5, 3) := by decide +kernel
theorem dX11_hoursUntilOpen_13 : decode cX11_hoursUntilOpen 13 = .ok (.iconst 0, 1) := by decide +kernel
theorem dX11_hoursUntilOpen_14 : decode cX11_hoursUntilOpen 14 = .ok (.ireturn, 1) := by decide +kernel
theorem dX11_hoursUntilOpen_15 : decode cX11_hoursUntilOpen 15 = .ok (.aload_n 0, 1) := by decide +kernel
theorem dX11_hoursUntilOpen_16 : decode cX11_hoursUntilOpen 16 = .ok (.getfield 20, 3) := by decide +kernel
theorem dX11_hoursUntilOpen_19 : decode cX11_hoursUntilOpen 19 = .ok (.getfield 270, 3) := by decide +kernel
theorem dX11_hoursUntilOpen_22 : decode cX11_hoursUntilOpen 22 = .ok (.ifCond .gt 14, 3) := by decide +kernel
theorem dX11_hoursUntilOpen_25 : decode cX11_hoursUntilOpen 25 = .ok (.new 224, 3) := by decide +kernel
theorem dX11_hoursUntilOpen_28 : decode cX11_hoursUntilOpen 28 = .ok (.dup, 1) := by decide +kernel
theorem dX11_hoursUntilOpen_29 : decode cX11_hoursUntilOpen 29 = .ok (.ldc_w 273, 3) := by decide +kernel
theorem dX11_hoursUntilOpen_32 : decode cX11_hoursUntilOpen 32 = .ok (.invokespecial 228, 3) := by decide +kernel
theorem dX11_hoursUntilOpen_35 : decode cX11_hoursUntilOpen 35 = .ok (.athrow, 1) := by decide +kernel
theorem dX11_hoursUntilOpen_36 : decode cX11_hoursUntilOpen 36 = .ok (.aload_n 2, 1) := by decide +kernel
theorem dX11_hoursUntilOpen_37 : decode cX11_hoursUntilOpen 37 = .ok (.getfield 253, 3) := by decide +kernel
theorem dX11_hoursUntilOpen_40 : decode cX11_hoursUntilOpen 40 = .ok (.aload_n 0, 1) := by decide +kernel
theorem dX11_hoursUntilOpen_41 : decode cX11_hoursUntilOpen 41 = .ok (.getfield 20, 3) := by decide +kernel
theorem dX11_hoursUntilOpen_44 : decode cX11_hoursUntilOpen 44 = .ok (.getfield 270, 3) := by decide +kernel
theorem dX11_hoursUntilOpen_47 : decode cX11_hoursUntilOpen 47 = .ok (.iadd, 1) := by decide +kernel
theorem dX11_hoursUntilOpen_48 : decode cX11_hoursUntilOpen 48 = .ok (.iconst 1, 1) := by decide +kernel
theorem dX11_hoursUntilOpen_49 : decode cX11_hoursUntilOpen 49 = .ok (.isub, 1) := by decide +kernel
theorem dX11_hoursUntilOpen_50 : decode cX11_hoursUntilOpen 50 = .ok (.aload_n 0, 1) := by decide +kernel
theorem dX11_hoursUntilOpen_51 : decode cX11_hoursUntilOpen 51 = .ok (.getfield 20, 3) := by decide +kernel
theorem dX11_hoursUntilOpen_54 : decode cX11_hoursUntilOpen 54 = .ok (.getfield 270, 3) := by decide +kernel
theorem dX11_hoursUntilOpen_57 : decode cX11_hoursUntilOpen 57 = .ok (.idiv, 1) := by decide +kernel
theorem dX11_hoursUntilOpen_58 : decode cX11_hoursUntilOpen 58 = .ok (.ireturn, 1) := by decide +kernel
set_option maxRecDepth 100000 in
set_option maxHeartbeats 4000000 in
theorem f_hoursUntilOpen {l : Launch} {g : Nat → Nat} {M : LH} (htr : l.stackTraces = false) {kd : Nat → Nat} {p : Nat} {q a : Nat → Nat} {e8 : Int32 → Nat} {v : Int32 → Int32} {sv : Int32} {sa : Int32 → Int32} {ch : Int32} {pa tx : Int32 → Int32} {tn : Int32} {Ls : List Int32} {ea fl : Int32} (hP : Pg kd M p q a e8 v sv sa ch pa tx tn Ls ea fl) (id : Int32) : K_X11_hoursUntilOpen l g 5 2 12 [.ref p, .int id] M (RI (fun x M9 => ((¬ find v id = -1 ∧ lt v (find v id) 5 = 0 ∧ x = 0) ∨ (¬ find v id = -1 ∧ ¬ lt v (find v id) 5 = 0 ∧ 0 < v 1 ∧ x = (lt v (find v id) 5 + v 1 - 1) / v 1)) ∧ Pg kd M9 p q a e8 v sv sa ch pa tx tn Ls ea fl ∧ F30 kd M M9) (fun E M9 => ¬ (¬ find v id = -1 ∧ (lt v (find v id) 5 = 0 ∨ 0 < v 1)) ∧ E = exV 3 ∧ Pg kd M9 p q a e8 v sv sa ch pa tx tn Ls ea fl ∧ F30 kd M M9)) := by
  refine Ko_X11_hoursUntilOpen htr (fun X => ?_)
  obtain ⟨hs, old, hB, hR⟩ := _root_.id hP
  obtain ⟨hO, hE8, hkp, hk3, ⟨ad, sl, le, fg, tp, F, hC⟩, hK, hS2, hS3, hS8, hRO⟩ := _root_.id hB
  obtain ⟨hSt, hRo, hSR, hLR, hSl, hLe, hkd, hinj, ⟨hfg, hRd, hSd, hLt⟩, hG⟩ := _root_.id hC
  obtain ⟨hDk, hDs, ⟨f1, hB1⟩, ⟨f2, hB2⟩, hBl, ⟨f3, hB3⟩, hRt, ⟨f4, hB4⟩, hkD, hn34, hDr⟩ := _root_.id hK
  obtain ⟨hg1, hg2, hg3, hg4, hg5, hg6, hg7, hg8, hgL, hgS, hgR, hgI, hgN, hg0⟩ := _root_.id hG
  refine v_aload_n dX11_hoursUntilOpen_0 rfl rfl ?_
  refine v_iload_n dX11_hoursUntilOpen_1 rfl rfl ?_
  refine k_X11_240 dX11_hoursUntilOpen_2 rfl (c_needLetter htr hO hC id) hO (Nat.le_of_ble_eq_true rfl) (by omega) (by omega) (Nat.le_of_ble_eq_true rfl) (fun r2 M9 h9 => ?_) (fun _ _ h9 => by obtain ⟨h91, rfl, rfl⟩ := h9; exact VX.out ⟨(fun z => z.1 h91), rfl, hP, F30.rf⟩ (by omega) (by omega))
  obtain ⟨hf, rfl, e9⟩ := h9
  subst M9
  obtain ⟨p0, p1⟩ := (show 0 ≤ find v id ∧ find v id < v 7 from ⟨(find_in hg5 hf).1, (find_in hg5 hf).2.1⟩)
  have p12 := Int32.lt_of_lt_of_le p1 hg6
  obtain ⟨q0, q1, q2, q3, q4, q5, q6, q7⟩ := hLt _ p0 p1
  have hLf := hLe _ p0 p12
  refine v_astore_2 dX11_hoursUntilOpen_5 ?_
  refine v_aload_n dX11_hoursUntilOpen_6 rfl rfl ?_
  refine k_X11_256 dX11_hoursUntilOpen_7 rfl (c_thawed htr hLf) hLf (Nat.le_of_ble_eq_true rfl) (by omega) (by omega) (Nat.le_of_ble_eq_true rfl) (fun r7 M9 h9 => ?_) (fun _ _ h9 => h9.elim)
  obtain ⟨rfl, e9⟩ := h9
  subst M9
  refine v_if_eq (tgt := 15) dX11_hoursUntilOpen_10 (by decide) (fun h10 => ?_) (fun h10 => ?_)
  · have hi : ¬ F 5 (find v id) = 0 := b_f h10
    rw [q5] at hi
    refine v_aload_n dX11_hoursUntilOpen_15 rfl rfl ?_
    refine gf_X11_20 dX11_hoursUntilOpen_16 rfl hO ?_
    refine gf_X11_270 dX11_hoursUntilOpen_19 rfl hSt ?_
    refine v_if_gt (tgt := 36) dX11_hoursUntilOpen_22 (by decide) (fun h22 => ?_) (fun h22 => ?_)
    · refine v_aload_n dX11_hoursUntilOpen_36 rfl rfl ?_
      refine gf_X11_253 dX11_hoursUntilOpen_37 rfl hLf ?_
      refine v_aload_n dX11_hoursUntilOpen_40 rfl rfl ?_
      refine gf_X11_20 dX11_hoursUntilOpen_41 rfl hO ?_
      refine gf_X11_270 dX11_hoursUntilOpen_44 rfl hSt ?_
      refine v_iadd dX11_hoursUntilOpen_47 ?_
      refine v_iconst (v := 1) dX11_hoursUntilOpen_48 (by decide) ?_
      refine v_isub dX11_hoursUntilOpen_49 ?_
      refine v_aload_n dX11_hoursUntilOpen_50 rfl rfl ?_
      refine gf_X11_20 dX11_hoursUntilOpen_51 rfl hO ?_
      refine gf_X11_270 dX11_hoursUntilOpen_54 rfl hSt ?_
      refine v_idiv dX11_hoursUntilOpen_57 (fun z => by rw [z] at h22; exact absurd h22 (by decide)) ?_
      exact v_iret dX11_hoursUntilOpen_58 rfl ⟨Or.inr ⟨hf, hi, h22, (by rw [q5])⟩, hP, F30.rf⟩ (by omega) (by omega)
    · exact th_X11_224_273 dX11_hoursUntilOpen_25 dX11_hoursUntilOpen_28 dX11_hoursUntilOpen_29 dX11_hoursUntilOpen_32 dX11_hoursUntilOpen_35 rfl (Nat.le_of_ble_eq_true rfl) ⟨(fun z => z.2.elim hi (by assumption)), rfl, hP, F30.rf⟩ (by omega) (by omega)
  · have hi : F 5 (find v id) = 0 := b_t h10
    rw [q5] at hi
    refine v_iconst (v := 0) dX11_hoursUntilOpen_13 (by decide) ?_
    exact v_iret dX11_hoursUntilOpen_14 rfl ⟨Or.inl ⟨hf, hi, rfl⟩, hP, F30.rf⟩ (by omega) (by omega)
theorem dX11_letterAt_0 : decode cX11_letterAt 0 = .ok (.iload_n 1, 1) := by decide +kernel
theorem dX11_letterAt_1 : decode cX11_letterAt 1 = .ok (.ifCond .lt 14, 3) := by decide +kernel
theorem dX11_letterAt_4 : decode cX11_letterAt 4 = .ok (.iload_n 1, 1) := by decide +kernel
theorem dX11_letterAt_5 : decode cX11_letterAt 5 = .ok (.aload_n 0, 1) := by decide +kernel
theorem dX11_letterAt_6 : decode cX11_letterAt 6 = .ok (.getfield 20, 3) := by decide +kernel
theorem dX11_letterAt_9 : decode cX11_letterAt 9 = .ok (.getfield 221, 3) := by decide +kernel
theorem dX11_letterAt_12 : decode cX11_letterAt 12 = .ok (.if_icmp .lt 13, 3) := by decide +kernel
theorem dX11_letterAt_15 : decode cX11_letterAt 15 = .ok (.new 224, 3) := by decide +kernel
theorem dX11_letterAt_18 : decode cX11_letterAt 18 = .ok (.dup, 1) := by decide +kernel
theorem dX11_letterAt_19 : decode cX11_letterAt 19 = .ok (.ldc 226, 2) := by decide +kernel
theorem dX11_letterAt_21 : decode cX11_letterAt 21 = .ok (.invokespecial 228, 3) := by decide +kernel
theorem dX11_letterAt_24 : decode cX11_letterAt 24 = .ok (.athrow, 1) := by decide +kernel
theorem dX11_letterAt_25 : decode cX11_letterAt 25 = .ok (.aload_n 0, 1) := by decide +kernel
theorem dX11_letterAt_26 : decode cX11_letterAt 26 = .ok (.getfield 20, 3) := by decide +kernel
theorem dX11_letterAt_29 : decode cX11_letterAt 29 = .ok (.getfield 231, 3) := by decide +kernel
theorem dX11_letterAt_32 : decode cX11_letterAt 32 = .ok (.iload_n 1, 1) := by decide +kernel
theorem dX11_letterAt_33 : decode cX11_letterAt 33 = .ok (.aaload, 1) := by decide +kernel
theorem dX11_letterAt_34 : decode cX11_letterAt 34 = .ok (.getfield 235, 3) := by decide +kernel
theorem dX11_letterAt_37 : decode cX11_letterAt 37 = .ok (.ireturn, 1) := by decide +kernel
set_option maxRecDepth 100000 in
set_option maxHeartbeats 4000000 in
theorem f_letterAt {l : Launch} {g : Nat → Nat} {M : LH} (htr : l.stackTraces = false) {kd : Nat → Nat} {p : Nat} {q a : Nat → Nat} {e8 : Int32 → Nat} {v : Int32 → Int32} {sv : Int32} {sa : Int32 → Int32} {ch : Int32} {pa tx : Int32 → Int32} {tn : Int32} {Ls : List Int32} {ea fl : Int32} (hP : Pg kd M p q a e8 v sv sa ch pa tx tn Ls ea fl) (j : Int32) : K_X11_letterAt l g 5 2 12 [.ref p, .int j] M (RI (fun x M9 => (0 ≤ j ∧ j < v 7) ∧ x = lt v j 0 ∧ Pg kd M9 p q a e8 v sv sa ch pa tx tn Ls ea fl ∧ F30 kd M M9) (fun E M9 => ¬ (0 ≤ j ∧ j < v 7) ∧ E = exV 3 ∧ Pg kd M9 p q a e8 v sv sa ch pa tx tn Ls ea fl ∧ F30 kd M M9)) := by
  refine Ko_X11_letterAt htr (fun X => ?_)
  obtain ⟨hs, old, hB, hR⟩ := _root_.id hP
  obtain ⟨hO, hE8, hkp, hk3, ⟨ad, sl, le, fg, tp, F, hC⟩, hK, hS2, hS3, hS8, hRO⟩ := _root_.id hB
  obtain ⟨hSt, hRo, hSR, hLR, hSl, hLe, hkd, hinj, ⟨hfg, hRd, hSd, hLt⟩, hG⟩ := _root_.id hC
  obtain ⟨hDk, hDs, ⟨f1, hB1⟩, ⟨f2, hB2⟩, hBl, ⟨f3, hB3⟩, hRt, ⟨f4, hB4⟩, hkD, hn34, hDr⟩ := _root_.id hK
  obtain ⟨hg1, hg2, hg3, hg4, hg5, hg6, hg7, hg8, hgL, hgS, hgR, hgI, hgN, hg0⟩ := _root_.id hG
  refine v_iload_n dX11_letterAt_0 rfl rfl ?_
  refine v_if_lt (tgt := 15) dX11_letterAt_1 (by decide) (fun h1 => ?_) (fun h1 => ?_)
  · exact th_X11_224_226 dX11_letterAt_15 dX11_letterAt_18 dX11_letterAt_19 dX11_letterAt_21 dX11_letterAt_24 rfl (Nat.le_of_ble_eq_true rfl) ⟨(fun z => by first | exact absurd z.1 (Int32.not_le.mpr h1) | exact h12 z.2), rfl, hP, F30.rf⟩ (by omega) (by omega)
  · refine v_iload_n dX11_letterAt_4 rfl rfl ?_
    refine v_aload_n dX11_letterAt_5 rfl rfl ?_
    refine gf_X11_20 dX11_letterAt_6 rfl hO ?_
    refine gf_X11_221 dX11_letterAt_9 rfl hSt ?_
    refine v_icmp_lt (tgt := 25) dX11_letterAt_12 (by decide) (fun h12 => ?_) (fun h12 => ?_)
    · have j0 := Int32.not_lt.mp h1
      have j12 := Int32.lt_of_lt_of_le h12 hg6
      have hLf := hLe j j0 j12
      refine v_aload_n dX11_letterAt_25 rfl rfl ?_
      refine gf_X11_20 dX11_letterAt_26 rfl hO ?_
      refine gf_X11_231 dX11_letterAt_29 rfl hSt ?_
      refine v_iload_n dX11_letterAt_32 rfl rfl ?_
      refine v_aald1 dX11_letterAt_33 hLR j0 j12 rfl ?_
      refine gf_X11_235 dX11_letterAt_34 rfl hLf ?_
      exact v_iret dX11_letterAt_37 rfl ⟨⟨j0, h12⟩, (hLt j j0 h12).1, hP, F30.rf⟩ (by omega) (by omega)
    · exact th_X11_224_226 dX11_letterAt_15 dX11_letterAt_18 dX11_letterAt_19 dX11_letterAt_21 dX11_letterAt_24 rfl (Nat.le_of_ble_eq_true rfl) ⟨(fun z => by first | exact absurd z.1 (Int32.not_le.mpr h1) | exact h12 z.2), rfl, hP, F30.rf⟩ (by omega) (by omega)
theorem dX11_meanIce_0 : decode cX11_meanIce 0 = .ok (.aload_n 0, 1) := by decide +kernel
theorem dX11_meanIce_1 : decode cX11_meanIce 1 = .ok (.getfield 20, 3) := by decide +kernel
theorem dX11_meanIce_4 : decode cX11_meanIce 4 = .ok (.getfield 221, 3) := by decide +kernel
theorem dX11_meanIce_7 : decode cX11_meanIce 7 = .ok (.ifCond .ne 14, 3) := by decide +kernel
theorem dX11_meanIce_10 : decode cX11_meanIce 10 = .ok (.new 306, 3) := by decide +kernel
theorem dX11_meanIce_13 : decode cX11_meanIce 13 = .ok (.dup, 1) := by decide +kernel
theorem dX11_meanIce_14 : decode cX11_meanIce 14 = .ok (.ldc_w 308, 3) := by decide +kernel
theorem dX11_meanIce_17 : decode cX11_meanIce 17 = .ok (.invokespecial 310, 3) := by decide +kernel
theorem dX11_meanIce_20 : decode cX11_meanIce 20 = .ok (.athrow, 1) := by decide +kernel
theorem dX11_meanIce_21 : decode cX11_meanIce 21 = .ok (.aload_n 0, 1) := by decide +kernel
theorem dX11_meanIce_22 : decode cX11_meanIce 22 = .ok (.getfield 20, 3) := by decide +kernel
theorem dX11_meanIce_25 : decode cX11_meanIce 25 = .ok (.invokevirtual 311, 3) := by decide +kernel
theorem dX11_meanIce_28 : decode cX11_meanIce 28 = .ok (.i2d, 1) := by decide +kernel
theorem dX11_meanIce_29 : decode cX11_meanIce 29 = .ok (.aload_n 0, 1) := by decide +kernel
theorem dX11_meanIce_30 : decode cX11_meanIce 30 = .ok (.getfield 20, 3) := by decide +kernel
theorem dX11_meanIce_33 : decode cX11_meanIce 33 = .ok (.getfield 221, 3) := by decide +kernel
theorem dX11_meanIce_36 : decode cX11_meanIce 36 = .ok (.i2d, 1) := by decide +kernel
theorem dX11_meanIce_37 : decode cX11_meanIce 37 = .ok (.ddiv, 1) := by decide +kernel
theorem dX11_meanIce_38 : decode cX11_meanIce 38 = .ok (.dreturn, 1) := by decide +kernel
set_option maxRecDepth 100000 in
set_option maxHeartbeats 4000000 in
theorem f_meanIce {l : Launch} {g : Nat → Nat} {M : LH} (htr : l.stackTraces = false) {kd : Nat → Nat} {p : Nat} {q a : Nat → Nat} {e8 : Int32 → Nat} {v : Int32 → Int32} {sv : Int32} {sa : Int32 → Int32} {ch : Int32} {pa tx : Int32 → Int32} {tn : Int32} {Ls : List Int32} {ea fl : Int32} (hP : Pg kd M p q a e8 v sv sa ch pa tx tn Ls ea fl) (hnan : ¬ v 7 = 0 → vf_n64 (FP.ddiv (FP.i2d (iceN v)) (FP.i2d (v 7)))) : K_X11_meanIce l g 5 2 12 [.ref p] M (RD (fun x M9 => ¬ v 7 = 0 ∧ x = FP.ddiv (FP.i2d (iceN v)) (FP.i2d (v 7)) ∧ Pg kd M9 p q a e8 v sv sa ch pa tx tn Ls ea fl ∧ F30 kd M M9) (fun E M9 => v 7 = 0 ∧ E = exV 0 ∧ Pg kd M9 p q a e8 v sv sa ch pa tx tn Ls ea fl ∧ F30 kd M M9)) := by
  refine Ko_X11_meanIce htr (fun X => ?_)
  obtain ⟨hs, old, hB, hR⟩ := _root_.id hP
  obtain ⟨hO, hE8, hkp, hk3, ⟨ad, sl, le, fg, tp, F, hC⟩, hK, hS2, hS3, hS8, hRO⟩ := _root_.id hB
  obtain ⟨hSt, hRo, hSR, hLR, hSl, hLe, hkd, hinj, ⟨hfg, hRd, hSd, hLt⟩, hG⟩ := _root_.id hC
  obtain ⟨hDk, hDs, ⟨f1, hB1⟩, ⟨f2, hB2⟩, hBl, ⟨f3, hB3⟩, hRt, ⟨f4, hB4⟩, hkD, hn34, hDr⟩ := _root_.id hK
  obtain ⟨hg1, hg2, hg3, hg4, hg5, hg6, hg7, hg8, hgL, hgS, hgR, hgI, hgN, hg0⟩ := _root_.id hG
  refine v_aload_n dX11_meanIce_0 rfl rfl ?_
  refine gf_X11_20 dX11_meanIce_1 rfl hO ?_
  refine gf_X11_221 dX11_meanIce_4 rfl hSt ?_
  refine v_if_ne (tgt := 21) dX11_meanIce_7 (by decide) (fun h7 => ?_) (fun h7 => ?_)
  · refine v_aload_n dX11_meanIce_21 rfl rfl ?_
    refine gf_X11_20 dX11_meanIce_22 rfl hO ?_
    refine k_X11_311 dX11_meanIce_25 rfl (c_iceOfAll htr hC) hSt (Nat.le_of_ble_eq_true rfl) (by omega) (by omega) (Nat.le_of_ble_eq_true rfl) (fun r25 M9 h9 => ?_) (fun _ _ h9 => h9.elim)
    obtain ⟨rfl, e9⟩ := h9
    subst M9
    refine v_i2d dX11_meanIce_28 ?_
    refine v_aload_n dX11_meanIce_29 rfl rfl ?_
    refine gf_X11_20 dX11_meanIce_30 rfl hO ?_
    refine gf_X11_221 dX11_meanIce_33 rfl hSt ?_
    refine v_i2d dX11_meanIce_36 ?_
    refine v_ddiv dX11_meanIce_37 (hnan h7) ?_
    exact v_dret dX11_meanIce_38 rfl ⟨h7, rfl, hP, F30.rf⟩ (by omega) (by omega)
  · exact th_X11_306_308 dX11_meanIce_10 dX11_meanIce_13 dX11_meanIce_14 dX11_meanIce_17 dX11_meanIce_20 rfl (Nat.le_of_ble_eq_true rfl) ⟨(by first | assumption | exact Classical.not_not.mp (by assumption)), rfl, hP, F30.rf⟩ (by omega) (by omega)
theorem dX11_openShare_0 : decode cX11_openShare 0 = .ok (.aload_n 0, 1) := by decide +kernel
theorem dX11_openShare_1 : decode cX11_openShare 1 = .ok (.getfield 20, 3) := by decide +kernel
theorem dX11_openShare_4 : decode cX11_openShare 4 = .ok (.getfield 221, 3) := by decide +kernel
theorem dX11_openShare_7 : decode cX11_openShare 7 = .ok (.ifCond .ne 14, 3) := by decide +kernel
theorem dX11_openShare_10 : decode cX11_openShare 10 = .ok (.new 306, 3) := by decide +kernel
theorem dX11_openShare_13 : decode cX11_openShare 13 = .ok (.dup, 1) := by decide +kernel
theorem dX11_openShare_14 : decode cX11_openShare 14 = .ok (.ldc_w 308, 3) := by decide +kernel
theorem dX11_openShare_17 : decode cX11_openShare 17 = .ok (.invokespecial 310, 3) := by decide +kernel
theorem dX11_openShare_20 : decode cX11_openShare 20 = .ok (.athrow, 1) := by decide +kernel
theorem dX11_openShare_21 : decode cX11_openShare 21 = .ok (.aload_n 0, 1) := by decide +kernel
theorem dX11_openShare_22 : decode cX11_openShare 22 = .ok (.getfield 20, 3) := by decide +kernel
theorem dX11_openShare_25 : decode cX11_openShare 25 = .ok (.invokevirtual 314, 3) := by decide +kernel
theorem dX11_openShare_28 : decode cX11_openShare 28 = .ok (.i2f, 1) := by decide +kernel
theorem dX11_openShare_29 : decode cX11_openShare 29 = .ok (.aload_n 0, 1) := by decide +kernel
theorem dX11_openShare_30 : decode cX11_openShare 30 = .ok (.getfield 20, 3) := by decide +kernel
theorem dX11_openShare_33 : decode cX11_openShare 33 = .ok (.getfield 221, 3) := by decide +kernel
theorem dX11_openShare_36 : decode cX11_openShare 36 = .ok (.i2f, 1) := by decide +kernel
theorem dX11_openShare_37 : decode cX11_openShare 37 = .ok (.fdiv, 1) := by decide +kernel
theorem dX11_openShare_38 : decode cX11_openShare 38 = .ok (.freturn, 1) := by decide +kernel
set_option maxRecDepth 100000 in
set_option maxHeartbeats 4000000 in
theorem f_openShare {l : Launch} {g : Nat → Nat} {M : LH} (htr : l.stackTraces = false) {kd : Nat → Nat} {p : Nat} {q a : Nat → Nat} {e8 : Int32 → Nat} {v : Int32 → Int32} {sv : Int32} {sa : Int32 → Int32} {ch : Int32} {pa tx : Int32 → Int32} {tn : Int32} {Ls : List Int32} {ea fl : Int32} (hP : Pg kd M p q a e8 v sv sa ch pa tx tn Ls ea fl) (hnan : ¬ v 7 = 0 → vf_n32 (FP.fdiv (FP.i2f (thawN v)) (FP.i2f (v 7)))) : K_X11_openShare l g 5 2 12 [.ref p] M (RF (fun x M9 => ¬ v 7 = 0 ∧ x = FP.fdiv (FP.i2f (thawN v)) (FP.i2f (v 7)) ∧ Pg kd M9 p q a e8 v sv sa ch pa tx tn Ls ea fl ∧ F30 kd M M9) (fun E M9 => v 7 = 0 ∧ E = exV 0 ∧ Pg kd M9 p q a e8 v sv sa ch pa tx tn Ls ea fl ∧ F30 kd M M9)) := by
  refine Ko_X11_openShare htr (fun X => ?_)
  obtain ⟨hs, old, hB, hR⟩ := _root_.id hP
  obtain ⟨hO, hE8, hkp, hk3, ⟨ad, sl, le, fg, tp, F, hC⟩, hK, hS2, hS3, hS8, hRO⟩ := _root_.id hB
  obtain ⟨hSt, hRo, hSR, hLR, hSl, hLe, hkd, hinj, ⟨hfg, hRd, hSd, hLt⟩, hG⟩ := _root_.id hC
  obtain ⟨hDk, hDs, ⟨f1, hB1⟩, ⟨f2, hB2⟩, hBl, ⟨f3, hB3⟩, hRt, ⟨f4, hB4⟩, hkD, hn34, hDr⟩ := _root_.id hK
  obtain ⟨hg1, hg2, hg3, hg4, hg5, hg6, hg7, hg8, hgL, hgS, hgR, hgI, hgN, hg0⟩ := _root_.id hG
  refine v_aload_n dX11_openShare_0 rfl rfl ?_
  refine gf_X11_20 dX11_openShare_1 rfl hO ?_
  refine gf_X11_221 dX11_openShare_4 rfl hSt ?_
  refine v_if_ne (tgt := 21) dX11_openShare_7 (by decide) (fun h7 => ?_) (fun h7 => ?_)
  · refine v_aload_n dX11_openShare_21 rfl rfl ?_
    refine gf_X11_20 dX11_openShare_22 rfl hO ?_
    refine k_X11_314 dX11_openShare_25 rfl (c_countThawed htr hC) hSt (Nat.le_of_ble_eq_true rfl) (by omega) (by omega) (Nat.le_of_ble_eq_true rfl) (fun r25 M9 h9 => ?_) (fun _ _ h9 => h9.elim)
    obtain ⟨rfl, e9⟩ := h9
    subst M9
    refine v_i2f dX11_openShare_28 ?_
    refine v_aload_n dX11_openShare_29 rfl rfl ?_
    refine gf_X11_20 dX11_openShare_30 rfl hO ?_
    refine gf_X11_221 dX11_openShare_33 rfl hSt ?_
    refine v_i2f dX11_openShare_36 ?_
    refine v_fdiv dX11_openShare_37 (hnan h7) ?_
    exact v_fret dX11_openShare_38 rfl ⟨h7, rfl, hP, F30.rf⟩ (by omega) (by omega)
  · exact th_X11_306_308 dX11_openShare_10 dX11_openShare_13 dX11_openShare_14 dX11_openShare_17 dX11_openShare_20 rfl (Nat.le_of_ble_eq_true rfl) ⟨(by first | assumption | exact Classical.not_not.mp (by assumption)), rfl, hP, F30.rf⟩ (by omega) (by omega)
theorem dX11_bestLoadFee_0 : decode cX11_bestLoadFee 0 = .ok (.aload_n 0, 1) := by decide +kernel
theorem dX11_bestLoadFee_1 : decode cX11_bestLoadFee 1 = .ok (.getfield 10, 3) := by decide +kernel
theorem dX11_bestLoadFee_4 : decode cX11_bestLoadFee 4 = .ok (.iload_n 1, 1) := by decide +kernel
theorem dX11_bestLoadFee_5 : decode cX11_bestLoadFee 5 = .ok (.invokevirtual 107, 3) := by decide +kernel
theorem dX11_bestLoadFee_8 : decode cX11_bestLoadFee 8 = .ok (.invokestatic 59, 3) := by decide +kernel
theorem dX11_bestLoadFee_11 : decode cX11_bestLoadFee 11 = .ok (.aload_n 0, 1) := by decide +kernel
theorem dX11_bestLoadFee_12 : decode cX11_bestLoadFee 12 = .ok (.getfield 10, 3) := by decide +kernel
theorem dX11_bestLoadFee_15 : decode cX11_bestLoadFee 15 = .ok (.iload_n 1, 1) := by decide +kernel
theorem dX11_bestLoadFee_16 : decode cX11_bestLoadFee 16 = .ok (.invokevirtual 206, 3) := by decide +kernel
theorem dX11_bestLoadFee_19 : decode cX11_bestLoadFee 19 = .ok (.ireturn, 1) := by decide +kernel
set_option maxRecDepth 100000 in
set_option maxHeartbeats 4000000 in
theorem f_bestLoadFee {l : Launch} {g : Nat → Nat} {M : LH} (htr : l.stackTraces = false) {kd : Nat → Nat} {p : Nat} {q a : Nat → Nat} {e8 : Int32 → Nat} {v : Int32 → Int32} {sv : Int32} {sa : Int32 → Int32} {ch : Int32} {pa tx : Int32 → Int32} {tn : Int32} {Ls : List Int32} {ea fl : Int32} (hP : Pg kd M p q a e8 v sv sa ch pa tx tn Ls ea fl) (k : Int32) : K_X11_bestLoadFee l g 5 2 12 [.ref p, .int k] M (RI (fun x M9 => vdBest v k = 0 ∧ x = feU v (bI v (sd v k 1) (v 7).toNatClampNeg (sd v k 0 - loadOn v k) &&& 4095) (v 7) ∧ Pg kd M9 p q a e8 v sv sa ch pa tx tn Ls ea fl ∧ F30 kd M M9) (fun E M9 => ¬ vdBest v k = 0 ∧ E = exV (vdBest v k) ∧ Pg kd M9 p q a e8 v sv sa ch pa tx tn Ls ea fl ∧ F30 kd M M9)) := by
  refine Ko_X11_bestLoadFee htr (fun X => ?_)
  obtain ⟨hs, old, hB, hR⟩ := _root_.id hP
  obtain ⟨hO, hE8, hkp, hk3, ⟨ad, sl, le, fg, tp, F, hC⟩, hK, hS2, hS3, hS8, hRO⟩ := _root_.id hB
  obtain ⟨hSt, hRo, hSR, hLR, hSl, hLe, hkd, hinj, ⟨hfg, hRd, hSd, hLt⟩, hG⟩ := _root_.id hC
  obtain ⟨hDk, hDs, ⟨f1, hB1⟩, ⟨f2, hB2⟩, hBl, ⟨f3, hB3⟩, hRt, ⟨f4, hB4⟩, hkD, hn34, hDr⟩ := _root_.id hK
  obtain ⟨hg1, hg2, hg3, hg4, hg5, hg6, hg7, hg8, hgL, hgS, hgR, hgI, hgN, hg0⟩ := _root_.id hG
  refine v_aload_n dX11_bestLoadFee_0 rfl rfl ?_
  refine gf_X11_10 dX11_bestLoadFee_1 rfl hO ?_
  refine v_iload_n dX11_bestLoadFee_4 rfl rfl ?_
  refine k_X11_107 dX11_bestLoadFee_5 rfl (c_judgeBest htr hC hK k) hDk (Nat.le_of_ble_eq_true rfl) (by omega) (by omega) (Nat.le_of_ble_eq_true rfl) (fun r5 M9 h9 => ?_) (fun _ _ h9 => h9.elim)
  obtain ⟨rfl, e9⟩ := h9
  subst M9
  refine k_X11_59 dX11_bestLoadFee_8 rfl (c_demandFine htr (vd_lt (σ := v) (s := 0) (t := 0) (n := 0) (w := 0) (e := 0) (k := k) (id := 0)).2.2.2.2.2.2.1) (Nat.le_of_ble_eq_true rfl) (by omega) (by omega) (Nat.le_of_ble_eq_true rfl) (fun M9 h9 => ?_) (fun _ _ h9 => by obtain ⟨h91, rfl, rfl⟩ := h9; exact VX.out ⟨h91, rfl, hP, F30.rf⟩ (by omega) (by omega))
  obtain ⟨hok, e9⟩ := h9
  subst M9
  obtain ⟨⟨o1, o2⟩, o3⟩ := vdBest_0 hok
  refine v_aload_n dX11_bestLoadFee_11 rfl rfl ?_
  refine gf_X11_10 dX11_bestLoadFee_12 rfl hO ?_
  refine v_iload_n dX11_bestLoadFee_15 rfl rfl ?_
  refine k_X11_206 dX11_bestLoadFee_16 rfl (c_bestFees htr hC hK o1 o2) hDk (Nat.le_of_ble_eq_true rfl) (by omega) (by omega) (Nat.le_of_ble_eq_true rfl) (fun r16 M9 h9 => ?_) (fun _ _ h9 => h9.elim)
  obtain ⟨rfl, f9, e9⟩ := h9
  have hQ := hP.desk (M' := M9) (by rw [e9]; exact Frm.up hkD.2.2.2.2.2.1) (by rw [e9]; exact Dk.row hK hB3 f9)
  have hF9 : F30 kd M M9 := by rw [e9]; exact Frm.f30 (r := 20) (Frm.up hkD.2.2.2.2.2.1) (by decide)
  exact v_iret dX11_bestLoadFee_19 rfl ⟨hok, rfl, hQ, hF9⟩ (by omega) (by omega)
theorem dX11_bestLoadFeeByTrying_0 : decode cX11_bestLoadFeeByTrying 0 = .ok (.aload_n 0, 1) := by decide +kernel
theorem dX11_bestLoadFeeByTrying_1 : decode cX11_bestLoadFeeByTrying 1 = .ok (.getfield 10, 3) := by decide +kernel
theorem dX11_bestLoadFeeByTrying_4 : decode cX11_bestLoadFeeByTrying 4 = .ok (.iload_n 1, 1) := by decide +kernel
theorem dX11_bestLoadFeeByTrying_5 : decode cX11_bestLoadFeeByTrying 5 = .ok (.invokevirtual 107, 3) := by decide +kernel
theorem dX11_bestLoadFeeByTrying_8 : decode cX11_bestLoadFeeByTrying 8 = .ok (.invokestatic 59, 3) := by decide +kernel
theorem dX11_bestLoadFeeByTrying_11 : decode cX11_bestLoadFeeByTrying 11 = .ok (.aload_n 0, 1) := by decide +kernel
theorem dX11_bestLoadFeeByTrying_12 : decode cX11_bestLoadFeeByTrying 12 = .ok (.getfield 10, 3) := by decide +kernel
theorem dX11_bestLoadFeeByTrying_15 : decode cX11_bestLoadFeeByTrying 15 = .ok (.iload_n 1, 1) := by decide +kernel
theorem dX11_bestLoadFeeByTrying_16 : decode cX11_bestLoadFeeByTrying 16 = .ok (.invokevirtual 209, 3) := by decide +kernel
theorem dX11_bestLoadFeeByTrying_19 : decode cX11_bestLoadFeeByTrying 19 = .ok (.ireturn, 1) := by decide +kernel
set_option maxRecDepth 100000 in
set_option maxHeartbeats 4000000 in
theorem f_bestLoadFeeByTrying {l : Launch} {g : Nat → Nat} {M : LH} (htr : l.stackTraces = false) {kd : Nat → Nat} {p : Nat} {q a : Nat → Nat} {e8 : Int32 → Nat} {v : Int32 → Int32} {sv : Int32} {sa : Int32 → Int32} {ch : Int32} {pa tx : Int32 → Int32} {tn : Int32} {Ls : List Int32} {ea fl : Int32} (hP : Pg kd M p q a e8 v sv sa ch pa tx tn Ls ea fl) (k : Int32) : K_X11_bestLoadFeeByTrying l g 17 2 12 [.ref p, .int k] M (RI (fun x M9 => vdBest v k = 0 ∧ x = feU v (bI v (sd v k 1) (v 7).toNatClampNeg (sd v k 0 - loadOn v k) &&& 4095) (v 7) ∧ Pg kd M9 p q a e8 v sv sa ch pa tx tn Ls ea fl ∧ F30 kd M M9) (fun E M9 => ¬ vdBest v k = 0 ∧ E = exV (vdBest v k) ∧ Pg kd M9 p q a e8 v sv sa ch pa tx tn Ls ea fl ∧ F30 kd M M9)) := by
  refine Ko_X11_bestLoadFeeByTrying htr (fun X => ?_)
  obtain ⟨hs, old, hB, hR⟩ := _root_.id hP
  obtain ⟨hO, hE8, hkp, hk3, ⟨ad, sl, le, fg, tp, F, hC⟩, hK, hS2, hS3, hS8, hRO⟩ := _root_.id hB
  obtain ⟨hSt, hRo, hSR, hLR, hSl, hLe, hkd, hinj, ⟨hfg, hRd, hSd, hLt⟩, hG⟩ := _root_.id hC
  obtain ⟨hDk, hDs, ⟨f1, hB1⟩, ⟨f2, hB2⟩, hBl, ⟨f3, hB3⟩, hRt, ⟨f4, hB4⟩, hkD, hn34, hDr⟩ := _root_.id hK
  obtain ⟨hg1, hg2, hg3, hg4, hg5, hg6, hg7, hg8, hgL, hgS, hgR, hgI, hgN, hg0⟩ := _root_.id hG
  refine v_aload_n dX11_bestLoadFeeByTrying_0 rfl rfl ?_
  refine gf_X11_10 dX11_bestLoadFeeByTrying_1 rfl hO ?_
  refine v_iload_n dX11_bestLoadFeeByTrying_4 rfl rfl ?_
  refine k_X11_107 dX11_bestLoadFeeByTrying_5 rfl (c_judgeBest htr hC hK k) hDk (Nat.le_of_ble_eq_true rfl) (by omega) (by omega) (Nat.le_of_ble_eq_true rfl) (fun r5 M9 h9 => ?_) (fun _ _ h9 => h9.elim)
  obtain ⟨rfl, e9⟩ := h9
  subst M9
  refine k_X11_59 dX11_bestLoadFeeByTrying_8 rfl (c_demandFine htr (vd_lt (σ := v) (s := 0) (t := 0) (n := 0) (w := 0) (e := 0) (k := k) (id := 0)).2.2.2.2.2.2.1) (Nat.le_of_ble_eq_true rfl) (by omega) (by omega) (Nat.le_of_ble_eq_true rfl) (fun M9 h9 => ?_) (fun _ _ h9 => by obtain ⟨h91, rfl, rfl⟩ := h9; exact VX.out ⟨h91, rfl, hP, F30.rf⟩ (by omega) (by omega))
  obtain ⟨hok, e9⟩ := h9
  subst M9
  obtain ⟨⟨o1, o2⟩, o3⟩ := vdBest_0 hok
  refine v_aload_n dX11_bestLoadFeeByTrying_11 rfl rfl ?_
  refine gf_X11_10 dX11_bestLoadFeeByTrying_12 rfl hO ?_
  refine v_iload_n dX11_bestLoadFeeByTrying_15 rfl rfl ?_
  refine k_X11_209 dX11_bestLoadFeeByTrying_16 rfl (c_bestFeesByTrying htr hC hK o1 o2) hDk (Nat.le_of_ble_eq_true rfl) (by omega) (by omega) (Nat.le_of_ble_eq_true rfl) (fun r16 M9 h9 => ?_) (fun _ _ h9 => h9.elim)
  obtain ⟨rfl, e9⟩ := h9
  subst M9
  exact v_iret dX11_bestLoadFeeByTrying_19 rfl (by
      obtain ⟨u0, u1, u2, u3, u4, u5, u6, u7⟩ := hgS k o1 o2
      exact ⟨hok, (fees_eq hG (by clear hgL hgS hgR hgI hgN hRd hSd hLt hLe hSl hinj; lia) (by clear hgL hgS hgR hgI hgN hRd hSd hLt hLe hSl hinj; lia)).symm, hP, F30.rf⟩) (by omega) (by omega)
