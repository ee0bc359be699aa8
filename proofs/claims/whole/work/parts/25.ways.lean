/-! ===== the desk's judgements of ways ===== -/
def vdGo (σ : Int32 → Int32) (k t w : Int32) : Nat := if ¬ (hsl σ k ∧ hst σ t) then 1 else if 0 < sd σ k 2 ∨ sd σ k 1 = t then 4 else if w < 1000000 then 0 else 5
theorem IsD.way {σ : Int32 → Int32} {a b w : Int32} (h : IsD σ 1000000 a b w.toInt) : (w < 1000000 ∧ ∃ d, Wks σ a b d) ∨ (1000000 ≤ w ∧ ∀ d, ¬ Wks σ a b d) := by
  have e : (1000000 : Int32).toInt = 1000000 := rfl
  rcases h with ⟨h1, h2, -⟩ | ⟨h1, h2⟩
  · exact Or.inl ⟨i_lt.mpr (by rw [e]; exact h1), _, h2⟩
  · exact Or.inr ⟨i_le.mpr (by rw [e, h1]; exact Int.le_refl _), h2⟩
theorem dX3_judgeGo_0 : decode cX3_judgeGo 0 = .ok (.aload_n 0, 1) := by decide +kernel
theorem dX3_judgeGo_1 : decode cX3_judgeGo 1 = .ok (.getfield 12, 3) := by decide +kernel
theorem dX3_judgeGo_4 : decode cX3_judgeGo 4 = .ok (.iload_n 1, 1) := by decide +kernel
theorem dX3_judgeGo_5 : decode cX3_judgeGo 5 = .ok (.invokevirtual 126, 3) := by decide +kernel
theorem dX3_judgeGo_8 : decode cX3_judgeGo 8 = .ok (.ifCond .eq 14, 3) := by decide +kernel
theorem dX3_judgeGo_11 : decode cX3_judgeGo 11 = .ok (.aload_n 0, 1) := by decide +kernel
theorem dX3_judgeGo_12 : decode cX3_judgeGo 12 = .ok (.getfield 12, 3) := by decide +kernel
theorem dX3_judgeGo_15 : decode cX3_judgeGo 15 = .ok (.iload_n 2, 1) := by decide +kernel
theorem dX3_judgeGo_16 : decode cX3_judgeGo 16 = .ok (.invokevirtual 52, 3) := by decide +kernel
theorem dX3_judgeGo_19 : decode cX3_judgeGo 19 = .ok (.ifCond .ne 7, 3) := by decide +kernel
theorem dX3_judgeGo_22 : decode cX3_judgeGo 22 = .ok (.getstatic 56, 3) := by decide +kernel
theorem dX3_judgeGo_25 : decode cX3_judgeGo 25 = .ok (.areturn, 1) := by decide +kernel
theorem dX3_judgeGo_26 : decode cX3_judgeGo 26 = .ok (.aload_n 0, 1) := by decide +kernel
theorem dX3_judgeGo_27 : decode cX3_judgeGo 27 = .ok (.getfield 12, 3) := by decide +kernel
theorem dX3_judgeGo_30 : decode cX3_judgeGo 30 = .ok (.getfield 77, 3) := by decide +kernel
theorem dX3_judgeGo_33 : decode cX3_judgeGo 33 = .ok (.iload_n 1, 1) := by decide +kernel
theorem dX3_judgeGo_34 : decode cX3_judgeGo 34 = .ok (.aaload, 1) := by decide +kernel
theorem dX3_judgeGo_35 : decode cX3_judgeGo 35 = .ok (.astore_n 3, 1) := by decide +kernel
theorem dX3_judgeGo_36 : decode cX3_judgeGo 36 = .ok (.aload_n 3, 1) := by decide +kernel
theorem dX3_judgeGo_37 : decode cX3_judgeGo 37 = .ok (.invokevirtual 136, 3) := by decide +kernel
theorem dX3_judgeGo_40 : decode cX3_judgeGo 40 = .ok (.ifCond .ne 11, 3) := by decide +kernel
theorem dX3_judgeGo_43 : decode cX3_judgeGo 43 = .ok (.aload_n 3, 1) := by decide +kernel
theorem dX3_judgeGo_44 : decode cX3_judgeGo 44 = .ok (.getfield 86, 3) := by decide +kernel
theorem dX3_judgeGo_47 : decode cX3_judgeGo 47 = .ok (.iload_n 2, 1) := by decide +kernel
theorem dX3_judgeGo_48 : decode cX3_judgeGo 48 = .ok (.if_icmp .ne 7, 3) := by decide +kernel
theorem dX3_judgeGo_51 : decode cX3_judgeGo 51 = .ok (.getstatic 49, 3) := by decide +kernel
theorem dX3_judgeGo_54 : decode cX3_judgeGo 54 = .ok (.areturn, 1) := by decide +kernel
theorem dX3_judgeGo_55 : decode cX3_judgeGo 55 = .ok (.aload_n 0, 1) := by decide +kernel
theorem dX3_judgeGo_56 : decode cX3_judgeGo 56 = .ok (.getfield 21, 3) := by decide +kernel
theorem dX3_judgeGo_59 : decode cX3_judgeGo 59 = .ok (.aload_n 0, 1) := by decide +kernel
theorem dX3_judgeGo_60 : decode cX3_judgeGo 60 = .ok (.getfield 12, 3) := by decide +kernel
theorem dX3_judgeGo_63 : decode cX3_judgeGo 63 = .ok (.aload_n 3, 1) := by decide +kernel
theorem dX3_judgeGo_64 : decode cX3_judgeGo 64 = .ok (.getfield 86, 3) := by decide +kernel
theorem dX3_judgeGo_67 : decode cX3_judgeGo 67 = .ok (.iload_n 2, 1) := by decide +kernel
theorem dX3_judgeGo_68 : decode cX3_judgeGo 68 = .ok (.invokevirtual 167, 3) := by decide +kernel
theorem dX3_judgeGo_71 : decode cX3_judgeGo 71 = .ok (.istore 4, 2) := by decide +kernel
theorem dX3_judgeGo_73 : decode cX3_judgeGo 73 = .ok (.iload 4, 2) := by decide +kernel
theorem dX3_judgeGo_75 : decode cX3_judgeGo 75 = .ok (.ldc 171, 2) := by decide +kernel
theorem dX3_judgeGo_77 : decode cX3_judgeGo 77 = .ok (.if_icmp .ge 9, 3) := by decide +kernel
theorem dX3_judgeGo_80 : decode cX3_judgeGo 80 = .ok (.getstatic 43, 3) := by decide +kernel
theorem dX3_judgeGo_83 : decode cX3_judgeGo 83 = .ok (.goto 6, 3) := by decide +kernel
theorem dX3_judgeGo_86 : decode cX3_judgeGo 86 = .ok (.getstatic 147, 3) := by decide +kernel
theorem dX3_judgeGo_89 : decode cX3_judgeGo 89 = .ok (.areturn, 1) := by decide +kernel
set_option maxRecDepth 100000 in
set_option maxHeartbeats 4000000 in
theorem c_judgeGo {l : Launch} {g : Nat → Nat} {M : LH} (htr : l.stackTraces = false) {kd : Nat → Nat} {r a : Nat} {ad : Nat → Nat} {sl le : Int32 → Nat} {fg tp : Int32} {F : Nat → Int32 → Int32} {σ : Int32 → Int32} (hC : StR kd r M a ad sl le fg tp F σ) {q : Nat → Nat} {D : Nat} (hK : Dk kd D r M a q) (k t : Int32) : K_X3_judgeGo l g 4 0 0 [.ref (q 0), .int k, .int t] M (RA (fun v M9 => ∃ w : Int32, (hsl σ k → hst σ t → IsD σ 1000000 (sd σ k 1) t w.toInt ∨ (0 < sd σ k 2 ∨ sd σ k 1 = t)) ∧ v = g (vdGo σ k t w) ∧ ∃ f', M9 = hup M (q 3) (ia 49 f')) nX) := by
  refine Ko_X3_judgeGo htr (fun X => ?_)
  have hC0 := hC
  have hK0 := hK
  obtain ⟨hSt, hRo, hSR, hLR, hSl, hLe, hkd, -, ⟨-, hRd, hSd, hLt⟩, hG⟩ := hC
  obtain ⟨hDk, hDs, ⟨f1, hB1⟩, ⟨f2, hB2⟩, hBl, ⟨f3, hB3⟩, hRt, ⟨f4, hB4⟩, hkD, hn34, hDr⟩ := hK
  have hG0 := hG
  obtain ⟨hg1, hg2, hg3, hg4, hg5, hg6, hg7, hg8, hgL, hgS, -⟩ := hG
  refine v_aload_n dX3_judgeGo_0 rfl rfl ?_
  refine gf_X3_12 dX3_judgeGo_1 rfl hDk ?_
  refine v_iload_n dX3_judgeGo_4 rfl rfl ?_
  refine k_X3_126 dX3_judgeGo_5 rfl (c_hasSledge htr hC0 k) hSt (Nat.le_of_ble_eq_true rfl) (by omega) (by omega) (Nat.le_of_ble_eq_true rfl) (fun r5 M9 h9 => ?_) (fun _ _ h9 => h9.elim)
  obtain ⟨rfl, e9⟩ := h9
  subst M9
  refine v_if_eq (tgt := 22) dX3_judgeGo_8 (by decide) (fun h8 => ?_) (fun h8 => ?_)
  · refine gs_X3_56 dX3_judgeGo_22 rfl ?_
    exact v_aret dX3_judgeGo_25 rfl ⟨1000000, fun a b => by exfalso; first | exact b_f h8 a | exact b_f h19 b, (by unfold vdGo; rw [if_pos (fun z => by first | exact b_f h8 z.1 | exact b_f h19 z.2)]), f1, (hup_id hB1).symm⟩ (by omega) (by omega)
  · refine v_aload_n dX3_judgeGo_11 rfl rfl ?_
    refine gf_X3_12 dX3_judgeGo_12 rfl hDk ?_
    refine v_iload_n dX3_judgeGo_15 rfl rfl ?_
    refine k_X3_52 dX3_judgeGo_16 rfl (c_hasStation htr hC0 t) hSt (Nat.le_of_ble_eq_true rfl) (by omega) (by omega) (Nat.le_of_ble_eq_true rfl) (fun r16 M9 h9 => ?_) (fun _ _ h9 => h9.elim)
    obtain ⟨rfl, e9⟩ := h9
    subst M9
    refine v_if_ne (tgt := 26) dX3_judgeGo_19 (by decide) (fun h19 => ?_) (fun h19 => ?_)
    · obtain ⟨k0, k1⟩ := b_t h8
      have hk8 := b_t h19
      have k3 : k < 3 := by clear hgL hgS hRd hSd hLt hLe hSl; lia
      obtain ⟨y0, y1, y2⟩ := hSd k k0 k1
      obtain ⟨u0, u1, u2, u3, u4, u5, u6, u7⟩ := hgS k k0 k1
      have hSk := hSl k k0 k3
      refine v_aload_n dX3_judgeGo_26 rfl rfl ?_
      refine gf_X3_12 dX3_judgeGo_27 rfl hDk ?_
      refine gf_X3_77 dX3_judgeGo_30 rfl hSt ?_
      refine v_iload_n dX3_judgeGo_33 rfl rfl ?_
      refine v_aald1 dX3_judgeGo_34 hSR k0 k3 rfl ?_
      refine v_astore_3 dX3_judgeGo_35 ?_
      refine v_aload_n dX3_judgeGo_36 rfl rfl ?_
      refine k_X3_136 dX3_judgeGo_37 rfl (c_travels htr hSk) hSk (Nat.le_of_ble_eq_true rfl) (by omega) (by omega) (Nat.le_of_ble_eq_true rfl) (fun r37 M9 h9 => ?_) (fun _ _ h9 => h9.elim)
      obtain ⟨rfl, e9⟩ := h9
      subst M9
      refine v_if_ne (tgt := 51) dX3_judgeGo_40 (by decide) (fun h40 => ?_) (fun h40 => ?_)
      · have hor9 : 0 < sd σ k 2 ∨ sd σ k 1 = t := by
          rw [← y1, ← y2]
          first
            | exact Or.inl (b_t h40)
            | exact Or.inr (Classical.not_not.mp h48)
            | exact Or.inr h48
        refine gs_X3_49 dX3_judgeGo_51 rfl ?_
        exact v_aret dX3_judgeGo_54 rfl ⟨1000000, fun _ _ => Or.inr hor9, (by unfold vdGo; rw [if_neg (fun z => z ⟨⟨k0, k1⟩, hk8⟩), if_pos hor9]), f1, (hup_id hB1).symm⟩ (by omega) (by omega)
      · refine v_aload_n dX3_judgeGo_43 rfl rfl ?_
        refine gf_X3_86 dX3_judgeGo_44 rfl hSk ?_
        refine v_iload_n dX3_judgeGo_47 rfl rfl ?_
        refine v_icmp_ne (tgt := 55) dX3_judgeGo_48 (by decide) (fun h48 => ?_) (fun h48 => ?_)
        · have hor9 : ¬ (0 < sd σ k 2 ∨ sd σ k 1 = t) := by
            rw [← y1, ← y2]
            rintro (z | z)
            · exact b_f h40 z
            · exact absurd z h48
          have f90 : 0 ≤ F 9 k := by rw [y1]; exact u2
          have f91 : F 9 k < σ 5 := by rw [y1]; exact u3
          refine v_aload_n dX3_judgeGo_55 rfl rfl ?_
          refine gf_X3_21 dX3_judgeGo_56 rfl hDk ?_
          refine v_aload_n dX3_judgeGo_59 rfl rfl ?_
          refine gf_X3_12 dX3_judgeGo_60 rfl hDk ?_
          refine v_aload_n dX3_judgeGo_63 rfl rfl ?_
          refine gf_X3_86 dX3_judgeGo_64 rfl hSk ?_
          refine v_iload_n dX3_judgeGo_67 rfl rfl ?_
          refine k_X3_167 dX3_judgeGo_68 rfl (c_nearestWay htr hC0 hDs hB1 (fun z => hDr (hkD.2.2.1.symm.trans z)) f90 f91 hk8.1 hk8.2) hDs (Nat.le_of_ble_eq_true rfl) (by omega) (by omega) (Nat.le_of_ble_eq_true rfl) (fun r68 M9 h9 => ?_) (fun _ _ h9 => h9.elim)
          obtain ⟨f', hq, rfl, e9⟩ := h9
          subst M9
          refine v_istore_4 dX3_judgeGo_71 ?_
          refine v_iload dX3_judgeGo_73 rfl ?_
          refine lc_X3_171 dX3_judgeGo_75 rfl ?_
          refine v_icmp_ge (tgt := 86) dX3_judgeGo_77 (by decide) (fun h77 => ?_) (fun h77 => ?_)
          · refine gs_X3_147 dX3_judgeGo_86 rfl ?_
            exact v_aret dX3_judgeGo_89 rfl ⟨f' (F 9 k * 7 + t), fun _ _ => Or.inl (by rw [← y1]; exact (hq.2 t hk8.1 hk8.2).1), (by unfold vdGo; rw [if_neg (fun z => z ⟨⟨k0, k1⟩, hk8⟩), if_neg hor9]; first | rw [if_pos (by first | assumption | exact Int32.not_le.mp (by assumption))] | rw [if_neg (by first | assumption | exact Int32.not_lt.mpr (by assumption))]), f', rfl⟩ (by omega) (by omega)
          · refine gs_X3_43 dX3_judgeGo_80 rfl ?_
            refine v_goto (tgt := 89) dX3_judgeGo_83 (by decide) ?_
            exact v_aret dX3_judgeGo_89 rfl ⟨f' (F 9 k * 7 + t), fun _ _ => Or.inl (by rw [← y1]; exact (hq.2 t hk8.1 hk8.2).1), (by unfold vdGo; rw [if_neg (fun z => z ⟨⟨k0, k1⟩, hk8⟩), if_neg hor9]; first | rw [if_pos (by first | assumption | exact Int32.not_le.mp (by assumption))] | rw [if_neg (by first | assumption | exact Int32.not_lt.mpr (by assumption))]), f', rfl⟩ (by omega) (by omega)
        · have hor9 : 0 < sd σ k 2 ∨ sd σ k 1 = t := by
            rw [← y1, ← y2]
            first
              | exact Or.inl (b_t h40)
              | exact Or.inr (Classical.not_not.mp h48)
              | exact Or.inr h48
          refine gs_X3_49 dX3_judgeGo_51 rfl ?_
          exact v_aret dX3_judgeGo_54 rfl ⟨1000000, fun _ _ => Or.inr hor9, (by unfold vdGo; rw [if_neg (fun z => z ⟨⟨k0, k1⟩, hk8⟩), if_pos hor9]), f1, (hup_id hB1).symm⟩ (by omega) (by omega)
    · refine gs_X3_56 dX3_judgeGo_22 rfl ?_
      exact v_aret dX3_judgeGo_25 rfl ⟨1000000, fun a b => by exfalso; first | exact b_f h8 a | exact b_f h19 b, (by unfold vdGo; rw [if_pos (fun z => by first | exact b_f h8 z.1 | exact b_f h19 z.2)]), f1, (hup_id hB1).symm⟩ (by omega) (by omega)
theorem dX3_tripExists_0 : decode cX3_tripExists 0 = .ok (.aload_n 0, 1) := by decide +kernel
theorem dX3_tripExists_1 : decode cX3_tripExists 1 = .ok (.getfield 12, 3) := by decide +kernel
theorem dX3_tripExists_4 : decode cX3_tripExists 4 = .ok (.getfield 77, 3) := by decide +kernel
theorem dX3_tripExists_7 : decode cX3_tripExists 7 = .ok (.iload_n 1, 1) := by decide +kernel
theorem dX3_tripExists_8 : decode cX3_tripExists 8 = .ok (.aaload, 1) := by decide +kernel
theorem dX3_tripExists_9 : decode cX3_tripExists 9 = .ok (.getfield 86, 3) := by decide +kernel
theorem dX3_tripExists_12 : decode cX3_tripExists 12 = .ok (.istore_n 2, 1) := by decide +kernel
theorem dX3_tripExists_13 : decode cX3_tripExists 13 = .ok (.iconst 0, 1) := by decide +kernel
theorem dX3_tripExists_14 : decode cX3_tripExists 14 = .ok (.istore_n 3, 1) := by decide +kernel
theorem dX3_tripExists_15 : decode cX3_tripExists 15 = .ok (.iload_n 3, 1) := by decide +kernel
theorem dX3_tripExists_16 : decode cX3_tripExists 16 = .ok (.aload_n 0, 1) := by decide +kernel
theorem dX3_tripExists_17 : decode cX3_tripExists 17 = .ok (.getfield 12, 3) := by decide +kernel
theorem dX3_tripExists_20 : decode cX3_tripExists 20 = .ok (.getfield 92, 3) := by decide +kernel
theorem dX3_tripExists_23 : decode cX3_tripExists 23 = .ok (.if_icmp .ge 53, 3) := by decide +kernel
theorem dX3_tripExists_26 : decode cX3_tripExists 26 = .ok (.aload_n 0, 1) := by decide +kernel
theorem dX3_tripExists_27 : decode cX3_tripExists 27 = .ok (.getfield 12, 3) := by decide +kernel
theorem dX3_tripExists_30 : decode cX3_tripExists 30 = .ok (.getfield 95, 3) := by decide +kernel
theorem dX3_tripExists_33 : decode cX3_tripExists 33 = .ok (.iload_n 3, 1) := by decide +kernel
theorem dX3_tripExists_34 : decode cX3_tripExists 34 = .ok (.aaload, 1) := by decide +kernel
theorem dX3_tripExists_35 : decode cX3_tripExists 35 = .ok (.astore 4, 2) := by decide +kernel
theorem dX3_tripExists_37 : decode cX3_tripExists 37 = .ok (.aload 4, 2) := by decide +kernel
theorem dX3_tripExists_39 : decode cX3_tripExists 39 = .ok (.getfield 122, 3) := by decide +kernel
theorem dX3_tripExists_42 : decode cX3_tripExists 42 = .ok (.iload_n 1, 1) := by decide +kernel
theorem dX3_tripExists_43 : decode cX3_tripExists 43 = .ok (.if_icmp .ne 27, 3) := by decide +kernel
theorem dX3_tripExists_46 : decode cX3_tripExists 46 = .ok (.aload_n 0, 1) := by decide +kernel
theorem dX3_tripExists_47 : decode cX3_tripExists 47 = .ok (.getfield 21, 3) := by decide +kernel
theorem dX3_tripExists_50 : decode cX3_tripExists 50 = .ok (.aload_n 0, 1) := by decide +kernel
theorem dX3_tripExists_51 : decode cX3_tripExists 51 = .ok (.getfield 12, 3) := by decide +kernel
theorem dX3_tripExists_54 : decode cX3_tripExists 54 = .ok (.iload_n 2, 1) := by decide +kernel
theorem dX3_tripExists_55 : decode cX3_tripExists 55 = .ok (.aload 4, 2) := by decide +kernel
theorem dX3_tripExists_57 : decode cX3_tripExists 57 = .ok (.getfield 107, 3) := by decide +kernel
theorem dX3_tripExists_60 : decode cX3_tripExists 60 = .ok (.invokevirtual 167, 3) := by decide +kernel
theorem dX3_tripExists_63 : decode cX3_tripExists 63 = .ok (.ldc 171, 2) := by decide +kernel
theorem dX3_tripExists_65 : decode cX3_tripExists 65 = .ok (.if_icmp .lt 5, 3) := by decide +kernel
theorem dX3_tripExists_68 : decode cX3_tripExists 68 = .ok (.iconst 0, 1) := by decide +kernel
theorem dX3_tripExists_69 : decode cX3_tripExists 69 = .ok (.ireturn, 1) := by decide +kernel
theorem dX3_tripExists_70 : decode cX3_tripExists 70 = .ok (.iinc 3 1, 3) := by decide +kernel
theorem dX3_tripExists_73 : decode cX3_tripExists 73 = .ok (.goto (-58), 3) := by decide +kernel
theorem dX3_tripExists_76 : decode cX3_tripExists 76 = .ok (.iconst 1, 1) := by decide +kernel
theorem dX3_tripExists_77 : decode cX3_tripExists 77 = .ok (.ireturn, 1) := by decide +kernel
set_option maxRecDepth 100000 in
set_option maxHeartbeats 4000000 in
theorem c_tripExists {l : Launch} {g : Nat → Nat} {M : LH} (htr : l.stackTraces = false) {kd : Nat → Nat} {r a : Nat} {ad : Nat → Nat} {sl le : Int32 → Nat} {fg tp : Int32} {F : Nat → Int32 → Int32} {σ : Int32 → Int32} (hC : StR kd r M a ad sl le fg tp F σ) {q : Nat → Nat} {D : Nat} (hK : Dk kd D r M a q) {k : Int32} (k0 : 0 ≤ k) (k1 : k < σ 6) : K_X3_tripExists l g 4 0 0 [.ref (q 0), .int k] M (RI (fun v M9 => ((v = 1 ∧ ∀ i, 0 ≤ i → i < σ 7 → lt σ i 6 = 10 + k → ∃ d, Wks σ (sd σ k 1) (lt σ i 1) d) ∨ (v = 0 ∧ ∃ i, 0 ≤ i ∧ i < σ 7 ∧ lt σ i 6 = 10 + k ∧ ∀ d, ¬ Wks σ (sd σ k 1) (lt σ i 1) d)) ∧ ∃ f', M9 = hup M (q 3) (ia 49 f')) nX) := by
  refine Ko_X3_tripExists htr (fun X => ?_)
  have hC0 := hC
  have hK0 := hK
  obtain ⟨hSt, hRo, hSR, hLR, hSl, hLe, hkd, -, ⟨-, hRd, hSd, hLt⟩, hG⟩ := hC
  obtain ⟨hDk, hDs, ⟨f1, hB1⟩, ⟨f2, hB2⟩, hBl, ⟨f3, hB3⟩, hRt, ⟨f4, hB4⟩, hkD, hn34, hDr⟩ := hK
  have hG0 := hG
  obtain ⟨hg1, hg2, hg3, hg4, hg5, hg6, hg7, hg8, hgL, hgS, -⟩ := hG
  have k3 : k < 3 := by clear hgL hgS hRd hSd hLt hLe hSl; lia
  obtain ⟨y0, y1, y2⟩ := hSd k k0 k1
  obtain ⟨u0, u1, u2, u3, u4, u5, u6, u7⟩ := hgS k k0 k1
  have hSk := hSl k k0 k3
  have nbK : ¬ q 0 = q 3 := ne_of_cell hDk hB1 ob_ia
  have nbS : ¬ a = q 3 := ne_of_cell hSt hB1 ob_ia
  have nbD : ¬ q 2 = q 3 := ne_of_cell hDs hB1 ob_ia
  have hkb : ¬ kd (q 3) = r := fun z => hDr (hkD.2.2.1.symm.trans z)
  have nbR : ¬ ad 2 = q 3 := fun z => hkb (by rw [← z]; exact hkd.2.2.2.1)
  have key : ∀ i, 0 ≤ i → i ≤ σ 7 → ∀ (f' : Int32 → Int32) (z4 : Option Value), (∀ j, 0 ≤ j → j < i → lt σ j 6 = 10 + k → ∃ d, Wks σ (sd σ k 1) (lt σ j 1) d) → V l g yX3_tripExists cX3_tripExists ((some .boolean)) [] 4 0 0 (RI (fun v M9 => ((v = 1 ∧ ∀ i, 0 ≤ i → i < σ 7 → lt σ i 6 = 10 + k → ∃ d, Wks σ (sd σ k 1) (lt σ i 1) d) ∨ (v = 0 ∧ ∃ i, 0 ≤ i ∧ i < σ 7 ∧ lt σ i 6 = 10 + k ∧ ∀ d, ¬ Wks σ (sd σ k 1) (lt σ i 1) d)) ∧ ∃ f', M9 = hup M (q 3) (ia 49 f')) nX) X (hup M (q 3) (ia 49 f')) 0 0 15 [some (.ref (q 0)), some (.int k), some (.int (sd σ k 1)), some (.int i), z4] [] := by
    refine up_ind _ (fun i h0 h1 ih f' z4 hv => ?_)
    have hC1 := StR.kept hC0 (fun z => hkb z.symm) (Frm.up (kd := kd) (M := M) (e := ia 49 f') (rfl : kd (q 3) = kd (q 3)))
    refine v_iload_n dX3_tripExists_15 rfl rfl ?_
    refine v_aload_n dX3_tripExists_16 rfl rfl ?_
    refine gf_X3_12 dX3_tripExists_17 rfl ((hup_n nbK).trans hDk) ?_
    refine gf_X3_92 dX3_tripExists_20 rfl ((hup_n nbS).trans hSt) ?_
    refine v_icmp_ge (tgt := 76) dX3_tripExists_23 (by decide) (fun h23 => ?_) (fun h23 => ?_)
    · have hi : i = σ 7 := by clear hgL hgS hRd hSd hLt hLe hSl ih hv; lia
      subst hi
      refine v_iconst (v := 1) dX3_tripExists_76 (by decide) ?_
      exact v_zret dX3_tripExists_77 rfl (by first | rfl | assumption) ⟨Or.inl ⟨rfl, hv⟩, f', rfl⟩ (by omega) (by omega)
    · have hi : i < σ 7 := by clear hgL hgS hRd hSd hLt hLe hSl ih hv; lia
      have hi12 : i < 12 := by clear hgL hgS hRd hSd hLt hLe hSl ih hv; lia
      have hLi := (hup_n (M := M) (e := ia 49 f') (ne_of_cell (hLe i h0 hi12) hB1 ob_ia)).trans (hLe i h0 hi12)
      obtain ⟨q0, q1, q2, q3, q4, q5, q6, q7⟩ := hLt i h0 hi
      obtain ⟨z1, z2, z3, zz4, z5, z6, z7, z8, z9, z10, z11, z12, z13, z14⟩ := hgL i h0 hi
      have hw9 : F 6 i = k ↔ lt σ i 6 = 10 + k := by
        clear hgL hgS hRd hSd hLt hLe hSl hC0 hK0 hSt hRo hSR hLR hkd hDk hDs hB1 hB2 hBl hB3 hRt hB4 hkD hG0 hDr ih hv hLi hC1 hSk
        grind
      have d0 : 0 ≤ F 1 i := by rw [q1]; exact z1
      have d1 : F 1 i < σ 5 := by rw [q1]; exact z2
      refine v_aload_n dX3_tripExists_26 rfl rfl ?_
      refine gf_X3_12 dX3_tripExists_27 rfl ((hup_n nbK).trans hDk) ?_
      refine gf_X3_95 dX3_tripExists_30 rfl ((hup_n nbS).trans hSt) ?_
      refine v_iload_n dX3_tripExists_33 rfl rfl ?_
      refine v_aald1 dX3_tripExists_34 ((hup_n nbR).trans hLR) h0 hi12 rfl ?_
      refine v_astore_4 dX3_tripExists_35 ?_
      refine v_aload dX3_tripExists_37 rfl ?_
      refine gf_X3_122 dX3_tripExists_39 rfl hLi ?_
      refine v_iload_n dX3_tripExists_42 rfl rfl ?_
      refine v_icmp_ne (tgt := 70) dX3_tripExists_43 (by decide) (fun h43 => ?_) (fun h43 => ?_)
      · refine v_iinc_3 dX3_tripExists_70 rfl ?_
        refine v_goto (tgt := 15) dX3_tripExists_73 (by decide) ?_
        refine ih hi _ _ (fun j j0 j1 hj => ?_)
        by_cases e : j = i
        · rw [e] at hj ⊢
          first
            | exact absurd (hw9.mpr hj) (by assumption)
            | (rcases hw with ⟨-, w⟩ | ⟨w, -⟩
               · rw [q1] at w
                 exact w
               · exact absurd w (Int32.not_le.mpr (by assumption)))
        · exact hv j j0 (by clear hgL hgS hRd hSd hLt hLe hSl ih hv; lia) hj
      · refine v_aload_n dX3_tripExists_46 rfl rfl ?_
        refine gf_X3_21 dX3_tripExists_47 rfl ((hup_n nbK).trans hDk) ?_
        refine v_aload_n dX3_tripExists_50 rfl rfl ?_
        refine gf_X3_12 dX3_tripExists_51 rfl ((hup_n nbK).trans hDk) ?_
        refine v_iload_n dX3_tripExists_54 rfl rfl ?_
        refine v_aload dX3_tripExists_55 rfl ?_
        refine gf_X3_107 dX3_tripExists_57 rfl hLi ?_
        refine k_X3_167 dX3_tripExists_60 rfl (c_nearestWay htr hC1 ((hup_n nbD).trans hDs) hup_s hkb u2 u3 d0 d1) ((hup_n nbD).trans hDs) (Nat.le_of_ble_eq_true rfl) (by omega) (by omega) (Nat.le_of_ble_eq_true rfl) (fun r60 M9 h9 => ?_) (fun _ _ h9 => h9.elim)
        obtain ⟨f2, hq, rfl, e9⟩ := h9
        rw [hup_hup] at e9
        subst M9
        have hw := (hq.2 (F 1 i) d0 d1).1.way
        refine lc_X3_171 dX3_tripExists_63 rfl ?_
        refine v_icmp_lt (tgt := 70) dX3_tripExists_65 (by decide) (fun h65 => ?_) (fun h65 => ?_)
        · refine v_iinc_3 dX3_tripExists_70 rfl ?_
          refine v_goto (tgt := 15) dX3_tripExists_73 (by decide) ?_
          refine ih hi _ _ (fun j j0 j1 hj => ?_)
          by_cases e : j = i
          · rw [e] at hj ⊢
            first
              | exact absurd (hw9.mpr hj) (by assumption)
              | (rcases hw with ⟨-, w⟩ | ⟨w, -⟩
                 · rw [q1] at w
                   exact w
                 · exact absurd w (Int32.not_le.mpr (by assumption)))
          · exact hv j j0 (by clear hgL hgS hRd hSd hLt hLe hSl ih hv; lia) hj
        · refine v_iconst (v := 0) dX3_tripExists_68 (by decide) ?_
          exact v_zret dX3_tripExists_69 rfl (by first | rfl | assumption) ⟨Or.inr ⟨rfl, i, h0, hi, hw9.mp (by first | assumption | exact Classical.not_not.mp (by assumption)), hw.elim (fun w => absurd w.1 (by first | assumption | exact Int32.not_lt.mpr (by assumption))) (fun w => by have w2 := w.2; rw [q1] at w2; exact w2)⟩, _, rfl⟩ (by omega) (by omega)
  refine v_aload_n dX3_tripExists_0 rfl rfl ?_
  refine gf_X3_12 dX3_tripExists_1 rfl hDk ?_
  refine gf_X3_77 dX3_tripExists_4 rfl hSt ?_
  refine v_iload_n dX3_tripExists_7 rfl rfl ?_
  refine v_aald1 dX3_tripExists_8 hSR k0 k3 rfl ?_
  refine gf_X3_86 dX3_tripExists_9 rfl hSk ?_
  rw [y1]
  refine v_istore_2 dX3_tripExists_12 ?_
  refine v_iconst (v := 0) dX3_tripExists_13 (by decide) ?_
  refine v_istore_3 dX3_tripExists_14 ?_
  have hk0 := key 0 (by lia) hg5 f1 none (fun j a b => absurd b (by lia))
  rw [hup_id hB1] at hk0
  exact hk0

theorem dX3_judgeTrip_0 : decode cX3_judgeTrip 0 = .ok (.aload_n 0, 1) := by decide +kernel
theorem dX3_judgeTrip_1 : decode cX3_judgeTrip 1 = .ok (.getfield 12, 3) := by decide +kernel
theorem dX3_judgeTrip_4 : decode cX3_judgeTrip 4 = .ok (.iload_n 1, 1) := by decide +kernel
theorem dX3_judgeTrip_5 : decode cX3_judgeTrip 5 = .ok (.invokevirtual 126, 3) := by decide +kernel
theorem dX3_judgeTrip_8 : decode cX3_judgeTrip 8 = .ok (.ifCond .ne 7, 3) := by decide +kernel
theorem dX3_judgeTrip_11 : decode cX3_judgeTrip 11 = .ok (.getstatic 56, 3) := by decide +kernel
theorem dX3_judgeTrip_14 : decode cX3_judgeTrip 14 = .ok (.areturn, 1) := by decide +kernel
theorem dX3_judgeTrip_15 : decode cX3_judgeTrip 15 = .ok (.aload_n 0, 1) := by decide +kernel
theorem dX3_judgeTrip_16 : decode cX3_judgeTrip 16 = .ok (.iload_n 1, 1) := by decide +kernel
theorem dX3_judgeTrip_17 : decode cX3_judgeTrip 17 = .ok (.invokevirtual 204, 3) := by decide +kernel
theorem dX3_judgeTrip_20 : decode cX3_judgeTrip 20 = .ok (.ifCond .eq 9, 3) := by decide +kernel
theorem dX3_judgeTrip_23 : decode cX3_judgeTrip 23 = .ok (.getstatic 43, 3) := by decide +kernel
theorem dX3_judgeTrip_26 : decode cX3_judgeTrip 26 = .ok (.goto 6, 3) := by decide +kernel
theorem dX3_judgeTrip_29 : decode cX3_judgeTrip 29 = .ok (.getstatic 133, 3) := by decide +kernel
theorem dX3_judgeTrip_32 : decode cX3_judgeTrip 32 = .ok (.areturn, 1) := by decide +kernel
set_option maxRecDepth 100000 in
set_option maxHeartbeats 4000000 in
theorem c_judgeTrip {l : Launch} {g : Nat → Nat} {M : LH} (htr : l.stackTraces = false) {kd : Nat → Nat} {r a : Nat} {ad : Nat → Nat} {sl le : Int32 → Nat} {fg tp : Int32} {F : Nat → Int32 → Int32} {σ : Int32 → Int32} (hC : StR kd r M a ad sl le fg tp F σ) {q : Nat → Nat} {D : Nat} (hK : Dk kd D r M a q) (k : Int32) : K_X3_judgeTrip l g 5 0 0 [.ref (q 0), .int k] M (RA (fun v M9 => ((¬ hsl σ k ∧ v = g 1) ∨ (hsl σ k ∧ ((v = g 0 ∧ ∀ i, 0 ≤ i → i < σ 7 → lt σ i 6 = 10 + k → ∃ d, Wks σ (sd σ k 1) (lt σ i 1) d) ∨ (v = g 3 ∧ ∃ i, 0 ≤ i ∧ i < σ 7 ∧ lt σ i 6 = 10 + k ∧ ∀ d, ¬ Wks σ (sd σ k 1) (lt σ i 1) d)))) ∧ ∃ f', M9 = hup M (q 3) (ia 49 f')) nX) := by
  refine Ko_X3_judgeTrip htr (fun X => ?_)
  have hC0 := hC
  have hK0 := hK
  obtain ⟨hSt, hRo, hSR, hLR, hSl, hLe, hkd, -, ⟨-, hRd, hSd, hLt⟩, hG⟩ := hC
  obtain ⟨hDk, hDs, ⟨f1, hB1⟩, ⟨f2, hB2⟩, hBl, ⟨f3, hB3⟩, hRt, ⟨f4, hB4⟩, hkD, hn34, hDr⟩ := hK
  have hG0 := hG
  obtain ⟨hg1, hg2, hg3, hg4, hg5, hg6, hg7, hg8, hgL, hgS, -⟩ := hG
  refine v_aload_n dX3_judgeTrip_0 rfl rfl ?_
  refine gf_X3_12 dX3_judgeTrip_1 rfl hDk ?_
  refine v_iload_n dX3_judgeTrip_4 rfl rfl ?_
  refine k_X3_126 dX3_judgeTrip_5 rfl (c_hasSledge htr hC0 k) hSt (Nat.le_of_ble_eq_true rfl) (by omega) (by omega) (Nat.le_of_ble_eq_true rfl) (fun r5 M9 h9 => ?_) (fun _ _ h9 => h9.elim)
  obtain ⟨rfl, e9⟩ := h9
  subst M9
  refine v_if_ne (tgt := 15) dX3_judgeTrip_8 (by decide) (fun h8 => ?_) (fun h8 => ?_)
  · obtain ⟨k0, k1⟩ := b_t h8
    refine v_aload_n dX3_judgeTrip_15 rfl rfl ?_
    refine v_iload_n dX3_judgeTrip_16 rfl rfl ?_
    refine k_X3_204 dX3_judgeTrip_17 rfl (c_tripExists htr hC0 hK0 k0 k1) hDk (Nat.le_of_ble_eq_true rfl) (by omega) (by omega) (Nat.le_of_ble_eq_true rfl) (fun r17 M9 h9 => ?_) (fun _ _ h9 => h9.elim)
    obtain ⟨hh, f', e9⟩ := h9
    subst M9
    refine v_if_eq (tgt := 29) dX3_judgeTrip_20 (by decide) (fun h20 => ?_) (fun h20 => ?_)
    · refine gs_X3_133 dX3_judgeTrip_29 rfl ?_
      exact v_aret dX3_judgeTrip_32 rfl ⟨Or.inr ⟨⟨k0, k1⟩, (by rcases hh with ⟨w1, w2⟩ | ⟨w1, w2⟩ <;> first | (rw [w1] at h20; exfalso; revert h20; decide) | exact Or.inl ⟨rfl, w2⟩ | exact Or.inr ⟨rfl, w2⟩)⟩, f', rfl⟩ (by omega) (by omega)
    · refine gs_X3_43 dX3_judgeTrip_23 rfl ?_
      refine v_goto (tgt := 32) dX3_judgeTrip_26 (by decide) ?_
      exact v_aret dX3_judgeTrip_32 rfl ⟨Or.inr ⟨⟨k0, k1⟩, (by rcases hh with ⟨w1, w2⟩ | ⟨w1, w2⟩ <;> first | (rw [w1] at h20; exfalso; revert h20; decide) | exact Or.inl ⟨rfl, w2⟩ | exact Or.inr ⟨rfl, w2⟩)⟩, f', rfl⟩ (by omega) (by omega)
  · refine gs_X3_56 dX3_judgeTrip_11 rfl ?_
    exact v_aret dX3_judgeTrip_14 rfl ⟨Or.inl ⟨b_f h8, rfl⟩, f1, (hup_id hB1).symm⟩ (by omega) (by omega)
