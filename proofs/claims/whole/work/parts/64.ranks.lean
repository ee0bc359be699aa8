/-! ===== the reference: ranks; is it consistent ===== -/
theorem bef_1 {σ : Int32 → Int32} {o j : Int32} (h1 : 0 ≤ lt σ o 3) (h2 : lt σ o 3 ≤ 99) (h3 : 0 ≤ lt σ j 3) (h4 : lt σ j 3 ≤ 99) (hd : ¬ lt σ o 3 - lt σ j 3 = 0) : bef σ o j = true ↔ 0 < lt σ o 3 - lt σ j 3 := by
  unfold bef
  rw [if_neg (show ¬ lt σ o 3 = lt σ j 3 from fun z => hd (by rw [z]; exact Int32.sub_self _))]
  rw [decide_eq_true_eq]
  generalize lt σ o 3 = x at *
  generalize lt σ j 3 = y at *
  constructor <;> intro q <;> lia
theorem bef_2 {σ : Int32 → Int32} {o j : Int32} (h1 : 0 ≤ lt σ o 3) (h2 : lt σ o 3 ≤ 99) (h3 : 0 ≤ lt σ j 3) (h4 : lt σ j 3 ≤ 99) (w1 : 1 ≤ lt σ o 2) (w2 : lt σ o 2 ≤ 9) (w3 : 1 ≤ lt σ j 2) (w4 : lt σ j 2 ≤ 9) (hd : lt σ o 3 - lt σ j 3 = 0) : bef σ o j = true ↔ (0 < lt σ j 2 - lt σ o 2 ∨ (lt σ j 2 - lt σ o 2 = 0 ∧ o < j)) := by
  unfold bef
  have e : lt σ o 3 = lt σ j 3 := by
    generalize lt σ o 3 = x at *
    generalize lt σ j 3 = y at *
    lia
  rw [if_pos e]
  clear h1 h2 h3 h4 hd e
  generalize lt σ o 2 = x at *
  generalize lt σ j 2 = y at *
  by_cases q : x = y
  · rw [if_pos q, decide_eq_true_eq]
    constructor
    · intro z
      exact Or.inr ⟨by rw [q]; exact Int32.sub_self _, z⟩
    · rintro (z | ⟨z, z2⟩)
      · exfalso
        lia
      · exact z2
  · rw [if_neg q, decide_eq_true_eq]
    constructor
    · intro z
      exact Or.inl (by lia)
    · rintro (z | ⟨z, z2⟩)
      · lia
      · exfalso
        exact q (by lia)
theorem dX12_letterByFee_0 : decode cX12_letterByFee 0 = .ok (.aload_n 0, 1) := by decide +kernel
theorem dX12_letterByFee_1 : decode cX12_letterByFee 1 = .ok (.iconst 0, 1) := by decide +kernel
theorem dX12_letterByFee_2 : decode cX12_letterByFee 2 = .ok (.putfield 56, 3) := by decide +kernel
theorem dX12_letterByFee_5 : decode cX12_letterByFee 5 = .ok (.iconst 0, 1) := by decide +kernel
theorem dX12_letterByFee_6 : decode cX12_letterByFee 6 = .ok (.istore_n 2, 1) := by decide +kernel
theorem dX12_letterByFee_7 : decode cX12_letterByFee 7 = .ok (.iload_n 2, 1) := by decide +kernel
theorem dX12_letterByFee_8 : decode cX12_letterByFee 8 = .ok (.aload_n 0, 1) := by decide +kernel
theorem dX12_letterByFee_9 : decode cX12_letterByFee 9 = .ok (.getfield 16, 3) := by decide +kernel
theorem dX12_letterByFee_12 : decode cX12_letterByFee 12 = .ok (.bipush 7, 2) := by decide +kernel
theorem dX12_letterByFee_14 : decode cX12_letterByFee 14 = .ok (.iaload, 1) := by decide +kernel
theorem dX12_letterByFee_15 : decode cX12_letterByFee 15 = .ok (.if_icmp .ge 130, 3) := by decide +kernel
theorem dX12_letterByFee_18 : decode cX12_letterByFee 18 = .ok (.iconst 0, 1) := by decide +kernel
theorem dX12_letterByFee_19 : decode cX12_letterByFee 19 = .ok (.istore_n 3, 1) := by decide +kernel
theorem dX12_letterByFee_20 : decode cX12_letterByFee 20 = .ok (.iconst 0, 1) := by decide +kernel
theorem dX12_letterByFee_21 : decode cX12_letterByFee 21 = .ok (.istore 4, 2) := by decide +kernel
theorem dX12_letterByFee_23 : decode cX12_letterByFee 23 = .ok (.iload 4, 2) := by decide +kernel
theorem dX12_letterByFee_25 : decode cX12_letterByFee 25 = .ok (.aload_n 0, 1) := by decide +kernel
theorem dX12_letterByFee_26 : decode cX12_letterByFee 26 = .ok (.getfield 16, 3) := by decide +kernel
theorem dX12_letterByFee_29 : decode cX12_letterByFee 29 = .ok (.bipush 7, 2) := by decide +kernel
theorem dX12_letterByFee_31 : decode cX12_letterByFee 31 = .ok (.iaload, 1) := by decide +kernel
theorem dX12_letterByFee_32 : decode cX12_letterByFee 32 = .ok (.if_icmp .ge 91, 3) := by decide +kernel
theorem dX12_letterByFee_35 : decode cX12_letterByFee 35 = .ok (.aload_n 0, 1) := by decide +kernel
theorem dX12_letterByFee_36 : decode cX12_letterByFee 36 = .ok (.getfield 16, 3) := by decide +kernel
theorem dX12_letterByFee_39 : decode cX12_letterByFee 39 = .ok (.iload 4, 2) := by decide +kernel
theorem dX12_letterByFee_41 : decode cX12_letterByFee 41 = .ok (.iconst 3, 1) := by decide +kernel
theorem dX12_letterByFee_42 : decode cX12_letterByFee 42 = .ok (.invokestatic 70, 3) := by decide +kernel
theorem dX12_letterByFee_45 : decode cX12_letterByFee 45 = .ok (.iaload, 1) := by decide +kernel
theorem dX12_letterByFee_46 : decode cX12_letterByFee 46 = .ok (.aload_n 0, 1) := by decide +kernel
theorem dX12_letterByFee_47 : decode cX12_letterByFee 47 = .ok (.getfield 16, 3) := by decide +kernel
theorem dX12_letterByFee_50 : decode cX12_letterByFee 50 = .ok (.iload_n 2, 1) := by decide +kernel
theorem dX12_letterByFee_51 : decode cX12_letterByFee 51 = .ok (.iconst 3, 1) := by decide +kernel
theorem dX12_letterByFee_52 : decode cX12_letterByFee 52 = .ok (.invokestatic 70, 3) := by decide +kernel
theorem dX12_letterByFee_55 : decode cX12_letterByFee 55 = .ok (.iaload, 1) := by decide +kernel
theorem dX12_letterByFee_56 : decode cX12_letterByFee 56 = .ok (.isub, 1) := by decide +kernel
theorem dX12_letterByFee_57 : decode cX12_letterByFee 57 = .ok (.istore 5, 2) := by decide +kernel
theorem dX12_letterByFee_59 : decode cX12_letterByFee 59 = .ok (.iload 5, 2) := by decide +kernel
theorem dX12_letterByFee_61 : decode cX12_letterByFee 61 = .ok (.ifCond .eq 8, 3) := by decide +kernel
theorem dX12_letterByFee_64 : decode cX12_letterByFee 64 = .ok (.iload 5, 2) := by decide +kernel
theorem dX12_letterByFee_66 : decode cX12_letterByFee 66 = .ok (.goto 25, 3) := by decide +kernel
theorem dX12_letterByFee_69 : decode cX12_letterByFee 69 = .ok (.aload_n 0, 1) := by decide +kernel
theorem dX12_letterByFee_70 : decode cX12_letterByFee 70 = .ok (.getfield 16, 3) := by decide +kernel
theorem dX12_letterByFee_73 : decode cX12_letterByFee 73 = .ok (.iload_n 2, 1) := by decide +kernel
theorem dX12_letterByFee_74 : decode cX12_letterByFee 74 = .ok (.iconst 2, 1) := by decide +kernel
theorem dX12_letterByFee_75 : decode cX12_letterByFee 75 = .ok (.invokestatic 70, 3) := by decide +kernel
theorem dX12_letterByFee_78 : decode cX12_letterByFee 78 = .ok (.iaload, 1) := by decide +kernel
theorem dX12_letterByFee_79 : decode cX12_letterByFee 79 = .ok (.aload_n 0, 1) := by decide +kernel
theorem dX12_letterByFee_80 : decode cX12_letterByFee 80 = .ok (.getfield 16, 3) := by decide +kernel
theorem dX12_letterByFee_83 : decode cX12_letterByFee 83 = .ok (.iload 4, 2) := by decide +kernel
theorem dX12_letterByFee_85 : decode cX12_letterByFee 85 = .ok (.iconst 2, 1) := by decide +kernel
theorem dX12_letterByFee_86 : decode cX12_letterByFee 86 = .ok (.invokestatic 70, 3) := by decide +kernel
theorem dX12_letterByFee_89 : decode cX12_letterByFee 89 = .ok (.iaload, 1) := by decide +kernel
theorem dX12_letterByFee_90 : decode cX12_letterByFee 90 = .ok (.isub, 1) := by decide +kernel
theorem dX12_letterByFee_91 : decode cX12_letterByFee 91 = .ok (.istore 5, 2) := by decide +kernel
theorem dX12_letterByFee_93 : decode cX12_letterByFee 93 = .ok (.iload_n 3, 1) := by decide +kernel
theorem dX12_letterByFee_94 : decode cX12_letterByFee 94 = .ok (.iload 5, 2) := by decide +kernel
theorem dX12_letterByFee_96 : decode cX12_letterByFee 96 = .ok (.ifCond .gt 14, 3) := by decide +kernel
theorem dX12_letterByFee_99 : decode cX12_letterByFee 99 = .ok (.iload 5, 2) := by decide +kernel
theorem dX12_letterByFee_101 : decode cX12_letterByFee 101 = .ok (.ifCond .ne 13, 3) := by decide +kernel
theorem dX12_letterByFee_104 : decode cX12_letterByFee 104 = .ok (.iload 4, 2) := by decide +kernel
theorem dX12_letterByFee_106 : decode cX12_letterByFee 106 = .ok (.iload_n 2, 1) := by decide +kernel
theorem dX12_letterByFee_107 : decode cX12_letterByFee 107 = .ok (.if_icmp .ge 7, 3) := by decide +kernel
theorem dX12_letterByFee_110 : decode cX12_letterByFee 110 = .ok (.iconst 1, 1) := by decide +kernel
theorem dX12_letterByFee_111 : decode cX12_letterByFee 111 = .ok (.goto 4, 3) := by decide +kernel
theorem dX12_letterByFee_114 : decode cX12_letterByFee 114 = .ok (.iconst 0, 1) := by decide +kernel
theorem dX12_letterByFee_115 : decode cX12_letterByFee 115 = .ok (.iadd, 1) := by decide +kernel
theorem dX12_letterByFee_116 : decode cX12_letterByFee 116 = .ok (.istore_n 3, 1) := by decide +kernel
theorem dX12_letterByFee_117 : decode cX12_letterByFee 117 = .ok (.iinc 4 1, 3) := by decide +kernel
theorem dX12_letterByFee_120 : decode cX12_letterByFee 120 = .ok (.goto (-97), 3) := by decide +kernel
theorem dX12_letterByFee_123 : decode cX12_letterByFee 123 = .ok (.iload_n 3, 1) := by decide +kernel
theorem dX12_letterByFee_124 : decode cX12_letterByFee 124 = .ok (.iload_n 1, 1) := by decide +kernel
theorem dX12_letterByFee_125 : decode cX12_letterByFee 125 = .ok (.if_icmp .ne 14, 3) := by decide +kernel
theorem dX12_letterByFee_128 : decode cX12_letterByFee 128 = .ok (.aload_n 0, 1) := by decide +kernel
theorem dX12_letterByFee_129 : decode cX12_letterByFee 129 = .ok (.getfield 16, 3) := by decide +kernel
theorem dX12_letterByFee_132 : decode cX12_letterByFee 132 = .ok (.iload_n 2, 1) := by decide +kernel
theorem dX12_letterByFee_133 : decode cX12_letterByFee 133 = .ok (.iconst 0, 1) := by decide +kernel
theorem dX12_letterByFee_134 : decode cX12_letterByFee 134 = .ok (.invokestatic 70, 3) := by decide +kernel
theorem dX12_letterByFee_137 : decode cX12_letterByFee 137 = .ok (.iaload, 1) := by decide +kernel
theorem dX12_letterByFee_138 : decode cX12_letterByFee 138 = .ok (.ireturn, 1) := by decide +kernel
theorem dX12_letterByFee_139 : decode cX12_letterByFee 139 = .ok (.iinc 2 1, 3) := by decide +kernel
theorem dX12_letterByFee_142 : decode cX12_letterByFee 142 = .ok (.goto (-135), 3) := by decide +kernel
theorem dX12_letterByFee_145 : decode cX12_letterByFee 145 = .ok (.aload_n 0, 1) := by decide +kernel
theorem dX12_letterByFee_146 : decode cX12_letterByFee 146 = .ok (.iconst 1, 1) := by decide +kernel
theorem dX12_letterByFee_147 : decode cX12_letterByFee 147 = .ok (.invokevirtual 74, 3) := by decide +kernel
theorem dX12_letterByFee_150 : decode cX12_letterByFee 150 = .ok (.ireturn, 1) := by decide +kernel
set_option maxRecDepth 100000 in
set_option maxHeartbeats 4000000 in
theorem r_letterByFee {l : Launch} {g : Nat → Nat} {M : LH} (htr : l.stackTraces = false) {kd : Nat → Nat} {r m : Nat} {w : Nat → Nat} {t ch ea fl sv bf tn he en ln wr dg : Int32} {v b4 sa pa fr th bs tx li lf to : Int32 → Int32} (hC : Md kd r M m w t ch ea fl sv bf tn he en ln wr dg v b4 sa pa fr th bs tx li lf to) (hG : Good v) (rk : Int32) : K_X12_letterByFee l g 1 0 0 [.ref m, .int rk] M (RI (fun x M9 => ((¬ findR v rk = -1 ∧ x = lt v (findR v rk) 0 ∧ Md kd r M9 m w 0 ch ea fl sv bf tn he en ln wr dg v b4 sa pa fr th bs tx li lf to) ∨ (findR v rk = -1 ∧ x = 0 ∧ Md kd r M9 m w 1 ch ea fl sv bf tn he en ln wr dg v b4 sa pa fr th bs tx li lf to)) ∧ Frm kd r M M9) nX) := by
  refine Ko_X12_letterByFee htr (fun X => ?_)
  obtain ⟨hMo, hw5, hw6, hw7, hw8, hw9, hw10, hw11, hw13, hw14, hw15, hw16, hw17, hw18, -⟩ := _root_.id hC
  have hF : Frm kd r M M := Frm.rf
  obtain ⟨hg1, hg2, hg3, hg4, hg5, hg6, hg7, hg8, hgL, hgS, -⟩ := _root_.id hG
  have key : ∀ i, 0 ≤ i → i ≤ v 7 → ∀ (M1 : LH) (p3 p4 p5 : Option Value), findR v rk = fstU (fun i => decide (rankU v i = rk)) (v 7) i → Md kd r M1 m w 0 ch ea fl sv bf tn he en ln wr dg v b4 sa pa fr th bs tx li lf to → Frm kd r M M1 → V l g yX12_letterByFee cX12_letterByFee ((some .int)) [] 1 0 0 (RI (fun x M9 => ((¬ findR v rk = -1 ∧ x = lt v (findR v rk) 0 ∧ Md kd r M9 m w 0 ch ea fl sv bf tn he en ln wr dg v b4 sa pa fr th bs tx li lf to) ∨ (findR v rk = -1 ∧ x = 0 ∧ Md kd r M9 m w 1 ch ea fl sv bf tn he en ln wr dg v b4 sa pa fr th bs tx li lf to)) ∧ Frm kd r M M9) nX) X M1 0 0 7 [some (.ref m), some (.int rk), some (.int i), p3, p4, p5] [] := by
    clear hgS hC hMo hw5 hw6 hw7 hw8 hw9 hw10 hw11 hw13 hw14 hw15 hw16 hw17 hw18 hF
    refine up_ind _ (fun i h0 h1 ih M1 p3 p4 p5 hs hC hF => ?_)
    obtain ⟨hMo, hw5, hw6, hw7, hw8, hw9, hw10, hw11, hw13, hw14, hw15, hw16, hw17, hw18, -⟩ := _root_.id hC
    replace ih := fun (hi : i < v 7) (p3 p4 p5 : Option Value) hs => ih hi M1 p3 p4 p5 hs hC hF
    refine v_iload_n dX12_letterByFee_7 rfl rfl ?_
    refine v_aload_n dX12_letterByFee_8 rfl rfl ?_
    refine gf_X12_16 dX12_letterByFee_9 rfl hMo ?_
    refine v_bipush (v := (7)) dX12_letterByFee_12 (by decide) ?_
    refine v_iald dX12_letterByFee_14 hw5 (by lia) (by lia) ?_
    refine v_icmp_ge (tgt := 145) dX12_letterByFee_15 (by decide) (fun h15 => ?_) (fun h15 => ?_)
    · have hi : i = v 7 := by clear ih hs hgL hC hF hMo hw5 hw6 hw7 hw8 hw9 hw10 hw11 hw13 hw14 hw15 hw16 hw17 hw18; lia
      subst hi
      have hn : findR v rk = -1 := hs.trans (fstU_n _ _)
      refine v_aload_n dX12_letterByFee_145 rfl rfl ?_
      refine v_iconst (v := 1) dX12_letterByFee_146 (by decide) ?_
      refine k_X12_74 dX12_letterByFee_147 rfl (r_fail htr hC 1) hMo (Nat.le_of_ble_eq_true rfl) (by omega) (by omega) (Nat.le_of_ble_eq_true rfl) (fun r147 M9 h9 => ?_) (fun _ _ h9 => h9.elim)
      obtain ⟨rfl, hC, hF9⟩ := h9
      have hF := Frm.tr hF hF9
      exact v_iret dX12_letterByFee_150 rfl ⟨Or.inr ⟨hn, rfl, hC⟩, hF⟩ (by omega) (by omega)
    · have hi : i < v 7 := by clear ih hs hgL hC hF hMo hw5 hw6 hw7 hw8 hw9 hw10 hw11 hw13 hw14 hw15 hw16 hw17 hw18; lia
      have hi12 : i < 12 := by clear ih hs hgL hC hF hMo hw5 hw6 hw7 hw8 hw9 hw10 hw11 hw13 hw14 hw15 hw16 hw17 hw18; lia
      obtain ⟨z1, z2, z3, z4, z5, z6, -⟩ := hgL i h0 hi
      refine v_iconst (v := 0) dX12_letterByFee_18 (by decide) ?_
      refine v_istore_3 dX12_letterByFee_19 ?_
      refine v_iconst (v := 0) dX12_letterByFee_20 (by decide) ?_
      refine v_istore_4 dX12_letterByFee_21 ?_
      have key2 : ∀ j, 0 ≤ j → j ≤ v 7 → ∀ (s : Int32) (p5 : Option Value), s = sumU (fun o => if bef v o i = true then 1 else 0) j → V l g yX12_letterByFee cX12_letterByFee ((some .int)) [] 1 0 0 (RI (fun x M9 => ((¬ findR v rk = -1 ∧ x = lt v (findR v rk) 0 ∧ Md kd r M9 m w 0 ch ea fl sv bf tn he en ln wr dg v b4 sa pa fr th bs tx li lf to) ∨ (findR v rk = -1 ∧ x = 0 ∧ Md kd r M9 m w 1 ch ea fl sv bf tn he en ln wr dg v b4 sa pa fr th bs tx li lf to)) ∧ Frm kd r M M9) nX) X M1 0 0 23 [some (.ref m), some (.int rk), some (.int i), some (.int s), some (.int j), p5] [] := by
        refine up_ind _ (fun j j0 j1 ih2 s p5 hs2 => ?_)
        refine v_iload dX12_letterByFee_23 rfl ?_
        refine v_aload_n dX12_letterByFee_25 rfl rfl ?_
        refine gf_X12_16 dX12_letterByFee_26 rfl hMo ?_
        refine v_bipush (v := (7)) dX12_letterByFee_29 (by decide) ?_
        refine v_iald dX12_letterByFee_31 hw5 (by lia) (by lia) ?_
        refine v_icmp_ge (tgt := 123) dX12_letterByFee_32 (by decide) (fun h32 => ?_) (fun h32 => ?_)
        · have hj : j = v 7 := by clear ih ih2 hs hs2 hgL hC hF hMo hw5 hw6 hw7 hw8 hw9 hw10 hw11 hw13 hw14 hw15 hw16 hw17 hw18; lia
          subst hj
          refine v_iload_n dX12_letterByFee_123 rfl rfl ?_
          refine v_iload_n dX12_letterByFee_124 rfl rfl ?_
          refine v_icmp_ne (tgt := 139) dX12_letterByFee_125 (by decide) (fun h125 => ?_) (fun h125 => ?_)
          · refine v_iinc_2 dX12_letterByFee_139 rfl ?_
            refine v_goto (tgt := 7) dX12_letterByFee_142 (by decide) ?_
            exact ih hi _ _ _ (hs.trans ((fstU_1 h0 hi).trans (if_neg (by rw [decide_eq_true_eq]; intro z; exact absurd (hs2.trans z) (by assumption)))))
          · refine v_aload_n dX12_letterByFee_128 rfl rfl ?_
            refine gf_X12_16 dX12_letterByFee_129 rfl hMo ?_
            refine v_iload_n dX12_letterByFee_132 rfl rfl ?_
            refine v_iconst (v := 0) dX12_letterByFee_133 (by decide) ?_
            refine k_X12_70 dX12_letterByFee_134 rfl (r_of htr i 0) (Nat.le_of_ble_eq_true rfl) (by omega) (by omega) (Nat.le_of_ble_eq_true rfl) (fun r134 M9 h9 => ?_) (fun _ _ h9 => h9.elim)
            obtain ⟨rfl, e9⟩ := h9
            subst M9
            refine v_iald dX12_letterByFee_137 hw5 (by clear ih ih2 hs hs2 hgL hC hF hMo hw5 hw6 hw7 hw8 hw9 hw10 hw11 hw13 hw14 hw15 hw16 hw17 hw18; lia) (by clear ih ih2 hs hs2 hgL hC hF hMo hw5 hw6 hw7 hw8 hw9 hw10 hw11 hw13 hw14 hw15 hw16 hw17 hw18; lia) ?_
            exact v_iret dX12_letterByFee_138 rfl ⟨Or.inl (by have e9 : findR v rk = i := hs.trans ((fstU_1 h0 hi).trans (if_pos (decide_eq_true_eq.mpr (hs2.symm.trans (by first | assumption | exact Classical.not_not.mp (by assumption)))))); rw [e9]; exact ⟨(fun z => by rw [z] at h0; revert h0; decide), rfl, hC⟩), hF⟩ (by omega) (by omega)
        · have hj : j < v 7 := by clear ih ih2 hs hs2 hgL hC hF hMo hw5 hw6 hw7 hw8 hw9 hw10 hw11 hw13 hw14 hw15 hw16 hw17 hw18; lia
          have hj12 : j < 12 := by clear ih ih2 hs hs2 hgL hC hF hMo hw5 hw6 hw7 hw8 hw9 hw10 hw11 hw13 hw14 hw15 hw16 hw17 hw18; lia
          obtain ⟨y1, y2, y3, y4, y5, y6, -⟩ := hgL j j0 hj
          refine v_aload_n dX12_letterByFee_35 rfl rfl ?_
          refine gf_X12_16 dX12_letterByFee_36 rfl hMo ?_
          refine v_iload dX12_letterByFee_39 rfl ?_
          refine v_iconst (v := 3) dX12_letterByFee_41 (by decide) ?_
          refine k_X12_70 dX12_letterByFee_42 rfl (r_of htr j 3) (Nat.le_of_ble_eq_true rfl) (by omega) (by omega) (Nat.le_of_ble_eq_true rfl) (fun r42 M9 h9 => ?_) (fun _ _ h9 => h9.elim)
          obtain ⟨rfl, e9⟩ := h9
          subst M9
          refine v_iald dX12_letterByFee_45 hw5 (by clear ih ih2 hs hs2 hgL hC hF hMo hw5 hw6 hw7 hw8 hw9 hw10 hw11 hw13 hw14 hw15 hw16 hw17 hw18; lia) (by clear ih ih2 hs hs2 hgL hC hF hMo hw5 hw6 hw7 hw8 hw9 hw10 hw11 hw13 hw14 hw15 hw16 hw17 hw18; lia) ?_
          refine v_aload_n dX12_letterByFee_46 rfl rfl ?_
          refine gf_X12_16 dX12_letterByFee_47 rfl hMo ?_
          refine v_iload_n dX12_letterByFee_50 rfl rfl ?_
          refine v_iconst (v := 3) dX12_letterByFee_51 (by decide) ?_
          refine k_X12_70 dX12_letterByFee_52 rfl (r_of htr i 3) (Nat.le_of_ble_eq_true rfl) (by omega) (by omega) (Nat.le_of_ble_eq_true rfl) (fun r52 M9 h9 => ?_) (fun _ _ h9 => h9.elim)
          obtain ⟨rfl, e9⟩ := h9
          subst M9
          refine v_iald dX12_letterByFee_55 hw5 (by clear ih ih2 hs hs2 hgL hC hF hMo hw5 hw6 hw7 hw8 hw9 hw10 hw11 hw13 hw14 hw15 hw16 hw17 hw18; lia) (by clear ih ih2 hs hs2 hgL hC hF hMo hw5 hw6 hw7 hw8 hw9 hw10 hw11 hw13 hw14 hw15 hw16 hw17 hw18; lia) ?_
          refine v_isub dX12_letterByFee_56 ?_
          refine v_istore_5 dX12_letterByFee_57 ?_
          refine v_iload dX12_letterByFee_59 rfl ?_
          refine v_if_eq (tgt := 69) dX12_letterByFee_61 (by decide) (fun h61 => ?_) (fun h61 => ?_)
          · refine v_aload_n dX12_letterByFee_69 rfl rfl ?_
            refine gf_X12_16 dX12_letterByFee_70 rfl hMo ?_
            refine v_iload_n dX12_letterByFee_73 rfl rfl ?_
            refine v_iconst (v := 2) dX12_letterByFee_74 (by decide) ?_
            refine k_X12_70 dX12_letterByFee_75 rfl (r_of htr i 2) (Nat.le_of_ble_eq_true rfl) (by omega) (by omega) (Nat.le_of_ble_eq_true rfl) (fun r75 M9 h9 => ?_) (fun _ _ h9 => h9.elim)
            obtain ⟨rfl, e9⟩ := h9
            subst M9
            refine v_iald dX12_letterByFee_78 hw5 (by clear ih ih2 hs hs2 hgL hC hF hMo hw5 hw6 hw7 hw8 hw9 hw10 hw11 hw13 hw14 hw15 hw16 hw17 hw18; lia) (by clear ih ih2 hs hs2 hgL hC hF hMo hw5 hw6 hw7 hw8 hw9 hw10 hw11 hw13 hw14 hw15 hw16 hw17 hw18; lia) ?_
            refine v_aload_n dX12_letterByFee_79 rfl rfl ?_
            refine gf_X12_16 dX12_letterByFee_80 rfl hMo ?_
            refine v_iload dX12_letterByFee_83 rfl ?_
            refine v_iconst (v := 2) dX12_letterByFee_85 (by decide) ?_
            refine k_X12_70 dX12_letterByFee_86 rfl (r_of htr j 2) (Nat.le_of_ble_eq_true rfl) (by omega) (by omega) (Nat.le_of_ble_eq_true rfl) (fun r86 M9 h9 => ?_) (fun _ _ h9 => h9.elim)
            obtain ⟨rfl, e9⟩ := h9
            subst M9
            refine v_iald dX12_letterByFee_89 hw5 (by clear ih ih2 hs hs2 hgL hC hF hMo hw5 hw6 hw7 hw8 hw9 hw10 hw11 hw13 hw14 hw15 hw16 hw17 hw18; lia) (by clear ih ih2 hs hs2 hgL hC hF hMo hw5 hw6 hw7 hw8 hw9 hw10 hw11 hw13 hw14 hw15 hw16 hw17 hw18; lia) ?_
            refine v_isub dX12_letterByFee_90 ?_
            refine v_istore_5 dX12_letterByFee_91 ?_
            refine v_iload_n dX12_letterByFee_93 rfl rfl ?_
            refine v_iload dX12_letterByFee_94 rfl ?_
            refine v_if_gt (tgt := 110) dX12_letterByFee_96 (by decide) (fun h96 => ?_) (fun h96 => ?_)
            · refine v_iconst (v := 1) dX12_letterByFee_110 (by decide) ?_
              refine v_goto (tgt := 115) dX12_letterByFee_111 (by decide) ?_
              refine v_iadd dX12_letterByFee_115 ?_
              refine v_istore_3 dX12_letterByFee_116 ?_
              refine v_iinc_4 dX12_letterByFee_117 rfl ?_
              refine v_goto (tgt := 23) dX12_letterByFee_120 (by decide) ?_
              refine ih2 hj _ _ ?_
              rw [sumU_1 j0 hj, hs2]
              first
                | exact congrArg _ (if_pos (by first | exact (bef_1 y5 y6 z5 z6 h61).mpr h96 | exact (bef_2 y5 y6 z5 z6 y3 y4 z3 z4 h61).mpr (Or.inl h96) | exact (bef_2 y5 y6 z5 z6 y3 y4 z3 z4 h61).mpr (Or.inr ⟨(by first | exact h101 | exact Classical.not_not.mp h101), Int32.not_le.mp h107⟩))).symm
                | exact congrArg _ (if_neg (by first | exact fun z => h96 ((bef_1 y5 y6 z5 z6 h61).mp z) | exact fun z => ((bef_2 y5 y6 z5 z6 y3 y4 z3 z4 h61).mp z).elim h96 (fun y => h101 y.1) | exact fun z => ((bef_2 y5 y6 z5 z6 y3 y4 z3 z4 h61).mp z).elim h96 (fun y => absurd y.2 (Int32.not_lt.mpr h107)))).symm
                | exact absurd (by first | exact h101 | exact Classical.not_not.mp h101) h61
            · refine v_iload dX12_letterByFee_99 rfl ?_
              refine v_if_ne (tgt := 114) dX12_letterByFee_101 (by decide) (fun h101 => ?_) (fun h101 => ?_)
              · refine v_iconst (v := 0) dX12_letterByFee_114 (by decide) ?_
                refine v_iadd dX12_letterByFee_115 ?_
                refine v_istore_3 dX12_letterByFee_116 ?_
                refine v_iinc_4 dX12_letterByFee_117 rfl ?_
                refine v_goto (tgt := 23) dX12_letterByFee_120 (by decide) ?_
                refine ih2 hj _ _ ?_
                rw [sumU_1 j0 hj, hs2]
                first
                  | exact congrArg _ (if_pos (by first | exact (bef_1 y5 y6 z5 z6 h61).mpr h96 | exact (bef_2 y5 y6 z5 z6 y3 y4 z3 z4 h61).mpr (Or.inl h96) | exact (bef_2 y5 y6 z5 z6 y3 y4 z3 z4 h61).mpr (Or.inr ⟨(by first | exact h101 | exact Classical.not_not.mp h101), Int32.not_le.mp h107⟩))).symm
                  | exact congrArg _ (if_neg (by first | exact fun z => h96 ((bef_1 y5 y6 z5 z6 h61).mp z) | exact fun z => ((bef_2 y5 y6 z5 z6 y3 y4 z3 z4 h61).mp z).elim h96 (fun y => h101 y.1) | exact fun z => ((bef_2 y5 y6 z5 z6 y3 y4 z3 z4 h61).mp z).elim h96 (fun y => absurd y.2 (Int32.not_lt.mpr h107)))).symm
                  | exact absurd (by first | exact h101 | exact Classical.not_not.mp h101) h61
              · refine v_iload dX12_letterByFee_104 rfl ?_
                refine v_iload_n dX12_letterByFee_106 rfl rfl ?_
                refine v_icmp_ge (tgt := 114) dX12_letterByFee_107 (by decide) (fun h107 => ?_) (fun h107 => ?_)
                · refine v_iconst (v := 0) dX12_letterByFee_114 (by decide) ?_
                  refine v_iadd dX12_letterByFee_115 ?_
                  refine v_istore_3 dX12_letterByFee_116 ?_
                  refine v_iinc_4 dX12_letterByFee_117 rfl ?_
                  refine v_goto (tgt := 23) dX12_letterByFee_120 (by decide) ?_
                  refine ih2 hj _ _ ?_
                  rw [sumU_1 j0 hj, hs2]
                  first
                    | exact congrArg _ (if_pos (by first | exact (bef_1 y5 y6 z5 z6 h61).mpr h96 | exact (bef_2 y5 y6 z5 z6 y3 y4 z3 z4 h61).mpr (Or.inl h96) | exact (bef_2 y5 y6 z5 z6 y3 y4 z3 z4 h61).mpr (Or.inr ⟨(by first | exact h101 | exact Classical.not_not.mp h101), Int32.not_le.mp h107⟩))).symm
                    | exact congrArg _ (if_neg (by first | exact fun z => h96 ((bef_1 y5 y6 z5 z6 h61).mp z) | exact fun z => ((bef_2 y5 y6 z5 z6 y3 y4 z3 z4 h61).mp z).elim h96 (fun y => h101 y.1) | exact fun z => ((bef_2 y5 y6 z5 z6 y3 y4 z3 z4 h61).mp z).elim h96 (fun y => absurd y.2 (Int32.not_lt.mpr h107)))).symm
                    | exact absurd (by first | exact h101 | exact Classical.not_not.mp h101) h61
                · refine v_iconst (v := 1) dX12_letterByFee_110 (by decide) ?_
                  refine v_goto (tgt := 115) dX12_letterByFee_111 (by decide) ?_
                  refine v_iadd dX12_letterByFee_115 ?_
                  refine v_istore_3 dX12_letterByFee_116 ?_
                  refine v_iinc_4 dX12_letterByFee_117 rfl ?_
                  refine v_goto (tgt := 23) dX12_letterByFee_120 (by decide) ?_
                  refine ih2 hj _ _ ?_
                  rw [sumU_1 j0 hj, hs2]
                  first
                    | exact congrArg _ (if_pos (by first | exact (bef_1 y5 y6 z5 z6 h61).mpr h96 | exact (bef_2 y5 y6 z5 z6 y3 y4 z3 z4 h61).mpr (Or.inl h96) | exact (bef_2 y5 y6 z5 z6 y3 y4 z3 z4 h61).mpr (Or.inr ⟨(by first | exact h101 | exact Classical.not_not.mp h101), Int32.not_le.mp h107⟩))).symm
                    | exact congrArg _ (if_neg (by first | exact fun z => h96 ((bef_1 y5 y6 z5 z6 h61).mp z) | exact fun z => ((bef_2 y5 y6 z5 z6 y3 y4 z3 z4 h61).mp z).elim h96 (fun y => h101 y.1) | exact fun z => ((bef_2 y5 y6 z5 z6 y3 y4 z3 z4 h61).mp z).elim h96 (fun y => absurd y.2 (Int32.not_lt.mpr h107)))).symm
                    | exact absurd (by first | exact h101 | exact Classical.not_not.mp h101) h61
          · refine v_iload dX12_letterByFee_64 rfl ?_
            refine v_goto (tgt := 91) dX12_letterByFee_66 (by decide) ?_
            refine v_istore_5 dX12_letterByFee_91 ?_
            refine v_iload_n dX12_letterByFee_93 rfl rfl ?_
            refine v_iload dX12_letterByFee_94 rfl ?_
            refine v_if_gt (tgt := 110) dX12_letterByFee_96 (by decide) (fun h96 => ?_) (fun h96 => ?_)
            · refine v_iconst (v := 1) dX12_letterByFee_110 (by decide) ?_
              refine v_goto (tgt := 115) dX12_letterByFee_111 (by decide) ?_
              refine v_iadd dX12_letterByFee_115 ?_
              refine v_istore_3 dX12_letterByFee_116 ?_
              refine v_iinc_4 dX12_letterByFee_117 rfl ?_
              refine v_goto (tgt := 23) dX12_letterByFee_120 (by decide) ?_
              refine ih2 hj _ _ ?_
              rw [sumU_1 j0 hj, hs2]
              first
                | exact congrArg _ (if_pos (by first | exact (bef_1 y5 y6 z5 z6 h61).mpr h96 | exact (bef_2 y5 y6 z5 z6 y3 y4 z3 z4 h61).mpr (Or.inl h96) | exact (bef_2 y5 y6 z5 z6 y3 y4 z3 z4 h61).mpr (Or.inr ⟨(by first | exact h101 | exact Classical.not_not.mp h101), Int32.not_le.mp h107⟩))).symm
                | exact congrArg _ (if_neg (by first | exact fun z => h96 ((bef_1 y5 y6 z5 z6 h61).mp z) | exact fun z => ((bef_2 y5 y6 z5 z6 y3 y4 z3 z4 h61).mp z).elim h96 (fun y => h101 y.1) | exact fun z => ((bef_2 y5 y6 z5 z6 y3 y4 z3 z4 h61).mp z).elim h96 (fun y => absurd y.2 (Int32.not_lt.mpr h107)))).symm
                | exact absurd (by first | exact h101 | exact Classical.not_not.mp h101) h61
            · refine v_iload dX12_letterByFee_99 rfl ?_
              refine v_if_ne (tgt := 114) dX12_letterByFee_101 (by decide) (fun h101 => ?_) (fun h101 => ?_)
              · refine v_iconst (v := 0) dX12_letterByFee_114 (by decide) ?_
                refine v_iadd dX12_letterByFee_115 ?_
                refine v_istore_3 dX12_letterByFee_116 ?_
                refine v_iinc_4 dX12_letterByFee_117 rfl ?_
                refine v_goto (tgt := 23) dX12_letterByFee_120 (by decide) ?_
                refine ih2 hj _ _ ?_
                rw [sumU_1 j0 hj, hs2]
                first
                  | exact congrArg _ (if_pos (by first | exact (bef_1 y5 y6 z5 z6 h61).mpr h96 | exact (bef_2 y5 y6 z5 z6 y3 y4 z3 z4 h61).mpr (Or.inl h96) | exact (bef_2 y5 y6 z5 z6 y3 y4 z3 z4 h61).mpr (Or.inr ⟨(by first | exact h101 | exact Classical.not_not.mp h101), Int32.not_le.mp h107⟩))).symm
                  | exact congrArg _ (if_neg (by first | exact fun z => h96 ((bef_1 y5 y6 z5 z6 h61).mp z) | exact fun z => ((bef_2 y5 y6 z5 z6 y3 y4 z3 z4 h61).mp z).elim h96 (fun y => h101 y.1) | exact fun z => ((bef_2 y5 y6 z5 z6 y3 y4 z3 z4 h61).mp z).elim h96 (fun y => absurd y.2 (Int32.not_lt.mpr h107)))).symm
                  | exact absurd (by first | exact h101 | exact Classical.not_not.mp h101) h61
              · refine v_iload dX12_letterByFee_104 rfl ?_
                refine v_iload_n dX12_letterByFee_106 rfl rfl ?_
                refine v_icmp_ge (tgt := 114) dX12_letterByFee_107 (by decide) (fun h107 => ?_) (fun h107 => ?_)
                · refine v_iconst (v := 0) dX12_letterByFee_114 (by decide) ?_
                  refine v_iadd dX12_letterByFee_115 ?_
                  refine v_istore_3 dX12_letterByFee_116 ?_
                  refine v_iinc_4 dX12_letterByFee_117 rfl ?_
                  refine v_goto (tgt := 23) dX12_letterByFee_120 (by decide) ?_
                  refine ih2 hj _ _ ?_
                  rw [sumU_1 j0 hj, hs2]
                  first
                    | exact congrArg _ (if_pos (by first | exact (bef_1 y5 y6 z5 z6 h61).mpr h96 | exact (bef_2 y5 y6 z5 z6 y3 y4 z3 z4 h61).mpr (Or.inl h96) | exact (bef_2 y5 y6 z5 z6 y3 y4 z3 z4 h61).mpr (Or.inr ⟨(by first | exact h101 | exact Classical.not_not.mp h101), Int32.not_le.mp h107⟩))).symm
                    | exact congrArg _ (if_neg (by first | exact fun z => h96 ((bef_1 y5 y6 z5 z6 h61).mp z) | exact fun z => ((bef_2 y5 y6 z5 z6 y3 y4 z3 z4 h61).mp z).elim h96 (fun y => h101 y.1) | exact fun z => ((bef_2 y5 y6 z5 z6 y3 y4 z3 z4 h61).mp z).elim h96 (fun y => absurd y.2 (Int32.not_lt.mpr h107)))).symm
                    | exact absurd (by first | exact h101 | exact Classical.not_not.mp h101) h61
                · refine v_iconst (v := 1) dX12_letterByFee_110 (by decide) ?_
                  refine v_goto (tgt := 115) dX12_letterByFee_111 (by decide) ?_
                  refine v_iadd dX12_letterByFee_115 ?_
                  refine v_istore_3 dX12_letterByFee_116 ?_
                  refine v_iinc_4 dX12_letterByFee_117 rfl ?_
                  refine v_goto (tgt := 23) dX12_letterByFee_120 (by decide) ?_
                  refine ih2 hj _ _ ?_
                  rw [sumU_1 j0 hj, hs2]
                  first
                    | exact congrArg _ (if_pos (by first | exact (bef_1 y5 y6 z5 z6 h61).mpr h96 | exact (bef_2 y5 y6 z5 z6 y3 y4 z3 z4 h61).mpr (Or.inl h96) | exact (bef_2 y5 y6 z5 z6 y3 y4 z3 z4 h61).mpr (Or.inr ⟨(by first | exact h101 | exact Classical.not_not.mp h101), Int32.not_le.mp h107⟩))).symm
                    | exact congrArg _ (if_neg (by first | exact fun z => h96 ((bef_1 y5 y6 z5 z6 h61).mp z) | exact fun z => ((bef_2 y5 y6 z5 z6 y3 y4 z3 z4 h61).mp z).elim h96 (fun y => h101 y.1) | exact fun z => ((bef_2 y5 y6 z5 z6 y3 y4 z3 z4 h61).mp z).elim h96 (fun y => absurd y.2 (Int32.not_lt.mpr h107)))).symm
                    | exact absurd (by first | exact h101 | exact Classical.not_not.mp h101) h61
      exact key2 0 (Int32.le_refl _) hg5 0 _ rfl
  refine v_aload_n dX12_letterByFee_0 rfl rfl ?_
  refine v_iconst (v := 0) dX12_letterByFee_1 (by decide) ?_
  refine pf_X12_56 dX12_letterByFee_2 rfl hMo ?_
  refine V.md (Md.sc hC) (Frm.tr hF (Frm.up (hC.kd_sc))) (fun M1 hC hF => ?_)
  obtain ⟨hMo, hw5, hw6, hw7, hw8, hw9, hw10, hw11, hw13, hw14, hw15, hw16, hw17, hw18, -⟩ := _root_.id hC
  refine v_iconst (v := 0) dX12_letterByFee_5 (by decide) ?_
  refine v_istore_2 dX12_letterByFee_6 ?_
  exact key 0 (Int32.le_refl _) hg5 _ _ _ _ rfl hC hF

theorem dX12_isConsistent_0 : decode cX12_isConsistent 0 = .ok (.aload_n 0, 1) := by decide +kernel
theorem dX12_isConsistent_1 : decode cX12_isConsistent 1 = .ok (.iconst 0, 1) := by decide +kernel
theorem dX12_isConsistent_2 : decode cX12_isConsistent 2 = .ok (.putfield 56, 3) := by decide +kernel
theorem dX12_isConsistent_5 : decode cX12_isConsistent 5 = .ok (.iconst 0, 1) := by decide +kernel
theorem dX12_isConsistent_6 : decode cX12_isConsistent 6 = .ok (.istore_n 1, 1) := by decide +kernel
theorem dX12_isConsistent_7 : decode cX12_isConsistent 7 = .ok (.iload_n 1, 1) := by decide +kernel
theorem dX12_isConsistent_8 : decode cX12_isConsistent 8 = .ok (.aload_n 0, 1) := by decide +kernel
theorem dX12_isConsistent_9 : decode cX12_isConsistent 9 = .ok (.getfield 16, 3) := by decide +kernel
theorem dX12_isConsistent_12 : decode cX12_isConsistent 12 = .ok (.bipush 6, 2) := by decide +kernel
theorem dX12_isConsistent_14 : decode cX12_isConsistent 14 = .ok (.iaload, 1) := by decide +kernel
theorem dX12_isConsistent_15 : decode cX12_isConsistent 15 = .ok (.if_icmp .ge 29, 3) := by decide +kernel
theorem dX12_isConsistent_18 : decode cX12_isConsistent 18 = .ok (.aload_n 0, 1) := by decide +kernel
theorem dX12_isConsistent_19 : decode cX12_isConsistent 19 = .ok (.iload_n 1, 1) := by decide +kernel
theorem dX12_isConsistent_20 : decode cX12_isConsistent 20 = .ok (.invokevirtual 109, 3) := by decide +kernel
theorem dX12_isConsistent_23 : decode cX12_isConsistent 23 = .ok (.aload_n 0, 1) := by decide +kernel
theorem dX12_isConsistent_24 : decode cX12_isConsistent 24 = .ok (.getfield 16, 3) := by decide +kernel
theorem dX12_isConsistent_27 : decode cX12_isConsistent 27 = .ok (.iload_n 1, 1) := by decide +kernel
theorem dX12_isConsistent_28 : decode cX12_isConsistent 28 = .ok (.iconst 0, 1) := by decide +kernel
theorem dX12_isConsistent_29 : decode cX12_isConsistent 29 = .ok (.invokestatic 96, 3) := by decide +kernel
theorem dX12_isConsistent_32 : decode cX12_isConsistent 32 = .ok (.iaload, 1) := by decide +kernel
theorem dX12_isConsistent_33 : decode cX12_isConsistent 33 = .ok (.if_icmp .le 5, 3) := by decide +kernel
theorem dX12_isConsistent_36 : decode cX12_isConsistent 36 = .ok (.iconst 0, 1) := by decide +kernel
theorem dX12_isConsistent_37 : decode cX12_isConsistent 37 = .ok (.ireturn, 1) := by decide +kernel
theorem dX12_isConsistent_38 : decode cX12_isConsistent 38 = .ok (.iinc 1 1, 3) := by decide +kernel
theorem dX12_isConsistent_41 : decode cX12_isConsistent 41 = .ok (.goto (-34), 3) := by decide +kernel
theorem dX12_isConsistent_44 : decode cX12_isConsistent 44 = .ok (.iconst 1, 1) := by decide +kernel
theorem dX12_isConsistent_45 : decode cX12_isConsistent 45 = .ok (.ireturn, 1) := by decide +kernel
set_option maxRecDepth 100000 in
set_option maxHeartbeats 4000000 in
theorem r_isConsistent {l : Launch} {g : Nat → Nat} {M : LH} (htr : l.stackTraces = false) {kd : Nat → Nat} {r m : Nat} {w : Nat → Nat} {t ch ea fl sv bf tn he en ln wr dg : Int32} {v b4 sa pa fr th bs tx li lf to : Int32 → Int32} (hC : Md kd r M m w t ch ea fl sv bf tn he en ln wr dg v b4 sa pa fr th bs tx li lf to) (hG : Good v) : K_X12_isConsistent l g 2 0 0 [.ref m] M (RI (fun x M9 => x = 1 ∧ Md kd r M9 m w 0 ch ea fl sv bf tn he en ln wr dg v b4 sa pa fr th bs tx li lf to ∧ Frm kd r M M9) nX) := by
  refine Ko_X12_isConsistent htr (fun X => ?_)
  obtain ⟨hMo, hw5, hw6, hw7, hw8, hw9, hw10, hw11, hw13, hw14, hw15, hw16, hw17, hw18, -⟩ := _root_.id hC
  have hF : Frm kd r M M := Frm.rf
  obtain ⟨hg1, hg2, hg3, hg4, hg5, hg6, hg7, hg8, hgL, hgS, -⟩ := _root_.id hG
  have key : ∀ i, 0 ≤ i → i ≤ v 6 → ∀ (M1 : LH), Md kd r M1 m w 0 ch ea fl sv bf tn he en ln wr dg v b4 sa pa fr th bs tx li lf to → Frm kd r M M1 → V l g yX12_isConsistent cX12_isConsistent ((some .boolean)) [] 2 0 0 (RI (fun x M9 => x = 1 ∧ Md kd r M9 m w 0 ch ea fl sv bf tn he en ln wr dg v b4 sa pa fr th bs tx li lf to ∧ Frm kd r M M9) nX) X M1 0 0 7 [some (.ref m), some (.int i)] [] := by
    clear hC hMo hw5 hw6 hw7 hw8 hw9 hw10 hw11 hw13 hw14 hw15 hw16 hw17 hw18 hF
    refine up_ind _ (fun i h0 h1 ih M1 hC hF => ?_)
    obtain ⟨hMo, hw5, hw6, hw7, hw8, hw9, hw10, hw11, hw13, hw14, hw15, hw16, hw17, hw18, -⟩ := _root_.id hC
    refine v_iload_n dX12_isConsistent_7 rfl rfl ?_
    refine v_aload_n dX12_isConsistent_8 rfl rfl ?_
    refine gf_X12_16 dX12_isConsistent_9 rfl hMo ?_
    refine v_bipush (v := (6)) dX12_isConsistent_12 (by decide) ?_
    refine v_iald dX12_isConsistent_14 hw5 (by lia) (by lia) ?_
    refine v_icmp_ge (tgt := 44) dX12_isConsistent_15 (by decide) (fun h15 => ?_) (fun h15 => ?_)
    · skip
      refine v_iconst (v := 1) dX12_isConsistent_44 (by decide) ?_
      exact v_zret dX12_isConsistent_45 rfl (by first | rfl | assumption) ⟨rfl, hC, hF⟩ (by omega) (by omega)
    · have hi : i < v 6 := by clear ih hgS hgL hC hF hMo hw5 hw6 hw7 hw8 hw9 hw10 hw11 hw13 hw14 hw15 hw16 hw17 hw18; lia
      obtain ⟨u0, u1, u2, u3, u4, u5, u6, u7⟩ := hgS i h0 hi
      refine v_aload_n dX12_isConsistent_18 rfl rfl ?_
      refine v_iload_n dX12_isConsistent_19 rfl rfl ?_
      refine k_X12_109 dX12_isConsistent_20 rfl (r_loadOn htr hC hG i) hMo (Nat.le_of_ble_eq_true rfl) (by omega) (by omega) (Nat.le_of_ble_eq_true rfl) (fun r20 M9 h9 => ?_) (fun _ _ h9 => h9.elim)
      obtain ⟨rfl, e9⟩ := h9
      subst M9
      refine v_aload_n dX12_isConsistent_23 rfl rfl ?_
      refine gf_X12_16 dX12_isConsistent_24 rfl hMo ?_
      refine v_iload_n dX12_isConsistent_27 rfl rfl ?_
      refine v_iconst (v := 0) dX12_isConsistent_28 (by decide) ?_
      refine k_X12_96 dX12_isConsistent_29 rfl (r_in htr i 0) (Nat.le_of_ble_eq_true rfl) (by omega) (by omega) (Nat.le_of_ble_eq_true rfl) (fun r29 M9 h9 => ?_) (fun _ _ h9 => h9.elim)
      obtain ⟨rfl, e9⟩ := h9
      subst M9
      refine v_iald dX12_isConsistent_32 hw5 (by clear ih hgS hgL hC hF hMo hw5 hw6 hw7 hw8 hw9 hw10 hw11 hw13 hw14 hw15 hw16 hw17 hw18; lia) (by clear ih hgS hgL hC hF hMo hw5 hw6 hw7 hw8 hw9 hw10 hw11 hw13 hw14 hw15 hw16 hw17 hw18; lia) ?_
      refine v_icmp_le (tgt := 38) dX12_isConsistent_33 (by decide) (fun h33 => ?_) (fun h33 => ?_)
      · refine v_iinc_1 dX12_isConsistent_38 rfl ?_
        refine v_goto (tgt := 7) dX12_isConsistent_41 (by decide) ?_
        exact ih hi M1 hC hF
      · exact absurd u7 h33
  refine v_aload_n dX12_isConsistent_0 rfl rfl ?_
  refine v_iconst (v := 0) dX12_isConsistent_1 (by decide) ?_
  refine pf_X12_56 dX12_isConsistent_2 rfl hMo ?_
  refine V.md (Md.sc hC) (Frm.tr hF (Frm.up (hC.kd_sc))) (fun M1 hC hF => ?_)
  obtain ⟨hMo, hw5, hw6, hw7, hw8, hw9, hw10, hw11, hw13, hw14, hw15, hw16, hw17, hw18, -⟩ := _root_.id hC
  refine v_iconst (v := 0) dX12_isConsistent_5 (by decide) ?_
  refine v_istore_1 dX12_isConsistent_6 ?_
  exact key 0 (Int32.le_refl _) hg3 _ hC hF

