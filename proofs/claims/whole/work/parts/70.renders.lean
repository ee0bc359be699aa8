/-! ===== the reference: renders ===== -/
/-- the letter's line -/
def ltT (σ : Int32 → Int32) (i : Int32) : List Int32 := ((((num (lt σ i 0) ++ 62 :: num (lt σ i 1)) ++ 32 :: num (lt σ i 2)) ++ 103 :: num (lt σ i 3)) ++ 99 :: num (lt σ i 5)) ++ 47 :: num (lt σ i 4)
/-- the ids of the first l of a list -/
def idT (σ : Int32 → Int32) (L : List Int32) : Nat → List Int32
  | 0 => []
  | l + 1 => idT σ L l ++ 35 :: num (lt σ (L.getD l 0) 0)
theorem idT_1 {σ : Int32 → Int32} {L : List Int32} {l : Nat} : idT σ L (l + 1) = idT σ L l ++ 35 :: num (lt σ (L.getD l 0) 0) := rfl
theorem idT_len {σ : Int32 → Int32} {L : List Int32} : ∀ l, (idT σ L l).length ≤ 7 * l := by
  intro l
  induction l with
  | zero => exact Nat.le_refl 0
  | succ l ih =>
    rw [idT_1, List.length_append, List.length_cons]
    have := num_len (lt σ (L.getD l 0) 0)
    omega
/-- the sledge's line, ahead of its letters -/
def slT (σ : Int32 → Int32) (k : Int32) : List Int32 := if 0 < sd σ k 2 then (((num k ++ 58 :: num (loadOn σ k)) ++ 47 :: num (sd σ k 0)) ++ 62 :: num (sd σ k 1)) ++ 43 :: num (sd σ k 2) else ((num k ++ 58 :: num (loadOn σ k)) ++ 47 :: num (sd σ k 0)) ++ 64 :: num (sd σ k 1)
theorem slT_len {σ : Int32 → Int32} {k : Int32} : (slT σ k).length ≤ 34 := by
  have n0 := num_len k
  have n1 := num_len (loadOn σ k)
  have n2 := num_len (sd σ k 0)
  have n3 := num_len (sd σ k 1)
  have n4 := num_len (sd σ k 2)
  unfold slT
  split <;> simp only [List.length_append, List.length_cons] <;> omega
theorem dX12_renderLetter_0 : decode cX12_renderLetter 0 = .ok (.aload_n 0, 1) := by decide +kernel
theorem dX12_renderLetter_1 : decode cX12_renderLetter 1 = .ok (.iload_n 1, 1) := by decide +kernel
theorem dX12_renderLetter_2 : decode cX12_renderLetter 2 = .ok (.invokevirtual 112, 3) := by decide +kernel
theorem dX12_renderLetter_5 : decode cX12_renderLetter 5 = .ok (.istore_n 2, 1) := by decide +kernel
theorem dX12_renderLetter_6 : decode cX12_renderLetter 6 = .ok (.aload_n 0, 1) := by decide +kernel
theorem dX12_renderLetter_7 : decode cX12_renderLetter 7 = .ok (.iload_n 2, 1) := by decide +kernel
theorem dX12_renderLetter_8 : decode cX12_renderLetter 8 = .ok (.ifCond .ge 7, 3) := by decide +kernel
theorem dX12_renderLetter_11 : decode cX12_renderLetter 11 = .ok (.iconst 1, 1) := by decide +kernel
theorem dX12_renderLetter_12 : decode cX12_renderLetter 12 = .ok (.goto 4, 3) := by decide +kernel
theorem dX12_renderLetter_15 : decode cX12_renderLetter 15 = .ok (.iconst 0, 1) := by decide +kernel
theorem dX12_renderLetter_16 : decode cX12_renderLetter 16 = .ok (.putfield 56, 3) := by decide +kernel
theorem dX12_renderLetter_19 : decode cX12_renderLetter 19 = .ok (.aload_n 0, 1) := by decide +kernel
theorem dX12_renderLetter_20 : decode cX12_renderLetter 20 = .ok (.getfield 56, 3) := by decide +kernel
theorem dX12_renderLetter_23 : decode cX12_renderLetter 23 = .ok (.ifCond .eq 5, 3) := by decide +kernel
theorem dX12_renderLetter_26 : decode cX12_renderLetter 26 = .ok (.iconst 0, 1) := by decide +kernel
theorem dX12_renderLetter_27 : decode cX12_renderLetter 27 = .ok (.ireturn, 1) := by decide +kernel
theorem dX12_renderLetter_28 : decode cX12_renderLetter 28 = .ok (.aload_n 0, 1) := by decide +kernel
theorem dX12_renderLetter_29 : decode cX12_renderLetter 29 = .ok (.iconst 0, 1) := by decide +kernel
theorem dX12_renderLetter_30 : decode cX12_renderLetter 30 = .ok (.putfield 186, 3) := by decide +kernel
theorem dX12_renderLetter_33 : decode cX12_renderLetter 33 = .ok (.aload_n 0, 1) := by decide +kernel
theorem dX12_renderLetter_34 : decode cX12_renderLetter 34 = .ok (.iload_n 1, 1) := by decide +kernel
theorem dX12_renderLetter_35 : decode cX12_renderLetter 35 = .ok (.invokevirtual 192, 3) := by decide +kernel
theorem dX12_renderLetter_38 : decode cX12_renderLetter 38 = .ok (.aload_n 0, 1) := by decide +kernel
theorem dX12_renderLetter_39 : decode cX12_renderLetter 39 = .ok (.bipush 62, 2) := by decide +kernel
theorem dX12_renderLetter_41 : decode cX12_renderLetter 41 = .ok (.aload_n 0, 1) := by decide +kernel
theorem dX12_renderLetter_42 : decode cX12_renderLetter 42 = .ok (.getfield 16, 3) := by decide +kernel
theorem dX12_renderLetter_45 : decode cX12_renderLetter 45 = .ok (.iload_n 2, 1) := by decide +kernel
theorem dX12_renderLetter_46 : decode cX12_renderLetter 46 = .ok (.iconst 1, 1) := by decide +kernel
theorem dX12_renderLetter_47 : decode cX12_renderLetter 47 = .ok (.invokestatic 70, 3) := by decide +kernel
theorem dX12_renderLetter_50 : decode cX12_renderLetter 50 = .ok (.iaload, 1) := by decide +kernel
theorem dX12_renderLetter_51 : decode cX12_renderLetter 51 = .ok (.invokevirtual 195, 3) := by decide +kernel
theorem dX12_renderLetter_54 : decode cX12_renderLetter 54 = .ok (.aload_n 0, 1) := by decide +kernel
theorem dX12_renderLetter_55 : decode cX12_renderLetter 55 = .ok (.bipush 32, 2) := by decide +kernel
theorem dX12_renderLetter_57 : decode cX12_renderLetter 57 = .ok (.aload_n 0, 1) := by decide +kernel
theorem dX12_renderLetter_58 : decode cX12_renderLetter 58 = .ok (.getfield 16, 3) := by decide +kernel
theorem dX12_renderLetter_61 : decode cX12_renderLetter 61 = .ok (.iload_n 2, 1) := by decide +kernel
theorem dX12_renderLetter_62 : decode cX12_renderLetter 62 = .ok (.iconst 2, 1) := by decide +kernel
theorem dX12_renderLetter_63 : decode cX12_renderLetter 63 = .ok (.invokestatic 70, 3) := by decide +kernel
theorem dX12_renderLetter_66 : decode cX12_renderLetter 66 = .ok (.iaload, 1) := by decide +kernel
theorem dX12_renderLetter_67 : decode cX12_renderLetter 67 = .ok (.invokevirtual 195, 3) := by decide +kernel
theorem dX12_renderLetter_70 : decode cX12_renderLetter 70 = .ok (.aload_n 0, 1) := by decide +kernel
theorem dX12_renderLetter_71 : decode cX12_renderLetter 71 = .ok (.bipush 103, 2) := by decide +kernel
theorem dX12_renderLetter_73 : decode cX12_renderLetter 73 = .ok (.aload_n 0, 1) := by decide +kernel
theorem dX12_renderLetter_74 : decode cX12_renderLetter 74 = .ok (.getfield 16, 3) := by decide +kernel
theorem dX12_renderLetter_77 : decode cX12_renderLetter 77 = .ok (.iload_n 2, 1) := by decide +kernel
theorem dX12_renderLetter_78 : decode cX12_renderLetter 78 = .ok (.iconst 3, 1) := by decide +kernel
theorem dX12_renderLetter_79 : decode cX12_renderLetter 79 = .ok (.invokestatic 70, 3) := by decide +kernel
theorem dX12_renderLetter_82 : decode cX12_renderLetter 82 = .ok (.iaload, 1) := by decide +kernel
theorem dX12_renderLetter_83 : decode cX12_renderLetter 83 = .ok (.invokevirtual 195, 3) := by decide +kernel
theorem dX12_renderLetter_86 : decode cX12_renderLetter 86 = .ok (.aload_n 0, 1) := by decide +kernel
theorem dX12_renderLetter_87 : decode cX12_renderLetter 87 = .ok (.bipush 99, 2) := by decide +kernel
theorem dX12_renderLetter_89 : decode cX12_renderLetter 89 = .ok (.aload_n 0, 1) := by decide +kernel
theorem dX12_renderLetter_90 : decode cX12_renderLetter 90 = .ok (.getfield 16, 3) := by decide +kernel
theorem dX12_renderLetter_93 : decode cX12_renderLetter 93 = .ok (.iload_n 2, 1) := by decide +kernel
theorem dX12_renderLetter_94 : decode cX12_renderLetter 94 = .ok (.iconst 5, 1) := by decide +kernel
theorem dX12_renderLetter_95 : decode cX12_renderLetter 95 = .ok (.invokestatic 70, 3) := by decide +kernel
theorem dX12_renderLetter_98 : decode cX12_renderLetter 98 = .ok (.iaload, 1) := by decide +kernel
theorem dX12_renderLetter_99 : decode cX12_renderLetter 99 = .ok (.invokevirtual 195, 3) := by decide +kernel
theorem dX12_renderLetter_102 : decode cX12_renderLetter 102 = .ok (.aload_n 0, 1) := by decide +kernel
theorem dX12_renderLetter_103 : decode cX12_renderLetter 103 = .ok (.bipush 47, 2) := by decide +kernel
theorem dX12_renderLetter_105 : decode cX12_renderLetter 105 = .ok (.aload_n 0, 1) := by decide +kernel
theorem dX12_renderLetter_106 : decode cX12_renderLetter 106 = .ok (.getfield 16, 3) := by decide +kernel
theorem dX12_renderLetter_109 : decode cX12_renderLetter 109 = .ok (.iload_n 2, 1) := by decide +kernel
theorem dX12_renderLetter_110 : decode cX12_renderLetter 110 = .ok (.iconst 4, 1) := by decide +kernel
theorem dX12_renderLetter_111 : decode cX12_renderLetter 111 = .ok (.invokestatic 70, 3) := by decide +kernel
theorem dX12_renderLetter_114 : decode cX12_renderLetter 114 = .ok (.iaload, 1) := by decide +kernel
theorem dX12_renderLetter_115 : decode cX12_renderLetter 115 = .ok (.invokevirtual 195, 3) := by decide +kernel
theorem dX12_renderLetter_118 : decode cX12_renderLetter 118 = .ok (.aload_n 0, 1) := by decide +kernel
theorem dX12_renderLetter_119 : decode cX12_renderLetter 119 = .ok (.getfield 186, 3) := by decide +kernel
theorem dX12_renderLetter_122 : decode cX12_renderLetter 122 = .ok (.ireturn, 1) := by decide +kernel
set_option maxRecDepth 100000 in
set_option maxHeartbeats 4000000 in
theorem r_renderLetter {l : Launch} {g : Nat → Nat} {M : LH} (htr : l.stackTraces = false) {kd : Nat → Nat} {r m : Nat} {w : Nat → Nat} {t ch ea fl sv bf tn he en ln wr dg : Int32} {v b4 sa pa fr th bs tx li lf to : Int32 → Int32} (hC : Md kd r M m w t ch ea fl sv bf tn he en ln wr dg v b4 sa pa fr th bs tx li lf to) (hG : Good v) (h4 : v 4 < 1000000) (id : Int32) : K_X12_renderLetter l g 3 0 0 [.ref m, .int id] M (RI (fun x M9 => ∃ li', (((¬ find v id = -1) ∧ x = nI (ltT v (find v id)).length ∧ Tl li' (ltT v (find v id)) ∧ Md kd r M9 m w 0 ch ea fl sv bf tn he en (nI (ltT v (find v id)).length) wr dg v b4 sa pa fr th bs tx li' lf to) ∨ (¬ (¬ find v id = -1) ∧ x = 0 ∧ Md kd r M9 m w 1 ch ea fl sv bf tn he en ln wr dg v b4 sa pa fr th bs tx li lf to)) ∧ Frm kd r M M9) nX) := by
  refine Ko_X12_renderLetter htr (fun X => ?_)
  obtain ⟨hMo, hw5, hw6, hw7, hw8, hw9, hw10, hw11, hw13, hw14, hw15, hw16, hw17, hw18, -⟩ := _root_.id hC
  have hF : Frm kd r M M := Frm.rf
  obtain ⟨hg1, hg2, hg3, hg4, hg5, hg6, hg7, hg8, hgL, hgS, -⟩ := _root_.id hG
  clear hgS
  refine v_aload_n dX12_renderLetter_0 rfl rfl ?_
  refine v_iload_n dX12_renderLetter_1 rfl rfl ?_
  refine k_X12_112 dX12_renderLetter_2 rfl (r_find htr hC hG id) hMo (Nat.le_of_ble_eq_true rfl) (by omega) (by omega) (Nat.le_of_ble_eq_true rfl) (fun r2 M9 h9 => ?_) (fun _ _ h9 => h9.elim)
  obtain ⟨rfl, e9⟩ := h9
  subst M9
  refine v_istore_2 dX12_renderLetter_5 ?_
  refine v_aload_n dX12_renderLetter_6 rfl rfl ?_
  refine v_iload_n dX12_renderLetter_7 rfl rfl ?_
  refine v_if_ge (tgt := 15) dX12_renderLetter_8 (by decide) (fun h8 => ?_) (fun h8 => ?_)
  · refine v_iconst (v := 0) dX12_renderLetter_15 (by decide) ?_
    refine pf_X12_56 dX12_renderLetter_16 rfl hMo ?_
    refine V.md (Md.sc hC) (Frm.tr hF (Frm.up (hC.kd_sc))) (fun M1 hC hF => ?_)
    obtain ⟨hMo, hw5, hw6, hw7, hw8, hw9, hw10, hw11, hw13, hw14, hw15, hw16, hw17, hw18, -⟩ := _root_.id hC
    refine v_aload_n dX12_renderLetter_19 rfl rfl ?_
    refine gf_X12_56 dX12_renderLetter_20 rfl hMo ?_
    refine v_if_eq (tgt := 28) dX12_renderLetter_23 (by decide) (fun h23 => ?_) (fun h23 => ?_)
    · first | (exfalso; revert h23; decide) | skip
      all_goals
        have hid : ¬ find v id = -1 := (fun z => by rw [z] at h8; revert h8; decide)
        obtain ⟨p0, p1, p2⟩ := find_in hg5 hid
        obtain ⟨-, -, -, -, -, -, -, -, -, -, -, -, hN9, -⟩ := _root_.id hG
        obtain ⟨z1, z2, z3, z4, z5, z6, z7, z8, z9, z10, -, -, -, z14⟩ := hgL _ p0 p1
        have y0 : 0 ≤ id := by rw [← p2]; exact z14
        have y6 : id < 1000000 := by rw [← p2]; exact Int32.lt_trans (hN9 _ p0 p1) h4
        have t6 : (lt v (find v id) 1) < 1000000 := Int32.lt_of_lt_of_le z2 (Int32.le_trans hg2 (by decide))
        have w6 : (lt v (find v id) 2) < 1000000 := (Int32.lt_of_le_of_lt z4 (by decide))
        have w0 : 0 ≤ (lt v (find v id) 2) := Int32.le_trans (by decide) z3
        have f6 : (lt v (find v id) 3) < 1000000 := (Int32.lt_of_le_of_lt z6 (by decide))
        have s6 : (lt v (find v id) 4) < 1000000 := (Int32.lt_of_le_of_lt z8 (by decide))
        have s0 : 0 ≤ (lt v (find v id) 4) := Int32.le_trans (by decide) z7
        have i6 : (lt v (find v id) 5) < 1000000 := Int32.lt_of_le_of_lt z10 s6
        have n0 := num_len id
        have n1 := num_len (lt v (find v id) 1)
        have n2 := num_len (lt v (find v id) 2)
        have n3 := num_len (lt v (find v id) 3)
        have n5 := num_len (lt v (find v id) 5)
        have p12 : (find v id) < 12 := Int32.lt_of_lt_of_le p1 hg6
        clear hgL hN9
        refine v_aload_n dX12_renderLetter_28 rfl rfl ?_
        refine v_iconst (v := 0) dX12_renderLetter_29 (by decide) ?_
        refine pf_X12_186 dX12_renderLetter_30 rfl hMo ?_
        refine V.md (Md.sc hC) (Frm.tr hF (Frm.up (hC.kd_sc))) (fun M1 hC hF => ?_)
        obtain ⟨hMo, hw5, hw6, hw7, hw8, hw9, hw10, hw11, hw13, hw14, hw15, hw16, hw17, hw18, -⟩ := _root_.id hC
        refine v_aload_n dX12_renderLetter_33 rfl rfl ?_
        refine v_iload_n dX12_renderLetter_34 rfl rfl ?_
        refine k_X12_192 dX12_renderLetter_35 rfl (r_writesNumber htr hC (Ls := []) (fun j hj => absurd hj (Nat.not_lt_zero j)) rfl y0 y6 (by decide)) hMo (Nat.le_of_ble_eq_true rfl) (by omega) (by omega) (Nat.le_of_ble_eq_true rfl) (fun M9 h9 => ?_) (fun _ _ h9 => h9.elim)
        obtain ⟨li9, hT, hC, hF9⟩ := h9
        have hF := Frm.tr hF hF9
        obtain ⟨hMo, hw5, hw6, hw7, hw8, hw9, hw10, hw11, hw13, hw14, hw15, hw16, hw17, hw18, -⟩ := _root_.id hC
        refine v_aload_n dX12_renderLetter_38 rfl rfl ?_
        refine v_bipush (v := (62)) dX12_renderLetter_39 (by decide) ?_
        refine v_aload_n dX12_renderLetter_41 rfl rfl ?_
        refine gf_X12_16 dX12_renderLetter_42 rfl hMo ?_
        refine v_iload_n dX12_renderLetter_45 rfl rfl ?_
        refine v_iconst (v := 1) dX12_renderLetter_46 (by decide) ?_
        refine k_X12_70 dX12_renderLetter_47 rfl (r_of htr (find v id) 1) (Nat.le_of_ble_eq_true rfl) (by omega) (by omega) (Nat.le_of_ble_eq_true rfl) (fun r47 M9 h9 => ?_) (fun _ _ h9 => h9.elim)
        obtain ⟨rfl, e9⟩ := h9
        subst M9
        refine v_iald dX12_renderLetter_50 hw5 (by lia) (by lia) ?_
        refine k_X12_195 dX12_renderLetter_51 rfl (r_writesBehind htr hC hT rfl z1 t6 (by simp only [List.length_append, List.length_cons, List.length_nil]; omega) 62) hMo (Nat.le_of_ble_eq_true rfl) (by omega) (by omega) (Nat.le_of_ble_eq_true rfl) (fun M9 h9 => ?_) (fun _ _ h9 => h9.elim)
        obtain ⟨li9, hT, hC, hF9⟩ := h9
        have hF := Frm.tr hF hF9
        obtain ⟨hMo, hw5, hw6, hw7, hw8, hw9, hw10, hw11, hw13, hw14, hw15, hw16, hw17, hw18, -⟩ := _root_.id hC
        refine v_aload_n dX12_renderLetter_54 rfl rfl ?_
        refine v_bipush (v := (32)) dX12_renderLetter_55 (by decide) ?_
        refine v_aload_n dX12_renderLetter_57 rfl rfl ?_
        refine gf_X12_16 dX12_renderLetter_58 rfl hMo ?_
        refine v_iload_n dX12_renderLetter_61 rfl rfl ?_
        refine v_iconst (v := 2) dX12_renderLetter_62 (by decide) ?_
        refine k_X12_70 dX12_renderLetter_63 rfl (r_of htr (find v id) 2) (Nat.le_of_ble_eq_true rfl) (by omega) (by omega) (Nat.le_of_ble_eq_true rfl) (fun r63 M9 h9 => ?_) (fun _ _ h9 => h9.elim)
        obtain ⟨rfl, e9⟩ := h9
        subst M9
        refine v_iald dX12_renderLetter_66 hw5 (by lia) (by lia) ?_
        refine k_X12_195 dX12_renderLetter_67 rfl (r_writesBehind htr hC hT rfl w0 w6 (by simp only [List.length_append, List.length_cons, List.length_nil]; omega) 32) hMo (Nat.le_of_ble_eq_true rfl) (by omega) (by omega) (Nat.le_of_ble_eq_true rfl) (fun M9 h9 => ?_) (fun _ _ h9 => h9.elim)
        obtain ⟨li9, hT, hC, hF9⟩ := h9
        have hF := Frm.tr hF hF9
        obtain ⟨hMo, hw5, hw6, hw7, hw8, hw9, hw10, hw11, hw13, hw14, hw15, hw16, hw17, hw18, -⟩ := _root_.id hC
        refine v_aload_n dX12_renderLetter_70 rfl rfl ?_
        refine v_bipush (v := (103)) dX12_renderLetter_71 (by decide) ?_
        refine v_aload_n dX12_renderLetter_73 rfl rfl ?_
        refine gf_X12_16 dX12_renderLetter_74 rfl hMo ?_
        refine v_iload_n dX12_renderLetter_77 rfl rfl ?_
        refine v_iconst (v := 3) dX12_renderLetter_78 (by decide) ?_
        refine k_X12_70 dX12_renderLetter_79 rfl (r_of htr (find v id) 3) (Nat.le_of_ble_eq_true rfl) (by omega) (by omega) (Nat.le_of_ble_eq_true rfl) (fun r79 M9 h9 => ?_) (fun _ _ h9 => h9.elim)
        obtain ⟨rfl, e9⟩ := h9
        subst M9
        refine v_iald dX12_renderLetter_82 hw5 (by lia) (by lia) ?_
        refine k_X12_195 dX12_renderLetter_83 rfl (r_writesBehind htr hC hT rfl z5 f6 (by simp only [List.length_append, List.length_cons, List.length_nil]; omega) 103) hMo (Nat.le_of_ble_eq_true rfl) (by omega) (by omega) (Nat.le_of_ble_eq_true rfl) (fun M9 h9 => ?_) (fun _ _ h9 => h9.elim)
        obtain ⟨li9, hT, hC, hF9⟩ := h9
        have hF := Frm.tr hF hF9
        obtain ⟨hMo, hw5, hw6, hw7, hw8, hw9, hw10, hw11, hw13, hw14, hw15, hw16, hw17, hw18, -⟩ := _root_.id hC
        refine v_aload_n dX12_renderLetter_86 rfl rfl ?_
        refine v_bipush (v := (99)) dX12_renderLetter_87 (by decide) ?_
        refine v_aload_n dX12_renderLetter_89 rfl rfl ?_
        refine gf_X12_16 dX12_renderLetter_90 rfl hMo ?_
        refine v_iload_n dX12_renderLetter_93 rfl rfl ?_
        refine v_iconst (v := 5) dX12_renderLetter_94 (by decide) ?_
        refine k_X12_70 dX12_renderLetter_95 rfl (r_of htr (find v id) 5) (Nat.le_of_ble_eq_true rfl) (by omega) (by omega) (Nat.le_of_ble_eq_true rfl) (fun r95 M9 h9 => ?_) (fun _ _ h9 => h9.elim)
        obtain ⟨rfl, e9⟩ := h9
        subst M9
        refine v_iald dX12_renderLetter_98 hw5 (by lia) (by lia) ?_
        refine k_X12_195 dX12_renderLetter_99 rfl (r_writesBehind htr hC hT rfl z9 i6 (by simp only [List.length_append, List.length_cons, List.length_nil]; omega) 99) hMo (Nat.le_of_ble_eq_true rfl) (by omega) (by omega) (Nat.le_of_ble_eq_true rfl) (fun M9 h9 => ?_) (fun _ _ h9 => h9.elim)
        obtain ⟨li9, hT, hC, hF9⟩ := h9
        have hF := Frm.tr hF hF9
        obtain ⟨hMo, hw5, hw6, hw7, hw8, hw9, hw10, hw11, hw13, hw14, hw15, hw16, hw17, hw18, -⟩ := _root_.id hC
        refine v_aload_n dX12_renderLetter_102 rfl rfl ?_
        refine v_bipush (v := (47)) dX12_renderLetter_103 (by decide) ?_
        refine v_aload_n dX12_renderLetter_105 rfl rfl ?_
        refine gf_X12_16 dX12_renderLetter_106 rfl hMo ?_
        refine v_iload_n dX12_renderLetter_109 rfl rfl ?_
        refine v_iconst (v := 4) dX12_renderLetter_110 (by decide) ?_
        refine k_X12_70 dX12_renderLetter_111 rfl (r_of htr (find v id) 4) (Nat.le_of_ble_eq_true rfl) (by omega) (by omega) (Nat.le_of_ble_eq_true rfl) (fun r111 M9 h9 => ?_) (fun _ _ h9 => h9.elim)
        obtain ⟨rfl, e9⟩ := h9
        subst M9
        refine v_iald dX12_renderLetter_114 hw5 (by lia) (by lia) ?_
        refine k_X12_195 dX12_renderLetter_115 rfl (r_writesBehind htr hC hT rfl s0 s6 (by simp only [List.length_append, List.length_cons, List.length_nil]; omega) 47) hMo (Nat.le_of_ble_eq_true rfl) (by omega) (by omega) (Nat.le_of_ble_eq_true rfl) (fun M9 h9 => ?_) (fun _ _ h9 => h9.elim)
        obtain ⟨li9, hT, hC, hF9⟩ := h9
        have hF := Frm.tr hF hF9
        obtain ⟨hMo, hw5, hw6, hw7, hw8, hw9, hw10, hw11, hw13, hw14, hw15, hw16, hw17, hw18, -⟩ := _root_.id hC
        refine v_aload_n dX12_renderLetter_118 rfl rfl ?_
        refine gf_X12_186 dX12_renderLetter_119 rfl hMo ?_
        exact v_iret dX12_renderLetter_122 rfl ⟨li9, Or.inl ⟨hid, (by unfold ltT; rw [p2]; rfl), (by unfold ltT; rw [p2]; exact hT), (by unfold ltT; rw [p2]; exact hC)⟩, hF⟩ (by omega) (by omega)
    · refine v_iconst (v := 0) dX12_renderLetter_26 (by decide) ?_
      exact v_iret dX12_renderLetter_27 rfl (by first | (exfalso; revert h23; decide) | exact ⟨li, Or.inr ⟨(fun hf => by obtain ⟨p0, -⟩ := find_in hg5 hf; exact h8 p0), rfl, hC⟩, hF⟩) (by omega) (by omega)
  · refine v_iconst (v := 1) dX12_renderLetter_11 (by decide) ?_
    refine v_goto (tgt := 16) dX12_renderLetter_12 (by decide) ?_
    refine pf_X12_56 dX12_renderLetter_16 rfl hMo ?_
    refine V.md (Md.sc hC) (Frm.tr hF (Frm.up (hC.kd_sc))) (fun M1 hC hF => ?_)
    obtain ⟨hMo, hw5, hw6, hw7, hw8, hw9, hw10, hw11, hw13, hw14, hw15, hw16, hw17, hw18, -⟩ := _root_.id hC
    refine v_aload_n dX12_renderLetter_19 rfl rfl ?_
    refine gf_X12_56 dX12_renderLetter_20 rfl hMo ?_
    refine v_if_eq (tgt := 28) dX12_renderLetter_23 (by decide) (fun h23 => ?_) (fun h23 => ?_)
    · first | (exfalso; revert h23; decide) | skip
      all_goals
        have hid : ¬ find v id = -1 := (fun z => by rw [z] at h8; revert h8; decide)
        obtain ⟨p0, p1, p2⟩ := find_in hg5 hid
        obtain ⟨-, -, -, -, -, -, -, -, -, -, -, -, hN9, -⟩ := _root_.id hG
        obtain ⟨z1, z2, z3, z4, z5, z6, z7, z8, z9, z10, -, -, -, z14⟩ := hgL _ p0 p1
        have y0 : 0 ≤ id := by rw [← p2]; exact z14
        have y6 : id < 1000000 := by rw [← p2]; exact Int32.lt_trans (hN9 _ p0 p1) h4
        have t6 : (lt v (find v id) 1) < 1000000 := Int32.lt_of_lt_of_le z2 (Int32.le_trans hg2 (by decide))
        have w6 : (lt v (find v id) 2) < 1000000 := (Int32.lt_of_le_of_lt z4 (by decide))
        have w0 : 0 ≤ (lt v (find v id) 2) := Int32.le_trans (by decide) z3
        have f6 : (lt v (find v id) 3) < 1000000 := (Int32.lt_of_le_of_lt z6 (by decide))
        have s6 : (lt v (find v id) 4) < 1000000 := (Int32.lt_of_le_of_lt z8 (by decide))
        have s0 : 0 ≤ (lt v (find v id) 4) := Int32.le_trans (by decide) z7
        have i6 : (lt v (find v id) 5) < 1000000 := Int32.lt_of_le_of_lt z10 s6
        have n0 := num_len id
        have n1 := num_len (lt v (find v id) 1)
        have n2 := num_len (lt v (find v id) 2)
        have n3 := num_len (lt v (find v id) 3)
        have n5 := num_len (lt v (find v id) 5)
        have p12 : (find v id) < 12 := Int32.lt_of_lt_of_le p1 hg6
        clear hgL hN9
        refine v_aload_n dX12_renderLetter_28 rfl rfl ?_
        refine v_iconst (v := 0) dX12_renderLetter_29 (by decide) ?_
        refine pf_X12_186 dX12_renderLetter_30 rfl hMo ?_
        refine V.md (Md.sc hC) (Frm.tr hF (Frm.up (hC.kd_sc))) (fun M1 hC hF => ?_)
        obtain ⟨hMo, hw5, hw6, hw7, hw8, hw9, hw10, hw11, hw13, hw14, hw15, hw16, hw17, hw18, -⟩ := _root_.id hC
        refine v_aload_n dX12_renderLetter_33 rfl rfl ?_
        refine v_iload_n dX12_renderLetter_34 rfl rfl ?_
        refine k_X12_192 dX12_renderLetter_35 rfl (r_writesNumber htr hC (Ls := []) (fun j hj => absurd hj (Nat.not_lt_zero j)) rfl y0 y6 (by decide)) hMo (Nat.le_of_ble_eq_true rfl) (by omega) (by omega) (Nat.le_of_ble_eq_true rfl) (fun M9 h9 => ?_) (fun _ _ h9 => h9.elim)
        obtain ⟨li9, hT, hC, hF9⟩ := h9
        have hF := Frm.tr hF hF9
        obtain ⟨hMo, hw5, hw6, hw7, hw8, hw9, hw10, hw11, hw13, hw14, hw15, hw16, hw17, hw18, -⟩ := _root_.id hC
        refine v_aload_n dX12_renderLetter_38 rfl rfl ?_
        refine v_bipush (v := (62)) dX12_renderLetter_39 (by decide) ?_
        refine v_aload_n dX12_renderLetter_41 rfl rfl ?_
        refine gf_X12_16 dX12_renderLetter_42 rfl hMo ?_
        refine v_iload_n dX12_renderLetter_45 rfl rfl ?_
        refine v_iconst (v := 1) dX12_renderLetter_46 (by decide) ?_
        refine k_X12_70 dX12_renderLetter_47 rfl (r_of htr (find v id) 1) (Nat.le_of_ble_eq_true rfl) (by omega) (by omega) (Nat.le_of_ble_eq_true rfl) (fun r47 M9 h9 => ?_) (fun _ _ h9 => h9.elim)
        obtain ⟨rfl, e9⟩ := h9
        subst M9
        refine v_iald dX12_renderLetter_50 hw5 (by lia) (by lia) ?_
        refine k_X12_195 dX12_renderLetter_51 rfl (r_writesBehind htr hC hT rfl z1 t6 (by simp only [List.length_append, List.length_cons, List.length_nil]; omega) 62) hMo (Nat.le_of_ble_eq_true rfl) (by omega) (by omega) (Nat.le_of_ble_eq_true rfl) (fun M9 h9 => ?_) (fun _ _ h9 => h9.elim)
        obtain ⟨li9, hT, hC, hF9⟩ := h9
        have hF := Frm.tr hF hF9
        obtain ⟨hMo, hw5, hw6, hw7, hw8, hw9, hw10, hw11, hw13, hw14, hw15, hw16, hw17, hw18, -⟩ := _root_.id hC
        refine v_aload_n dX12_renderLetter_54 rfl rfl ?_
        refine v_bipush (v := (32)) dX12_renderLetter_55 (by decide) ?_
        refine v_aload_n dX12_renderLetter_57 rfl rfl ?_
        refine gf_X12_16 dX12_renderLetter_58 rfl hMo ?_
        refine v_iload_n dX12_renderLetter_61 rfl rfl ?_
        refine v_iconst (v := 2) dX12_renderLetter_62 (by decide) ?_
        refine k_X12_70 dX12_renderLetter_63 rfl (r_of htr (find v id) 2) (Nat.le_of_ble_eq_true rfl) (by omega) (by omega) (Nat.le_of_ble_eq_true rfl) (fun r63 M9 h9 => ?_) (fun _ _ h9 => h9.elim)
        obtain ⟨rfl, e9⟩ := h9
        subst M9
        refine v_iald dX12_renderLetter_66 hw5 (by lia) (by lia) ?_
        refine k_X12_195 dX12_renderLetter_67 rfl (r_writesBehind htr hC hT rfl w0 w6 (by simp only [List.length_append, List.length_cons, List.length_nil]; omega) 32) hMo (Nat.le_of_ble_eq_true rfl) (by omega) (by omega) (Nat.le_of_ble_eq_true rfl) (fun M9 h9 => ?_) (fun _ _ h9 => h9.elim)
        obtain ⟨li9, hT, hC, hF9⟩ := h9
        have hF := Frm.tr hF hF9
        obtain ⟨hMo, hw5, hw6, hw7, hw8, hw9, hw10, hw11, hw13, hw14, hw15, hw16, hw17, hw18, -⟩ := _root_.id hC
        refine v_aload_n dX12_renderLetter_70 rfl rfl ?_
        refine v_bipush (v := (103)) dX12_renderLetter_71 (by decide) ?_
        refine v_aload_n dX12_renderLetter_73 rfl rfl ?_
        refine gf_X12_16 dX12_renderLetter_74 rfl hMo ?_
        refine v_iload_n dX12_renderLetter_77 rfl rfl ?_
        refine v_iconst (v := 3) dX12_renderLetter_78 (by decide) ?_
        refine k_X12_70 dX12_renderLetter_79 rfl (r_of htr (find v id) 3) (Nat.le_of_ble_eq_true rfl) (by omega) (by omega) (Nat.le_of_ble_eq_true rfl) (fun r79 M9 h9 => ?_) (fun _ _ h9 => h9.elim)
        obtain ⟨rfl, e9⟩ := h9
        subst M9
        refine v_iald dX12_renderLetter_82 hw5 (by lia) (by lia) ?_
        refine k_X12_195 dX12_renderLetter_83 rfl (r_writesBehind htr hC hT rfl z5 f6 (by simp only [List.length_append, List.length_cons, List.length_nil]; omega) 103) hMo (Nat.le_of_ble_eq_true rfl) (by omega) (by omega) (Nat.le_of_ble_eq_true rfl) (fun M9 h9 => ?_) (fun _ _ h9 => h9.elim)
        obtain ⟨li9, hT, hC, hF9⟩ := h9
        have hF := Frm.tr hF hF9
        obtain ⟨hMo, hw5, hw6, hw7, hw8, hw9, hw10, hw11, hw13, hw14, hw15, hw16, hw17, hw18, -⟩ := _root_.id hC
        refine v_aload_n dX12_renderLetter_86 rfl rfl ?_
        refine v_bipush (v := (99)) dX12_renderLetter_87 (by decide) ?_
        refine v_aload_n dX12_renderLetter_89 rfl rfl ?_
        refine gf_X12_16 dX12_renderLetter_90 rfl hMo ?_
        refine v_iload_n dX12_renderLetter_93 rfl rfl ?_
        refine v_iconst (v := 5) dX12_renderLetter_94 (by decide) ?_
        refine k_X12_70 dX12_renderLetter_95 rfl (r_of htr (find v id) 5) (Nat.le_of_ble_eq_true rfl) (by omega) (by omega) (Nat.le_of_ble_eq_true rfl) (fun r95 M9 h9 => ?_) (fun _ _ h9 => h9.elim)
        obtain ⟨rfl, e9⟩ := h9
        subst M9
        refine v_iald dX12_renderLetter_98 hw5 (by lia) (by lia) ?_
        refine k_X12_195 dX12_renderLetter_99 rfl (r_writesBehind htr hC hT rfl z9 i6 (by simp only [List.length_append, List.length_cons, List.length_nil]; omega) 99) hMo (Nat.le_of_ble_eq_true rfl) (by omega) (by omega) (Nat.le_of_ble_eq_true rfl) (fun M9 h9 => ?_) (fun _ _ h9 => h9.elim)
        obtain ⟨li9, hT, hC, hF9⟩ := h9
        have hF := Frm.tr hF hF9
        obtain ⟨hMo, hw5, hw6, hw7, hw8, hw9, hw10, hw11, hw13, hw14, hw15, hw16, hw17, hw18, -⟩ := _root_.id hC
        refine v_aload_n dX12_renderLetter_102 rfl rfl ?_
        refine v_bipush (v := (47)) dX12_renderLetter_103 (by decide) ?_
        refine v_aload_n dX12_renderLetter_105 rfl rfl ?_
        refine gf_X12_16 dX12_renderLetter_106 rfl hMo ?_
        refine v_iload_n dX12_renderLetter_109 rfl rfl ?_
        refine v_iconst (v := 4) dX12_renderLetter_110 (by decide) ?_
        refine k_X12_70 dX12_renderLetter_111 rfl (r_of htr (find v id) 4) (Nat.le_of_ble_eq_true rfl) (by omega) (by omega) (Nat.le_of_ble_eq_true rfl) (fun r111 M9 h9 => ?_) (fun _ _ h9 => h9.elim)
        obtain ⟨rfl, e9⟩ := h9
        subst M9
        refine v_iald dX12_renderLetter_114 hw5 (by lia) (by lia) ?_
        refine k_X12_195 dX12_renderLetter_115 rfl (r_writesBehind htr hC hT rfl s0 s6 (by simp only [List.length_append, List.length_cons, List.length_nil]; omega) 47) hMo (Nat.le_of_ble_eq_true rfl) (by omega) (by omega) (Nat.le_of_ble_eq_true rfl) (fun M9 h9 => ?_) (fun _ _ h9 => h9.elim)
        obtain ⟨li9, hT, hC, hF9⟩ := h9
        have hF := Frm.tr hF hF9
        obtain ⟨hMo, hw5, hw6, hw7, hw8, hw9, hw10, hw11, hw13, hw14, hw15, hw16, hw17, hw18, -⟩ := _root_.id hC
        refine v_aload_n dX12_renderLetter_118 rfl rfl ?_
        refine gf_X12_186 dX12_renderLetter_119 rfl hMo ?_
        exact v_iret dX12_renderLetter_122 rfl ⟨li9, Or.inl ⟨hid, (by unfold ltT; rw [p2]; rfl), (by unfold ltT; rw [p2]; exact hT), (by unfold ltT; rw [p2]; exact hC)⟩, hF⟩ (by omega) (by omega)
    · refine v_iconst (v := 0) dX12_renderLetter_26 (by decide) ?_
      exact v_iret dX12_renderLetter_27 rfl (by first | (exfalso; revert h23; decide) | exact ⟨li, Or.inr ⟨(fun hf => by obtain ⟨p0, -⟩ := find_in hg5 hf; exact h8 p0), rfl, hC⟩, hF⟩) (by omega) (by omega)
theorem dX12_renderSledge_0 : decode cX12_renderSledge 0 = .ok (.aload_n 0, 1) := by decide +kernel
theorem dX12_renderSledge_1 : decode cX12_renderSledge 1 = .ok (.aload_n 0, 1) := by decide +kernel
theorem dX12_renderSledge_2 : decode cX12_renderSledge 2 = .ok (.iload_n 1, 1) := by decide +kernel
theorem dX12_renderSledge_3 : decode cX12_renderSledge 3 = .ok (.invokevirtual 106, 3) := by decide +kernel
theorem dX12_renderSledge_6 : decode cX12_renderSledge 6 = .ok (.ifCond .eq 7, 3) := by decide +kernel
theorem dX12_renderSledge_9 : decode cX12_renderSledge 9 = .ok (.iconst 0, 1) := by decide +kernel
theorem dX12_renderSledge_10 : decode cX12_renderSledge 10 = .ok (.goto 4, 3) := by decide +kernel
theorem dX12_renderSledge_13 : decode cX12_renderSledge 13 = .ok (.iconst 1, 1) := by decide +kernel
theorem dX12_renderSledge_14 : decode cX12_renderSledge 14 = .ok (.putfield 56, 3) := by decide +kernel
theorem dX12_renderSledge_17 : decode cX12_renderSledge 17 = .ok (.aload_n 0, 1) := by decide +kernel
theorem dX12_renderSledge_18 : decode cX12_renderSledge 18 = .ok (.getfield 56, 3) := by decide +kernel
theorem dX12_renderSledge_21 : decode cX12_renderSledge 21 = .ok (.ifCond .eq 5, 3) := by decide +kernel
theorem dX12_renderSledge_24 : decode cX12_renderSledge 24 = .ok (.iconst 0, 1) := by decide +kernel
theorem dX12_renderSledge_25 : decode cX12_renderSledge 25 = .ok (.ireturn, 1) := by decide +kernel
theorem dX12_renderSledge_26 : decode cX12_renderSledge 26 = .ok (.aload_n 0, 1) := by decide +kernel
theorem dX12_renderSledge_27 : decode cX12_renderSledge 27 = .ok (.iconst 0, 1) := by decide +kernel
theorem dX12_renderSledge_28 : decode cX12_renderSledge 28 = .ok (.putfield 186, 3) := by decide +kernel
theorem dX12_renderSledge_31 : decode cX12_renderSledge 31 = .ok (.aload_n 0, 1) := by decide +kernel
theorem dX12_renderSledge_32 : decode cX12_renderSledge 32 = .ok (.iload_n 1, 1) := by decide +kernel
theorem dX12_renderSledge_33 : decode cX12_renderSledge 33 = .ok (.invokevirtual 192, 3) := by decide +kernel
theorem dX12_renderSledge_36 : decode cX12_renderSledge 36 = .ok (.aload_n 0, 1) := by decide +kernel
theorem dX12_renderSledge_37 : decode cX12_renderSledge 37 = .ok (.bipush 58, 2) := by decide +kernel
theorem dX12_renderSledge_39 : decode cX12_renderSledge 39 = .ok (.aload_n 0, 1) := by decide +kernel
theorem dX12_renderSledge_40 : decode cX12_renderSledge 40 = .ok (.iload_n 1, 1) := by decide +kernel
theorem dX12_renderSledge_41 : decode cX12_renderSledge 41 = .ok (.invokevirtual 109, 3) := by decide +kernel
theorem dX12_renderSledge_44 : decode cX12_renderSledge 44 = .ok (.invokevirtual 195, 3) := by decide +kernel
theorem dX12_renderSledge_47 : decode cX12_renderSledge 47 = .ok (.aload_n 0, 1) := by decide +kernel
theorem dX12_renderSledge_48 : decode cX12_renderSledge 48 = .ok (.bipush 47, 2) := by decide +kernel
theorem dX12_renderSledge_50 : decode cX12_renderSledge 50 = .ok (.aload_n 0, 1) := by decide +kernel
theorem dX12_renderSledge_51 : decode cX12_renderSledge 51 = .ok (.getfield 16, 3) := by decide +kernel
theorem dX12_renderSledge_54 : decode cX12_renderSledge 54 = .ok (.iload_n 1, 1) := by decide +kernel
theorem dX12_renderSledge_55 : decode cX12_renderSledge 55 = .ok (.iconst 0, 1) := by decide +kernel
theorem dX12_renderSledge_56 : decode cX12_renderSledge 56 = .ok (.invokestatic 96, 3) := by decide +kernel
theorem dX12_renderSledge_59 : decode cX12_renderSledge 59 = .ok (.iaload, 1) := by decide +kernel
theorem dX12_renderSledge_60 : decode cX12_renderSledge 60 = .ok (.invokevirtual 195, 3) := by decide +kernel
theorem dX12_renderSledge_63 : decode cX12_renderSledge 63 = .ok (.aload_n 0, 1) := by decide +kernel
theorem dX12_renderSledge_64 : decode cX12_renderSledge 64 = .ok (.getfield 16, 3) := by decide +kernel
theorem dX12_renderSledge_67 : decode cX12_renderSledge 67 = .ok (.iload_n 1, 1) := by decide +kernel
theorem dX12_renderSledge_68 : decode cX12_renderSledge 68 = .ok (.iconst 2, 1) := by decide +kernel
theorem dX12_renderSledge_69 : decode cX12_renderSledge 69 = .ok (.invokestatic 96, 3) := by decide +kernel
theorem dX12_renderSledge_72 : decode cX12_renderSledge 72 = .ok (.iaload, 1) := by decide +kernel
theorem dX12_renderSledge_73 : decode cX12_renderSledge 73 = .ok (.ifCond .le 7, 3) := by decide +kernel
theorem dX12_renderSledge_76 : decode cX12_renderSledge 76 = .ok (.iconst 1, 1) := by decide +kernel
theorem dX12_renderSledge_77 : decode cX12_renderSledge 77 = .ok (.goto 4, 3) := by decide +kernel
theorem dX12_renderSledge_80 : decode cX12_renderSledge 80 = .ok (.iconst 0, 1) := by decide +kernel
theorem dX12_renderSledge_81 : decode cX12_renderSledge 81 = .ok (.istore_n 2, 1) := by decide +kernel
theorem dX12_renderSledge_82 : decode cX12_renderSledge 82 = .ok (.aload_n 0, 1) := by decide +kernel
theorem dX12_renderSledge_83 : decode cX12_renderSledge 83 = .ok (.iload_n 2, 1) := by decide +kernel
theorem dX12_renderSledge_84 : decode cX12_renderSledge 84 = .ok (.ifCond .eq 8, 3) := by decide +kernel
theorem dX12_renderSledge_87 : decode cX12_renderSledge 87 = .ok (.bipush 62, 2) := by decide +kernel
theorem dX12_renderSledge_89 : decode cX12_renderSledge 89 = .ok (.goto 5, 3) := by decide +kernel
theorem dX12_renderSledge_92 : decode cX12_renderSledge 92 = .ok (.bipush 64, 2) := by decide +kernel
theorem dX12_renderSledge_94 : decode cX12_renderSledge 94 = .ok (.aload_n 0, 1) := by decide +kernel
theorem dX12_renderSledge_95 : decode cX12_renderSledge 95 = .ok (.getfield 16, 3) := by decide +kernel
theorem dX12_renderSledge_98 : decode cX12_renderSledge 98 = .ok (.iload_n 1, 1) := by decide +kernel
theorem dX12_renderSledge_99 : decode cX12_renderSledge 99 = .ok (.iconst 1, 1) := by decide +kernel
theorem dX12_renderSledge_100 : decode cX12_renderSledge 100 = .ok (.invokestatic 96, 3) := by decide +kernel
theorem dX12_renderSledge_103 : decode cX12_renderSledge 103 = .ok (.iaload, 1) := by decide +kernel
theorem dX12_renderSledge_104 : decode cX12_renderSledge 104 = .ok (.invokevirtual 195, 3) := by decide +kernel
theorem dX12_renderSledge_107 : decode cX12_renderSledge 107 = .ok (.iload_n 2, 1) := by decide +kernel
theorem dX12_renderSledge_108 : decode cX12_renderSledge 108 = .ok (.ifCond .eq 19, 3) := by decide +kernel
theorem dX12_renderSledge_111 : decode cX12_renderSledge 111 = .ok (.aload_n 0, 1) := by decide +kernel
theorem dX12_renderSledge_112 : decode cX12_renderSledge 112 = .ok (.bipush 43, 2) := by decide +kernel
theorem dX12_renderSledge_114 : decode cX12_renderSledge 114 = .ok (.aload_n 0, 1) := by decide +kernel
theorem dX12_renderSledge_115 : decode cX12_renderSledge 115 = .ok (.getfield 16, 3) := by decide +kernel
theorem dX12_renderSledge_118 : decode cX12_renderSledge 118 = .ok (.iload_n 1, 1) := by decide +kernel
theorem dX12_renderSledge_119 : decode cX12_renderSledge 119 = .ok (.iconst 2, 1) := by decide +kernel
theorem dX12_renderSledge_120 : decode cX12_renderSledge 120 = .ok (.invokestatic 96, 3) := by decide +kernel
theorem dX12_renderSledge_123 : decode cX12_renderSledge 123 = .ok (.iaload, 1) := by decide +kernel
theorem dX12_renderSledge_124 : decode cX12_renderSledge 124 = .ok (.invokevirtual 195, 3) := by decide +kernel
theorem dX12_renderSledge_127 : decode cX12_renderSledge 127 = .ok (.aload_n 0, 1) := by decide +kernel
theorem dX12_renderSledge_128 : decode cX12_renderSledge 128 = .ok (.bipush 10, 2) := by decide +kernel
theorem dX12_renderSledge_130 : decode cX12_renderSledge 130 = .ok (.iload_n 1, 1) := by decide +kernel
theorem dX12_renderSledge_131 : decode cX12_renderSledge 131 = .ok (.iadd, 1) := by decide +kernel
theorem dX12_renderSledge_132 : decode cX12_renderSledge 132 = .ok (.invokevirtual 121, 3) := by decide +kernel
theorem dX12_renderSledge_135 : decode cX12_renderSledge 135 = .ok (.istore_n 3, 1) := by decide +kernel
theorem dX12_renderSledge_136 : decode cX12_renderSledge 136 = .ok (.iconst 0, 1) := by decide +kernel
theorem dX12_renderSledge_137 : decode cX12_renderSledge 137 = .ok (.istore 4, 2) := by decide +kernel
theorem dX12_renderSledge_139 : decode cX12_renderSledge 139 = .ok (.iload 4, 2) := by decide +kernel
theorem dX12_renderSledge_141 : decode cX12_renderSledge 141 = .ok (.iload_n 3, 1) := by decide +kernel
theorem dX12_renderSledge_142 : decode cX12_renderSledge 142 = .ok (.if_icmp .ge 31, 3) := by decide +kernel
theorem dX12_renderSledge_145 : decode cX12_renderSledge 145 = .ok (.aload_n 0, 1) := by decide +kernel
theorem dX12_renderSledge_146 : decode cX12_renderSledge 146 = .ok (.bipush 35, 2) := by decide +kernel
theorem dX12_renderSledge_148 : decode cX12_renderSledge 148 = .ok (.aload_n 0, 1) := by decide +kernel
theorem dX12_renderSledge_149 : decode cX12_renderSledge 149 = .ok (.getfield 16, 3) := by decide +kernel
theorem dX12_renderSledge_152 : decode cX12_renderSledge 152 = .ok (.aload_n 0, 1) := by decide +kernel
theorem dX12_renderSledge_153 : decode cX12_renderSledge 153 = .ok (.getfield 32, 3) := by decide +kernel
theorem dX12_renderSledge_156 : decode cX12_renderSledge 156 = .ok (.iload 4, 2) := by decide +kernel
theorem dX12_renderSledge_158 : decode cX12_renderSledge 158 = .ok (.iaload, 1) := by decide +kernel
theorem dX12_renderSledge_159 : decode cX12_renderSledge 159 = .ok (.iconst 0, 1) := by decide +kernel
theorem dX12_renderSledge_160 : decode cX12_renderSledge 160 = .ok (.invokestatic 70, 3) := by decide +kernel
theorem dX12_renderSledge_163 : decode cX12_renderSledge 163 = .ok (.iaload, 1) := by decide +kernel
theorem dX12_renderSledge_164 : decode cX12_renderSledge 164 = .ok (.invokevirtual 195, 3) := by decide +kernel
theorem dX12_renderSledge_167 : decode cX12_renderSledge 167 = .ok (.iinc 4 1, 3) := by decide +kernel
theorem dX12_renderSledge_170 : decode cX12_renderSledge 170 = .ok (.goto (-31), 3) := by decide +kernel
theorem dX12_renderSledge_173 : decode cX12_renderSledge 173 = .ok (.aload_n 0, 1) := by decide +kernel
theorem dX12_renderSledge_174 : decode cX12_renderSledge 174 = .ok (.getfield 186, 3) := by decide +kernel
theorem dX12_renderSledge_177 : decode cX12_renderSledge 177 = .ok (.ireturn, 1) := by decide +kernel
set_option maxRecDepth 100000 in
set_option maxHeartbeats 4000000 in
theorem r_renderSledge {l : Launch} {g : Nat → Nat} {M : LH} (htr : l.stackTraces = false) {kd : Nat → Nat} {r m : Nat} {w : Nat → Nat} {t ch ea fl sv bf tn he en ln wr dg : Int32} {v b4 sa pa fr th bs tx li lf to : Int32 → Int32} (hC : Md kd r M m w t ch ea fl sv bf tn he en ln wr dg v b4 sa pa fr th bs tx li lf to) (hG : Good v) (h4 : v 4 < 1000000) (k : Int32) : K_X12_renderSledge l g 3 0 0 [.ref m, .int k] M (RI (fun x M9 => ∃ li' th', ((hsl v k ∧ x = nI (slT v k ++ idT v (wL v (10 + k) (v 7).toNatClampNeg) (wN v (10 + k) (v 7).toNatClampNeg)).length ∧ Tl li' (slT v k ++ idT v (wL v (10 + k) (v 7).toNatClampNeg) (wN v (10 + k) (v 7).toNatClampNeg)) ∧ Md kd r M9 m w 0 ch ea fl sv bf tn he en (nI (slT v k ++ idT v (wL v (10 + k) (v 7).toNatClampNeg) (wN v (10 + k) (v 7).toNatClampNeg)).length) wr dg v b4 sa pa fr th' bs tx li' lf to) ∨ (¬ hsl v k ∧ x = 0 ∧ Md kd r M9 m w 1 ch ea fl sv bf tn he en ln wr dg v b4 sa pa fr th bs tx li lf to)) ∧ Frm kd r M M9) nX) := by
  refine Ko_X12_renderSledge htr (fun X => ?_)
  obtain ⟨hMo, hw5, hw6, hw7, hw8, hw9, hw10, hw11, hw13, hw14, hw15, hw16, hw17, hw18, -⟩ := _root_.id hC
  have hF : Frm kd r M M := Frm.rf
  obtain ⟨hg1, hg2, hg3, hg4, hg5, hg6, hg7, hg8, hgL, hgS, -⟩ := _root_.id hG
  clear hgS
  refine v_aload_n dX12_renderSledge_0 rfl rfl ?_
  refine v_aload_n dX12_renderSledge_1 rfl rfl ?_
  refine v_iload_n dX12_renderSledge_2 rfl rfl ?_
  refine k_X12_106 dX12_renderSledge_3 rfl (r_isSledge htr hC hG k) hMo (Nat.le_of_ble_eq_true rfl) (by omega) (by omega) (Nat.le_of_ble_eq_true rfl) (fun r3 M9 h9 => ?_) (fun _ _ h9 => h9.elim)
  obtain ⟨rfl, e9⟩ := h9
  subst M9
  refine v_if_eq (tgt := 13) dX12_renderSledge_6 (by decide) (fun h6 => ?_) (fun h6 => ?_)
  · refine v_iconst (v := 1) dX12_renderSledge_13 (by decide) ?_
    refine pf_X12_56 dX12_renderSledge_14 rfl hMo ?_
    refine V.md (Md.sc hC) (Frm.tr hF (Frm.up (hC.kd_sc))) (fun M1 hC hF => ?_)
    obtain ⟨hMo, hw5, hw6, hw7, hw8, hw9, hw10, hw11, hw13, hw14, hw15, hw16, hw17, hw18, -⟩ := _root_.id hC
    refine v_aload_n dX12_renderSledge_17 rfl rfl ?_
    refine gf_X12_56 dX12_renderSledge_18 rfl hMo ?_
    refine v_if_eq (tgt := 26) dX12_renderSledge_21 (by decide) (fun h21 => ?_) (fun h21 => ?_)
    · first | (exfalso; revert h21; decide) | skip
      all_goals
        have hk9 := b_t h6
        obtain ⟨k0, k1⟩ := _root_.id hk9
        obtain ⟨-, -, -, hk6, -, -, -, -, -, hgS, -, -, hN9, -⟩ := _root_.id hG
        obtain ⟨u0, u1, u2, u3, u4, u5, u6, u7⟩ := hgS k k0 k1
        clear hgS
        have k3 : k < 3 := Int32.lt_of_lt_of_le k1 hk6
        have k6 : k < 1000000 := Int32.lt_trans k3 (by decide)
        have c0 : 0 ≤ sd v k 0 := Int32.le_trans (by decide) u0
        have c6 : sd v k 0 < 1000000 := Int32.lt_of_le_of_lt u1 (by decide)
        have a6 : sd v k 1 < 1000000 := Int32.lt_of_lt_of_le u3 (Int32.le_trans hg2 (by decide))
        have o6 : sd v k 2 < 1000000 := Int32.lt_of_le_of_lt u5 (by decide)
        have l6 : loadOn v k < 1000000 := Int32.lt_of_le_of_lt u7 c6
        have n0 := num_len k
        have n1 := num_len (loadOn v k)
        have n2 := num_len (sd v k 0)
        have n3 := num_len (sd v k 1)
        refine v_aload_n dX12_renderSledge_26 rfl rfl ?_
        refine v_iconst (v := 0) dX12_renderSledge_27 (by decide) ?_
        refine pf_X12_186 dX12_renderSledge_28 rfl hMo ?_
        refine V.md (Md.sc hC) (Frm.tr hF (Frm.up (hC.kd_sc))) (fun M1 hC hF => ?_)
        obtain ⟨hMo, hw5, hw6, hw7, hw8, hw9, hw10, hw11, hw13, hw14, hw15, hw16, hw17, hw18, -⟩ := _root_.id hC
        refine v_aload_n dX12_renderSledge_31 rfl rfl ?_
        refine v_iload_n dX12_renderSledge_32 rfl rfl ?_
        refine k_X12_192 dX12_renderSledge_33 rfl (r_writesNumber htr hC (Ls := []) (fun j hj => absurd hj (Nat.not_lt_zero j)) rfl k0 k6 (by decide)) hMo (Nat.le_of_ble_eq_true rfl) (by omega) (by omega) (Nat.le_of_ble_eq_true rfl) (fun M9 h9 => ?_) (fun _ _ h9 => h9.elim)
        obtain ⟨li9, hT, hC, hF9⟩ := h9
        have hF := Frm.tr hF hF9
        obtain ⟨hMo, hw5, hw6, hw7, hw8, hw9, hw10, hw11, hw13, hw14, hw15, hw16, hw17, hw18, -⟩ := _root_.id hC
        refine v_aload_n dX12_renderSledge_36 rfl rfl ?_
        refine v_bipush (v := (58)) dX12_renderSledge_37 (by decide) ?_
        refine v_aload_n dX12_renderSledge_39 rfl rfl ?_
        refine v_iload_n dX12_renderSledge_40 rfl rfl ?_
        refine k_X12_109 dX12_renderSledge_41 rfl (r_loadOn htr hC hG k) hMo (Nat.le_of_ble_eq_true rfl) (by omega) (by omega) (Nat.le_of_ble_eq_true rfl) (fun r41 M9 h9 => ?_) (fun _ _ h9 => h9.elim)
        obtain ⟨rfl, e9⟩ := h9
        subst M9
        refine k_X12_195 dX12_renderSledge_44 rfl (r_writesBehind htr hC hT rfl u6 l6 (by simp only [List.length_append, List.length_cons, List.length_nil]; omega) 58) hMo (Nat.le_of_ble_eq_true rfl) (by omega) (by omega) (Nat.le_of_ble_eq_true rfl) (fun M9 h9 => ?_) (fun _ _ h9 => h9.elim)
        obtain ⟨li9, hT, hC, hF9⟩ := h9
        have hF := Frm.tr hF hF9
        obtain ⟨hMo, hw5, hw6, hw7, hw8, hw9, hw10, hw11, hw13, hw14, hw15, hw16, hw17, hw18, -⟩ := _root_.id hC
        refine v_aload_n dX12_renderSledge_47 rfl rfl ?_
        refine v_bipush (v := (47)) dX12_renderSledge_48 (by decide) ?_
        refine v_aload_n dX12_renderSledge_50 rfl rfl ?_
        refine gf_X12_16 dX12_renderSledge_51 rfl hMo ?_
        refine v_iload_n dX12_renderSledge_54 rfl rfl ?_
        refine v_iconst (v := 0) dX12_renderSledge_55 (by decide) ?_
        refine k_X12_96 dX12_renderSledge_56 rfl (r_in htr k 0) (Nat.le_of_ble_eq_true rfl) (by omega) (by omega) (Nat.le_of_ble_eq_true rfl) (fun r56 M9 h9 => ?_) (fun _ _ h9 => h9.elim)
        obtain ⟨rfl, e9⟩ := h9
        subst M9
        refine v_iald dX12_renderSledge_59 hw5 (by clear hgL hN9 hG; lia) (by clear hgL hN9 hG; lia) ?_
        refine k_X12_195 dX12_renderSledge_60 rfl (r_writesBehind htr hC hT rfl c0 c6 (by simp only [List.length_append, List.length_cons, List.length_nil]; omega) 47) hMo (Nat.le_of_ble_eq_true rfl) (by omega) (by omega) (Nat.le_of_ble_eq_true rfl) (fun M9 h9 => ?_) (fun _ _ h9 => h9.elim)
        obtain ⟨li9, hT, hC, hF9⟩ := h9
        have hF := Frm.tr hF hF9
        obtain ⟨hMo, hw5, hw6, hw7, hw8, hw9, hw10, hw11, hw13, hw14, hw15, hw16, hw17, hw18, -⟩ := _root_.id hC
        refine v_aload_n dX12_renderSledge_63 rfl rfl ?_
        refine gf_X12_16 dX12_renderSledge_64 rfl hMo ?_
        refine v_iload_n dX12_renderSledge_67 rfl rfl ?_
        refine v_iconst (v := 2) dX12_renderSledge_68 (by decide) ?_
        refine k_X12_96 dX12_renderSledge_69 rfl (r_in htr k 2) (Nat.le_of_ble_eq_true rfl) (by omega) (by omega) (Nat.le_of_ble_eq_true rfl) (fun r69 M9 h9 => ?_) (fun _ _ h9 => h9.elim)
        obtain ⟨rfl, e9⟩ := h9
        subst M9
        refine v_iald dX12_renderSledge_72 hw5 (by clear hgL hN9 hG; lia) (by clear hgL hN9 hG; lia) ?_
        refine v_if_le (tgt := 80) dX12_renderSledge_73 (by decide) (fun h73 => ?_) (fun h73 => ?_)
        · refine v_iconst (v := 0) dX12_renderSledge_80 (by decide) ?_
          refine v_istore_2 dX12_renderSledge_81 ?_
          refine v_aload_n dX12_renderSledge_82 rfl rfl ?_
          refine v_iload_n dX12_renderSledge_83 rfl rfl ?_
          refine v_if_eq (tgt := 92) dX12_renderSledge_84 (by decide) (fun h84 => ?_) (fun h84 => ?_)
          · refine v_bipush (v := (64)) dX12_renderSledge_92 (by decide) ?_
            refine v_aload_n dX12_renderSledge_94 rfl rfl ?_
            refine gf_X12_16 dX12_renderSledge_95 rfl hMo ?_
            refine v_iload_n dX12_renderSledge_98 rfl rfl ?_
            refine v_iconst (v := 1) dX12_renderSledge_99 (by decide) ?_
            refine k_X12_96 dX12_renderSledge_100 rfl (r_in htr k 1) (Nat.le_of_ble_eq_true rfl) (by omega) (by omega) (Nat.le_of_ble_eq_true rfl) (fun r100 M9 h9 => ?_) (fun _ _ h9 => h9.elim)
            obtain ⟨rfl, e9⟩ := h9
            subst M9
            refine v_iald dX12_renderSledge_103 hw5 (by clear hgL hN9 hG; lia) (by clear hgL hN9 hG; lia) ?_
            refine k_X12_195 dX12_renderSledge_104 rfl (r_writesBehind htr hC hT rfl u2 a6 (by simp only [List.length_append, List.length_cons, List.length_nil]; omega) _) hMo (Nat.le_of_ble_eq_true rfl) (by omega) (by omega) (Nat.le_of_ble_eq_true rfl) (fun M9 h9 => ?_) (fun _ _ h9 => h9.elim)
            obtain ⟨li9, hT, hC, hF9⟩ := h9
            have hF := Frm.tr hF hF9
            obtain ⟨hMo, hw5, hw6, hw7, hw8, hw9, hw10, hw11, hw13, hw14, hw15, hw16, hw17, hw18, -⟩ := _root_.id hC
            refine v_iload_n dX12_renderSledge_107 rfl rfl ?_
            refine v_if_eq (tgt := 127) dX12_renderSledge_108 (by decide) (fun h108 => ?_) (fun h108 => ?_)
            · refine v_aload_n dX12_renderSledge_127 rfl rfl ?_
              refine v_bipush (v := (10)) dX12_renderSledge_128 (by decide) ?_
              refine v_iload_n dX12_renderSledge_130 rfl rfl ?_
              refine v_iadd dX12_renderSledge_131 ?_
              refine k_X12_121 dX12_renderSledge_132 rfl (r_waits htr hC hG (10 + k)) hMo (Nat.le_of_ble_eq_true rfl) (by omega) (by omega) (Nat.le_of_ble_eq_true rfl) (fun r132 M9 h9 => ?_) (fun _ _ h9 => h9.elim)
              obtain ⟨rfl, th2, hT2, hC, hF9⟩ := h9
              have hF := Frm.tr hF hF9
              obtain ⟨hMo, hw5, hw6, hw7, hw8, hw9, hw10, hw11, hw13, hw14, hw15, hw16, hw17, hw18, -⟩ := _root_.id hC
              refine v_istore_3 dX12_renderSledge_135 ?_
              refine v_iconst (v := 0) dX12_renderSledge_136 (by decide) ?_
              refine v_istore_4 dX12_renderSledge_137 ?_
              first | (exfalso; revert h84 h108; decide) | (exfalso; revert h84; decide) | (exfalso; revert h108; decide) | skip
              all_goals
                have hSL : slT v k = _ := if_neg (Int32.not_lt.mpr h73)
                have hW : (wN v (10 + k) (v 7).toNatClampNeg) ≤ 12 := Nat.le_trans (wL_len (v 7).toNatClampNeg) hG.LB.1
                have hsl34 := slT_len (σ := v) (k := k)
                rw [List.nil_append, ← hSL] at hT hC
                have key1 : ∀ e lx, lx + e = (wN v (10 + k) (v 7).toNatClampNeg) → ∀ (M1 : LH) (li1 : Int32 → Int32), Tl li1 (slT v k ++ idT v (wL v (10 + k) (v 7).toNatClampNeg) lx) → Md kd r M1 m w 0 ch ea fl sv bf tn he en (nI (slT v k ++ idT v (wL v (10 + k) (v 7).toNatClampNeg) lx).length) wr dg v b4 sa pa fr th2 bs tx li1 lf to → Frm kd r M M1 → V l g yX12_renderSledge cX12_renderSledge ((some .int)) [] 3 0 0 (RI (fun x M9 => ∃ li' th', ((hsl v k ∧ x = nI (slT v k ++ idT v (wL v (10 + k) (v 7).toNatClampNeg) (wN v (10 + k) (v 7).toNatClampNeg)).length ∧ Tl li' (slT v k ++ idT v (wL v (10 + k) (v 7).toNatClampNeg) (wN v (10 + k) (v 7).toNatClampNeg)) ∧ Md kd r M9 m w 0 ch ea fl sv bf tn he en (nI (slT v k ++ idT v (wL v (10 + k) (v 7).toNatClampNeg) (wN v (10 + k) (v 7).toNatClampNeg)).length) wr dg v b4 sa pa fr th' bs tx li' lf to) ∨ (¬ hsl v k ∧ x = 0 ∧ Md kd r M9 m w 1 ch ea fl sv bf tn he en ln wr dg v b4 sa pa fr th bs tx li lf to)) ∧ Frm kd r M M9) nX) X M1 0 0 139 [some (.ref m), some (.int k), some (.int 0), some (.int (nI (wN v (10 + k) (v 7).toNatClampNeg))), some (.int (nI lx))] [] := by
                  clear hT hC hF hMo hw5 hw6 hw7 hw8 hw9 hw10 hw11 hw13 hw14 hw15 hw16 hw17 hw18
                  intro e
                  induction e with
                  | zero =>
                    intro lx hl M1 li1 hT hC hF
                    obtain ⟨hMo, hw5, hw6, hw7, hw8, hw9, hw10, hw11, hw13, hw14, hw15, hw16, hw17, hw18, -⟩ := _root_.id hC
                    have hl0 : lx = (wN v (10 + k) (v 7).toNatClampNeg) := by omega
                    subst hl0
                    refine v_iload dX12_renderSledge_139 rfl ?_
                    refine v_iload_n dX12_renderSledge_141 rfl rfl ?_
                    refine v_icmp_ge (tgt := 173) dX12_renderSledge_142 (by decide) (fun h142 => ?_) (fun h142 => ?_)
                    · refine v_aload_n dX12_renderSledge_173 rfl rfl ?_
                      refine gf_X12_186 dX12_renderSledge_174 rfl hMo ?_
                      exact v_iret dX12_renderSledge_177 rfl ⟨li1, th2, Or.inl ⟨hk9, rfl, hT, hC⟩, hF⟩ (by omega) (by omega)
                    · exact absurd (Int32.le_refl _) h142
                  | succ e ih =>
                    intro lx hl M1 li1 hT hC hF
                    obtain ⟨hMo, hw5, hw6, hw7, hw8, hw9, hw10, hw11, hw13, hw14, hw15, hw16, hw17, hw18, -⟩ := _root_.id hC
                    have hl9 : lx < (wN v (10 + k) (v 7).toNatClampNeg) := by omega
                    have hlt9 : nI lx < nI (wN v (10 + k) (v 7).toNatClampNeg) := (nI_lt4 (by omega) (by omega)).mpr hl9
                    obtain ⟨b0, b1⟩ := nI12 lx (by omega)
                    obtain ⟨i9, j1, j2, j3⟩ := wL_at hl9
                    have ht9 : th2 (nI lx) = nI i9 := (hT2 lx hl9).trans j2
                    obtain ⟨j4, j5, j6⟩ := nI_below hg6 j1
                    obtain ⟨q1, q2, q3, q4, q5, q6, q7, q8, q9, q10, -, -, -, q14⟩ := hgL _ j4 j5
                    have y6 : lt v (nI i9) 0 < 1000000 := Int32.lt_trans (hN9 _ j4 j5) h4
                    have hlen : (slT v k ++ idT v (wL v (10 + k) (v 7).toNatClampNeg) lx).length + 8 < 120 := by
                      have := idT_len (σ := v) (L := (wL v (10 + k) (v 7).toNatClampNeg)) lx
                      rw [List.length_append]
                      omega
                    have hi := ih (lx + 1) (by omega)
                    rw [idT_1, j2, ← List.append_assoc] at hi
                    clear ih
                    refine v_iload dX12_renderSledge_139 rfl ?_
                    refine v_iload_n dX12_renderSledge_141 rfl rfl ?_
                    refine v_icmp_ge (tgt := 173) dX12_renderSledge_142 (by decide) (fun h142 => ?_) (fun h142 => ?_)
                    · exact absurd h142 (Int32.not_le.mpr hlt9)
                    · refine v_aload_n dX12_renderSledge_145 rfl rfl ?_
                      refine v_bipush (v := (35)) dX12_renderSledge_146 (by decide) ?_
                      refine v_aload_n dX12_renderSledge_148 rfl rfl ?_
                      refine gf_X12_16 dX12_renderSledge_149 rfl hMo ?_
                      refine v_aload_n dX12_renderSledge_152 rfl rfl ?_
                      refine gf_X12_32 dX12_renderSledge_153 rfl hMo ?_
                      refine v_iload dX12_renderSledge_156 rfl ?_
                      refine v_iald dX12_renderSledge_158 hw10 b0 b1 ?_
                      rw [ht9]
                      refine v_iconst (v := 0) dX12_renderSledge_159 (by decide) ?_
                      refine k_X12_70 dX12_renderSledge_160 rfl (r_of htr (nI i9) 0) (Nat.le_of_ble_eq_true rfl) (by omega) (by omega) (Nat.le_of_ble_eq_true rfl) (fun r160 M9 h9 => ?_) (fun _ _ h9 => h9.elim)
                      obtain ⟨rfl, e9⟩ := h9
                      subst M9
                      refine v_iald dX12_renderSledge_163 hw5 (by clear hi hgL hN9 hT hT2 hSL hC hF hG; lia) (by clear hi hgL hN9 hT hT2 hSL hC hF hG; lia) ?_
                      refine k_X12_195 dX12_renderSledge_164 rfl (r_writesBehind htr hC hT rfl q14 y6 hlen 35) hMo (Nat.le_of_ble_eq_true rfl) (by omega) (by omega) (Nat.le_of_ble_eq_true rfl) (fun M9 h9 => ?_) (fun _ _ h9 => h9.elim)
                      obtain ⟨li9, hT, hC, hF9⟩ := h9
                      have hF := Frm.tr hF hF9
                      obtain ⟨hMo, hw5, hw6, hw7, hw8, hw9, hw10, hw11, hw13, hw14, hw15, hw16, hw17, hw18, -⟩ := _root_.id hC
                      refine v_iinc_4 dX12_renderSledge_167 rfl ?_
                      refine v_goto (tgt := 139) dX12_renderSledge_170 (by decide) ?_
                      rw [show nI lx + Int32.ofInt 1 = nI (lx + 1) from nI_1 lx]
                      exact hi _ li9 hT hC hF
                exact key1 (wN v (10 + k) (v 7).toNatClampNeg) 0 (by omega) _ li9 (by rw [show idT v (wL v (10 + k) (v 7).toNatClampNeg) 0 = [] from rfl, List.append_nil]; exact hT) (by rw [show idT v (wL v (10 + k) (v 7).toNatClampNeg) 0 = [] from rfl, List.append_nil]; exact hC) hF
            · refine v_aload_n dX12_renderSledge_111 rfl rfl ?_
              refine v_bipush (v := (43)) dX12_renderSledge_112 (by decide) ?_
              refine v_aload_n dX12_renderSledge_114 rfl rfl ?_
              refine gf_X12_16 dX12_renderSledge_115 rfl hMo ?_
              refine v_iload_n dX12_renderSledge_118 rfl rfl ?_
              refine v_iconst (v := 2) dX12_renderSledge_119 (by decide) ?_
              refine k_X12_96 dX12_renderSledge_120 rfl (r_in htr k 2) (Nat.le_of_ble_eq_true rfl) (by omega) (by omega) (Nat.le_of_ble_eq_true rfl) (fun r120 M9 h9 => ?_) (fun _ _ h9 => h9.elim)
              obtain ⟨rfl, e9⟩ := h9
              subst M9
              refine v_iald dX12_renderSledge_123 hw5 (by clear hgL hN9 hG; lia) (by clear hgL hN9 hG; lia) ?_
              refine k_X12_195 dX12_renderSledge_124 rfl (r_writesBehind htr hC hT rfl u4 o6 (by simp only [List.length_append, List.length_cons, List.length_nil]; omega) 43) hMo (Nat.le_of_ble_eq_true rfl) (by omega) (by omega) (Nat.le_of_ble_eq_true rfl) (fun M9 h9 => ?_) (fun _ _ h9 => h9.elim)
              obtain ⟨li9, hT, hC, hF9⟩ := h9
              have hF := Frm.tr hF hF9
              obtain ⟨hMo, hw5, hw6, hw7, hw8, hw9, hw10, hw11, hw13, hw14, hw15, hw16, hw17, hw18, -⟩ := _root_.id hC
              refine v_aload_n dX12_renderSledge_127 rfl rfl ?_
              refine v_bipush (v := (10)) dX12_renderSledge_128 (by decide) ?_
              refine v_iload_n dX12_renderSledge_130 rfl rfl ?_
              refine v_iadd dX12_renderSledge_131 ?_
              refine k_X12_121 dX12_renderSledge_132 rfl (r_waits htr hC hG (10 + k)) hMo (Nat.le_of_ble_eq_true rfl) (by omega) (by omega) (Nat.le_of_ble_eq_true rfl) (fun r132 M9 h9 => ?_) (fun _ _ h9 => h9.elim)
              obtain ⟨rfl, th2, hT2, hC, hF9⟩ := h9
              have hF := Frm.tr hF hF9
              obtain ⟨hMo, hw5, hw6, hw7, hw8, hw9, hw10, hw11, hw13, hw14, hw15, hw16, hw17, hw18, -⟩ := _root_.id hC
              refine v_istore_3 dX12_renderSledge_135 ?_
              refine v_iconst (v := 0) dX12_renderSledge_136 (by decide) ?_
              refine v_istore_4 dX12_renderSledge_137 ?_
              first | (exfalso; revert h84 h108; decide) | (exfalso; revert h84; decide) | (exfalso; revert h108; decide) | skip
              all_goals
                have hSL : slT v k = _ := if_neg (Int32.not_lt.mpr h73)
                have hW : (wN v (10 + k) (v 7).toNatClampNeg) ≤ 12 := Nat.le_trans (wL_len (v 7).toNatClampNeg) hG.LB.1
                have hsl34 := slT_len (σ := v) (k := k)
                rw [List.nil_append, ← hSL] at hT hC
                have key1 : ∀ e lx, lx + e = (wN v (10 + k) (v 7).toNatClampNeg) → ∀ (M1 : LH) (li1 : Int32 → Int32), Tl li1 (slT v k ++ idT v (wL v (10 + k) (v 7).toNatClampNeg) lx) → Md kd r M1 m w 0 ch ea fl sv bf tn he en (nI (slT v k ++ idT v (wL v (10 + k) (v 7).toNatClampNeg) lx).length) wr dg v b4 sa pa fr th2 bs tx li1 lf to → Frm kd r M M1 → V l g yX12_renderSledge cX12_renderSledge ((some .int)) [] 3 0 0 (RI (fun x M9 => ∃ li' th', ((hsl v k ∧ x = nI (slT v k ++ idT v (wL v (10 + k) (v 7).toNatClampNeg) (wN v (10 + k) (v 7).toNatClampNeg)).length ∧ Tl li' (slT v k ++ idT v (wL v (10 + k) (v 7).toNatClampNeg) (wN v (10 + k) (v 7).toNatClampNeg)) ∧ Md kd r M9 m w 0 ch ea fl sv bf tn he en (nI (slT v k ++ idT v (wL v (10 + k) (v 7).toNatClampNeg) (wN v (10 + k) (v 7).toNatClampNeg)).length) wr dg v b4 sa pa fr th' bs tx li' lf to) ∨ (¬ hsl v k ∧ x = 0 ∧ Md kd r M9 m w 1 ch ea fl sv bf tn he en ln wr dg v b4 sa pa fr th bs tx li lf to)) ∧ Frm kd r M M9) nX) X M1 0 0 139 [some (.ref m), some (.int k), some (.int 0), some (.int (nI (wN v (10 + k) (v 7).toNatClampNeg))), some (.int (nI lx))] [] := by
                  clear hT hC hF hMo hw5 hw6 hw7 hw8 hw9 hw10 hw11 hw13 hw14 hw15 hw16 hw17 hw18
                  intro e
                  induction e with
                  | zero =>
                    intro lx hl M1 li1 hT hC hF
                    obtain ⟨hMo, hw5, hw6, hw7, hw8, hw9, hw10, hw11, hw13, hw14, hw15, hw16, hw17, hw18, -⟩ := _root_.id hC
                    have hl0 : lx = (wN v (10 + k) (v 7).toNatClampNeg) := by omega
                    subst hl0
                    refine v_iload dX12_renderSledge_139 rfl ?_
                    refine v_iload_n dX12_renderSledge_141 rfl rfl ?_
                    refine v_icmp_ge (tgt := 173) dX12_renderSledge_142 (by decide) (fun h142 => ?_) (fun h142 => ?_)
                    · refine v_aload_n dX12_renderSledge_173 rfl rfl ?_
                      refine gf_X12_186 dX12_renderSledge_174 rfl hMo ?_
                      exact v_iret dX12_renderSledge_177 rfl ⟨li1, th2, Or.inl ⟨hk9, rfl, hT, hC⟩, hF⟩ (by omega) (by omega)
                    · exact absurd (Int32.le_refl _) h142
                  | succ e ih =>
                    intro lx hl M1 li1 hT hC hF
                    obtain ⟨hMo, hw5, hw6, hw7, hw8, hw9, hw10, hw11, hw13, hw14, hw15, hw16, hw17, hw18, -⟩ := _root_.id hC
                    have hl9 : lx < (wN v (10 + k) (v 7).toNatClampNeg) := by omega
                    have hlt9 : nI lx < nI (wN v (10 + k) (v 7).toNatClampNeg) := (nI_lt4 (by omega) (by omega)).mpr hl9
                    obtain ⟨b0, b1⟩ := nI12 lx (by omega)
                    obtain ⟨i9, j1, j2, j3⟩ := wL_at hl9
                    have ht9 : th2 (nI lx) = nI i9 := (hT2 lx hl9).trans j2
                    obtain ⟨j4, j5, j6⟩ := nI_below hg6 j1
                    obtain ⟨q1, q2, q3, q4, q5, q6, q7, q8, q9, q10, -, -, -, q14⟩ := hgL _ j4 j5
                    have y6 : lt v (nI i9) 0 < 1000000 := Int32.lt_trans (hN9 _ j4 j5) h4
                    have hlen : (slT v k ++ idT v (wL v (10 + k) (v 7).toNatClampNeg) lx).length + 8 < 120 := by
                      have := idT_len (σ := v) (L := (wL v (10 + k) (v 7).toNatClampNeg)) lx
                      rw [List.length_append]
                      omega
                    have hi := ih (lx + 1) (by omega)
                    rw [idT_1, j2, ← List.append_assoc] at hi
                    clear ih
                    refine v_iload dX12_renderSledge_139 rfl ?_
                    refine v_iload_n dX12_renderSledge_141 rfl rfl ?_
                    refine v_icmp_ge (tgt := 173) dX12_renderSledge_142 (by decide) (fun h142 => ?_) (fun h142 => ?_)
                    · exact absurd h142 (Int32.not_le.mpr hlt9)
                    · refine v_aload_n dX12_renderSledge_145 rfl rfl ?_
                      refine v_bipush (v := (35)) dX12_renderSledge_146 (by decide) ?_
                      refine v_aload_n dX12_renderSledge_148 rfl rfl ?_
                      refine gf_X12_16 dX12_renderSledge_149 rfl hMo ?_
                      refine v_aload_n dX12_renderSledge_152 rfl rfl ?_
                      refine gf_X12_32 dX12_renderSledge_153 rfl hMo ?_
                      refine v_iload dX12_renderSledge_156 rfl ?_
                      refine v_iald dX12_renderSledge_158 hw10 b0 b1 ?_
                      rw [ht9]
                      refine v_iconst (v := 0) dX12_renderSledge_159 (by decide) ?_
                      refine k_X12_70 dX12_renderSledge_160 rfl (r_of htr (nI i9) 0) (Nat.le_of_ble_eq_true rfl) (by omega) (by omega) (Nat.le_of_ble_eq_true rfl) (fun r160 M9 h9 => ?_) (fun _ _ h9 => h9.elim)
                      obtain ⟨rfl, e9⟩ := h9
                      subst M9
                      refine v_iald dX12_renderSledge_163 hw5 (by clear hi hgL hN9 hT hT2 hSL hC hF hG; lia) (by clear hi hgL hN9 hT hT2 hSL hC hF hG; lia) ?_
                      refine k_X12_195 dX12_renderSledge_164 rfl (r_writesBehind htr hC hT rfl q14 y6 hlen 35) hMo (Nat.le_of_ble_eq_true rfl) (by omega) (by omega) (Nat.le_of_ble_eq_true rfl) (fun M9 h9 => ?_) (fun _ _ h9 => h9.elim)
                      obtain ⟨li9, hT, hC, hF9⟩ := h9
                      have hF := Frm.tr hF hF9
                      obtain ⟨hMo, hw5, hw6, hw7, hw8, hw9, hw10, hw11, hw13, hw14, hw15, hw16, hw17, hw18, -⟩ := _root_.id hC
                      refine v_iinc_4 dX12_renderSledge_167 rfl ?_
                      refine v_goto (tgt := 139) dX12_renderSledge_170 (by decide) ?_
                      rw [show nI lx + Int32.ofInt 1 = nI (lx + 1) from nI_1 lx]
                      exact hi _ li9 hT hC hF
                exact key1 (wN v (10 + k) (v 7).toNatClampNeg) 0 (by omega) _ li9 (by rw [show idT v (wL v (10 + k) (v 7).toNatClampNeg) 0 = [] from rfl, List.append_nil]; exact hT) (by rw [show idT v (wL v (10 + k) (v 7).toNatClampNeg) 0 = [] from rfl, List.append_nil]; exact hC) hF
          · refine v_bipush (v := (62)) dX12_renderSledge_87 (by decide) ?_
            refine v_goto (tgt := 94) dX12_renderSledge_89 (by decide) ?_
            refine v_aload_n dX12_renderSledge_94 rfl rfl ?_
            refine gf_X12_16 dX12_renderSledge_95 rfl hMo ?_
            refine v_iload_n dX12_renderSledge_98 rfl rfl ?_
            refine v_iconst (v := 1) dX12_renderSledge_99 (by decide) ?_
            refine k_X12_96 dX12_renderSledge_100 rfl (r_in htr k 1) (Nat.le_of_ble_eq_true rfl) (by omega) (by omega) (Nat.le_of_ble_eq_true rfl) (fun r100 M9 h9 => ?_) (fun _ _ h9 => h9.elim)
            obtain ⟨rfl, e9⟩ := h9
            subst M9
            refine v_iald dX12_renderSledge_103 hw5 (by clear hgL hN9 hG; lia) (by clear hgL hN9 hG; lia) ?_
            refine k_X12_195 dX12_renderSledge_104 rfl (r_writesBehind htr hC hT rfl u2 a6 (by simp only [List.length_append, List.length_cons, List.length_nil]; omega) _) hMo (Nat.le_of_ble_eq_true rfl) (by omega) (by omega) (Nat.le_of_ble_eq_true rfl) (fun M9 h9 => ?_) (fun _ _ h9 => h9.elim)
            obtain ⟨li9, hT, hC, hF9⟩ := h9
            have hF := Frm.tr hF hF9
            obtain ⟨hMo, hw5, hw6, hw7, hw8, hw9, hw10, hw11, hw13, hw14, hw15, hw16, hw17, hw18, -⟩ := _root_.id hC
            refine v_iload_n dX12_renderSledge_107 rfl rfl ?_
            refine v_if_eq (tgt := 127) dX12_renderSledge_108 (by decide) (fun h108 => ?_) (fun h108 => ?_)
            · refine v_aload_n dX12_renderSledge_127 rfl rfl ?_
              refine v_bipush (v := (10)) dX12_renderSledge_128 (by decide) ?_
              refine v_iload_n dX12_renderSledge_130 rfl rfl ?_
              refine v_iadd dX12_renderSledge_131 ?_
              refine k_X12_121 dX12_renderSledge_132 rfl (r_waits htr hC hG (10 + k)) hMo (Nat.le_of_ble_eq_true rfl) (by omega) (by omega) (Nat.le_of_ble_eq_true rfl) (fun r132 M9 h9 => ?_) (fun _ _ h9 => h9.elim)
              obtain ⟨rfl, th2, hT2, hC, hF9⟩ := h9
              have hF := Frm.tr hF hF9
              obtain ⟨hMo, hw5, hw6, hw7, hw8, hw9, hw10, hw11, hw13, hw14, hw15, hw16, hw17, hw18, -⟩ := _root_.id hC
              refine v_istore_3 dX12_renderSledge_135 ?_
              refine v_iconst (v := 0) dX12_renderSledge_136 (by decide) ?_
              refine v_istore_4 dX12_renderSledge_137 ?_
              first | (exfalso; revert h84 h108; decide) | (exfalso; revert h84; decide) | (exfalso; revert h108; decide) | skip
              all_goals
                have hSL : slT v k = _ := if_neg (Int32.not_lt.mpr h73)
                have hW : (wN v (10 + k) (v 7).toNatClampNeg) ≤ 12 := Nat.le_trans (wL_len (v 7).toNatClampNeg) hG.LB.1
                have hsl34 := slT_len (σ := v) (k := k)
                rw [List.nil_append, ← hSL] at hT hC
                have key1 : ∀ e lx, lx + e = (wN v (10 + k) (v 7).toNatClampNeg) → ∀ (M1 : LH) (li1 : Int32 → Int32), Tl li1 (slT v k ++ idT v (wL v (10 + k) (v 7).toNatClampNeg) lx) → Md kd r M1 m w 0 ch ea fl sv bf tn he en (nI (slT v k ++ idT v (wL v (10 + k) (v 7).toNatClampNeg) lx).length) wr dg v b4 sa pa fr th2 bs tx li1 lf to → Frm kd r M M1 → V l g yX12_renderSledge cX12_renderSledge ((some .int)) [] 3 0 0 (RI (fun x M9 => ∃ li' th', ((hsl v k ∧ x = nI (slT v k ++ idT v (wL v (10 + k) (v 7).toNatClampNeg) (wN v (10 + k) (v 7).toNatClampNeg)).length ∧ Tl li' (slT v k ++ idT v (wL v (10 + k) (v 7).toNatClampNeg) (wN v (10 + k) (v 7).toNatClampNeg)) ∧ Md kd r M9 m w 0 ch ea fl sv bf tn he en (nI (slT v k ++ idT v (wL v (10 + k) (v 7).toNatClampNeg) (wN v (10 + k) (v 7).toNatClampNeg)).length) wr dg v b4 sa pa fr th' bs tx li' lf to) ∨ (¬ hsl v k ∧ x = 0 ∧ Md kd r M9 m w 1 ch ea fl sv bf tn he en ln wr dg v b4 sa pa fr th bs tx li lf to)) ∧ Frm kd r M M9) nX) X M1 0 0 139 [some (.ref m), some (.int k), some (.int 0), some (.int (nI (wN v (10 + k) (v 7).toNatClampNeg))), some (.int (nI lx))] [] := by
                  clear hT hC hF hMo hw5 hw6 hw7 hw8 hw9 hw10 hw11 hw13 hw14 hw15 hw16 hw17 hw18
                  intro e
                  induction e with
                  | zero =>
                    intro lx hl M1 li1 hT hC hF
                    obtain ⟨hMo, hw5, hw6, hw7, hw8, hw9, hw10, hw11, hw13, hw14, hw15, hw16, hw17, hw18, -⟩ := _root_.id hC
                    have hl0 : lx = (wN v (10 + k) (v 7).toNatClampNeg) := by omega
                    subst hl0
                    refine v_iload dX12_renderSledge_139 rfl ?_
                    refine v_iload_n dX12_renderSledge_141 rfl rfl ?_
                    refine v_icmp_ge (tgt := 173) dX12_renderSledge_142 (by decide) (fun h142 => ?_) (fun h142 => ?_)
                    · refine v_aload_n dX12_renderSledge_173 rfl rfl ?_
                      refine gf_X12_186 dX12_renderSledge_174 rfl hMo ?_
                      exact v_iret dX12_renderSledge_177 rfl ⟨li1, th2, Or.inl ⟨hk9, rfl, hT, hC⟩, hF⟩ (by omega) (by omega)
                    · exact absurd (Int32.le_refl _) h142
                  | succ e ih =>
                    intro lx hl M1 li1 hT hC hF
                    obtain ⟨hMo, hw5, hw6, hw7, hw8, hw9, hw10, hw11, hw13, hw14, hw15, hw16, hw17, hw18, -⟩ := _root_.id hC
                    have hl9 : lx < (wN v (10 + k) (v 7).toNatClampNeg) := by omega
                    have hlt9 : nI lx < nI (wN v (10 + k) (v 7).toNatClampNeg) := (nI_lt4 (by omega) (by omega)).mpr hl9
                    obtain ⟨b0, b1⟩ := nI12 lx (by omega)
                    obtain ⟨i9, j1, j2, j3⟩ := wL_at hl9
                    have ht9 : th2 (nI lx) = nI i9 := (hT2 lx hl9).trans j2
                    obtain ⟨j4, j5, j6⟩ := nI_below hg6 j1
                    obtain ⟨q1, q2, q3, q4, q5, q6, q7, q8, q9, q10, -, -, -, q14⟩ := hgL _ j4 j5
                    have y6 : lt v (nI i9) 0 < 1000000 := Int32.lt_trans (hN9 _ j4 j5) h4
                    have hlen : (slT v k ++ idT v (wL v (10 + k) (v 7).toNatClampNeg) lx).length + 8 < 120 := by
                      have := idT_len (σ := v) (L := (wL v (10 + k) (v 7).toNatClampNeg)) lx
                      rw [List.length_append]
                      omega
                    have hi := ih (lx + 1) (by omega)
                    rw [idT_1, j2, ← List.append_assoc] at hi
                    clear ih
                    refine v_iload dX12_renderSledge_139 rfl ?_
                    refine v_iload_n dX12_renderSledge_141 rfl rfl ?_
                    refine v_icmp_ge (tgt := 173) dX12_renderSledge_142 (by decide) (fun h142 => ?_) (fun h142 => ?_)
                    · exact absurd h142 (Int32.not_le.mpr hlt9)
                    · refine v_aload_n dX12_renderSledge_145 rfl rfl ?_
                      refine v_bipush (v := (35)) dX12_renderSledge_146 (by decide) ?_
                      refine v_aload_n dX12_renderSledge_148 rfl rfl ?_
                      refine gf_X12_16 dX12_renderSledge_149 rfl hMo ?_
                      refine v_aload_n dX12_renderSledge_152 rfl rfl ?_
                      refine gf_X12_32 dX12_renderSledge_153 rfl hMo ?_
                      refine v_iload dX12_renderSledge_156 rfl ?_
                      refine v_iald dX12_renderSledge_158 hw10 b0 b1 ?_
                      rw [ht9]
                      refine v_iconst (v := 0) dX12_renderSledge_159 (by decide) ?_
                      refine k_X12_70 dX12_renderSledge_160 rfl (r_of htr (nI i9) 0) (Nat.le_of_ble_eq_true rfl) (by omega) (by omega) (Nat.le_of_ble_eq_true rfl) (fun r160 M9 h9 => ?_) (fun _ _ h9 => h9.elim)
                      obtain ⟨rfl, e9⟩ := h9
                      subst M9
                      refine v_iald dX12_renderSledge_163 hw5 (by clear hi hgL hN9 hT hT2 hSL hC hF hG; lia) (by clear hi hgL hN9 hT hT2 hSL hC hF hG; lia) ?_
                      refine k_X12_195 dX12_renderSledge_164 rfl (r_writesBehind htr hC hT rfl q14 y6 hlen 35) hMo (Nat.le_of_ble_eq_true rfl) (by omega) (by omega) (Nat.le_of_ble_eq_true rfl) (fun M9 h9 => ?_) (fun _ _ h9 => h9.elim)
                      obtain ⟨li9, hT, hC, hF9⟩ := h9
                      have hF := Frm.tr hF hF9
                      obtain ⟨hMo, hw5, hw6, hw7, hw8, hw9, hw10, hw11, hw13, hw14, hw15, hw16, hw17, hw18, -⟩ := _root_.id hC
                      refine v_iinc_4 dX12_renderSledge_167 rfl ?_
                      refine v_goto (tgt := 139) dX12_renderSledge_170 (by decide) ?_
                      rw [show nI lx + Int32.ofInt 1 = nI (lx + 1) from nI_1 lx]
                      exact hi _ li9 hT hC hF
                exact key1 (wN v (10 + k) (v 7).toNatClampNeg) 0 (by omega) _ li9 (by rw [show idT v (wL v (10 + k) (v 7).toNatClampNeg) 0 = [] from rfl, List.append_nil]; exact hT) (by rw [show idT v (wL v (10 + k) (v 7).toNatClampNeg) 0 = [] from rfl, List.append_nil]; exact hC) hF
            · refine v_aload_n dX12_renderSledge_111 rfl rfl ?_
              refine v_bipush (v := (43)) dX12_renderSledge_112 (by decide) ?_
              refine v_aload_n dX12_renderSledge_114 rfl rfl ?_
              refine gf_X12_16 dX12_renderSledge_115 rfl hMo ?_
              refine v_iload_n dX12_renderSledge_118 rfl rfl ?_
              refine v_iconst (v := 2) dX12_renderSledge_119 (by decide) ?_
              refine k_X12_96 dX12_renderSledge_120 rfl (r_in htr k 2) (Nat.le_of_ble_eq_true rfl) (by omega) (by omega) (Nat.le_of_ble_eq_true rfl) (fun r120 M9 h9 => ?_) (fun _ _ h9 => h9.elim)
              obtain ⟨rfl, e9⟩ := h9
              subst M9
              refine v_iald dX12_renderSledge_123 hw5 (by clear hgL hN9 hG; lia) (by clear hgL hN9 hG; lia) ?_
              refine k_X12_195 dX12_renderSledge_124 rfl (r_writesBehind htr hC hT rfl u4 o6 (by simp only [List.length_append, List.length_cons, List.length_nil]; omega) 43) hMo (Nat.le_of_ble_eq_true rfl) (by omega) (by omega) (Nat.le_of_ble_eq_true rfl) (fun M9 h9 => ?_) (fun _ _ h9 => h9.elim)
              obtain ⟨li9, hT, hC, hF9⟩ := h9
              have hF := Frm.tr hF hF9
              obtain ⟨hMo, hw5, hw6, hw7, hw8, hw9, hw10, hw11, hw13, hw14, hw15, hw16, hw17, hw18, -⟩ := _root_.id hC
              refine v_aload_n dX12_renderSledge_127 rfl rfl ?_
              refine v_bipush (v := (10)) dX12_renderSledge_128 (by decide) ?_
              refine v_iload_n dX12_renderSledge_130 rfl rfl ?_
              refine v_iadd dX12_renderSledge_131 ?_
              refine k_X12_121 dX12_renderSledge_132 rfl (r_waits htr hC hG (10 + k)) hMo (Nat.le_of_ble_eq_true rfl) (by omega) (by omega) (Nat.le_of_ble_eq_true rfl) (fun r132 M9 h9 => ?_) (fun _ _ h9 => h9.elim)
              obtain ⟨rfl, th2, hT2, hC, hF9⟩ := h9
              have hF := Frm.tr hF hF9
              obtain ⟨hMo, hw5, hw6, hw7, hw8, hw9, hw10, hw11, hw13, hw14, hw15, hw16, hw17, hw18, -⟩ := _root_.id hC
              refine v_istore_3 dX12_renderSledge_135 ?_
              refine v_iconst (v := 0) dX12_renderSledge_136 (by decide) ?_
              refine v_istore_4 dX12_renderSledge_137 ?_
              first | (exfalso; revert h84 h108; decide) | (exfalso; revert h84; decide) | (exfalso; revert h108; decide) | skip
              all_goals
                have hSL : slT v k = _ := if_neg (Int32.not_lt.mpr h73)
                have hW : (wN v (10 + k) (v 7).toNatClampNeg) ≤ 12 := Nat.le_trans (wL_len (v 7).toNatClampNeg) hG.LB.1
                have hsl34 := slT_len (σ := v) (k := k)
                rw [List.nil_append, ← hSL] at hT hC
                have key1 : ∀ e lx, lx + e = (wN v (10 + k) (v 7).toNatClampNeg) → ∀ (M1 : LH) (li1 : Int32 → Int32), Tl li1 (slT v k ++ idT v (wL v (10 + k) (v 7).toNatClampNeg) lx) → Md kd r M1 m w 0 ch ea fl sv bf tn he en (nI (slT v k ++ idT v (wL v (10 + k) (v 7).toNatClampNeg) lx).length) wr dg v b4 sa pa fr th2 bs tx li1 lf to → Frm kd r M M1 → V l g yX12_renderSledge cX12_renderSledge ((some .int)) [] 3 0 0 (RI (fun x M9 => ∃ li' th', ((hsl v k ∧ x = nI (slT v k ++ idT v (wL v (10 + k) (v 7).toNatClampNeg) (wN v (10 + k) (v 7).toNatClampNeg)).length ∧ Tl li' (slT v k ++ idT v (wL v (10 + k) (v 7).toNatClampNeg) (wN v (10 + k) (v 7).toNatClampNeg)) ∧ Md kd r M9 m w 0 ch ea fl sv bf tn he en (nI (slT v k ++ idT v (wL v (10 + k) (v 7).toNatClampNeg) (wN v (10 + k) (v 7).toNatClampNeg)).length) wr dg v b4 sa pa fr th' bs tx li' lf to) ∨ (¬ hsl v k ∧ x = 0 ∧ Md kd r M9 m w 1 ch ea fl sv bf tn he en ln wr dg v b4 sa pa fr th bs tx li lf to)) ∧ Frm kd r M M9) nX) X M1 0 0 139 [some (.ref m), some (.int k), some (.int 0), some (.int (nI (wN v (10 + k) (v 7).toNatClampNeg))), some (.int (nI lx))] [] := by
                  clear hT hC hF hMo hw5 hw6 hw7 hw8 hw9 hw10 hw11 hw13 hw14 hw15 hw16 hw17 hw18
                  intro e
                  induction e with
                  | zero =>
                    intro lx hl M1 li1 hT hC hF
                    obtain ⟨hMo, hw5, hw6, hw7, hw8, hw9, hw10, hw11, hw13, hw14, hw15, hw16, hw17, hw18, -⟩ := _root_.id hC
                    have hl0 : lx = (wN v (10 + k) (v 7).toNatClampNeg) := by omega
                    subst hl0
                    refine v_iload dX12_renderSledge_139 rfl ?_
                    refine v_iload_n dX12_renderSledge_141 rfl rfl ?_
                    refine v_icmp_ge (tgt := 173) dX12_renderSledge_142 (by decide) (fun h142 => ?_) (fun h142 => ?_)
                    · refine v_aload_n dX12_renderSledge_173 rfl rfl ?_
                      refine gf_X12_186 dX12_renderSledge_174 rfl hMo ?_
                      exact v_iret dX12_renderSledge_177 rfl ⟨li1, th2, Or.inl ⟨hk9, rfl, hT, hC⟩, hF⟩ (by omega) (by omega)
                    · exact absurd (Int32.le_refl _) h142
                  | succ e ih =>
                    intro lx hl M1 li1 hT hC hF
                    obtain ⟨hMo, hw5, hw6, hw7, hw8, hw9, hw10, hw11, hw13, hw14, hw15, hw16, hw17, hw18, -⟩ := _root_.id hC
                    have hl9 : lx < (wN v (10 + k) (v 7).toNatClampNeg) := by omega
                    have hlt9 : nI lx < nI (wN v (10 + k) (v 7).toNatClampNeg) := (nI_lt4 (by omega) (by omega)).mpr hl9
                    obtain ⟨b0, b1⟩ := nI12 lx (by omega)
                    obtain ⟨i9, j1, j2, j3⟩ := wL_at hl9
                    have ht9 : th2 (nI lx) = nI i9 := (hT2 lx hl9).trans j2
                    obtain ⟨j4, j5, j6⟩ := nI_below hg6 j1
                    obtain ⟨q1, q2, q3, q4, q5, q6, q7, q8, q9, q10, -, -, -, q14⟩ := hgL _ j4 j5
                    have y6 : lt v (nI i9) 0 < 1000000 := Int32.lt_trans (hN9 _ j4 j5) h4
                    have hlen : (slT v k ++ idT v (wL v (10 + k) (v 7).toNatClampNeg) lx).length + 8 < 120 := by
                      have := idT_len (σ := v) (L := (wL v (10 + k) (v 7).toNatClampNeg)) lx
                      rw [List.length_append]
                      omega
                    have hi := ih (lx + 1) (by omega)
                    rw [idT_1, j2, ← List.append_assoc] at hi
                    clear ih
                    refine v_iload dX12_renderSledge_139 rfl ?_
                    refine v_iload_n dX12_renderSledge_141 rfl rfl ?_
                    refine v_icmp_ge (tgt := 173) dX12_renderSledge_142 (by decide) (fun h142 => ?_) (fun h142 => ?_)
                    · exact absurd h142 (Int32.not_le.mpr hlt9)
                    · refine v_aload_n dX12_renderSledge_145 rfl rfl ?_
                      refine v_bipush (v := (35)) dX12_renderSledge_146 (by decide) ?_
                      refine v_aload_n dX12_renderSledge_148 rfl rfl ?_
                      refine gf_X12_16 dX12_renderSledge_149 rfl hMo ?_
                      refine v_aload_n dX12_renderSledge_152 rfl rfl ?_
                      refine gf_X12_32 dX12_renderSledge_153 rfl hMo ?_
                      refine v_iload dX12_renderSledge_156 rfl ?_
                      refine v_iald dX12_renderSledge_158 hw10 b0 b1 ?_
                      rw [ht9]
                      refine v_iconst (v := 0) dX12_renderSledge_159 (by decide) ?_
                      refine k_X12_70 dX12_renderSledge_160 rfl (r_of htr (nI i9) 0) (Nat.le_of_ble_eq_true rfl) (by omega) (by omega) (Nat.le_of_ble_eq_true rfl) (fun r160 M9 h9 => ?_) (fun _ _ h9 => h9.elim)
                      obtain ⟨rfl, e9⟩ := h9
                      subst M9
                      refine v_iald dX12_renderSledge_163 hw5 (by clear hi hgL hN9 hT hT2 hSL hC hF hG; lia) (by clear hi hgL hN9 hT hT2 hSL hC hF hG; lia) ?_
                      refine k_X12_195 dX12_renderSledge_164 rfl (r_writesBehind htr hC hT rfl q14 y6 hlen 35) hMo (Nat.le_of_ble_eq_true rfl) (by omega) (by omega) (Nat.le_of_ble_eq_true rfl) (fun M9 h9 => ?_) (fun _ _ h9 => h9.elim)
                      obtain ⟨li9, hT, hC, hF9⟩ := h9
                      have hF := Frm.tr hF hF9
                      obtain ⟨hMo, hw5, hw6, hw7, hw8, hw9, hw10, hw11, hw13, hw14, hw15, hw16, hw17, hw18, -⟩ := _root_.id hC
                      refine v_iinc_4 dX12_renderSledge_167 rfl ?_
                      refine v_goto (tgt := 139) dX12_renderSledge_170 (by decide) ?_
                      rw [show nI lx + Int32.ofInt 1 = nI (lx + 1) from nI_1 lx]
                      exact hi _ li9 hT hC hF
                exact key1 (wN v (10 + k) (v 7).toNatClampNeg) 0 (by omega) _ li9 (by rw [show idT v (wL v (10 + k) (v 7).toNatClampNeg) 0 = [] from rfl, List.append_nil]; exact hT) (by rw [show idT v (wL v (10 + k) (v 7).toNatClampNeg) 0 = [] from rfl, List.append_nil]; exact hC) hF
        · refine v_iconst (v := 1) dX12_renderSledge_76 (by decide) ?_
          refine v_goto (tgt := 81) dX12_renderSledge_77 (by decide) ?_
          refine v_istore_2 dX12_renderSledge_81 ?_
          refine v_aload_n dX12_renderSledge_82 rfl rfl ?_
          refine v_iload_n dX12_renderSledge_83 rfl rfl ?_
          refine v_if_eq (tgt := 92) dX12_renderSledge_84 (by decide) (fun h84 => ?_) (fun h84 => ?_)
          · refine v_bipush (v := (64)) dX12_renderSledge_92 (by decide) ?_
            refine v_aload_n dX12_renderSledge_94 rfl rfl ?_
            refine gf_X12_16 dX12_renderSledge_95 rfl hMo ?_
            refine v_iload_n dX12_renderSledge_98 rfl rfl ?_
            refine v_iconst (v := 1) dX12_renderSledge_99 (by decide) ?_
            refine k_X12_96 dX12_renderSledge_100 rfl (r_in htr k 1) (Nat.le_of_ble_eq_true rfl) (by omega) (by omega) (Nat.le_of_ble_eq_true rfl) (fun r100 M9 h9 => ?_) (fun _ _ h9 => h9.elim)
            obtain ⟨rfl, e9⟩ := h9
            subst M9
            refine v_iald dX12_renderSledge_103 hw5 (by clear hgL hN9 hG; lia) (by clear hgL hN9 hG; lia) ?_
            refine k_X12_195 dX12_renderSledge_104 rfl (r_writesBehind htr hC hT rfl u2 a6 (by simp only [List.length_append, List.length_cons, List.length_nil]; omega) _) hMo (Nat.le_of_ble_eq_true rfl) (by omega) (by omega) (Nat.le_of_ble_eq_true rfl) (fun M9 h9 => ?_) (fun _ _ h9 => h9.elim)
            obtain ⟨li9, hT, hC, hF9⟩ := h9
            have hF := Frm.tr hF hF9
            obtain ⟨hMo, hw5, hw6, hw7, hw8, hw9, hw10, hw11, hw13, hw14, hw15, hw16, hw17, hw18, -⟩ := _root_.id hC
            refine v_iload_n dX12_renderSledge_107 rfl rfl ?_
            refine v_if_eq (tgt := 127) dX12_renderSledge_108 (by decide) (fun h108 => ?_) (fun h108 => ?_)
            · refine v_aload_n dX12_renderSledge_127 rfl rfl ?_
              refine v_bipush (v := (10)) dX12_renderSledge_128 (by decide) ?_
              refine v_iload_n dX12_renderSledge_130 rfl rfl ?_
              refine v_iadd dX12_renderSledge_131 ?_
              refine k_X12_121 dX12_renderSledge_132 rfl (r_waits htr hC hG (10 + k)) hMo (Nat.le_of_ble_eq_true rfl) (by omega) (by omega) (Nat.le_of_ble_eq_true rfl) (fun r132 M9 h9 => ?_) (fun _ _ h9 => h9.elim)
              obtain ⟨rfl, th2, hT2, hC, hF9⟩ := h9
              have hF := Frm.tr hF hF9
              obtain ⟨hMo, hw5, hw6, hw7, hw8, hw9, hw10, hw11, hw13, hw14, hw15, hw16, hw17, hw18, -⟩ := _root_.id hC
              refine v_istore_3 dX12_renderSledge_135 ?_
              refine v_iconst (v := 0) dX12_renderSledge_136 (by decide) ?_
              refine v_istore_4 dX12_renderSledge_137 ?_
              first | (exfalso; revert h84 h108; decide) | (exfalso; revert h84; decide) | (exfalso; revert h108; decide) | skip
              all_goals
                have hSL : slT v k = _ := if_pos (Int32.not_le.mp h73)
                have hW : (wN v (10 + k) (v 7).toNatClampNeg) ≤ 12 := Nat.le_trans (wL_len (v 7).toNatClampNeg) hG.LB.1
                have hsl34 := slT_len (σ := v) (k := k)
                rw [List.nil_append, ← hSL] at hT hC
                have key1 : ∀ e lx, lx + e = (wN v (10 + k) (v 7).toNatClampNeg) → ∀ (M1 : LH) (li1 : Int32 → Int32), Tl li1 (slT v k ++ idT v (wL v (10 + k) (v 7).toNatClampNeg) lx) → Md kd r M1 m w 0 ch ea fl sv bf tn he en (nI (slT v k ++ idT v (wL v (10 + k) (v 7).toNatClampNeg) lx).length) wr dg v b4 sa pa fr th2 bs tx li1 lf to → Frm kd r M M1 → V l g yX12_renderSledge cX12_renderSledge ((some .int)) [] 3 0 0 (RI (fun x M9 => ∃ li' th', ((hsl v k ∧ x = nI (slT v k ++ idT v (wL v (10 + k) (v 7).toNatClampNeg) (wN v (10 + k) (v 7).toNatClampNeg)).length ∧ Tl li' (slT v k ++ idT v (wL v (10 + k) (v 7).toNatClampNeg) (wN v (10 + k) (v 7).toNatClampNeg)) ∧ Md kd r M9 m w 0 ch ea fl sv bf tn he en (nI (slT v k ++ idT v (wL v (10 + k) (v 7).toNatClampNeg) (wN v (10 + k) (v 7).toNatClampNeg)).length) wr dg v b4 sa pa fr th' bs tx li' lf to) ∨ (¬ hsl v k ∧ x = 0 ∧ Md kd r M9 m w 1 ch ea fl sv bf tn he en ln wr dg v b4 sa pa fr th bs tx li lf to)) ∧ Frm kd r M M9) nX) X M1 0 0 139 [some (.ref m), some (.int k), some (.int 1), some (.int (nI (wN v (10 + k) (v 7).toNatClampNeg))), some (.int (nI lx))] [] := by
                  clear hT hC hF hMo hw5 hw6 hw7 hw8 hw9 hw10 hw11 hw13 hw14 hw15 hw16 hw17 hw18
                  intro e
                  induction e with
                  | zero =>
                    intro lx hl M1 li1 hT hC hF
                    obtain ⟨hMo, hw5, hw6, hw7, hw8, hw9, hw10, hw11, hw13, hw14, hw15, hw16, hw17, hw18, -⟩ := _root_.id hC
                    have hl0 : lx = (wN v (10 + k) (v 7).toNatClampNeg) := by omega
                    subst hl0
                    refine v_iload dX12_renderSledge_139 rfl ?_
                    refine v_iload_n dX12_renderSledge_141 rfl rfl ?_
                    refine v_icmp_ge (tgt := 173) dX12_renderSledge_142 (by decide) (fun h142 => ?_) (fun h142 => ?_)
                    · refine v_aload_n dX12_renderSledge_173 rfl rfl ?_
                      refine gf_X12_186 dX12_renderSledge_174 rfl hMo ?_
                      exact v_iret dX12_renderSledge_177 rfl ⟨li1, th2, Or.inl ⟨hk9, rfl, hT, hC⟩, hF⟩ (by omega) (by omega)
                    · exact absurd (Int32.le_refl _) h142
                  | succ e ih =>
                    intro lx hl M1 li1 hT hC hF
                    obtain ⟨hMo, hw5, hw6, hw7, hw8, hw9, hw10, hw11, hw13, hw14, hw15, hw16, hw17, hw18, -⟩ := _root_.id hC
                    have hl9 : lx < (wN v (10 + k) (v 7).toNatClampNeg) := by omega
                    have hlt9 : nI lx < nI (wN v (10 + k) (v 7).toNatClampNeg) := (nI_lt4 (by omega) (by omega)).mpr hl9
                    obtain ⟨b0, b1⟩ := nI12 lx (by omega)
                    obtain ⟨i9, j1, j2, j3⟩ := wL_at hl9
                    have ht9 : th2 (nI lx) = nI i9 := (hT2 lx hl9).trans j2
                    obtain ⟨j4, j5, j6⟩ := nI_below hg6 j1
                    obtain ⟨q1, q2, q3, q4, q5, q6, q7, q8, q9, q10, -, -, -, q14⟩ := hgL _ j4 j5
                    have y6 : lt v (nI i9) 0 < 1000000 := Int32.lt_trans (hN9 _ j4 j5) h4
                    have hlen : (slT v k ++ idT v (wL v (10 + k) (v 7).toNatClampNeg) lx).length + 8 < 120 := by
                      have := idT_len (σ := v) (L := (wL v (10 + k) (v 7).toNatClampNeg)) lx
                      rw [List.length_append]
                      omega
                    have hi := ih (lx + 1) (by omega)
                    rw [idT_1, j2, ← List.append_assoc] at hi
                    clear ih
                    refine v_iload dX12_renderSledge_139 rfl ?_
                    refine v_iload_n dX12_renderSledge_141 rfl rfl ?_
                    refine v_icmp_ge (tgt := 173) dX12_renderSledge_142 (by decide) (fun h142 => ?_) (fun h142 => ?_)
                    · exact absurd h142 (Int32.not_le.mpr hlt9)
                    · refine v_aload_n dX12_renderSledge_145 rfl rfl ?_
                      refine v_bipush (v := (35)) dX12_renderSledge_146 (by decide) ?_
                      refine v_aload_n dX12_renderSledge_148 rfl rfl ?_
                      refine gf_X12_16 dX12_renderSledge_149 rfl hMo ?_
                      refine v_aload_n dX12_renderSledge_152 rfl rfl ?_
                      refine gf_X12_32 dX12_renderSledge_153 rfl hMo ?_
                      refine v_iload dX12_renderSledge_156 rfl ?_
                      refine v_iald dX12_renderSledge_158 hw10 b0 b1 ?_
                      rw [ht9]
                      refine v_iconst (v := 0) dX12_renderSledge_159 (by decide) ?_
                      refine k_X12_70 dX12_renderSledge_160 rfl (r_of htr (nI i9) 0) (Nat.le_of_ble_eq_true rfl) (by omega) (by omega) (Nat.le_of_ble_eq_true rfl) (fun r160 M9 h9 => ?_) (fun _ _ h9 => h9.elim)
                      obtain ⟨rfl, e9⟩ := h9
                      subst M9
                      refine v_iald dX12_renderSledge_163 hw5 (by clear hi hgL hN9 hT hT2 hSL hC hF hG; lia) (by clear hi hgL hN9 hT hT2 hSL hC hF hG; lia) ?_
                      refine k_X12_195 dX12_renderSledge_164 rfl (r_writesBehind htr hC hT rfl q14 y6 hlen 35) hMo (Nat.le_of_ble_eq_true rfl) (by omega) (by omega) (Nat.le_of_ble_eq_true rfl) (fun M9 h9 => ?_) (fun _ _ h9 => h9.elim)
                      obtain ⟨li9, hT, hC, hF9⟩ := h9
                      have hF := Frm.tr hF hF9
                      obtain ⟨hMo, hw5, hw6, hw7, hw8, hw9, hw10, hw11, hw13, hw14, hw15, hw16, hw17, hw18, -⟩ := _root_.id hC
                      refine v_iinc_4 dX12_renderSledge_167 rfl ?_
                      refine v_goto (tgt := 139) dX12_renderSledge_170 (by decide) ?_
                      rw [show nI lx + Int32.ofInt 1 = nI (lx + 1) from nI_1 lx]
                      exact hi _ li9 hT hC hF
                exact key1 (wN v (10 + k) (v 7).toNatClampNeg) 0 (by omega) _ li9 (by rw [show idT v (wL v (10 + k) (v 7).toNatClampNeg) 0 = [] from rfl, List.append_nil]; exact hT) (by rw [show idT v (wL v (10 + k) (v 7).toNatClampNeg) 0 = [] from rfl, List.append_nil]; exact hC) hF
            · refine v_aload_n dX12_renderSledge_111 rfl rfl ?_
              refine v_bipush (v := (43)) dX12_renderSledge_112 (by decide) ?_
              refine v_aload_n dX12_renderSledge_114 rfl rfl ?_
              refine gf_X12_16 dX12_renderSledge_115 rfl hMo ?_
              refine v_iload_n dX12_renderSledge_118 rfl rfl ?_
              refine v_iconst (v := 2) dX12_renderSledge_119 (by decide) ?_
              refine k_X12_96 dX12_renderSledge_120 rfl (r_in htr k 2) (Nat.le_of_ble_eq_true rfl) (by omega) (by omega) (Nat.le_of_ble_eq_true rfl) (fun r120 M9 h9 => ?_) (fun _ _ h9 => h9.elim)
              obtain ⟨rfl, e9⟩ := h9
              subst M9
              refine v_iald dX12_renderSledge_123 hw5 (by clear hgL hN9 hG; lia) (by clear hgL hN9 hG; lia) ?_
              refine k_X12_195 dX12_renderSledge_124 rfl (r_writesBehind htr hC hT rfl u4 o6 (by simp only [List.length_append, List.length_cons, List.length_nil]; omega) 43) hMo (Nat.le_of_ble_eq_true rfl) (by omega) (by omega) (Nat.le_of_ble_eq_true rfl) (fun M9 h9 => ?_) (fun _ _ h9 => h9.elim)
              obtain ⟨li9, hT, hC, hF9⟩ := h9
              have hF := Frm.tr hF hF9
              obtain ⟨hMo, hw5, hw6, hw7, hw8, hw9, hw10, hw11, hw13, hw14, hw15, hw16, hw17, hw18, -⟩ := _root_.id hC
              refine v_aload_n dX12_renderSledge_127 rfl rfl ?_
              refine v_bipush (v := (10)) dX12_renderSledge_128 (by decide) ?_
              refine v_iload_n dX12_renderSledge_130 rfl rfl ?_
              refine v_iadd dX12_renderSledge_131 ?_
              refine k_X12_121 dX12_renderSledge_132 rfl (r_waits htr hC hG (10 + k)) hMo (Nat.le_of_ble_eq_true rfl) (by omega) (by omega) (Nat.le_of_ble_eq_true rfl) (fun r132 M9 h9 => ?_) (fun _ _ h9 => h9.elim)
              obtain ⟨rfl, th2, hT2, hC, hF9⟩ := h9
              have hF := Frm.tr hF hF9
              obtain ⟨hMo, hw5, hw6, hw7, hw8, hw9, hw10, hw11, hw13, hw14, hw15, hw16, hw17, hw18, -⟩ := _root_.id hC
              refine v_istore_3 dX12_renderSledge_135 ?_
              refine v_iconst (v := 0) dX12_renderSledge_136 (by decide) ?_
              refine v_istore_4 dX12_renderSledge_137 ?_
              first | (exfalso; revert h84 h108; decide) | (exfalso; revert h84; decide) | (exfalso; revert h108; decide) | skip
              all_goals
                have hSL : slT v k = _ := if_pos (Int32.not_le.mp h73)
                have hW : (wN v (10 + k) (v 7).toNatClampNeg) ≤ 12 := Nat.le_trans (wL_len (v 7).toNatClampNeg) hG.LB.1
                have hsl34 := slT_len (σ := v) (k := k)
                rw [List.nil_append, ← hSL] at hT hC
                have key1 : ∀ e lx, lx + e = (wN v (10 + k) (v 7).toNatClampNeg) → ∀ (M1 : LH) (li1 : Int32 → Int32), Tl li1 (slT v k ++ idT v (wL v (10 + k) (v 7).toNatClampNeg) lx) → Md kd r M1 m w 0 ch ea fl sv bf tn he en (nI (slT v k ++ idT v (wL v (10 + k) (v 7).toNatClampNeg) lx).length) wr dg v b4 sa pa fr th2 bs tx li1 lf to → Frm kd r M M1 → V l g yX12_renderSledge cX12_renderSledge ((some .int)) [] 3 0 0 (RI (fun x M9 => ∃ li' th', ((hsl v k ∧ x = nI (slT v k ++ idT v (wL v (10 + k) (v 7).toNatClampNeg) (wN v (10 + k) (v 7).toNatClampNeg)).length ∧ Tl li' (slT v k ++ idT v (wL v (10 + k) (v 7).toNatClampNeg) (wN v (10 + k) (v 7).toNatClampNeg)) ∧ Md kd r M9 m w 0 ch ea fl sv bf tn he en (nI (slT v k ++ idT v (wL v (10 + k) (v 7).toNatClampNeg) (wN v (10 + k) (v 7).toNatClampNeg)).length) wr dg v b4 sa pa fr th' bs tx li' lf to) ∨ (¬ hsl v k ∧ x = 0 ∧ Md kd r M9 m w 1 ch ea fl sv bf tn he en ln wr dg v b4 sa pa fr th bs tx li lf to)) ∧ Frm kd r M M9) nX) X M1 0 0 139 [some (.ref m), some (.int k), some (.int 1), some (.int (nI (wN v (10 + k) (v 7).toNatClampNeg))), some (.int (nI lx))] [] := by
                  clear hT hC hF hMo hw5 hw6 hw7 hw8 hw9 hw10 hw11 hw13 hw14 hw15 hw16 hw17 hw18
                  intro e
                  induction e with
                  | zero =>
                    intro lx hl M1 li1 hT hC hF
                    obtain ⟨hMo, hw5, hw6, hw7, hw8, hw9, hw10, hw11, hw13, hw14, hw15, hw16, hw17, hw18, -⟩ := _root_.id hC
                    have hl0 : lx = (wN v (10 + k) (v 7).toNatClampNeg) := by omega
                    subst hl0
                    refine v_iload dX12_renderSledge_139 rfl ?_
                    refine v_iload_n dX12_renderSledge_141 rfl rfl ?_
                    refine v_icmp_ge (tgt := 173) dX12_renderSledge_142 (by decide) (fun h142 => ?_) (fun h142 => ?_)
                    · refine v_aload_n dX12_renderSledge_173 rfl rfl ?_
                      refine gf_X12_186 dX12_renderSledge_174 rfl hMo ?_
                      exact v_iret dX12_renderSledge_177 rfl ⟨li1, th2, Or.inl ⟨hk9, rfl, hT, hC⟩, hF⟩ (by omega) (by omega)
                    · exact absurd (Int32.le_refl _) h142
                  | succ e ih =>
                    intro lx hl M1 li1 hT hC hF
                    obtain ⟨hMo, hw5, hw6, hw7, hw8, hw9, hw10, hw11, hw13, hw14, hw15, hw16, hw17, hw18, -⟩ := _root_.id hC
                    have hl9 : lx < (wN v (10 + k) (v 7).toNatClampNeg) := by omega
                    have hlt9 : nI lx < nI (wN v (10 + k) (v 7).toNatClampNeg) := (nI_lt4 (by omega) (by omega)).mpr hl9
                    obtain ⟨b0, b1⟩ := nI12 lx (by omega)
                    obtain ⟨i9, j1, j2, j3⟩ := wL_at hl9
                    have ht9 : th2 (nI lx) = nI i9 := (hT2 lx hl9).trans j2
                    obtain ⟨j4, j5, j6⟩ := nI_below hg6 j1
                    obtain ⟨q1, q2, q3, q4, q5, q6, q7, q8, q9, q10, -, -, -, q14⟩ := hgL _ j4 j5
                    have y6 : lt v (nI i9) 0 < 1000000 := Int32.lt_trans (hN9 _ j4 j5) h4
                    have hlen : (slT v k ++ idT v (wL v (10 + k) (v 7).toNatClampNeg) lx).length + 8 < 120 := by
                      have := idT_len (σ := v) (L := (wL v (10 + k) (v 7).toNatClampNeg)) lx
                      rw [List.length_append]
                      omega
                    have hi := ih (lx + 1) (by omega)
                    rw [idT_1, j2, ← List.append_assoc] at hi
                    clear ih
                    refine v_iload dX12_renderSledge_139 rfl ?_
                    refine v_iload_n dX12_renderSledge_141 rfl rfl ?_
                    refine v_icmp_ge (tgt := 173) dX12_renderSledge_142 (by decide) (fun h142 => ?_) (fun h142 => ?_)
                    · exact absurd h142 (Int32.not_le.mpr hlt9)
                    · refine v_aload_n dX12_renderSledge_145 rfl rfl ?_
                      refine v_bipush (v := (35)) dX12_renderSledge_146 (by decide) ?_
                      refine v_aload_n dX12_renderSledge_148 rfl rfl ?_
                      refine gf_X12_16 dX12_renderSledge_149 rfl hMo ?_
                      refine v_aload_n dX12_renderSledge_152 rfl rfl ?_
                      refine gf_X12_32 dX12_renderSledge_153 rfl hMo ?_
                      refine v_iload dX12_renderSledge_156 rfl ?_
                      refine v_iald dX12_renderSledge_158 hw10 b0 b1 ?_
                      rw [ht9]
                      refine v_iconst (v := 0) dX12_renderSledge_159 (by decide) ?_
                      refine k_X12_70 dX12_renderSledge_160 rfl (r_of htr (nI i9) 0) (Nat.le_of_ble_eq_true rfl) (by omega) (by omega) (Nat.le_of_ble_eq_true rfl) (fun r160 M9 h9 => ?_) (fun _ _ h9 => h9.elim)
                      obtain ⟨rfl, e9⟩ := h9
                      subst M9
                      refine v_iald dX12_renderSledge_163 hw5 (by clear hi hgL hN9 hT hT2 hSL hC hF hG; lia) (by clear hi hgL hN9 hT hT2 hSL hC hF hG; lia) ?_
                      refine k_X12_195 dX12_renderSledge_164 rfl (r_writesBehind htr hC hT rfl q14 y6 hlen 35) hMo (Nat.le_of_ble_eq_true rfl) (by omega) (by omega) (Nat.le_of_ble_eq_true rfl) (fun M9 h9 => ?_) (fun _ _ h9 => h9.elim)
                      obtain ⟨li9, hT, hC, hF9⟩ := h9
                      have hF := Frm.tr hF hF9
                      obtain ⟨hMo, hw5, hw6, hw7, hw8, hw9, hw10, hw11, hw13, hw14, hw15, hw16, hw17, hw18, -⟩ := _root_.id hC
                      refine v_iinc_4 dX12_renderSledge_167 rfl ?_
                      refine v_goto (tgt := 139) dX12_renderSledge_170 (by decide) ?_
                      rw [show nI lx + Int32.ofInt 1 = nI (lx + 1) from nI_1 lx]
                      exact hi _ li9 hT hC hF
                exact key1 (wN v (10 + k) (v 7).toNatClampNeg) 0 (by omega) _ li9 (by rw [show idT v (wL v (10 + k) (v 7).toNatClampNeg) 0 = [] from rfl, List.append_nil]; exact hT) (by rw [show idT v (wL v (10 + k) (v 7).toNatClampNeg) 0 = [] from rfl, List.append_nil]; exact hC) hF
          · refine v_bipush (v := (62)) dX12_renderSledge_87 (by decide) ?_
            refine v_goto (tgt := 94) dX12_renderSledge_89 (by decide) ?_
            refine v_aload_n dX12_renderSledge_94 rfl rfl ?_
            refine gf_X12_16 dX12_renderSledge_95 rfl hMo ?_
            refine v_iload_n dX12_renderSledge_98 rfl rfl ?_
            refine v_iconst (v := 1) dX12_renderSledge_99 (by decide) ?_
            refine k_X12_96 dX12_renderSledge_100 rfl (r_in htr k 1) (Nat.le_of_ble_eq_true rfl) (by omega) (by omega) (Nat.le_of_ble_eq_true rfl) (fun r100 M9 h9 => ?_) (fun _ _ h9 => h9.elim)
            obtain ⟨rfl, e9⟩ := h9
            subst M9
            refine v_iald dX12_renderSledge_103 hw5 (by clear hgL hN9 hG; lia) (by clear hgL hN9 hG; lia) ?_
            refine k_X12_195 dX12_renderSledge_104 rfl (r_writesBehind htr hC hT rfl u2 a6 (by simp only [List.length_append, List.length_cons, List.length_nil]; omega) _) hMo (Nat.le_of_ble_eq_true rfl) (by omega) (by omega) (Nat.le_of_ble_eq_true rfl) (fun M9 h9 => ?_) (fun _ _ h9 => h9.elim)
            obtain ⟨li9, hT, hC, hF9⟩ := h9
            have hF := Frm.tr hF hF9
            obtain ⟨hMo, hw5, hw6, hw7, hw8, hw9, hw10, hw11, hw13, hw14, hw15, hw16, hw17, hw18, -⟩ := _root_.id hC
            refine v_iload_n dX12_renderSledge_107 rfl rfl ?_
            refine v_if_eq (tgt := 127) dX12_renderSledge_108 (by decide) (fun h108 => ?_) (fun h108 => ?_)
            · refine v_aload_n dX12_renderSledge_127 rfl rfl ?_
              refine v_bipush (v := (10)) dX12_renderSledge_128 (by decide) ?_
              refine v_iload_n dX12_renderSledge_130 rfl rfl ?_
              refine v_iadd dX12_renderSledge_131 ?_
              refine k_X12_121 dX12_renderSledge_132 rfl (r_waits htr hC hG (10 + k)) hMo (Nat.le_of_ble_eq_true rfl) (by omega) (by omega) (Nat.le_of_ble_eq_true rfl) (fun r132 M9 h9 => ?_) (fun _ _ h9 => h9.elim)
              obtain ⟨rfl, th2, hT2, hC, hF9⟩ := h9
              have hF := Frm.tr hF hF9
              obtain ⟨hMo, hw5, hw6, hw7, hw8, hw9, hw10, hw11, hw13, hw14, hw15, hw16, hw17, hw18, -⟩ := _root_.id hC
              refine v_istore_3 dX12_renderSledge_135 ?_
              refine v_iconst (v := 0) dX12_renderSledge_136 (by decide) ?_
              refine v_istore_4 dX12_renderSledge_137 ?_
              first | (exfalso; revert h84 h108; decide) | (exfalso; revert h84; decide) | (exfalso; revert h108; decide) | skip
              all_goals
                have hSL : slT v k = _ := if_pos (Int32.not_le.mp h73)
                have hW : (wN v (10 + k) (v 7).toNatClampNeg) ≤ 12 := Nat.le_trans (wL_len (v 7).toNatClampNeg) hG.LB.1
                have hsl34 := slT_len (σ := v) (k := k)
                rw [List.nil_append, ← hSL] at hT hC
                have key1 : ∀ e lx, lx + e = (wN v (10 + k) (v 7).toNatClampNeg) → ∀ (M1 : LH) (li1 : Int32 → Int32), Tl li1 (slT v k ++ idT v (wL v (10 + k) (v 7).toNatClampNeg) lx) → Md kd r M1 m w 0 ch ea fl sv bf tn he en (nI (slT v k ++ idT v (wL v (10 + k) (v 7).toNatClampNeg) lx).length) wr dg v b4 sa pa fr th2 bs tx li1 lf to → Frm kd r M M1 → V l g yX12_renderSledge cX12_renderSledge ((some .int)) [] 3 0 0 (RI (fun x M9 => ∃ li' th', ((hsl v k ∧ x = nI (slT v k ++ idT v (wL v (10 + k) (v 7).toNatClampNeg) (wN v (10 + k) (v 7).toNatClampNeg)).length ∧ Tl li' (slT v k ++ idT v (wL v (10 + k) (v 7).toNatClampNeg) (wN v (10 + k) (v 7).toNatClampNeg)) ∧ Md kd r M9 m w 0 ch ea fl sv bf tn he en (nI (slT v k ++ idT v (wL v (10 + k) (v 7).toNatClampNeg) (wN v (10 + k) (v 7).toNatClampNeg)).length) wr dg v b4 sa pa fr th' bs tx li' lf to) ∨ (¬ hsl v k ∧ x = 0 ∧ Md kd r M9 m w 1 ch ea fl sv bf tn he en ln wr dg v b4 sa pa fr th bs tx li lf to)) ∧ Frm kd r M M9) nX) X M1 0 0 139 [some (.ref m), some (.int k), some (.int 1), some (.int (nI (wN v (10 + k) (v 7).toNatClampNeg))), some (.int (nI lx))] [] := by
                  clear hT hC hF hMo hw5 hw6 hw7 hw8 hw9 hw10 hw11 hw13 hw14 hw15 hw16 hw17 hw18
                  intro e
                  induction e with
                  | zero =>
                    intro lx hl M1 li1 hT hC hF
                    obtain ⟨hMo, hw5, hw6, hw7, hw8, hw9, hw10, hw11, hw13, hw14, hw15, hw16, hw17, hw18, -⟩ := _root_.id hC
                    have hl0 : lx = (wN v (10 + k) (v 7).toNatClampNeg) := by omega
                    subst hl0
                    refine v_iload dX12_renderSledge_139 rfl ?_
                    refine v_iload_n dX12_renderSledge_141 rfl rfl ?_
                    refine v_icmp_ge (tgt := 173) dX12_renderSledge_142 (by decide) (fun h142 => ?_) (fun h142 => ?_)
                    · refine v_aload_n dX12_renderSledge_173 rfl rfl ?_
                      refine gf_X12_186 dX12_renderSledge_174 rfl hMo ?_
                      exact v_iret dX12_renderSledge_177 rfl ⟨li1, th2, Or.inl ⟨hk9, rfl, hT, hC⟩, hF⟩ (by omega) (by omega)
                    · exact absurd (Int32.le_refl _) h142
                  | succ e ih =>
                    intro lx hl M1 li1 hT hC hF
                    obtain ⟨hMo, hw5, hw6, hw7, hw8, hw9, hw10, hw11, hw13, hw14, hw15, hw16, hw17, hw18, -⟩ := _root_.id hC
                    have hl9 : lx < (wN v (10 + k) (v 7).toNatClampNeg) := by omega
                    have hlt9 : nI lx < nI (wN v (10 + k) (v 7).toNatClampNeg) := (nI_lt4 (by omega) (by omega)).mpr hl9
                    obtain ⟨b0, b1⟩ := nI12 lx (by omega)
                    obtain ⟨i9, j1, j2, j3⟩ := wL_at hl9
                    have ht9 : th2 (nI lx) = nI i9 := (hT2 lx hl9).trans j2
                    obtain ⟨j4, j5, j6⟩ := nI_below hg6 j1
                    obtain ⟨q1, q2, q3, q4, q5, q6, q7, q8, q9, q10, -, -, -, q14⟩ := hgL _ j4 j5
                    have y6 : lt v (nI i9) 0 < 1000000 := Int32.lt_trans (hN9 _ j4 j5) h4
                    have hlen : (slT v k ++ idT v (wL v (10 + k) (v 7).toNatClampNeg) lx).length + 8 < 120 := by
                      have := idT_len (σ := v) (L := (wL v (10 + k) (v 7).toNatClampNeg)) lx
                      rw [List.length_append]
                      omega
                    have hi := ih (lx + 1) (by omega)
                    rw [idT_1, j2, ← List.append_assoc] at hi
                    clear ih
                    refine v_iload dX12_renderSledge_139 rfl ?_
                    refine v_iload_n dX12_renderSledge_141 rfl rfl ?_
                    refine v_icmp_ge (tgt := 173) dX12_renderSledge_142 (by decide) (fun h142 => ?_) (fun h142 => ?_)
                    · exact absurd h142 (Int32.not_le.mpr hlt9)
                    · refine v_aload_n dX12_renderSledge_145 rfl rfl ?_
                      refine v_bipush (v := (35)) dX12_renderSledge_146 (by decide) ?_
                      refine v_aload_n dX12_renderSledge_148 rfl rfl ?_
                      refine gf_X12_16 dX12_renderSledge_149 rfl hMo ?_
                      refine v_aload_n dX12_renderSledge_152 rfl rfl ?_
                      refine gf_X12_32 dX12_renderSledge_153 rfl hMo ?_
                      refine v_iload dX12_renderSledge_156 rfl ?_
                      refine v_iald dX12_renderSledge_158 hw10 b0 b1 ?_
                      rw [ht9]
                      refine v_iconst (v := 0) dX12_renderSledge_159 (by decide) ?_
                      refine k_X12_70 dX12_renderSledge_160 rfl (r_of htr (nI i9) 0) (Nat.le_of_ble_eq_true rfl) (by omega) (by omega) (Nat.le_of_ble_eq_true rfl) (fun r160 M9 h9 => ?_) (fun _ _ h9 => h9.elim)
                      obtain ⟨rfl, e9⟩ := h9
                      subst M9
                      refine v_iald dX12_renderSledge_163 hw5 (by clear hi hgL hN9 hT hT2 hSL hC hF hG; lia) (by clear hi hgL hN9 hT hT2 hSL hC hF hG; lia) ?_
                      refine k_X12_195 dX12_renderSledge_164 rfl (r_writesBehind htr hC hT rfl q14 y6 hlen 35) hMo (Nat.le_of_ble_eq_true rfl) (by omega) (by omega) (Nat.le_of_ble_eq_true rfl) (fun M9 h9 => ?_) (fun _ _ h9 => h9.elim)
                      obtain ⟨li9, hT, hC, hF9⟩ := h9
                      have hF := Frm.tr hF hF9
                      obtain ⟨hMo, hw5, hw6, hw7, hw8, hw9, hw10, hw11, hw13, hw14, hw15, hw16, hw17, hw18, -⟩ := _root_.id hC
                      refine v_iinc_4 dX12_renderSledge_167 rfl ?_
                      refine v_goto (tgt := 139) dX12_renderSledge_170 (by decide) ?_
                      rw [show nI lx + Int32.ofInt 1 = nI (lx + 1) from nI_1 lx]
                      exact hi _ li9 hT hC hF
                exact key1 (wN v (10 + k) (v 7).toNatClampNeg) 0 (by omega) _ li9 (by rw [show idT v (wL v (10 + k) (v 7).toNatClampNeg) 0 = [] from rfl, List.append_nil]; exact hT) (by rw [show idT v (wL v (10 + k) (v 7).toNatClampNeg) 0 = [] from rfl, List.append_nil]; exact hC) hF
            · refine v_aload_n dX12_renderSledge_111 rfl rfl ?_
              refine v_bipush (v := (43)) dX12_renderSledge_112 (by decide) ?_
              refine v_aload_n dX12_renderSledge_114 rfl rfl ?_
              refine gf_X12_16 dX12_renderSledge_115 rfl hMo ?_
              refine v_iload_n dX12_renderSledge_118 rfl rfl ?_
              refine v_iconst (v := 2) dX12_renderSledge_119 (by decide) ?_
              refine k_X12_96 dX12_renderSledge_120 rfl (r_in htr k 2) (Nat.le_of_ble_eq_true rfl) (by omega) (by omega) (Nat.le_of_ble_eq_true rfl) (fun r120 M9 h9 => ?_) (fun _ _ h9 => h9.elim)
              obtain ⟨rfl, e9⟩ := h9
              subst M9
              refine v_iald dX12_renderSledge_123 hw5 (by clear hgL hN9 hG; lia) (by clear hgL hN9 hG; lia) ?_
              refine k_X12_195 dX12_renderSledge_124 rfl (r_writesBehind htr hC hT rfl u4 o6 (by simp only [List.length_append, List.length_cons, List.length_nil]; omega) 43) hMo (Nat.le_of_ble_eq_true rfl) (by omega) (by omega) (Nat.le_of_ble_eq_true rfl) (fun M9 h9 => ?_) (fun _ _ h9 => h9.elim)
              obtain ⟨li9, hT, hC, hF9⟩ := h9
              have hF := Frm.tr hF hF9
              obtain ⟨hMo, hw5, hw6, hw7, hw8, hw9, hw10, hw11, hw13, hw14, hw15, hw16, hw17, hw18, -⟩ := _root_.id hC
              refine v_aload_n dX12_renderSledge_127 rfl rfl ?_
              refine v_bipush (v := (10)) dX12_renderSledge_128 (by decide) ?_
              refine v_iload_n dX12_renderSledge_130 rfl rfl ?_
              refine v_iadd dX12_renderSledge_131 ?_
              refine k_X12_121 dX12_renderSledge_132 rfl (r_waits htr hC hG (10 + k)) hMo (Nat.le_of_ble_eq_true rfl) (by omega) (by omega) (Nat.le_of_ble_eq_true rfl) (fun r132 M9 h9 => ?_) (fun _ _ h9 => h9.elim)
              obtain ⟨rfl, th2, hT2, hC, hF9⟩ := h9
              have hF := Frm.tr hF hF9
              obtain ⟨hMo, hw5, hw6, hw7, hw8, hw9, hw10, hw11, hw13, hw14, hw15, hw16, hw17, hw18, -⟩ := _root_.id hC
              refine v_istore_3 dX12_renderSledge_135 ?_
              refine v_iconst (v := 0) dX12_renderSledge_136 (by decide) ?_
              refine v_istore_4 dX12_renderSledge_137 ?_
              first | (exfalso; revert h84 h108; decide) | (exfalso; revert h84; decide) | (exfalso; revert h108; decide) | skip
              all_goals
                have hSL : slT v k = _ := if_pos (Int32.not_le.mp h73)
                have hW : (wN v (10 + k) (v 7).toNatClampNeg) ≤ 12 := Nat.le_trans (wL_len (v 7).toNatClampNeg) hG.LB.1
                have hsl34 := slT_len (σ := v) (k := k)
                rw [List.nil_append, ← hSL] at hT hC
                have key1 : ∀ e lx, lx + e = (wN v (10 + k) (v 7).toNatClampNeg) → ∀ (M1 : LH) (li1 : Int32 → Int32), Tl li1 (slT v k ++ idT v (wL v (10 + k) (v 7).toNatClampNeg) lx) → Md kd r M1 m w 0 ch ea fl sv bf tn he en (nI (slT v k ++ idT v (wL v (10 + k) (v 7).toNatClampNeg) lx).length) wr dg v b4 sa pa fr th2 bs tx li1 lf to → Frm kd r M M1 → V l g yX12_renderSledge cX12_renderSledge ((some .int)) [] 3 0 0 (RI (fun x M9 => ∃ li' th', ((hsl v k ∧ x = nI (slT v k ++ idT v (wL v (10 + k) (v 7).toNatClampNeg) (wN v (10 + k) (v 7).toNatClampNeg)).length ∧ Tl li' (slT v k ++ idT v (wL v (10 + k) (v 7).toNatClampNeg) (wN v (10 + k) (v 7).toNatClampNeg)) ∧ Md kd r M9 m w 0 ch ea fl sv bf tn he en (nI (slT v k ++ idT v (wL v (10 + k) (v 7).toNatClampNeg) (wN v (10 + k) (v 7).toNatClampNeg)).length) wr dg v b4 sa pa fr th' bs tx li' lf to) ∨ (¬ hsl v k ∧ x = 0 ∧ Md kd r M9 m w 1 ch ea fl sv bf tn he en ln wr dg v b4 sa pa fr th bs tx li lf to)) ∧ Frm kd r M M9) nX) X M1 0 0 139 [some (.ref m), some (.int k), some (.int 1), some (.int (nI (wN v (10 + k) (v 7).toNatClampNeg))), some (.int (nI lx))] [] := by
                  clear hT hC hF hMo hw5 hw6 hw7 hw8 hw9 hw10 hw11 hw13 hw14 hw15 hw16 hw17 hw18
                  intro e
                  induction e with
                  | zero =>
                    intro lx hl M1 li1 hT hC hF
                    obtain ⟨hMo, hw5, hw6, hw7, hw8, hw9, hw10, hw11, hw13, hw14, hw15, hw16, hw17, hw18, -⟩ := _root_.id hC
                    have hl0 : lx = (wN v (10 + k) (v 7).toNatClampNeg) := by omega
                    subst hl0
                    refine v_iload dX12_renderSledge_139 rfl ?_
                    refine v_iload_n dX12_renderSledge_141 rfl rfl ?_
                    refine v_icmp_ge (tgt := 173) dX12_renderSledge_142 (by decide) (fun h142 => ?_) (fun h142 => ?_)
                    · refine v_aload_n dX12_renderSledge_173 rfl rfl ?_
                      refine gf_X12_186 dX12_renderSledge_174 rfl hMo ?_
                      exact v_iret dX12_renderSledge_177 rfl ⟨li1, th2, Or.inl ⟨hk9, rfl, hT, hC⟩, hF⟩ (by omega) (by omega)
                    · exact absurd (Int32.le_refl _) h142
                  | succ e ih =>
                    intro lx hl M1 li1 hT hC hF
                    obtain ⟨hMo, hw5, hw6, hw7, hw8, hw9, hw10, hw11, hw13, hw14, hw15, hw16, hw17, hw18, -⟩ := _root_.id hC
                    have hl9 : lx < (wN v (10 + k) (v 7).toNatClampNeg) := by omega
                    have hlt9 : nI lx < nI (wN v (10 + k) (v 7).toNatClampNeg) := (nI_lt4 (by omega) (by omega)).mpr hl9
                    obtain ⟨b0, b1⟩ := nI12 lx (by omega)
                    obtain ⟨i9, j1, j2, j3⟩ := wL_at hl9
                    have ht9 : th2 (nI lx) = nI i9 := (hT2 lx hl9).trans j2
                    obtain ⟨j4, j5, j6⟩ := nI_below hg6 j1
                    obtain ⟨q1, q2, q3, q4, q5, q6, q7, q8, q9, q10, -, -, -, q14⟩ := hgL _ j4 j5
                    have y6 : lt v (nI i9) 0 < 1000000 := Int32.lt_trans (hN9 _ j4 j5) h4
                    have hlen : (slT v k ++ idT v (wL v (10 + k) (v 7).toNatClampNeg) lx).length + 8 < 120 := by
                      have := idT_len (σ := v) (L := (wL v (10 + k) (v 7).toNatClampNeg)) lx
                      rw [List.length_append]
                      omega
                    have hi := ih (lx + 1) (by omega)
                    rw [idT_1, j2, ← List.append_assoc] at hi
                    clear ih
                    refine v_iload dX12_renderSledge_139 rfl ?_
                    refine v_iload_n dX12_renderSledge_141 rfl rfl ?_
                    refine v_icmp_ge (tgt := 173) dX12_renderSledge_142 (by decide) (fun h142 => ?_) (fun h142 => ?_)
                    · exact absurd h142 (Int32.not_le.mpr hlt9)
                    · refine v_aload_n dX12_renderSledge_145 rfl rfl ?_
                      refine v_bipush (v := (35)) dX12_renderSledge_146 (by decide) ?_
                      refine v_aload_n dX12_renderSledge_148 rfl rfl ?_
                      refine gf_X12_16 dX12_renderSledge_149 rfl hMo ?_
                      refine v_aload_n dX12_renderSledge_152 rfl rfl ?_
                      refine gf_X12_32 dX12_renderSledge_153 rfl hMo ?_
                      refine v_iload dX12_renderSledge_156 rfl ?_
                      refine v_iald dX12_renderSledge_158 hw10 b0 b1 ?_
                      rw [ht9]
                      refine v_iconst (v := 0) dX12_renderSledge_159 (by decide) ?_
                      refine k_X12_70 dX12_renderSledge_160 rfl (r_of htr (nI i9) 0) (Nat.le_of_ble_eq_true rfl) (by omega) (by omega) (Nat.le_of_ble_eq_true rfl) (fun r160 M9 h9 => ?_) (fun _ _ h9 => h9.elim)
                      obtain ⟨rfl, e9⟩ := h9
                      subst M9
                      refine v_iald dX12_renderSledge_163 hw5 (by clear hi hgL hN9 hT hT2 hSL hC hF hG; lia) (by clear hi hgL hN9 hT hT2 hSL hC hF hG; lia) ?_
                      refine k_X12_195 dX12_renderSledge_164 rfl (r_writesBehind htr hC hT rfl q14 y6 hlen 35) hMo (Nat.le_of_ble_eq_true rfl) (by omega) (by omega) (Nat.le_of_ble_eq_true rfl) (fun M9 h9 => ?_) (fun _ _ h9 => h9.elim)
                      obtain ⟨li9, hT, hC, hF9⟩ := h9
                      have hF := Frm.tr hF hF9
                      obtain ⟨hMo, hw5, hw6, hw7, hw8, hw9, hw10, hw11, hw13, hw14, hw15, hw16, hw17, hw18, -⟩ := _root_.id hC
                      refine v_iinc_4 dX12_renderSledge_167 rfl ?_
                      refine v_goto (tgt := 139) dX12_renderSledge_170 (by decide) ?_
                      rw [show nI lx + Int32.ofInt 1 = nI (lx + 1) from nI_1 lx]
                      exact hi _ li9 hT hC hF
                exact key1 (wN v (10 + k) (v 7).toNatClampNeg) 0 (by omega) _ li9 (by rw [show idT v (wL v (10 + k) (v 7).toNatClampNeg) 0 = [] from rfl, List.append_nil]; exact hT) (by rw [show idT v (wL v (10 + k) (v 7).toNatClampNeg) 0 = [] from rfl, List.append_nil]; exact hC) hF
    · refine v_iconst (v := 0) dX12_renderSledge_24 (by decide) ?_
      exact v_iret dX12_renderSledge_25 rfl (by first | (exfalso; revert h21; decide) | exact ⟨li, th, Or.inr ⟨b_f h6, rfl, hC⟩, hF⟩) (by omega) (by omega)
  · refine v_iconst (v := 0) dX12_renderSledge_9 (by decide) ?_
    refine v_goto (tgt := 14) dX12_renderSledge_10 (by decide) ?_
    refine pf_X12_56 dX12_renderSledge_14 rfl hMo ?_
    refine V.md (Md.sc hC) (Frm.tr hF (Frm.up (hC.kd_sc))) (fun M1 hC hF => ?_)
    obtain ⟨hMo, hw5, hw6, hw7, hw8, hw9, hw10, hw11, hw13, hw14, hw15, hw16, hw17, hw18, -⟩ := _root_.id hC
    refine v_aload_n dX12_renderSledge_17 rfl rfl ?_
    refine gf_X12_56 dX12_renderSledge_18 rfl hMo ?_
    refine v_if_eq (tgt := 26) dX12_renderSledge_21 (by decide) (fun h21 => ?_) (fun h21 => ?_)
    · first | (exfalso; revert h21; decide) | skip
      all_goals
        have hk9 := b_t h6
        obtain ⟨k0, k1⟩ := _root_.id hk9
        obtain ⟨-, -, -, hk6, -, -, -, -, -, hgS, -, -, hN9, -⟩ := _root_.id hG
        obtain ⟨u0, u1, u2, u3, u4, u5, u6, u7⟩ := hgS k k0 k1
        clear hgS
        have k3 : k < 3 := Int32.lt_of_lt_of_le k1 hk6
        have k6 : k < 1000000 := Int32.lt_trans k3 (by decide)
        have c0 : 0 ≤ sd v k 0 := Int32.le_trans (by decide) u0
        have c6 : sd v k 0 < 1000000 := Int32.lt_of_le_of_lt u1 (by decide)
        have a6 : sd v k 1 < 1000000 := Int32.lt_of_lt_of_le u3 (Int32.le_trans hg2 (by decide))
        have o6 : sd v k 2 < 1000000 := Int32.lt_of_le_of_lt u5 (by decide)
        have l6 : loadOn v k < 1000000 := Int32.lt_of_le_of_lt u7 c6
        have n0 := num_len k
        have n1 := num_len (loadOn v k)
        have n2 := num_len (sd v k 0)
        have n3 := num_len (sd v k 1)
        refine v_aload_n dX12_renderSledge_26 rfl rfl ?_
        refine v_iconst (v := 0) dX12_renderSledge_27 (by decide) ?_
        refine pf_X12_186 dX12_renderSledge_28 rfl hMo ?_
        refine V.md (Md.sc hC) (Frm.tr hF (Frm.up (hC.kd_sc))) (fun M1 hC hF => ?_)
        obtain ⟨hMo, hw5, hw6, hw7, hw8, hw9, hw10, hw11, hw13, hw14, hw15, hw16, hw17, hw18, -⟩ := _root_.id hC
        refine v_aload_n dX12_renderSledge_31 rfl rfl ?_
        refine v_iload_n dX12_renderSledge_32 rfl rfl ?_
        refine k_X12_192 dX12_renderSledge_33 rfl (r_writesNumber htr hC (Ls := []) (fun j hj => absurd hj (Nat.not_lt_zero j)) rfl k0 k6 (by decide)) hMo (Nat.le_of_ble_eq_true rfl) (by omega) (by omega) (Nat.le_of_ble_eq_true rfl) (fun M9 h9 => ?_) (fun _ _ h9 => h9.elim)
        obtain ⟨li9, hT, hC, hF9⟩ := h9
        have hF := Frm.tr hF hF9
        obtain ⟨hMo, hw5, hw6, hw7, hw8, hw9, hw10, hw11, hw13, hw14, hw15, hw16, hw17, hw18, -⟩ := _root_.id hC
        refine v_aload_n dX12_renderSledge_36 rfl rfl ?_
        refine v_bipush (v := (58)) dX12_renderSledge_37 (by decide) ?_
        refine v_aload_n dX12_renderSledge_39 rfl rfl ?_
        refine v_iload_n dX12_renderSledge_40 rfl rfl ?_
        refine k_X12_109 dX12_renderSledge_41 rfl (r_loadOn htr hC hG k) hMo (Nat.le_of_ble_eq_true rfl) (by omega) (by omega) (Nat.le_of_ble_eq_true rfl) (fun r41 M9 h9 => ?_) (fun _ _ h9 => h9.elim)
        obtain ⟨rfl, e9⟩ := h9
        subst M9
        refine k_X12_195 dX12_renderSledge_44 rfl (r_writesBehind htr hC hT rfl u6 l6 (by simp only [List.length_append, List.length_cons, List.length_nil]; omega) 58) hMo (Nat.le_of_ble_eq_true rfl) (by omega) (by omega) (Nat.le_of_ble_eq_true rfl) (fun M9 h9 => ?_) (fun _ _ h9 => h9.elim)
        obtain ⟨li9, hT, hC, hF9⟩ := h9
        have hF := Frm.tr hF hF9
        obtain ⟨hMo, hw5, hw6, hw7, hw8, hw9, hw10, hw11, hw13, hw14, hw15, hw16, hw17, hw18, -⟩ := _root_.id hC
        refine v_aload_n dX12_renderSledge_47 rfl rfl ?_
        refine v_bipush (v := (47)) dX12_renderSledge_48 (by decide) ?_
        refine v_aload_n dX12_renderSledge_50 rfl rfl ?_
        refine gf_X12_16 dX12_renderSledge_51 rfl hMo ?_
        refine v_iload_n dX12_renderSledge_54 rfl rfl ?_
        refine v_iconst (v := 0) dX12_renderSledge_55 (by decide) ?_
        refine k_X12_96 dX12_renderSledge_56 rfl (r_in htr k 0) (Nat.le_of_ble_eq_true rfl) (by omega) (by omega) (Nat.le_of_ble_eq_true rfl) (fun r56 M9 h9 => ?_) (fun _ _ h9 => h9.elim)
        obtain ⟨rfl, e9⟩ := h9
        subst M9
        refine v_iald dX12_renderSledge_59 hw5 (by clear hgL hN9 hG; lia) (by clear hgL hN9 hG; lia) ?_
        refine k_X12_195 dX12_renderSledge_60 rfl (r_writesBehind htr hC hT rfl c0 c6 (by simp only [List.length_append, List.length_cons, List.length_nil]; omega) 47) hMo (Nat.le_of_ble_eq_true rfl) (by omega) (by omega) (Nat.le_of_ble_eq_true rfl) (fun M9 h9 => ?_) (fun _ _ h9 => h9.elim)
        obtain ⟨li9, hT, hC, hF9⟩ := h9
        have hF := Frm.tr hF hF9
        obtain ⟨hMo, hw5, hw6, hw7, hw8, hw9, hw10, hw11, hw13, hw14, hw15, hw16, hw17, hw18, -⟩ := _root_.id hC
        refine v_aload_n dX12_renderSledge_63 rfl rfl ?_
        refine gf_X12_16 dX12_renderSledge_64 rfl hMo ?_
        refine v_iload_n dX12_renderSledge_67 rfl rfl ?_
        refine v_iconst (v := 2) dX12_renderSledge_68 (by decide) ?_
        refine k_X12_96 dX12_renderSledge_69 rfl (r_in htr k 2) (Nat.le_of_ble_eq_true rfl) (by omega) (by omega) (Nat.le_of_ble_eq_true rfl) (fun r69 M9 h9 => ?_) (fun _ _ h9 => h9.elim)
        obtain ⟨rfl, e9⟩ := h9
        subst M9
        refine v_iald dX12_renderSledge_72 hw5 (by clear hgL hN9 hG; lia) (by clear hgL hN9 hG; lia) ?_
        refine v_if_le (tgt := 80) dX12_renderSledge_73 (by decide) (fun h73 => ?_) (fun h73 => ?_)
        · refine v_iconst (v := 0) dX12_renderSledge_80 (by decide) ?_
          refine v_istore_2 dX12_renderSledge_81 ?_
          refine v_aload_n dX12_renderSledge_82 rfl rfl ?_
          refine v_iload_n dX12_renderSledge_83 rfl rfl ?_
          refine v_if_eq (tgt := 92) dX12_renderSledge_84 (by decide) (fun h84 => ?_) (fun h84 => ?_)
          · refine v_bipush (v := (64)) dX12_renderSledge_92 (by decide) ?_
            refine v_aload_n dX12_renderSledge_94 rfl rfl ?_
            refine gf_X12_16 dX12_renderSledge_95 rfl hMo ?_
            refine v_iload_n dX12_renderSledge_98 rfl rfl ?_
            refine v_iconst (v := 1) dX12_renderSledge_99 (by decide) ?_
            refine k_X12_96 dX12_renderSledge_100 rfl (r_in htr k 1) (Nat.le_of_ble_eq_true rfl) (by omega) (by omega) (Nat.le_of_ble_eq_true rfl) (fun r100 M9 h9 => ?_) (fun _ _ h9 => h9.elim)
            obtain ⟨rfl, e9⟩ := h9
            subst M9
            refine v_iald dX12_renderSledge_103 hw5 (by clear hgL hN9 hG; lia) (by clear hgL hN9 hG; lia) ?_
            refine k_X12_195 dX12_renderSledge_104 rfl (r_writesBehind htr hC hT rfl u2 a6 (by simp only [List.length_append, List.length_cons, List.length_nil]; omega) _) hMo (Nat.le_of_ble_eq_true rfl) (by omega) (by omega) (Nat.le_of_ble_eq_true rfl) (fun M9 h9 => ?_) (fun _ _ h9 => h9.elim)
            obtain ⟨li9, hT, hC, hF9⟩ := h9
            have hF := Frm.tr hF hF9
            obtain ⟨hMo, hw5, hw6, hw7, hw8, hw9, hw10, hw11, hw13, hw14, hw15, hw16, hw17, hw18, -⟩ := _root_.id hC
            refine v_iload_n dX12_renderSledge_107 rfl rfl ?_
            refine v_if_eq (tgt := 127) dX12_renderSledge_108 (by decide) (fun h108 => ?_) (fun h108 => ?_)
            · refine v_aload_n dX12_renderSledge_127 rfl rfl ?_
              refine v_bipush (v := (10)) dX12_renderSledge_128 (by decide) ?_
              refine v_iload_n dX12_renderSledge_130 rfl rfl ?_
              refine v_iadd dX12_renderSledge_131 ?_
              refine k_X12_121 dX12_renderSledge_132 rfl (r_waits htr hC hG (10 + k)) hMo (Nat.le_of_ble_eq_true rfl) (by omega) (by omega) (Nat.le_of_ble_eq_true rfl) (fun r132 M9 h9 => ?_) (fun _ _ h9 => h9.elim)
              obtain ⟨rfl, th2, hT2, hC, hF9⟩ := h9
              have hF := Frm.tr hF hF9
              obtain ⟨hMo, hw5, hw6, hw7, hw8, hw9, hw10, hw11, hw13, hw14, hw15, hw16, hw17, hw18, -⟩ := _root_.id hC
              refine v_istore_3 dX12_renderSledge_135 ?_
              refine v_iconst (v := 0) dX12_renderSledge_136 (by decide) ?_
              refine v_istore_4 dX12_renderSledge_137 ?_
              first | (exfalso; revert h84 h108; decide) | (exfalso; revert h84; decide) | (exfalso; revert h108; decide) | skip
              all_goals
                have hSL : slT v k = _ := if_neg (Int32.not_lt.mpr h73)
                have hW : (wN v (10 + k) (v 7).toNatClampNeg) ≤ 12 := Nat.le_trans (wL_len (v 7).toNatClampNeg) hG.LB.1
                have hsl34 := slT_len (σ := v) (k := k)
                rw [List.nil_append, ← hSL] at hT hC
                have key1 : ∀ e lx, lx + e = (wN v (10 + k) (v 7).toNatClampNeg) → ∀ (M1 : LH) (li1 : Int32 → Int32), Tl li1 (slT v k ++ idT v (wL v (10 + k) (v 7).toNatClampNeg) lx) → Md kd r M1 m w 0 ch ea fl sv bf tn he en (nI (slT v k ++ idT v (wL v (10 + k) (v 7).toNatClampNeg) lx).length) wr dg v b4 sa pa fr th2 bs tx li1 lf to → Frm kd r M M1 → V l g yX12_renderSledge cX12_renderSledge ((some .int)) [] 3 0 0 (RI (fun x M9 => ∃ li' th', ((hsl v k ∧ x = nI (slT v k ++ idT v (wL v (10 + k) (v 7).toNatClampNeg) (wN v (10 + k) (v 7).toNatClampNeg)).length ∧ Tl li' (slT v k ++ idT v (wL v (10 + k) (v 7).toNatClampNeg) (wN v (10 + k) (v 7).toNatClampNeg)) ∧ Md kd r M9 m w 0 ch ea fl sv bf tn he en (nI (slT v k ++ idT v (wL v (10 + k) (v 7).toNatClampNeg) (wN v (10 + k) (v 7).toNatClampNeg)).length) wr dg v b4 sa pa fr th' bs tx li' lf to) ∨ (¬ hsl v k ∧ x = 0 ∧ Md kd r M9 m w 1 ch ea fl sv bf tn he en ln wr dg v b4 sa pa fr th bs tx li lf to)) ∧ Frm kd r M M9) nX) X M1 0 0 139 [some (.ref m), some (.int k), some (.int 0), some (.int (nI (wN v (10 + k) (v 7).toNatClampNeg))), some (.int (nI lx))] [] := by
                  clear hT hC hF hMo hw5 hw6 hw7 hw8 hw9 hw10 hw11 hw13 hw14 hw15 hw16 hw17 hw18
                  intro e
                  induction e with
                  | zero =>
                    intro lx hl M1 li1 hT hC hF
                    obtain ⟨hMo, hw5, hw6, hw7, hw8, hw9, hw10, hw11, hw13, hw14, hw15, hw16, hw17, hw18, -⟩ := _root_.id hC
                    have hl0 : lx = (wN v (10 + k) (v 7).toNatClampNeg) := by omega
                    subst hl0
                    refine v_iload dX12_renderSledge_139 rfl ?_
                    refine v_iload_n dX12_renderSledge_141 rfl rfl ?_
                    refine v_icmp_ge (tgt := 173) dX12_renderSledge_142 (by decide) (fun h142 => ?_) (fun h142 => ?_)
                    · refine v_aload_n dX12_renderSledge_173 rfl rfl ?_
                      refine gf_X12_186 dX12_renderSledge_174 rfl hMo ?_
                      exact v_iret dX12_renderSledge_177 rfl ⟨li1, th2, Or.inl ⟨hk9, rfl, hT, hC⟩, hF⟩ (by omega) (by omega)
                    · exact absurd (Int32.le_refl _) h142
                  | succ e ih =>
                    intro lx hl M1 li1 hT hC hF
                    obtain ⟨hMo, hw5, hw6, hw7, hw8, hw9, hw10, hw11, hw13, hw14, hw15, hw16, hw17, hw18, -⟩ := _root_.id hC
                    have hl9 : lx < (wN v (10 + k) (v 7).toNatClampNeg) := by omega
                    have hlt9 : nI lx < nI (wN v (10 + k) (v 7).toNatClampNeg) := (nI_lt4 (by omega) (by omega)).mpr hl9
                    obtain ⟨b0, b1⟩ := nI12 lx (by omega)
                    obtain ⟨i9, j1, j2, j3⟩ := wL_at hl9
                    have ht9 : th2 (nI lx) = nI i9 := (hT2 lx hl9).trans j2
                    obtain ⟨j4, j5, j6⟩ := nI_below hg6 j1
                    obtain ⟨q1, q2, q3, q4, q5, q6, q7, q8, q9, q10, -, -, -, q14⟩ := hgL _ j4 j5
                    have y6 : lt v (nI i9) 0 < 1000000 := Int32.lt_trans (hN9 _ j4 j5) h4
                    have hlen : (slT v k ++ idT v (wL v (10 + k) (v 7).toNatClampNeg) lx).length + 8 < 120 := by
                      have := idT_len (σ := v) (L := (wL v (10 + k) (v 7).toNatClampNeg)) lx
                      rw [List.length_append]
                      omega
                    have hi := ih (lx + 1) (by omega)
                    rw [idT_1, j2, ← List.append_assoc] at hi
                    clear ih
                    refine v_iload dX12_renderSledge_139 rfl ?_
                    refine v_iload_n dX12_renderSledge_141 rfl rfl ?_
                    refine v_icmp_ge (tgt := 173) dX12_renderSledge_142 (by decide) (fun h142 => ?_) (fun h142 => ?_)
                    · exact absurd h142 (Int32.not_le.mpr hlt9)
                    · refine v_aload_n dX12_renderSledge_145 rfl rfl ?_
                      refine v_bipush (v := (35)) dX12_renderSledge_146 (by decide) ?_
                      refine v_aload_n dX12_renderSledge_148 rfl rfl ?_
                      refine gf_X12_16 dX12_renderSledge_149 rfl hMo ?_
                      refine v_aload_n dX12_renderSledge_152 rfl rfl ?_
                      refine gf_X12_32 dX12_renderSledge_153 rfl hMo ?_
                      refine v_iload dX12_renderSledge_156 rfl ?_
                      refine v_iald dX12_renderSledge_158 hw10 b0 b1 ?_
                      rw [ht9]
                      refine v_iconst (v := 0) dX12_renderSledge_159 (by decide) ?_
                      refine k_X12_70 dX12_renderSledge_160 rfl (r_of htr (nI i9) 0) (Nat.le_of_ble_eq_true rfl) (by omega) (by omega) (Nat.le_of_ble_eq_true rfl) (fun r160 M9 h9 => ?_) (fun _ _ h9 => h9.elim)
                      obtain ⟨rfl, e9⟩ := h9
                      subst M9
                      refine v_iald dX12_renderSledge_163 hw5 (by clear hi hgL hN9 hT hT2 hSL hC hF hG; lia) (by clear hi hgL hN9 hT hT2 hSL hC hF hG; lia) ?_
                      refine k_X12_195 dX12_renderSledge_164 rfl (r_writesBehind htr hC hT rfl q14 y6 hlen 35) hMo (Nat.le_of_ble_eq_true rfl) (by omega) (by omega) (Nat.le_of_ble_eq_true rfl) (fun M9 h9 => ?_) (fun _ _ h9 => h9.elim)
                      obtain ⟨li9, hT, hC, hF9⟩ := h9
                      have hF := Frm.tr hF hF9
                      obtain ⟨hMo, hw5, hw6, hw7, hw8, hw9, hw10, hw11, hw13, hw14, hw15, hw16, hw17, hw18, -⟩ := _root_.id hC
                      refine v_iinc_4 dX12_renderSledge_167 rfl ?_
                      refine v_goto (tgt := 139) dX12_renderSledge_170 (by decide) ?_
                      rw [show nI lx + Int32.ofInt 1 = nI (lx + 1) from nI_1 lx]
                      exact hi _ li9 hT hC hF
                exact key1 (wN v (10 + k) (v 7).toNatClampNeg) 0 (by omega) _ li9 (by rw [show idT v (wL v (10 + k) (v 7).toNatClampNeg) 0 = [] from rfl, List.append_nil]; exact hT) (by rw [show idT v (wL v (10 + k) (v 7).toNatClampNeg) 0 = [] from rfl, List.append_nil]; exact hC) hF
            · refine v_aload_n dX12_renderSledge_111 rfl rfl ?_
              refine v_bipush (v := (43)) dX12_renderSledge_112 (by decide) ?_
              refine v_aload_n dX12_renderSledge_114 rfl rfl ?_
              refine gf_X12_16 dX12_renderSledge_115 rfl hMo ?_
              refine v_iload_n dX12_renderSledge_118 rfl rfl ?_
              refine v_iconst (v := 2) dX12_renderSledge_119 (by decide) ?_
              refine k_X12_96 dX12_renderSledge_120 rfl (r_in htr k 2) (Nat.le_of_ble_eq_true rfl) (by omega) (by omega) (Nat.le_of_ble_eq_true rfl) (fun r120 M9 h9 => ?_) (fun _ _ h9 => h9.elim)
              obtain ⟨rfl, e9⟩ := h9
              subst M9
              refine v_iald dX12_renderSledge_123 hw5 (by clear hgL hN9 hG; lia) (by clear hgL hN9 hG; lia) ?_
              refine k_X12_195 dX12_renderSledge_124 rfl (r_writesBehind htr hC hT rfl u4 o6 (by simp only [List.length_append, List.length_cons, List.length_nil]; omega) 43) hMo (Nat.le_of_ble_eq_true rfl) (by omega) (by omega) (Nat.le_of_ble_eq_true rfl) (fun M9 h9 => ?_) (fun _ _ h9 => h9.elim)
              obtain ⟨li9, hT, hC, hF9⟩ := h9
              have hF := Frm.tr hF hF9
              obtain ⟨hMo, hw5, hw6, hw7, hw8, hw9, hw10, hw11, hw13, hw14, hw15, hw16, hw17, hw18, -⟩ := _root_.id hC
              refine v_aload_n dX12_renderSledge_127 rfl rfl ?_
              refine v_bipush (v := (10)) dX12_renderSledge_128 (by decide) ?_
              refine v_iload_n dX12_renderSledge_130 rfl rfl ?_
              refine v_iadd dX12_renderSledge_131 ?_
              refine k_X12_121 dX12_renderSledge_132 rfl (r_waits htr hC hG (10 + k)) hMo (Nat.le_of_ble_eq_true rfl) (by omega) (by omega) (Nat.le_of_ble_eq_true rfl) (fun r132 M9 h9 => ?_) (fun _ _ h9 => h9.elim)
              obtain ⟨rfl, th2, hT2, hC, hF9⟩ := h9
              have hF := Frm.tr hF hF9
              obtain ⟨hMo, hw5, hw6, hw7, hw8, hw9, hw10, hw11, hw13, hw14, hw15, hw16, hw17, hw18, -⟩ := _root_.id hC
              refine v_istore_3 dX12_renderSledge_135 ?_
              refine v_iconst (v := 0) dX12_renderSledge_136 (by decide) ?_
              refine v_istore_4 dX12_renderSledge_137 ?_
              first | (exfalso; revert h84 h108; decide) | (exfalso; revert h84; decide) | (exfalso; revert h108; decide) | skip
              all_goals
                have hSL : slT v k = _ := if_neg (Int32.not_lt.mpr h73)
                have hW : (wN v (10 + k) (v 7).toNatClampNeg) ≤ 12 := Nat.le_trans (wL_len (v 7).toNatClampNeg) hG.LB.1
                have hsl34 := slT_len (σ := v) (k := k)
                rw [List.nil_append, ← hSL] at hT hC
                have key1 : ∀ e lx, lx + e = (wN v (10 + k) (v 7).toNatClampNeg) → ∀ (M1 : LH) (li1 : Int32 → Int32), Tl li1 (slT v k ++ idT v (wL v (10 + k) (v 7).toNatClampNeg) lx) → Md kd r M1 m w 0 ch ea fl sv bf tn he en (nI (slT v k ++ idT v (wL v (10 + k) (v 7).toNatClampNeg) lx).length) wr dg v b4 sa pa fr th2 bs tx li1 lf to → Frm kd r M M1 → V l g yX12_renderSledge cX12_renderSledge ((some .int)) [] 3 0 0 (RI (fun x M9 => ∃ li' th', ((hsl v k ∧ x = nI (slT v k ++ idT v (wL v (10 + k) (v 7).toNatClampNeg) (wN v (10 + k) (v 7).toNatClampNeg)).length ∧ Tl li' (slT v k ++ idT v (wL v (10 + k) (v 7).toNatClampNeg) (wN v (10 + k) (v 7).toNatClampNeg)) ∧ Md kd r M9 m w 0 ch ea fl sv bf tn he en (nI (slT v k ++ idT v (wL v (10 + k) (v 7).toNatClampNeg) (wN v (10 + k) (v 7).toNatClampNeg)).length) wr dg v b4 sa pa fr th' bs tx li' lf to) ∨ (¬ hsl v k ∧ x = 0 ∧ Md kd r M9 m w 1 ch ea fl sv bf tn he en ln wr dg v b4 sa pa fr th bs tx li lf to)) ∧ Frm kd r M M9) nX) X M1 0 0 139 [some (.ref m), some (.int k), some (.int 0), some (.int (nI (wN v (10 + k) (v 7).toNatClampNeg))), some (.int (nI lx))] [] := by
                  clear hT hC hF hMo hw5 hw6 hw7 hw8 hw9 hw10 hw11 hw13 hw14 hw15 hw16 hw17 hw18
                  intro e
                  induction e with
                  | zero =>
                    intro lx hl M1 li1 hT hC hF
                    obtain ⟨hMo, hw5, hw6, hw7, hw8, hw9, hw10, hw11, hw13, hw14, hw15, hw16, hw17, hw18, -⟩ := _root_.id hC
                    have hl0 : lx = (wN v (10 + k) (v 7).toNatClampNeg) := by omega
                    subst hl0
                    refine v_iload dX12_renderSledge_139 rfl ?_
                    refine v_iload_n dX12_renderSledge_141 rfl rfl ?_
                    refine v_icmp_ge (tgt := 173) dX12_renderSledge_142 (by decide) (fun h142 => ?_) (fun h142 => ?_)
                    · refine v_aload_n dX12_renderSledge_173 rfl rfl ?_
                      refine gf_X12_186 dX12_renderSledge_174 rfl hMo ?_
                      exact v_iret dX12_renderSledge_177 rfl ⟨li1, th2, Or.inl ⟨hk9, rfl, hT, hC⟩, hF⟩ (by omega) (by omega)
                    · exact absurd (Int32.le_refl _) h142
                  | succ e ih =>
                    intro lx hl M1 li1 hT hC hF
                    obtain ⟨hMo, hw5, hw6, hw7, hw8, hw9, hw10, hw11, hw13, hw14, hw15, hw16, hw17, hw18, -⟩ := _root_.id hC
                    have hl9 : lx < (wN v (10 + k) (v 7).toNatClampNeg) := by omega
                    have hlt9 : nI lx < nI (wN v (10 + k) (v 7).toNatClampNeg) := (nI_lt4 (by omega) (by omega)).mpr hl9
                    obtain ⟨b0, b1⟩ := nI12 lx (by omega)
                    obtain ⟨i9, j1, j2, j3⟩ := wL_at hl9
                    have ht9 : th2 (nI lx) = nI i9 := (hT2 lx hl9).trans j2
                    obtain ⟨j4, j5, j6⟩ := nI_below hg6 j1
                    obtain ⟨q1, q2, q3, q4, q5, q6, q7, q8, q9, q10, -, -, -, q14⟩ := hgL _ j4 j5
                    have y6 : lt v (nI i9) 0 < 1000000 := Int32.lt_trans (hN9 _ j4 j5) h4
                    have hlen : (slT v k ++ idT v (wL v (10 + k) (v 7).toNatClampNeg) lx).length + 8 < 120 := by
                      have := idT_len (σ := v) (L := (wL v (10 + k) (v 7).toNatClampNeg)) lx
                      rw [List.length_append]
                      omega
                    have hi := ih (lx + 1) (by omega)
                    rw [idT_1, j2, ← List.append_assoc] at hi
                    clear ih
                    refine v_iload dX12_renderSledge_139 rfl ?_
                    refine v_iload_n dX12_renderSledge_141 rfl rfl ?_
                    refine v_icmp_ge (tgt := 173) dX12_renderSledge_142 (by decide) (fun h142 => ?_) (fun h142 => ?_)
                    · exact absurd h142 (Int32.not_le.mpr hlt9)
                    · refine v_aload_n dX12_renderSledge_145 rfl rfl ?_
                      refine v_bipush (v := (35)) dX12_renderSledge_146 (by decide) ?_
                      refine v_aload_n dX12_renderSledge_148 rfl rfl ?_
                      refine gf_X12_16 dX12_renderSledge_149 rfl hMo ?_
                      refine v_aload_n dX12_renderSledge_152 rfl rfl ?_
                      refine gf_X12_32 dX12_renderSledge_153 rfl hMo ?_
                      refine v_iload dX12_renderSledge_156 rfl ?_
                      refine v_iald dX12_renderSledge_158 hw10 b0 b1 ?_
                      rw [ht9]
                      refine v_iconst (v := 0) dX12_renderSledge_159 (by decide) ?_
                      refine k_X12_70 dX12_renderSledge_160 rfl (r_of htr (nI i9) 0) (Nat.le_of_ble_eq_true rfl) (by omega) (by omega) (Nat.le_of_ble_eq_true rfl) (fun r160 M9 h9 => ?_) (fun _ _ h9 => h9.elim)
                      obtain ⟨rfl, e9⟩ := h9
                      subst M9
                      refine v_iald dX12_renderSledge_163 hw5 (by clear hi hgL hN9 hT hT2 hSL hC hF hG; lia) (by clear hi hgL hN9 hT hT2 hSL hC hF hG; lia) ?_
                      refine k_X12_195 dX12_renderSledge_164 rfl (r_writesBehind htr hC hT rfl q14 y6 hlen 35) hMo (Nat.le_of_ble_eq_true rfl) (by omega) (by omega) (Nat.le_of_ble_eq_true rfl) (fun M9 h9 => ?_) (fun _ _ h9 => h9.elim)
                      obtain ⟨li9, hT, hC, hF9⟩ := h9
                      have hF := Frm.tr hF hF9
                      obtain ⟨hMo, hw5, hw6, hw7, hw8, hw9, hw10, hw11, hw13, hw14, hw15, hw16, hw17, hw18, -⟩ := _root_.id hC
                      refine v_iinc_4 dX12_renderSledge_167 rfl ?_
                      refine v_goto (tgt := 139) dX12_renderSledge_170 (by decide) ?_
                      rw [show nI lx + Int32.ofInt 1 = nI (lx + 1) from nI_1 lx]
                      exact hi _ li9 hT hC hF
                exact key1 (wN v (10 + k) (v 7).toNatClampNeg) 0 (by omega) _ li9 (by rw [show idT v (wL v (10 + k) (v 7).toNatClampNeg) 0 = [] from rfl, List.append_nil]; exact hT) (by rw [show idT v (wL v (10 + k) (v 7).toNatClampNeg) 0 = [] from rfl, List.append_nil]; exact hC) hF
          · refine v_bipush (v := (62)) dX12_renderSledge_87 (by decide) ?_
            refine v_goto (tgt := 94) dX12_renderSledge_89 (by decide) ?_
            refine v_aload_n dX12_renderSledge_94 rfl rfl ?_
            refine gf_X12_16 dX12_renderSledge_95 rfl hMo ?_
            refine v_iload_n dX12_renderSledge_98 rfl rfl ?_
            refine v_iconst (v := 1) dX12_renderSledge_99 (by decide) ?_
            refine k_X12_96 dX12_renderSledge_100 rfl (r_in htr k 1) (Nat.le_of_ble_eq_true rfl) (by omega) (by omega) (Nat.le_of_ble_eq_true rfl) (fun r100 M9 h9 => ?_) (fun _ _ h9 => h9.elim)
            obtain ⟨rfl, e9⟩ := h9
            subst M9
            refine v_iald dX12_renderSledge_103 hw5 (by clear hgL hN9 hG; lia) (by clear hgL hN9 hG; lia) ?_
            refine k_X12_195 dX12_renderSledge_104 rfl (r_writesBehind htr hC hT rfl u2 a6 (by simp only [List.length_append, List.length_cons, List.length_nil]; omega) _) hMo (Nat.le_of_ble_eq_true rfl) (by omega) (by omega) (Nat.le_of_ble_eq_true rfl) (fun M9 h9 => ?_) (fun _ _ h9 => h9.elim)
            obtain ⟨li9, hT, hC, hF9⟩ := h9
            have hF := Frm.tr hF hF9
            obtain ⟨hMo, hw5, hw6, hw7, hw8, hw9, hw10, hw11, hw13, hw14, hw15, hw16, hw17, hw18, -⟩ := _root_.id hC
            refine v_iload_n dX12_renderSledge_107 rfl rfl ?_
            refine v_if_eq (tgt := 127) dX12_renderSledge_108 (by decide) (fun h108 => ?_) (fun h108 => ?_)
            · refine v_aload_n dX12_renderSledge_127 rfl rfl ?_
              refine v_bipush (v := (10)) dX12_renderSledge_128 (by decide) ?_
              refine v_iload_n dX12_renderSledge_130 rfl rfl ?_
              refine v_iadd dX12_renderSledge_131 ?_
              refine k_X12_121 dX12_renderSledge_132 rfl (r_waits htr hC hG (10 + k)) hMo (Nat.le_of_ble_eq_true rfl) (by omega) (by omega) (Nat.le_of_ble_eq_true rfl) (fun r132 M9 h9 => ?_) (fun _ _ h9 => h9.elim)
              obtain ⟨rfl, th2, hT2, hC, hF9⟩ := h9
              have hF := Frm.tr hF hF9
              obtain ⟨hMo, hw5, hw6, hw7, hw8, hw9, hw10, hw11, hw13, hw14, hw15, hw16, hw17, hw18, -⟩ := _root_.id hC
              refine v_istore_3 dX12_renderSledge_135 ?_
              refine v_iconst (v := 0) dX12_renderSledge_136 (by decide) ?_
              refine v_istore_4 dX12_renderSledge_137 ?_
              first | (exfalso; revert h84 h108; decide) | (exfalso; revert h84; decide) | (exfalso; revert h108; decide) | skip
              all_goals
                have hSL : slT v k = _ := if_neg (Int32.not_lt.mpr h73)
                have hW : (wN v (10 + k) (v 7).toNatClampNeg) ≤ 12 := Nat.le_trans (wL_len (v 7).toNatClampNeg) hG.LB.1
                have hsl34 := slT_len (σ := v) (k := k)
                rw [List.nil_append, ← hSL] at hT hC
                have key1 : ∀ e lx, lx + e = (wN v (10 + k) (v 7).toNatClampNeg) → ∀ (M1 : LH) (li1 : Int32 → Int32), Tl li1 (slT v k ++ idT v (wL v (10 + k) (v 7).toNatClampNeg) lx) → Md kd r M1 m w 0 ch ea fl sv bf tn he en (nI (slT v k ++ idT v (wL v (10 + k) (v 7).toNatClampNeg) lx).length) wr dg v b4 sa pa fr th2 bs tx li1 lf to → Frm kd r M M1 → V l g yX12_renderSledge cX12_renderSledge ((some .int)) [] 3 0 0 (RI (fun x M9 => ∃ li' th', ((hsl v k ∧ x = nI (slT v k ++ idT v (wL v (10 + k) (v 7).toNatClampNeg) (wN v (10 + k) (v 7).toNatClampNeg)).length ∧ Tl li' (slT v k ++ idT v (wL v (10 + k) (v 7).toNatClampNeg) (wN v (10 + k) (v 7).toNatClampNeg)) ∧ Md kd r M9 m w 0 ch ea fl sv bf tn he en (nI (slT v k ++ idT v (wL v (10 + k) (v 7).toNatClampNeg) (wN v (10 + k) (v 7).toNatClampNeg)).length) wr dg v b4 sa pa fr th' bs tx li' lf to) ∨ (¬ hsl v k ∧ x = 0 ∧ Md kd r M9 m w 1 ch ea fl sv bf tn he en ln wr dg v b4 sa pa fr th bs tx li lf to)) ∧ Frm kd r M M9) nX) X M1 0 0 139 [some (.ref m), some (.int k), some (.int 0), some (.int (nI (wN v (10 + k) (v 7).toNatClampNeg))), some (.int (nI lx))] [] := by
                  clear hT hC hF hMo hw5 hw6 hw7 hw8 hw9 hw10 hw11 hw13 hw14 hw15 hw16 hw17 hw18
                  intro e
                  induction e with
                  | zero =>
                    intro lx hl M1 li1 hT hC hF
                    obtain ⟨hMo, hw5, hw6, hw7, hw8, hw9, hw10, hw11, hw13, hw14, hw15, hw16, hw17, hw18, -⟩ := _root_.id hC
                    have hl0 : lx = (wN v (10 + k) (v 7).toNatClampNeg) := by omega
                    subst hl0
                    refine v_iload dX12_renderSledge_139 rfl ?_
                    refine v_iload_n dX12_renderSledge_141 rfl rfl ?_
                    refine v_icmp_ge (tgt := 173) dX12_renderSledge_142 (by decide) (fun h142 => ?_) (fun h142 => ?_)
                    · refine v_aload_n dX12_renderSledge_173 rfl rfl ?_
                      refine gf_X12_186 dX12_renderSledge_174 rfl hMo ?_
                      exact v_iret dX12_renderSledge_177 rfl ⟨li1, th2, Or.inl ⟨hk9, rfl, hT, hC⟩, hF⟩ (by omega) (by omega)
                    · exact absurd (Int32.le_refl _) h142
                  | succ e ih =>
                    intro lx hl M1 li1 hT hC hF
                    obtain ⟨hMo, hw5, hw6, hw7, hw8, hw9, hw10, hw11, hw13, hw14, hw15, hw16, hw17, hw18, -⟩ := _root_.id hC
                    have hl9 : lx < (wN v (10 + k) (v 7).toNatClampNeg) := by omega
                    have hlt9 : nI lx < nI (wN v (10 + k) (v 7).toNatClampNeg) := (nI_lt4 (by omega) (by omega)).mpr hl9
                    obtain ⟨b0, b1⟩ := nI12 lx (by omega)
                    obtain ⟨i9, j1, j2, j3⟩ := wL_at hl9
                    have ht9 : th2 (nI lx) = nI i9 := (hT2 lx hl9).trans j2
                    obtain ⟨j4, j5, j6⟩ := nI_below hg6 j1
                    obtain ⟨q1, q2, q3, q4, q5, q6, q7, q8, q9, q10, -, -, -, q14⟩ := hgL _ j4 j5
                    have y6 : lt v (nI i9) 0 < 1000000 := Int32.lt_trans (hN9 _ j4 j5) h4
                    have hlen : (slT v k ++ idT v (wL v (10 + k) (v 7).toNatClampNeg) lx).length + 8 < 120 := by
                      have := idT_len (σ := v) (L := (wL v (10 + k) (v 7).toNatClampNeg)) lx
                      rw [List.length_append]
                      omega
                    have hi := ih (lx + 1) (by omega)
                    rw [idT_1, j2, ← List.append_assoc] at hi
                    clear ih
                    refine v_iload dX12_renderSledge_139 rfl ?_
                    refine v_iload_n dX12_renderSledge_141 rfl rfl ?_
                    refine v_icmp_ge (tgt := 173) dX12_renderSledge_142 (by decide) (fun h142 => ?_) (fun h142 => ?_)
                    · exact absurd h142 (Int32.not_le.mpr hlt9)
                    · refine v_aload_n dX12_renderSledge_145 rfl rfl ?_
                      refine v_bipush (v := (35)) dX12_renderSledge_146 (by decide) ?_
                      refine v_aload_n dX12_renderSledge_148 rfl rfl ?_
                      refine gf_X12_16 dX12_renderSledge_149 rfl hMo ?_
                      refine v_aload_n dX12_renderSledge_152 rfl rfl ?_
                      refine gf_X12_32 dX12_renderSledge_153 rfl hMo ?_
                      refine v_iload dX12_renderSledge_156 rfl ?_
                      refine v_iald dX12_renderSledge_158 hw10 b0 b1 ?_
                      rw [ht9]
                      refine v_iconst (v := 0) dX12_renderSledge_159 (by decide) ?_
                      refine k_X12_70 dX12_renderSledge_160 rfl (r_of htr (nI i9) 0) (Nat.le_of_ble_eq_true rfl) (by omega) (by omega) (Nat.le_of_ble_eq_true rfl) (fun r160 M9 h9 => ?_) (fun _ _ h9 => h9.elim)
                      obtain ⟨rfl, e9⟩ := h9
                      subst M9
                      refine v_iald dX12_renderSledge_163 hw5 (by clear hi hgL hN9 hT hT2 hSL hC hF hG; lia) (by clear hi hgL hN9 hT hT2 hSL hC hF hG; lia) ?_
                      refine k_X12_195 dX12_renderSledge_164 rfl (r_writesBehind htr hC hT rfl q14 y6 hlen 35) hMo (Nat.le_of_ble_eq_true rfl) (by omega) (by omega) (Nat.le_of_ble_eq_true rfl) (fun M9 h9 => ?_) (fun _ _ h9 => h9.elim)
                      obtain ⟨li9, hT, hC, hF9⟩ := h9
                      have hF := Frm.tr hF hF9
                      obtain ⟨hMo, hw5, hw6, hw7, hw8, hw9, hw10, hw11, hw13, hw14, hw15, hw16, hw17, hw18, -⟩ := _root_.id hC
                      refine v_iinc_4 dX12_renderSledge_167 rfl ?_
                      refine v_goto (tgt := 139) dX12_renderSledge_170 (by decide) ?_
                      rw [show nI lx + Int32.ofInt 1 = nI (lx + 1) from nI_1 lx]
                      exact hi _ li9 hT hC hF
                exact key1 (wN v (10 + k) (v 7).toNatClampNeg) 0 (by omega) _ li9 (by rw [show idT v (wL v (10 + k) (v 7).toNatClampNeg) 0 = [] from rfl, List.append_nil]; exact hT) (by rw [show idT v (wL v (10 + k) (v 7).toNatClampNeg) 0 = [] from rfl, List.append_nil]; exact hC) hF
            · refine v_aload_n dX12_renderSledge_111 rfl rfl ?_
              refine v_bipush (v := (43)) dX12_renderSledge_112 (by decide) ?_
              refine v_aload_n dX12_renderSledge_114 rfl rfl ?_
              refine gf_X12_16 dX12_renderSledge_115 rfl hMo ?_
              refine v_iload_n dX12_renderSledge_118 rfl rfl ?_
              refine v_iconst (v := 2) dX12_renderSledge_119 (by decide) ?_
              refine k_X12_96 dX12_renderSledge_120 rfl (r_in htr k 2) (Nat.le_of_ble_eq_true rfl) (by omega) (by omega) (Nat.le_of_ble_eq_true rfl) (fun r120 M9 h9 => ?_) (fun _ _ h9 => h9.elim)
              obtain ⟨rfl, e9⟩ := h9
              subst M9
              refine v_iald dX12_renderSledge_123 hw5 (by clear hgL hN9 hG; lia) (by clear hgL hN9 hG; lia) ?_
              refine k_X12_195 dX12_renderSledge_124 rfl (r_writesBehind htr hC hT rfl u4 o6 (by simp only [List.length_append, List.length_cons, List.length_nil]; omega) 43) hMo (Nat.le_of_ble_eq_true rfl) (by omega) (by omega) (Nat.le_of_ble_eq_true rfl) (fun M9 h9 => ?_) (fun _ _ h9 => h9.elim)
              obtain ⟨li9, hT, hC, hF9⟩ := h9
              have hF := Frm.tr hF hF9
              obtain ⟨hMo, hw5, hw6, hw7, hw8, hw9, hw10, hw11, hw13, hw14, hw15, hw16, hw17, hw18, -⟩ := _root_.id hC
              refine v_aload_n dX12_renderSledge_127 rfl rfl ?_
              refine v_bipush (v := (10)) dX12_renderSledge_128 (by decide) ?_
              refine v_iload_n dX12_renderSledge_130 rfl rfl ?_
              refine v_iadd dX12_renderSledge_131 ?_
              refine k_X12_121 dX12_renderSledge_132 rfl (r_waits htr hC hG (10 + k)) hMo (Nat.le_of_ble_eq_true rfl) (by omega) (by omega) (Nat.le_of_ble_eq_true rfl) (fun r132 M9 h9 => ?_) (fun _ _ h9 => h9.elim)
              obtain ⟨rfl, th2, hT2, hC, hF9⟩ := h9
              have hF := Frm.tr hF hF9
              obtain ⟨hMo, hw5, hw6, hw7, hw8, hw9, hw10, hw11, hw13, hw14, hw15, hw16, hw17, hw18, -⟩ := _root_.id hC
              refine v_istore_3 dX12_renderSledge_135 ?_
              refine v_iconst (v := 0) dX12_renderSledge_136 (by decide) ?_
              refine v_istore_4 dX12_renderSledge_137 ?_
              first | (exfalso; revert h84 h108; decide) | (exfalso; revert h84; decide) | (exfalso; revert h108; decide) | skip
              all_goals
                have hSL : slT v k = _ := if_neg (Int32.not_lt.mpr h73)
                have hW : (wN v (10 + k) (v 7).toNatClampNeg) ≤ 12 := Nat.le_trans (wL_len (v 7).toNatClampNeg) hG.LB.1
                have hsl34 := slT_len (σ := v) (k := k)
                rw [List.nil_append, ← hSL] at hT hC
                have key1 : ∀ e lx, lx + e = (wN v (10 + k) (v 7).toNatClampNeg) → ∀ (M1 : LH) (li1 : Int32 → Int32), Tl li1 (slT v k ++ idT v (wL v (10 + k) (v 7).toNatClampNeg) lx) → Md kd r M1 m w 0 ch ea fl sv bf tn he en (nI (slT v k ++ idT v (wL v (10 + k) (v 7).toNatClampNeg) lx).length) wr dg v b4 sa pa fr th2 bs tx li1 lf to → Frm kd r M M1 → V l g yX12_renderSledge cX12_renderSledge ((some .int)) [] 3 0 0 (RI (fun x M9 => ∃ li' th', ((hsl v k ∧ x = nI (slT v k ++ idT v (wL v (10 + k) (v 7).toNatClampNeg) (wN v (10 + k) (v 7).toNatClampNeg)).length ∧ Tl li' (slT v k ++ idT v (wL v (10 + k) (v 7).toNatClampNeg) (wN v (10 + k) (v 7).toNatClampNeg)) ∧ Md kd r M9 m w 0 ch ea fl sv bf tn he en (nI (slT v k ++ idT v (wL v (10 + k) (v 7).toNatClampNeg) (wN v (10 + k) (v 7).toNatClampNeg)).length) wr dg v b4 sa pa fr th' bs tx li' lf to) ∨ (¬ hsl v k ∧ x = 0 ∧ Md kd r M9 m w 1 ch ea fl sv bf tn he en ln wr dg v b4 sa pa fr th bs tx li lf to)) ∧ Frm kd r M M9) nX) X M1 0 0 139 [some (.ref m), some (.int k), some (.int 0), some (.int (nI (wN v (10 + k) (v 7).toNatClampNeg))), some (.int (nI lx))] [] := by
                  clear hT hC hF hMo hw5 hw6 hw7 hw8 hw9 hw10 hw11 hw13 hw14 hw15 hw16 hw17 hw18
                  intro e
                  induction e with
                  | zero =>
                    intro lx hl M1 li1 hT hC hF
                    obtain ⟨hMo, hw5, hw6, hw7, hw8, hw9, hw10, hw11, hw13, hw14, hw15, hw16, hw17, hw18, -⟩ := _root_.id hC
                    have hl0 : lx = (wN v (10 + k) (v 7).toNatClampNeg) := by omega
                    subst hl0
                    refine v_iload dX12_renderSledge_139 rfl ?_
                    refine v_iload_n dX12_renderSledge_141 rfl rfl ?_
                    refine v_icmp_ge (tgt := 173) dX12_renderSledge_142 (by decide) (fun h142 => ?_) (fun h142 => ?_)
                    · refine v_aload_n dX12_renderSledge_173 rfl rfl ?_
                      refine gf_X12_186 dX12_renderSledge_174 rfl hMo ?_
                      exact v_iret dX12_renderSledge_177 rfl ⟨li1, th2, Or.inl ⟨hk9, rfl, hT, hC⟩, hF⟩ (by omega) (by omega)
                    · exact absurd (Int32.le_refl _) h142
                  | succ e ih =>
                    intro lx hl M1 li1 hT hC hF
                    obtain ⟨hMo, hw5, hw6, hw7, hw8, hw9, hw10, hw11, hw13, hw14, hw15, hw16, hw17, hw18, -⟩ := _root_.id hC
                    have hl9 : lx < (wN v (10 + k) (v 7).toNatClampNeg) := by omega
                    have hlt9 : nI lx < nI (wN v (10 + k) (v 7).toNatClampNeg) := (nI_lt4 (by omega) (by omega)).mpr hl9
                    obtain ⟨b0, b1⟩ := nI12 lx (by omega)
                    obtain ⟨i9, j1, j2, j3⟩ := wL_at hl9
                    have ht9 : th2 (nI lx) = nI i9 := (hT2 lx hl9).trans j2
                    obtain ⟨j4, j5, j6⟩ := nI_below hg6 j1
                    obtain ⟨q1, q2, q3, q4, q5, q6, q7, q8, q9, q10, -, -, -, q14⟩ := hgL _ j4 j5
                    have y6 : lt v (nI i9) 0 < 1000000 := Int32.lt_trans (hN9 _ j4 j5) h4
                    have hlen : (slT v k ++ idT v (wL v (10 + k) (v 7).toNatClampNeg) lx).length + 8 < 120 := by
                      have := idT_len (σ := v) (L := (wL v (10 + k) (v 7).toNatClampNeg)) lx
                      rw [List.length_append]
                      omega
                    have hi := ih (lx + 1) (by omega)
                    rw [idT_1, j2, ← List.append_assoc] at hi
                    clear ih
                    refine v_iload dX12_renderSledge_139 rfl ?_
                    refine v_iload_n dX12_renderSledge_141 rfl rfl ?_
                    refine v_icmp_ge (tgt := 173) dX12_renderSledge_142 (by decide) (fun h142 => ?_) (fun h142 => ?_)
                    · exact absurd h142 (Int32.not_le.mpr hlt9)
                    · refine v_aload_n dX12_renderSledge_145 rfl rfl ?_
                      refine v_bipush (v := (35)) dX12_renderSledge_146 (by decide) ?_
                      refine v_aload_n dX12_renderSledge_148 rfl rfl ?_
                      refine gf_X12_16 dX12_renderSledge_149 rfl hMo ?_
                      refine v_aload_n dX12_renderSledge_152 rfl rfl ?_
                      refine gf_X12_32 dX12_renderSledge_153 rfl hMo ?_
                      refine v_iload dX12_renderSledge_156 rfl ?_
                      refine v_iald dX12_renderSledge_158 hw10 b0 b1 ?_
                      rw [ht9]
                      refine v_iconst (v := 0) dX12_renderSledge_159 (by decide) ?_
                      refine k_X12_70 dX12_renderSledge_160 rfl (r_of htr (nI i9) 0) (Nat.le_of_ble_eq_true rfl) (by omega) (by omega) (Nat.le_of_ble_eq_true rfl) (fun r160 M9 h9 => ?_) (fun _ _ h9 => h9.elim)
                      obtain ⟨rfl, e9⟩ := h9
                      subst M9
                      refine v_iald dX12_renderSledge_163 hw5 (by clear hi hgL hN9 hT hT2 hSL hC hF hG; lia) (by clear hi hgL hN9 hT hT2 hSL hC hF hG; lia) ?_
                      refine k_X12_195 dX12_renderSledge_164 rfl (r_writesBehind htr hC hT rfl q14 y6 hlen 35) hMo (Nat.le_of_ble_eq_true rfl) (by omega) (by omega) (Nat.le_of_ble_eq_true rfl) (fun M9 h9 => ?_) (fun _ _ h9 => h9.elim)
                      obtain ⟨li9, hT, hC, hF9⟩ := h9
                      have hF := Frm.tr hF hF9
                      obtain ⟨hMo, hw5, hw6, hw7, hw8, hw9, hw10, hw11, hw13, hw14, hw15, hw16, hw17, hw18, -⟩ := _root_.id hC
                      refine v_iinc_4 dX12_renderSledge_167 rfl ?_
                      refine v_goto (tgt := 139) dX12_renderSledge_170 (by decide) ?_
                      rw [show nI lx + Int32.ofInt 1 = nI (lx + 1) from nI_1 lx]
                      exact hi _ li9 hT hC hF
                exact key1 (wN v (10 + k) (v 7).toNatClampNeg) 0 (by omega) _ li9 (by rw [show idT v (wL v (10 + k) (v 7).toNatClampNeg) 0 = [] from rfl, List.append_nil]; exact hT) (by rw [show idT v (wL v (10 + k) (v 7).toNatClampNeg) 0 = [] from rfl, List.append_nil]; exact hC) hF
        · refine v_iconst (v := 1) dX12_renderSledge_76 (by decide) ?_
          refine v_goto (tgt := 81) dX12_renderSledge_77 (by decide) ?_
          refine v_istore_2 dX12_renderSledge_81 ?_
          refine v_aload_n dX12_renderSledge_82 rfl rfl ?_
          refine v_iload_n dX12_renderSledge_83 rfl rfl ?_
          refine v_if_eq (tgt := 92) dX12_renderSledge_84 (by decide) (fun h84 => ?_) (fun h84 => ?_)
          · refine v_bipush (v := (64)) dX12_renderSledge_92 (by decide) ?_
            refine v_aload_n dX12_renderSledge_94 rfl rfl ?_
            refine gf_X12_16 dX12_renderSledge_95 rfl hMo ?_
            refine v_iload_n dX12_renderSledge_98 rfl rfl ?_
            refine v_iconst (v := 1) dX12_renderSledge_99 (by decide) ?_
            refine k_X12_96 dX12_renderSledge_100 rfl (r_in htr k 1) (Nat.le_of_ble_eq_true rfl) (by omega) (by omega) (Nat.le_of_ble_eq_true rfl) (fun r100 M9 h9 => ?_) (fun _ _ h9 => h9.elim)
            obtain ⟨rfl, e9⟩ := h9
            subst M9
            refine v_iald dX12_renderSledge_103 hw5 (by clear hgL hN9 hG; lia) (by clear hgL hN9 hG; lia) ?_
            refine k_X12_195 dX12_renderSledge_104 rfl (r_writesBehind htr hC hT rfl u2 a6 (by simp only [List.length_append, List.length_cons, List.length_nil]; omega) _) hMo (Nat.le_of_ble_eq_true rfl) (by omega) (by omega) (Nat.le_of_ble_eq_true rfl) (fun M9 h9 => ?_) (fun _ _ h9 => h9.elim)
            obtain ⟨li9, hT, hC, hF9⟩ := h9
            have hF := Frm.tr hF hF9
            obtain ⟨hMo, hw5, hw6, hw7, hw8, hw9, hw10, hw11, hw13, hw14, hw15, hw16, hw17, hw18, -⟩ := _root_.id hC
            refine v_iload_n dX12_renderSledge_107 rfl rfl ?_
            refine v_if_eq (tgt := 127) dX12_renderSledge_108 (by decide) (fun h108 => ?_) (fun h108 => ?_)
            · refine v_aload_n dX12_renderSledge_127 rfl rfl ?_
              refine v_bipush (v := (10)) dX12_renderSledge_128 (by decide) ?_
              refine v_iload_n dX12_renderSledge_130 rfl rfl ?_
              refine v_iadd dX12_renderSledge_131 ?_
              refine k_X12_121 dX12_renderSledge_132 rfl (r_waits htr hC hG (10 + k)) hMo (Nat.le_of_ble_eq_true rfl) (by omega) (by omega) (Nat.le_of_ble_eq_true rfl) (fun r132 M9 h9 => ?_) (fun _ _ h9 => h9.elim)
              obtain ⟨rfl, th2, hT2, hC, hF9⟩ := h9
              have hF := Frm.tr hF hF9
              obtain ⟨hMo, hw5, hw6, hw7, hw8, hw9, hw10, hw11, hw13, hw14, hw15, hw16, hw17, hw18, -⟩ := _root_.id hC
              refine v_istore_3 dX12_renderSledge_135 ?_
              refine v_iconst (v := 0) dX12_renderSledge_136 (by decide) ?_
              refine v_istore_4 dX12_renderSledge_137 ?_
              first | (exfalso; revert h84 h108; decide) | (exfalso; revert h84; decide) | (exfalso; revert h108; decide) | skip
              all_goals
                have hSL : slT v k = _ := if_pos (Int32.not_le.mp h73)
                have hW : (wN v (10 + k) (v 7).toNatClampNeg) ≤ 12 := Nat.le_trans (wL_len (v 7).toNatClampNeg) hG.LB.1
                have hsl34 := slT_len (σ := v) (k := k)
                rw [List.nil_append, ← hSL] at hT hC
                have key1 : ∀ e lx, lx + e = (wN v (10 + k) (v 7).toNatClampNeg) → ∀ (M1 : LH) (li1 : Int32 → Int32), Tl li1 (slT v k ++ idT v (wL v (10 + k) (v 7).toNatClampNeg) lx) → Md kd r M1 m w 0 ch ea fl sv bf tn he en (nI (slT v k ++ idT v (wL v (10 + k) (v 7).toNatClampNeg) lx).length) wr dg v b4 sa pa fr th2 bs tx li1 lf to → Frm kd r M M1 → V l g yX12_renderSledge cX12_renderSledge ((some .int)) [] 3 0 0 (RI (fun x M9 => ∃ li' th', ((hsl v k ∧ x = nI (slT v k ++ idT v (wL v (10 + k) (v 7).toNatClampNeg) (wN v (10 + k) (v 7).toNatClampNeg)).length ∧ Tl li' (slT v k ++ idT v (wL v (10 + k) (v 7).toNatClampNeg) (wN v (10 + k) (v 7).toNatClampNeg)) ∧ Md kd r M9 m w 0 ch ea fl sv bf tn he en (nI (slT v k ++ idT v (wL v (10 + k) (v 7).toNatClampNeg) (wN v (10 + k) (v 7).toNatClampNeg)).length) wr dg v b4 sa pa fr th' bs tx li' lf to) ∨ (¬ hsl v k ∧ x = 0 ∧ Md kd r M9 m w 1 ch ea fl sv bf tn he en ln wr dg v b4 sa pa fr th bs tx li lf to)) ∧ Frm kd r M M9) nX) X M1 0 0 139 [some (.ref m), some (.int k), some (.int 1), some (.int (nI (wN v (10 + k) (v 7).toNatClampNeg))), some (.int (nI lx))] [] := by
                  clear hT hC hF hMo hw5 hw6 hw7 hw8 hw9 hw10 hw11 hw13 hw14 hw15 hw16 hw17 hw18
                  intro e
                  induction e with
                  | zero =>
                    intro lx hl M1 li1 hT hC hF
                    obtain ⟨hMo, hw5, hw6, hw7, hw8, hw9, hw10, hw11, hw13, hw14, hw15, hw16, hw17, hw18, -⟩ := _root_.id hC
                    have hl0 : lx = (wN v (10 + k) (v 7).toNatClampNeg) := by omega
                    subst hl0
                    refine v_iload dX12_renderSledge_139 rfl ?_
                    refine v_iload_n dX12_renderSledge_141 rfl rfl ?_
                    refine v_icmp_ge (tgt := 173) dX12_renderSledge_142 (by decide) (fun h142 => ?_) (fun h142 => ?_)
                    · refine v_aload_n dX12_renderSledge_173 rfl rfl ?_
                      refine gf_X12_186 dX12_renderSledge_174 rfl hMo ?_
                      exact v_iret dX12_renderSledge_177 rfl ⟨li1, th2, Or.inl ⟨hk9, rfl, hT, hC⟩, hF⟩ (by omega) (by omega)
                    · exact absurd (Int32.le_refl _) h142
                  | succ e ih =>
                    intro lx hl M1 li1 hT hC hF
                    obtain ⟨hMo, hw5, hw6, hw7, hw8, hw9, hw10, hw11, hw13, hw14, hw15, hw16, hw17, hw18, -⟩ := _root_.id hC
                    have hl9 : lx < (wN v (10 + k) (v 7).toNatClampNeg) := by omega
                    have hlt9 : nI lx < nI (wN v (10 + k) (v 7).toNatClampNeg) := (nI_lt4 (by omega) (by omega)).mpr hl9
                    obtain ⟨b0, b1⟩ := nI12 lx (by omega)
                    obtain ⟨i9, j1, j2, j3⟩ := wL_at hl9
                    have ht9 : th2 (nI lx) = nI i9 := (hT2 lx hl9).trans j2
                    obtain ⟨j4, j5, j6⟩ := nI_below hg6 j1
                    obtain ⟨q1, q2, q3, q4, q5, q6, q7, q8, q9, q10, -, -, -, q14⟩ := hgL _ j4 j5
                    have y6 : lt v (nI i9) 0 < 1000000 := Int32.lt_trans (hN9 _ j4 j5) h4
                    have hlen : (slT v k ++ idT v (wL v (10 + k) (v 7).toNatClampNeg) lx).length + 8 < 120 := by
                      have := idT_len (σ := v) (L := (wL v (10 + k) (v 7).toNatClampNeg)) lx
                      rw [List.length_append]
                      omega
                    have hi := ih (lx + 1) (by omega)
                    rw [idT_1, j2, ← List.append_assoc] at hi
                    clear ih
                    refine v_iload dX12_renderSledge_139 rfl ?_
                    refine v_iload_n dX12_renderSledge_141 rfl rfl ?_
                    refine v_icmp_ge (tgt := 173) dX12_renderSledge_142 (by decide) (fun h142 => ?_) (fun h142 => ?_)
                    · exact absurd h142 (Int32.not_le.mpr hlt9)
                    · refine v_aload_n dX12_renderSledge_145 rfl rfl ?_
                      refine v_bipush (v := (35)) dX12_renderSledge_146 (by decide) ?_
                      refine v_aload_n dX12_renderSledge_148 rfl rfl ?_
                      refine gf_X12_16 dX12_renderSledge_149 rfl hMo ?_
                      refine v_aload_n dX12_renderSledge_152 rfl rfl ?_
                      refine gf_X12_32 dX12_renderSledge_153 rfl hMo ?_
                      refine v_iload dX12_renderSledge_156 rfl ?_
                      refine v_iald dX12_renderSledge_158 hw10 b0 b1 ?_
                      rw [ht9]
                      refine v_iconst (v := 0) dX12_renderSledge_159 (by decide) ?_
                      refine k_X12_70 dX12_renderSledge_160 rfl (r_of htr (nI i9) 0) (Nat.le_of_ble_eq_true rfl) (by omega) (by omega) (Nat.le_of_ble_eq_true rfl) (fun r160 M9 h9 => ?_) (fun _ _ h9 => h9.elim)
                      obtain ⟨rfl, e9⟩ := h9
                      subst M9
                      refine v_iald dX12_renderSledge_163 hw5 (by clear hi hgL hN9 hT hT2 hSL hC hF hG; lia) (by clear hi hgL hN9 hT hT2 hSL hC hF hG; lia) ?_
                      refine k_X12_195 dX12_renderSledge_164 rfl (r_writesBehind htr hC hT rfl q14 y6 hlen 35) hMo (Nat.le_of_ble_eq_true rfl) (by omega) (by omega) (Nat.le_of_ble_eq_true rfl) (fun M9 h9 => ?_) (fun _ _ h9 => h9.elim)
                      obtain ⟨li9, hT, hC, hF9⟩ := h9
                      have hF := Frm.tr hF hF9
                      obtain ⟨hMo, hw5, hw6, hw7, hw8, hw9, hw10, hw11, hw13, hw14, hw15, hw16, hw17, hw18, -⟩ := _root_.id hC
                      refine v_iinc_4 dX12_renderSledge_167 rfl ?_
                      refine v_goto (tgt := 139) dX12_renderSledge_170 (by decide) ?_
                      rw [show nI lx + Int32.ofInt 1 = nI (lx + 1) from nI_1 lx]
                      exact hi _ li9 hT hC hF
                exact key1 (wN v (10 + k) (v 7).toNatClampNeg) 0 (by omega) _ li9 (by rw [show idT v (wL v (10 + k) (v 7).toNatClampNeg) 0 = [] from rfl, List.append_nil]; exact hT) (by rw [show idT v (wL v (10 + k) (v 7).toNatClampNeg) 0 = [] from rfl, List.append_nil]; exact hC) hF
            · refine v_aload_n dX12_renderSledge_111 rfl rfl ?_
              refine v_bipush (v := (43)) dX12_renderSledge_112 (by decide) ?_
              refine v_aload_n dX12_renderSledge_114 rfl rfl ?_
              refine gf_X12_16 dX12_renderSledge_115 rfl hMo ?_
              refine v_iload_n dX12_renderSledge_118 rfl rfl ?_
              refine v_iconst (v := 2) dX12_renderSledge_119 (by decide) ?_
              refine k_X12_96 dX12_renderSledge_120 rfl (r_in htr k 2) (Nat.le_of_ble_eq_true rfl) (by omega) (by omega) (Nat.le_of_ble_eq_true rfl) (fun r120 M9 h9 => ?_) (fun _ _ h9 => h9.elim)
              obtain ⟨rfl, e9⟩ := h9
              subst M9
              refine v_iald dX12_renderSledge_123 hw5 (by clear hgL hN9 hG; lia) (by clear hgL hN9 hG; lia) ?_
              refine k_X12_195 dX12_renderSledge_124 rfl (r_writesBehind htr hC hT rfl u4 o6 (by simp only [List.length_append, List.length_cons, List.length_nil]; omega) 43) hMo (Nat.le_of_ble_eq_true rfl) (by omega) (by omega) (Nat.le_of_ble_eq_true rfl) (fun M9 h9 => ?_) (fun _ _ h9 => h9.elim)
              obtain ⟨li9, hT, hC, hF9⟩ := h9
              have hF := Frm.tr hF hF9
              obtain ⟨hMo, hw5, hw6, hw7, hw8, hw9, hw10, hw11, hw13, hw14, hw15, hw16, hw17, hw18, -⟩ := _root_.id hC
              refine v_aload_n dX12_renderSledge_127 rfl rfl ?_
              refine v_bipush (v := (10)) dX12_renderSledge_128 (by decide) ?_
              refine v_iload_n dX12_renderSledge_130 rfl rfl ?_
              refine v_iadd dX12_renderSledge_131 ?_
              refine k_X12_121 dX12_renderSledge_132 rfl (r_waits htr hC hG (10 + k)) hMo (Nat.le_of_ble_eq_true rfl) (by omega) (by omega) (Nat.le_of_ble_eq_true rfl) (fun r132 M9 h9 => ?_) (fun _ _ h9 => h9.elim)
              obtain ⟨rfl, th2, hT2, hC, hF9⟩ := h9
              have hF := Frm.tr hF hF9
              obtain ⟨hMo, hw5, hw6, hw7, hw8, hw9, hw10, hw11, hw13, hw14, hw15, hw16, hw17, hw18, -⟩ := _root_.id hC
              refine v_istore_3 dX12_renderSledge_135 ?_
              refine v_iconst (v := 0) dX12_renderSledge_136 (by decide) ?_
              refine v_istore_4 dX12_renderSledge_137 ?_
              first | (exfalso; revert h84 h108; decide) | (exfalso; revert h84; decide) | (exfalso; revert h108; decide) | skip
              all_goals
                have hSL : slT v k = _ := if_pos (Int32.not_le.mp h73)
                have hW : (wN v (10 + k) (v 7).toNatClampNeg) ≤ 12 := Nat.le_trans (wL_len (v 7).toNatClampNeg) hG.LB.1
                have hsl34 := slT_len (σ := v) (k := k)
                rw [List.nil_append, ← hSL] at hT hC
                have key1 : ∀ e lx, lx + e = (wN v (10 + k) (v 7).toNatClampNeg) → ∀ (M1 : LH) (li1 : Int32 → Int32), Tl li1 (slT v k ++ idT v (wL v (10 + k) (v 7).toNatClampNeg) lx) → Md kd r M1 m w 0 ch ea fl sv bf tn he en (nI (slT v k ++ idT v (wL v (10 + k) (v 7).toNatClampNeg) lx).length) wr dg v b4 sa pa fr th2 bs tx li1 lf to → Frm kd r M M1 → V l g yX12_renderSledge cX12_renderSledge ((some .int)) [] 3 0 0 (RI (fun x M9 => ∃ li' th', ((hsl v k ∧ x = nI (slT v k ++ idT v (wL v (10 + k) (v 7).toNatClampNeg) (wN v (10 + k) (v 7).toNatClampNeg)).length ∧ Tl li' (slT v k ++ idT v (wL v (10 + k) (v 7).toNatClampNeg) (wN v (10 + k) (v 7).toNatClampNeg)) ∧ Md kd r M9 m w 0 ch ea fl sv bf tn he en (nI (slT v k ++ idT v (wL v (10 + k) (v 7).toNatClampNeg) (wN v (10 + k) (v 7).toNatClampNeg)).length) wr dg v b4 sa pa fr th' bs tx li' lf to) ∨ (¬ hsl v k ∧ x = 0 ∧ Md kd r M9 m w 1 ch ea fl sv bf tn he en ln wr dg v b4 sa pa fr th bs tx li lf to)) ∧ Frm kd r M M9) nX) X M1 0 0 139 [some (.ref m), some (.int k), some (.int 1), some (.int (nI (wN v (10 + k) (v 7).toNatClampNeg))), some (.int (nI lx))] [] := by
                  clear hT hC hF hMo hw5 hw6 hw7 hw8 hw9 hw10 hw11 hw13 hw14 hw15 hw16 hw17 hw18
                  intro e
                  induction e with
                  | zero =>
                    intro lx hl M1 li1 hT hC hF
                    obtain ⟨hMo, hw5, hw6, hw7, hw8, hw9, hw10, hw11, hw13, hw14, hw15, hw16, hw17, hw18, -⟩ := _root_.id hC
                    have hl0 : lx = (wN v (10 + k) (v 7).toNatClampNeg) := by omega
                    subst hl0
                    refine v_iload dX12_renderSledge_139 rfl ?_
                    refine v_iload_n dX12_renderSledge_141 rfl rfl ?_
                    refine v_icmp_ge (tgt := 173) dX12_renderSledge_142 (by decide) (fun h142 => ?_) (fun h142 => ?_)
                    · refine v_aload_n dX12_renderSledge_173 rfl rfl ?_
                      refine gf_X12_186 dX12_renderSledge_174 rfl hMo ?_
                      exact v_iret dX12_renderSledge_177 rfl ⟨li1, th2, Or.inl ⟨hk9, rfl, hT, hC⟩, hF⟩ (by omega) (by omega)
                    · exact absurd (Int32.le_refl _) h142
                  | succ e ih =>
                    intro lx hl M1 li1 hT hC hF
                    obtain ⟨hMo, hw5, hw6, hw7, hw8, hw9, hw10, hw11, hw13, hw14, hw15, hw16, hw17, hw18, -⟩ := _root_.id hC
                    have hl9 : lx < (wN v (10 + k) (v 7).toNatClampNeg) := by omega
                    have hlt9 : nI lx < nI (wN v (10 + k) (v 7).toNatClampNeg) := (nI_lt4 (by omega) (by omega)).mpr hl9
                    obtain ⟨b0, b1⟩ := nI12 lx (by omega)
                    obtain ⟨i9, j1, j2, j3⟩ := wL_at hl9
                    have ht9 : th2 (nI lx) = nI i9 := (hT2 lx hl9).trans j2
                    obtain ⟨j4, j5, j6⟩ := nI_below hg6 j1
                    obtain ⟨q1, q2, q3, q4, q5, q6, q7, q8, q9, q10, -, -, -, q14⟩ := hgL _ j4 j5
                    have y6 : lt v (nI i9) 0 < 1000000 := Int32.lt_trans (hN9 _ j4 j5) h4
                    have hlen : (slT v k ++ idT v (wL v (10 + k) (v 7).toNatClampNeg) lx).length + 8 < 120 := by
                      have := idT_len (σ := v) (L := (wL v (10 + k) (v 7).toNatClampNeg)) lx
                      rw [List.length_append]
                      omega
                    have hi := ih (lx + 1) (by omega)
                    rw [idT_1, j2, ← List.append_assoc] at hi
                    clear ih
                    refine v_iload dX12_renderSledge_139 rfl ?_
                    refine v_iload_n dX12_renderSledge_141 rfl rfl ?_
                    refine v_icmp_ge (tgt := 173) dX12_renderSledge_142 (by decide) (fun h142 => ?_) (fun h142 => ?_)
                    · exact absurd h142 (Int32.not_le.mpr hlt9)
                    · refine v_aload_n dX12_renderSledge_145 rfl rfl ?_
                      refine v_bipush (v := (35)) dX12_renderSledge_146 (by decide) ?_
                      refine v_aload_n dX12_renderSledge_148 rfl rfl ?_
                      refine gf_X12_16 dX12_renderSledge_149 rfl hMo ?_
                      refine v_aload_n dX12_renderSledge_152 rfl rfl ?_
                      refine gf_X12_32 dX12_renderSledge_153 rfl hMo ?_
                      refine v_iload dX12_renderSledge_156 rfl ?_
                      refine v_iald dX12_renderSledge_158 hw10 b0 b1 ?_
                      rw [ht9]
                      refine v_iconst (v := 0) dX12_renderSledge_159 (by decide) ?_
                      refine k_X12_70 dX12_renderSledge_160 rfl (r_of htr (nI i9) 0) (Nat.le_of_ble_eq_true rfl) (by omega) (by omega) (Nat.le_of_ble_eq_true rfl) (fun r160 M9 h9 => ?_) (fun _ _ h9 => h9.elim)
                      obtain ⟨rfl, e9⟩ := h9
                      subst M9
                      refine v_iald dX12_renderSledge_163 hw5 (by clear hi hgL hN9 hT hT2 hSL hC hF hG; lia) (by clear hi hgL hN9 hT hT2 hSL hC hF hG; lia) ?_
                      refine k_X12_195 dX12_renderSledge_164 rfl (r_writesBehind htr hC hT rfl q14 y6 hlen 35) hMo (Nat.le_of_ble_eq_true rfl) (by omega) (by omega) (Nat.le_of_ble_eq_true rfl) (fun M9 h9 => ?_) (fun _ _ h9 => h9.elim)
                      obtain ⟨li9, hT, hC, hF9⟩ := h9
                      have hF := Frm.tr hF hF9
                      obtain ⟨hMo, hw5, hw6, hw7, hw8, hw9, hw10, hw11, hw13, hw14, hw15, hw16, hw17, hw18, -⟩ := _root_.id hC
                      refine v_iinc_4 dX12_renderSledge_167 rfl ?_
                      refine v_goto (tgt := 139) dX12_renderSledge_170 (by decide) ?_
                      rw [show nI lx + Int32.ofInt 1 = nI (lx + 1) from nI_1 lx]
                      exact hi _ li9 hT hC hF
                exact key1 (wN v (10 + k) (v 7).toNatClampNeg) 0 (by omega) _ li9 (by rw [show idT v (wL v (10 + k) (v 7).toNatClampNeg) 0 = [] from rfl, List.append_nil]; exact hT) (by rw [show idT v (wL v (10 + k) (v 7).toNatClampNeg) 0 = [] from rfl, List.append_nil]; exact hC) hF
          · refine v_bipush (v := (62)) dX12_renderSledge_87 (by decide) ?_
            refine v_goto (tgt := 94) dX12_renderSledge_89 (by decide) ?_
            refine v_aload_n dX12_renderSledge_94 rfl rfl ?_
            refine gf_X12_16 dX12_renderSledge_95 rfl hMo ?_
            refine v_iload_n dX12_renderSledge_98 rfl rfl ?_
            refine v_iconst (v := 1) dX12_renderSledge_99 (by decide) ?_
            refine k_X12_96 dX12_renderSledge_100 rfl (r_in htr k 1) (Nat.le_of_ble_eq_true rfl) (by omega) (by omega) (Nat.le_of_ble_eq_true rfl) (fun r100 M9 h9 => ?_) (fun _ _ h9 => h9.elim)
            obtain ⟨rfl, e9⟩ := h9
            subst M9
            refine v_iald dX12_renderSledge_103 hw5 (by clear hgL hN9 hG; lia) (by clear hgL hN9 hG; lia) ?_
            refine k_X12_195 dX12_renderSledge_104 rfl (r_writesBehind htr hC hT rfl u2 a6 (by simp only [List.length_append, List.length_cons, List.length_nil]; omega) _) hMo (Nat.le_of_ble_eq_true rfl) (by omega) (by omega) (Nat.le_of_ble_eq_true rfl) (fun M9 h9 => ?_) (fun _ _ h9 => h9.elim)
            obtain ⟨li9, hT, hC, hF9⟩ := h9
            have hF := Frm.tr hF hF9
            obtain ⟨hMo, hw5, hw6, hw7, hw8, hw9, hw10, hw11, hw13, hw14, hw15, hw16, hw17, hw18, -⟩ := _root_.id hC
            refine v_iload_n dX12_renderSledge_107 rfl rfl ?_
            refine v_if_eq (tgt := 127) dX12_renderSledge_108 (by decide) (fun h108 => ?_) (fun h108 => ?_)
            · refine v_aload_n dX12_renderSledge_127 rfl rfl ?_
              refine v_bipush (v := (10)) dX12_renderSledge_128 (by decide) ?_
              refine v_iload_n dX12_renderSledge_130 rfl rfl ?_
              refine v_iadd dX12_renderSledge_131 ?_
              refine k_X12_121 dX12_renderSledge_132 rfl (r_waits htr hC hG (10 + k)) hMo (Nat.le_of_ble_eq_true rfl) (by omega) (by omega) (Nat.le_of_ble_eq_true rfl) (fun r132 M9 h9 => ?_) (fun _ _ h9 => h9.elim)
              obtain ⟨rfl, th2, hT2, hC, hF9⟩ := h9
              have hF := Frm.tr hF hF9
              obtain ⟨hMo, hw5, hw6, hw7, hw8, hw9, hw10, hw11, hw13, hw14, hw15, hw16, hw17, hw18, -⟩ := _root_.id hC
              refine v_istore_3 dX12_renderSledge_135 ?_
              refine v_iconst (v := 0) dX12_renderSledge_136 (by decide) ?_
              refine v_istore_4 dX12_renderSledge_137 ?_
              first | (exfalso; revert h84 h108; decide) | (exfalso; revert h84; decide) | (exfalso; revert h108; decide) | skip
              all_goals
                have hSL : slT v k = _ := if_pos (Int32.not_le.mp h73)
                have hW : (wN v (10 + k) (v 7).toNatClampNeg) ≤ 12 := Nat.le_trans (wL_len (v 7).toNatClampNeg) hG.LB.1
                have hsl34 := slT_len (σ := v) (k := k)
                rw [List.nil_append, ← hSL] at hT hC
                have key1 : ∀ e lx, lx + e = (wN v (10 + k) (v 7).toNatClampNeg) → ∀ (M1 : LH) (li1 : Int32 → Int32), Tl li1 (slT v k ++ idT v (wL v (10 + k) (v 7).toNatClampNeg) lx) → Md kd r M1 m w 0 ch ea fl sv bf tn he en (nI (slT v k ++ idT v (wL v (10 + k) (v 7).toNatClampNeg) lx).length) wr dg v b4 sa pa fr th2 bs tx li1 lf to → Frm kd r M M1 → V l g yX12_renderSledge cX12_renderSledge ((some .int)) [] 3 0 0 (RI (fun x M9 => ∃ li' th', ((hsl v k ∧ x = nI (slT v k ++ idT v (wL v (10 + k) (v 7).toNatClampNeg) (wN v (10 + k) (v 7).toNatClampNeg)).length ∧ Tl li' (slT v k ++ idT v (wL v (10 + k) (v 7).toNatClampNeg) (wN v (10 + k) (v 7).toNatClampNeg)) ∧ Md kd r M9 m w 0 ch ea fl sv bf tn he en (nI (slT v k ++ idT v (wL v (10 + k) (v 7).toNatClampNeg) (wN v (10 + k) (v 7).toNatClampNeg)).length) wr dg v b4 sa pa fr th' bs tx li' lf to) ∨ (¬ hsl v k ∧ x = 0 ∧ Md kd r M9 m w 1 ch ea fl sv bf tn he en ln wr dg v b4 sa pa fr th bs tx li lf to)) ∧ Frm kd r M M9) nX) X M1 0 0 139 [some (.ref m), some (.int k), some (.int 1), some (.int (nI (wN v (10 + k) (v 7).toNatClampNeg))), some (.int (nI lx))] [] := by
                  clear hT hC hF hMo hw5 hw6 hw7 hw8 hw9 hw10 hw11 hw13 hw14 hw15 hw16 hw17 hw18
                  intro e
                  induction e with
                  | zero =>
                    intro lx hl M1 li1 hT hC hF
                    obtain ⟨hMo, hw5, hw6, hw7, hw8, hw9, hw10, hw11, hw13, hw14, hw15, hw16, hw17, hw18, -⟩ := _root_.id hC
                    have hl0 : lx = (wN v (10 + k) (v 7).toNatClampNeg) := by omega
                    subst hl0
                    refine v_iload dX12_renderSledge_139 rfl ?_
                    refine v_iload_n dX12_renderSledge_141 rfl rfl ?_
                    refine v_icmp_ge (tgt := 173) dX12_renderSledge_142 (by decide) (fun h142 => ?_) (fun h142 => ?_)
                    · refine v_aload_n dX12_renderSledge_173 rfl rfl ?_
                      refine gf_X12_186 dX12_renderSledge_174 rfl hMo ?_
                      exact v_iret dX12_renderSledge_177 rfl ⟨li1, th2, Or.inl ⟨hk9, rfl, hT, hC⟩, hF⟩ (by omega) (by omega)
                    · exact absurd (Int32.le_refl _) h142
                  | succ e ih =>
                    intro lx hl M1 li1 hT hC hF
                    obtain ⟨hMo, hw5, hw6, hw7, hw8, hw9, hw10, hw11, hw13, hw14, hw15, hw16, hw17, hw18, -⟩ := _root_.id hC
                    have hl9 : lx < (wN v (10 + k) (v 7).toNatClampNeg) := by omega
                    have hlt9 : nI lx < nI (wN v (10 + k) (v 7).toNatClampNeg) := (nI_lt4 (by omega) (by omega)).mpr hl9
                    obtain ⟨b0, b1⟩ := nI12 lx (by omega)
                    obtain ⟨i9, j1, j2, j3⟩ := wL_at hl9
                    have ht9 : th2 (nI lx) = nI i9 := (hT2 lx hl9).trans j2
                    obtain ⟨j4, j5, j6⟩ := nI_below hg6 j1
                    obtain ⟨q1, q2, q3, q4, q5, q6, q7, q8, q9, q10, -, -, -, q14⟩ := hgL _ j4 j5
                    have y6 : lt v (nI i9) 0 < 1000000 := Int32.lt_trans (hN9 _ j4 j5) h4
                    have hlen : (slT v k ++ idT v (wL v (10 + k) (v 7).toNatClampNeg) lx).length + 8 < 120 := by
                      have := idT_len (σ := v) (L := (wL v (10 + k) (v 7).toNatClampNeg)) lx
                      rw [List.length_append]
                      omega
                    have hi := ih (lx + 1) (by omega)
                    rw [idT_1, j2, ← List.append_assoc] at hi
                    clear ih
                    refine v_iload dX12_renderSledge_139 rfl ?_
                    refine v_iload_n dX12_renderSledge_141 rfl rfl ?_
                    refine v_icmp_ge (tgt := 173) dX12_renderSledge_142 (by decide) (fun h142 => ?_) (fun h142 => ?_)
                    · exact absurd h142 (Int32.not_le.mpr hlt9)
                    · refine v_aload_n dX12_renderSledge_145 rfl rfl ?_
                      refine v_bipush (v := (35)) dX12_renderSledge_146 (by decide) ?_
                      refine v_aload_n dX12_renderSledge_148 rfl rfl ?_
                      refine gf_X12_16 dX12_renderSledge_149 rfl hMo ?_
                      refine v_aload_n dX12_renderSledge_152 rfl rfl ?_
                      refine gf_X12_32 dX12_renderSledge_153 rfl hMo ?_
                      refine v_iload dX12_renderSledge_156 rfl ?_
                      refine v_iald dX12_renderSledge_158 hw10 b0 b1 ?_
                      rw [ht9]
                      refine v_iconst (v := 0) dX12_renderSledge_159 (by decide) ?_
                      refine k_X12_70 dX12_renderSledge_160 rfl (r_of htr (nI i9) 0) (Nat.le_of_ble_eq_true rfl) (by omega) (by omega) (Nat.le_of_ble_eq_true rfl) (fun r160 M9 h9 => ?_) (fun _ _ h9 => h9.elim)
                      obtain ⟨rfl, e9⟩ := h9
                      subst M9
                      refine v_iald dX12_renderSledge_163 hw5 (by clear hi hgL hN9 hT hT2 hSL hC hF hG; lia) (by clear hi hgL hN9 hT hT2 hSL hC hF hG; lia) ?_
                      refine k_X12_195 dX12_renderSledge_164 rfl (r_writesBehind htr hC hT rfl q14 y6 hlen 35) hMo (Nat.le_of_ble_eq_true rfl) (by omega) (by omega) (Nat.le_of_ble_eq_true rfl) (fun M9 h9 => ?_) (fun _ _ h9 => h9.elim)
                      obtain ⟨li9, hT, hC, hF9⟩ := h9
                      have hF := Frm.tr hF hF9
                      obtain ⟨hMo, hw5, hw6, hw7, hw8, hw9, hw10, hw11, hw13, hw14, hw15, hw16, hw17, hw18, -⟩ := _root_.id hC
                      refine v_iinc_4 dX12_renderSledge_167 rfl ?_
                      refine v_goto (tgt := 139) dX12_renderSledge_170 (by decide) ?_
                      rw [show nI lx + Int32.ofInt 1 = nI (lx + 1) from nI_1 lx]
                      exact hi _ li9 hT hC hF
                exact key1 (wN v (10 + k) (v 7).toNatClampNeg) 0 (by omega) _ li9 (by rw [show idT v (wL v (10 + k) (v 7).toNatClampNeg) 0 = [] from rfl, List.append_nil]; exact hT) (by rw [show idT v (wL v (10 + k) (v 7).toNatClampNeg) 0 = [] from rfl, List.append_nil]; exact hC) hF
            · refine v_aload_n dX12_renderSledge_111 rfl rfl ?_
              refine v_bipush (v := (43)) dX12_renderSledge_112 (by decide) ?_
              refine v_aload_n dX12_renderSledge_114 rfl rfl ?_
              refine gf_X12_16 dX12_renderSledge_115 rfl hMo ?_
              refine v_iload_n dX12_renderSledge_118 rfl rfl ?_
              refine v_iconst (v := 2) dX12_renderSledge_119 (by decide) ?_
              refine k_X12_96 dX12_renderSledge_120 rfl (r_in htr k 2) (Nat.le_of_ble_eq_true rfl) (by omega) (by omega) (Nat.le_of_ble_eq_true rfl) (fun r120 M9 h9 => ?_) (fun _ _ h9 => h9.elim)
              obtain ⟨rfl, e9⟩ := h9
              subst M9
              refine v_iald dX12_renderSledge_123 hw5 (by clear hgL hN9 hG; lia) (by clear hgL hN9 hG; lia) ?_
              refine k_X12_195 dX12_renderSledge_124 rfl (r_writesBehind htr hC hT rfl u4 o6 (by simp only [List.length_append, List.length_cons, List.length_nil]; omega) 43) hMo (Nat.le_of_ble_eq_true rfl) (by omega) (by omega) (Nat.le_of_ble_eq_true rfl) (fun M9 h9 => ?_) (fun _ _ h9 => h9.elim)
              obtain ⟨li9, hT, hC, hF9⟩ := h9
              have hF := Frm.tr hF hF9
              obtain ⟨hMo, hw5, hw6, hw7, hw8, hw9, hw10, hw11, hw13, hw14, hw15, hw16, hw17, hw18, -⟩ := _root_.id hC
              refine v_aload_n dX12_renderSledge_127 rfl rfl ?_
              refine v_bipush (v := (10)) dX12_renderSledge_128 (by decide) ?_
              refine v_iload_n dX12_renderSledge_130 rfl rfl ?_
              refine v_iadd dX12_renderSledge_131 ?_
              refine k_X12_121 dX12_renderSledge_132 rfl (r_waits htr hC hG (10 + k)) hMo (Nat.le_of_ble_eq_true rfl) (by omega) (by omega) (Nat.le_of_ble_eq_true rfl) (fun r132 M9 h9 => ?_) (fun _ _ h9 => h9.elim)
              obtain ⟨rfl, th2, hT2, hC, hF9⟩ := h9
              have hF := Frm.tr hF hF9
              obtain ⟨hMo, hw5, hw6, hw7, hw8, hw9, hw10, hw11, hw13, hw14, hw15, hw16, hw17, hw18, -⟩ := _root_.id hC
              refine v_istore_3 dX12_renderSledge_135 ?_
              refine v_iconst (v := 0) dX12_renderSledge_136 (by decide) ?_
              refine v_istore_4 dX12_renderSledge_137 ?_
              first | (exfalso; revert h84 h108; decide) | (exfalso; revert h84; decide) | (exfalso; revert h108; decide) | skip
              all_goals
                have hSL : slT v k = _ := if_pos (Int32.not_le.mp h73)
                have hW : (wN v (10 + k) (v 7).toNatClampNeg) ≤ 12 := Nat.le_trans (wL_len (v 7).toNatClampNeg) hG.LB.1
                have hsl34 := slT_len (σ := v) (k := k)
                rw [List.nil_append, ← hSL] at hT hC
                have key1 : ∀ e lx, lx + e = (wN v (10 + k) (v 7).toNatClampNeg) → ∀ (M1 : LH) (li1 : Int32 → Int32), Tl li1 (slT v k ++ idT v (wL v (10 + k) (v 7).toNatClampNeg) lx) → Md kd r M1 m w 0 ch ea fl sv bf tn he en (nI (slT v k ++ idT v (wL v (10 + k) (v 7).toNatClampNeg) lx).length) wr dg v b4 sa pa fr th2 bs tx li1 lf to → Frm kd r M M1 → V l g yX12_renderSledge cX12_renderSledge ((some .int)) [] 3 0 0 (RI (fun x M9 => ∃ li' th', ((hsl v k ∧ x = nI (slT v k ++ idT v (wL v (10 + k) (v 7).toNatClampNeg) (wN v (10 + k) (v 7).toNatClampNeg)).length ∧ Tl li' (slT v k ++ idT v (wL v (10 + k) (v 7).toNatClampNeg) (wN v (10 + k) (v 7).toNatClampNeg)) ∧ Md kd r M9 m w 0 ch ea fl sv bf tn he en (nI (slT v k ++ idT v (wL v (10 + k) (v 7).toNatClampNeg) (wN v (10 + k) (v 7).toNatClampNeg)).length) wr dg v b4 sa pa fr th' bs tx li' lf to) ∨ (¬ hsl v k ∧ x = 0 ∧ Md kd r M9 m w 1 ch ea fl sv bf tn he en ln wr dg v b4 sa pa fr th bs tx li lf to)) ∧ Frm kd r M M9) nX) X M1 0 0 139 [some (.ref m), some (.int k), some (.int 1), some (.int (nI (wN v (10 + k) (v 7).toNatClampNeg))), some (.int (nI lx))] [] := by
                  clear hT hC hF hMo hw5 hw6 hw7 hw8 hw9 hw10 hw11 hw13 hw14 hw15 hw16 hw17 hw18
                  intro e
                  induction e with
                  | zero =>
                    intro lx hl M1 li1 hT hC hF
                    obtain ⟨hMo, hw5, hw6, hw7, hw8, hw9, hw10, hw11, hw13, hw14, hw15, hw16, hw17, hw18, -⟩ := _root_.id hC
                    have hl0 : lx = (wN v (10 + k) (v 7).toNatClampNeg) := by omega
                    subst hl0
                    refine v_iload dX12_renderSledge_139 rfl ?_
                    refine v_iload_n dX12_renderSledge_141 rfl rfl ?_
                    refine v_icmp_ge (tgt := 173) dX12_renderSledge_142 (by decide) (fun h142 => ?_) (fun h142 => ?_)
                    · refine v_aload_n dX12_renderSledge_173 rfl rfl ?_
                      refine gf_X12_186 dX12_renderSledge_174 rfl hMo ?_
                      exact v_iret dX12_renderSledge_177 rfl ⟨li1, th2, Or.inl ⟨hk9, rfl, hT, hC⟩, hF⟩ (by omega) (by omega)
                    · exact absurd (Int32.le_refl _) h142
                  | succ e ih =>
                    intro lx hl M1 li1 hT hC hF
                    obtain ⟨hMo, hw5, hw6, hw7, hw8, hw9, hw10, hw11, hw13, hw14, hw15, hw16, hw17, hw18, -⟩ := _root_.id hC
                    have hl9 : lx < (wN v (10 + k) (v 7).toNatClampNeg) := by omega
                    have hlt9 : nI lx < nI (wN v (10 + k) (v 7).toNatClampNeg) := (nI_lt4 (by omega) (by omega)).mpr hl9
                    obtain ⟨b0, b1⟩ := nI12 lx (by omega)
                    obtain ⟨i9, j1, j2, j3⟩ := wL_at hl9
                    have ht9 : th2 (nI lx) = nI i9 := (hT2 lx hl9).trans j2
                    obtain ⟨j4, j5, j6⟩ := nI_below hg6 j1
                    obtain ⟨q1, q2, q3, q4, q5, q6, q7, q8, q9, q10, -, -, -, q14⟩ := hgL _ j4 j5
                    have y6 : lt v (nI i9) 0 < 1000000 := Int32.lt_trans (hN9 _ j4 j5) h4
                    have hlen : (slT v k ++ idT v (wL v (10 + k) (v 7).toNatClampNeg) lx).length + 8 < 120 := by
                      have := idT_len (σ := v) (L := (wL v (10 + k) (v 7).toNatClampNeg)) lx
                      rw [List.length_append]
                      omega
                    have hi := ih (lx + 1) (by omega)
                    rw [idT_1, j2, ← List.append_assoc] at hi
                    clear ih
                    refine v_iload dX12_renderSledge_139 rfl ?_
                    refine v_iload_n dX12_renderSledge_141 rfl rfl ?_
                    refine v_icmp_ge (tgt := 173) dX12_renderSledge_142 (by decide) (fun h142 => ?_) (fun h142 => ?_)
                    · exact absurd h142 (Int32.not_le.mpr hlt9)
                    · refine v_aload_n dX12_renderSledge_145 rfl rfl ?_
                      refine v_bipush (v := (35)) dX12_renderSledge_146 (by decide) ?_
                      refine v_aload_n dX12_renderSledge_148 rfl rfl ?_
                      refine gf_X12_16 dX12_renderSledge_149 rfl hMo ?_
                      refine v_aload_n dX12_renderSledge_152 rfl rfl ?_
                      refine gf_X12_32 dX12_renderSledge_153 rfl hMo ?_
                      refine v_iload dX12_renderSledge_156 rfl ?_
                      refine v_iald dX12_renderSledge_158 hw10 b0 b1 ?_
                      rw [ht9]
                      refine v_iconst (v := 0) dX12_renderSledge_159 (by decide) ?_
                      refine k_X12_70 dX12_renderSledge_160 rfl (r_of htr (nI i9) 0) (Nat.le_of_ble_eq_true rfl) (by omega) (by omega) (Nat.le_of_ble_eq_true rfl) (fun r160 M9 h9 => ?_) (fun _ _ h9 => h9.elim)
                      obtain ⟨rfl, e9⟩ := h9
                      subst M9
                      refine v_iald dX12_renderSledge_163 hw5 (by clear hi hgL hN9 hT hT2 hSL hC hF hG; lia) (by clear hi hgL hN9 hT hT2 hSL hC hF hG; lia) ?_
                      refine k_X12_195 dX12_renderSledge_164 rfl (r_writesBehind htr hC hT rfl q14 y6 hlen 35) hMo (Nat.le_of_ble_eq_true rfl) (by omega) (by omega) (Nat.le_of_ble_eq_true rfl) (fun M9 h9 => ?_) (fun _ _ h9 => h9.elim)
                      obtain ⟨li9, hT, hC, hF9⟩ := h9
                      have hF := Frm.tr hF hF9
                      obtain ⟨hMo, hw5, hw6, hw7, hw8, hw9, hw10, hw11, hw13, hw14, hw15, hw16, hw17, hw18, -⟩ := _root_.id hC
                      refine v_iinc_4 dX12_renderSledge_167 rfl ?_
                      refine v_goto (tgt := 139) dX12_renderSledge_170 (by decide) ?_
                      rw [show nI lx + Int32.ofInt 1 = nI (lx + 1) from nI_1 lx]
                      exact hi _ li9 hT hC hF
                exact key1 (wN v (10 + k) (v 7).toNatClampNeg) 0 (by omega) _ li9 (by rw [show idT v (wL v (10 + k) (v 7).toNatClampNeg) 0 = [] from rfl, List.append_nil]; exact hT) (by rw [show idT v (wL v (10 + k) (v 7).toNatClampNeg) 0 = [] from rfl, List.append_nil]; exact hC) hF
    · refine v_iconst (v := 0) dX12_renderSledge_24 (by decide) ?_
      exact v_iret dX12_renderSledge_25 rfl (by first | (exfalso; revert h21; decide) | exact ⟨li, th, Or.inr ⟨b_f h6, rfl, hC⟩, hF⟩) (by omega) (by omega)
