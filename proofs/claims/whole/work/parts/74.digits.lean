/-! ===== the reference: numbers in the text ===== -/
theorem rdD_y {tx : Int32 → Int32} {en he n : Int32} {f : Nat} (h : 48 ≤ sgN tx en he ∧ sgN tx en he ≤ 57) : rdD tx en (f + 1) he n = rdD tx en f (he + 1) (10 * n + sgN tx en he - 48) := if_pos h
theorem rdD_n {tx : Int32 → Int32} {en he n : Int32} {f : Nat} (h : ¬ (48 ≤ sgN tx en he ∧ sgN tx en he ≤ 57)) : rdD tx en (f + 1) he n = (he, n) := if_neg h
theorem dX12_digits_0 : decode cX12_digits 0 = .ok (.iconst 0, 1) := by decide +kernel
theorem dX12_digits_1 : decode cX12_digits 1 = .ok (.istore_n 2, 1) := by decide +kernel
theorem dX12_digits_2 : decode cX12_digits 2 = .ok (.iconst 0, 1) := by decide +kernel
theorem dX12_digits_3 : decode cX12_digits 3 = .ok (.istore_n 3, 1) := by decide +kernel
theorem dX12_digits_4 : decode cX12_digits 4 = .ok (.aload_n 0, 1) := by decide +kernel
theorem dX12_digits_5 : decode cX12_digits 5 = .ok (.getfield 208, 3) := by decide +kernel
theorem dX12_digits_8 : decode cX12_digits 8 = .ok (.ifCond .ne 51, 3) := by decide +kernel
theorem dX12_digits_11 : decode cX12_digits 11 = .ok (.iload_n 3, 1) := by decide +kernel
theorem dX12_digits_12 : decode cX12_digits 12 = .ok (.iload_n 1, 1) := by decide +kernel
theorem dX12_digits_13 : decode cX12_digits 13 = .ok (.if_icmp .ge 46, 3) := by decide +kernel
theorem dX12_digits_16 : decode cX12_digits 16 = .ok (.aload_n 0, 1) := by decide +kernel
theorem dX12_digits_17 : decode cX12_digits 17 = .ok (.invokevirtual 212, 3) := by decide +kernel
theorem dX12_digits_20 : decode cX12_digits 20 = .ok (.bipush 48, 2) := by decide +kernel
theorem dX12_digits_22 : decode cX12_digits 22 = .ok (.bipush 57, 2) := by decide +kernel
theorem dX12_digits_24 : decode cX12_digits 24 = .ok (.invokestatic 66, 3) := by decide +kernel
theorem dX12_digits_27 : decode cX12_digits 27 = .ok (.ifCond .eq 32, 3) := by decide +kernel
theorem dX12_digits_30 : decode cX12_digits 30 = .ok (.bipush 10, 2) := by decide +kernel
theorem dX12_digits_32 : decode cX12_digits 32 = .ok (.iload_n 2, 1) := by decide +kernel
theorem dX12_digits_33 : decode cX12_digits 33 = .ok (.imul, 1) := by decide +kernel
theorem dX12_digits_34 : decode cX12_digits 34 = .ok (.aload_n 0, 1) := by decide +kernel
theorem dX12_digits_35 : decode cX12_digits 35 = .ok (.invokevirtual 212, 3) := by decide +kernel
theorem dX12_digits_38 : decode cX12_digits 38 = .ok (.iadd, 1) := by decide +kernel
theorem dX12_digits_39 : decode cX12_digits 39 = .ok (.bipush 48, 2) := by decide +kernel
theorem dX12_digits_41 : decode cX12_digits 41 = .ok (.isub, 1) := by decide +kernel
theorem dX12_digits_42 : decode cX12_digits 42 = .ok (.istore_n 2, 1) := by decide +kernel
theorem dX12_digits_43 : decode cX12_digits 43 = .ok (.aload_n 0, 1) := by decide +kernel
theorem dX12_digits_44 : decode cX12_digits 44 = .ok (.dup, 1) := by decide +kernel
theorem dX12_digits_45 : decode cX12_digits 45 = .ok (.getfield 202, 3) := by decide +kernel
theorem dX12_digits_48 : decode cX12_digits 48 = .ok (.iconst 1, 1) := by decide +kernel
theorem dX12_digits_49 : decode cX12_digits 49 = .ok (.iadd, 1) := by decide +kernel
theorem dX12_digits_50 : decode cX12_digits 50 = .ok (.putfield 202, 3) := by decide +kernel
theorem dX12_digits_53 : decode cX12_digits 53 = .ok (.iinc 3 1, 3) := by decide +kernel
theorem dX12_digits_56 : decode cX12_digits 56 = .ok (.goto (-52), 3) := by decide +kernel
theorem dX12_digits_59 : decode cX12_digits 59 = .ok (.aload_n 0, 1) := by decide +kernel
theorem dX12_digits_60 : decode cX12_digits 60 = .ok (.dup, 1) := by decide +kernel
theorem dX12_digits_61 : decode cX12_digits 61 = .ok (.getfield 208, 3) := by decide +kernel
theorem dX12_digits_64 : decode cX12_digits 64 = .ok (.iload_n 3, 1) := by decide +kernel
theorem dX12_digits_65 : decode cX12_digits 65 = .ok (.ifCond .ne 7, 3) := by decide +kernel
theorem dX12_digits_68 : decode cX12_digits 68 = .ok (.iconst 1, 1) := by decide +kernel
theorem dX12_digits_69 : decode cX12_digits 69 = .ok (.goto 4, 3) := by decide +kernel
theorem dX12_digits_72 : decode cX12_digits 72 = .ok (.iconst 0, 1) := by decide +kernel
theorem dX12_digits_73 : decode cX12_digits 73 = .ok (.ior, 1) := by decide +kernel
theorem dX12_digits_74 : decode cX12_digits 74 = .ok (.putfield 208, 3) := by decide +kernel
theorem dX12_digits_77 : decode cX12_digits 77 = .ok (.iload_n 2, 1) := by decide +kernel
theorem dX12_digits_78 : decode cX12_digits 78 = .ok (.ireturn, 1) := by decide +kernel
set_option maxRecDepth 100000 in
set_option maxHeartbeats 4000000 in
theorem r_digits {l : Launch} {g : Nat → Nat} {M : LH} (htr : l.stackTraces = false) {kd : Nat → Nat} {r m : Nat} {w : Nat → Nat} {t ch ea fl sv bf tn he en ln wr dg : Int32} {v b4 sa pa fr th bs tx li lf to : Int32 → Int32} (hC : Md kd r M m w t ch ea fl sv bf tn he en ln wr dg v b4 sa pa fr th bs tx li lf to) (e0 : 0 ≤ he) (e61 : he ≤ 60) (e60 : en ≤ 60) (hwr : wr = 0 ∨ wr = 1) {f0 : Nat} (hf0 : f0 ≤ 3) : K_X12_digits l g 1 0 0 [.ref m, .int (nI f0)] M (RI (fun x M9 => ((wr = 1 ∧ x = 0 ∧ Md kd r M9 m w t ch ea fl sv bf tn he en ln wr dg v b4 sa pa fr th bs tx li lf to) ∨ (wr = 0 ∧ x = (rdD tx en f0 he 0).2 ∧ Md kd r M9 m w t ch ea fl sv bf tn (rdD tx en f0 he 0).1 en ln (if (rdD tx en f0 he 0).1 = he then 1 else 0) dg v b4 sa pa fr th bs tx li lf to)) ∧ Frm kd r M M9) nX) := by
  refine Ko_X12_digits htr (fun X => ?_)
  obtain ⟨hMo, hw5, hw6, hw7, hw8, hw9, hw10, hw11, hw13, hw14, hw15, hw16, hw17, hw18, -⟩ := _root_.id hC
  have hF : Frm kd r M M := Frm.rf
  rcases hwr with rfl | rfl
  · have key : ∀ f c, c + f = f0 → ∀ (M1 : LH) (he1 n1 : Int32), rdD tx en f he1 n1 = (rdD tx en f0 he 0) → he1 = he + nI c → 0 ≤ he1 → Md kd r M1 m w t ch ea fl sv bf tn he1 en ln 0 dg v b4 sa pa fr th bs tx li lf to → Frm kd r M M1 → V l g yX12_digits cX12_digits ((some .int)) [] 1 0 0 (RI (fun x M9 => (((0 : Int32) = 1 ∧ x = 0 ∧ Md kd r M9 m w t ch ea fl sv bf tn he en ln 0 dg v b4 sa pa fr th bs tx li lf to) ∨ ((0 : Int32) = 0 ∧ x = (rdD tx en f0 he 0).2 ∧ Md kd r M9 m w t ch ea fl sv bf tn (rdD tx en f0 he 0).1 en ln (if (rdD tx en f0 he 0).1 = he then 1 else 0) dg v b4 sa pa fr th bs tx li lf to)) ∧ Frm kd r M M9) nX) X M1 0 0 4 [some (.ref m), some (.int (nI f0)), some (.int n1), some (.int (nI c))] [] := by
      clear hC hMo hw5 hw6 hw7 hw8 hw9 hw10 hw11 hw13 hw14 hw15 hw16 hw17 hw18 hF
      intro f
      induction f with
      | zero =>
        intro c hc M1 he1 n1 hR hh9 e1 hC hF
        obtain ⟨hMo, hw5, hw6, hw7, hw8, hw9, hw10, hw11, hw13, hw14, hw15, hw16, hw17, hw18, -⟩ := _root_.id hC
        have hcf : nI f0 = nI c := by rw [show c = f0 by omega]
        refine v_aload_n dX12_digits_4 rfl rfl ?_
        refine gf_X12_208 dX12_digits_5 rfl hMo ?_
        refine v_if_ne (tgt := 59) dX12_digits_8 (by decide) (fun h8 => ?_) (fun h8 => ?_)
        · exact absurd rfl h8
        · refine v_iload_n dX12_digits_11 rfl rfl ?_
          refine v_iload_n dX12_digits_12 rfl rfl ?_
          refine v_icmp_ge (tgt := 59) dX12_digits_13 (by decide) (fun h13 => ?_) (fun h13 => ?_)
          · refine v_aload_n dX12_digits_59 rfl rfl ?_
            refine v_dup dX12_digits_60 rfl ?_
            refine gf_X12_208 dX12_digits_61 rfl hMo ?_
            refine v_iload_n dX12_digits_64 rfl rfl ?_
            refine v_if_ne (tgt := 72) dX12_digits_65 (by decide) (fun h65 => ?_) (fun h65 => ?_)
            · have hne9 : ¬ he1 = he := by
                have hc0 : ¬ c = 0 := fun z => h65 (by rw [z]; rfl)
                have q : ∀ c, c < 4 → ¬ c = 0 → 0 < nI c ∧ nI c < 4 := by decide
                obtain ⟨q1, q2⟩ := q c (by omega) hc0
                rw [hh9]
                clear hR hC hF hh9
                intro z
                lia
              refine v_iconst (v := 0) dX12_digits_72 (by decide) ?_
              refine v_ior dX12_digits_73 ?_
              refine pf_X12_208 dX12_digits_74 rfl (by first | rfl | assumption) (by first | rfl | assumption) hMo ?_
              refine V.md (Md.sc hC) (Frm.tr hF (Frm.up (hC.kd_sc))) (fun M1 hC hF => ?_)
              obtain ⟨hMo, hw5, hw6, hw7, hw8, hw9, hw10, hw11, hw13, hw14, hw15, hw16, hw17, hw18, -⟩ := _root_.id hC
              refine v_iload_n dX12_digits_77 rfl rfl ?_
              exact v_iret dX12_digits_78 rfl (by
        have e1 : (rdD tx en f0 he 0) = (he1, n1) := hR.symm.trans (by first | rfl)
        rw [e1]
        first
          | (rw [if_neg (show ¬ he1 = he from hne9)]; exact ⟨Or.inr ⟨rfl, rfl, hC⟩, hF⟩)
          | (rw [if_pos (show he1 = he from heq9)]; exact ⟨Or.inr ⟨rfl, rfl, hC⟩, hF⟩)) (by omega) (by omega)
            · have heq9 : he1 = he := by
                have q : ∀ c, c < 4 → nI c = 0 → c = 0 := by decide
                have z := q c (by omega) (by first | exact h65 | exact Classical.not_not.mp h65)
                rw [hh9, z]
                exact Int32.add_zero he
              refine v_iconst (v := 1) dX12_digits_68 (by decide) ?_
              refine v_goto (tgt := 73) dX12_digits_69 (by decide) ?_
              refine v_ior dX12_digits_73 ?_
              refine pf_X12_208 dX12_digits_74 rfl (by first | rfl | assumption) (by first | rfl | assumption) hMo ?_
              refine V.md (Md.sc hC) (Frm.tr hF (Frm.up (hC.kd_sc))) (fun M1 hC hF => ?_)
              obtain ⟨hMo, hw5, hw6, hw7, hw8, hw9, hw10, hw11, hw13, hw14, hw15, hw16, hw17, hw18, -⟩ := _root_.id hC
              refine v_iload_n dX12_digits_77 rfl rfl ?_
              exact v_iret dX12_digits_78 rfl (by
        have e1 : (rdD tx en f0 he 0) = (he1, n1) := hR.symm.trans (by first | rfl)
        rw [e1]
        first
          | (rw [if_neg (show ¬ he1 = he from hne9)]; exact ⟨Or.inr ⟨rfl, rfl, hC⟩, hF⟩)
          | (rw [if_pos (show he1 = he from heq9)]; exact ⟨Or.inr ⟨rfl, rfl, hC⟩, hF⟩)) (by omega) (by omega)
          · exact absurd (Int32.le_of_eq hcf) h13
      | succ f ih =>
        intro c hc M1 he1 n1 hR hh9 e1 hC hF
        obtain ⟨hMo, hw5, hw6, hw7, hw8, hw9, hw10, hw11, hw13, hw14, hw15, hw16, hw17, hw18, -⟩ := _root_.id hC
        refine v_aload_n dX12_digits_4 rfl rfl ?_
        refine gf_X12_208 dX12_digits_5 rfl hMo ?_
        refine v_if_ne (tgt := 59) dX12_digits_8 (by decide) (fun h8 => ?_) (fun h8 => ?_)
        · exact absurd rfl h8
        · refine v_iload_n dX12_digits_11 rfl rfl ?_
          refine v_iload_n dX12_digits_12 rfl rfl ?_
          refine v_icmp_ge (tgt := 59) dX12_digits_13 (by decide) (fun h13 => ?_) (fun h13 => ?_)
          · exact absurd h13 (Int32.not_le.mpr ((nI_lt4 (by omega) (by omega)).mpr (by omega)))
          · refine v_aload_n dX12_digits_16 rfl rfl ?_
            refine k_X12_212 dX12_digits_17 rfl (r_sign htr hC e1 e60) hMo (Nat.le_of_ble_eq_true rfl) (by omega) (by omega) (Nat.le_of_ble_eq_true rfl) (fun r17 M9 h9 => ?_) (fun _ _ h9 => h9.elim)
            obtain ⟨rfl, e9⟩ := h9
            subst M9
            refine v_bipush (v := (48)) dX12_digits_20 (by decide) ?_
            refine v_bipush (v := (57)) dX12_digits_22 (by decide) ?_
            refine k_X12_66 dX12_digits_24 rfl (r_isIn htr (sgN tx en he1) 48 57) (Nat.le_of_ble_eq_true rfl) (by omega) (by omega) (Nat.le_of_ble_eq_true rfl) (fun r24 M9 h9 => ?_) (fun _ _ h9 => h9.elim)
            obtain ⟨rfl, e9⟩ := h9
            subst M9
            refine v_if_eq (tgt := 59) dX12_digits_27 (by decide) (fun hq27 => ?_) (fun hq27 => ?_)
            · refine v_aload_n dX12_digits_59 rfl rfl ?_
              refine v_dup dX12_digits_60 rfl ?_
              refine gf_X12_208 dX12_digits_61 rfl hMo ?_
              refine v_iload_n dX12_digits_64 rfl rfl ?_
              refine v_if_ne (tgt := 72) dX12_digits_65 (by decide) (fun h65 => ?_) (fun h65 => ?_)
              · have hne9 : ¬ he1 = he := by
                  have hc0 : ¬ c = 0 := fun z => h65 (by rw [z]; rfl)
                  have q : ∀ c, c < 4 → ¬ c = 0 → 0 < nI c ∧ nI c < 4 := by decide
                  obtain ⟨q1, q2⟩ := q c (by omega) hc0
                  rw [hh9]
                  clear hR hC hF hh9
                  intro z
                  lia
                refine v_iconst (v := 0) dX12_digits_72 (by decide) ?_
                refine v_ior dX12_digits_73 ?_
                refine pf_X12_208 dX12_digits_74 rfl (by first | rfl | assumption) (by first | rfl | assumption) hMo ?_
                refine V.md (Md.sc hC) (Frm.tr hF (Frm.up (hC.kd_sc))) (fun M1 hC hF => ?_)
                obtain ⟨hMo, hw5, hw6, hw7, hw8, hw9, hw10, hw11, hw13, hw14, hw15, hw16, hw17, hw18, -⟩ := _root_.id hC
                refine v_iload_n dX12_digits_77 rfl rfl ?_
                exact v_iret dX12_digits_78 rfl (by
        have e1 : (rdD tx en f0 he 0) = (he1, n1) := hR.symm.trans (by first | exact rdD_n (b_f hq27))
        rw [e1]
        first
          | (rw [if_neg (show ¬ he1 = he from hne9)]; exact ⟨Or.inr ⟨rfl, rfl, hC⟩, hF⟩)
          | (rw [if_pos (show he1 = he from heq9)]; exact ⟨Or.inr ⟨rfl, rfl, hC⟩, hF⟩)) (by omega) (by omega)
              · have heq9 : he1 = he := by
                  have q : ∀ c, c < 4 → nI c = 0 → c = 0 := by decide
                  have z := q c (by omega) (by first | exact h65 | exact Classical.not_not.mp h65)
                  rw [hh9, z]
                  exact Int32.add_zero he
                refine v_iconst (v := 1) dX12_digits_68 (by decide) ?_
                refine v_goto (tgt := 73) dX12_digits_69 (by decide) ?_
                refine v_ior dX12_digits_73 ?_
                refine pf_X12_208 dX12_digits_74 rfl (by first | rfl | assumption) (by first | rfl | assumption) hMo ?_
                refine V.md (Md.sc hC) (Frm.tr hF (Frm.up (hC.kd_sc))) (fun M1 hC hF => ?_)
                obtain ⟨hMo, hw5, hw6, hw7, hw8, hw9, hw10, hw11, hw13, hw14, hw15, hw16, hw17, hw18, -⟩ := _root_.id hC
                refine v_iload_n dX12_digits_77 rfl rfl ?_
                exact v_iret dX12_digits_78 rfl (by
        have e1 : (rdD tx en f0 he 0) = (he1, n1) := hR.symm.trans (by first | exact rdD_n (b_f hq27))
        rw [e1]
        first
          | (rw [if_neg (show ¬ he1 = he from hne9)]; exact ⟨Or.inr ⟨rfl, rfl, hC⟩, hF⟩)
          | (rw [if_pos (show he1 = he from heq9)]; exact ⟨Or.inr ⟨rfl, rfl, hC⟩, hF⟩)) (by omega) (by omega)
            · refine v_bipush (v := (10)) dX12_digits_30 (by decide) ?_
              refine v_iload_n dX12_digits_32 rfl rfl ?_
              refine v_imul dX12_digits_33 ?_
              refine v_aload_n dX12_digits_34 rfl rfl ?_
              refine k_X12_212 dX12_digits_35 rfl (r_sign htr hC e1 e60) hMo (Nat.le_of_ble_eq_true rfl) (by omega) (by omega) (Nat.le_of_ble_eq_true rfl) (fun r35 M9 h9 => ?_) (fun _ _ h9 => h9.elim)
              obtain ⟨rfl, e9⟩ := h9
              subst M9
              refine v_iadd dX12_digits_38 ?_
              refine v_bipush (v := (48)) dX12_digits_39 (by decide) ?_
              refine v_isub dX12_digits_41 ?_
              refine v_istore_2 dX12_digits_42 ?_
              refine v_aload_n dX12_digits_43 rfl rfl ?_
              refine v_dup dX12_digits_44 rfl ?_
              refine gf_X12_202 dX12_digits_45 rfl hMo ?_
              refine v_iconst (v := 1) dX12_digits_48 (by decide) ?_
              refine v_iadd dX12_digits_49 ?_
              refine pf_X12_202 dX12_digits_50 rfl hMo ?_
              refine V.md (Md.sc hC) (Frm.tr hF (Frm.up (hC.kd_sc))) (fun M1 hC hF => ?_)
              obtain ⟨hMo, hw5, hw6, hw7, hw8, hw9, hw10, hw11, hw13, hw14, hw15, hw16, hw17, hw18, -⟩ := _root_.id hC
              refine v_iinc_3 dX12_digits_53 rfl ?_
              refine v_goto (tgt := 4) dX12_digits_56 (by decide) ?_
              have hi := ih (c + 1) (by omega) _ (he1 + 1) (10 * n1 + sgN tx en he1 - 48) ((rdD_y (b_t hq27)).symm.trans hR) (by
                rw [hh9, ← nI_1 c]
                clear hR hC hF hh9
                lia) (by
                have q : ∀ c, c < 4 → 0 ≤ nI c ∧ nI c < 4 := by decide
                obtain ⟨q1, q2⟩ := q c (by omega)
                rw [hh9]
                clear ih hR hC hF hh9
                lia) hC hF
              rw [← nI_1 c] at hi
              exact hi
    refine v_iconst (v := 0) dX12_digits_0 (by decide) ?_
    refine v_istore_2 dX12_digits_1 ?_
    refine v_iconst (v := 0) dX12_digits_2 (by decide) ?_
    refine v_istore_3 dX12_digits_3 ?_
    exact key f0 0 (by omega) M he 0 rfl (Int32.add_zero he).symm e0 hC hF
  · refine v_iconst (v := 0) dX12_digits_0 (by decide) ?_
    refine v_istore_2 dX12_digits_1 ?_
    refine v_iconst (v := 0) dX12_digits_2 (by decide) ?_
    refine v_istore_3 dX12_digits_3 ?_
    refine v_aload_n dX12_digits_4 rfl rfl ?_
    refine gf_X12_208 dX12_digits_5 rfl hMo ?_
    refine v_if_ne (tgt := 59) dX12_digits_8 (by decide) (fun h8 => ?_) (fun h8 => ?_)
    · refine v_aload_n dX12_digits_59 rfl rfl ?_
      refine v_dup dX12_digits_60 rfl ?_
      refine gf_X12_208 dX12_digits_61 rfl hMo ?_
      refine v_iload_n dX12_digits_64 rfl rfl ?_
      refine v_if_ne (tgt := 72) dX12_digits_65 (by decide) (fun h65 => ?_) (fun h65 => ?_)
      · exact absurd rfl h65
      · refine v_iconst (v := 1) dX12_digits_68 (by decide) ?_
        refine v_goto (tgt := 73) dX12_digits_69 (by decide) ?_
        refine v_ior dX12_digits_73 ?_
        refine pf_X12_208 dX12_digits_74 rfl (by first | rfl | assumption) (by first | rfl | assumption) hMo ?_
        refine V.md (Md.sc hC) (Frm.tr hF (Frm.up (hC.kd_sc))) (fun M1 hC hF => ?_)
        obtain ⟨hMo, hw5, hw6, hw7, hw8, hw9, hw10, hw11, hw13, hw14, hw15, hw16, hw17, hw18, -⟩ := _root_.id hC
        refine v_iload_n dX12_digits_77 rfl rfl ?_
        exact v_iret dX12_digits_78 rfl ⟨Or.inl ⟨rfl, rfl, hC⟩, hF⟩ (by omega) (by omega)
    · exact absurd h8 (by decide)

