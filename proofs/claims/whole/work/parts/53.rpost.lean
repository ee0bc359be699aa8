/-! ===== the reference: letters are posted, laden, unladen; heat ===== -/
theorem dX12_posts_0 : decode cX12_posts 0 = .ok (.aload_n 0, 1) := by decide +kernel
theorem dX12_posts_1 : decode cX12_posts 1 = .ok (.iload_n 1, 1) := by decide +kernel
theorem dX12_posts_2 : decode cX12_posts 2 = .ok (.invokevirtual 88, 3) := by decide +kernel
theorem dX12_posts_5 : decode cX12_posts 5 = .ok (.ifCond .eq 11, 3) := by decide +kernel
theorem dX12_posts_8 : decode cX12_posts 8 = .ok (.aload_n 0, 1) := by decide +kernel
theorem dX12_posts_9 : decode cX12_posts 9 = .ok (.iload_n 2, 1) := by decide +kernel
theorem dX12_posts_10 : decode cX12_posts 10 = .ok (.invokevirtual 88, 3) := by decide +kernel
theorem dX12_posts_13 : decode cX12_posts 13 = .ok (.ifCond .ne 9, 3) := by decide +kernel
theorem dX12_posts_16 : decode cX12_posts 16 = .ok (.aload_n 0, 1) := by decide +kernel
theorem dX12_posts_17 : decode cX12_posts 17 = .ok (.iconst 1, 1) := by decide +kernel
theorem dX12_posts_18 : decode cX12_posts 18 = .ok (.invokevirtual 74, 3) := by decide +kernel
theorem dX12_posts_21 : decode cX12_posts 21 = .ok (.ireturn, 1) := by decide +kernel
theorem dX12_posts_22 : decode cX12_posts 22 = .ok (.iload_n 1, 1) := by decide +kernel
theorem dX12_posts_23 : decode cX12_posts 23 = .ok (.iload_n 2, 1) := by decide +kernel
theorem dX12_posts_24 : decode cX12_posts 24 = .ok (.if_icmp .eq 35, 3) := by decide +kernel
theorem dX12_posts_27 : decode cX12_posts 27 = .ok (.iload_n 3, 1) := by decide +kernel
theorem dX12_posts_28 : decode cX12_posts 28 = .ok (.iconst 1, 1) := by decide +kernel
theorem dX12_posts_29 : decode cX12_posts 29 = .ok (.bipush 9, 2) := by decide +kernel
theorem dX12_posts_31 : decode cX12_posts 31 = .ok (.invokestatic 66, 3) := by decide +kernel
theorem dX12_posts_34 : decode cX12_posts 34 = .ok (.ifCond .eq 25, 3) := by decide +kernel
theorem dX12_posts_37 : decode cX12_posts 37 = .ok (.iload 4, 2) := by decide +kernel
theorem dX12_posts_39 : decode cX12_posts 39 = .ok (.iconst 0, 1) := by decide +kernel
theorem dX12_posts_40 : decode cX12_posts 40 = .ok (.bipush 99, 2) := by decide +kernel
theorem dX12_posts_42 : decode cX12_posts 42 = .ok (.invokestatic 66, 3) := by decide +kernel
theorem dX12_posts_45 : decode cX12_posts 45 = .ok (.ifCond .eq 14, 3) := by decide +kernel
theorem dX12_posts_48 : decode cX12_posts 48 = .ok (.iload 5, 2) := by decide +kernel
theorem dX12_posts_50 : decode cX12_posts 50 = .ok (.iconst 1, 1) := by decide +kernel
theorem dX12_posts_51 : decode cX12_posts 51 = .ok (.bipush 99, 2) := by decide +kernel
theorem dX12_posts_53 : decode cX12_posts 53 = .ok (.invokestatic 66, 3) := by decide +kernel
theorem dX12_posts_56 : decode cX12_posts 56 = .ok (.ifCond .ne 9, 3) := by decide +kernel
theorem dX12_posts_59 : decode cX12_posts 59 = .ok (.aload_n 0, 1) := by decide +kernel
theorem dX12_posts_60 : decode cX12_posts 60 = .ok (.iconst 2, 1) := by decide +kernel
theorem dX12_posts_61 : decode cX12_posts 61 = .ok (.invokevirtual 74, 3) := by decide +kernel
theorem dX12_posts_64 : decode cX12_posts 64 = .ok (.ireturn, 1) := by decide +kernel
theorem dX12_posts_65 : decode cX12_posts 65 = .ok (.aload_n 0, 1) := by decide +kernel
theorem dX12_posts_66 : decode cX12_posts 66 = .ok (.getfield 16, 3) := by decide +kernel
theorem dX12_posts_69 : decode cX12_posts 69 = .ok (.bipush 7, 2) := by decide +kernel
theorem dX12_posts_71 : decode cX12_posts 71 = .ok (.iaload, 1) := by decide +kernel
theorem dX12_posts_72 : decode cX12_posts 72 = .ok (.istore 6, 2) := by decide +kernel
theorem dX12_posts_74 : decode cX12_posts 74 = .ok (.iload 6, 2) := by decide +kernel
theorem dX12_posts_76 : decode cX12_posts 76 = .ok (.bipush 12, 2) := by decide +kernel
theorem dX12_posts_78 : decode cX12_posts 78 = .ok (.if_icmp .ne 9, 3) := by decide +kernel
theorem dX12_posts_81 : decode cX12_posts 81 = .ok (.aload_n 0, 1) := by decide +kernel
theorem dX12_posts_82 : decode cX12_posts 82 = .ok (.iconst 3, 1) := by decide +kernel
theorem dX12_posts_83 : decode cX12_posts 83 = .ok (.invokevirtual 74, 3) := by decide +kernel
theorem dX12_posts_86 : decode cX12_posts 86 = .ok (.ireturn, 1) := by decide +kernel
theorem dX12_posts_87 : decode cX12_posts 87 = .ok (.aload_n 0, 1) := by decide +kernel
theorem dX12_posts_88 : decode cX12_posts 88 = .ok (.getfield 16, 3) := by decide +kernel
theorem dX12_posts_91 : decode cX12_posts 91 = .ok (.iload 6, 2) := by decide +kernel
theorem dX12_posts_93 : decode cX12_posts 93 = .ok (.iconst 0, 1) := by decide +kernel
theorem dX12_posts_94 : decode cX12_posts 94 = .ok (.invokestatic 70, 3) := by decide +kernel
theorem dX12_posts_97 : decode cX12_posts 97 = .ok (.aload_n 0, 1) := by decide +kernel
theorem dX12_posts_98 : decode cX12_posts 98 = .ok (.getfield 16, 3) := by decide +kernel
theorem dX12_posts_101 : decode cX12_posts 101 = .ok (.iconst 4, 1) := by decide +kernel
theorem dX12_posts_102 : decode cX12_posts 102 = .ok (.iaload, 1) := by decide +kernel
theorem dX12_posts_103 : decode cX12_posts 103 = .ok (.iastore, 1) := by decide +kernel
theorem dX12_posts_104 : decode cX12_posts 104 = .ok (.aload_n 0, 1) := by decide +kernel
theorem dX12_posts_105 : decode cX12_posts 105 = .ok (.getfield 16, 3) := by decide +kernel
theorem dX12_posts_108 : decode cX12_posts 108 = .ok (.iload 6, 2) := by decide +kernel
theorem dX12_posts_110 : decode cX12_posts 110 = .ok (.iconst 1, 1) := by decide +kernel
theorem dX12_posts_111 : decode cX12_posts 111 = .ok (.invokestatic 70, 3) := by decide +kernel
theorem dX12_posts_114 : decode cX12_posts 114 = .ok (.iload_n 2, 1) := by decide +kernel
theorem dX12_posts_115 : decode cX12_posts 115 = .ok (.iastore, 1) := by decide +kernel
theorem dX12_posts_116 : decode cX12_posts 116 = .ok (.aload_n 0, 1) := by decide +kernel
theorem dX12_posts_117 : decode cX12_posts 117 = .ok (.getfield 16, 3) := by decide +kernel
theorem dX12_posts_120 : decode cX12_posts 120 = .ok (.iload 6, 2) := by decide +kernel
theorem dX12_posts_122 : decode cX12_posts 122 = .ok (.iconst 2, 1) := by decide +kernel
theorem dX12_posts_123 : decode cX12_posts 123 = .ok (.invokestatic 70, 3) := by decide +kernel
theorem dX12_posts_126 : decode cX12_posts 126 = .ok (.iload_n 3, 1) := by decide +kernel
theorem dX12_posts_127 : decode cX12_posts 127 = .ok (.iastore, 1) := by decide +kernel
theorem dX12_posts_128 : decode cX12_posts 128 = .ok (.aload_n 0, 1) := by decide +kernel
theorem dX12_posts_129 : decode cX12_posts 129 = .ok (.getfield 16, 3) := by decide +kernel
theorem dX12_posts_132 : decode cX12_posts 132 = .ok (.iload 6, 2) := by decide +kernel
theorem dX12_posts_134 : decode cX12_posts 134 = .ok (.iconst 3, 1) := by decide +kernel
theorem dX12_posts_135 : decode cX12_posts 135 = .ok (.invokestatic 70, 3) := by decide +kernel
theorem dX12_posts_138 : decode cX12_posts 138 = .ok (.iload 4, 2) := by decide +kernel
theorem dX12_posts_140 : decode cX12_posts 140 = .ok (.iastore, 1) := by decide +kernel
theorem dX12_posts_141 : decode cX12_posts 141 = .ok (.aload_n 0, 1) := by decide +kernel
theorem dX12_posts_142 : decode cX12_posts 142 = .ok (.getfield 16, 3) := by decide +kernel
theorem dX12_posts_145 : decode cX12_posts 145 = .ok (.iload 6, 2) := by decide +kernel
theorem dX12_posts_147 : decode cX12_posts 147 = .ok (.iconst 4, 1) := by decide +kernel
theorem dX12_posts_148 : decode cX12_posts 148 = .ok (.invokestatic 70, 3) := by decide +kernel
theorem dX12_posts_151 : decode cX12_posts 151 = .ok (.iload 5, 2) := by decide +kernel
theorem dX12_posts_153 : decode cX12_posts 153 = .ok (.iastore, 1) := by decide +kernel
theorem dX12_posts_154 : decode cX12_posts 154 = .ok (.aload_n 0, 1) := by decide +kernel
theorem dX12_posts_155 : decode cX12_posts 155 = .ok (.getfield 16, 3) := by decide +kernel
theorem dX12_posts_158 : decode cX12_posts 158 = .ok (.iload 6, 2) := by decide +kernel
theorem dX12_posts_160 : decode cX12_posts 160 = .ok (.iconst 5, 1) := by decide +kernel
theorem dX12_posts_161 : decode cX12_posts 161 = .ok (.invokestatic 70, 3) := by decide +kernel
theorem dX12_posts_164 : decode cX12_posts 164 = .ok (.iload 5, 2) := by decide +kernel
theorem dX12_posts_166 : decode cX12_posts 166 = .ok (.iastore, 1) := by decide +kernel
theorem dX12_posts_167 : decode cX12_posts 167 = .ok (.aload_n 0, 1) := by decide +kernel
theorem dX12_posts_168 : decode cX12_posts 168 = .ok (.getfield 16, 3) := by decide +kernel
theorem dX12_posts_171 : decode cX12_posts 171 = .ok (.iload 6, 2) := by decide +kernel
theorem dX12_posts_173 : decode cX12_posts 173 = .ok (.bipush 6, 2) := by decide +kernel
theorem dX12_posts_175 : decode cX12_posts 175 = .ok (.invokestatic 70, 3) := by decide +kernel
theorem dX12_posts_178 : decode cX12_posts 178 = .ok (.iload_n 1, 1) := by decide +kernel
theorem dX12_posts_179 : decode cX12_posts 179 = .ok (.iastore, 1) := by decide +kernel
theorem dX12_posts_180 : decode cX12_posts 180 = .ok (.aload_n 0, 1) := by decide +kernel
theorem dX12_posts_181 : decode cX12_posts 181 = .ok (.getfield 16, 3) := by decide +kernel
theorem dX12_posts_184 : decode cX12_posts 184 = .ok (.bipush 7, 2) := by decide +kernel
theorem dX12_posts_186 : decode cX12_posts 186 = .ok (.dup2, 1) := by decide +kernel
theorem dX12_posts_187 : decode cX12_posts 187 = .ok (.iaload, 1) := by decide +kernel
theorem dX12_posts_188 : decode cX12_posts 188 = .ok (.iconst 1, 1) := by decide +kernel
theorem dX12_posts_189 : decode cX12_posts 189 = .ok (.iadd, 1) := by decide +kernel
theorem dX12_posts_190 : decode cX12_posts 190 = .ok (.iastore, 1) := by decide +kernel
theorem dX12_posts_191 : decode cX12_posts 191 = .ok (.aload_n 0, 1) := by decide +kernel
theorem dX12_posts_192 : decode cX12_posts 192 = .ok (.getfield 16, 3) := by decide +kernel
theorem dX12_posts_195 : decode cX12_posts 195 = .ok (.iconst 4, 1) := by decide +kernel
theorem dX12_posts_196 : decode cX12_posts 196 = .ok (.dup2, 1) := by decide +kernel
theorem dX12_posts_197 : decode cX12_posts 197 = .ok (.iaload, 1) := by decide +kernel
theorem dX12_posts_198 : decode cX12_posts 198 = .ok (.iconst 1, 1) := by decide +kernel
theorem dX12_posts_199 : decode cX12_posts 199 = .ok (.iadd, 1) := by decide +kernel
theorem dX12_posts_200 : decode cX12_posts 200 = .ok (.iastore, 1) := by decide +kernel
theorem dX12_posts_201 : decode cX12_posts 201 = .ok (.aload_n 0, 1) := by decide +kernel
theorem dX12_posts_202 : decode cX12_posts 202 = .ok (.getfield 16, 3) := by decide +kernel
theorem dX12_posts_205 : decode cX12_posts 205 = .ok (.iload 6, 2) := by decide +kernel
theorem dX12_posts_207 : decode cX12_posts 207 = .ok (.iconst 0, 1) := by decide +kernel
theorem dX12_posts_208 : decode cX12_posts 208 = .ok (.invokestatic 70, 3) := by decide +kernel
theorem dX12_posts_211 : decode cX12_posts 211 = .ok (.iaload, 1) := by decide +kernel
theorem dX12_posts_212 : decode cX12_posts 212 = .ok (.ireturn, 1) := by decide +kernel
set_option maxRecDepth 100000 in
set_option maxHeartbeats 4000000 in
theorem r_posts {l : Launch} {g : Nat → Nat} {M : LH} (htr : l.stackTraces = false) {kd : Nat → Nat} {r m : Nat} {w : Nat → Nat} {t ch ea fl sv bf tn he en ln wr dg : Int32} {v b4 sa pa fr th bs tx li lf to : Int32 → Int32} (hC : Md kd r M m w t ch ea fl sv bf tn he en ln wr dg v b4 sa pa fr th bs tx li lf to) (hG : Good v) (s d q e n : Int32) : K_X12_posts l g 2 0 0 [.ref m, .int s, .int d, .int q, .int e, .int n] M (RI (fun x M9 => ((vdLetter v s d q e n = 0 ∧ x = v 4 ∧ Md kd r M9 m w t ch ea fl sv bf tn he en ln wr dg (mkL v s d q e n) b4 sa pa fr th bs tx li lf to) ∨ (¬ vdLetter v s d q e n = 0 ∧ x = 0 ∧ Md kd r M9 m w (fcI 3 (vdLetter v s d q e n)) ch ea fl sv bf tn he en ln wr dg v b4 sa pa fr th bs tx li lf to)) ∧ Frm kd r M M9) nX) := by
  refine Ko_X12_posts htr (fun X => ?_)
  obtain ⟨hMo, hw5, hw6, hw7, hw8, hw9, hw10, hw11, hw13, hw14, hw15, hw16, hw17, hw18, -⟩ := _root_.id hC
  have hF : Frm kd r M M := Frm.rf
  obtain ⟨hg1, hg2, hg3, hg4, hg5, hg6, hg7, hg8, hgL, hgS, -⟩ := _root_.id hG
  clear hgL hgS
  refine v_aload_n dX12_posts_0 rfl rfl ?_
  refine v_iload_n dX12_posts_1 rfl rfl ?_
  refine k_X12_88 dX12_posts_2 rfl (r_isStation htr hC hG s) hMo (Nat.le_of_ble_eq_true rfl) (by omega) (by omega) (Nat.le_of_ble_eq_true rfl) (fun r2 M9 h9 => ?_) (fun _ _ h9 => h9.elim)
  obtain ⟨rfl, e9⟩ := h9
  subst M9
  refine v_if_eq (tgt := 16) dX12_posts_5 (by decide) (fun hq5 => ?_) (fun hq5 => ?_)
  · refine v_aload_n dX12_posts_16 rfl rfl ?_
    refine v_iconst (v := 1) dX12_posts_17 (by decide) ?_
    refine k_X12_74 dX12_posts_18 rfl (r_fail htr hC 1) hMo (Nat.le_of_ble_eq_true rfl) (by omega) (by omega) (Nat.le_of_ble_eq_true rfl) (fun r18 M9 h9 => ?_) (fun _ _ h9 => h9.elim)
    obtain ⟨rfl, hC, hF9⟩ := h9
    have hF := Frm.tr hF hF9
    exact v_iret dX12_posts_21 rfl ⟨Or.inr ⟨(by rw [vdLetter_1 (fun z => by first | exact b_f hq5 z.1 | exact b_f hq13 z.2)]; decide), rfl, (by rw [vdLetter_1 (fun z => by first | exact b_f hq5 z.1 | exact b_f hq13 z.2)]; exact hC)⟩, hF⟩ (by omega) (by omega)
  · refine v_aload_n dX12_posts_8 rfl rfl ?_
    refine v_iload_n dX12_posts_9 rfl rfl ?_
    refine k_X12_88 dX12_posts_10 rfl (r_isStation htr hC hG d) hMo (Nat.le_of_ble_eq_true rfl) (by omega) (by omega) (Nat.le_of_ble_eq_true rfl) (fun r10 M9 h9 => ?_) (fun _ _ h9 => h9.elim)
    obtain ⟨rfl, e9⟩ := h9
    subst M9
    refine v_if_ne (tgt := 22) dX12_posts_13 (by decide) (fun hq13 => ?_) (fun hq13 => ?_)
    · have hh : hst v s ∧ hst v d := ⟨b_t hq5, b_t hq13⟩
      refine v_iload_n dX12_posts_22 rfl rfl ?_
      refine v_iload_n dX12_posts_23 rfl rfl ?_
      refine v_icmp_eq (tgt := 59) dX12_posts_24 (by decide) (fun h24 => ?_) (fun h24 => ?_)
      · refine v_aload_n dX12_posts_59 rfl rfl ?_
        refine v_iconst (v := 2) dX12_posts_60 (by decide) ?_
        refine k_X12_74 dX12_posts_61 rfl (r_fail htr hC 2) hMo (Nat.le_of_ble_eq_true rfl) (by omega) (by omega) (Nat.le_of_ble_eq_true rfl) (fun r61 M9 h9 => ?_) (fun _ _ h9 => h9.elim)
        obtain ⟨rfl, hC, hF9⟩ := h9
        have hF := Frm.tr hF hF9
        exact v_iret dX12_posts_64 rfl ⟨Or.inr ⟨(by rw [vdLetter_2 hh (fun z => by first | exact absurd (by assumption) z.1 | exact b_f hq34 z.2.1 | exact b_f hq45 z.2.2.1 | exact b_f hq56 z.2.2.2)]; decide), rfl, (by rw [vdLetter_2 hh (fun z => by first | exact absurd (by assumption) z.1 | exact b_f hq34 z.2.1 | exact b_f hq45 z.2.2.1 | exact b_f hq56 z.2.2.2)]; exact hC)⟩, hF⟩ (by omega) (by omega)
      · refine v_iload_n dX12_posts_27 rfl rfl ?_
        refine v_iconst (v := 1) dX12_posts_28 (by decide) ?_
        refine v_bipush (v := (9)) dX12_posts_29 (by decide) ?_
        refine k_X12_66 dX12_posts_31 rfl (r_isIn htr q 1 9) (Nat.le_of_ble_eq_true rfl) (by omega) (by omega) (Nat.le_of_ble_eq_true rfl) (fun r31 M9 h9 => ?_) (fun _ _ h9 => h9.elim)
        obtain ⟨rfl, e9⟩ := h9
        subst M9
        refine v_if_eq (tgt := 59) dX12_posts_34 (by decide) (fun hq34 => ?_) (fun hq34 => ?_)
        · refine v_aload_n dX12_posts_59 rfl rfl ?_
          refine v_iconst (v := 2) dX12_posts_60 (by decide) ?_
          refine k_X12_74 dX12_posts_61 rfl (r_fail htr hC 2) hMo (Nat.le_of_ble_eq_true rfl) (by omega) (by omega) (Nat.le_of_ble_eq_true rfl) (fun r61 M9 h9 => ?_) (fun _ _ h9 => h9.elim)
          obtain ⟨rfl, hC, hF9⟩ := h9
          have hF := Frm.tr hF hF9
          exact v_iret dX12_posts_64 rfl ⟨Or.inr ⟨(by rw [vdLetter_2 hh (fun z => by first | exact absurd (by assumption) z.1 | exact b_f hq34 z.2.1 | exact b_f hq45 z.2.2.1 | exact b_f hq56 z.2.2.2)]; decide), rfl, (by rw [vdLetter_2 hh (fun z => by first | exact absurd (by assumption) z.1 | exact b_f hq34 z.2.1 | exact b_f hq45 z.2.2.1 | exact b_f hq56 z.2.2.2)]; exact hC)⟩, hF⟩ (by omega) (by omega)
        · refine v_iload dX12_posts_37 rfl ?_
          refine v_iconst (v := 0) dX12_posts_39 (by decide) ?_
          refine v_bipush (v := (99)) dX12_posts_40 (by decide) ?_
          refine k_X12_66 dX12_posts_42 rfl (r_isIn htr e 0 99) (Nat.le_of_ble_eq_true rfl) (by omega) (by omega) (Nat.le_of_ble_eq_true rfl) (fun r42 M9 h9 => ?_) (fun _ _ h9 => h9.elim)
          obtain ⟨rfl, e9⟩ := h9
          subst M9
          refine v_if_eq (tgt := 59) dX12_posts_45 (by decide) (fun hq45 => ?_) (fun hq45 => ?_)
          · refine v_aload_n dX12_posts_59 rfl rfl ?_
            refine v_iconst (v := 2) dX12_posts_60 (by decide) ?_
            refine k_X12_74 dX12_posts_61 rfl (r_fail htr hC 2) hMo (Nat.le_of_ble_eq_true rfl) (by omega) (by omega) (Nat.le_of_ble_eq_true rfl) (fun r61 M9 h9 => ?_) (fun _ _ h9 => h9.elim)
            obtain ⟨rfl, hC, hF9⟩ := h9
            have hF := Frm.tr hF hF9
            exact v_iret dX12_posts_64 rfl ⟨Or.inr ⟨(by rw [vdLetter_2 hh (fun z => by first | exact absurd (by assumption) z.1 | exact b_f hq34 z.2.1 | exact b_f hq45 z.2.2.1 | exact b_f hq56 z.2.2.2)]; decide), rfl, (by rw [vdLetter_2 hh (fun z => by first | exact absurd (by assumption) z.1 | exact b_f hq34 z.2.1 | exact b_f hq45 z.2.2.1 | exact b_f hq56 z.2.2.2)]; exact hC)⟩, hF⟩ (by omega) (by omega)
          · refine v_iload dX12_posts_48 rfl ?_
            refine v_iconst (v := 1) dX12_posts_50 (by decide) ?_
            refine v_bipush (v := (99)) dX12_posts_51 (by decide) ?_
            refine k_X12_66 dX12_posts_53 rfl (r_isIn htr n 1 99) (Nat.le_of_ble_eq_true rfl) (by omega) (by omega) (Nat.le_of_ble_eq_true rfl) (fun r53 M9 h9 => ?_) (fun _ _ h9 => h9.elim)
            obtain ⟨rfl, e9⟩ := h9
            subst M9
            refine v_if_ne (tgt := 65) dX12_posts_56 (by decide) (fun hq56 => ?_) (fun hq56 => ?_)
            · have hp9 : lpar s d q e n := ⟨(by assumption), b_t hq34, b_t hq45, b_t hq56⟩
              refine v_aload_n dX12_posts_65 rfl rfl ?_
              refine gf_X12_16 dX12_posts_66 rfl hMo ?_
              refine v_bipush (v := (7)) dX12_posts_69 (by decide) ?_
              refine v_iald dX12_posts_71 hw5 (by lia) (by lia) ?_
              refine v_istore_6 dX12_posts_72 ?_
              refine v_iload dX12_posts_74 rfl ?_
              refine v_bipush (v := (12)) dX12_posts_76 (by decide) ?_
              refine v_icmp_ne (tgt := 87) dX12_posts_78 (by decide) (fun h78 => ?_) (fun h78 => ?_)
              · have h712 : v 7 < 12 := by lia
                refine v_aload_n dX12_posts_87 rfl rfl ?_
                refine gf_X12_16 dX12_posts_88 rfl hMo ?_
                refine v_iload dX12_posts_91 rfl ?_
                refine v_iconst (v := 0) dX12_posts_93 (by decide) ?_
                refine k_X12_70 dX12_posts_94 rfl (r_of htr (v 7) 0) (Nat.le_of_ble_eq_true rfl) (by omega) (by omega) (Nat.le_of_ble_eq_true rfl) (fun r94 M9 h9 => ?_) (fun _ _ h9 => h9.elim)
                obtain ⟨rfl, e9⟩ := h9
                subst M9
                refine v_aload_n dX12_posts_97 rfl rfl ?_
                refine gf_X12_16 dX12_posts_98 rfl hMo ?_
                refine v_iconst (v := 4) dX12_posts_101 (by decide) ?_
                refine v_iald dX12_posts_102 hw5 (by lia) (by lia) ?_
                refine v_iast dX12_posts_103 hw5 (by lia) (by lia) ?_
                refine V.md (Md.r5 hC) (Frm.tr hF (Frm.up (hC.kd_r5))) (fun M1 hC hF => ?_)
                obtain ⟨hMo, hw5, hw6, hw7, hw8, hw9, hw10, hw11, hw13, hw14, hw15, hw16, hw17, hw18, -⟩ := _root_.id hC
                refine v_aload_n dX12_posts_104 rfl rfl ?_
                refine gf_X12_16 dX12_posts_105 rfl hMo ?_
                refine v_iload dX12_posts_108 rfl ?_
                refine v_iconst (v := 1) dX12_posts_110 (by decide) ?_
                refine k_X12_70 dX12_posts_111 rfl (r_of htr (v 7) 1) (Nat.le_of_ble_eq_true rfl) (by omega) (by omega) (Nat.le_of_ble_eq_true rfl) (fun r111 M9 h9 => ?_) (fun _ _ h9 => h9.elim)
                obtain ⟨rfl, e9⟩ := h9
                subst M9
                refine v_iload_n dX12_posts_114 rfl rfl ?_
                refine v_iast dX12_posts_115 hw5 (by lia) (by lia) ?_
                refine V.md (Md.r5 hC) (Frm.tr hF (Frm.up (hC.kd_r5))) (fun M1 hC hF => ?_)
                obtain ⟨hMo, hw5, hw6, hw7, hw8, hw9, hw10, hw11, hw13, hw14, hw15, hw16, hw17, hw18, -⟩ := _root_.id hC
                refine v_aload_n dX12_posts_116 rfl rfl ?_
                refine gf_X12_16 dX12_posts_117 rfl hMo ?_
                refine v_iload dX12_posts_120 rfl ?_
                refine v_iconst (v := 2) dX12_posts_122 (by decide) ?_
                refine k_X12_70 dX12_posts_123 rfl (r_of htr (v 7) 2) (Nat.le_of_ble_eq_true rfl) (by omega) (by omega) (Nat.le_of_ble_eq_true rfl) (fun r123 M9 h9 => ?_) (fun _ _ h9 => h9.elim)
                obtain ⟨rfl, e9⟩ := h9
                subst M9
                refine v_iload_n dX12_posts_126 rfl rfl ?_
                refine v_iast dX12_posts_127 hw5 (by lia) (by lia) ?_
                refine V.md (Md.r5 hC) (Frm.tr hF (Frm.up (hC.kd_r5))) (fun M1 hC hF => ?_)
                obtain ⟨hMo, hw5, hw6, hw7, hw8, hw9, hw10, hw11, hw13, hw14, hw15, hw16, hw17, hw18, -⟩ := _root_.id hC
                refine v_aload_n dX12_posts_128 rfl rfl ?_
                refine gf_X12_16 dX12_posts_129 rfl hMo ?_
                refine v_iload dX12_posts_132 rfl ?_
                refine v_iconst (v := 3) dX12_posts_134 (by decide) ?_
                refine k_X12_70 dX12_posts_135 rfl (r_of htr (v 7) 3) (Nat.le_of_ble_eq_true rfl) (by omega) (by omega) (Nat.le_of_ble_eq_true rfl) (fun r135 M9 h9 => ?_) (fun _ _ h9 => h9.elim)
                obtain ⟨rfl, e9⟩ := h9
                subst M9
                refine v_iload dX12_posts_138 rfl ?_
                refine v_iast dX12_posts_140 hw5 (by lia) (by lia) ?_
                refine V.md (Md.r5 hC) (Frm.tr hF (Frm.up (hC.kd_r5))) (fun M1 hC hF => ?_)
                obtain ⟨hMo, hw5, hw6, hw7, hw8, hw9, hw10, hw11, hw13, hw14, hw15, hw16, hw17, hw18, -⟩ := _root_.id hC
                refine v_aload_n dX12_posts_141 rfl rfl ?_
                refine gf_X12_16 dX12_posts_142 rfl hMo ?_
                refine v_iload dX12_posts_145 rfl ?_
                refine v_iconst (v := 4) dX12_posts_147 (by decide) ?_
                refine k_X12_70 dX12_posts_148 rfl (r_of htr (v 7) 4) (Nat.le_of_ble_eq_true rfl) (by omega) (by omega) (Nat.le_of_ble_eq_true rfl) (fun r148 M9 h9 => ?_) (fun _ _ h9 => h9.elim)
                obtain ⟨rfl, e9⟩ := h9
                subst M9
                refine v_iload dX12_posts_151 rfl ?_
                refine v_iast dX12_posts_153 hw5 (by lia) (by lia) ?_
                refine V.md (Md.r5 hC) (Frm.tr hF (Frm.up (hC.kd_r5))) (fun M1 hC hF => ?_)
                obtain ⟨hMo, hw5, hw6, hw7, hw8, hw9, hw10, hw11, hw13, hw14, hw15, hw16, hw17, hw18, -⟩ := _root_.id hC
                refine v_aload_n dX12_posts_154 rfl rfl ?_
                refine gf_X12_16 dX12_posts_155 rfl hMo ?_
                refine v_iload dX12_posts_158 rfl ?_
                refine v_iconst (v := 5) dX12_posts_160 (by decide) ?_
                refine k_X12_70 dX12_posts_161 rfl (r_of htr (v 7) 5) (Nat.le_of_ble_eq_true rfl) (by omega) (by omega) (Nat.le_of_ble_eq_true rfl) (fun r161 M9 h9 => ?_) (fun _ _ h9 => h9.elim)
                obtain ⟨rfl, e9⟩ := h9
                subst M9
                refine v_iload dX12_posts_164 rfl ?_
                refine v_iast dX12_posts_166 hw5 (by lia) (by lia) ?_
                refine V.md (Md.r5 hC) (Frm.tr hF (Frm.up (hC.kd_r5))) (fun M1 hC hF => ?_)
                obtain ⟨hMo, hw5, hw6, hw7, hw8, hw9, hw10, hw11, hw13, hw14, hw15, hw16, hw17, hw18, -⟩ := _root_.id hC
                refine v_aload_n dX12_posts_167 rfl rfl ?_
                refine gf_X12_16 dX12_posts_168 rfl hMo ?_
                refine v_iload dX12_posts_171 rfl ?_
                refine v_bipush (v := (6)) dX12_posts_173 (by decide) ?_
                refine k_X12_70 dX12_posts_175 rfl (r_of htr (v 7) 6) (Nat.le_of_ble_eq_true rfl) (by omega) (by omega) (Nat.le_of_ble_eq_true rfl) (fun r175 M9 h9 => ?_) (fun _ _ h9 => h9.elim)
                obtain ⟨rfl, e9⟩ := h9
                subst M9
                refine v_iload_n dX12_posts_178 rfl rfl ?_
                refine v_iast dX12_posts_179 hw5 (by lia) (by lia) ?_
                refine V.md (Md.r5 hC) (Frm.tr hF (Frm.up (hC.kd_r5))) (fun M1 hC hF => ?_)
                obtain ⟨hMo, hw5, hw6, hw7, hw8, hw9, hw10, hw11, hw13, hw14, hw15, hw16, hw17, hw18, -⟩ := _root_.id hC
                refine v_aload_n dX12_posts_180 rfl rfl ?_
                refine gf_X12_16 dX12_posts_181 rfl hMo ?_
                refine v_bipush (v := (7)) dX12_posts_184 (by decide) ?_
                refine v_dup2 dX12_posts_186 rfl rfl ?_
                refine v_iald dX12_posts_187 hw5 (by lia) (by lia) ?_
                refine v_iconst (v := 1) dX12_posts_188 (by decide) ?_
                refine v_iadd dX12_posts_189 ?_
                refine v_iast dX12_posts_190 hw5 (by lia) (by lia) ?_
                refine V.md (Md.r5 hC) (Frm.tr hF (Frm.up (hC.kd_r5))) (fun M1 hC hF => ?_)
                obtain ⟨hMo, hw5, hw6, hw7, hw8, hw9, hw10, hw11, hw13, hw14, hw15, hw16, hw17, hw18, -⟩ := _root_.id hC
                refine v_aload_n dX12_posts_191 rfl rfl ?_
                refine gf_X12_16 dX12_posts_192 rfl hMo ?_
                refine v_iconst (v := 4) dX12_posts_195 (by decide) ?_
                refine v_dup2 dX12_posts_196 rfl rfl ?_
                refine v_iald dX12_posts_197 hw5 (by lia) (by lia) ?_
                refine v_iconst (v := 1) dX12_posts_198 (by decide) ?_
                refine v_iadd dX12_posts_199 ?_
                refine v_iast dX12_posts_200 hw5 (by lia) (by lia) ?_
                refine V.md (Md.r5 hC) (Frm.tr hF (Frm.up (hC.kd_r5))) (fun M1 hC hF => ?_)
                obtain ⟨hMo, hw5, hw6, hw7, hw8, hw9, hw10, hw11, hw13, hw14, hw15, hw16, hw17, hw18, -⟩ := _root_.id hC
                repeat (rw [ui_n (by lia)] at hC)
                refine v_aload_n dX12_posts_201 rfl rfl ?_
                refine gf_X12_16 dX12_posts_202 rfl hMo ?_
                refine v_iload dX12_posts_205 rfl ?_
                refine v_iconst (v := 0) dX12_posts_207 (by decide) ?_
                refine k_X12_70 dX12_posts_208 rfl (r_of htr (v 7) 0) (Nat.le_of_ble_eq_true rfl) (by omega) (by omega) (Nat.le_of_ble_eq_true rfl) (fun r208 M9 h9 => ?_) (fun _ _ h9 => h9.elim)
                obtain ⟨rfl, e9⟩ := h9
                subst M9
                refine v_iald dX12_posts_211 hw5 (by lia) (by lia) ?_
                exact v_iret dX12_posts_212 rfl ⟨Or.inl ⟨vdLetter_z hh hp9 h712, (by rw [ui_n (by lia), ui_n (by lia), ui_n (by lia), ui_n (by lia), ui_n (by lia), ui_n (by lia), ui_n (by lia), ui_n (by lia), ui_s]), hC⟩, hF⟩ (by omega) (by omega)
              · refine v_aload_n dX12_posts_81 rfl rfl ?_
                refine v_iconst (v := 3) dX12_posts_82 (by decide) ?_
                refine k_X12_74 dX12_posts_83 rfl (r_fail htr hC 3) hMo (Nat.le_of_ble_eq_true rfl) (by omega) (by omega) (Nat.le_of_ble_eq_true rfl) (fun r83 M9 h9 => ?_) (fun _ _ h9 => h9.elim)
                obtain ⟨rfl, hC, hF9⟩ := h9
                have hF := Frm.tr hF hF9
                exact v_iret dX12_posts_86 rfl ⟨Or.inr ⟨(by rw [vdLetter_4 hh hp9 (by lia)]; decide), rfl, (by rw [vdLetter_4 hh hp9 (by lia)]; exact hC)⟩, hF⟩ (by omega) (by omega)
            · refine v_aload_n dX12_posts_59 rfl rfl ?_
              refine v_iconst (v := 2) dX12_posts_60 (by decide) ?_
              refine k_X12_74 dX12_posts_61 rfl (r_fail htr hC 2) hMo (Nat.le_of_ble_eq_true rfl) (by omega) (by omega) (Nat.le_of_ble_eq_true rfl) (fun r61 M9 h9 => ?_) (fun _ _ h9 => h9.elim)
              obtain ⟨rfl, hC, hF9⟩ := h9
              have hF := Frm.tr hF hF9
              exact v_iret dX12_posts_64 rfl ⟨Or.inr ⟨(by rw [vdLetter_2 hh (fun z => by first | exact absurd (by assumption) z.1 | exact b_f hq34 z.2.1 | exact b_f hq45 z.2.2.1 | exact b_f hq56 z.2.2.2)]; decide), rfl, (by rw [vdLetter_2 hh (fun z => by first | exact absurd (by assumption) z.1 | exact b_f hq34 z.2.1 | exact b_f hq45 z.2.2.1 | exact b_f hq56 z.2.2.2)]; exact hC)⟩, hF⟩ (by omega) (by omega)
    · refine v_aload_n dX12_posts_16 rfl rfl ?_
      refine v_iconst (v := 1) dX12_posts_17 (by decide) ?_
      refine k_X12_74 dX12_posts_18 rfl (r_fail htr hC 1) hMo (Nat.le_of_ble_eq_true rfl) (by omega) (by omega) (Nat.le_of_ble_eq_true rfl) (fun r18 M9 h9 => ?_) (fun _ _ h9 => h9.elim)
      obtain ⟨rfl, hC, hF9⟩ := h9
      have hF := Frm.tr hF hF9
      exact v_iret dX12_posts_21 rfl ⟨Or.inr ⟨(by rw [vdLetter_1 (fun z => by first | exact b_f hq5 z.1 | exact b_f hq13 z.2)]; decide), rfl, (by rw [vdLetter_1 (fun z => by first | exact b_f hq5 z.1 | exact b_f hq13 z.2)]; exact hC)⟩, hF⟩ (by omega) (by omega)
theorem Good_put {σ : Int32 → Int32} {k id : Int32} (h : Good σ) (hv : vdPutOn σ k id = 0) : 0 ≤ find σ id ∧ find σ id < σ 7 ∧ Good (plS σ (find σ id) (10 + k)) := by
  obtain ⟨⟨k0, k1⟩, hf, h3, h4⟩ := vdPutOn_0 hv
  have hpl := Classical.not_not.mp (fun z => h3 (Or.inr z))
  have hG := h
  obtain ⟨g1, g2, g3, g4, g5, g6, g7, g8, gL, gS, -⟩ := h
  obtain ⟨p0, p1, -⟩ := find_in g5 hf
  obtain ⟨z1, z2, z3, z4, -⟩ := gL _ p0 p1
  obtain ⟨u0, u1, u2, u3, -⟩ := gS k k0 k1
  refine ⟨p0, p1, Good_pl hG p0 p1 (by clear gL gS; lia) (Or.inr (by clear gL gS; lia)) (by clear gL gS; lia) (fun j j0 j1 => ?_)⟩
  obtain ⟨y0, y1, y2, y3, y4, y5, y6, y7⟩ := gS j j0 j1
  rw [loadOn_pl g6 p0 p1 j, hpl, if_neg (by clear gL gS; lia : ¬ sd σ k 1 = 10 + j)]
  by_cases e : j = k
  · subst e
    rw [if_pos rfl]
    clear gL gS
    constructor <;> lia
  · rw [if_neg (fun z => e (by clear gL gS; lia))]
    clear gL gS
    constructor <;> lia
theorem Good_off {σ : Int32 → Int32} {k id : Int32} (h : Good σ) (hv : vdTakeOff σ k id = 0) : 0 ≤ find σ id ∧ find σ id < σ 7 ∧ Good (plS σ (find σ id) (sd σ k 1)) := by
  obtain ⟨⟨k0, k1⟩, hf, h3, h4⟩ := vdTakeOff_0 hv
  have hG := h
  obtain ⟨g1, g2, g3, g4, g5, g6, g7, g8, gL, gS, -⟩ := h
  obtain ⟨p0, p1, -⟩ := find_in g5 hf
  have p12 : find σ id < 12 := by clear gL gS; lia
  obtain ⟨z1, z2, z3, z4, -⟩ := gL _ p0 p1
  obtain ⟨u0, u1, u2, u3, -⟩ := gS k k0 k1
  refine ⟨p0, p1, Good_pl hG p0 p1 u2 (Or.inl u3) (by clear gL gS; lia) (fun j j0 j1 => ?_)⟩
  refine ⟨loadOn_nn (by rw [plS_lo p0 p12 (by decide) (by decide)]; exact g6) (fun i i0 i1 => ?_) j, ?_⟩
  · rw [plS_lo p0 p12 (by decide) (by decide)] at i1
    rw [plS_n p0 p12 i0 (by clear gL gS; lia) (by decide) (by decide) (fun z => absurd z.2 (by decide))]
    obtain ⟨w1, w2, w3, w4, -⟩ := gL i i0 i1
    exact ⟨by clear gL gS; lia, w4⟩
  · obtain ⟨y0, y1, y2, y3, y4, y5, y6, y7⟩ := gS j j0 j1
    rw [loadOn_pl g6 p0 p1 j, h4, if_neg (by clear gL gS; lia : ¬ sd σ k 1 = 10 + j)]
    by_cases e : j = k
    · subst e
      rw [if_pos rfl]
      clear gL gS
      lia
    · rw [if_neg (fun z => e (by clear gL gS; lia))]
      clear gL gS
      lia
theorem dX12_lades_0 : decode cX12_lades 0 = .ok (.aload_n 0, 1) := by decide +kernel
theorem dX12_lades_1 : decode cX12_lades 1 = .ok (.iload_n 1, 1) := by decide +kernel
theorem dX12_lades_2 : decode cX12_lades 2 = .ok (.invokevirtual 106, 3) := by decide +kernel
theorem dX12_lades_5 : decode cX12_lades 5 = .ok (.ifCond .ne 9, 3) := by decide +kernel
theorem dX12_lades_8 : decode cX12_lades 8 = .ok (.aload_n 0, 1) := by decide +kernel
theorem dX12_lades_9 : decode cX12_lades 9 = .ok (.iconst 1, 1) := by decide +kernel
theorem dX12_lades_10 : decode cX12_lades 10 = .ok (.invokevirtual 74, 3) := by decide +kernel
theorem dX12_lades_13 : decode cX12_lades 13 = .ok (.ireturn, 1) := by decide +kernel
theorem dX12_lades_14 : decode cX12_lades 14 = .ok (.iload_n 2, 1) := by decide +kernel
theorem dX12_lades_15 : decode cX12_lades 15 = .ok (.ifCond .ge 9, 3) := by decide +kernel
theorem dX12_lades_18 : decode cX12_lades 18 = .ok (.aload_n 0, 1) := by decide +kernel
theorem dX12_lades_19 : decode cX12_lades 19 = .ok (.iconst 2, 1) := by decide +kernel
theorem dX12_lades_20 : decode cX12_lades 20 = .ok (.invokevirtual 74, 3) := by decide +kernel
theorem dX12_lades_23 : decode cX12_lades 23 = .ok (.ireturn, 1) := by decide +kernel
theorem dX12_lades_24 : decode cX12_lades 24 = .ok (.aload_n 0, 1) := by decide +kernel
theorem dX12_lades_25 : decode cX12_lades 25 = .ok (.getfield 16, 3) := by decide +kernel
theorem dX12_lades_28 : decode cX12_lades 28 = .ok (.iload_n 1, 1) := by decide +kernel
theorem dX12_lades_29 : decode cX12_lades 29 = .ok (.iconst 2, 1) := by decide +kernel
theorem dX12_lades_30 : decode cX12_lades 30 = .ok (.invokestatic 96, 3) := by decide +kernel
theorem dX12_lades_33 : decode cX12_lades 33 = .ok (.iaload, 1) := by decide +kernel
theorem dX12_lades_34 : decode cX12_lades 34 = .ok (.ifCond .gt 27, 3) := by decide +kernel
theorem dX12_lades_37 : decode cX12_lades 37 = .ok (.aload_n 0, 1) := by decide +kernel
theorem dX12_lades_38 : decode cX12_lades 38 = .ok (.getfield 16, 3) := by decide +kernel
theorem dX12_lades_41 : decode cX12_lades 41 = .ok (.iload_n 2, 1) := by decide +kernel
theorem dX12_lades_42 : decode cX12_lades 42 = .ok (.bipush 6, 2) := by decide +kernel
theorem dX12_lades_44 : decode cX12_lades 44 = .ok (.invokestatic 70, 3) := by decide +kernel
theorem dX12_lades_47 : decode cX12_lades 47 = .ok (.iaload, 1) := by decide +kernel
theorem dX12_lades_48 : decode cX12_lades 48 = .ok (.aload_n 0, 1) := by decide +kernel
theorem dX12_lades_49 : decode cX12_lades 49 = .ok (.getfield 16, 3) := by decide +kernel
theorem dX12_lades_52 : decode cX12_lades 52 = .ok (.iload_n 1, 1) := by decide +kernel
theorem dX12_lades_53 : decode cX12_lades 53 = .ok (.iconst 1, 1) := by decide +kernel
theorem dX12_lades_54 : decode cX12_lades 54 = .ok (.invokestatic 96, 3) := by decide +kernel
theorem dX12_lades_57 : decode cX12_lades 57 = .ok (.iaload, 1) := by decide +kernel
theorem dX12_lades_58 : decode cX12_lades 58 = .ok (.if_icmp .eq 9, 3) := by decide +kernel
theorem dX12_lades_61 : decode cX12_lades 61 = .ok (.aload_n 0, 1) := by decide +kernel
theorem dX12_lades_62 : decode cX12_lades 62 = .ok (.iconst 3, 1) := by decide +kernel
theorem dX12_lades_63 : decode cX12_lades 63 = .ok (.invokevirtual 74, 3) := by decide +kernel
theorem dX12_lades_66 : decode cX12_lades 66 = .ok (.ireturn, 1) := by decide +kernel
theorem dX12_lades_67 : decode cX12_lades 67 = .ok (.aload_n 0, 1) := by decide +kernel
theorem dX12_lades_68 : decode cX12_lades 68 = .ok (.iload_n 1, 1) := by decide +kernel
theorem dX12_lades_69 : decode cX12_lades 69 = .ok (.invokevirtual 109, 3) := by decide +kernel
theorem dX12_lades_72 : decode cX12_lades 72 = .ok (.aload_n 0, 1) := by decide +kernel
theorem dX12_lades_73 : decode cX12_lades 73 = .ok (.getfield 16, 3) := by decide +kernel
theorem dX12_lades_76 : decode cX12_lades 76 = .ok (.iload_n 2, 1) := by decide +kernel
theorem dX12_lades_77 : decode cX12_lades 77 = .ok (.iconst 2, 1) := by decide +kernel
theorem dX12_lades_78 : decode cX12_lades 78 = .ok (.invokestatic 70, 3) := by decide +kernel
theorem dX12_lades_81 : decode cX12_lades 81 = .ok (.iaload, 1) := by decide +kernel
theorem dX12_lades_82 : decode cX12_lades 82 = .ok (.iadd, 1) := by decide +kernel
theorem dX12_lades_83 : decode cX12_lades 83 = .ok (.aload_n 0, 1) := by decide +kernel
theorem dX12_lades_84 : decode cX12_lades 84 = .ok (.getfield 16, 3) := by decide +kernel
theorem dX12_lades_87 : decode cX12_lades 87 = .ok (.iload_n 1, 1) := by decide +kernel
theorem dX12_lades_88 : decode cX12_lades 88 = .ok (.iconst 0, 1) := by decide +kernel
theorem dX12_lades_89 : decode cX12_lades 89 = .ok (.invokestatic 96, 3) := by decide +kernel
theorem dX12_lades_92 : decode cX12_lades 92 = .ok (.iaload, 1) := by decide +kernel
theorem dX12_lades_93 : decode cX12_lades 93 = .ok (.if_icmp .le 9, 3) := by decide +kernel
theorem dX12_lades_96 : decode cX12_lades 96 = .ok (.aload_n 0, 1) := by decide +kernel
theorem dX12_lades_97 : decode cX12_lades 97 = .ok (.iconst 4, 1) := by decide +kernel
theorem dX12_lades_98 : decode cX12_lades 98 = .ok (.invokevirtual 74, 3) := by decide +kernel
theorem dX12_lades_101 : decode cX12_lades 101 = .ok (.ireturn, 1) := by decide +kernel
theorem dX12_lades_102 : decode cX12_lades 102 = .ok (.aload_n 0, 1) := by decide +kernel
theorem dX12_lades_103 : decode cX12_lades 103 = .ok (.getfield 16, 3) := by decide +kernel
theorem dX12_lades_106 : decode cX12_lades 106 = .ok (.iload_n 2, 1) := by decide +kernel
theorem dX12_lades_107 : decode cX12_lades 107 = .ok (.bipush 6, 2) := by decide +kernel
theorem dX12_lades_109 : decode cX12_lades 109 = .ok (.invokestatic 70, 3) := by decide +kernel
theorem dX12_lades_112 : decode cX12_lades 112 = .ok (.bipush 10, 2) := by decide +kernel
theorem dX12_lades_114 : decode cX12_lades 114 = .ok (.iload_n 1, 1) := by decide +kernel
theorem dX12_lades_115 : decode cX12_lades 115 = .ok (.iadd, 1) := by decide +kernel
theorem dX12_lades_116 : decode cX12_lades 116 = .ok (.iastore, 1) := by decide +kernel
theorem dX12_lades_117 : decode cX12_lades 117 = .ok (.aload_n 0, 1) := by decide +kernel
theorem dX12_lades_118 : decode cX12_lades 118 = .ok (.iload_n 1, 1) := by decide +kernel
theorem dX12_lades_119 : decode cX12_lades 119 = .ok (.invokevirtual 109, 3) := by decide +kernel
theorem dX12_lades_122 : decode cX12_lades 122 = .ok (.ireturn, 1) := by decide +kernel
set_option maxRecDepth 100000 in
set_option maxHeartbeats 4000000 in
theorem r_lades {l : Launch} {g : Nat → Nat} {M : LH} (htr : l.stackTraces = false) {kd : Nat → Nat} {r m : Nat} {w : Nat → Nat} {t ch ea fl sv bf tn he en ln wr dg : Int32} {v b4 sa pa fr th bs tx li lf to : Int32 → Int32} (hC : Md kd r M m w t ch ea fl sv bf tn he en ln wr dg v b4 sa pa fr th bs tx li lf to) (hG : Good v) (k id : Int32) : K_X12_lades l g 2 0 0 [.ref m, .int k, .int (find v id)] M (RI (fun x M9 => ((vdPutOn v k id = 0 ∧ x = loadOn (plS v (find v id) (10 + k)) k ∧ Md kd r M9 m w t ch ea fl sv bf tn he en ln wr dg (plS v (find v id) (10 + k)) b4 sa pa fr th bs tx li lf to) ∨ (¬ vdPutOn v k id = 0 ∧ x = 0 ∧ Md kd r M9 m w (fcI 4 (vdPutOn v k id)) ch ea fl sv bf tn he en ln wr dg v b4 sa pa fr th bs tx li lf to)) ∧ Frm kd r M M9) nX) := by
  refine Ko_X12_lades htr (fun X => ?_)
  obtain ⟨hMo, hw5, hw6, hw7, hw8, hw9, hw10, hw11, hw13, hw14, hw15, hw16, hw17, hw18, -⟩ := _root_.id hC
  have hF : Frm kd r M M := Frm.rf
  obtain ⟨hg1, hg2, hg3, hg4, hg5, hg6, hg7, hg8, hgL, hgS, -⟩ := _root_.id hG
  refine v_aload_n dX12_lades_0 rfl rfl ?_
  refine v_iload_n dX12_lades_1 rfl rfl ?_
  refine k_X12_106 dX12_lades_2 rfl (r_isSledge htr hC hG k) hMo (Nat.le_of_ble_eq_true rfl) (by omega) (by omega) (Nat.le_of_ble_eq_true rfl) (fun r2 M9 h9 => ?_) (fun _ _ h9 => h9.elim)
  obtain ⟨rfl, e9⟩ := h9
  subst M9
  refine v_if_ne (tgt := 14) dX12_lades_5 (by decide) (fun hq5 => ?_) (fun hq5 => ?_)
  · have hk9 := b_t hq5
    obtain ⟨k0, k1⟩ := hk9
    have k3 : k < 3 := by clear hgL; lia
    obtain ⟨u0, u1, u2, u3, u4, u5, u6, u7⟩ := hgS k k0 k1
    refine v_iload_n dX12_lades_14 rfl rfl ?_
    refine v_if_ge (tgt := 24) dX12_lades_15 (by decide) (fun hq15 => ?_) (fun hq15 => ?_)
    · have hf : ¬ find v id = -1 := fun z => by rw [z] at hq15; revert hq15; decide
      obtain ⟨p0, p1, -⟩ := find_in hg5 hf
      have p12 : find v id < 12 := by clear hgL hgS; lia
      obtain ⟨z1, z2, z3, z4, -⟩ := hgL _ p0 p1
      clear hgL hgS
      refine v_aload_n dX12_lades_24 rfl rfl ?_
      refine gf_X12_16 dX12_lades_25 rfl hMo ?_
      refine v_iload_n dX12_lades_28 rfl rfl ?_
      refine v_iconst (v := 2) dX12_lades_29 (by decide) ?_
      refine k_X12_96 dX12_lades_30 rfl (r_in htr k 2) (Nat.le_of_ble_eq_true rfl) (by omega) (by omega) (Nat.le_of_ble_eq_true rfl) (fun r30 M9 h9 => ?_) (fun _ _ h9 => h9.elim)
      obtain ⟨rfl, e9⟩ := h9
      subst M9
      refine v_iald dX12_lades_33 hw5 (by lia) (by lia) ?_
      refine v_if_gt (tgt := 61) dX12_lades_34 (by decide) (fun h34 => ?_) (fun h34 => ?_)
      · refine v_aload_n dX12_lades_61 rfl rfl ?_
        refine v_iconst (v := 3) dX12_lades_62 (by decide) ?_
        refine k_X12_74 dX12_lades_63 rfl (r_fail htr hC 3) hMo (Nat.le_of_ble_eq_true rfl) (by omega) (by omega) (Nat.le_of_ble_eq_true rfl) (fun r63 M9 h9 => ?_) (fun _ _ h9 => h9.elim)
        obtain ⟨rfl, hC, hF9⟩ := h9
        have hF := Frm.tr hF hF9
        exact v_iret dX12_lades_66 rfl ⟨Or.inr ⟨(by rw [vdPutOn_4 ⟨k0, k1⟩ hf (by first | exact Or.inl (by assumption) | exact Or.inr (by assumption))]; decide), rfl, (by rw [vdPutOn_4 ⟨k0, k1⟩ hf (by first | exact Or.inl (by assumption) | exact Or.inr (by assumption))]; exact hC)⟩, hF⟩ (by omega) (by omega)
      · refine v_aload_n dX12_lades_37 rfl rfl ?_
        refine gf_X12_16 dX12_lades_38 rfl hMo ?_
        refine v_iload_n dX12_lades_41 rfl rfl ?_
        refine v_bipush (v := (6)) dX12_lades_42 (by decide) ?_
        refine k_X12_70 dX12_lades_44 rfl (r_of htr (find v id) 6) (Nat.le_of_ble_eq_true rfl) (by omega) (by omega) (Nat.le_of_ble_eq_true rfl) (fun r44 M9 h9 => ?_) (fun _ _ h9 => h9.elim)
        obtain ⟨rfl, e9⟩ := h9
        subst M9
        refine v_iald dX12_lades_47 hw5 (by lia) (by lia) ?_
        refine v_aload_n dX12_lades_48 rfl rfl ?_
        refine gf_X12_16 dX12_lades_49 rfl hMo ?_
        refine v_iload_n dX12_lades_52 rfl rfl ?_
        refine v_iconst (v := 1) dX12_lades_53 (by decide) ?_
        refine k_X12_96 dX12_lades_54 rfl (r_in htr k 1) (Nat.le_of_ble_eq_true rfl) (by omega) (by omega) (Nat.le_of_ble_eq_true rfl) (fun r54 M9 h9 => ?_) (fun _ _ h9 => h9.elim)
        obtain ⟨rfl, e9⟩ := h9
        subst M9
        refine v_iald dX12_lades_57 hw5 (by lia) (by lia) ?_
        refine v_icmp_eq (tgt := 67) dX12_lades_58 (by decide) (fun h58 => ?_) (fun h58 => ?_)
        · have hc9 : ¬ (0 < sd v k 2 ∨ ¬ lt v (find v id) 6 = sd v k 1) := fun z => z.elim (by assumption) (fun y => y (by first | assumption | exact Classical.not_not.mp (by assumption)))
          refine v_aload_n dX12_lades_67 rfl rfl ?_
          refine v_iload_n dX12_lades_68 rfl rfl ?_
          refine k_X12_109 dX12_lades_69 rfl (r_loadOn htr hC hG k) hMo (Nat.le_of_ble_eq_true rfl) (by omega) (by omega) (Nat.le_of_ble_eq_true rfl) (fun r69 M9 h9 => ?_) (fun _ _ h9 => h9.elim)
          obtain ⟨rfl, e9⟩ := h9
          subst M9
          refine v_aload_n dX12_lades_72 rfl rfl ?_
          refine gf_X12_16 dX12_lades_73 rfl hMo ?_
          refine v_iload_n dX12_lades_76 rfl rfl ?_
          refine v_iconst (v := 2) dX12_lades_77 (by decide) ?_
          refine k_X12_70 dX12_lades_78 rfl (r_of htr (find v id) 2) (Nat.le_of_ble_eq_true rfl) (by omega) (by omega) (Nat.le_of_ble_eq_true rfl) (fun r78 M9 h9 => ?_) (fun _ _ h9 => h9.elim)
          obtain ⟨rfl, e9⟩ := h9
          subst M9
          refine v_iald dX12_lades_81 hw5 (by lia) (by lia) ?_
          refine v_iadd dX12_lades_82 ?_
          refine v_aload_n dX12_lades_83 rfl rfl ?_
          refine gf_X12_16 dX12_lades_84 rfl hMo ?_
          refine v_iload_n dX12_lades_87 rfl rfl ?_
          refine v_iconst (v := 0) dX12_lades_88 (by decide) ?_
          refine k_X12_96 dX12_lades_89 rfl (r_in htr k 0) (Nat.le_of_ble_eq_true rfl) (by omega) (by omega) (Nat.le_of_ble_eq_true rfl) (fun r89 M9 h9 => ?_) (fun _ _ h9 => h9.elim)
          obtain ⟨rfl, e9⟩ := h9
          subst M9
          refine v_iald dX12_lades_92 hw5 (by lia) (by lia) ?_
          refine v_icmp_le (tgt := 102) dX12_lades_93 (by decide) (fun h93 => ?_) (fun h93 => ?_)
          · have hv9 := vdPutOn_z ⟨k0, k1⟩ hf hc9 (by unfold sd lt at *; lia)
            have hG9 := (Good_put hG hv9).2.2
            refine v_aload_n dX12_lades_102 rfl rfl ?_
            refine gf_X12_16 dX12_lades_103 rfl hMo ?_
            refine v_iload_n dX12_lades_106 rfl rfl ?_
            refine v_bipush (v := (6)) dX12_lades_107 (by decide) ?_
            refine k_X12_70 dX12_lades_109 rfl (r_of htr (find v id) 6) (Nat.le_of_ble_eq_true rfl) (by omega) (by omega) (Nat.le_of_ble_eq_true rfl) (fun r109 M9 h9 => ?_) (fun _ _ h9 => h9.elim)
            obtain ⟨rfl, e9⟩ := h9
            subst M9
            refine v_bipush (v := (10)) dX12_lades_112 (by decide) ?_
            refine v_iload_n dX12_lades_114 rfl rfl ?_
            refine v_iadd dX12_lades_115 ?_
            refine v_iast dX12_lades_116 hw5 (by lia) (by lia) ?_
            refine V.md (Md.r5 hC) (Frm.tr hF (Frm.up (hC.kd_r5))) (fun M1 hC hF => ?_)
            obtain ⟨hMo, hw5, hw6, hw7, hw8, hw9, hw10, hw11, hw13, hw14, hw15, hw16, hw17, hw18, -⟩ := _root_.id hC
            refine v_aload_n dX12_lades_117 rfl rfl ?_
            refine v_iload_n dX12_lades_118 rfl rfl ?_
            refine k_X12_109 dX12_lades_119 rfl (r_loadOn htr hC hG9 k) hMo (Nat.le_of_ble_eq_true rfl) (by omega) (by omega) (Nat.le_of_ble_eq_true rfl) (fun r119 M9 h9 => ?_) (fun _ _ h9 => h9.elim)
            obtain ⟨rfl, e9⟩ := h9
            subst M9
            exact v_iret dX12_lades_122 rfl ⟨Or.inl ⟨hv9, rfl, hC⟩, hF⟩ (by omega) (by omega)
          · refine v_aload_n dX12_lades_96 rfl rfl ?_
            refine v_iconst (v := 4) dX12_lades_97 (by decide) ?_
            refine k_X12_74 dX12_lades_98 rfl (r_fail htr hC 4) hMo (Nat.le_of_ble_eq_true rfl) (by omega) (by omega) (Nat.le_of_ble_eq_true rfl) (fun r98 M9 h9 => ?_) (fun _ _ h9 => h9.elim)
            obtain ⟨rfl, hC, hF9⟩ := h9
            have hF := Frm.tr hF hF9
            exact v_iret dX12_lades_101 rfl ⟨Or.inr ⟨(by rw [vdPutOn_5 ⟨k0, k1⟩ hf hc9 (by unfold sd lt at *; lia)]; decide), rfl, (by rw [vdPutOn_5 ⟨k0, k1⟩ hf hc9 (by unfold sd lt at *; lia)]; exact hC)⟩, hF⟩ (by omega) (by omega)
        · refine v_aload_n dX12_lades_61 rfl rfl ?_
          refine v_iconst (v := 3) dX12_lades_62 (by decide) ?_
          refine k_X12_74 dX12_lades_63 rfl (r_fail htr hC 3) hMo (Nat.le_of_ble_eq_true rfl) (by omega) (by omega) (Nat.le_of_ble_eq_true rfl) (fun r63 M9 h9 => ?_) (fun _ _ h9 => h9.elim)
          obtain ⟨rfl, hC, hF9⟩ := h9
          have hF := Frm.tr hF hF9
          exact v_iret dX12_lades_66 rfl ⟨Or.inr ⟨(by rw [vdPutOn_4 ⟨k0, k1⟩ hf (by first | exact Or.inl (by assumption) | exact Or.inr (by assumption))]; decide), rfl, (by rw [vdPutOn_4 ⟨k0, k1⟩ hf (by first | exact Or.inl (by assumption) | exact Or.inr (by assumption))]; exact hC)⟩, hF⟩ (by omega) (by omega)
    · refine v_aload_n dX12_lades_18 rfl rfl ?_
      refine v_iconst (v := 2) dX12_lades_19 (by decide) ?_
      refine k_X12_74 dX12_lades_20 rfl (r_fail htr hC 2) hMo (Nat.le_of_ble_eq_true rfl) (by omega) (by omega) (Nat.le_of_ble_eq_true rfl) (fun r20 M9 h9 => ?_) (fun _ _ h9 => h9.elim)
      obtain ⟨rfl, hC, hF9⟩ := h9
      have hF := Frm.tr hF hF9
      exact v_iret dX12_lades_23 rfl ⟨Or.inr ⟨(by rw [vdPutOn_3 ⟨k0, k1⟩ (Classical.byContradiction (fun hf => by obtain ⟨p0, -⟩ := find_in hg5 hf; exact absurd p0 hq15))]; decide), rfl, (by rw [vdPutOn_3 ⟨k0, k1⟩ (Classical.byContradiction (fun hf => by obtain ⟨p0, -⟩ := find_in hg5 hf; exact absurd p0 hq15))]; exact hC)⟩, hF⟩ (by omega) (by omega)
  · refine v_aload_n dX12_lades_8 rfl rfl ?_
    refine v_iconst (v := 1) dX12_lades_9 (by decide) ?_
    refine k_X12_74 dX12_lades_10 rfl (r_fail htr hC 1) hMo (Nat.le_of_ble_eq_true rfl) (by omega) (by omega) (Nat.le_of_ble_eq_true rfl) (fun r10 M9 h9 => ?_) (fun _ _ h9 => h9.elim)
    obtain ⟨rfl, hC, hF9⟩ := h9
    have hF := Frm.tr hF hF9
    exact v_iret dX12_lades_13 rfl ⟨Or.inr ⟨(by rw [vdPutOn_1 (b_f hq5)]; decide), rfl, (by rw [vdPutOn_1 (b_f hq5)]; exact hC)⟩, hF⟩ (by omega) (by omega)
theorem dX12_unlades_0 : decode cX12_unlades 0 = .ok (.aload_n 0, 1) := by decide +kernel
theorem dX12_unlades_1 : decode cX12_unlades 1 = .ok (.iload_n 1, 1) := by decide +kernel
theorem dX12_unlades_2 : decode cX12_unlades 2 = .ok (.invokevirtual 106, 3) := by decide +kernel
theorem dX12_unlades_5 : decode cX12_unlades 5 = .ok (.ifCond .ne 9, 3) := by decide +kernel
theorem dX12_unlades_8 : decode cX12_unlades 8 = .ok (.aload_n 0, 1) := by decide +kernel
theorem dX12_unlades_9 : decode cX12_unlades 9 = .ok (.iconst 1, 1) := by decide +kernel
theorem dX12_unlades_10 : decode cX12_unlades 10 = .ok (.invokevirtual 74, 3) := by decide +kernel
theorem dX12_unlades_13 : decode cX12_unlades 13 = .ok (.ireturn, 1) := by decide +kernel
theorem dX12_unlades_14 : decode cX12_unlades 14 = .ok (.iload_n 2, 1) := by decide +kernel
theorem dX12_unlades_15 : decode cX12_unlades 15 = .ok (.ifCond .ge 9, 3) := by decide +kernel
theorem dX12_unlades_18 : decode cX12_unlades 18 = .ok (.aload_n 0, 1) := by decide +kernel
theorem dX12_unlades_19 : decode cX12_unlades 19 = .ok (.iconst 2, 1) := by decide +kernel
theorem dX12_unlades_20 : decode cX12_unlades 20 = .ok (.invokevirtual 74, 3) := by decide +kernel
theorem dX12_unlades_23 : decode cX12_unlades 23 = .ok (.ireturn, 1) := by decide +kernel
theorem dX12_unlades_24 : decode cX12_unlades 24 = .ok (.aload_n 0, 1) := by decide +kernel
theorem dX12_unlades_25 : decode cX12_unlades 25 = .ok (.getfield 16, 3) := by decide +kernel
theorem dX12_unlades_28 : decode cX12_unlades 28 = .ok (.iload_n 1, 1) := by decide +kernel
theorem dX12_unlades_29 : decode cX12_unlades 29 = .ok (.iconst 2, 1) := by decide +kernel
theorem dX12_unlades_30 : decode cX12_unlades 30 = .ok (.invokestatic 96, 3) := by decide +kernel
theorem dX12_unlades_33 : decode cX12_unlades 33 = .ok (.iaload, 1) := by decide +kernel
theorem dX12_unlades_34 : decode cX12_unlades 34 = .ok (.ifCond .gt 21, 3) := by decide +kernel
theorem dX12_unlades_37 : decode cX12_unlades 37 = .ok (.aload_n 0, 1) := by decide +kernel
theorem dX12_unlades_38 : decode cX12_unlades 38 = .ok (.getfield 16, 3) := by decide +kernel
theorem dX12_unlades_41 : decode cX12_unlades 41 = .ok (.iload_n 2, 1) := by decide +kernel
theorem dX12_unlades_42 : decode cX12_unlades 42 = .ok (.bipush 6, 2) := by decide +kernel
theorem dX12_unlades_44 : decode cX12_unlades 44 = .ok (.invokestatic 70, 3) := by decide +kernel
theorem dX12_unlades_47 : decode cX12_unlades 47 = .ok (.iaload, 1) := by decide +kernel
theorem dX12_unlades_48 : decode cX12_unlades 48 = .ok (.bipush 10, 2) := by decide +kernel
theorem dX12_unlades_50 : decode cX12_unlades 50 = .ok (.iload_n 1, 1) := by decide +kernel
theorem dX12_unlades_51 : decode cX12_unlades 51 = .ok (.iadd, 1) := by decide +kernel
theorem dX12_unlades_52 : decode cX12_unlades 52 = .ok (.if_icmp .eq 9, 3) := by decide +kernel
theorem dX12_unlades_55 : decode cX12_unlades 55 = .ok (.aload_n 0, 1) := by decide +kernel
theorem dX12_unlades_56 : decode cX12_unlades 56 = .ok (.iconst 3, 1) := by decide +kernel
theorem dX12_unlades_57 : decode cX12_unlades 57 = .ok (.invokevirtual 74, 3) := by decide +kernel
theorem dX12_unlades_60 : decode cX12_unlades 60 = .ok (.ireturn, 1) := by decide +kernel
theorem dX12_unlades_61 : decode cX12_unlades 61 = .ok (.aload_n 0, 1) := by decide +kernel
theorem dX12_unlades_62 : decode cX12_unlades 62 = .ok (.getfield 16, 3) := by decide +kernel
theorem dX12_unlades_65 : decode cX12_unlades 65 = .ok (.iload_n 2, 1) := by decide +kernel
theorem dX12_unlades_66 : decode cX12_unlades 66 = .ok (.bipush 6, 2) := by decide +kernel
theorem dX12_unlades_68 : decode cX12_unlades 68 = .ok (.invokestatic 70, 3) := by decide +kernel
theorem dX12_unlades_71 : decode cX12_unlades 71 = .ok (.aload_n 0, 1) := by decide +kernel
theorem dX12_unlades_72 : decode cX12_unlades 72 = .ok (.getfield 16, 3) := by decide +kernel
theorem dX12_unlades_75 : decode cX12_unlades 75 = .ok (.iload_n 1, 1) := by decide +kernel
theorem dX12_unlades_76 : decode cX12_unlades 76 = .ok (.iconst 1, 1) := by decide +kernel
theorem dX12_unlades_77 : decode cX12_unlades 77 = .ok (.invokestatic 96, 3) := by decide +kernel
theorem dX12_unlades_80 : decode cX12_unlades 80 = .ok (.iaload, 1) := by decide +kernel
theorem dX12_unlades_81 : decode cX12_unlades 81 = .ok (.iastore, 1) := by decide +kernel
theorem dX12_unlades_82 : decode cX12_unlades 82 = .ok (.aload_n 0, 1) := by decide +kernel
theorem dX12_unlades_83 : decode cX12_unlades 83 = .ok (.iload_n 1, 1) := by decide +kernel
theorem dX12_unlades_84 : decode cX12_unlades 84 = .ok (.invokevirtual 109, 3) := by decide +kernel
theorem dX12_unlades_87 : decode cX12_unlades 87 = .ok (.ireturn, 1) := by decide +kernel
set_option maxRecDepth 100000 in
set_option maxHeartbeats 4000000 in
theorem r_unlades {l : Launch} {g : Nat → Nat} {M : LH} (htr : l.stackTraces = false) {kd : Nat → Nat} {r m : Nat} {w : Nat → Nat} {t ch ea fl sv bf tn he en ln wr dg : Int32} {v b4 sa pa fr th bs tx li lf to : Int32 → Int32} (hC : Md kd r M m w t ch ea fl sv bf tn he en ln wr dg v b4 sa pa fr th bs tx li lf to) (hG : Good v) (k id : Int32) : K_X12_unlades l g 2 0 0 [.ref m, .int k, .int (find v id)] M (RI (fun x M9 => ((vdTakeOff v k id = 0 ∧ x = loadOn (plS v (find v id) (sd v k 1)) k ∧ Md kd r M9 m w t ch ea fl sv bf tn he en ln wr dg (plS v (find v id) (sd v k 1)) b4 sa pa fr th bs tx li lf to) ∨ (¬ vdTakeOff v k id = 0 ∧ x = 0 ∧ Md kd r M9 m w (fcI 5 (vdTakeOff v k id)) ch ea fl sv bf tn he en ln wr dg v b4 sa pa fr th bs tx li lf to)) ∧ Frm kd r M M9) nX) := by
  refine Ko_X12_unlades htr (fun X => ?_)
  obtain ⟨hMo, hw5, hw6, hw7, hw8, hw9, hw10, hw11, hw13, hw14, hw15, hw16, hw17, hw18, -⟩ := _root_.id hC
  have hF : Frm kd r M M := Frm.rf
  obtain ⟨hg1, hg2, hg3, hg4, hg5, hg6, hg7, hg8, hgL, hgS, -⟩ := _root_.id hG
  refine v_aload_n dX12_unlades_0 rfl rfl ?_
  refine v_iload_n dX12_unlades_1 rfl rfl ?_
  refine k_X12_106 dX12_unlades_2 rfl (r_isSledge htr hC hG k) hMo (Nat.le_of_ble_eq_true rfl) (by omega) (by omega) (Nat.le_of_ble_eq_true rfl) (fun r2 M9 h9 => ?_) (fun _ _ h9 => h9.elim)
  obtain ⟨rfl, e9⟩ := h9
  subst M9
  refine v_if_ne (tgt := 14) dX12_unlades_5 (by decide) (fun hq5 => ?_) (fun hq5 => ?_)
  · have hk9 := b_t hq5
    obtain ⟨k0, k1⟩ := hk9
    have k3 : k < 3 := by clear hgL; lia
    obtain ⟨u0, u1, u2, u3, u4, u5, u6, u7⟩ := hgS k k0 k1
    refine v_iload_n dX12_unlades_14 rfl rfl ?_
    refine v_if_ge (tgt := 24) dX12_unlades_15 (by decide) (fun hq15 => ?_) (fun hq15 => ?_)
    · have hf : ¬ find v id = -1 := fun z => by rw [z] at hq15; revert hq15; decide
      obtain ⟨p0, p1, -⟩ := find_in hg5 hf
      have p12 : find v id < 12 := by clear hgL hgS; lia
      obtain ⟨z1, z2, z3, z4, -⟩ := hgL _ p0 p1
      clear hgL hgS
      refine v_aload_n dX12_unlades_24 rfl rfl ?_
      refine gf_X12_16 dX12_unlades_25 rfl hMo ?_
      refine v_iload_n dX12_unlades_28 rfl rfl ?_
      refine v_iconst (v := 2) dX12_unlades_29 (by decide) ?_
      refine k_X12_96 dX12_unlades_30 rfl (r_in htr k 2) (Nat.le_of_ble_eq_true rfl) (by omega) (by omega) (Nat.le_of_ble_eq_true rfl) (fun r30 M9 h9 => ?_) (fun _ _ h9 => h9.elim)
      obtain ⟨rfl, e9⟩ := h9
      subst M9
      refine v_iald dX12_unlades_33 hw5 (by lia) (by lia) ?_
      refine v_if_gt (tgt := 55) dX12_unlades_34 (by decide) (fun h34 => ?_) (fun h34 => ?_)
      · refine v_aload_n dX12_unlades_55 rfl rfl ?_
        refine v_iconst (v := 3) dX12_unlades_56 (by decide) ?_
        refine k_X12_74 dX12_unlades_57 rfl (r_fail htr hC 3) hMo (Nat.le_of_ble_eq_true rfl) (by omega) (by omega) (Nat.le_of_ble_eq_true rfl) (fun r57 M9 h9 => ?_) (fun _ _ h9 => h9.elim)
        obtain ⟨rfl, hC, hF9⟩ := h9
        have hF := Frm.tr hF hF9
        exact v_iret dX12_unlades_60 rfl ⟨Or.inr ⟨(by rw [vdTakeOff_4 ⟨k0, k1⟩ hf (fun z => by first | exact absurd (by assumption) z.1 | exact absurd z.2 (by assumption))]; decide), rfl, (by rw [vdTakeOff_4 ⟨k0, k1⟩ hf (fun z => by first | exact absurd (by assumption) z.1 | exact absurd z.2 (by assumption))]; exact hC)⟩, hF⟩ (by omega) (by omega)
      · refine v_aload_n dX12_unlades_37 rfl rfl ?_
        refine gf_X12_16 dX12_unlades_38 rfl hMo ?_
        refine v_iload_n dX12_unlades_41 rfl rfl ?_
        refine v_bipush (v := (6)) dX12_unlades_42 (by decide) ?_
        refine k_X12_70 dX12_unlades_44 rfl (r_of htr (find v id) 6) (Nat.le_of_ble_eq_true rfl) (by omega) (by omega) (Nat.le_of_ble_eq_true rfl) (fun r44 M9 h9 => ?_) (fun _ _ h9 => h9.elim)
        obtain ⟨rfl, e9⟩ := h9
        subst M9
        refine v_iald dX12_unlades_47 hw5 (by lia) (by lia) ?_
        refine v_bipush (v := (10)) dX12_unlades_48 (by decide) ?_
        refine v_iload_n dX12_unlades_50 rfl rfl ?_
        refine v_iadd dX12_unlades_51 ?_
        refine v_icmp_eq (tgt := 61) dX12_unlades_52 (by decide) (fun h52 => ?_) (fun h52 => ?_)
        · have hv9 := vdTakeOff_z ⟨k0, k1⟩ hf ⟨(by assumption), (by first | assumption | exact Classical.not_not.mp (by assumption))⟩
          have hG9 := (Good_off hG hv9).2.2
          refine v_aload_n dX12_unlades_61 rfl rfl ?_
          refine gf_X12_16 dX12_unlades_62 rfl hMo ?_
          refine v_iload_n dX12_unlades_65 rfl rfl ?_
          refine v_bipush (v := (6)) dX12_unlades_66 (by decide) ?_
          refine k_X12_70 dX12_unlades_68 rfl (r_of htr (find v id) 6) (Nat.le_of_ble_eq_true rfl) (by omega) (by omega) (Nat.le_of_ble_eq_true rfl) (fun r68 M9 h9 => ?_) (fun _ _ h9 => h9.elim)
          obtain ⟨rfl, e9⟩ := h9
          subst M9
          refine v_aload_n dX12_unlades_71 rfl rfl ?_
          refine gf_X12_16 dX12_unlades_72 rfl hMo ?_
          refine v_iload_n dX12_unlades_75 rfl rfl ?_
          refine v_iconst (v := 1) dX12_unlades_76 (by decide) ?_
          refine k_X12_96 dX12_unlades_77 rfl (r_in htr k 1) (Nat.le_of_ble_eq_true rfl) (by omega) (by omega) (Nat.le_of_ble_eq_true rfl) (fun r77 M9 h9 => ?_) (fun _ _ h9 => h9.elim)
          obtain ⟨rfl, e9⟩ := h9
          subst M9
          refine v_iald dX12_unlades_80 hw5 (by lia) (by lia) ?_
          refine v_iast dX12_unlades_81 hw5 (by lia) (by lia) ?_
          refine V.md (Md.r5 hC) (Frm.tr hF (Frm.up (hC.kd_r5))) (fun M1 hC hF => ?_)
          obtain ⟨hMo, hw5, hw6, hw7, hw8, hw9, hw10, hw11, hw13, hw14, hw15, hw16, hw17, hw18, -⟩ := _root_.id hC
          refine v_aload_n dX12_unlades_82 rfl rfl ?_
          refine v_iload_n dX12_unlades_83 rfl rfl ?_
          refine k_X12_109 dX12_unlades_84 rfl (r_loadOn htr hC hG9 k) hMo (Nat.le_of_ble_eq_true rfl) (by omega) (by omega) (Nat.le_of_ble_eq_true rfl) (fun r84 M9 h9 => ?_) (fun _ _ h9 => h9.elim)
          obtain ⟨rfl, e9⟩ := h9
          subst M9
          exact v_iret dX12_unlades_87 rfl ⟨Or.inl ⟨hv9, rfl, hC⟩, hF⟩ (by omega) (by omega)
        · refine v_aload_n dX12_unlades_55 rfl rfl ?_
          refine v_iconst (v := 3) dX12_unlades_56 (by decide) ?_
          refine k_X12_74 dX12_unlades_57 rfl (r_fail htr hC 3) hMo (Nat.le_of_ble_eq_true rfl) (by omega) (by omega) (Nat.le_of_ble_eq_true rfl) (fun r57 M9 h9 => ?_) (fun _ _ h9 => h9.elim)
          obtain ⟨rfl, hC, hF9⟩ := h9
          have hF := Frm.tr hF hF9
          exact v_iret dX12_unlades_60 rfl ⟨Or.inr ⟨(by rw [vdTakeOff_4 ⟨k0, k1⟩ hf (fun z => by first | exact absurd (by assumption) z.1 | exact absurd z.2 (by assumption))]; decide), rfl, (by rw [vdTakeOff_4 ⟨k0, k1⟩ hf (fun z => by first | exact absurd (by assumption) z.1 | exact absurd z.2 (by assumption))]; exact hC)⟩, hF⟩ (by omega) (by omega)
    · refine v_aload_n dX12_unlades_18 rfl rfl ?_
      refine v_iconst (v := 2) dX12_unlades_19 (by decide) ?_
      refine k_X12_74 dX12_unlades_20 rfl (r_fail htr hC 2) hMo (Nat.le_of_ble_eq_true rfl) (by omega) (by omega) (Nat.le_of_ble_eq_true rfl) (fun r20 M9 h9 => ?_) (fun _ _ h9 => h9.elim)
      obtain ⟨rfl, hC, hF9⟩ := h9
      have hF := Frm.tr hF hF9
      exact v_iret dX12_unlades_23 rfl ⟨Or.inr ⟨(by rw [vdTakeOff_3 ⟨k0, k1⟩ (Classical.byContradiction (fun hf => by obtain ⟨p0, -⟩ := find_in hg5 hf; exact absurd p0 hq15))]; decide), rfl, (by rw [vdTakeOff_3 ⟨k0, k1⟩ (Classical.byContradiction (fun hf => by obtain ⟨p0, -⟩ := find_in hg5 hf; exact absurd p0 hq15))]; exact hC)⟩, hF⟩ (by omega) (by omega)
  · refine v_aload_n dX12_unlades_8 rfl rfl ?_
    refine v_iconst (v := 1) dX12_unlades_9 (by decide) ?_
    refine k_X12_74 dX12_unlades_10 rfl (r_fail htr hC 1) hMo (Nat.le_of_ble_eq_true rfl) (by omega) (by omega) (Nat.le_of_ble_eq_true rfl) (fun r10 M9 h9 => ?_) (fun _ _ h9 => h9.elim)
    obtain ⟨rfl, hC, hF9⟩ := h9
    have hF := Frm.tr hF hF9
    exact v_iret dX12_unlades_13 rfl ⟨Or.inr ⟨(by rw [vdTakeOff_1 (b_f hq5)]; decide), rfl, (by rw [vdTakeOff_1 (b_f hq5)]; exact hC)⟩, hF⟩ (by omega) (by omega)
theorem dX12_heats_0 : decode cX12_heats 0 = .ok (.iload_n 1, 1) := by decide +kernel
theorem dX12_heats_1 : decode cX12_heats 1 = .ok (.bipush (-30), 2) := by decide +kernel
theorem dX12_heats_3 : decode cX12_heats 3 = .ok (.bipush 10, 2) := by decide +kernel
theorem dX12_heats_5 : decode cX12_heats 5 = .ok (.invokestatic 66, 3) := by decide +kernel
theorem dX12_heats_8 : decode cX12_heats 8 = .ok (.ifCond .ne 9, 3) := by decide +kernel
theorem dX12_heats_11 : decode cX12_heats 11 = .ok (.aload_n 0, 1) := by decide +kernel
theorem dX12_heats_12 : decode cX12_heats 12 = .ok (.iconst 1, 1) := by decide +kernel
theorem dX12_heats_13 : decode cX12_heats 13 = .ok (.invokevirtual 74, 3) := by decide +kernel
theorem dX12_heats_16 : decode cX12_heats 16 = .ok (.ireturn, 1) := by decide +kernel
theorem dX12_heats_17 : decode cX12_heats 17 = .ok (.aload_n 0, 1) := by decide +kernel
theorem dX12_heats_18 : decode cX12_heats 18 = .ok (.getfield 16, 3) := by decide +kernel
theorem dX12_heats_21 : decode cX12_heats 21 = .ok (.iconst 1, 1) := by decide +kernel
theorem dX12_heats_22 : decode cX12_heats 22 = .ok (.iaload, 1) := by decide +kernel
theorem dX12_heats_23 : decode cX12_heats 23 = .ok (.istore_n 2, 1) := by decide +kernel
theorem dX12_heats_24 : decode cX12_heats 24 = .ok (.aload_n 0, 1) := by decide +kernel
theorem dX12_heats_25 : decode cX12_heats 25 = .ok (.getfield 16, 3) := by decide +kernel
theorem dX12_heats_28 : decode cX12_heats 28 = .ok (.iconst 1, 1) := by decide +kernel
theorem dX12_heats_29 : decode cX12_heats 29 = .ok (.iload_n 1, 1) := by decide +kernel
theorem dX12_heats_30 : decode cX12_heats 30 = .ok (.iastore, 1) := by decide +kernel
theorem dX12_heats_31 : decode cX12_heats 31 = .ok (.iload_n 2, 1) := by decide +kernel
theorem dX12_heats_32 : decode cX12_heats 32 = .ok (.ireturn, 1) := by decide +kernel
set_option maxRecDepth 100000 in
set_option maxHeartbeats 4000000 in
theorem r_heats {l : Launch} {g : Nat → Nat} {M : LH} (htr : l.stackTraces = false) {kd : Nat → Nat} {r m : Nat} {w : Nat → Nat} {t ch ea fl sv bf tn he en ln wr dg : Int32} {v b4 sa pa fr th bs tx li lf to : Int32 → Int32} (hC : Md kd r M m w t ch ea fl sv bf tn he en ln wr dg v b4 sa pa fr th bs tx li lf to) (hG : Good v) (n : Int32) : K_X12_heats l g 2 0 0 [.ref m, .int n] M (RI (fun x M9 => ((vdDeg n = 0 ∧ x = v 1 ∧ Md kd r M9 m w t ch ea fl sv bf tn he en ln wr dg (ui v 1 n) b4 sa pa fr th bs tx li lf to) ∨ (¬ vdDeg n = 0 ∧ x = 0 ∧ Md kd r M9 m w (fcI 8 (vdDeg n)) ch ea fl sv bf tn he en ln wr dg v b4 sa pa fr th bs tx li lf to)) ∧ Frm kd r M M9) nX) := by
  refine Ko_X12_heats htr (fun X => ?_)
  obtain ⟨hMo, hw5, hw6, hw7, hw8, hw9, hw10, hw11, hw13, hw14, hw15, hw16, hw17, hw18, -⟩ := _root_.id hC
  have hF : Frm kd r M M := Frm.rf
  obtain ⟨hg1, hg2, hg3, hg4, hg5, hg6, hg7, hg8, hgL, hgS, -⟩ := _root_.id hG
  clear hgL hgS
  refine v_iload_n dX12_heats_0 rfl rfl ?_
  refine v_bipush (v := (-30)) dX12_heats_1 (by decide) ?_
  refine v_bipush (v := (10)) dX12_heats_3 (by decide) ?_
  refine k_X12_66 dX12_heats_5 rfl (r_isIn htr n (-30) 10) (Nat.le_of_ble_eq_true rfl) (by omega) (by omega) (Nat.le_of_ble_eq_true rfl) (fun r5 M9 h9 => ?_) (fun _ _ h9 => h9.elim)
  obtain ⟨rfl, e9⟩ := h9
  subst M9
  refine v_if_ne (tgt := 17) dX12_heats_8 (by decide) (fun hq8 => ?_) (fun hq8 => ?_)
  · refine v_aload_n dX12_heats_17 rfl rfl ?_
    refine gf_X12_16 dX12_heats_18 rfl hMo ?_
    refine v_iconst (v := 1) dX12_heats_21 (by decide) ?_
    refine v_iald dX12_heats_22 hw5 (by lia) (by lia) ?_
    refine v_istore_2 dX12_heats_23 ?_
    refine v_aload_n dX12_heats_24 rfl rfl ?_
    refine gf_X12_16 dX12_heats_25 rfl hMo ?_
    refine v_iconst (v := 1) dX12_heats_28 (by decide) ?_
    refine v_iload_n dX12_heats_29 rfl rfl ?_
    refine v_iast dX12_heats_30 hw5 (by lia) (by lia) ?_
    refine V.md (Md.r5 hC) (Frm.tr hF (Frm.up (hC.kd_r5))) (fun M1 hC hF => ?_)
    obtain ⟨hMo, hw5, hw6, hw7, hw8, hw9, hw10, hw11, hw13, hw14, hw15, hw16, hw17, hw18, -⟩ := _root_.id hC
    refine v_iload_n dX12_heats_31 rfl rfl ?_
    exact v_iret dX12_heats_32 rfl ⟨Or.inl ⟨if_pos (b_t hq8), rfl, hC⟩, hF⟩ (by omega) (by omega)
  · refine v_aload_n dX12_heats_11 rfl rfl ?_
    refine v_iconst (v := 1) dX12_heats_12 (by decide) ?_
    refine k_X12_74 dX12_heats_13 rfl (r_fail htr hC 1) hMo (Nat.le_of_ble_eq_true rfl) (by omega) (by omega) (Nat.le_of_ble_eq_true rfl) (fun r13 M9 h9 => ?_) (fun _ _ h9 => h9.elim)
    obtain ⟨rfl, hC, hF9⟩ := h9
    have hF := Frm.tr hF hF9
    exact v_iret dX12_heats_16 rfl ⟨Or.inr ⟨(by unfold vdDeg; rw [if_neg (b_f hq8)]; decide), rfl, (by unfold vdDeg; rw [if_neg (b_f hq8)]; exact hC)⟩, hF⟩ (by omega) (by omega)
theorem dX12_thaws_0 : decode cX12_thaws 0 = .ok (.aload_n 0, 1) := by decide +kernel
theorem dX12_thaws_1 : decode cX12_thaws 1 = .ok (.getfield 16, 3) := by decide +kernel
theorem dX12_thaws_4 : decode cX12_thaws 4 = .ok (.iload_n 1, 1) := by decide +kernel
theorem dX12_thaws_5 : decode cX12_thaws 5 = .ok (.iconst 5, 1) := by decide +kernel
theorem dX12_thaws_6 : decode cX12_thaws 6 = .ok (.invokestatic 70, 3) := by decide +kernel
theorem dX12_thaws_9 : decode cX12_thaws 9 = .ok (.iaload, 1) := by decide +kernel
theorem dX12_thaws_10 : decode cX12_thaws 10 = .ok (.istore_n 2, 1) := by decide +kernel
theorem dX12_thaws_11 : decode cX12_thaws 11 = .ok (.aload_n 0, 1) := by decide +kernel
theorem dX12_thaws_12 : decode cX12_thaws 12 = .ok (.getfield 16, 3) := by decide +kernel
theorem dX12_thaws_15 : decode cX12_thaws 15 = .ok (.iconst 1, 1) := by decide +kernel
theorem dX12_thaws_16 : decode cX12_thaws 16 = .ok (.iaload, 1) := by decide +kernel
theorem dX12_thaws_17 : decode cX12_thaws 17 = .ok (.ifCond .le 26, 3) := by decide +kernel
theorem dX12_thaws_20 : decode cX12_thaws 20 = .ok (.iload_n 2, 1) := by decide +kernel
theorem dX12_thaws_21 : decode cX12_thaws 21 = .ok (.aload_n 0, 1) := by decide +kernel
theorem dX12_thaws_22 : decode cX12_thaws 22 = .ok (.getfield 16, 3) := by decide +kernel
theorem dX12_thaws_25 : decode cX12_thaws 25 = .ok (.iconst 1, 1) := by decide +kernel
theorem dX12_thaws_26 : decode cX12_thaws 26 = .ok (.iaload, 1) := by decide +kernel
theorem dX12_thaws_27 : decode cX12_thaws 27 = .ok (.if_icmp .le 14, 3) := by decide +kernel
theorem dX12_thaws_30 : decode cX12_thaws 30 = .ok (.iload_n 2, 1) := by decide +kernel
theorem dX12_thaws_31 : decode cX12_thaws 31 = .ok (.aload_n 0, 1) := by decide +kernel
theorem dX12_thaws_32 : decode cX12_thaws 32 = .ok (.getfield 16, 3) := by decide +kernel
theorem dX12_thaws_35 : decode cX12_thaws 35 = .ok (.iconst 1, 1) := by decide +kernel
theorem dX12_thaws_36 : decode cX12_thaws 36 = .ok (.iaload, 1) := by decide +kernel
theorem dX12_thaws_37 : decode cX12_thaws 37 = .ok (.isub, 1) := by decide +kernel
theorem dX12_thaws_38 : decode cX12_thaws 38 = .ok (.goto 4, 3) := by decide +kernel
theorem dX12_thaws_41 : decode cX12_thaws 41 = .ok (.iconst 0, 1) := by decide +kernel
theorem dX12_thaws_42 : decode cX12_thaws 42 = .ok (.istore_n 2, 1) := by decide +kernel
theorem dX12_thaws_43 : decode cX12_thaws 43 = .ok (.aload_n 0, 1) := by decide +kernel
theorem dX12_thaws_44 : decode cX12_thaws 44 = .ok (.getfield 16, 3) := by decide +kernel
theorem dX12_thaws_47 : decode cX12_thaws 47 = .ok (.iconst 1, 1) := by decide +kernel
theorem dX12_thaws_48 : decode cX12_thaws 48 = .ok (.iaload, 1) := by decide +kernel
theorem dX12_thaws_49 : decode cX12_thaws 49 = .ok (.ifCond .ge 24, 3) := by decide +kernel
theorem dX12_thaws_52 : decode cX12_thaws 52 = .ok (.iload_n 2, 1) := by decide +kernel
theorem dX12_thaws_53 : decode cX12_thaws 53 = .ok (.ifCond .le 20, 3) := by decide +kernel
theorem dX12_thaws_56 : decode cX12_thaws 56 = .ok (.iload_n 2, 1) := by decide +kernel
theorem dX12_thaws_57 : decode cX12_thaws 57 = .ok (.aload_n 0, 1) := by decide +kernel
theorem dX12_thaws_58 : decode cX12_thaws 58 = .ok (.getfield 16, 3) := by decide +kernel
theorem dX12_thaws_61 : decode cX12_thaws 61 = .ok (.iload_n 1, 1) := by decide +kernel
theorem dX12_thaws_62 : decode cX12_thaws 62 = .ok (.iconst 4, 1) := by decide +kernel
theorem dX12_thaws_63 : decode cX12_thaws 63 = .ok (.invokestatic 70, 3) := by decide +kernel
theorem dX12_thaws_66 : decode cX12_thaws 66 = .ok (.iaload, 1) := by decide +kernel
theorem dX12_thaws_67 : decode cX12_thaws 67 = .ok (.if_icmp .ge 6, 3) := by decide +kernel
theorem dX12_thaws_70 : decode cX12_thaws 70 = .ok (.iinc 2 1, 3) := by decide +kernel
theorem dX12_thaws_73 : decode cX12_thaws 73 = .ok (.aload_n 0, 1) := by decide +kernel
theorem dX12_thaws_74 : decode cX12_thaws 74 = .ok (.getfield 16, 3) := by decide +kernel
theorem dX12_thaws_77 : decode cX12_thaws 77 = .ok (.iload_n 1, 1) := by decide +kernel
theorem dX12_thaws_78 : decode cX12_thaws 78 = .ok (.iconst 5, 1) := by decide +kernel
theorem dX12_thaws_79 : decode cX12_thaws 79 = .ok (.invokestatic 70, 3) := by decide +kernel
theorem dX12_thaws_82 : decode cX12_thaws 82 = .ok (.iload_n 2, 1) := by decide +kernel
theorem dX12_thaws_83 : decode cX12_thaws 83 = .ok (.iastore, 1) := by decide +kernel
theorem dX12_thaws_84 : decode cX12_thaws 84 = .ok (.return_, 1) := by decide +kernel
set_option maxRecDepth 100000 in
set_option maxHeartbeats 4000000 in
theorem r_thaws {l : Launch} {g : Nat → Nat} {M : LH} (htr : l.stackTraces = false) {kd : Nat → Nat} {r m : Nat} {w : Nat → Nat} {t ch ea fl sv bf tn he en ln wr dg : Int32} {v b4 sa pa fr th bs tx li lf to : Int32 → Int32} (hC : Md kd r M m w t ch ea fl sv bf tn he en ln wr dg v b4 sa pa fr th bs tx li lf to) (hG : Good v) {p : Int32} (p0 : 0 ≤ p) (p1 : p < v 7) : K_X12_thaws l g 1 0 0 [.ref m, .int p] M (RV (fun M9 => Md kd r M9 m w t ch ea fl sv bf tn he en ln wr dg (thS v p) b4 sa pa fr th bs tx li lf to ∧ Frm kd r M M9) nX) := by
  refine Ko_X12_thaws htr (fun X => ?_)
  obtain ⟨hMo, hw5, hw6, hw7, hw8, hw9, hw10, hw11, hw13, hw14, hw15, hw16, hw17, hw18, -⟩ := _root_.id hC
  have hF : Frm kd r M M := Frm.rf
  obtain ⟨hg1, hg2, hg3, hg4, hg5, hg6, hg7, hg8, hgL, hgS, -⟩ := _root_.id hG
  have p12 : p < 12 := by clear hgL hgS; lia
  obtain ⟨z1, z2, z3, z4, z5, z6, z7, z8, z9, z10, -⟩ := hgL p p0 p1
  clear hgL hgS
  have fin : ∀ x, x = iceF (v 1) (lt v p 4) (lt v p 5) → V l g yX12_thaws cX12_thaws (none) [] 1 0 0 (RV (fun M9 => Md kd r M9 m w t ch ea fl sv bf tn he en ln wr dg (thS v p) b4 sa pa fr th bs tx li lf to ∧ Frm kd r M M9) nX) X M 0 0 73 [some (.ref m), some (.int p), some (.int x)] [] := by
    intro x hx
    refine v_aload_n dX12_thaws_73 rfl rfl ?_
    refine gf_X12_16 dX12_thaws_74 rfl hMo ?_
    refine v_iload_n dX12_thaws_77 rfl rfl ?_
    refine v_iconst (v := 5) dX12_thaws_78 (by decide) ?_
    refine k_X12_70 dX12_thaws_79 rfl (r_of htr p 5) (Nat.le_of_ble_eq_true rfl) (by omega) (by omega) (Nat.le_of_ble_eq_true rfl) (fun r79 M9 h9 => ?_) (fun _ _ h9 => h9.elim)
    obtain ⟨rfl, e9⟩ := h9
    subst M9
    refine v_iload_n dX12_thaws_82 rfl rfl ?_
    refine v_iast dX12_thaws_83 hw5 (by lia) (by lia) ?_
    refine V.md (Md.r5 hC) (Frm.tr hF (Frm.up (hC.kd_r5))) (fun M1 hC hF => ?_)
    obtain ⟨hMo, hw5, hw6, hw7, hw8, hw9, hw10, hw11, hw13, hw14, hw15, hw16, hw17, hw18, -⟩ := _root_.id hC
    rw [hx] at hC
    exact v_vret dX12_thaws_84 rfl ⟨hC, hF⟩ (by omega) (by omega)
  have mid : ∀ x, x = (if 0 < v 1 then (if v 1 < lt v p 5 then lt v p 5 - v 1 else 0) else lt v p 5) → V l g yX12_thaws cX12_thaws (none) [] 1 0 0 (RV (fun M9 => Md kd r M9 m w t ch ea fl sv bf tn he en ln wr dg (thS v p) b4 sa pa fr th bs tx li lf to ∧ Frm kd r M M9) nX) X M 0 0 43 [some (.ref m), some (.int p), some (.int x)] [] := by
    intro x hx
    refine v_aload_n dX12_thaws_43 rfl rfl ?_
    refine gf_X12_16 dX12_thaws_44 rfl hMo ?_
    refine v_iconst (v := 1) dX12_thaws_47 (by decide) ?_
    refine v_iald dX12_thaws_48 hw5 (by lia) (by lia) ?_
    refine v_if_ge (tgt := 73) dX12_thaws_49 (by decide) (fun h49 => ?_) (fun h49 => ?_)
    · refine fin _ ?_
      rw [hx]
      unfold iceF lt at *
      clear fin hC hF hMo hw5 hw6 hw7 hw8 hw9 hw10 hw11 hw13 hw14 hw15 hw16 hw17 hw18 hG
      (repeat split) <;> lia
    · refine v_iload_n dX12_thaws_52 rfl rfl ?_
      refine v_if_le (tgt := 73) dX12_thaws_53 (by decide) (fun h53 => ?_) (fun h53 => ?_)
      · refine fin _ ?_
        rw [hx]
        unfold iceF lt at *
        clear fin hC hF hMo hw5 hw6 hw7 hw8 hw9 hw10 hw11 hw13 hw14 hw15 hw16 hw17 hw18 hG
        (repeat split) <;> lia
      · refine v_iload_n dX12_thaws_56 rfl rfl ?_
        refine v_aload_n dX12_thaws_57 rfl rfl ?_
        refine gf_X12_16 dX12_thaws_58 rfl hMo ?_
        refine v_iload_n dX12_thaws_61 rfl rfl ?_
        refine v_iconst (v := 4) dX12_thaws_62 (by decide) ?_
        refine k_X12_70 dX12_thaws_63 rfl (r_of htr p 4) (Nat.le_of_ble_eq_true rfl) (by omega) (by omega) (Nat.le_of_ble_eq_true rfl) (fun r63 M9 h9 => ?_) (fun _ _ h9 => h9.elim)
        obtain ⟨rfl, e9⟩ := h9
        subst M9
        refine v_iald dX12_thaws_66 hw5 (by lia) (by lia) ?_
        refine v_icmp_ge (tgt := 73) dX12_thaws_67 (by decide) (fun h67 => ?_) (fun h67 => ?_)
        · refine fin _ ?_
          rw [hx]
          unfold iceF lt at *
          clear fin hC hF hMo hw5 hw6 hw7 hw8 hw9 hw10 hw11 hw13 hw14 hw15 hw16 hw17 hw18 hG
          (repeat split) <;> lia
        · refine v_iinc_2 dX12_thaws_70 rfl ?_
          refine fin _ ?_
          rw [hx]
          unfold iceF lt at *
          clear fin hC hF hMo hw5 hw6 hw7 hw8 hw9 hw10 hw11 hw13 hw14 hw15 hw16 hw17 hw18 hG
          (repeat split) <;> lia
  refine v_aload_n dX12_thaws_0 rfl rfl ?_
  refine gf_X12_16 dX12_thaws_1 rfl hMo ?_
  refine v_iload_n dX12_thaws_4 rfl rfl ?_
  refine v_iconst (v := 5) dX12_thaws_5 (by decide) ?_
  refine k_X12_70 dX12_thaws_6 rfl (r_of htr p 5) (Nat.le_of_ble_eq_true rfl) (by omega) (by omega) (Nat.le_of_ble_eq_true rfl) (fun r6 M9 h9 => ?_) (fun _ _ h9 => h9.elim)
  obtain ⟨rfl, e9⟩ := h9
  subst M9
  refine v_iald dX12_thaws_9 hw5 (by lia) (by lia) ?_
  refine v_istore_2 dX12_thaws_10 ?_
  refine v_aload_n dX12_thaws_11 rfl rfl ?_
  refine gf_X12_16 dX12_thaws_12 rfl hMo ?_
  refine v_iconst (v := 1) dX12_thaws_15 (by decide) ?_
  refine v_iald dX12_thaws_16 hw5 (by lia) (by lia) ?_
  refine v_if_le (tgt := 43) dX12_thaws_17 (by decide) (fun h17 => ?_) (fun h17 => ?_)
  · refine mid _ ?_
    unfold lt at *
    clear fin mid hC hF hMo hw5 hw6 hw7 hw8 hw9 hw10 hw11 hw13 hw14 hw15 hw16 hw17 hw18 hG
    (repeat split) <;> lia
  · refine v_iload_n dX12_thaws_20 rfl rfl ?_
    refine v_aload_n dX12_thaws_21 rfl rfl ?_
    refine gf_X12_16 dX12_thaws_22 rfl hMo ?_
    refine v_iconst (v := 1) dX12_thaws_25 (by decide) ?_
    refine v_iald dX12_thaws_26 hw5 (by lia) (by lia) ?_
    refine v_icmp_le (tgt := 41) dX12_thaws_27 (by decide) (fun h27 => ?_) (fun h27 => ?_)
    · refine v_iconst (v := 0) dX12_thaws_41 (by decide) ?_
      refine v_istore_2 dX12_thaws_42 ?_
      refine mid _ ?_
      unfold lt at *
      clear fin mid hC hF hMo hw5 hw6 hw7 hw8 hw9 hw10 hw11 hw13 hw14 hw15 hw16 hw17 hw18 hG
      (repeat split) <;> lia
    · refine v_iload_n dX12_thaws_30 rfl rfl ?_
      refine v_aload_n dX12_thaws_31 rfl rfl ?_
      refine gf_X12_16 dX12_thaws_32 rfl hMo ?_
      refine v_iconst (v := 1) dX12_thaws_35 (by decide) ?_
      refine v_iald dX12_thaws_36 hw5 (by lia) (by lia) ?_
      refine v_isub dX12_thaws_37 ?_
      refine v_goto (tgt := 42) dX12_thaws_38 (by decide) ?_
      refine v_istore_2 dX12_thaws_42 ?_
      refine mid _ ?_
      unfold lt at *
      clear fin mid hC hF hMo hw5 hw6 hw7 hw8 hw9 hw10 hw11 hw13 hw14 hw15 hw16 hw17 hw18 hG
      (repeat split) <;> lia

/-- the places of the first n letters that are in p -/
def wL (σ : Int32 → Int32) (p : Int32) : Nat → List Int32
  | 0 => []
  | n + 1 => if lt σ (nI n) 6 = p then wL σ p n ++ [nI n] else wL σ p n
theorem wL_1 {σ : Int32 → Int32} {p i : Int32} (h0 : 0 ≤ i) (h1 : i < 100) : wL σ p (i + 1).toNatClampNeg = if lt σ i 6 = p then wL σ p i.toNatClampNeg ++ [i] else wL σ p i.toNatClampNeg := by
  rw [(tc_i h0 h1).1]
  show (if lt σ (nI i.toNatClampNeg) 6 = p then _ ++ [nI i.toNatClampNeg] else _) = _
  rw [tc_nI h0]
theorem wL_len {σ : Int32 → Int32} {p : Int32} : ∀ n, (wL σ p n).length ≤ n := by
  intro n
  induction n with
  | zero => exact Nat.le_refl 0
  | succ n ih =>
    unfold wL
    split
    · rw [List.length_append]
      show _ + 1 ≤ _
      omega
    · omega
theorem wL_cnt {σ : Int32 → Int32} {p : Int32} : ∀ n, nI (wL σ p n).length = sumN (fun i => if lt σ i 6 = p then 1 else 0) n := by
  intro n
  induction n with
  | zero => rfl
  | succ n ih =>
    show nI (if lt σ (nI n) 6 = p then wL σ p n ++ [nI n] else wL σ p n).length = sumN _ n + (if lt σ (nI n) 6 = p then 1 else 0)
    rw [← ih]
    split
    · rw [List.length_append]
      exact (nI_1 _).symm
    · exact (Int32.add_zero _).symm
theorem wL_in {σ : Int32 → Int32} {p : Int32} : ∀ n, ∀ x ∈ wL σ p n, ∃ i, i < n ∧ x = nI i ∧ lt σ x 6 = p := by
  intro n
  induction n with
  | zero => exact fun x h => absurd h List.not_mem_nil
  | succ n ih =>
    intro x h
    unfold wL at h
    split at h
    · rename_i hp
      rcases List.mem_append.mp h with q | q
      · obtain ⟨i, i1, i2, i3⟩ := ih x q
        exact ⟨i, by omega, i2, i3⟩
      · rw [List.mem_singleton.mp q]
        exact ⟨n, by omega, rfl, hp⟩
    · obtain ⟨i, i1, i2, i3⟩ := ih x h
      exact ⟨i, by omega, i2, i3⟩
/-- th tells a list -/
def Tl (th : Int32 → Int32) (l : List Int32) : Prop := ∀ j, j < l.length → th (nI j) = l.getD j 0
theorem dX12_waits_0 : decode cX12_waits 0 = .ok (.iconst 0, 1) := by decide +kernel
theorem dX12_waits_1 : decode cX12_waits 1 = .ok (.istore_n 2, 1) := by decide +kernel
theorem dX12_waits_2 : decode cX12_waits 2 = .ok (.iconst 0, 1) := by decide +kernel
theorem dX12_waits_3 : decode cX12_waits 3 = .ok (.istore_n 3, 1) := by decide +kernel
theorem dX12_waits_4 : decode cX12_waits 4 = .ok (.iload_n 3, 1) := by decide +kernel
theorem dX12_waits_5 : decode cX12_waits 5 = .ok (.aload_n 0, 1) := by decide +kernel
theorem dX12_waits_6 : decode cX12_waits 6 = .ok (.getfield 16, 3) := by decide +kernel
theorem dX12_waits_9 : decode cX12_waits 9 = .ok (.bipush 7, 2) := by decide +kernel
theorem dX12_waits_11 : decode cX12_waits 11 = .ok (.iaload, 1) := by decide +kernel
theorem dX12_waits_12 : decode cX12_waits 12 = .ok (.if_icmp .ge 37, 3) := by decide +kernel
theorem dX12_waits_15 : decode cX12_waits 15 = .ok (.aload_n 0, 1) := by decide +kernel
theorem dX12_waits_16 : decode cX12_waits 16 = .ok (.getfield 16, 3) := by decide +kernel
theorem dX12_waits_19 : decode cX12_waits 19 = .ok (.iload_n 3, 1) := by decide +kernel
theorem dX12_waits_20 : decode cX12_waits 20 = .ok (.bipush 6, 2) := by decide +kernel
theorem dX12_waits_22 : decode cX12_waits 22 = .ok (.invokestatic 70, 3) := by decide +kernel
theorem dX12_waits_25 : decode cX12_waits 25 = .ok (.iaload, 1) := by decide +kernel
theorem dX12_waits_26 : decode cX12_waits 26 = .ok (.iload_n 1, 1) := by decide +kernel
theorem dX12_waits_27 : decode cX12_waits 27 = .ok (.if_icmp .eq 6, 3) := by decide +kernel
theorem dX12_waits_30 : decode cX12_waits 30 = .ok (.goto 13, 3) := by decide +kernel
theorem dX12_waits_33 : decode cX12_waits 33 = .ok (.aload_n 0, 1) := by decide +kernel
theorem dX12_waits_34 : decode cX12_waits 34 = .ok (.getfield 32, 3) := by decide +kernel
theorem dX12_waits_37 : decode cX12_waits 37 = .ok (.iload_n 2, 1) := by decide +kernel
theorem dX12_waits_38 : decode cX12_waits 38 = .ok (.iload_n 3, 1) := by decide +kernel
theorem dX12_waits_39 : decode cX12_waits 39 = .ok (.iastore, 1) := by decide +kernel
theorem dX12_waits_40 : decode cX12_waits 40 = .ok (.iinc 2 1, 3) := by decide +kernel
theorem dX12_waits_43 : decode cX12_waits 43 = .ok (.iinc 3 1, 3) := by decide +kernel
theorem dX12_waits_46 : decode cX12_waits 46 = .ok (.goto (-42), 3) := by decide +kernel
theorem dX12_waits_49 : decode cX12_waits 49 = .ok (.iload_n 2, 1) := by decide +kernel
theorem dX12_waits_50 : decode cX12_waits 50 = .ok (.ireturn, 1) := by decide +kernel
set_option maxRecDepth 100000 in
set_option maxHeartbeats 4000000 in
theorem r_waits {l : Launch} {g : Nat → Nat} {M : LH} (htr : l.stackTraces = false) {kd : Nat → Nat} {r m : Nat} {w : Nat → Nat} {t ch ea fl sv bf tn he en ln wr dg : Int32} {v b4 sa pa fr th bs tx li lf to : Int32 → Int32} (hC : Md kd r M m w t ch ea fl sv bf tn he en ln wr dg v b4 sa pa fr th bs tx li lf to) (hG : Good v) (p : Int32) : K_X12_waits l g 1 0 0 [.ref m, .int p] M (RI (fun x M9 => x = nI (wL v p (v 7).toNatClampNeg).length ∧ ∃ th', Tl th' (wL v p (v 7).toNatClampNeg) ∧ Md kd r M9 m w t ch ea fl sv bf tn he en ln wr dg v b4 sa pa fr th' bs tx li lf to ∧ Frm kd r M M9) nX) := by
  refine Ko_X12_waits htr (fun X => ?_)
  obtain ⟨hMo, hw5, hw6, hw7, hw8, hw9, hw10, hw11, hw13, hw14, hw15, hw16, hw17, hw18, -⟩ := _root_.id hC
  have hF : Frm kd r M M := Frm.rf
  obtain ⟨hg1, hg2, hg3, hg4, hg5, hg6, hg7, hg8, hgL, hgS, -⟩ := _root_.id hG
  clear hgL hgS
  have key : ∀ i, 0 ≤ i → i ≤ v 7 → ∀ (M1 : LH) (th' : Int32 → Int32), Tl th' (wL v p i.toNatClampNeg) → Md kd r M1 m w t ch ea fl sv bf tn he en ln wr dg v b4 sa pa fr th' bs tx li lf to → Frm kd r M M1 → V l g yX12_waits cX12_waits ((some .int)) [] 1 0 0 (RI (fun x M9 => x = nI (wL v p (v 7).toNatClampNeg).length ∧ ∃ th', Tl th' (wL v p (v 7).toNatClampNeg) ∧ Md kd r M9 m w t ch ea fl sv bf tn he en ln wr dg v b4 sa pa fr th' bs tx li lf to ∧ Frm kd r M M9) nX) X M1 0 0 4 [some (.ref m), some (.int p), some (.int (nI (wL v p i.toNatClampNeg).length)), some (.int i)] [] := by
    clear hC hMo hw5 hw6 hw7 hw8 hw9 hw10 hw11 hw13 hw14 hw15 hw16 hw17 hw18 hF
    refine up_ind _ (fun i h0 h1 ih M1 th' hT hC hF => ?_)
    obtain ⟨hMo, hw5, hw6, hw7, hw8, hw9, hw10, hw11, hw13, hw14, hw15, hw16, hw17, hw18, -⟩ := _root_.id hC
    have hlen := wL_len (σ := v) (p := p) i.toNatClampNeg
    refine v_iload_n dX12_waits_4 rfl rfl ?_
    refine v_aload_n dX12_waits_5 rfl rfl ?_
    refine gf_X12_16 dX12_waits_6 rfl hMo ?_
    refine v_bipush (v := (7)) dX12_waits_9 (by decide) ?_
    refine v_iald dX12_waits_11 hw5 (by decide) (by decide) ?_
    refine v_icmp_ge (tgt := 49) dX12_waits_12 (by decide) (fun h12 => ?_) (fun h12 => ?_)
    · have hi : i = v 7 := by clear ih hT hC hF hMo hw5 hw6 hw7 hw8 hw9 hw10 hw11 hw13 hw14 hw15 hw16 hw17 hw18; lia
      subst hi
      refine v_iload_n dX12_waits_49 rfl rfl ?_
      exact v_iret dX12_waits_50 rfl ⟨rfl, th', hT, hC, hF⟩ (by omega) (by omega)
    · have hi : i < v 7 := by clear ih hT hC hF hMo hw5 hw6 hw7 hw8 hw9 hw10 hw11 hw13 hw14 hw15 hw16 hw17 hw18; lia
      have hi12 : i < 12 := by clear ih hT hC hF hMo hw5 hw6 hw7 hw8 hw9 hw10 hw11 hw13 hw14 hw15 hw16 hw17 hw18; lia
      have hw := wL_1 (σ := v) (p := p) h0 (by clear ih hT hC hF hMo hw5 hw6 hw7 hw8 hw9 hw10 hw11 hw13 hw14 hw15 hw16 hw17 hw18; lia : i < 100)
      have hn12 : i.toNatClampNeg < 12 := by
        have := tc_lt h0 hi12
        have e12 : (12 : Int32).toNatClampNeg = 12 := rfl
        omega
      obtain ⟨b0, b1⟩ := nI12 (wL v p i.toNatClampNeg).length (by omega)
      refine v_aload_n dX12_waits_15 rfl rfl ?_
      refine gf_X12_16 dX12_waits_16 rfl hMo ?_
      refine v_iload_n dX12_waits_19 rfl rfl ?_
      refine v_bipush (v := (6)) dX12_waits_20 (by decide) ?_
      refine k_X12_70 dX12_waits_22 rfl (r_of htr i 6) (Nat.le_of_ble_eq_true rfl) (by omega) (by omega) (Nat.le_of_ble_eq_true rfl) (fun r22 M9 h9 => ?_) (fun _ _ h9 => h9.elim)
      obtain ⟨rfl, e9⟩ := h9
      subst M9
      refine v_iald dX12_waits_25 hw5 (by clear ih hT hC hF hMo hw5 hw6 hw7 hw8 hw9 hw10 hw11 hw13 hw14 hw15 hw16 hw17 hw18; lia) (by clear ih hT hC hF hMo hw5 hw6 hw7 hw8 hw9 hw10 hw11 hw13 hw14 hw15 hw16 hw17 hw18; lia) ?_
      refine v_iload_n dX12_waits_26 rfl rfl ?_
      refine v_icmp_eq (tgt := 33) dX12_waits_27 (by decide) (fun h27 => ?_) (fun h27 => ?_)
      · refine v_aload_n dX12_waits_33 rfl rfl ?_
        refine gf_X12_32 dX12_waits_34 rfl hMo ?_
        refine v_iload_n dX12_waits_37 rfl rfl ?_
        refine v_iload_n dX12_waits_38 rfl rfl ?_
        refine v_iast dX12_waits_39 hw10 b0 b1 ?_
        refine V.md (Md.r10 hC) (Frm.tr hF (Frm.up (hC.kd_r10))) (fun M1 hC hF => ?_)
        obtain ⟨hMo, hw5, hw6, hw7, hw8, hw9, hw10, hw11, hw13, hw14, hw15, hw16, hw17, hw18, -⟩ := _root_.id hC
        refine v_iinc_2 dX12_waits_40 rfl ?_
        refine v_iinc_3 dX12_waits_43 rfl ?_
        refine v_goto (tgt := 4) dX12_waits_46 (by decide) ?_
        first
          | (rw [if_pos (by assumption)] at hw
             have ih2 := ih hi M1 _ (by
               rw [hw]
               intro j hj
               rw [List.length_append] at hj
               by_cases e : j = (wL v p i.toNatClampNeg).length
               · rw [e, ui_s, List.getD_eq_getElem?_getD, List.getElem?_append_right (Nat.le_refl _), Nat.sub_self]
                 rfl
               · have hj2 : j < (wL v p i.toNatClampNeg).length := by
                   have : ([i] : List Int32).length = 1 := rfl
                   omega
                 rw [ui_n (nI_ne j (by omega) _ (by omega) e), hT j hj2, List.getD_eq_getElem?_getD, List.getD_eq_getElem?_getD, List.getElem?_append_left hj2]) hC hF
             rw [hw, List.length_append, show ([i] : List Int32).length = 1 from rfl, ← nI_1] at ih2
             exact ih2)
          | (rw [if_neg (by assumption)] at hw
             have ih2 := ih hi M1 th' (by rw [hw]; exact hT) hC hF
             rw [hw] at ih2
             exact ih2)
      · refine v_goto (tgt := 43) dX12_waits_30 (by decide) ?_
        refine v_iinc_3 dX12_waits_43 rfl ?_
        refine v_goto (tgt := 4) dX12_waits_46 (by decide) ?_
        first
          | (rw [if_pos (by assumption)] at hw
             have ih2 := ih hi M1 _ (by
               rw [hw]
               intro j hj
               rw [List.length_append] at hj
               by_cases e : j = (wL v p i.toNatClampNeg).length
               · rw [e, ui_s, List.getD_eq_getElem?_getD, List.getElem?_append_right (Nat.le_refl _), Nat.sub_self]
                 rfl
               · have hj2 : j < (wL v p i.toNatClampNeg).length := by
                   have : ([i] : List Int32).length = 1 := rfl
                   omega
                 rw [ui_n (nI_ne j (by omega) _ (by omega) e), hT j hj2, List.getD_eq_getElem?_getD, List.getD_eq_getElem?_getD, List.getElem?_append_left hj2]) hC hF
             rw [hw, List.length_append, show ([i] : List Int32).length = 1 from rfl, ← nI_1] at ih2
             exact ih2)
          | (rw [if_neg (by assumption)] at hw
             have ih2 := ih hi M1 th' (by rw [hw]; exact hT) hC hF
             rw [hw] at ih2
             exact ih2)
  refine v_iconst (v := 0) dX12_waits_0 (by decide) ?_
  refine v_istore_2 dX12_waits_1 ?_
  refine v_iconst (v := 0) dX12_waits_2 (by decide) ?_
  refine v_istore_3 dX12_waits_3 ?_
  exact key 0 (by lia) hg5 M th (fun j hj => absurd hj (by show ¬ j < 0; omega)) hC hF

