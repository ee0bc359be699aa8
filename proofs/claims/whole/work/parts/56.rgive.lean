/-! ===== the reference: an hour ===== -/
theorem dX12_gives_0 : decode cX12_gives 0 = .ok (.iconst 0, 1) := by decide +kernel
theorem dX12_gives_1 : decode cX12_gives 1 = .ok (.istore_n 2, 1) := by decide +kernel
theorem dX12_gives_2 : decode cX12_gives 2 = .ok (.aload_n 0, 1) := by decide +kernel
theorem dX12_gives_3 : decode cX12_gives 3 = .ok (.getfield 16, 3) := by decide +kernel
theorem dX12_gives_6 : decode cX12_gives 6 = .ok (.bipush 7, 2) := by decide +kernel
theorem dX12_gives_8 : decode cX12_gives 8 = .ok (.iaload, 1) := by decide +kernel
theorem dX12_gives_9 : decode cX12_gives 9 = .ok (.iconst 1, 1) := by decide +kernel
theorem dX12_gives_10 : decode cX12_gives 10 = .ok (.isub, 1) := by decide +kernel
theorem dX12_gives_11 : decode cX12_gives 11 = .ok (.istore_n 3, 1) := by decide +kernel
theorem dX12_gives_12 : decode cX12_gives 12 = .ok (.iload_n 3, 1) := by decide +kernel
theorem dX12_gives_13 : decode cX12_gives 13 = .ok (.ifCond .lt 167, 3) := by decide +kernel
theorem dX12_gives_16 : decode cX12_gives 16 = .ok (.aload_n 0, 1) := by decide +kernel
theorem dX12_gives_17 : decode cX12_gives 17 = .ok (.getfield 16, 3) := by decide +kernel
theorem dX12_gives_20 : decode cX12_gives 20 = .ok (.iload_n 3, 1) := by decide +kernel
theorem dX12_gives_21 : decode cX12_gives 21 = .ok (.bipush 6, 2) := by decide +kernel
theorem dX12_gives_23 : decode cX12_gives 23 = .ok (.invokestatic 70, 3) := by decide +kernel
theorem dX12_gives_26 : decode cX12_gives 26 = .ok (.iaload, 1) := by decide +kernel
theorem dX12_gives_27 : decode cX12_gives 27 = .ok (.bipush 10, 2) := by decide +kernel
theorem dX12_gives_29 : decode cX12_gives 29 = .ok (.iload_n 1, 1) := by decide +kernel
theorem dX12_gives_30 : decode cX12_gives 30 = .ok (.iadd, 1) := by decide +kernel
theorem dX12_gives_31 : decode cX12_gives 31 = .ok (.if_icmp .ne 143, 3) := by decide +kernel
theorem dX12_gives_34 : decode cX12_gives 34 = .ok (.aload_n 0, 1) := by decide +kernel
theorem dX12_gives_35 : decode cX12_gives 35 = .ok (.getfield 16, 3) := by decide +kernel
theorem dX12_gives_38 : decode cX12_gives 38 = .ok (.iload_n 3, 1) := by decide +kernel
theorem dX12_gives_39 : decode cX12_gives 39 = .ok (.iconst 1, 1) := by decide +kernel
theorem dX12_gives_40 : decode cX12_gives 40 = .ok (.invokestatic 70, 3) := by decide +kernel
theorem dX12_gives_43 : decode cX12_gives 43 = .ok (.iaload, 1) := by decide +kernel
theorem dX12_gives_44 : decode cX12_gives 44 = .ok (.aload_n 0, 1) := by decide +kernel
theorem dX12_gives_45 : decode cX12_gives 45 = .ok (.getfield 16, 3) := by decide +kernel
theorem dX12_gives_48 : decode cX12_gives 48 = .ok (.iload_n 1, 1) := by decide +kernel
theorem dX12_gives_49 : decode cX12_gives 49 = .ok (.iconst 1, 1) := by decide +kernel
theorem dX12_gives_50 : decode cX12_gives 50 = .ok (.invokestatic 96, 3) := by decide +kernel
theorem dX12_gives_53 : decode cX12_gives 53 = .ok (.iaload, 1) := by decide +kernel
theorem dX12_gives_54 : decode cX12_gives 54 = .ok (.if_icmp .eq 6, 3) := by decide +kernel
theorem dX12_gives_57 : decode cX12_gives 57 = .ok (.goto 117, 3) := by decide +kernel
theorem dX12_gives_60 : decode cX12_gives 60 = .ok (.aload_n 0, 1) := by decide +kernel
theorem dX12_gives_61 : decode cX12_gives 61 = .ok (.getfield 16, 3) := by decide +kernel
theorem dX12_gives_64 : decode cX12_gives 64 = .ok (.iconst 2, 1) := by decide +kernel
theorem dX12_gives_65 : decode cX12_gives 65 = .ok (.dup2, 1) := by decide +kernel
theorem dX12_gives_66 : decode cX12_gives 66 = .ok (.iaload, 1) := by decide +kernel
theorem dX12_gives_67 : decode cX12_gives 67 = .ok (.aload_n 0, 1) := by decide +kernel
theorem dX12_gives_68 : decode cX12_gives 68 = .ok (.getfield 16, 3) := by decide +kernel
theorem dX12_gives_71 : decode cX12_gives 71 = .ok (.iload_n 3, 1) := by decide +kernel
theorem dX12_gives_72 : decode cX12_gives 72 = .ok (.iconst 5, 1) := by decide +kernel
theorem dX12_gives_73 : decode cX12_gives 73 = .ok (.invokestatic 70, 3) := by decide +kernel
theorem dX12_gives_76 : decode cX12_gives 76 = .ok (.iaload, 1) := by decide +kernel
theorem dX12_gives_77 : decode cX12_gives 77 = .ok (.ifCond .ne 18, 3) := by decide +kernel
theorem dX12_gives_80 : decode cX12_gives 80 = .ok (.aload_n 0, 1) := by decide +kernel
theorem dX12_gives_81 : decode cX12_gives 81 = .ok (.getfield 16, 3) := by decide +kernel
theorem dX12_gives_84 : decode cX12_gives 84 = .ok (.iload_n 3, 1) := by decide +kernel
theorem dX12_gives_85 : decode cX12_gives 85 = .ok (.iconst 3, 1) := by decide +kernel
theorem dX12_gives_86 : decode cX12_gives 86 = .ok (.invokestatic 70, 3) := by decide +kernel
theorem dX12_gives_89 : decode cX12_gives 89 = .ok (.iaload, 1) := by decide +kernel
theorem dX12_gives_90 : decode cX12_gives 90 = .ok (.iconst 2, 1) := by decide +kernel
theorem dX12_gives_91 : decode cX12_gives 91 = .ok (.idiv, 1) := by decide +kernel
theorem dX12_gives_92 : decode cX12_gives 92 = .ok (.goto 13, 3) := by decide +kernel
theorem dX12_gives_95 : decode cX12_gives 95 = .ok (.aload_n 0, 1) := by decide +kernel
theorem dX12_gives_96 : decode cX12_gives 96 = .ok (.getfield 16, 3) := by decide +kernel
theorem dX12_gives_99 : decode cX12_gives 99 = .ok (.iload_n 3, 1) := by decide +kernel
theorem dX12_gives_100 : decode cX12_gives 100 = .ok (.iconst 3, 1) := by decide +kernel
theorem dX12_gives_101 : decode cX12_gives 101 = .ok (.invokestatic 70, 3) := by decide +kernel
theorem dX12_gives_104 : decode cX12_gives 104 = .ok (.iaload, 1) := by decide +kernel
theorem dX12_gives_105 : decode cX12_gives 105 = .ok (.iadd, 1) := by decide +kernel
theorem dX12_gives_106 : decode cX12_gives 106 = .ok (.iastore, 1) := by decide +kernel
theorem dX12_gives_107 : decode cX12_gives 107 = .ok (.iload_n 3, 1) := by decide +kernel
theorem dX12_gives_108 : decode cX12_gives 108 = .ok (.iconst 0, 1) := by decide +kernel
theorem dX12_gives_109 : decode cX12_gives 109 = .ok (.invokestatic 70, 3) := by decide +kernel
theorem dX12_gives_112 : decode cX12_gives 112 = .ok (.istore 4, 2) := by decide +kernel
theorem dX12_gives_114 : decode cX12_gives 114 = .ok (.iload 4, 2) := by decide +kernel
theorem dX12_gives_116 : decode cX12_gives 116 = .ok (.sipush 150, 3) := by decide +kernel
theorem dX12_gives_119 : decode cX12_gives 119 = .ok (.if_icmp .ge 41, 3) := by decide +kernel
theorem dX12_gives_122 : decode cX12_gives 122 = .ok (.aload_n 0, 1) := by decide +kernel
theorem dX12_gives_123 : decode cX12_gives 123 = .ok (.getfield 16, 3) := by decide +kernel
theorem dX12_gives_126 : decode cX12_gives 126 = .ok (.iload 4, 2) := by decide +kernel
theorem dX12_gives_128 : decode cX12_gives 128 = .ok (.iload 4, 2) := by decide +kernel
theorem dX12_gives_130 : decode cX12_gives 130 = .ok (.bipush 7, 2) := by decide +kernel
theorem dX12_gives_132 : decode cX12_gives 132 = .ok (.iadd, 1) := by decide +kernel
theorem dX12_gives_133 : decode cX12_gives 133 = .ok (.sipush 150, 3) := by decide +kernel
theorem dX12_gives_136 : decode cX12_gives 136 = .ok (.if_icmp .ge 16, 3) := by decide +kernel
theorem dX12_gives_139 : decode cX12_gives 139 = .ok (.aload_n 0, 1) := by decide +kernel
theorem dX12_gives_140 : decode cX12_gives 140 = .ok (.getfield 16, 3) := by decide +kernel
theorem dX12_gives_143 : decode cX12_gives 143 = .ok (.iload 4, 2) := by decide +kernel
theorem dX12_gives_145 : decode cX12_gives 145 = .ok (.bipush 7, 2) := by decide +kernel
theorem dX12_gives_147 : decode cX12_gives 147 = .ok (.iadd, 1) := by decide +kernel
theorem dX12_gives_148 : decode cX12_gives 148 = .ok (.iaload, 1) := by decide +kernel
theorem dX12_gives_149 : decode cX12_gives 149 = .ok (.goto 4, 3) := by decide +kernel
theorem dX12_gives_152 : decode cX12_gives 152 = .ok (.iconst 0, 1) := by decide +kernel
theorem dX12_gives_153 : decode cX12_gives 153 = .ok (.iastore, 1) := by decide +kernel
theorem dX12_gives_154 : decode cX12_gives 154 = .ok (.iinc 4 1, 3) := by decide +kernel
theorem dX12_gives_157 : decode cX12_gives 157 = .ok (.goto (-43), 3) := by decide +kernel
theorem dX12_gives_160 : decode cX12_gives 160 = .ok (.aload_n 0, 1) := by decide +kernel
theorem dX12_gives_161 : decode cX12_gives 161 = .ok (.getfield 16, 3) := by decide +kernel
theorem dX12_gives_164 : decode cX12_gives 164 = .ok (.bipush 7, 2) := by decide +kernel
theorem dX12_gives_166 : decode cX12_gives 166 = .ok (.dup2, 1) := by decide +kernel
theorem dX12_gives_167 : decode cX12_gives 167 = .ok (.iaload, 1) := by decide +kernel
theorem dX12_gives_168 : decode cX12_gives 168 = .ok (.iconst 1, 1) := by decide +kernel
theorem dX12_gives_169 : decode cX12_gives 169 = .ok (.isub, 1) := by decide +kernel
theorem dX12_gives_170 : decode cX12_gives 170 = .ok (.iastore, 1) := by decide +kernel
theorem dX12_gives_171 : decode cX12_gives 171 = .ok (.iinc 2 1, 3) := by decide +kernel
theorem dX12_gives_174 : decode cX12_gives 174 = .ok (.iinc 3 (-1), 3) := by decide +kernel
theorem dX12_gives_177 : decode cX12_gives 177 = .ok (.goto (-165), 3) := by decide +kernel
theorem dX12_gives_180 : decode cX12_gives 180 = .ok (.aload_n 0, 1) := by decide +kernel
theorem dX12_gives_181 : decode cX12_gives 181 = .ok (.getfield 16, 3) := by decide +kernel
theorem dX12_gives_184 : decode cX12_gives 184 = .ok (.iconst 3, 1) := by decide +kernel
theorem dX12_gives_185 : decode cX12_gives 185 = .ok (.dup2, 1) := by decide +kernel
theorem dX12_gives_186 : decode cX12_gives 186 = .ok (.iaload, 1) := by decide +kernel
theorem dX12_gives_187 : decode cX12_gives 187 = .ok (.iload_n 2, 1) := by decide +kernel
theorem dX12_gives_188 : decode cX12_gives 188 = .ok (.iadd, 1) := by decide +kernel
theorem dX12_gives_189 : decode cX12_gives 189 = .ok (.iastore, 1) := by decide +kernel
theorem dX12_gives_190 : decode cX12_gives 190 = .ok (.iload_n 2, 1) := by decide +kernel
theorem dX12_gives_191 : decode cX12_gives 191 = .ok (.ireturn, 1) := by decide +kernel
set_option maxRecDepth 100000 in
set_option maxHeartbeats 4000000 in
theorem r_gives {l : Launch} {g : Nat → Nat} {M : LH} (htr : l.stackTraces = false) {kd : Nat → Nat} {r m : Nat} {w : Nat → Nat} {t ch ea fl sv bf tn he en ln wr dg : Int32} {v b4 sa pa fr th bs tx li lf to : Int32 → Int32} (hC : Md kd r M m w t ch ea fl sv bf tn he en ln wr dg v b4 sa pa fr th bs tx li lf to) (hG : Good v) {k : Int32} (k0 : 0 ≤ k) (k3 : k < 3) : K_X12_gives l g 1 0 0 [.ref m, .int k] M (RI (fun x M9 => x = (gvN v k (v 7).toNatClampNeg) 3 - v 3 ∧ Md kd r M9 m w t ch ea fl sv bf tn he en ln wr dg (gvN v k (v 7).toNatClampNeg) b4 sa pa fr th bs tx li lf to ∧ Frm kd r M M9) nX) := by
  refine Ko_X12_gives htr (fun X => ?_)
  obtain ⟨hMo, hw5, hw6, hw7, hw8, hw9, hw10, hw11, hw13, hw14, hw15, hw16, hw17, hw18, -⟩ := _root_.id hC
  have hF : Frm kd r M M := Frm.rf
  obtain ⟨hg1, hg2, hg3, hg4, hg5, hg6, hg7, hg8, hgL, hgS, -⟩ := _root_.id hG
  clear hgL hgS
  have hN12 : (v 7).toNatClampNeg ≤ 12 := tc_le hg6
  generalize hT : (gvN v k (v 7).toNatClampNeg) = T
  have key : ∀ n : Nat, n ≤ 12 → ∀ (τ : Int32 → Int32) (x : Int32) (M1 : LH) (z4 : Option Value), x.toInt = (n : Int) - 1 → gvN τ k n = T → Md kd r M1 m w t ch ea fl sv bf tn he en ln wr dg (ui τ 3 (v 3)) b4 sa pa fr th bs tx li lf to → Frm kd r M M1 → V l g yX12_gives cX12_gives ((some .int)) [] 1 0 0 (RI (fun x M9 => x = T 3 - v 3 ∧ Md kd r M9 m w t ch ea fl sv bf tn he en ln wr dg T b4 sa pa fr th bs tx li lf to ∧ Frm kd r M M9) nX) X M1 0 0 12 [some (.ref m), some (.int k), some (.int (τ 3 - v 3)), some (.int x), z4] [] := by
    clear hC hF hMo hw5 hw6 hw7 hw8 hw9 hw10 hw11 hw13 hw14 hw15 hw16 hw17 hw18
    intro n
    induction n with
    | zero =>
      intro _ τ x M1 z4 hx hg hC hF
      obtain ⟨hMo, hw5, hw6, hw7, hw8, hw9, hw10, hw11, hw13, hw14, hw15, hw16, hw17, hw18, -⟩ := _root_.id hC
      have hx0 : x < 0 := by rw [i_lt, i_0, hx]; decide
      clear hx
      have hg' : τ = T := hg
      subst hg'
      refine v_iload_n dX12_gives_12 rfl rfl ?_
      refine v_if_lt (tgt := 180) dX12_gives_13 (by decide) (fun h13 => ?_) (fun h13 => ?_)
      · refine v_aload_n dX12_gives_180 rfl rfl ?_
        refine gf_X12_16 dX12_gives_181 rfl hMo ?_
        refine v_iconst (v := 3) dX12_gives_184 (by decide) ?_
        refine v_dup2 dX12_gives_185 rfl rfl ?_
        refine v_iald dX12_gives_186 hw5 (by lia) (by lia) ?_
        refine v_iload_n dX12_gives_187 rfl rfl ?_
        refine v_iadd dX12_gives_188 ?_
        refine v_iast dX12_gives_189 hw5 (by decide) (by decide) ?_
        refine V.md (Md.r5 hC) (Frm.tr hF (Frm.up (hC.kd_r5))) (fun M1 hC hF => ?_)
        obtain ⟨hMo, hw5, hw6, hw7, hw8, hw9, hw10, hw11, hw13, hw14, hw15, hw16, hw17, hw18, -⟩ := _root_.id hC
        rw [ui_s, gv_end] at hC
        refine v_iload_n dX12_gives_190 rfl rfl ?_
        exact v_iret dX12_gives_191 rfl ⟨rfl, hC, hF⟩ (by omega) (by omega)
      · exact absurd hx0 h13
    | succ n ih =>
      intro hn τ x M1 z4 hx hg hC hF
      obtain ⟨hMo, hw5, hw6, hw7, hw8, hw9, hw10, hw11, hw13, hw14, hw15, hw16, hw17, hw18, -⟩ := _root_.id hC
      have hn12 : n < 12 := by omega
      have hn13 : n ≤ 12 := by omega
      have hxn : x = nI n := by
        have e := nI_Int n hn12
        exact Int32.toInt_inj.mp (by rw [hx, e]; omega)
      clear hx
      subst hxn
      obtain ⟨p0, p2⟩ := nI12 n hn12
      have hx1 := m1_Int hn12
      have hE : ∀ j : Int32, ¬ j = 3 → ui τ 3 (v 3) j = τ j := fun j hj => ui_n hj
      have no : ∀ (z4 : Option Value), ¬ (lt τ (nI n) 6 = 10 + k ∧ lt τ (nI n) 1 = sd τ k 1) → V l g yX12_gives cX12_gives ((some .int)) [] 1 0 0 (RI (fun x M9 => x = T 3 - v 3 ∧ Md kd r M9 m w t ch ea fl sv bf tn he en ln wr dg T b4 sa pa fr th bs tx li lf to ∧ Frm kd r M M9) nX) X M1 0 0 174 [some (.ref m), some (.int k), some (.int (τ 3 - v 3)), some (.int (nI n)), z4] [] := by
        intro z4 hc
        rw [gv_no hc] at hg
        have ih2 := ih hn13 τ _ M1 z4 hx1 hg hC hF
        refine v_iinc_3 dX12_gives_174 rfl ?_
        refine v_goto (tgt := 12) dX12_gives_177 (by decide) ?_
        exact ih2
      have shift : lt τ (nI n) 6 = 10 + k ∧ lt τ (nI n) 1 = sd τ k 1 → ∀ x, 66 + 7 * nI n ≤ x → x ≤ 150 → ∀ (M1 : LH), Md kd r M1 m w t ch ea fl sv bf tn he en ln wr dg (rmN (ui (ui τ 3 (v 3)) 2 (τ 2 + gotN τ (nI n))) (nI n) x) b4 sa pa fr th bs tx li lf to → Frm kd r M M1 → V l g yX12_gives cX12_gives ((some .int)) [] 1 0 0 (RI (fun x M9 => x = T 3 - v 3 ∧ Md kd r M9 m w t ch ea fl sv bf tn he en ln wr dg T b4 sa pa fr th bs tx li lf to ∧ Frm kd r M M9) nX) X M1 0 0 114 [some (.ref m), some (.int k), some (.int (τ 3 - v 3)), some (.int (nI n)), some (.int x)] [] := by
        intro hc
        rw [gv_yes hc] at hg
        have fin := fun (M1 : LH) (z4 : Option Value) (h : Md kd r M1 m w t ch ea fl sv bf tn he en ln wr dg (ui (dlS τ (nI n)) 3 (v 3)) b4 sa pa fr th bs tx li lf to) => ih hn13 (dlS τ (nI n)) _ M1 z4 hx1 hg h
        rw [dlS_3] at fin
        clear ih no hg hc hC hF hMo hw5 hw6 hw7 hw8 hw9 hw10 hw11 hw13 hw14 hw15 hw16 hw17 hw18 hE
        intro x
        have key := up_ind (P := fun x => 66 + 7 * nI n ≤ x → ∀ (M1 : LH), Md kd r M1 m w t ch ea fl sv bf tn he en ln wr dg (rmN (ui (ui τ 3 (v 3)) 2 (τ 2 + gotN τ (nI n))) (nI n) x) b4 sa pa fr th bs tx li lf to → Frm kd r M M1 → V l g yX12_gives cX12_gives ((some .int)) [] 1 0 0 (RI (fun x M9 => x = T 3 - v 3 ∧ Md kd r M9 m w t ch ea fl sv bf tn he en ln wr dg T b4 sa pa fr th bs tx li lf to ∧ Frm kd r M M9) nX) X M1 0 0 114 [some (.ref m), some (.int k), some (.int (τ 3 - v 3)), some (.int (nI n)), some (.int x)] []) 150 (fun x h0 h1 jh hx M1 hC hF => ?_)
        · exact fun a b => key x (by clear fin key; lia) b a
        obtain ⟨hMo, hw5, hw6, hw7, hw8, hw9, hw10, hw11, hw13, hw14, hw15, hw16, hw17, hw18, -⟩ := _root_.id hC
        refine v_iload dX12_gives_114 rfl ?_
        refine v_sipush (v := (150)) dX12_gives_116 (by decide) ?_
        refine v_icmp_ge (tgt := 160) dX12_gives_119 (by decide) (fun h119 => ?_) (fun h119 => ?_)
        · have hi : x = 150 := by clear fin jh hC hF hMo hw5 hw6 hw7 hw8 hw9 hw10 hw11 hw13 hw14 hw15 hw16 hw17 hw18 hx1; lia
          subst hi
          clear hx
          refine v_aload_n dX12_gives_160 rfl rfl ?_
          refine gf_X12_16 dX12_gives_161 rfl hMo ?_
          refine v_bipush (v := (7)) dX12_gives_164 (by decide) ?_
          refine v_dup2 dX12_gives_166 rfl rfl ?_
          refine v_iald dX12_gives_167 hw5 (by decide) (by decide) ?_
          refine v_iconst (v := 1) dX12_gives_168 (by decide) ?_
          refine v_isub dX12_gives_169 ?_
          refine v_iast dX12_gives_170 hw5 (by decide) (by decide) ?_
          refine V.md (Md.r5 hC) (Frm.tr hF (Frm.up (hC.kd_r5))) (fun M1 hC hF => ?_)
          obtain ⟨hMo, hw5, hw6, hw7, hw8, hw9, hw10, hw11, hw13, hw14, hw15, hw16, hw17, hw18, -⟩ := _root_.id hC
          rw [rmN_e, show rmS (ui (ui τ 3 (v 3)) 2 (τ 2 + gotN τ (nI n))) (nI n) 7 = τ 7 from (if_neg (fun z => absurd z.1 (by clear fin jh hC hF hMo hw5 hw6 hw7 hw8 hw9 hw10 hw11 hw13 hw14 hw15 hw16 hw17 hw18; lia))).trans ((ui_n (by decide)).trans (ui_n (by decide))), gv_step p0 p2] at hC
          have e31 : τ 3 - v 3 + Int32.ofInt 1 = τ 3 + 1 - v 3 := by (rw [show Int32.ofInt 1 = 1 by decide]; clear fin jh hC hF hMo hw5 hw6 hw7 hw8 hw9 hw10 hw11 hw13 hw14 hw15 hw16 hw17 hw18; lia)
          refine v_iinc_2 dX12_gives_171 rfl ?_
          refine v_iinc_3 dX12_gives_174 rfl ?_
          refine v_goto (tgt := 12) dX12_gives_177 (by decide) ?_
          rw [e31]
          exact fin M1 _ hC hF
        · have hi : x < 150 := by clear fin jh hC hF hMo hw5 hw6 hw7 hw8 hw9 hw10 hw11 hw13 hw14 hw15 hw16 hw17 hw18 hx1; lia
          have hx2 : 66 + 7 * nI n ≤ x + 1 := by clear fin jh hC hF hMo hw5 hw6 hw7 hw8 hw9 hw10 hw11 hw13 hw14 hw15 hw16 hw17 hw18 hx1; lia
          refine v_aload_n dX12_gives_122 rfl rfl ?_
          refine gf_X12_16 dX12_gives_123 rfl hMo ?_
          refine v_iload dX12_gives_126 rfl ?_
          refine v_iload dX12_gives_128 rfl ?_
          refine v_bipush (v := (7)) dX12_gives_130 (by decide) ?_
          refine v_iadd dX12_gives_132 ?_
          refine v_sipush (v := (150)) dX12_gives_133 (by decide) ?_
          refine v_icmp_ge (tgt := 152) dX12_gives_136 (by decide) (fun h136 => ?_) (fun h136 => ?_)
          · refine v_iconst (v := 0) dX12_gives_152 (by decide) ?_
            refine v_iast dX12_gives_153 hw5 (by clear fin jh hC hF hMo hw5 hw6 hw7 hw8 hw9 hw10 hw11 hw13 hw14 hw15 hw16 hw17 hw18 hx1; lia) (by clear fin jh hC hF hMo hw5 hw6 hw7 hw8 hw9 hw10 hw11 hw13 hw14 hw15 hw16 hw17 hw18 hx1; lia) ?_
            refine V.md (Md.r5 hC) (Frm.tr hF (Frm.up (hC.kd_r5))) (fun M1 hC hF => ?_)
            obtain ⟨hMo, hw5, hw6, hw7, hw8, hw9, hw10, hw11, hw13, hw14, hw15, hw16, hw17, hw18, -⟩ := _root_.id hC
            refine v_iinc_4 dX12_gives_154 rfl ?_
            refine v_goto (tgt := 114) dX12_gives_157 (by decide) ?_
            first
              | (have hs := rmN_1 (σ := ui (ui τ 3 (v 3)) 2 (τ 2 + gotN τ (nI n))) hx hi p0 p2
                 rw [if_pos (Int32.not_le.mp h136)] at hs
                 rw [hs] at hC
                 exact jh hi hx2 M1 hC hF)
              | (have hs := rmN_1 (σ := ui (ui τ 3 (v 3)) 2 (τ 2 + gotN τ (nI n))) hx hi p0 p2
                 rw [if_neg (Int32.not_lt.mpr h136)] at hs
                 rw [hs] at hC
                 exact jh hi hx2 M1 hC hF)
          · refine v_aload_n dX12_gives_139 rfl rfl ?_
            refine gf_X12_16 dX12_gives_140 rfl hMo ?_
            refine v_iload dX12_gives_143 rfl ?_
            refine v_bipush (v := (7)) dX12_gives_145 (by decide) ?_
            refine v_iadd dX12_gives_147 ?_
            refine v_iald dX12_gives_148 hw5 (by clear fin jh hC hF hMo hw5 hw6 hw7 hw8 hw9 hw10 hw11 hw13 hw14 hw15 hw16 hw17 hw18 hx1; lia) (by clear fin jh hC hF hMo hw5 hw6 hw7 hw8 hw9 hw10 hw11 hw13 hw14 hw15 hw16 hw17 hw18 hx1; lia) ?_
            refine v_goto (tgt := 153) dX12_gives_149 (by decide) ?_
            refine v_iast dX12_gives_153 hw5 (by clear fin jh hC hF hMo hw5 hw6 hw7 hw8 hw9 hw10 hw11 hw13 hw14 hw15 hw16 hw17 hw18 hx1; lia) (by clear fin jh hC hF hMo hw5 hw6 hw7 hw8 hw9 hw10 hw11 hw13 hw14 hw15 hw16 hw17 hw18 hx1; lia) ?_
            refine V.md (Md.r5 hC) (Frm.tr hF (Frm.up (hC.kd_r5))) (fun M1 hC hF => ?_)
            obtain ⟨hMo, hw5, hw6, hw7, hw8, hw9, hw10, hw11, hw13, hw14, hw15, hw16, hw17, hw18, -⟩ := _root_.id hC
            refine v_iinc_4 dX12_gives_154 rfl ?_
            refine v_goto (tgt := 114) dX12_gives_157 (by decide) ?_
            first
              | (have hs := rmN_1 (σ := ui (ui τ 3 (v 3)) 2 (τ 2 + gotN τ (nI n))) hx hi p0 p2
                 rw [if_pos (Int32.not_le.mp h136)] at hs
                 rw [hs] at hC
                 exact jh hi hx2 M1 hC hF)
              | (have hs := rmN_1 (σ := ui (ui τ 3 (v 3)) 2 (τ 2 + gotN τ (nI n))) hx hi p0 p2
                 rw [if_neg (Int32.not_lt.mpr h136)] at hs
                 rw [hs] at hC
                 exact jh hi hx2 M1 hC hF)
      refine v_iload_n dX12_gives_12 rfl rfl ?_
      refine v_if_lt (tgt := 180) dX12_gives_13 (by decide) (fun h13 => ?_) (fun h13 => ?_)
      · exact absurd h13 (Int32.not_lt.mpr p0)
      · refine v_aload_n dX12_gives_16 rfl rfl ?_
        refine gf_X12_16 dX12_gives_17 rfl hMo ?_
        refine v_iload_n dX12_gives_20 rfl rfl ?_
        refine v_bipush (v := (6)) dX12_gives_21 (by decide) ?_
        refine k_X12_70 dX12_gives_23 rfl (r_of htr (nI n) 6) (Nat.le_of_ble_eq_true rfl) (by omega) (by omega) (Nat.le_of_ble_eq_true rfl) (fun r23 M9 h9 => ?_) (fun _ _ h9 => h9.elim)
        obtain ⟨rfl, e9⟩ := h9
        subst M9
        refine v_iald dX12_gives_26 hw5 (by clear ih no shift hC hF hMo hw5 hw6 hw7 hw8 hw9 hw10 hw11 hw13 hw14 hw15 hw16 hw17 hw18; lia) (by clear ih no shift hC hF hMo hw5 hw6 hw7 hw8 hw9 hw10 hw11 hw13 hw14 hw15 hw16 hw17 hw18; lia) ?_
        refine v_bipush (v := (10)) dX12_gives_27 (by decide) ?_
        refine v_iload_n dX12_gives_29 rfl rfl ?_
        refine v_iadd dX12_gives_30 ?_
        refine v_icmp_ne (tgt := 174) dX12_gives_31 (by decide) (fun h31 => ?_) (fun h31 => ?_)
        · refine no _ (fun z => ?_)
          first
            | exact absurd z.1 (by unfold lt; rw [← hE _ (by clear ih no shift; lia)]; assumption)
            | exact absurd z.2 (by unfold lt sd; rw [← hE _ (by clear ih no shift; lia), ← hE (57 + 3 * k + 1) (by clear ih no shift; lia)]; assumption)
        · refine v_aload_n dX12_gives_34 rfl rfl ?_
          refine gf_X12_16 dX12_gives_35 rfl hMo ?_
          refine v_iload_n dX12_gives_38 rfl rfl ?_
          refine v_iconst (v := 1) dX12_gives_39 (by decide) ?_
          refine k_X12_70 dX12_gives_40 rfl (r_of htr (nI n) 1) (Nat.le_of_ble_eq_true rfl) (by omega) (by omega) (Nat.le_of_ble_eq_true rfl) (fun r40 M9 h9 => ?_) (fun _ _ h9 => h9.elim)
          obtain ⟨rfl, e9⟩ := h9
          subst M9
          refine v_iald dX12_gives_43 hw5 (by clear ih no shift hC hF hMo hw5 hw6 hw7 hw8 hw9 hw10 hw11 hw13 hw14 hw15 hw16 hw17 hw18; lia) (by clear ih no shift hC hF hMo hw5 hw6 hw7 hw8 hw9 hw10 hw11 hw13 hw14 hw15 hw16 hw17 hw18; lia) ?_
          refine v_aload_n dX12_gives_44 rfl rfl ?_
          refine gf_X12_16 dX12_gives_45 rfl hMo ?_
          refine v_iload_n dX12_gives_48 rfl rfl ?_
          refine v_iconst (v := 1) dX12_gives_49 (by decide) ?_
          refine k_X12_96 dX12_gives_50 rfl (r_in htr k 1) (Nat.le_of_ble_eq_true rfl) (by omega) (by omega) (Nat.le_of_ble_eq_true rfl) (fun r50 M9 h9 => ?_) (fun _ _ h9 => h9.elim)
          obtain ⟨rfl, e9⟩ := h9
          subst M9
          refine v_iald dX12_gives_53 hw5 (by clear ih no shift hC hF hMo hw5 hw6 hw7 hw8 hw9 hw10 hw11 hw13 hw14 hw15 hw16 hw17 hw18; lia) (by clear ih no shift hC hF hMo hw5 hw6 hw7 hw8 hw9 hw10 hw11 hw13 hw14 hw15 hw16 hw17 hw18; lia) ?_
          refine v_icmp_eq (tgt := 60) dX12_gives_54 (by decide) (fun h54 => ?_) (fun h54 => ?_)
          · refine v_aload_n dX12_gives_60 rfl rfl ?_
            refine gf_X12_16 dX12_gives_61 rfl hMo ?_
            refine v_iconst (v := 2) dX12_gives_64 (by decide) ?_
            refine v_dup2 dX12_gives_65 rfl rfl ?_
            refine v_iald dX12_gives_66 hw5 (by clear ih no shift hC hF hMo hw5 hw6 hw7 hw8 hw9 hw10 hw11 hw13 hw14 hw15 hw16 hw17 hw18; lia) (by clear ih no shift hC hF hMo hw5 hw6 hw7 hw8 hw9 hw10 hw11 hw13 hw14 hw15 hw16 hw17 hw18; lia) ?_
            refine v_aload_n dX12_gives_67 rfl rfl ?_
            refine gf_X12_16 dX12_gives_68 rfl hMo ?_
            refine v_iload_n dX12_gives_71 rfl rfl ?_
            refine v_iconst (v := 5) dX12_gives_72 (by decide) ?_
            refine k_X12_70 dX12_gives_73 rfl (r_of htr (nI n) 5) (Nat.le_of_ble_eq_true rfl) (by omega) (by omega) (Nat.le_of_ble_eq_true rfl) (fun r73 M9 h9 => ?_) (fun _ _ h9 => h9.elim)
            obtain ⟨rfl, e9⟩ := h9
            subst M9
            refine v_iald dX12_gives_76 hw5 (by clear ih no shift hC hF hMo hw5 hw6 hw7 hw8 hw9 hw10 hw11 hw13 hw14 hw15 hw16 hw17 hw18; lia) (by clear ih no shift hC hF hMo hw5 hw6 hw7 hw8 hw9 hw10 hw11 hw13 hw14 hw15 hw16 hw17 hw18; lia) ?_
            refine v_if_ne (tgt := 95) dX12_gives_77 (by decide) (fun h77 => ?_) (fun h77 => ?_)
            · refine v_aload_n dX12_gives_95 rfl rfl ?_
              refine gf_X12_16 dX12_gives_96 rfl hMo ?_
              refine v_iload_n dX12_gives_99 rfl rfl ?_
              refine v_iconst (v := 3) dX12_gives_100 (by decide) ?_
              refine k_X12_70 dX12_gives_101 rfl (r_of htr (nI n) 3) (Nat.le_of_ble_eq_true rfl) (by omega) (by omega) (Nat.le_of_ble_eq_true rfl) (fun r101 M9 h9 => ?_) (fun _ _ h9 => h9.elim)
              obtain ⟨rfl, e9⟩ := h9
              subst M9
              refine v_iald dX12_gives_104 hw5 (by clear ih no shift hC hF hMo hw5 hw6 hw7 hw8 hw9 hw10 hw11 hw13 hw14 hw15 hw16 hw17 hw18; lia) (by clear ih no shift hC hF hMo hw5 hw6 hw7 hw8 hw9 hw10 hw11 hw13 hw14 hw15 hw16 hw17 hw18; lia) ?_
              refine v_iadd dX12_gives_105 ?_
              refine v_iast dX12_gives_106 hw5 (by clear ih no shift hC hF hMo hw5 hw6 hw7 hw8 hw9 hw10 hw11 hw13 hw14 hw15 hw16 hw17 hw18; lia) (by clear ih no shift hC hF hMo hw5 hw6 hw7 hw8 hw9 hw10 hw11 hw13 hw14 hw15 hw16 hw17 hw18; lia) ?_
              refine V.md (Md.r5 hC) (Frm.tr hF (Frm.up (hC.kd_r5))) (fun M1 hC hF => ?_)
              obtain ⟨hMo, hw5, hw6, hw7, hw8, hw9, hw10, hw11, hw13, hw14, hw15, hw16, hw17, hw18, -⟩ := _root_.id hC
              refine v_iload_n dX12_gives_107 rfl rfl ?_
              refine v_iconst (v := 0) dX12_gives_108 (by decide) ?_
              refine k_X12_70 dX12_gives_109 rfl (r_of htr (nI n) 0) (Nat.le_of_ble_eq_true rfl) (by omega) (by omega) (Nat.le_of_ble_eq_true rfl) (fun r109 M9 h9 => ?_) (fun _ _ h9 => h9.elim)
              obtain ⟨rfl, e9⟩ := h9
              subst M9
              refine v_istore_4 dX12_gives_112 ?_
              have hc9 : lt τ (nI n) 6 = 10 + k ∧ lt τ (nI n) 1 = sd τ k 1 := by
                unfold lt sd
                rw [← hE _ (by clear ih no shift; lia), ← hE (66 + 7 * nI n + 1) (by clear ih no shift; lia), ← hE (57 + 3 * k + 1) (by clear ih no shift; lia)]
                exact ⟨by first | assumption | exact Classical.not_not.mp (by assumption), by first | assumption | exact Classical.not_not.mp (by assumption)⟩
              rw [hE (66 + 7 * nI n + 5) (by clear ih no shift hc9; lia)] at h77
              rw [hE 2 (by decide), hE (66 + 7 * nI n + 3) (by clear ih no shift hc9; lia)] at hC
              have hs := shift hc9 (66 + 7 * nI n + 0) (by clear ih no shift hc9; lia) (by clear ih no shift hc9; lia) M1
              rw [Int32.add_zero, rmN_0] at hs
              rw [Int32.add_zero]
              unfold gotN lt at hs
              first
                | (rw [if_neg h77] at hs
                   exact hs hC hF)
                | (rw [if_pos (Classical.not_not.mp h77)] at hs
                   exact hs hC hF)
                | (rw [if_pos h77] at hs
                   exact hs hC hF)
            · refine v_aload_n dX12_gives_80 rfl rfl ?_
              refine gf_X12_16 dX12_gives_81 rfl hMo ?_
              refine v_iload_n dX12_gives_84 rfl rfl ?_
              refine v_iconst (v := 3) dX12_gives_85 (by decide) ?_
              refine k_X12_70 dX12_gives_86 rfl (r_of htr (nI n) 3) (Nat.le_of_ble_eq_true rfl) (by omega) (by omega) (Nat.le_of_ble_eq_true rfl) (fun r86 M9 h9 => ?_) (fun _ _ h9 => h9.elim)
              obtain ⟨rfl, e9⟩ := h9
              subst M9
              refine v_iald dX12_gives_89 hw5 (by clear ih no shift hC hF hMo hw5 hw6 hw7 hw8 hw9 hw10 hw11 hw13 hw14 hw15 hw16 hw17 hw18; lia) (by clear ih no shift hC hF hMo hw5 hw6 hw7 hw8 hw9 hw10 hw11 hw13 hw14 hw15 hw16 hw17 hw18; lia) ?_
              refine v_iconst (v := 2) dX12_gives_90 (by decide) ?_
              refine v_idiv dX12_gives_91 (by decide) ?_
              refine v_goto (tgt := 105) dX12_gives_92 (by decide) ?_
              refine v_iadd dX12_gives_105 ?_
              refine v_iast dX12_gives_106 hw5 (by clear ih no shift hC hF hMo hw5 hw6 hw7 hw8 hw9 hw10 hw11 hw13 hw14 hw15 hw16 hw17 hw18; lia) (by clear ih no shift hC hF hMo hw5 hw6 hw7 hw8 hw9 hw10 hw11 hw13 hw14 hw15 hw16 hw17 hw18; lia) ?_
              refine V.md (Md.r5 hC) (Frm.tr hF (Frm.up (hC.kd_r5))) (fun M1 hC hF => ?_)
              obtain ⟨hMo, hw5, hw6, hw7, hw8, hw9, hw10, hw11, hw13, hw14, hw15, hw16, hw17, hw18, -⟩ := _root_.id hC
              refine v_iload_n dX12_gives_107 rfl rfl ?_
              refine v_iconst (v := 0) dX12_gives_108 (by decide) ?_
              refine k_X12_70 dX12_gives_109 rfl (r_of htr (nI n) 0) (Nat.le_of_ble_eq_true rfl) (by omega) (by omega) (Nat.le_of_ble_eq_true rfl) (fun r109 M9 h9 => ?_) (fun _ _ h9 => h9.elim)
              obtain ⟨rfl, e9⟩ := h9
              subst M9
              refine v_istore_4 dX12_gives_112 ?_
              have hc9 : lt τ (nI n) 6 = 10 + k ∧ lt τ (nI n) 1 = sd τ k 1 := by
                unfold lt sd
                rw [← hE _ (by clear ih no shift; lia), ← hE (66 + 7 * nI n + 1) (by clear ih no shift; lia), ← hE (57 + 3 * k + 1) (by clear ih no shift; lia)]
                exact ⟨by first | assumption | exact Classical.not_not.mp (by assumption), by first | assumption | exact Classical.not_not.mp (by assumption)⟩
              rw [hE (66 + 7 * nI n + 5) (by clear ih no shift hc9; lia)] at h77
              rw [hE 2 (by decide), hE (66 + 7 * nI n + 3) (by clear ih no shift hc9; lia)] at hC
              have hs := shift hc9 (66 + 7 * nI n + 0) (by clear ih no shift hc9; lia) (by clear ih no shift hc9; lia) M1
              rw [Int32.add_zero, rmN_0] at hs
              rw [Int32.add_zero]
              unfold gotN lt at hs
              first
                | (rw [if_neg h77] at hs
                   exact hs hC hF)
                | (rw [if_pos (Classical.not_not.mp h77)] at hs
                   exact hs hC hF)
                | (rw [if_pos h77] at hs
                   exact hs hC hF)
          · refine v_goto (tgt := 174) dX12_gives_57 (by decide) ?_
            refine no _ (fun z => ?_)
            first
              | exact absurd z.1 (by unfold lt; rw [← hE _ (by clear ih no shift; lia)]; assumption)
              | exact absurd z.2 (by unfold lt sd; rw [← hE _ (by clear ih no shift; lia), ← hE (57 + 3 * k + 1) (by clear ih no shift; lia)]; assumption)
  refine v_iconst (v := 0) dX12_gives_0 (by decide) ?_
  refine v_istore_2 dX12_gives_1 ?_
  refine v_aload_n dX12_gives_2 rfl rfl ?_
  refine gf_X12_16 dX12_gives_3 rfl hMo ?_
  refine v_bipush (v := (7)) dX12_gives_6 (by decide) ?_
  refine v_iald dX12_gives_8 hw5 (by decide) (by decide) ?_
  refine v_iconst (v := 1) dX12_gives_9 (by decide) ?_
  refine v_isub dX12_gives_10 ?_
  refine v_istore_3 dX12_gives_11 ?_
  have hk := key (v 7).toNatClampNeg hN12 v (v 7 - 1) M none (by
    have g6' := i_le.mp hg6
    have e12 : (12 : Int32).toInt = 12 := rfl
    have g5' := i_le.mp hg5
    have tI := tc_Int hg5
    rw [i_0] at g5'
    rw [e12] at g6'
    clear key hC hF
    rw [i_sub] <;> rw [i_1] <;> omega) hT
  rw [ui_self, Int32.sub_self] at hk
  exact hk hC hF

