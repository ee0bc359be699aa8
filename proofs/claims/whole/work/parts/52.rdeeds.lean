/-! ===== the reference's deeds ===== -/
/-- the reference's number for what stands against a call -/
def fcI : Nat → Nat → Int32
  | 0, _ => 1
  | 1, x => if x = 1 then 1 else 2
  | 2, x => if x = 1 then 1 else if x = 2 then 2 else 3
  | 3, x => if x = 1 then 1 else if x = 2 then 2 else 3
  | 4, x => if x = 1 then 1 else if x = 3 then 2 else if x = 4 then 3 else 4
  | 5, x => if x = 1 then 1 else if x = 3 then 2 else 3
  | 6, x => if x = 1 then 1 else 2
  | 7, x => if x = 1 then 1 else if x = 4 then 2 else 3
  | _, _ => 1
section VD
variable {σ : Int32 → Int32} {s t n w e k id : Int32}
theorem vdStation_z (h : σ 5 < 7) : vdStation σ = 0 := if_pos h
theorem vdStation_n (h : ¬ σ 5 < 7) : vdStation σ = 4 := if_neg h
theorem vdRoad_1 (h : ¬ (hst σ s ∧ hst σ t)) : vdRoad σ s t n = 1 := if_pos h
theorem vdRoad_2 (h : hst σ s ∧ hst σ t) (h2 : ¬ (¬ s = t ∧ 0 ≤ n ∧ n ≤ 20)) : vdRoad σ s t n = 2 := by
  unfold vdRoad
  rw [if_neg (fun z => z h), if_neg h2]
theorem vdRoad_z (h : hst σ s ∧ hst σ t) (h2 : ¬ s = t ∧ 0 ≤ n ∧ n ≤ 20) : vdRoad σ s t n = 0 := by
  unfold vdRoad
  rw [if_neg (fun z => z h), if_pos h2]
theorem vdSledge_1 (h : ¬ hst σ s) : vdSledge σ s n = 1 := if_pos h
theorem vdSledge_2 (h : hst σ s) (h2 : ¬ (5 ≤ n ∧ n ≤ 30)) : vdSledge σ s n = 2 := by
  unfold vdSledge
  rw [if_neg (fun z => z h), if_pos h2]
theorem vdSledge_4 (h : hst σ s) (h2 : 5 ≤ n ∧ n ≤ 30) (h3 : ¬ σ 6 < 3) : vdSledge σ s n = 4 := by
  unfold vdSledge
  rw [if_neg (fun z => z h), if_neg (fun z => z h2), if_neg h3]
theorem vdSledge_z (h : hst σ s) (h2 : 5 ≤ n ∧ n ≤ 30) (h3 : σ 6 < 3) : vdSledge σ s n = 0 := by
  unfold vdSledge
  rw [if_neg (fun z => z h), if_neg (fun z => z h2), if_pos h3]
abbrev lpar (s t w e n : Int32) : Prop := ¬ s = t ∧ (1 ≤ w ∧ w ≤ 9) ∧ (0 ≤ e ∧ e ≤ 99) ∧ (1 ≤ n ∧ n ≤ 99)
theorem vdLetter_1 (h : ¬ (hst σ s ∧ hst σ t)) : vdLetter σ s t w e n = 1 := if_pos h
theorem vdLetter_2 (h : hst σ s ∧ hst σ t) (h2 : ¬ lpar s t w e n) : vdLetter σ s t w e n = 2 := by
  unfold vdLetter
  rw [if_neg (fun z => z h), if_pos h2]
theorem vdLetter_4 (h : hst σ s ∧ hst σ t) (h2 : lpar s t w e n) (h3 : ¬ σ 7 < 12) : vdLetter σ s t w e n = 4 := by
  unfold vdLetter
  rw [if_neg (fun z => z h), if_neg (fun z => z h2), if_neg h3]
theorem vdLetter_z (h : hst σ s ∧ hst σ t) (h2 : lpar s t w e n) (h3 : σ 7 < 12) : vdLetter σ s t w e n = 0 := by
  unfold vdLetter
  rw [if_neg (fun z => z h), if_neg (fun z => z h2), if_pos h3]
theorem vdBest_1 (h : ¬ hsl σ k) : vdBest σ k = 1 := if_pos h
theorem vdBest_4 (h : hsl σ k) (h2 : 0 < sd σ k 2) : vdBest σ k = 4 := by
  unfold vdBest
  rw [if_neg (fun z => z h), if_pos h2]
theorem vdBest_z (h : hsl σ k) (h2 : ¬ 0 < sd σ k 2) : vdBest σ k = 0 := by
  unfold vdBest
  rw [if_neg (fun z => z h), if_neg h2]
theorem vdPutOn_1 (h : ¬ hsl σ k) : vdPutOn σ k id = 1 := if_pos h
theorem vdPutOn_3 (h : hsl σ k) (h2 : find σ id = -1) : vdPutOn σ k id = 3 := by
  unfold vdPutOn
  rw [if_neg (fun z => z h), if_pos h2]
theorem vdPutOn_4 (h : hsl σ k) (h2 : ¬ find σ id = -1) (h3 : 0 < sd σ k 2 ∨ ¬ lt σ (find σ id) 6 = sd σ k 1) : vdPutOn σ k id = 4 := by
  unfold vdPutOn
  rw [if_neg (fun z => z h), if_neg h2, if_pos h3]
theorem vdPutOn_5 (h : hsl σ k) (h2 : ¬ find σ id = -1) (h3 : ¬ (0 < sd σ k 2 ∨ ¬ lt σ (find σ id) 6 = sd σ k 1)) (h4 : ¬ lt σ (find σ id) 2 ≤ sd σ k 0 - loadOn σ k) : vdPutOn σ k id = 5 := by
  unfold vdPutOn
  rw [if_neg (fun z => z h), if_neg h2, if_neg h3, if_neg h4]
theorem vdPutOn_z (h : hsl σ k) (h2 : ¬ find σ id = -1) (h3 : ¬ (0 < sd σ k 2 ∨ ¬ lt σ (find σ id) 6 = sd σ k 1)) (h4 : lt σ (find σ id) 2 ≤ sd σ k 0 - loadOn σ k) : vdPutOn σ k id = 0 := by
  unfold vdPutOn
  rw [if_neg (fun z => z h), if_neg h2, if_neg h3, if_pos h4]
theorem vdTakeOff_1 (h : ¬ hsl σ k) : vdTakeOff σ k id = 1 := if_pos h
theorem vdTakeOff_3 (h : hsl σ k) (h2 : find σ id = -1) : vdTakeOff σ k id = 3 := by
  unfold vdTakeOff
  rw [if_neg (fun z => z h), if_pos h2]
theorem vdTakeOff_4 (h : hsl σ k) (h2 : ¬ find σ id = -1) (h3 : ¬ (¬ 0 < sd σ k 2 ∧ lt σ (find σ id) 6 = 10 + k)) : vdTakeOff σ k id = 4 := by
  unfold vdTakeOff
  rw [if_neg (fun z => z h), if_neg h2, if_neg h3]
theorem vdTakeOff_z (h : hsl σ k) (h2 : ¬ find σ id = -1) (h3 : ¬ 0 < sd σ k 2 ∧ lt σ (find σ id) 6 = 10 + k) : vdTakeOff σ k id = 0 := by
  unfold vdTakeOff
  rw [if_neg (fun z => z h), if_neg h2, if_pos h3]
end VD
theorem dX12_adds_0 : decode cX12_adds 0 = .ok (.aload_n 0, 1) := by decide +kernel
theorem dX12_adds_1 : decode cX12_adds 1 = .ok (.getfield 16, 3) := by decide +kernel
theorem dX12_adds_4 : decode cX12_adds 4 = .ok (.iconst 5, 1) := by decide +kernel
theorem dX12_adds_5 : decode cX12_adds 5 = .ok (.iaload, 1) := by decide +kernel
theorem dX12_adds_6 : decode cX12_adds 6 = .ok (.bipush 7, 2) := by decide +kernel
theorem dX12_adds_8 : decode cX12_adds 8 = .ok (.if_icmp .ne 9, 3) := by decide +kernel
theorem dX12_adds_11 : decode cX12_adds 11 = .ok (.aload_n 0, 1) := by decide +kernel
theorem dX12_adds_12 : decode cX12_adds 12 = .ok (.iconst 1, 1) := by decide +kernel
theorem dX12_adds_13 : decode cX12_adds 13 = .ok (.invokevirtual 74, 3) := by decide +kernel
theorem dX12_adds_16 : decode cX12_adds 16 = .ok (.ireturn, 1) := by decide +kernel
theorem dX12_adds_17 : decode cX12_adds 17 = .ok (.aload_n 0, 1) := by decide +kernel
theorem dX12_adds_18 : decode cX12_adds 18 = .ok (.getfield 16, 3) := by decide +kernel
theorem dX12_adds_21 : decode cX12_adds 21 = .ok (.iconst 5, 1) := by decide +kernel
theorem dX12_adds_22 : decode cX12_adds 22 = .ok (.dup2, 1) := by decide +kernel
theorem dX12_adds_23 : decode cX12_adds 23 = .ok (.iaload, 1) := by decide +kernel
theorem dX12_adds_24 : decode cX12_adds 24 = .ok (.iconst 1, 1) := by decide +kernel
theorem dX12_adds_25 : decode cX12_adds 25 = .ok (.iadd, 1) := by decide +kernel
theorem dX12_adds_26 : decode cX12_adds 26 = .ok (.iastore, 1) := by decide +kernel
theorem dX12_adds_27 : decode cX12_adds 27 = .ok (.aload_n 0, 1) := by decide +kernel
theorem dX12_adds_28 : decode cX12_adds 28 = .ok (.getfield 16, 3) := by decide +kernel
theorem dX12_adds_31 : decode cX12_adds 31 = .ok (.iconst 5, 1) := by decide +kernel
theorem dX12_adds_32 : decode cX12_adds 32 = .ok (.iaload, 1) := by decide +kernel
theorem dX12_adds_33 : decode cX12_adds 33 = .ok (.iconst 1, 1) := by decide +kernel
theorem dX12_adds_34 : decode cX12_adds 34 = .ok (.isub, 1) := by decide +kernel
theorem dX12_adds_35 : decode cX12_adds 35 = .ok (.ireturn, 1) := by decide +kernel
set_option maxRecDepth 100000 in
set_option maxHeartbeats 4000000 in
theorem r_adds {l : Launch} {g : Nat → Nat} {M : LH} (htr : l.stackTraces = false) {kd : Nat → Nat} {r m : Nat} {w : Nat → Nat} {t ch ea fl sv bf tn he en ln wr dg : Int32} {v b4 sa pa fr th bs tx li lf to : Int32 → Int32} (hC : Md kd r M m w t ch ea fl sv bf tn he en ln wr dg v b4 sa pa fr th bs tx li lf to) (hG : Good v) : K_X12_adds l g 1 0 0 [.ref m] M (RI (fun x M9 => ((vdStation v = 0 ∧ x = v 5 ∧ Md kd r M9 m w t ch ea fl sv bf tn he en ln wr dg (ui v 5 (v 5 + 1)) b4 sa pa fr th bs tx li lf to) ∨ (¬ vdStation v = 0 ∧ x = 0 ∧ Md kd r M9 m w (fcI 0 (vdStation v)) ch ea fl sv bf tn he en ln wr dg v b4 sa pa fr th bs tx li lf to)) ∧ Frm kd r M M9) nX) := by
  refine Ko_X12_adds htr (fun X => ?_)
  obtain ⟨hMo, hw5, hw6, hw7, hw8, hw9, hw10, hw11, hw13, hw14, hw15, hw16, hw17, hw18, -⟩ := _root_.id hC
  have hF : Frm kd r M M := Frm.rf
  obtain ⟨hg1, hg2, hg3, hg4, hg5, hg6, hg7, hg8, hgL, hgS, -⟩ := _root_.id hG
  clear hgL hgS
  refine v_aload_n dX12_adds_0 rfl rfl ?_
  refine gf_X12_16 dX12_adds_1 rfl hMo ?_
  refine v_iconst (v := 5) dX12_adds_4 (by decide) ?_
  refine v_iald dX12_adds_5 hw5 (by lia) (by lia) ?_
  refine v_bipush (v := (7)) dX12_adds_6 (by decide) ?_
  refine v_icmp_ne (tgt := 17) dX12_adds_8 (by decide) (fun h8 => ?_) (fun h8 => ?_)
  · refine v_aload_n dX12_adds_17 rfl rfl ?_
    refine gf_X12_16 dX12_adds_18 rfl hMo ?_
    refine v_iconst (v := 5) dX12_adds_21 (by decide) ?_
    refine v_dup2 dX12_adds_22 rfl rfl ?_
    refine v_iald dX12_adds_23 hw5 (by lia) (by lia) ?_
    refine v_iconst (v := 1) dX12_adds_24 (by decide) ?_
    refine v_iadd dX12_adds_25 ?_
    refine v_iast dX12_adds_26 hw5 (by lia) (by lia) ?_
    refine V.md (Md.r5 hC) (Frm.tr hF (Frm.up (hC.kd_r5))) (fun M1 hC hF => ?_)
    obtain ⟨hMo, hw5, hw6, hw7, hw8, hw9, hw10, hw11, hw13, hw14, hw15, hw16, hw17, hw18, -⟩ := _root_.id hC
    refine v_aload_n dX12_adds_27 rfl rfl ?_
    refine gf_X12_16 dX12_adds_28 rfl hMo ?_
    refine v_iconst (v := 5) dX12_adds_31 (by decide) ?_
    refine v_iald dX12_adds_32 hw5 (by lia) (by lia) ?_
    refine v_iconst (v := 1) dX12_adds_33 (by decide) ?_
    refine v_isub dX12_adds_34 ?_
    exact v_iret dX12_adds_35 rfl ⟨Or.inl ⟨vdStation_z (by lia), (by rw [ui_s]; lia), hC⟩, hF⟩ (by omega) (by omega)
  · refine v_aload_n dX12_adds_11 rfl rfl ?_
    refine v_iconst (v := 1) dX12_adds_12 (by decide) ?_
    refine k_X12_74 dX12_adds_13 rfl (r_fail htr hC 1) hMo (Nat.le_of_ble_eq_true rfl) (by omega) (by omega) (Nat.le_of_ble_eq_true rfl) (fun r13 M9 h9 => ?_) (fun _ _ h9 => h9.elim)
    obtain ⟨rfl, hC, hF9⟩ := h9
    have hF := Frm.tr hF hF9
    exact v_iret dX12_adds_16 rfl ⟨Or.inr ⟨(by rw [vdStation_n (by lia)]; decide), rfl, (by rw [vdStation_n (by lia)]; exact hC)⟩, hF⟩ (by omega) (by omega)
theorem dX12_roads_0 : decode cX12_roads 0 = .ok (.aload_n 0, 1) := by decide +kernel
theorem dX12_roads_1 : decode cX12_roads 1 = .ok (.iload_n 1, 1) := by decide +kernel
theorem dX12_roads_2 : decode cX12_roads 2 = .ok (.invokevirtual 88, 3) := by decide +kernel
theorem dX12_roads_5 : decode cX12_roads 5 = .ok (.ifCond .eq 11, 3) := by decide +kernel
theorem dX12_roads_8 : decode cX12_roads 8 = .ok (.aload_n 0, 1) := by decide +kernel
theorem dX12_roads_9 : decode cX12_roads 9 = .ok (.iload_n 2, 1) := by decide +kernel
theorem dX12_roads_10 : decode cX12_roads 10 = .ok (.invokevirtual 88, 3) := by decide +kernel
theorem dX12_roads_13 : decode cX12_roads 13 = .ok (.ifCond .ne 9, 3) := by decide +kernel
theorem dX12_roads_16 : decode cX12_roads 16 = .ok (.aload_n 0, 1) := by decide +kernel
theorem dX12_roads_17 : decode cX12_roads 17 = .ok (.iconst 1, 1) := by decide +kernel
theorem dX12_roads_18 : decode cX12_roads 18 = .ok (.invokevirtual 74, 3) := by decide +kernel
theorem dX12_roads_21 : decode cX12_roads 21 = .ok (.ireturn, 1) := by decide +kernel
theorem dX12_roads_22 : decode cX12_roads 22 = .ok (.iload_n 1, 1) := by decide +kernel
theorem dX12_roads_23 : decode cX12_roads 23 = .ok (.iload_n 2, 1) := by decide +kernel
theorem dX12_roads_24 : decode cX12_roads 24 = .ok (.if_icmp .eq 13, 3) := by decide +kernel
theorem dX12_roads_27 : decode cX12_roads 27 = .ok (.iload_n 3, 1) := by decide +kernel
theorem dX12_roads_28 : decode cX12_roads 28 = .ok (.iconst 0, 1) := by decide +kernel
theorem dX12_roads_29 : decode cX12_roads 29 = .ok (.bipush 20, 2) := by decide +kernel
theorem dX12_roads_31 : decode cX12_roads 31 = .ok (.invokestatic 66, 3) := by decide +kernel
theorem dX12_roads_34 : decode cX12_roads 34 = .ok (.ifCond .ne 9, 3) := by decide +kernel
theorem dX12_roads_37 : decode cX12_roads 37 = .ok (.aload_n 0, 1) := by decide +kernel
theorem dX12_roads_38 : decode cX12_roads 38 = .ok (.iconst 2, 1) := by decide +kernel
theorem dX12_roads_39 : decode cX12_roads 39 = .ok (.invokevirtual 74, 3) := by decide +kernel
theorem dX12_roads_42 : decode cX12_roads 42 = .ok (.ireturn, 1) := by decide +kernel
theorem dX12_roads_43 : decode cX12_roads 43 = .ok (.aload_n 0, 1) := by decide +kernel
theorem dX12_roads_44 : decode cX12_roads 44 = .ok (.getfield 16, 3) := by decide +kernel
theorem dX12_roads_47 : decode cX12_roads 47 = .ok (.bipush 8, 2) := by decide +kernel
theorem dX12_roads_49 : decode cX12_roads 49 = .ok (.bipush 7, 2) := by decide +kernel
theorem dX12_roads_51 : decode cX12_roads 51 = .ok (.iload_n 1, 1) := by decide +kernel
theorem dX12_roads_52 : decode cX12_roads 52 = .ok (.imul, 1) := by decide +kernel
theorem dX12_roads_53 : decode cX12_roads 53 = .ok (.iadd, 1) := by decide +kernel
theorem dX12_roads_54 : decode cX12_roads 54 = .ok (.iload_n 2, 1) := by decide +kernel
theorem dX12_roads_55 : decode cX12_roads 55 = .ok (.iadd, 1) := by decide +kernel
theorem dX12_roads_56 : decode cX12_roads 56 = .ok (.iaload, 1) := by decide +kernel
theorem dX12_roads_57 : decode cX12_roads 57 = .ok (.istore 4, 2) := by decide +kernel
theorem dX12_roads_59 : decode cX12_roads 59 = .ok (.aload_n 0, 1) := by decide +kernel
theorem dX12_roads_60 : decode cX12_roads 60 = .ok (.getfield 16, 3) := by decide +kernel
theorem dX12_roads_63 : decode cX12_roads 63 = .ok (.bipush 8, 2) := by decide +kernel
theorem dX12_roads_65 : decode cX12_roads 65 = .ok (.bipush 7, 2) := by decide +kernel
theorem dX12_roads_67 : decode cX12_roads 67 = .ok (.iload_n 1, 1) := by decide +kernel
theorem dX12_roads_68 : decode cX12_roads 68 = .ok (.imul, 1) := by decide +kernel
theorem dX12_roads_69 : decode cX12_roads 69 = .ok (.iadd, 1) := by decide +kernel
theorem dX12_roads_70 : decode cX12_roads 70 = .ok (.iload_n 2, 1) := by decide +kernel
theorem dX12_roads_71 : decode cX12_roads 71 = .ok (.iadd, 1) := by decide +kernel
theorem dX12_roads_72 : decode cX12_roads 72 = .ok (.iload_n 3, 1) := by decide +kernel
theorem dX12_roads_73 : decode cX12_roads 73 = .ok (.iastore, 1) := by decide +kernel
theorem dX12_roads_74 : decode cX12_roads 74 = .ok (.aload_n 0, 1) := by decide +kernel
theorem dX12_roads_75 : decode cX12_roads 75 = .ok (.getfield 16, 3) := by decide +kernel
theorem dX12_roads_78 : decode cX12_roads 78 = .ok (.bipush 8, 2) := by decide +kernel
theorem dX12_roads_80 : decode cX12_roads 80 = .ok (.bipush 7, 2) := by decide +kernel
theorem dX12_roads_82 : decode cX12_roads 82 = .ok (.iload_n 2, 1) := by decide +kernel
theorem dX12_roads_83 : decode cX12_roads 83 = .ok (.imul, 1) := by decide +kernel
theorem dX12_roads_84 : decode cX12_roads 84 = .ok (.iadd, 1) := by decide +kernel
theorem dX12_roads_85 : decode cX12_roads 85 = .ok (.iload_n 1, 1) := by decide +kernel
theorem dX12_roads_86 : decode cX12_roads 86 = .ok (.iadd, 1) := by decide +kernel
theorem dX12_roads_87 : decode cX12_roads 87 = .ok (.iload_n 3, 1) := by decide +kernel
theorem dX12_roads_88 : decode cX12_roads 88 = .ok (.iastore, 1) := by decide +kernel
theorem dX12_roads_89 : decode cX12_roads 89 = .ok (.iload 4, 2) := by decide +kernel
theorem dX12_roads_91 : decode cX12_roads 91 = .ok (.ireturn, 1) := by decide +kernel
set_option maxRecDepth 100000 in
set_option maxHeartbeats 4000000 in
theorem r_roads {l : Launch} {g : Nat → Nat} {M : LH} (htr : l.stackTraces = false) {kd : Nat → Nat} {r m : Nat} {w : Nat → Nat} {t ch ea fl sv bf tn he en ln wr dg : Int32} {v b4 sa pa fr th bs tx li lf to : Int32 → Int32} (hC : Md kd r M m w t ch ea fl sv bf tn he en ln wr dg v b4 sa pa fr th bs tx li lf to) (hG : Good v) (a b n : Int32) : K_X12_roads l g 2 0 0 [.ref m, .int a, .int b, .int n] M (RI (fun x M9 => ((vdRoad v a b n = 0 ∧ x = rd v a b ∧ Md kd r M9 m w t ch ea fl sv bf tn he en ln wr dg (rdS v a b n) b4 sa pa fr th bs tx li lf to) ∨ (¬ vdRoad v a b n = 0 ∧ x = 0 ∧ Md kd r M9 m w (fcI 1 (vdRoad v a b n)) ch ea fl sv bf tn he en ln wr dg v b4 sa pa fr th bs tx li lf to)) ∧ Frm kd r M M9) nX) := by
  refine Ko_X12_roads htr (fun X => ?_)
  obtain ⟨hMo, hw5, hw6, hw7, hw8, hw9, hw10, hw11, hw13, hw14, hw15, hw16, hw17, hw18, -⟩ := _root_.id hC
  have hF : Frm kd r M M := Frm.rf
  obtain ⟨hg1, hg2, hg3, hg4, hg5, hg6, hg7, hg8, hgL, hgS, -⟩ := _root_.id hG
  clear hgL hgS
  refine v_aload_n dX12_roads_0 rfl rfl ?_
  refine v_iload_n dX12_roads_1 rfl rfl ?_
  refine k_X12_88 dX12_roads_2 rfl (r_isStation htr hC hG a) hMo (Nat.le_of_ble_eq_true rfl) (by omega) (by omega) (Nat.le_of_ble_eq_true rfl) (fun r2 M9 h9 => ?_) (fun _ _ h9 => h9.elim)
  obtain ⟨rfl, e9⟩ := h9
  subst M9
  refine v_if_eq (tgt := 16) dX12_roads_5 (by decide) (fun hq5 => ?_) (fun hq5 => ?_)
  · refine v_aload_n dX12_roads_16 rfl rfl ?_
    refine v_iconst (v := 1) dX12_roads_17 (by decide) ?_
    refine k_X12_74 dX12_roads_18 rfl (r_fail htr hC 1) hMo (Nat.le_of_ble_eq_true rfl) (by omega) (by omega) (Nat.le_of_ble_eq_true rfl) (fun r18 M9 h9 => ?_) (fun _ _ h9 => h9.elim)
    obtain ⟨rfl, hC, hF9⟩ := h9
    have hF := Frm.tr hF hF9
    exact v_iret dX12_roads_21 rfl ⟨Or.inr ⟨(by rw [vdRoad_1 (fun z => by first | exact b_f hq5 z.1 | exact b_f hq13 z.2)]; decide), rfl, (by rw [vdRoad_1 (fun z => by first | exact b_f hq5 z.1 | exact b_f hq13 z.2)]; exact hC)⟩, hF⟩ (by omega) (by omega)
  · refine v_aload_n dX12_roads_8 rfl rfl ?_
    refine v_iload_n dX12_roads_9 rfl rfl ?_
    refine k_X12_88 dX12_roads_10 rfl (r_isStation htr hC hG b) hMo (Nat.le_of_ble_eq_true rfl) (by omega) (by omega) (Nat.le_of_ble_eq_true rfl) (fun r10 M9 h9 => ?_) (fun _ _ h9 => h9.elim)
    obtain ⟨rfl, e9⟩ := h9
    subst M9
    refine v_if_ne (tgt := 22) dX12_roads_13 (by decide) (fun hq13 => ?_) (fun hq13 => ?_)
    · have hh : hst v a ∧ hst v b := ⟨b_t hq5, b_t hq13⟩
      refine v_iload_n dX12_roads_22 rfl rfl ?_
      refine v_iload_n dX12_roads_23 rfl rfl ?_
      refine v_icmp_eq (tgt := 37) dX12_roads_24 (by decide) (fun h24 => ?_) (fun h24 => ?_)
      · refine v_aload_n dX12_roads_37 rfl rfl ?_
        refine v_iconst (v := 2) dX12_roads_38 (by decide) ?_
        refine k_X12_74 dX12_roads_39 rfl (r_fail htr hC 2) hMo (Nat.le_of_ble_eq_true rfl) (by omega) (by omega) (Nat.le_of_ble_eq_true rfl) (fun r39 M9 h9 => ?_) (fun _ _ h9 => h9.elim)
        obtain ⟨rfl, hC, hF9⟩ := h9
        have hF := Frm.tr hF hF9
        exact v_iret dX12_roads_42 rfl ⟨Or.inr ⟨(by rw [vdRoad_2 hh (fun z => by first | exact b_f hq34 z.2 | exact absurd (by assumption) z.1)]; decide), rfl, (by rw [vdRoad_2 hh (fun z => by first | exact b_f hq34 z.2 | exact absurd (by assumption) z.1)]; exact hC)⟩, hF⟩ (by omega) (by omega)
      · refine v_iload_n dX12_roads_27 rfl rfl ?_
        refine v_iconst (v := 0) dX12_roads_28 (by decide) ?_
        refine v_bipush (v := (20)) dX12_roads_29 (by decide) ?_
        refine k_X12_66 dX12_roads_31 rfl (r_isIn htr n 0 20) (Nat.le_of_ble_eq_true rfl) (by omega) (by omega) (Nat.le_of_ble_eq_true rfl) (fun r31 M9 h9 => ?_) (fun _ _ h9 => h9.elim)
        obtain ⟨rfl, e9⟩ := h9
        subst M9
        refine v_if_ne (tgt := 43) dX12_roads_34 (by decide) (fun hq34 => ?_) (fun hq34 => ?_)
        · have hp9 : ¬ a = b ∧ 0 ≤ n ∧ n ≤ 20 := ⟨(by first | assumption), b_t hq34⟩
          refine v_aload_n dX12_roads_43 rfl rfl ?_
          refine gf_X12_16 dX12_roads_44 rfl hMo ?_
          refine v_bipush (v := (8)) dX12_roads_47 (by decide) ?_
          refine v_bipush (v := (7)) dX12_roads_49 (by decide) ?_
          refine v_iload_n dX12_roads_51 rfl rfl ?_
          refine v_imul dX12_roads_52 ?_
          refine v_iadd dX12_roads_53 ?_
          refine v_iload_n dX12_roads_54 rfl rfl ?_
          refine v_iadd dX12_roads_55 ?_
          refine v_iald dX12_roads_56 hw5 (by obtain ⟨⟨q1, q2⟩, q3, q4⟩ := hh; lia) (by obtain ⟨⟨q1, q2⟩, q3, q4⟩ := hh; lia) ?_
          refine v_istore_4 dX12_roads_57 ?_
          refine v_aload_n dX12_roads_59 rfl rfl ?_
          refine gf_X12_16 dX12_roads_60 rfl hMo ?_
          refine v_bipush (v := (8)) dX12_roads_63 (by decide) ?_
          refine v_bipush (v := (7)) dX12_roads_65 (by decide) ?_
          refine v_iload_n dX12_roads_67 rfl rfl ?_
          refine v_imul dX12_roads_68 ?_
          refine v_iadd dX12_roads_69 ?_
          refine v_iload_n dX12_roads_70 rfl rfl ?_
          refine v_iadd dX12_roads_71 ?_
          refine v_iload_n dX12_roads_72 rfl rfl ?_
          refine v_iast dX12_roads_73 hw5 (by obtain ⟨⟨q1, q2⟩, q3, q4⟩ := hh; lia) (by obtain ⟨⟨q1, q2⟩, q3, q4⟩ := hh; lia) ?_
          refine V.md (Md.r5 hC) (Frm.tr hF (Frm.up (hC.kd_r5))) (fun M1 hC hF => ?_)
          obtain ⟨hMo, hw5, hw6, hw7, hw8, hw9, hw10, hw11, hw13, hw14, hw15, hw16, hw17, hw18, -⟩ := _root_.id hC
          refine v_aload_n dX12_roads_74 rfl rfl ?_
          refine gf_X12_16 dX12_roads_75 rfl hMo ?_
          refine v_bipush (v := (8)) dX12_roads_78 (by decide) ?_
          refine v_bipush (v := (7)) dX12_roads_80 (by decide) ?_
          refine v_iload_n dX12_roads_82 rfl rfl ?_
          refine v_imul dX12_roads_83 ?_
          refine v_iadd dX12_roads_84 ?_
          refine v_iload_n dX12_roads_85 rfl rfl ?_
          refine v_iadd dX12_roads_86 ?_
          refine v_iload_n dX12_roads_87 rfl rfl ?_
          refine v_iast dX12_roads_88 hw5 (by obtain ⟨⟨q1, q2⟩, q3, q4⟩ := hh; lia) (by obtain ⟨⟨q1, q2⟩, q3, q4⟩ := hh; lia) ?_
          refine V.md (Md.r5 hC) (Frm.tr hF (Frm.up (hC.kd_r5))) (fun M1 hC hF => ?_)
          obtain ⟨hMo, hw5, hw6, hw7, hw8, hw9, hw10, hw11, hw13, hw14, hw15, hw16, hw17, hw18, -⟩ := _root_.id hC
          refine v_iload dX12_roads_89 rfl ?_
          exact v_iret dX12_roads_91 rfl ⟨Or.inl ⟨vdRoad_z hh hp9, rfl, hC⟩, hF⟩ (by omega) (by omega)
        · refine v_aload_n dX12_roads_37 rfl rfl ?_
          refine v_iconst (v := 2) dX12_roads_38 (by decide) ?_
          refine k_X12_74 dX12_roads_39 rfl (r_fail htr hC 2) hMo (Nat.le_of_ble_eq_true rfl) (by omega) (by omega) (Nat.le_of_ble_eq_true rfl) (fun r39 M9 h9 => ?_) (fun _ _ h9 => h9.elim)
          obtain ⟨rfl, hC, hF9⟩ := h9
          have hF := Frm.tr hF hF9
          exact v_iret dX12_roads_42 rfl ⟨Or.inr ⟨(by rw [vdRoad_2 hh (fun z => by first | exact b_f hq34 z.2 | exact absurd (by assumption) z.1)]; decide), rfl, (by rw [vdRoad_2 hh (fun z => by first | exact b_f hq34 z.2 | exact absurd (by assumption) z.1)]; exact hC)⟩, hF⟩ (by omega) (by omega)
    · refine v_aload_n dX12_roads_16 rfl rfl ?_
      refine v_iconst (v := 1) dX12_roads_17 (by decide) ?_
      refine k_X12_74 dX12_roads_18 rfl (r_fail htr hC 1) hMo (Nat.le_of_ble_eq_true rfl) (by omega) (by omega) (Nat.le_of_ble_eq_true rfl) (fun r18 M9 h9 => ?_) (fun _ _ h9 => h9.elim)
      obtain ⟨rfl, hC, hF9⟩ := h9
      have hF := Frm.tr hF hF9
      exact v_iret dX12_roads_21 rfl ⟨Or.inr ⟨(by rw [vdRoad_1 (fun z => by first | exact b_f hq5 z.1 | exact b_f hq13 z.2)]; decide), rfl, (by rw [vdRoad_1 (fun z => by first | exact b_f hq5 z.1 | exact b_f hq13 z.2)]; exact hC)⟩, hF⟩ (by omega) (by omega)
theorem dX12_builds_0 : decode cX12_builds 0 = .ok (.aload_n 0, 1) := by decide +kernel
theorem dX12_builds_1 : decode cX12_builds 1 = .ok (.iload_n 1, 1) := by decide +kernel
theorem dX12_builds_2 : decode cX12_builds 2 = .ok (.invokevirtual 88, 3) := by decide +kernel
theorem dX12_builds_5 : decode cX12_builds 5 = .ok (.ifCond .ne 9, 3) := by decide +kernel
theorem dX12_builds_8 : decode cX12_builds 8 = .ok (.aload_n 0, 1) := by decide +kernel
theorem dX12_builds_9 : decode cX12_builds 9 = .ok (.iconst 1, 1) := by decide +kernel
theorem dX12_builds_10 : decode cX12_builds 10 = .ok (.invokevirtual 74, 3) := by decide +kernel
theorem dX12_builds_13 : decode cX12_builds 13 = .ok (.ireturn, 1) := by decide +kernel
theorem dX12_builds_14 : decode cX12_builds 14 = .ok (.iload_n 2, 1) := by decide +kernel
theorem dX12_builds_15 : decode cX12_builds 15 = .ok (.iconst 5, 1) := by decide +kernel
theorem dX12_builds_16 : decode cX12_builds 16 = .ok (.bipush 30, 2) := by decide +kernel
theorem dX12_builds_18 : decode cX12_builds 18 = .ok (.invokestatic 66, 3) := by decide +kernel
theorem dX12_builds_21 : decode cX12_builds 21 = .ok (.ifCond .ne 9, 3) := by decide +kernel
theorem dX12_builds_24 : decode cX12_builds 24 = .ok (.aload_n 0, 1) := by decide +kernel
theorem dX12_builds_25 : decode cX12_builds 25 = .ok (.iconst 2, 1) := by decide +kernel
theorem dX12_builds_26 : decode cX12_builds 26 = .ok (.invokevirtual 74, 3) := by decide +kernel
theorem dX12_builds_29 : decode cX12_builds 29 = .ok (.ireturn, 1) := by decide +kernel
theorem dX12_builds_30 : decode cX12_builds 30 = .ok (.aload_n 0, 1) := by decide +kernel
theorem dX12_builds_31 : decode cX12_builds 31 = .ok (.getfield 16, 3) := by decide +kernel
theorem dX12_builds_34 : decode cX12_builds 34 = .ok (.bipush 6, 2) := by decide +kernel
theorem dX12_builds_36 : decode cX12_builds 36 = .ok (.iaload, 1) := by decide +kernel
theorem dX12_builds_37 : decode cX12_builds 37 = .ok (.istore_n 3, 1) := by decide +kernel
theorem dX12_builds_38 : decode cX12_builds 38 = .ok (.iload_n 3, 1) := by decide +kernel
theorem dX12_builds_39 : decode cX12_builds 39 = .ok (.iconst 3, 1) := by decide +kernel
theorem dX12_builds_40 : decode cX12_builds 40 = .ok (.if_icmp .ne 9, 3) := by decide +kernel
theorem dX12_builds_43 : decode cX12_builds 43 = .ok (.aload_n 0, 1) := by decide +kernel
theorem dX12_builds_44 : decode cX12_builds 44 = .ok (.iconst 3, 1) := by decide +kernel
theorem dX12_builds_45 : decode cX12_builds 45 = .ok (.invokevirtual 74, 3) := by decide +kernel
theorem dX12_builds_48 : decode cX12_builds 48 = .ok (.ireturn, 1) := by decide +kernel
theorem dX12_builds_49 : decode cX12_builds 49 = .ok (.aload_n 0, 1) := by decide +kernel
theorem dX12_builds_50 : decode cX12_builds 50 = .ok (.getfield 16, 3) := by decide +kernel
theorem dX12_builds_53 : decode cX12_builds 53 = .ok (.iload_n 3, 1) := by decide +kernel
theorem dX12_builds_54 : decode cX12_builds 54 = .ok (.iconst 0, 1) := by decide +kernel
theorem dX12_builds_55 : decode cX12_builds 55 = .ok (.invokestatic 96, 3) := by decide +kernel
theorem dX12_builds_58 : decode cX12_builds 58 = .ok (.iload_n 2, 1) := by decide +kernel
theorem dX12_builds_59 : decode cX12_builds 59 = .ok (.iastore, 1) := by decide +kernel
theorem dX12_builds_60 : decode cX12_builds 60 = .ok (.aload_n 0, 1) := by decide +kernel
theorem dX12_builds_61 : decode cX12_builds 61 = .ok (.getfield 16, 3) := by decide +kernel
theorem dX12_builds_64 : decode cX12_builds 64 = .ok (.iload_n 3, 1) := by decide +kernel
theorem dX12_builds_65 : decode cX12_builds 65 = .ok (.iconst 1, 1) := by decide +kernel
theorem dX12_builds_66 : decode cX12_builds 66 = .ok (.invokestatic 96, 3) := by decide +kernel
theorem dX12_builds_69 : decode cX12_builds 69 = .ok (.iload_n 1, 1) := by decide +kernel
theorem dX12_builds_70 : decode cX12_builds 70 = .ok (.iastore, 1) := by decide +kernel
theorem dX12_builds_71 : decode cX12_builds 71 = .ok (.aload_n 0, 1) := by decide +kernel
theorem dX12_builds_72 : decode cX12_builds 72 = .ok (.getfield 16, 3) := by decide +kernel
theorem dX12_builds_75 : decode cX12_builds 75 = .ok (.iload_n 3, 1) := by decide +kernel
theorem dX12_builds_76 : decode cX12_builds 76 = .ok (.iconst 2, 1) := by decide +kernel
theorem dX12_builds_77 : decode cX12_builds 77 = .ok (.invokestatic 96, 3) := by decide +kernel
theorem dX12_builds_80 : decode cX12_builds 80 = .ok (.iconst 0, 1) := by decide +kernel
theorem dX12_builds_81 : decode cX12_builds 81 = .ok (.iastore, 1) := by decide +kernel
theorem dX12_builds_82 : decode cX12_builds 82 = .ok (.aload_n 0, 1) := by decide +kernel
theorem dX12_builds_83 : decode cX12_builds 83 = .ok (.getfield 16, 3) := by decide +kernel
theorem dX12_builds_86 : decode cX12_builds 86 = .ok (.bipush 6, 2) := by decide +kernel
theorem dX12_builds_88 : decode cX12_builds 88 = .ok (.dup2, 1) := by decide +kernel
theorem dX12_builds_89 : decode cX12_builds 89 = .ok (.iaload, 1) := by decide +kernel
theorem dX12_builds_90 : decode cX12_builds 90 = .ok (.iconst 1, 1) := by decide +kernel
theorem dX12_builds_91 : decode cX12_builds 91 = .ok (.iadd, 1) := by decide +kernel
theorem dX12_builds_92 : decode cX12_builds 92 = .ok (.iastore, 1) := by decide +kernel
theorem dX12_builds_93 : decode cX12_builds 93 = .ok (.iload_n 3, 1) := by decide +kernel
theorem dX12_builds_94 : decode cX12_builds 94 = .ok (.ireturn, 1) := by decide +kernel
set_option maxRecDepth 100000 in
set_option maxHeartbeats 4000000 in
theorem r_builds {l : Launch} {g : Nat → Nat} {M : LH} (htr : l.stackTraces = false) {kd : Nat → Nat} {r m : Nat} {w : Nat → Nat} {t ch ea fl sv bf tn he en ln wr dg : Int32} {v b4 sa pa fr th bs tx li lf to : Int32 → Int32} (hC : Md kd r M m w t ch ea fl sv bf tn he en ln wr dg v b4 sa pa fr th bs tx li lf to) (hG : Good v) (s n : Int32) : K_X12_builds l g 2 0 0 [.ref m, .int s, .int n] M (RI (fun x M9 => ((vdSledge v s n = 0 ∧ x = v 6 ∧ Md kd r M9 m w t ch ea fl sv bf tn he en ln wr dg (mkK v s n) b4 sa pa fr th bs tx li lf to) ∨ (¬ vdSledge v s n = 0 ∧ x = 0 ∧ Md kd r M9 m w (fcI 2 (vdSledge v s n)) ch ea fl sv bf tn he en ln wr dg v b4 sa pa fr th bs tx li lf to)) ∧ Frm kd r M M9) nX) := by
  refine Ko_X12_builds htr (fun X => ?_)
  obtain ⟨hMo, hw5, hw6, hw7, hw8, hw9, hw10, hw11, hw13, hw14, hw15, hw16, hw17, hw18, -⟩ := _root_.id hC
  have hF : Frm kd r M M := Frm.rf
  obtain ⟨hg1, hg2, hg3, hg4, hg5, hg6, hg7, hg8, hgL, hgS, -⟩ := _root_.id hG
  clear hgL hgS
  refine v_aload_n dX12_builds_0 rfl rfl ?_
  refine v_iload_n dX12_builds_1 rfl rfl ?_
  refine k_X12_88 dX12_builds_2 rfl (r_isStation htr hC hG s) hMo (Nat.le_of_ble_eq_true rfl) (by omega) (by omega) (Nat.le_of_ble_eq_true rfl) (fun r2 M9 h9 => ?_) (fun _ _ h9 => h9.elim)
  obtain ⟨rfl, e9⟩ := h9
  subst M9
  refine v_if_ne (tgt := 14) dX12_builds_5 (by decide) (fun hq5 => ?_) (fun hq5 => ?_)
  · have hs9 := b_t hq5
    refine v_iload_n dX12_builds_14 rfl rfl ?_
    refine v_iconst (v := 5) dX12_builds_15 (by decide) ?_
    refine v_bipush (v := (30)) dX12_builds_16 (by decide) ?_
    refine k_X12_66 dX12_builds_18 rfl (r_isIn htr n 5 30) (Nat.le_of_ble_eq_true rfl) (by omega) (by omega) (Nat.le_of_ble_eq_true rfl) (fun r18 M9 h9 => ?_) (fun _ _ h9 => h9.elim)
    obtain ⟨rfl, e9⟩ := h9
    subst M9
    refine v_if_ne (tgt := 30) dX12_builds_21 (by decide) (fun hq21 => ?_) (fun hq21 => ?_)
    · have hn9 := b_t hq21
      refine v_aload_n dX12_builds_30 rfl rfl ?_
      refine gf_X12_16 dX12_builds_31 rfl hMo ?_
      refine v_bipush (v := (6)) dX12_builds_34 (by decide) ?_
      refine v_iald dX12_builds_36 hw5 (by lia) (by lia) ?_
      refine v_istore_3 dX12_builds_37 ?_
      refine v_iload_n dX12_builds_38 rfl rfl ?_
      refine v_iconst (v := 3) dX12_builds_39 (by decide) ?_
      refine v_icmp_ne (tgt := 49) dX12_builds_40 (by decide) (fun h40 => ?_) (fun h40 => ?_)
      · have h63 : v 6 < 3 := by lia
        refine v_aload_n dX12_builds_49 rfl rfl ?_
        refine gf_X12_16 dX12_builds_50 rfl hMo ?_
        refine v_iload_n dX12_builds_53 rfl rfl ?_
        refine v_iconst (v := 0) dX12_builds_54 (by decide) ?_
        refine k_X12_96 dX12_builds_55 rfl (r_in htr (v 6) 0) (Nat.le_of_ble_eq_true rfl) (by omega) (by omega) (Nat.le_of_ble_eq_true rfl) (fun r55 M9 h9 => ?_) (fun _ _ h9 => h9.elim)
        obtain ⟨rfl, e9⟩ := h9
        subst M9
        refine v_iload_n dX12_builds_58 rfl rfl ?_
        refine v_iast dX12_builds_59 hw5 (by lia) (by lia) ?_
        refine V.md (Md.r5 hC) (Frm.tr hF (Frm.up (hC.kd_r5))) (fun M1 hC hF => ?_)
        obtain ⟨hMo, hw5, hw6, hw7, hw8, hw9, hw10, hw11, hw13, hw14, hw15, hw16, hw17, hw18, -⟩ := _root_.id hC
        refine v_aload_n dX12_builds_60 rfl rfl ?_
        refine gf_X12_16 dX12_builds_61 rfl hMo ?_
        refine v_iload_n dX12_builds_64 rfl rfl ?_
        refine v_iconst (v := 1) dX12_builds_65 (by decide) ?_
        refine k_X12_96 dX12_builds_66 rfl (r_in htr (v 6) 1) (Nat.le_of_ble_eq_true rfl) (by omega) (by omega) (Nat.le_of_ble_eq_true rfl) (fun r66 M9 h9 => ?_) (fun _ _ h9 => h9.elim)
        obtain ⟨rfl, e9⟩ := h9
        subst M9
        refine v_iload_n dX12_builds_69 rfl rfl ?_
        refine v_iast dX12_builds_70 hw5 (by lia) (by lia) ?_
        refine V.md (Md.r5 hC) (Frm.tr hF (Frm.up (hC.kd_r5))) (fun M1 hC hF => ?_)
        obtain ⟨hMo, hw5, hw6, hw7, hw8, hw9, hw10, hw11, hw13, hw14, hw15, hw16, hw17, hw18, -⟩ := _root_.id hC
        refine v_aload_n dX12_builds_71 rfl rfl ?_
        refine gf_X12_16 dX12_builds_72 rfl hMo ?_
        refine v_iload_n dX12_builds_75 rfl rfl ?_
        refine v_iconst (v := 2) dX12_builds_76 (by decide) ?_
        refine k_X12_96 dX12_builds_77 rfl (r_in htr (v 6) 2) (Nat.le_of_ble_eq_true rfl) (by omega) (by omega) (Nat.le_of_ble_eq_true rfl) (fun r77 M9 h9 => ?_) (fun _ _ h9 => h9.elim)
        obtain ⟨rfl, e9⟩ := h9
        subst M9
        refine v_iconst (v := 0) dX12_builds_80 (by decide) ?_
        refine v_iast dX12_builds_81 hw5 (by lia) (by lia) ?_
        refine V.md (Md.r5 hC) (Frm.tr hF (Frm.up (hC.kd_r5))) (fun M1 hC hF => ?_)
        obtain ⟨hMo, hw5, hw6, hw7, hw8, hw9, hw10, hw11, hw13, hw14, hw15, hw16, hw17, hw18, -⟩ := _root_.id hC
        refine v_aload_n dX12_builds_82 rfl rfl ?_
        refine gf_X12_16 dX12_builds_83 rfl hMo ?_
        refine v_bipush (v := (6)) dX12_builds_86 (by decide) ?_
        refine v_dup2 dX12_builds_88 rfl rfl ?_
        refine v_iald dX12_builds_89 hw5 (by lia) (by lia) ?_
        refine v_iconst (v := 1) dX12_builds_90 (by decide) ?_
        refine v_iadd dX12_builds_91 ?_
        refine v_iast dX12_builds_92 hw5 (by lia) (by lia) ?_
        refine V.md (Md.r5 hC) (Frm.tr hF (Frm.up (hC.kd_r5))) (fun M1 hC hF => ?_)
        obtain ⟨hMo, hw5, hw6, hw7, hw8, hw9, hw10, hw11, hw13, hw14, hw15, hw16, hw17, hw18, -⟩ := _root_.id hC
        refine v_iload_n dX12_builds_93 rfl rfl ?_
        exact v_iret dX12_builds_94 rfl ⟨Or.inl ⟨vdSledge_z hs9 hn9 h63, rfl, (by unfold mkK; rw [ui_n (by lia), ui_n (by lia), ui_n (by lia)] at hC; exact hC)⟩, hF⟩ (by omega) (by omega)
      · refine v_aload_n dX12_builds_43 rfl rfl ?_
        refine v_iconst (v := 3) dX12_builds_44 (by decide) ?_
        refine k_X12_74 dX12_builds_45 rfl (r_fail htr hC 3) hMo (Nat.le_of_ble_eq_true rfl) (by omega) (by omega) (Nat.le_of_ble_eq_true rfl) (fun r45 M9 h9 => ?_) (fun _ _ h9 => h9.elim)
        obtain ⟨rfl, hC, hF9⟩ := h9
        have hF := Frm.tr hF hF9
        exact v_iret dX12_builds_48 rfl ⟨Or.inr ⟨(by rw [vdSledge_4 hs9 hn9 (by lia)]; decide), rfl, (by rw [vdSledge_4 hs9 hn9 (by lia)]; exact hC)⟩, hF⟩ (by omega) (by omega)
    · refine v_aload_n dX12_builds_24 rfl rfl ?_
      refine v_iconst (v := 2) dX12_builds_25 (by decide) ?_
      refine k_X12_74 dX12_builds_26 rfl (r_fail htr hC 2) hMo (Nat.le_of_ble_eq_true rfl) (by omega) (by omega) (Nat.le_of_ble_eq_true rfl) (fun r26 M9 h9 => ?_) (fun _ _ h9 => h9.elim)
      obtain ⟨rfl, hC, hF9⟩ := h9
      have hF := Frm.tr hF hF9
      exact v_iret dX12_builds_29 rfl ⟨Or.inr ⟨(by rw [vdSledge_2 hs9 (b_f hq21)]; decide), rfl, (by rw [vdSledge_2 hs9 (b_f hq21)]; exact hC)⟩, hF⟩ (by omega) (by omega)
  · refine v_aload_n dX12_builds_8 rfl rfl ?_
    refine v_iconst (v := 1) dX12_builds_9 (by decide) ?_
    refine k_X12_74 dX12_builds_10 rfl (r_fail htr hC 1) hMo (Nat.le_of_ble_eq_true rfl) (by omega) (by omega) (Nat.le_of_ble_eq_true rfl) (fun r10 M9 h9 => ?_) (fun _ _ h9 => h9.elim)
    obtain ⟨rfl, hC, hF9⟩ := h9
    have hF := Frm.tr hF hF9
    exact v_iret dX12_builds_13 rfl ⟨Or.inr ⟨(by rw [vdSledge_1 (b_f hq5)]; decide), rfl, (by rw [vdSledge_1 (b_f hq5)]; exact hC)⟩, hF⟩ (by omega) (by omega)
