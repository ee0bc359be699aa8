/-! ===== the reference: the text, sign by sign ===== -/
/-- the sign at a place of the text, -1 behind its end -/
def sgN (tx : Int32 → Int32) (en he : Int32) : Int32 := if he < en then tx he else -1
theorem sgN_t {tx : Int32 → Int32} {en he : Int32} (h : he < en) : sgN tx en he = tx he := if_pos h
theorem sgN_f {tx : Int32 → Int32} {en he : Int32} (h : ¬ he < en) : sgN tx en he = -1 := if_neg h
/-- digits from a place on, at most f: where they end, their number -/
def rdD (tx : Int32 → Int32) (en : Int32) : Nat → Int32 → Int32 → Int32 × Int32
  | 0, he, n => (he, n)
  | f + 1, he, n => if 48 ≤ sgN tx en he ∧ sgN tx en he ≤ 57 then rdD tx en f (he + 1) (10 * n + sgN tx en he - 48) else (he, n)
theorem dX12_type_0 : decode cX12_type 0 = .ok (.aload_n 0, 1) := by decide +kernel
theorem dX12_type_1 : decode cX12_type 1 = .ok (.iload_n 1, 1) := by decide +kernel
theorem dX12_type_2 : decode cX12_type 2 = .ok (.bipush 32, 2) := by decide +kernel
theorem dX12_type_4 : decode cX12_type 4 = .ok (.bipush 126, 2) := by decide +kernel
theorem dX12_type_6 : decode cX12_type 6 = .ok (.invokestatic 66, 3) := by decide +kernel
theorem dX12_type_9 : decode cX12_type 9 = .ok (.ifCond .ne 7, 3) := by decide +kernel
theorem dX12_type_12 : decode cX12_type 12 = .ok (.iconst 1, 1) := by decide +kernel
theorem dX12_type_13 : decode cX12_type 13 = .ok (.goto 17, 3) := by decide +kernel
theorem dX12_type_16 : decode cX12_type 16 = .ok (.aload_n 0, 1) := by decide +kernel
theorem dX12_type_17 : decode cX12_type 17 = .ok (.getfield 199, 3) := by decide +kernel
theorem dX12_type_20 : decode cX12_type 20 = .ok (.bipush 60, 2) := by decide +kernel
theorem dX12_type_22 : decode cX12_type 22 = .ok (.if_icmp .ne 7, 3) := by decide +kernel
theorem dX12_type_25 : decode cX12_type 25 = .ok (.iconst 2, 1) := by decide +kernel
theorem dX12_type_26 : decode cX12_type 26 = .ok (.goto 4, 3) := by decide +kernel
theorem dX12_type_29 : decode cX12_type 29 = .ok (.iconst 0, 1) := by decide +kernel
theorem dX12_type_30 : decode cX12_type 30 = .ok (.putfield 56, 3) := by decide +kernel
theorem dX12_type_33 : decode cX12_type 33 = .ok (.aload_n 0, 1) := by decide +kernel
theorem dX12_type_34 : decode cX12_type 34 = .ok (.getfield 56, 3) := by decide +kernel
theorem dX12_type_37 : decode cX12_type 37 = .ok (.ifCond .eq 5, 3) := by decide +kernel
theorem dX12_type_40 : decode cX12_type 40 = .ok (.iconst 0, 1) := by decide +kernel
theorem dX12_type_41 : decode cX12_type 41 = .ok (.ireturn, 1) := by decide +kernel
theorem dX12_type_42 : decode cX12_type 42 = .ok (.aload_n 0, 1) := by decide +kernel
theorem dX12_type_43 : decode cX12_type 43 = .ok (.getfield 38, 3) := by decide +kernel
theorem dX12_type_46 : decode cX12_type 46 = .ok (.aload_n 0, 1) := by decide +kernel
theorem dX12_type_47 : decode cX12_type 47 = .ok (.getfield 199, 3) := by decide +kernel
theorem dX12_type_50 : decode cX12_type 50 = .ok (.iload_n 1, 1) := by decide +kernel
theorem dX12_type_51 : decode cX12_type 51 = .ok (.iastore, 1) := by decide +kernel
theorem dX12_type_52 : decode cX12_type 52 = .ok (.aload_n 0, 1) := by decide +kernel
theorem dX12_type_53 : decode cX12_type 53 = .ok (.dup, 1) := by decide +kernel
theorem dX12_type_54 : decode cX12_type 54 = .ok (.getfield 199, 3) := by decide +kernel
theorem dX12_type_57 : decode cX12_type 57 = .ok (.iconst 1, 1) := by decide +kernel
theorem dX12_type_58 : decode cX12_type 58 = .ok (.iadd, 1) := by decide +kernel
theorem dX12_type_59 : decode cX12_type 59 = .ok (.putfield 199, 3) := by decide +kernel
theorem dX12_type_62 : decode cX12_type 62 = .ok (.aload_n 0, 1) := by decide +kernel
theorem dX12_type_63 : decode cX12_type 63 = .ok (.getfield 199, 3) := by decide +kernel
theorem dX12_type_66 : decode cX12_type 66 = .ok (.ireturn, 1) := by decide +kernel
set_option maxRecDepth 100000 in
set_option maxHeartbeats 4000000 in
theorem r_type {l : Launch} {g : Nat → Nat} {M : LH} (htr : l.stackTraces = false) {kd : Nat → Nat} {r m : Nat} {w : Nat → Nat} {t ch ea fl sv bf tn he en ln wr dg : Int32} {v b4 sa pa fr th bs tx li lf to : Int32 → Int32} (hC : Md kd r M m w t ch ea fl sv bf tn he en ln wr dg v b4 sa pa fr th bs tx li lf to) (hn0 : 0 ≤ tn) (hn60 : tn ≤ 60) {c : Int32} : K_X12_type l g 1 0 0 [.ref m, .int c] M (RI (fun x M9 => (((32 ≤ c ∧ c ≤ 126) ∧ ¬ tn = 60 ∧ x = tn + 1 ∧ Md kd r M9 m w 0 ch ea fl sv bf (tn + 1) he en ln wr dg v b4 sa pa fr th bs (ui tx tn c) li lf to) ∨ ((32 ≤ c ∧ c ≤ 126) ∧ tn = 60 ∧ x = 0 ∧ Md kd r M9 m w 2 ch ea fl sv bf tn he en ln wr dg v b4 sa pa fr th bs tx li lf to) ∨ (¬ (32 ≤ c ∧ c ≤ 126) ∧ x = 0 ∧ Md kd r M9 m w 1 ch ea fl sv bf tn he en ln wr dg v b4 sa pa fr th bs tx li lf to)) ∧ Frm kd r M M9) nX) := by
  refine Ko_X12_type htr (fun X => ?_)
  obtain ⟨hMo, hw5, hw6, hw7, hw8, hw9, hw10, hw11, hw13, hw14, hw15, hw16, hw17, hw18, -⟩ := _root_.id hC
  have hF : Frm kd r M M := Frm.rf
  refine v_aload_n dX12_type_0 rfl rfl ?_
  refine v_iload_n dX12_type_1 rfl rfl ?_
  refine v_bipush (v := (32)) dX12_type_2 (by decide) ?_
  refine v_bipush (v := (126)) dX12_type_4 (by decide) ?_
  refine k_X12_66 dX12_type_6 rfl (r_isIn htr c 32 126) (Nat.le_of_ble_eq_true rfl) (by omega) (by omega) (Nat.le_of_ble_eq_true rfl) (fun r6 M9 h9 => ?_) (fun _ _ h9 => h9.elim)
  obtain ⟨rfl, e9⟩ := h9
  subst M9
  refine v_if_ne (tgt := 16) dX12_type_9 (by decide) (fun hq9 => ?_) (fun hq9 => ?_)
  · refine v_aload_n dX12_type_16 rfl rfl ?_
    refine gf_X12_199 dX12_type_17 rfl hMo ?_
    refine v_bipush (v := (60)) dX12_type_20 (by decide) ?_
    refine v_icmp_ne (tgt := 29) dX12_type_22 (by decide) (fun h22 => ?_) (fun h22 => ?_)
    · refine v_iconst (v := 0) dX12_type_29 (by decide) ?_
      refine pf_X12_56 dX12_type_30 rfl hMo ?_
      refine V.md (Md.sc hC) (Frm.tr hF (Frm.up (hC.kd_sc))) (fun M1 hC hF => ?_)
      obtain ⟨hMo, hw5, hw6, hw7, hw8, hw9, hw10, hw11, hw13, hw14, hw15, hw16, hw17, hw18, -⟩ := _root_.id hC
      refine v_aload_n dX12_type_33 rfl rfl ?_
      refine gf_X12_56 dX12_type_34 rfl hMo ?_
      refine v_if_eq (tgt := 42) dX12_type_37 (by decide) (fun h37 => ?_) (fun h37 => ?_)
      · refine v_aload_n dX12_type_42 rfl rfl ?_
        refine gf_X12_38 dX12_type_43 rfl hMo ?_
        refine v_aload_n dX12_type_46 rfl rfl ?_
        refine gf_X12_199 dX12_type_47 rfl hMo ?_
        refine v_iload_n dX12_type_50 rfl rfl ?_
        refine v_iast dX12_type_51 hw13 (by lia) (by first | (exfalso; revert h37; decide) | lia) ?_
        refine V.md (Md.r13 hC) (Frm.tr hF (Frm.up (hC.kd_r13))) (fun M1 hC hF => ?_)
        obtain ⟨hMo, hw5, hw6, hw7, hw8, hw9, hw10, hw11, hw13, hw14, hw15, hw16, hw17, hw18, -⟩ := _root_.id hC
        refine v_aload_n dX12_type_52 rfl rfl ?_
        refine v_dup dX12_type_53 rfl ?_
        refine gf_X12_199 dX12_type_54 rfl hMo ?_
        refine v_iconst (v := 1) dX12_type_57 (by decide) ?_
        refine v_iadd dX12_type_58 ?_
        refine pf_X12_199 dX12_type_59 rfl hMo ?_
        refine V.md (Md.sc hC) (Frm.tr hF (Frm.up (hC.kd_sc))) (fun M1 hC hF => ?_)
        obtain ⟨hMo, hw5, hw6, hw7, hw8, hw9, hw10, hw11, hw13, hw14, hw15, hw16, hw17, hw18, -⟩ := _root_.id hC
        refine v_aload_n dX12_type_62 rfl rfl ?_
        refine gf_X12_199 dX12_type_63 rfl hMo ?_
        exact v_iret dX12_type_66 rfl (by first | (exfalso; revert h37; decide) | exact ⟨Or.inl ⟨b_t hq9, h22, rfl, hC⟩, hF⟩ | exact ⟨Or.inr (Or.inl ⟨b_t hq9, (by first | exact h22 | exact Classical.not_not.mp h22), rfl, hC⟩), hF⟩ | exact ⟨Or.inr (Or.inr ⟨b_f hq9, rfl, hC⟩), hF⟩) (by omega) (by omega)
      · refine v_iconst (v := 0) dX12_type_40 (by decide) ?_
        exact v_iret dX12_type_41 rfl (by first | (exfalso; revert h37; decide) | exact ⟨Or.inl ⟨b_t hq9, h22, rfl, hC⟩, hF⟩ | exact ⟨Or.inr (Or.inl ⟨b_t hq9, (by first | exact h22 | exact Classical.not_not.mp h22), rfl, hC⟩), hF⟩ | exact ⟨Or.inr (Or.inr ⟨b_f hq9, rfl, hC⟩), hF⟩) (by omega) (by omega)
    · refine v_iconst (v := 2) dX12_type_25 (by decide) ?_
      refine v_goto (tgt := 30) dX12_type_26 (by decide) ?_
      refine pf_X12_56 dX12_type_30 rfl hMo ?_
      refine V.md (Md.sc hC) (Frm.tr hF (Frm.up (hC.kd_sc))) (fun M1 hC hF => ?_)
      obtain ⟨hMo, hw5, hw6, hw7, hw8, hw9, hw10, hw11, hw13, hw14, hw15, hw16, hw17, hw18, -⟩ := _root_.id hC
      refine v_aload_n dX12_type_33 rfl rfl ?_
      refine gf_X12_56 dX12_type_34 rfl hMo ?_
      refine v_if_eq (tgt := 42) dX12_type_37 (by decide) (fun h37 => ?_) (fun h37 => ?_)
      · refine v_aload_n dX12_type_42 rfl rfl ?_
        refine gf_X12_38 dX12_type_43 rfl hMo ?_
        refine v_aload_n dX12_type_46 rfl rfl ?_
        refine gf_X12_199 dX12_type_47 rfl hMo ?_
        refine v_iload_n dX12_type_50 rfl rfl ?_
        refine v_iast dX12_type_51 hw13 (by lia) (by first | (exfalso; revert h37; decide) | lia) ?_
        refine V.md (Md.r13 hC) (Frm.tr hF (Frm.up (hC.kd_r13))) (fun M1 hC hF => ?_)
        obtain ⟨hMo, hw5, hw6, hw7, hw8, hw9, hw10, hw11, hw13, hw14, hw15, hw16, hw17, hw18, -⟩ := _root_.id hC
        refine v_aload_n dX12_type_52 rfl rfl ?_
        refine v_dup dX12_type_53 rfl ?_
        refine gf_X12_199 dX12_type_54 rfl hMo ?_
        refine v_iconst (v := 1) dX12_type_57 (by decide) ?_
        refine v_iadd dX12_type_58 ?_
        refine pf_X12_199 dX12_type_59 rfl hMo ?_
        refine V.md (Md.sc hC) (Frm.tr hF (Frm.up (hC.kd_sc))) (fun M1 hC hF => ?_)
        obtain ⟨hMo, hw5, hw6, hw7, hw8, hw9, hw10, hw11, hw13, hw14, hw15, hw16, hw17, hw18, -⟩ := _root_.id hC
        refine v_aload_n dX12_type_62 rfl rfl ?_
        refine gf_X12_199 dX12_type_63 rfl hMo ?_
        exact v_iret dX12_type_66 rfl (by first | (exfalso; revert h37; decide) | exact ⟨Or.inl ⟨b_t hq9, h22, rfl, hC⟩, hF⟩ | exact ⟨Or.inr (Or.inl ⟨b_t hq9, (by first | exact h22 | exact Classical.not_not.mp h22), rfl, hC⟩), hF⟩ | exact ⟨Or.inr (Or.inr ⟨b_f hq9, rfl, hC⟩), hF⟩) (by omega) (by omega)
      · refine v_iconst (v := 0) dX12_type_40 (by decide) ?_
        exact v_iret dX12_type_41 rfl (by first | (exfalso; revert h37; decide) | exact ⟨Or.inl ⟨b_t hq9, h22, rfl, hC⟩, hF⟩ | exact ⟨Or.inr (Or.inl ⟨b_t hq9, (by first | exact h22 | exact Classical.not_not.mp h22), rfl, hC⟩), hF⟩ | exact ⟨Or.inr (Or.inr ⟨b_f hq9, rfl, hC⟩), hF⟩) (by omega) (by omega)
  · refine v_iconst (v := 1) dX12_type_12 (by decide) ?_
    refine v_goto (tgt := 30) dX12_type_13 (by decide) ?_
    refine pf_X12_56 dX12_type_30 rfl hMo ?_
    refine V.md (Md.sc hC) (Frm.tr hF (Frm.up (hC.kd_sc))) (fun M1 hC hF => ?_)
    obtain ⟨hMo, hw5, hw6, hw7, hw8, hw9, hw10, hw11, hw13, hw14, hw15, hw16, hw17, hw18, -⟩ := _root_.id hC
    refine v_aload_n dX12_type_33 rfl rfl ?_
    refine gf_X12_56 dX12_type_34 rfl hMo ?_
    refine v_if_eq (tgt := 42) dX12_type_37 (by decide) (fun h37 => ?_) (fun h37 => ?_)
    · refine v_aload_n dX12_type_42 rfl rfl ?_
      refine gf_X12_38 dX12_type_43 rfl hMo ?_
      refine v_aload_n dX12_type_46 rfl rfl ?_
      refine gf_X12_199 dX12_type_47 rfl hMo ?_
      refine v_iload_n dX12_type_50 rfl rfl ?_
      refine v_iast dX12_type_51 hw13 (by lia) (by first | (exfalso; revert h37; decide) | lia) ?_
      refine V.md (Md.r13 hC) (Frm.tr hF (Frm.up (hC.kd_r13))) (fun M1 hC hF => ?_)
      obtain ⟨hMo, hw5, hw6, hw7, hw8, hw9, hw10, hw11, hw13, hw14, hw15, hw16, hw17, hw18, -⟩ := _root_.id hC
      refine v_aload_n dX12_type_52 rfl rfl ?_
      refine v_dup dX12_type_53 rfl ?_
      refine gf_X12_199 dX12_type_54 rfl hMo ?_
      refine v_iconst (v := 1) dX12_type_57 (by decide) ?_
      refine v_iadd dX12_type_58 ?_
      refine pf_X12_199 dX12_type_59 rfl hMo ?_
      refine V.md (Md.sc hC) (Frm.tr hF (Frm.up (hC.kd_sc))) (fun M1 hC hF => ?_)
      obtain ⟨hMo, hw5, hw6, hw7, hw8, hw9, hw10, hw11, hw13, hw14, hw15, hw16, hw17, hw18, -⟩ := _root_.id hC
      refine v_aload_n dX12_type_62 rfl rfl ?_
      refine gf_X12_199 dX12_type_63 rfl hMo ?_
      exact v_iret dX12_type_66 rfl (by first | (exfalso; revert h37; decide) | exact ⟨Or.inl ⟨b_t hq9, h22, rfl, hC⟩, hF⟩ | exact ⟨Or.inr (Or.inl ⟨b_t hq9, (by first | exact h22 | exact Classical.not_not.mp h22), rfl, hC⟩), hF⟩ | exact ⟨Or.inr (Or.inr ⟨b_f hq9, rfl, hC⟩), hF⟩) (by omega) (by omega)
    · refine v_iconst (v := 0) dX12_type_40 (by decide) ?_
      exact v_iret dX12_type_41 rfl (by first | (exfalso; revert h37; decide) | exact ⟨Or.inl ⟨b_t hq9, h22, rfl, hC⟩, hF⟩ | exact ⟨Or.inr (Or.inl ⟨b_t hq9, (by first | exact h22 | exact Classical.not_not.mp h22), rfl, hC⟩), hF⟩ | exact ⟨Or.inr (Or.inr ⟨b_f hq9, rfl, hC⟩), hF⟩) (by omega) (by omega)
theorem dX12_sign_0 : decode cX12_sign 0 = .ok (.aload_n 0, 1) := by decide +kernel
theorem dX12_sign_1 : decode cX12_sign 1 = .ok (.getfield 202, 3) := by decide +kernel
theorem dX12_sign_4 : decode cX12_sign 4 = .ok (.aload_n 0, 1) := by decide +kernel
theorem dX12_sign_5 : decode cX12_sign 5 = .ok (.getfield 205, 3) := by decide +kernel
theorem dX12_sign_8 : decode cX12_sign 8 = .ok (.if_icmp .ge 15, 3) := by decide +kernel
theorem dX12_sign_11 : decode cX12_sign 11 = .ok (.aload_n 0, 1) := by decide +kernel
theorem dX12_sign_12 : decode cX12_sign 12 = .ok (.getfield 38, 3) := by decide +kernel
theorem dX12_sign_15 : decode cX12_sign 15 = .ok (.aload_n 0, 1) := by decide +kernel
theorem dX12_sign_16 : decode cX12_sign 16 = .ok (.getfield 202, 3) := by decide +kernel
theorem dX12_sign_19 : decode cX12_sign 19 = .ok (.iaload, 1) := by decide +kernel
theorem dX12_sign_20 : decode cX12_sign 20 = .ok (.goto 4, 3) := by decide +kernel
theorem dX12_sign_23 : decode cX12_sign 23 = .ok (.iconst (-1), 1) := by decide +kernel
theorem dX12_sign_24 : decode cX12_sign 24 = .ok (.ireturn, 1) := by decide +kernel
set_option maxRecDepth 100000 in
set_option maxHeartbeats 4000000 in
theorem r_sign {l : Launch} {g : Nat → Nat} {M : LH} (htr : l.stackTraces = false) {kd : Nat → Nat} {r m : Nat} {w : Nat → Nat} {t ch ea fl sv bf tn he en ln wr dg : Int32} {v b4 sa pa fr th bs tx li lf to : Int32 → Int32} (hC : Md kd r M m w t ch ea fl sv bf tn he en ln wr dg v b4 sa pa fr th bs tx li lf to) (e0 : 0 ≤ he) (e60 : en ≤ 60) : K_X12_sign l g 0 0 0 [.ref m] M (RI (fun x M9 => x = sgN tx en he ∧ M9 = M) nX) := by
  refine Ko_X12_sign htr (fun X => ?_)
  obtain ⟨hMo, hw5, hw6, hw7, hw8, hw9, hw10, hw11, hw13, hw14, hw15, hw16, hw17, hw18, -⟩ := _root_.id hC
  have hF : Frm kd r M M := Frm.rf
  refine v_aload_n dX12_sign_0 rfl rfl ?_
  refine gf_X12_202 dX12_sign_1 rfl hMo ?_
  refine v_aload_n dX12_sign_4 rfl rfl ?_
  refine gf_X12_205 dX12_sign_5 rfl hMo ?_
  refine v_icmp_ge (tgt := 23) dX12_sign_8 (by decide) (fun h8 => ?_) (fun h8 => ?_)
  · refine v_iconst (v := (-1)) dX12_sign_23 (by decide) ?_
    exact v_iret dX12_sign_24 rfl (by first | exact ⟨(sgN_t (Int32.not_le.mp h8)).symm, rfl⟩ | exact ⟨(sgN_f (Int32.not_lt.mpr h8)).symm, rfl⟩) (by omega) (by omega)
  · refine v_aload_n dX12_sign_11 rfl rfl ?_
    refine gf_X12_38 dX12_sign_12 rfl hMo ?_
    refine v_aload_n dX12_sign_15 rfl rfl ?_
    refine gf_X12_202 dX12_sign_16 rfl hMo ?_
    refine v_iald dX12_sign_19 hw13 (by lia) (by lia) ?_
    refine v_goto (tgt := 24) dX12_sign_20 (by decide) ?_
    exact v_iret dX12_sign_24 rfl (by first | exact ⟨(sgN_t (Int32.not_le.mp h8)).symm, rfl⟩ | exact ⟨(sgN_f (Int32.not_lt.mpr h8)).symm, rfl⟩) (by omega) (by omega)
theorem dX12_mark_0 : decode cX12_mark 0 = .ok (.aload_n 0, 1) := by decide +kernel
theorem dX12_mark_1 : decode cX12_mark 1 = .ok (.getfield 208, 3) := by decide +kernel
theorem dX12_mark_4 : decode cX12_mark 4 = .ok (.ifCond .eq 4, 3) := by decide +kernel
theorem dX12_mark_7 : decode cX12_mark 7 = .ok (.return_, 1) := by decide +kernel
theorem dX12_mark_8 : decode cX12_mark 8 = .ok (.aload_n 0, 1) := by decide +kernel
theorem dX12_mark_9 : decode cX12_mark 9 = .ok (.aload_n 0, 1) := by decide +kernel
theorem dX12_mark_10 : decode cX12_mark 10 = .ok (.invokevirtual 212, 3) := by decide +kernel
theorem dX12_mark_13 : decode cX12_mark 13 = .ok (.iload_n 1, 1) := by decide +kernel
theorem dX12_mark_14 : decode cX12_mark 14 = .ok (.if_icmp .eq 7, 3) := by decide +kernel
theorem dX12_mark_17 : decode cX12_mark 17 = .ok (.iconst 1, 1) := by decide +kernel
theorem dX12_mark_18 : decode cX12_mark 18 = .ok (.goto 4, 3) := by decide +kernel
theorem dX12_mark_21 : decode cX12_mark 21 = .ok (.iconst 0, 1) := by decide +kernel
theorem dX12_mark_22 : decode cX12_mark 22 = .ok (.putfield 208, 3) := by decide +kernel
theorem dX12_mark_25 : decode cX12_mark 25 = .ok (.aload_n 0, 1) := by decide +kernel
theorem dX12_mark_26 : decode cX12_mark 26 = .ok (.dup, 1) := by decide +kernel
theorem dX12_mark_27 : decode cX12_mark 27 = .ok (.getfield 202, 3) := by decide +kernel
theorem dX12_mark_30 : decode cX12_mark 30 = .ok (.aload_n 0, 1) := by decide +kernel
theorem dX12_mark_31 : decode cX12_mark 31 = .ok (.getfield 208, 3) := by decide +kernel
theorem dX12_mark_34 : decode cX12_mark 34 = .ok (.ifCond .eq 7, 3) := by decide +kernel
theorem dX12_mark_37 : decode cX12_mark 37 = .ok (.iconst 0, 1) := by decide +kernel
theorem dX12_mark_38 : decode cX12_mark 38 = .ok (.goto 4, 3) := by decide +kernel
theorem dX12_mark_41 : decode cX12_mark 41 = .ok (.iconst 1, 1) := by decide +kernel
theorem dX12_mark_42 : decode cX12_mark 42 = .ok (.iadd, 1) := by decide +kernel
theorem dX12_mark_43 : decode cX12_mark 43 = .ok (.putfield 202, 3) := by decide +kernel
theorem dX12_mark_46 : decode cX12_mark 46 = .ok (.return_, 1) := by decide +kernel
set_option maxRecDepth 100000 in
set_option maxHeartbeats 4000000 in
theorem r_mark {l : Launch} {g : Nat → Nat} {M : LH} (htr : l.stackTraces = false) {kd : Nat → Nat} {r m : Nat} {w : Nat → Nat} {t ch ea fl sv bf tn he en ln wr dg : Int32} {v b4 sa pa fr th bs tx li lf to : Int32 → Int32} (hC : Md kd r M m w t ch ea fl sv bf tn he en ln wr dg v b4 sa pa fr th bs tx li lf to) (e0 : 0 ≤ he) (e60 : en ≤ 60) (c : Int32) : K_X12_mark l g 1 0 0 [.ref m, .int c] M (RV (fun M9 => ((¬ wr = 0 ∧ Md kd r M9 m w t ch ea fl sv bf tn he en ln wr dg v b4 sa pa fr th bs tx li lf to) ∨ (wr = 0 ∧ sgN tx en he = c ∧ Md kd r M9 m w t ch ea fl sv bf tn (he + 1) en ln 0 dg v b4 sa pa fr th bs tx li lf to) ∨ (wr = 0 ∧ ¬ sgN tx en he = c ∧ Md kd r M9 m w t ch ea fl sv bf tn he en ln 1 dg v b4 sa pa fr th bs tx li lf to)) ∧ Frm kd r M M9) nX) := by
  refine Ko_X12_mark htr (fun X => ?_)
  obtain ⟨hMo, hw5, hw6, hw7, hw8, hw9, hw10, hw11, hw13, hw14, hw15, hw16, hw17, hw18, -⟩ := _root_.id hC
  have hF : Frm kd r M M := Frm.rf
  refine v_aload_n dX12_mark_0 rfl rfl ?_
  refine gf_X12_208 dX12_mark_1 rfl hMo ?_
  refine v_if_eq (tgt := 8) dX12_mark_4 (by decide) (fun h4 => ?_) (fun h4 => ?_)
  · refine v_aload_n dX12_mark_8 rfl rfl ?_
    refine v_aload_n dX12_mark_9 rfl rfl ?_
    refine k_X12_212 dX12_mark_10 rfl (r_sign htr hC e0 e60) hMo (Nat.le_of_ble_eq_true rfl) (by omega) (by omega) (Nat.le_of_ble_eq_true rfl) (fun r10 M9 h9 => ?_) (fun _ _ h9 => h9.elim)
    obtain ⟨rfl, e9⟩ := h9
    subst M9
    refine v_iload_n dX12_mark_13 rfl rfl ?_
    refine v_icmp_eq (tgt := 21) dX12_mark_14 (by decide) (fun h14 => ?_) (fun h14 => ?_)
    · refine v_iconst (v := 0) dX12_mark_21 (by decide) ?_
      refine pf_X12_208 dX12_mark_22 rfl (by first | rfl | assumption) (by first | rfl | assumption) hMo ?_
      refine V.md (Md.sc hC) (Frm.tr hF (Frm.up (hC.kd_sc))) (fun M1 hC hF => ?_)
      obtain ⟨hMo, hw5, hw6, hw7, hw8, hw9, hw10, hw11, hw13, hw14, hw15, hw16, hw17, hw18, -⟩ := _root_.id hC
      refine v_aload_n dX12_mark_25 rfl rfl ?_
      refine v_dup dX12_mark_26 rfl ?_
      refine gf_X12_202 dX12_mark_27 rfl hMo ?_
      refine v_aload_n dX12_mark_30 rfl rfl ?_
      refine gf_X12_208 dX12_mark_31 rfl hMo ?_
      refine v_if_eq (tgt := 41) dX12_mark_34 (by decide) (fun h34 => ?_) (fun h34 => ?_)
      · refine v_iconst (v := 1) dX12_mark_41 (by decide) ?_
        refine v_iadd dX12_mark_42 ?_
        refine pf_X12_202 dX12_mark_43 rfl hMo ?_
        refine V.md (Md.sc hC) (Frm.tr hF (Frm.up (hC.kd_sc))) (fun M1 hC hF => ?_)
        obtain ⟨hMo, hw5, hw6, hw7, hw8, hw9, hw10, hw11, hw13, hw14, hw15, hw16, hw17, hw18, -⟩ := _root_.id hC
        exact v_vret dX12_mark_46 rfl (by first | (exfalso; revert h34; decide) | exact ⟨Or.inl ⟨h4, hC⟩, hF⟩ | exact ⟨Or.inr (Or.inl ⟨h4, h14, hC⟩), hF⟩ | exact ⟨Or.inr (Or.inr ⟨h4, h14, (by rw [Int32.add_zero] at hC; exact hC)⟩), hF⟩) (by omega) (by omega)
      · refine v_iconst (v := 0) dX12_mark_37 (by decide) ?_
        refine v_goto (tgt := 42) dX12_mark_38 (by decide) ?_
        refine v_iadd dX12_mark_42 ?_
        refine pf_X12_202 dX12_mark_43 rfl hMo ?_
        refine V.md (Md.sc hC) (Frm.tr hF (Frm.up (hC.kd_sc))) (fun M1 hC hF => ?_)
        obtain ⟨hMo, hw5, hw6, hw7, hw8, hw9, hw10, hw11, hw13, hw14, hw15, hw16, hw17, hw18, -⟩ := _root_.id hC
        exact v_vret dX12_mark_46 rfl (by first | (exfalso; revert h34; decide) | exact ⟨Or.inl ⟨h4, hC⟩, hF⟩ | exact ⟨Or.inr (Or.inl ⟨h4, h14, hC⟩), hF⟩ | exact ⟨Or.inr (Or.inr ⟨h4, h14, (by rw [Int32.add_zero] at hC; exact hC)⟩), hF⟩) (by omega) (by omega)
    · refine v_iconst (v := 1) dX12_mark_17 (by decide) ?_
      refine v_goto (tgt := 22) dX12_mark_18 (by decide) ?_
      refine pf_X12_208 dX12_mark_22 rfl (by first | rfl | assumption) (by first | rfl | assumption) hMo ?_
      refine V.md (Md.sc hC) (Frm.tr hF (Frm.up (hC.kd_sc))) (fun M1 hC hF => ?_)
      obtain ⟨hMo, hw5, hw6, hw7, hw8, hw9, hw10, hw11, hw13, hw14, hw15, hw16, hw17, hw18, -⟩ := _root_.id hC
      refine v_aload_n dX12_mark_25 rfl rfl ?_
      refine v_dup dX12_mark_26 rfl ?_
      refine gf_X12_202 dX12_mark_27 rfl hMo ?_
      refine v_aload_n dX12_mark_30 rfl rfl ?_
      refine gf_X12_208 dX12_mark_31 rfl hMo ?_
      refine v_if_eq (tgt := 41) dX12_mark_34 (by decide) (fun h34 => ?_) (fun h34 => ?_)
      · refine v_iconst (v := 1) dX12_mark_41 (by decide) ?_
        refine v_iadd dX12_mark_42 ?_
        refine pf_X12_202 dX12_mark_43 rfl hMo ?_
        refine V.md (Md.sc hC) (Frm.tr hF (Frm.up (hC.kd_sc))) (fun M1 hC hF => ?_)
        obtain ⟨hMo, hw5, hw6, hw7, hw8, hw9, hw10, hw11, hw13, hw14, hw15, hw16, hw17, hw18, -⟩ := _root_.id hC
        exact v_vret dX12_mark_46 rfl (by first | (exfalso; revert h34; decide) | exact ⟨Or.inl ⟨h4, hC⟩, hF⟩ | exact ⟨Or.inr (Or.inl ⟨h4, h14, hC⟩), hF⟩ | exact ⟨Or.inr (Or.inr ⟨h4, h14, (by rw [Int32.add_zero] at hC; exact hC)⟩), hF⟩) (by omega) (by omega)
      · refine v_iconst (v := 0) dX12_mark_37 (by decide) ?_
        refine v_goto (tgt := 42) dX12_mark_38 (by decide) ?_
        refine v_iadd dX12_mark_42 ?_
        refine pf_X12_202 dX12_mark_43 rfl hMo ?_
        refine V.md (Md.sc hC) (Frm.tr hF (Frm.up (hC.kd_sc))) (fun M1 hC hF => ?_)
        obtain ⟨hMo, hw5, hw6, hw7, hw8, hw9, hw10, hw11, hw13, hw14, hw15, hw16, hw17, hw18, -⟩ := _root_.id hC
        exact v_vret dX12_mark_46 rfl (by first | (exfalso; revert h34; decide) | exact ⟨Or.inl ⟨h4, hC⟩, hF⟩ | exact ⟨Or.inr (Or.inl ⟨h4, h14, hC⟩), hF⟩ | exact ⟨Or.inr (Or.inr ⟨h4, h14, (by rw [Int32.add_zero] at hC; exact hC)⟩), hF⟩) (by omega) (by omega)
  · exact v_vret dX12_mark_7 rfl (by first | (exfalso; revert h34; decide) | exact ⟨Or.inl ⟨h4, hC⟩, hF⟩ | exact ⟨Or.inr (Or.inl ⟨h4, h14, hC⟩), hF⟩ | exact ⟨Or.inr (Or.inr ⟨h4, h14, (by rw [Int32.add_zero] at hC; exact hC)⟩), hF⟩) (by omega) (by omega)
