/-! ===== the face: the calls that change the post ===== -/
theorem vd_lt {σ : Int32 → Int32} {s t n w e k id : Int32} : vdStation σ < 6 ∧ vdRoad σ s t n < 6 ∧ vdSledge σ s n < 6 ∧ vdLetter σ s t w e n < 6 ∧ vdPutOn σ k id < 6 ∧ vdTakeOff σ k id < 6 ∧ vdBest σ k < 6 ∧ vdDeg n < 6 ∧ vdHrs n < 6 ∧ vdGo σ k t w < 6 := by
  unfold vdStation vdRoad vdSledge vdLetter vdPutOn vdTakeOff vdBest vdDeg vdHrs vdGo
  refine ⟨?_, ?_, ?_, ?_, ?_, ?_, ?_, ?_, ?_, ?_⟩ <;> (repeat' split) <;> decide
theorem dX11_addStation_0 : decode cX11_addStation 0 = .ok (.aload_n 0, 1) := by decide +kernel
theorem dX11_addStation_1 : decode cX11_addStation 1 = .ok (.getfield 10, 3) := by decide +kernel
theorem dX11_addStation_4 : decode cX11_addStation 4 = .ok (.invokevirtual 55, 3) := by decide +kernel
theorem dX11_addStation_7 : decode cX11_addStation 7 = .ok (.invokestatic 59, 3) := by decide +kernel
theorem dX11_addStation_10 : decode cX11_addStation 10 = .ok (.aload_n 0, 1) := by decide +kernel
theorem dX11_addStation_11 : decode cX11_addStation 11 = .ok (.aload_n 0, 1) := by decide +kernel
theorem dX11_addStation_12 : decode cX11_addStation 12 = .ok (.getfield 20, 3) := by decide +kernel
theorem dX11_addStation_15 : decode cX11_addStation 15 = .ok (.invokevirtual 63, 3) := by decide +kernel
theorem dX11_addStation_18 : decode cX11_addStation 18 = .ok (.aload_n 0, 1) := by decide +kernel
theorem dX11_addStation_19 : decode cX11_addStation 19 = .ok (.getfield 10, 3) := by decide +kernel
theorem dX11_addStation_22 : decode cX11_addStation 22 = .ok (.invokevirtual 67, 3) := by decide +kernel
theorem dX11_addStation_25 : decode cX11_addStation 25 = .ok (.ireturn, 1) := by decide +kernel
set_option maxRecDepth 100000 in
set_option maxHeartbeats 4000000 in
theorem f_addStation {l : Launch} {g : Nat → Nat} {M : LH} (htr : l.stackTraces = false) {kd : Nat → Nat} {p : Nat} {q a : Nat → Nat} {e8 : Int32 → Nat} {v : Int32 → Int32} {sv : Int32} {sa : Int32 → Int32} {ch : Int32} {pa tx : Int32 → Int32} {tn : Int32} {Ls : List Int32} {ea fl : Int32} (hP : Pg kd M p q a e8 v sv sa ch pa tx tn Ls ea fl) : K_X11_addStation l g 5 1 6 [.ref p] M (RI (fun x M9 => vdStation v = 0 ∧ x = v 5 ∧ ∃ pa', PaS ch pa v pa' ∧ Pg kd M9 p q a e8 (ui v 5 (v 5 + 1)) sv sa ((if ch = 8 then 7 else ch) + 1) pa' tx tn Ls ea fl ∧ F30 kd M M9) (fun E M9 => ¬ vdStation v = 0 ∧ E = exV (vdStation v) ∧ Pg kd M9 p q a e8 v sv sa ch pa tx tn Ls ea fl ∧ F30 kd M M9)) := by
  refine Ko_X11_addStation htr (fun X => ?_)
  obtain ⟨hs, old, hB, hR⟩ := _root_.id hP
  obtain ⟨hO, hE8, hkp, hk3, ⟨ad, sl, le, fg, tp, F, hC⟩, hK, hS2, hS3, hS8, hRO⟩ := _root_.id hB
  have hX0 : StX kd 1 M (a 0) v := ⟨ad, sl, le, fg, tp, F, hC⟩
  obtain ⟨hSt, hRo, hSR, hLR, hSl, hLe, hkd, hinj, ⟨hfg, hRd, hSd, hLt⟩, hG⟩ := _root_.id hC
  obtain ⟨hDk, hDs, ⟨f1, hB1⟩, ⟨f2, hB2⟩, hBl, ⟨f3, hB3⟩, hRt, ⟨f4, hB4⟩, hkD, hn34, hDr⟩ := _root_.id hK
  obtain ⟨hg1, hg2, hg3, hg4, hg5, hg6, hg7, hg8, hgL, hgS, hgR, hgI, hgN, hg0⟩ := _root_.id hG
  refine v_aload_n dX11_addStation_0 rfl rfl ?_
  refine gf_X11_10 dX11_addStation_1 rfl hO ?_
  refine k_X11_55 dX11_addStation_4 rfl (c_judgeStation htr hC hK  ) hDk (Nat.le_of_ble_eq_true rfl) (by omega) (by omega) (Nat.le_of_ble_eq_true rfl) (fun r4 M9 h9 => ?_) (fun _ _ h9 => h9.elim)
  obtain ⟨rfl, e9⟩ := h9
  subst M9
  refine k_X11_59 dX11_addStation_7 rfl (c_demandFine htr (vd_lt (σ := v) (s := 0) (t := 0) (n := 0) (w := 0) (e := 0) (k := 0) (id := 0)).1) (Nat.le_of_ble_eq_true rfl) (by omega) (by omega) (Nat.le_of_ble_eq_true rfl) (fun M9 h9 => ?_) (fun _ _ h9 => by obtain ⟨h91, rfl, rfl⟩ := h9; exact VX.out ⟨h91, rfl, hP, F30.rf⟩ (by omega) (by omega))
  obtain ⟨hok, e9⟩ := h9
  subst M9
  refine v_aload_n dX11_addStation_10 rfl rfl ?_
  refine v_aload_n dX11_addStation_11 rfl rfl ?_
  refine gf_X11_20 dX11_addStation_12 rfl hO ?_
  refine k_X11_63 dX11_addStation_15 rfl (c_remember htr hB hR hX0 (by decide)) hO (Nat.le_of_ble_eq_true rfl) (by omega) (by omega) (Nat.le_of_ble_eq_true rfl) (fun M9 h9 => ?_) (fun _ _ h9 => h9.elim)
  obtain ⟨pa1, hPa, hP, hF⟩ := h9
  obtain ⟨hs, old, hB, hR⟩ := _root_.id hP
  obtain ⟨hO, hE8, hkp, hk3, ⟨ad, sl, le, fg, tp, F, hC⟩, hK, hS2, hS3, hS8, hRO⟩ := _root_.id hB
  obtain ⟨hSt, hRo, hSR, hLR, hSl, hLe, hkd, hinj, ⟨hfg, hRd, hSd, hLt⟩, hG⟩ := _root_.id hC
  obtain ⟨hDk, hDs, ⟨f1, hB1⟩, ⟨f2, hB2⟩, hBl, ⟨f3, hB3⟩, hRt, ⟨f4, hB4⟩, hkD, hn34, hDr⟩ := _root_.id hK
  obtain ⟨hg1, hg2, hg3, hg4, hg5, hg6, hg7, hg8, hgL, hgS, hgR, hgI, hgN, hg0⟩ := _root_.id hG
  have o1 := vdStation_0 hok
  refine v_aload_n dX11_addStation_18 rfl rfl ?_
  refine gf_X11_10 dX11_addStation_19 rfl hO ?_
  refine k_X11_67 dX11_addStation_22 rfl (c_makeStation htr hC hK o1) hDk (Nat.le_of_ble_eq_true rfl) (by omega) (by omega) (Nat.le_of_ble_eq_true rfl) (fun r22 M9 h9 => ?_) (fun _ _ h9 => h9.elim)
  obtain ⟨rfl, t9, f9⟩ := h9
  have hQ := hP.st f9 ⟨_, _, _, _, _, _, t9⟩
  have hF9 := hF.tr (Frm.f30 f9 (by decide))
  exact v_iret dX11_addStation_25 rfl ⟨hok, rfl, pa1, hPa, hQ, hF9⟩ (by omega) (by omega)
theorem dX11_setRoad_0 : decode cX11_setRoad 0 = .ok (.aload_n 0, 1) := by decide +kernel
theorem dX11_setRoad_1 : decode cX11_setRoad 1 = .ok (.getfield 10, 3) := by decide +kernel
theorem dX11_setRoad_4 : decode cX11_setRoad 4 = .ok (.iload_n 1, 1) := by decide +kernel
theorem dX11_setRoad_5 : decode cX11_setRoad 5 = .ok (.iload_n 2, 1) := by decide +kernel
theorem dX11_setRoad_6 : decode cX11_setRoad 6 = .ok (.iload_n 3, 1) := by decide +kernel
theorem dX11_setRoad_7 : decode cX11_setRoad 7 = .ok (.invokevirtual 71, 3) := by decide +kernel
theorem dX11_setRoad_10 : decode cX11_setRoad 10 = .ok (.invokestatic 59, 3) := by decide +kernel
theorem dX11_setRoad_13 : decode cX11_setRoad 13 = .ok (.aload_n 0, 1) := by decide +kernel
theorem dX11_setRoad_14 : decode cX11_setRoad 14 = .ok (.aload_n 0, 1) := by decide +kernel
theorem dX11_setRoad_15 : decode cX11_setRoad 15 = .ok (.getfield 20, 3) := by decide +kernel
theorem dX11_setRoad_18 : decode cX11_setRoad 18 = .ok (.invokevirtual 63, 3) := by decide +kernel
theorem dX11_setRoad_21 : decode cX11_setRoad 21 = .ok (.aload_n 0, 1) := by decide +kernel
theorem dX11_setRoad_22 : decode cX11_setRoad 22 = .ok (.getfield 10, 3) := by decide +kernel
theorem dX11_setRoad_25 : decode cX11_setRoad 25 = .ok (.iload_n 1, 1) := by decide +kernel
theorem dX11_setRoad_26 : decode cX11_setRoad 26 = .ok (.iload_n 2, 1) := by decide +kernel
theorem dX11_setRoad_27 : decode cX11_setRoad 27 = .ok (.iload_n 3, 1) := by decide +kernel
theorem dX11_setRoad_28 : decode cX11_setRoad 28 = .ok (.invokevirtual 75, 3) := by decide +kernel
theorem dX11_setRoad_31 : decode cX11_setRoad 31 = .ok (.ireturn, 1) := by decide +kernel
set_option maxRecDepth 100000 in
set_option maxHeartbeats 4000000 in
theorem f_setRoad {l : Launch} {g : Nat → Nat} {M : LH} (htr : l.stackTraces = false) {kd : Nat → Nat} {p : Nat} {q a : Nat → Nat} {e8 : Int32 → Nat} {v : Int32 → Int32} {sv : Int32} {sa : Int32 → Int32} {ch : Int32} {pa tx : Int32 → Int32} {tn : Int32} {Ls : List Int32} {ea fl : Int32} (hP : Pg kd M p q a e8 v sv sa ch pa tx tn Ls ea fl) (s t n : Int32) : K_X11_setRoad l g 5 1 6 [.ref p, .int s, .int t, .int n] M (RI (fun x M9 => vdRoad v s t n = 0 ∧ x = rd v s t ∧ ∃ pa', PaS ch pa v pa' ∧ Pg kd M9 p q a e8 (rdS v s t n) sv sa ((if ch = 8 then 7 else ch) + 1) pa' tx tn Ls ea fl ∧ F30 kd M M9) (fun E M9 => ¬ vdRoad v s t n = 0 ∧ E = exV (vdRoad v s t n) ∧ Pg kd M9 p q a e8 v sv sa ch pa tx tn Ls ea fl ∧ F30 kd M M9)) := by
  refine Ko_X11_setRoad htr (fun X => ?_)
  obtain ⟨hs, old, hB, hR⟩ := _root_.id hP
  obtain ⟨hO, hE8, hkp, hk3, ⟨ad, sl, le, fg, tp, F, hC⟩, hK, hS2, hS3, hS8, hRO⟩ := _root_.id hB
  have hX0 : StX kd 1 M (a 0) v := ⟨ad, sl, le, fg, tp, F, hC⟩
  obtain ⟨hSt, hRo, hSR, hLR, hSl, hLe, hkd, hinj, ⟨hfg, hRd, hSd, hLt⟩, hG⟩ := _root_.id hC
  obtain ⟨hDk, hDs, ⟨f1, hB1⟩, ⟨f2, hB2⟩, hBl, ⟨f3, hB3⟩, hRt, ⟨f4, hB4⟩, hkD, hn34, hDr⟩ := _root_.id hK
  obtain ⟨hg1, hg2, hg3, hg4, hg5, hg6, hg7, hg8, hgL, hgS, hgR, hgI, hgN, hg0⟩ := _root_.id hG
  refine v_aload_n dX11_setRoad_0 rfl rfl ?_
  refine gf_X11_10 dX11_setRoad_1 rfl hO ?_
  refine v_iload_n dX11_setRoad_4 rfl rfl ?_
  refine v_iload_n dX11_setRoad_5 rfl rfl ?_
  refine v_iload_n dX11_setRoad_6 rfl rfl ?_
  refine k_X11_71 dX11_setRoad_7 rfl (c_judgeRoad htr hC hK s t n) hDk (Nat.le_of_ble_eq_true rfl) (by omega) (by omega) (Nat.le_of_ble_eq_true rfl) (fun r7 M9 h9 => ?_) (fun _ _ h9 => h9.elim)
  obtain ⟨rfl, e9⟩ := h9
  subst M9
  refine k_X11_59 dX11_setRoad_10 rfl (c_demandFine htr (vd_lt (σ := v) (w := 0) (e := 0) (k := 0) (id := 0)).2.1) (Nat.le_of_ble_eq_true rfl) (by omega) (by omega) (Nat.le_of_ble_eq_true rfl) (fun M9 h9 => ?_) (fun _ _ h9 => by obtain ⟨h91, rfl, rfl⟩ := h9; exact VX.out ⟨h91, rfl, hP, F30.rf⟩ (by omega) (by omega))
  obtain ⟨hok, e9⟩ := h9
  subst M9
  refine v_aload_n dX11_setRoad_13 rfl rfl ?_
  refine v_aload_n dX11_setRoad_14 rfl rfl ?_
  refine gf_X11_20 dX11_setRoad_15 rfl hO ?_
  refine k_X11_63 dX11_setRoad_18 rfl (c_remember htr hB hR hX0 (by decide)) hO (Nat.le_of_ble_eq_true rfl) (by omega) (by omega) (Nat.le_of_ble_eq_true rfl) (fun M9 h9 => ?_) (fun _ _ h9 => h9.elim)
  obtain ⟨pa1, hPa, hP, hF⟩ := h9
  obtain ⟨hs, old, hB, hR⟩ := _root_.id hP
  obtain ⟨hO, hE8, hkp, hk3, ⟨ad, sl, le, fg, tp, F, hC⟩, hK, hS2, hS3, hS8, hRO⟩ := _root_.id hB
  obtain ⟨hSt, hRo, hSR, hLR, hSl, hLe, hkd, hinj, ⟨hfg, hRd, hSd, hLt⟩, hG⟩ := _root_.id hC
  obtain ⟨hDk, hDs, ⟨f1, hB1⟩, ⟨f2, hB2⟩, hBl, ⟨f3, hB3⟩, hRt, ⟨f4, hB4⟩, hkD, hn34, hDr⟩ := _root_.id hK
  obtain ⟨hg1, hg2, hg3, hg4, hg5, hg6, hg7, hg8, hgL, hgS, hgR, hgI, hgN, hg0⟩ := _root_.id hG
  obtain ⟨⟨o1, o2⟩, ⟨o3, o4⟩, o5, o6, o7⟩ := vdRoad_0 hok
  refine v_aload_n dX11_setRoad_21 rfl rfl ?_
  refine gf_X11_10 dX11_setRoad_22 rfl hO ?_
  refine v_iload_n dX11_setRoad_25 rfl rfl ?_
  refine v_iload_n dX11_setRoad_26 rfl rfl ?_
  refine v_iload_n dX11_setRoad_27 rfl rfl ?_
  refine k_X11_75 dX11_setRoad_28 rfl (c_makeRoad htr hC hK o1 o2 o3 o4 o5 o6 o7) hDk (Nat.le_of_ble_eq_true rfl) (by omega) (by omega) (Nat.le_of_ble_eq_true rfl) (fun r28 M9 h9 => ?_) (fun _ _ h9 => h9.elim)
  obtain ⟨rfl, F9, t9, f9⟩ := h9
  have hQ := hP.st f9 ⟨_, _, _, _, _, _, t9⟩
  have hF9 := hF.tr (Frm.f30 f9 (by decide))
  exact v_iret dX11_setRoad_31 rfl ⟨hok, rfl, pa1, hPa, hQ, hF9⟩ (by omega) (by omega)
theorem dX11_addSledge_0 : decode cX11_addSledge 0 = .ok (.aload_n 0, 1) := by decide +kernel
theorem dX11_addSledge_1 : decode cX11_addSledge 1 = .ok (.getfield 10, 3) := by decide +kernel
theorem dX11_addSledge_4 : decode cX11_addSledge 4 = .ok (.iload_n 1, 1) := by decide +kernel
theorem dX11_addSledge_5 : decode cX11_addSledge 5 = .ok (.iload_n 2, 1) := by decide +kernel
theorem dX11_addSledge_6 : decode cX11_addSledge 6 = .ok (.invokevirtual 79, 3) := by decide +kernel
theorem dX11_addSledge_9 : decode cX11_addSledge 9 = .ok (.invokestatic 59, 3) := by decide +kernel
theorem dX11_addSledge_12 : decode cX11_addSledge 12 = .ok (.aload_n 0, 1) := by decide +kernel
theorem dX11_addSledge_13 : decode cX11_addSledge 13 = .ok (.aload_n 0, 1) := by decide +kernel
theorem dX11_addSledge_14 : decode cX11_addSledge 14 = .ok (.getfield 20, 3) := by decide +kernel
theorem dX11_addSledge_17 : decode cX11_addSledge 17 = .ok (.invokevirtual 63, 3) := by decide +kernel
theorem dX11_addSledge_20 : decode cX11_addSledge 20 = .ok (.aload_n 0, 1) := by decide +kernel
theorem dX11_addSledge_21 : decode cX11_addSledge 21 = .ok (.getfield 10, 3) := by decide +kernel
theorem dX11_addSledge_24 : decode cX11_addSledge 24 = .ok (.iload_n 1, 1) := by decide +kernel
theorem dX11_addSledge_25 : decode cX11_addSledge 25 = .ok (.iload_n 2, 1) := by decide +kernel
theorem dX11_addSledge_26 : decode cX11_addSledge 26 = .ok (.invokevirtual 83, 3) := by decide +kernel
theorem dX11_addSledge_29 : decode cX11_addSledge 29 = .ok (.ireturn, 1) := by decide +kernel
set_option maxRecDepth 100000 in
set_option maxHeartbeats 4000000 in
theorem f_addSledge {l : Launch} {g : Nat → Nat} {M : LH} (htr : l.stackTraces = false) {kd : Nat → Nat} {p : Nat} {q a : Nat → Nat} {e8 : Int32 → Nat} {v : Int32 → Int32} {sv : Int32} {sa : Int32 → Int32} {ch : Int32} {pa tx : Int32 → Int32} {tn : Int32} {Ls : List Int32} {ea fl : Int32} (hP : Pg kd M p q a e8 v sv sa ch pa tx tn Ls ea fl) (s n : Int32) : K_X11_addSledge l g 5 1 6 [.ref p, .int s, .int n] M (RI (fun x M9 => vdSledge v s n = 0 ∧ x = v 6 ∧ ∃ pa', PaS ch pa v pa' ∧ Pg kd M9 p q a e8 (mkK v s n) sv sa ((if ch = 8 then 7 else ch) + 1) pa' tx tn Ls ea fl ∧ F30 kd M M9) (fun E M9 => ¬ vdSledge v s n = 0 ∧ E = exV (vdSledge v s n) ∧ Pg kd M9 p q a e8 v sv sa ch pa tx tn Ls ea fl ∧ F30 kd M M9)) := by
  refine Ko_X11_addSledge htr (fun X => ?_)
  obtain ⟨hs, old, hB, hR⟩ := _root_.id hP
  obtain ⟨hO, hE8, hkp, hk3, ⟨ad, sl, le, fg, tp, F, hC⟩, hK, hS2, hS3, hS8, hRO⟩ := _root_.id hB
  have hX0 : StX kd 1 M (a 0) v := ⟨ad, sl, le, fg, tp, F, hC⟩
  obtain ⟨hSt, hRo, hSR, hLR, hSl, hLe, hkd, hinj, ⟨hfg, hRd, hSd, hLt⟩, hG⟩ := _root_.id hC
  obtain ⟨hDk, hDs, ⟨f1, hB1⟩, ⟨f2, hB2⟩, hBl, ⟨f3, hB3⟩, hRt, ⟨f4, hB4⟩, hkD, hn34, hDr⟩ := _root_.id hK
  obtain ⟨hg1, hg2, hg3, hg4, hg5, hg6, hg7, hg8, hgL, hgS, hgR, hgI, hgN, hg0⟩ := _root_.id hG
  refine v_aload_n dX11_addSledge_0 rfl rfl ?_
  refine gf_X11_10 dX11_addSledge_1 rfl hO ?_
  refine v_iload_n dX11_addSledge_4 rfl rfl ?_
  refine v_iload_n dX11_addSledge_5 rfl rfl ?_
  refine k_X11_79 dX11_addSledge_6 rfl (c_judgeSledge htr hC hK s n) hDk (Nat.le_of_ble_eq_true rfl) (by omega) (by omega) (Nat.le_of_ble_eq_true rfl) (fun r6 M9 h9 => ?_) (fun _ _ h9 => h9.elim)
  obtain ⟨rfl, e9⟩ := h9
  subst M9
  refine k_X11_59 dX11_addSledge_9 rfl (c_demandFine htr (vd_lt (σ := v) (t := 0) (w := 0) (e := 0) (k := 0) (id := 0)).2.2.1) (Nat.le_of_ble_eq_true rfl) (by omega) (by omega) (Nat.le_of_ble_eq_true rfl) (fun M9 h9 => ?_) (fun _ _ h9 => by obtain ⟨h91, rfl, rfl⟩ := h9; exact VX.out ⟨h91, rfl, hP, F30.rf⟩ (by omega) (by omega))
  obtain ⟨hok, e9⟩ := h9
  subst M9
  refine v_aload_n dX11_addSledge_12 rfl rfl ?_
  refine v_aload_n dX11_addSledge_13 rfl rfl ?_
  refine gf_X11_20 dX11_addSledge_14 rfl hO ?_
  refine k_X11_63 dX11_addSledge_17 rfl (c_remember htr hB hR hX0 (by decide)) hO (Nat.le_of_ble_eq_true rfl) (by omega) (by omega) (Nat.le_of_ble_eq_true rfl) (fun M9 h9 => ?_) (fun _ _ h9 => h9.elim)
  obtain ⟨pa1, hPa, hP, hF⟩ := h9
  obtain ⟨hs, old, hB, hR⟩ := _root_.id hP
  obtain ⟨hO, hE8, hkp, hk3, ⟨ad, sl, le, fg, tp, F, hC⟩, hK, hS2, hS3, hS8, hRO⟩ := _root_.id hB
  obtain ⟨hSt, hRo, hSR, hLR, hSl, hLe, hkd, hinj, ⟨hfg, hRd, hSd, hLt⟩, hG⟩ := _root_.id hC
  obtain ⟨hDk, hDs, ⟨f1, hB1⟩, ⟨f2, hB2⟩, hBl, ⟨f3, hB3⟩, hRt, ⟨f4, hB4⟩, hkD, hn34, hDr⟩ := _root_.id hK
  obtain ⟨hg1, hg2, hg3, hg4, hg5, hg6, hg7, hg8, hgL, hgS, hgR, hgI, hgN, hg0⟩ := _root_.id hG
  obtain ⟨⟨o1, o2⟩, o3, o4, o5⟩ := vdSledge_0 hok
  refine v_aload_n dX11_addSledge_20 rfl rfl ?_
  refine gf_X11_10 dX11_addSledge_21 rfl hO ?_
  refine v_iload_n dX11_addSledge_24 rfl rfl ?_
  refine v_iload_n dX11_addSledge_25 rfl rfl ?_
  refine k_X11_83 dX11_addSledge_26 rfl (c_makeSledge htr hC hK o5 o1 o2 o3 o4) hDk (Nat.le_of_ble_eq_true rfl) (by omega) (by omega) (Nat.le_of_ble_eq_true rfl) (fun r26 M9 h9 => ?_) (fun _ _ h9 => h9.elim)
  obtain ⟨rfl, F9, t9, f9⟩ := h9
  have hQ := hP.st f9 ⟨_, _, _, _, _, _, t9⟩
  have hF9 := hF.tr (Frm.f30 f9 (by decide))
  exact v_iret dX11_addSledge_29 rfl ⟨hok, rfl, pa1, hPa, hQ, hF9⟩ (by omega) (by omega)
theorem dX11_post_0 : decode cX11_post 0 = .ok (.aload_n 0, 1) := by decide +kernel
theorem dX11_post_1 : decode cX11_post 1 = .ok (.getfield 10, 3) := by decide +kernel
theorem dX11_post_4 : decode cX11_post 4 = .ok (.iload_n 1, 1) := by decide +kernel
theorem dX11_post_5 : decode cX11_post 5 = .ok (.iload_n 2, 1) := by decide +kernel
theorem dX11_post_6 : decode cX11_post 6 = .ok (.iload_n 3, 1) := by decide +kernel
theorem dX11_post_7 : decode cX11_post 7 = .ok (.iload 4, 2) := by decide +kernel
theorem dX11_post_9 : decode cX11_post 9 = .ok (.iload 5, 2) := by decide +kernel
theorem dX11_post_11 : decode cX11_post 11 = .ok (.invokevirtual 87, 3) := by decide +kernel
theorem dX11_post_14 : decode cX11_post 14 = .ok (.invokestatic 59, 3) := by decide +kernel
theorem dX11_post_17 : decode cX11_post 17 = .ok (.aload_n 0, 1) := by decide +kernel
theorem dX11_post_18 : decode cX11_post 18 = .ok (.aload_n 0, 1) := by decide +kernel
theorem dX11_post_19 : decode cX11_post 19 = .ok (.getfield 20, 3) := by decide +kernel
theorem dX11_post_22 : decode cX11_post 22 = .ok (.invokevirtual 63, 3) := by decide +kernel
theorem dX11_post_25 : decode cX11_post 25 = .ok (.aload_n 0, 1) := by decide +kernel
theorem dX11_post_26 : decode cX11_post 26 = .ok (.getfield 10, 3) := by decide +kernel
theorem dX11_post_29 : decode cX11_post 29 = .ok (.iload_n 1, 1) := by decide +kernel
theorem dX11_post_30 : decode cX11_post 30 = .ok (.iload_n 2, 1) := by decide +kernel
theorem dX11_post_31 : decode cX11_post 31 = .ok (.iload_n 3, 1) := by decide +kernel
theorem dX11_post_32 : decode cX11_post 32 = .ok (.iload 4, 2) := by decide +kernel
theorem dX11_post_34 : decode cX11_post 34 = .ok (.iload 5, 2) := by decide +kernel
theorem dX11_post_36 : decode cX11_post 36 = .ok (.invokevirtual 91, 3) := by decide +kernel
theorem dX11_post_39 : decode cX11_post 39 = .ok (.ireturn, 1) := by decide +kernel
set_option maxRecDepth 100000 in
set_option maxHeartbeats 4000000 in
theorem f_post {l : Launch} {g : Nat → Nat} {M : LH} (htr : l.stackTraces = false) {kd : Nat → Nat} {p : Nat} {q a : Nat → Nat} {e8 : Int32 → Nat} {v : Int32 → Int32} {sv : Int32} {sa : Int32 → Int32} {ch : Int32} {pa tx : Int32 → Int32} {tn : Int32} {Ls : List Int32} {ea fl : Int32} (hP : Pg kd M p q a e8 v sv sa ch pa tx tn Ls ea fl) (s t w e n : Int32) (h4 : v 4 < 1000000) : K_X11_post l g 5 1 6 [.ref p, .int s, .int t, .int w, .int e, .int n] M (RI (fun x M9 => vdLetter v s t w e n = 0 ∧ x = v 4 ∧ ∃ pa', PaS ch pa v pa' ∧ Pg kd M9 p q a e8 (mkL v s t w e n) sv sa ((if ch = 8 then 7 else ch) + 1) pa' tx tn Ls ea fl ∧ F30 kd M M9) (fun E M9 => ¬ vdLetter v s t w e n = 0 ∧ E = exV (vdLetter v s t w e n) ∧ Pg kd M9 p q a e8 v sv sa ch pa tx tn Ls ea fl ∧ F30 kd M M9)) := by
  refine Ko_X11_post htr (fun X => ?_)
  obtain ⟨hs, old, hB, hR⟩ := _root_.id hP
  obtain ⟨hO, hE8, hkp, hk3, ⟨ad, sl, le, fg, tp, F, hC⟩, hK, hS2, hS3, hS8, hRO⟩ := _root_.id hB
  have hX0 : StX kd 1 M (a 0) v := ⟨ad, sl, le, fg, tp, F, hC⟩
  obtain ⟨hSt, hRo, hSR, hLR, hSl, hLe, hkd, hinj, ⟨hfg, hRd, hSd, hLt⟩, hG⟩ := _root_.id hC
  obtain ⟨hDk, hDs, ⟨f1, hB1⟩, ⟨f2, hB2⟩, hBl, ⟨f3, hB3⟩, hRt, ⟨f4, hB4⟩, hkD, hn34, hDr⟩ := _root_.id hK
  obtain ⟨hg1, hg2, hg3, hg4, hg5, hg6, hg7, hg8, hgL, hgS, hgR, hgI, hgN, hg0⟩ := _root_.id hG
  refine v_aload_n dX11_post_0 rfl rfl ?_
  refine gf_X11_10 dX11_post_1 rfl hO ?_
  refine v_iload_n dX11_post_4 rfl rfl ?_
  refine v_iload_n dX11_post_5 rfl rfl ?_
  refine v_iload_n dX11_post_6 rfl rfl ?_
  refine v_iload dX11_post_7 rfl ?_
  refine v_iload dX11_post_9 rfl ?_
  refine k_X11_87 dX11_post_11 rfl (c_judgeLetter htr hC hK s t w e n) hDk (Nat.le_of_ble_eq_true rfl) (by omega) (by omega) (Nat.le_of_ble_eq_true rfl) (fun r11 M9 h9 => ?_) (fun _ _ h9 => h9.elim)
  obtain ⟨rfl, e9⟩ := h9
  subst M9
  refine k_X11_59 dX11_post_14 rfl (c_demandFine htr (vd_lt (σ := v) (k := 0) (id := 0)).2.2.2.1) (Nat.le_of_ble_eq_true rfl) (by omega) (by omega) (Nat.le_of_ble_eq_true rfl) (fun M9 h9 => ?_) (fun _ _ h9 => by obtain ⟨h91, rfl, rfl⟩ := h9; exact VX.out ⟨h91, rfl, hP, F30.rf⟩ (by omega) (by omega))
  obtain ⟨hok, e9⟩ := h9
  subst M9
  refine v_aload_n dX11_post_17 rfl rfl ?_
  refine v_aload_n dX11_post_18 rfl rfl ?_
  refine gf_X11_20 dX11_post_19 rfl hO ?_
  refine k_X11_63 dX11_post_22 rfl (c_remember htr hB hR hX0 (by decide)) hO (Nat.le_of_ble_eq_true rfl) (by omega) (by omega) (Nat.le_of_ble_eq_true rfl) (fun M9 h9 => ?_) (fun _ _ h9 => h9.elim)
  obtain ⟨pa1, hPa, hP, hF⟩ := h9
  obtain ⟨hs, old, hB, hR⟩ := _root_.id hP
  obtain ⟨hO, hE8, hkp, hk3, ⟨ad, sl, le, fg, tp, F, hC⟩, hK, hS2, hS3, hS8, hRO⟩ := _root_.id hB
  obtain ⟨hSt, hRo, hSR, hLR, hSl, hLe, hkd, hinj, ⟨hfg, hRd, hSd, hLt⟩, hG⟩ := _root_.id hC
  obtain ⟨hDk, hDs, ⟨f1, hB1⟩, ⟨f2, hB2⟩, hBl, ⟨f3, hB3⟩, hRt, ⟨f4, hB4⟩, hkD, hn34, hDr⟩ := _root_.id hK
  obtain ⟨hg1, hg2, hg3, hg4, hg5, hg6, hg7, hg8, hgL, hgS, hgR, hgI, hgN, hg0⟩ := _root_.id hG
  obtain ⟨⟨o1, o2⟩, ⟨o3, o4⟩, ⟨o5, ⟨o6, o7⟩, ⟨o8, o9⟩, o10, o11⟩, o12⟩ := vdLetter_0 hok
  refine v_aload_n dX11_post_25 rfl rfl ?_
  refine gf_X11_10 dX11_post_26 rfl hO ?_
  refine v_iload_n dX11_post_29 rfl rfl ?_
  refine v_iload_n dX11_post_30 rfl rfl ?_
  refine v_iload_n dX11_post_31 rfl rfl ?_
  refine v_iload dX11_post_32 rfl ?_
  refine v_iload dX11_post_34 rfl ?_
  refine k_X11_91 dX11_post_36 rfl (c_makeLetter htr hC hK o12 h4 o1 o2 o3 o4 o6 o7 o8 o9 o10 o11) hDk (Nat.le_of_ble_eq_true rfl) (by omega) (by omega) (Nat.le_of_ble_eq_true rfl) (fun r36 M9 h9 => ?_) (fun _ _ h9 => h9.elim)
  obtain ⟨rfl, F9, t9, f9⟩ := h9
  have hQ := hP.st f9 ⟨_, _, _, _, _, _, t9⟩
  have hF9 := hF.tr (Frm.f30 f9 (by decide))
  exact v_iret dX11_post_39 rfl ⟨hok, rfl, pa1, hPa, hQ, hF9⟩ (by omega) (by omega)
theorem dX11_load_0 : decode cX11_load 0 = .ok (.aload_n 0, 1) := by decide +kernel
theorem dX11_load_1 : decode cX11_load 1 = .ok (.getfield 10, 3) := by decide +kernel
theorem dX11_load_4 : decode cX11_load 4 = .ok (.iload_n 1, 1) := by decide +kernel
theorem dX11_load_5 : decode cX11_load 5 = .ok (.iload_n 2, 1) := by decide +kernel
theorem dX11_load_6 : decode cX11_load 6 = .ok (.invokevirtual 95, 3) := by decide +kernel
theorem dX11_load_9 : decode cX11_load 9 = .ok (.invokestatic 59, 3) := by decide +kernel
theorem dX11_load_12 : decode cX11_load 12 = .ok (.aload_n 0, 1) := by decide +kernel
theorem dX11_load_13 : decode cX11_load 13 = .ok (.aload_n 0, 1) := by decide +kernel
theorem dX11_load_14 : decode cX11_load 14 = .ok (.getfield 20, 3) := by decide +kernel
theorem dX11_load_17 : decode cX11_load 17 = .ok (.invokevirtual 63, 3) := by decide +kernel
theorem dX11_load_20 : decode cX11_load 20 = .ok (.aload_n 0, 1) := by decide +kernel
theorem dX11_load_21 : decode cX11_load 21 = .ok (.getfield 10, 3) := by decide +kernel
theorem dX11_load_24 : decode cX11_load 24 = .ok (.iload_n 1, 1) := by decide +kernel
theorem dX11_load_25 : decode cX11_load 25 = .ok (.iload_n 2, 1) := by decide +kernel
theorem dX11_load_26 : decode cX11_load 26 = .ok (.invokevirtual 98, 3) := by decide +kernel
theorem dX11_load_29 : decode cX11_load 29 = .ok (.ireturn, 1) := by decide +kernel
set_option maxRecDepth 100000 in
set_option maxHeartbeats 4000000 in
theorem f_load {l : Launch} {g : Nat → Nat} {M : LH} (htr : l.stackTraces = false) {kd : Nat → Nat} {p : Nat} {q a : Nat → Nat} {e8 : Int32 → Nat} {v : Int32 → Int32} {sv : Int32} {sa : Int32 → Int32} {ch : Int32} {pa tx : Int32 → Int32} {tn : Int32} {Ls : List Int32} {ea fl : Int32} (hP : Pg kd M p q a e8 v sv sa ch pa tx tn Ls ea fl) (k id : Int32) : K_X11_load l g 5 1 6 [.ref p, .int k, .int id] M (RI (fun x M9 => vdPutOn v k id = 0 ∧ x = loadOn (plS v (find v id) (10 + k)) k ∧ ∃ pa', PaS ch pa v pa' ∧ Pg kd M9 p q a e8 (plS v (find v id) (10 + k)) sv sa ((if ch = 8 then 7 else ch) + 1) pa' tx tn Ls ea fl ∧ F30 kd M M9) (fun E M9 => ¬ vdPutOn v k id = 0 ∧ E = exV (vdPutOn v k id) ∧ Pg kd M9 p q a e8 v sv sa ch pa tx tn Ls ea fl ∧ F30 kd M M9)) := by
  refine Ko_X11_load htr (fun X => ?_)
  obtain ⟨hs, old, hB, hR⟩ := _root_.id hP
  obtain ⟨hO, hE8, hkp, hk3, ⟨ad, sl, le, fg, tp, F, hC⟩, hK, hS2, hS3, hS8, hRO⟩ := _root_.id hB
  have hX0 : StX kd 1 M (a 0) v := ⟨ad, sl, le, fg, tp, F, hC⟩
  obtain ⟨hSt, hRo, hSR, hLR, hSl, hLe, hkd, hinj, ⟨hfg, hRd, hSd, hLt⟩, hG⟩ := _root_.id hC
  obtain ⟨hDk, hDs, ⟨f1, hB1⟩, ⟨f2, hB2⟩, hBl, ⟨f3, hB3⟩, hRt, ⟨f4, hB4⟩, hkD, hn34, hDr⟩ := _root_.id hK
  obtain ⟨hg1, hg2, hg3, hg4, hg5, hg6, hg7, hg8, hgL, hgS, hgR, hgI, hgN, hg0⟩ := _root_.id hG
  refine v_aload_n dX11_load_0 rfl rfl ?_
  refine gf_X11_10 dX11_load_1 rfl hO ?_
  refine v_iload_n dX11_load_4 rfl rfl ?_
  refine v_iload_n dX11_load_5 rfl rfl ?_
  refine k_X11_95 dX11_load_6 rfl (c_judgePutOn htr hC hK k id) hDk (Nat.le_of_ble_eq_true rfl) (by omega) (by omega) (Nat.le_of_ble_eq_true rfl) (fun r6 M9 h9 => ?_) (fun _ _ h9 => h9.elim)
  obtain ⟨rfl, e9⟩ := h9
  subst M9
  refine k_X11_59 dX11_load_9 rfl (c_demandFine htr (vd_lt (σ := v) (s := 0) (t := 0) (n := 0) (w := 0) (e := 0)).2.2.2.2.1) (Nat.le_of_ble_eq_true rfl) (by omega) (by omega) (Nat.le_of_ble_eq_true rfl) (fun M9 h9 => ?_) (fun _ _ h9 => by obtain ⟨h91, rfl, rfl⟩ := h9; exact VX.out ⟨h91, rfl, hP, F30.rf⟩ (by omega) (by omega))
  obtain ⟨hok, e9⟩ := h9
  subst M9
  refine v_aload_n dX11_load_12 rfl rfl ?_
  refine v_aload_n dX11_load_13 rfl rfl ?_
  refine gf_X11_20 dX11_load_14 rfl hO ?_
  refine k_X11_63 dX11_load_17 rfl (c_remember htr hB hR hX0 (by decide)) hO (Nat.le_of_ble_eq_true rfl) (by omega) (by omega) (Nat.le_of_ble_eq_true rfl) (fun M9 h9 => ?_) (fun _ _ h9 => h9.elim)
  obtain ⟨pa1, hPa, hP, hF⟩ := h9
  obtain ⟨hs, old, hB, hR⟩ := _root_.id hP
  obtain ⟨hO, hE8, hkp, hk3, ⟨ad, sl, le, fg, tp, F, hC⟩, hK, hS2, hS3, hS8, hRO⟩ := _root_.id hB
  obtain ⟨hSt, hRo, hSR, hLR, hSl, hLe, hkd, hinj, ⟨hfg, hRd, hSd, hLt⟩, hG⟩ := _root_.id hC
  obtain ⟨hDk, hDs, ⟨f1, hB1⟩, ⟨f2, hB2⟩, hBl, ⟨f3, hB3⟩, hRt, ⟨f4, hB4⟩, hkD, hn34, hDr⟩ := _root_.id hK
  obtain ⟨hg1, hg2, hg3, hg4, hg5, hg6, hg7, hg8, hgL, hgS, hgR, hgI, hgN, hg0⟩ := _root_.id hG
  obtain ⟨⟨o1, o2⟩, o3, o4, o5⟩ := vdPutOn_0 hok
  have o6 := Classical.not_not.mp (fun z => o4 (Or.inr z))
  refine v_aload_n dX11_load_20 rfl rfl ?_
  refine gf_X11_10 dX11_load_21 rfl hO ?_
  refine v_iload_n dX11_load_24 rfl rfl ?_
  refine v_iload_n dX11_load_25 rfl rfl ?_
  refine k_X11_98 dX11_load_26 rfl (c_putOn htr hC hK o1 o2 o3 o6 o5) hDk (Nat.le_of_ble_eq_true rfl) (by omega) (by omega) (Nat.le_of_ble_eq_true rfl) (fun r26 M9 h9 => ?_) (fun _ _ h9 => h9.elim)
  obtain ⟨rfl, F9, t9, f9⟩ := h9
  have hQ := hP.st f9 ⟨_, _, _, _, _, _, t9⟩
  have hF9 := hF.tr (Frm.f30 f9 (by decide))
  exact v_iret dX11_load_29 rfl ⟨hok, rfl, pa1, hPa, hQ, hF9⟩ (by omega) (by omega)
theorem dX11_unload_0 : decode cX11_unload 0 = .ok (.aload_n 0, 1) := by decide +kernel
theorem dX11_unload_1 : decode cX11_unload 1 = .ok (.getfield 10, 3) := by decide +kernel
theorem dX11_unload_4 : decode cX11_unload 4 = .ok (.iload_n 1, 1) := by decide +kernel
theorem dX11_unload_5 : decode cX11_unload 5 = .ok (.iload_n 2, 1) := by decide +kernel
theorem dX11_unload_6 : decode cX11_unload 6 = .ok (.invokevirtual 101, 3) := by decide +kernel
theorem dX11_unload_9 : decode cX11_unload 9 = .ok (.invokestatic 59, 3) := by decide +kernel
theorem dX11_unload_12 : decode cX11_unload 12 = .ok (.aload_n 0, 1) := by decide +kernel
theorem dX11_unload_13 : decode cX11_unload 13 = .ok (.aload_n 0, 1) := by decide +kernel
theorem dX11_unload_14 : decode cX11_unload 14 = .ok (.getfield 20, 3) := by decide +kernel
theorem dX11_unload_17 : decode cX11_unload 17 = .ok (.invokevirtual 63, 3) := by decide +kernel
theorem dX11_unload_20 : decode cX11_unload 20 = .ok (.aload_n 0, 1) := by decide +kernel
theorem dX11_unload_21 : decode cX11_unload 21 = .ok (.getfield 10, 3) := by decide +kernel
theorem dX11_unload_24 : decode cX11_unload 24 = .ok (.iload_n 1, 1) := by decide +kernel
theorem dX11_unload_25 : decode cX11_unload 25 = .ok (.iload_n 2, 1) := by decide +kernel
theorem dX11_unload_26 : decode cX11_unload 26 = .ok (.invokevirtual 104, 3) := by decide +kernel
theorem dX11_unload_29 : decode cX11_unload 29 = .ok (.ireturn, 1) := by decide +kernel
set_option maxRecDepth 100000 in
set_option maxHeartbeats 4000000 in
theorem f_unload {l : Launch} {g : Nat → Nat} {M : LH} (htr : l.stackTraces = false) {kd : Nat → Nat} {p : Nat} {q a : Nat → Nat} {e8 : Int32 → Nat} {v : Int32 → Int32} {sv : Int32} {sa : Int32 → Int32} {ch : Int32} {pa tx : Int32 → Int32} {tn : Int32} {Ls : List Int32} {ea fl : Int32} (hP : Pg kd M p q a e8 v sv sa ch pa tx tn Ls ea fl) (k id : Int32) : K_X11_unload l g 5 1 6 [.ref p, .int k, .int id] M (RI (fun x M9 => vdTakeOff v k id = 0 ∧ x = loadOn (plS v (find v id) (sd v k 1)) k ∧ ∃ pa', PaS ch pa v pa' ∧ Pg kd M9 p q a e8 (plS v (find v id) (sd v k 1)) sv sa ((if ch = 8 then 7 else ch) + 1) pa' tx tn Ls ea fl ∧ F30 kd M M9) (fun E M9 => ¬ vdTakeOff v k id = 0 ∧ E = exV (vdTakeOff v k id) ∧ Pg kd M9 p q a e8 v sv sa ch pa tx tn Ls ea fl ∧ F30 kd M M9)) := by
  refine Ko_X11_unload htr (fun X => ?_)
  obtain ⟨hs, old, hB, hR⟩ := _root_.id hP
  obtain ⟨hO, hE8, hkp, hk3, ⟨ad, sl, le, fg, tp, F, hC⟩, hK, hS2, hS3, hS8, hRO⟩ := _root_.id hB
  have hX0 : StX kd 1 M (a 0) v := ⟨ad, sl, le, fg, tp, F, hC⟩
  obtain ⟨hSt, hRo, hSR, hLR, hSl, hLe, hkd, hinj, ⟨hfg, hRd, hSd, hLt⟩, hG⟩ := _root_.id hC
  obtain ⟨hDk, hDs, ⟨f1, hB1⟩, ⟨f2, hB2⟩, hBl, ⟨f3, hB3⟩, hRt, ⟨f4, hB4⟩, hkD, hn34, hDr⟩ := _root_.id hK
  obtain ⟨hg1, hg2, hg3, hg4, hg5, hg6, hg7, hg8, hgL, hgS, hgR, hgI, hgN, hg0⟩ := _root_.id hG
  refine v_aload_n dX11_unload_0 rfl rfl ?_
  refine gf_X11_10 dX11_unload_1 rfl hO ?_
  refine v_iload_n dX11_unload_4 rfl rfl ?_
  refine v_iload_n dX11_unload_5 rfl rfl ?_
  refine k_X11_101 dX11_unload_6 rfl (c_judgeTakeOff htr hC hK k id) hDk (Nat.le_of_ble_eq_true rfl) (by omega) (by omega) (Nat.le_of_ble_eq_true rfl) (fun r6 M9 h9 => ?_) (fun _ _ h9 => h9.elim)
  obtain ⟨rfl, e9⟩ := h9
  subst M9
  refine k_X11_59 dX11_unload_9 rfl (c_demandFine htr (vd_lt (σ := v) (s := 0) (t := 0) (n := 0) (w := 0) (e := 0)).2.2.2.2.2.1) (Nat.le_of_ble_eq_true rfl) (by omega) (by omega) (Nat.le_of_ble_eq_true rfl) (fun M9 h9 => ?_) (fun _ _ h9 => by obtain ⟨h91, rfl, rfl⟩ := h9; exact VX.out ⟨h91, rfl, hP, F30.rf⟩ (by omega) (by omega))
  obtain ⟨hok, e9⟩ := h9
  subst M9
  refine v_aload_n dX11_unload_12 rfl rfl ?_
  refine v_aload_n dX11_unload_13 rfl rfl ?_
  refine gf_X11_20 dX11_unload_14 rfl hO ?_
  refine k_X11_63 dX11_unload_17 rfl (c_remember htr hB hR hX0 (by decide)) hO (Nat.le_of_ble_eq_true rfl) (by omega) (by omega) (Nat.le_of_ble_eq_true rfl) (fun M9 h9 => ?_) (fun _ _ h9 => h9.elim)
  obtain ⟨pa1, hPa, hP, hF⟩ := h9
  obtain ⟨hs, old, hB, hR⟩ := _root_.id hP
  obtain ⟨hO, hE8, hkp, hk3, ⟨ad, sl, le, fg, tp, F, hC⟩, hK, hS2, hS3, hS8, hRO⟩ := _root_.id hB
  obtain ⟨hSt, hRo, hSR, hLR, hSl, hLe, hkd, hinj, ⟨hfg, hRd, hSd, hLt⟩, hG⟩ := _root_.id hC
  obtain ⟨hDk, hDs, ⟨f1, hB1⟩, ⟨f2, hB2⟩, hBl, ⟨f3, hB3⟩, hRt, ⟨f4, hB4⟩, hkD, hn34, hDr⟩ := _root_.id hK
  obtain ⟨hg1, hg2, hg3, hg4, hg5, hg6, hg7, hg8, hgL, hgS, hgR, hgI, hgN, hg0⟩ := _root_.id hG
  obtain ⟨⟨o1, o2⟩, o3, o4, o5⟩ := vdTakeOff_0 hok
  refine v_aload_n dX11_unload_20 rfl rfl ?_
  refine gf_X11_10 dX11_unload_21 rfl hO ?_
  refine v_iload_n dX11_unload_24 rfl rfl ?_
  refine v_iload_n dX11_unload_25 rfl rfl ?_
  refine k_X11_104 dX11_unload_26 rfl (c_takeOff htr hC hK o1 o2 o3 o5) hDk (Nat.le_of_ble_eq_true rfl) (by omega) (by omega) (Nat.le_of_ble_eq_true rfl) (fun r26 M9 h9 => ?_) (fun _ _ h9 => h9.elim)
  obtain ⟨rfl, F9, t9, f9⟩ := h9
  have hQ := hP.st f9 ⟨_, _, _, _, _, _, t9⟩
  have hF9 := hF.tr (Frm.f30 f9 (by decide))
  exact v_iret dX11_unload_29 rfl ⟨hok, rfl, pa1, hPa, hQ, hF9⟩ (by omega) (by omega)
theorem dX11_loadBest_0 : decode cX11_loadBest 0 = .ok (.aload_n 0, 1) := by decide +kernel
theorem dX11_loadBest_1 : decode cX11_loadBest 1 = .ok (.getfield 10, 3) := by decide +kernel
theorem dX11_loadBest_4 : decode cX11_loadBest 4 = .ok (.iload_n 1, 1) := by decide +kernel
theorem dX11_loadBest_5 : decode cX11_loadBest 5 = .ok (.invokevirtual 107, 3) := by decide +kernel
theorem dX11_loadBest_8 : decode cX11_loadBest 8 = .ok (.invokestatic 59, 3) := by decide +kernel
theorem dX11_loadBest_11 : decode cX11_loadBest 11 = .ok (.aload_n 0, 1) := by decide +kernel
theorem dX11_loadBest_12 : decode cX11_loadBest 12 = .ok (.aload_n 0, 1) := by decide +kernel
theorem dX11_loadBest_13 : decode cX11_loadBest 13 = .ok (.getfield 20, 3) := by decide +kernel
theorem dX11_loadBest_16 : decode cX11_loadBest 16 = .ok (.invokevirtual 63, 3) := by decide +kernel
theorem dX11_loadBest_19 : decode cX11_loadBest 19 = .ok (.aload_n 0, 1) := by decide +kernel
theorem dX11_loadBest_20 : decode cX11_loadBest 20 = .ok (.getfield 10, 3) := by decide +kernel
theorem dX11_loadBest_23 : decode cX11_loadBest 23 = .ok (.iload_n 1, 1) := by decide +kernel
theorem dX11_loadBest_24 : decode cX11_loadBest 24 = .ok (.invokevirtual 111, 3) := by decide +kernel
theorem dX11_loadBest_27 : decode cX11_loadBest 27 = .ok (.ireturn, 1) := by decide +kernel
set_option maxRecDepth 100000 in
set_option maxHeartbeats 4000000 in
theorem f_loadBest {l : Launch} {g : Nat → Nat} {M : LH} (htr : l.stackTraces = false) {kd : Nat → Nat} {p : Nat} {q a : Nat → Nat} {e8 : Int32 → Nat} {v : Int32 → Int32} {sv : Int32} {sa : Int32 → Int32} {ch : Int32} {pa tx : Int32 → Int32} {tn : Int32} {Ls : List Int32} {ea fl : Int32} (hP : Pg kd M p q a e8 v sv sa ch pa tx tn Ls ea fl) (k : Int32) : K_X11_loadBest l g 5 1 6 [.ref p, .int k] M (RI (fun x M9 => vdBest v k = 0 ∧ x = cnM (bI v (sd v k 1) (v 7).toNatClampNeg (sd v k 0 - loadOn v k) &&& 4095) (v 7).toNatClampNeg ∧ ∃ pa', PaS ch pa v pa' ∧ Pg kd M9 p q a e8 (plN v k (bI v (sd v k 1) (v 7).toNatClampNeg (sd v k 0 - loadOn v k) &&& 4095) (v 7).toNatClampNeg) sv sa ((if ch = 8 then 7 else ch) + 1) pa' tx tn Ls ea fl ∧ F30 kd M M9) (fun E M9 => ¬ vdBest v k = 0 ∧ E = exV (vdBest v k) ∧ Pg kd M9 p q a e8 v sv sa ch pa tx tn Ls ea fl ∧ F30 kd M M9)) := by
  refine Ko_X11_loadBest htr (fun X => ?_)
  obtain ⟨hs, old, hB, hR⟩ := _root_.id hP
  obtain ⟨hO, hE8, hkp, hk3, ⟨ad, sl, le, fg, tp, F, hC⟩, hK, hS2, hS3, hS8, hRO⟩ := _root_.id hB
  have hX0 : StX kd 1 M (a 0) v := ⟨ad, sl, le, fg, tp, F, hC⟩
  obtain ⟨hSt, hRo, hSR, hLR, hSl, hLe, hkd, hinj, ⟨hfg, hRd, hSd, hLt⟩, hG⟩ := _root_.id hC
  obtain ⟨hDk, hDs, ⟨f1, hB1⟩, ⟨f2, hB2⟩, hBl, ⟨f3, hB3⟩, hRt, ⟨f4, hB4⟩, hkD, hn34, hDr⟩ := _root_.id hK
  obtain ⟨hg1, hg2, hg3, hg4, hg5, hg6, hg7, hg8, hgL, hgS, hgR, hgI, hgN, hg0⟩ := _root_.id hG
  refine v_aload_n dX11_loadBest_0 rfl rfl ?_
  refine gf_X11_10 dX11_loadBest_1 rfl hO ?_
  refine v_iload_n dX11_loadBest_4 rfl rfl ?_
  refine k_X11_107 dX11_loadBest_5 rfl (c_judgeBest htr hC hK k) hDk (Nat.le_of_ble_eq_true rfl) (by omega) (by omega) (Nat.le_of_ble_eq_true rfl) (fun r5 M9 h9 => ?_) (fun _ _ h9 => h9.elim)
  obtain ⟨rfl, e9⟩ := h9
  subst M9
  refine k_X11_59 dX11_loadBest_8 rfl (c_demandFine htr (vd_lt (σ := v) (s := 0) (t := 0) (n := 0) (w := 0) (e := 0) (id := 0)).2.2.2.2.2.2.1) (Nat.le_of_ble_eq_true rfl) (by omega) (by omega) (Nat.le_of_ble_eq_true rfl) (fun M9 h9 => ?_) (fun _ _ h9 => by obtain ⟨h91, rfl, rfl⟩ := h9; exact VX.out ⟨h91, rfl, hP, F30.rf⟩ (by omega) (by omega))
  obtain ⟨hok, e9⟩ := h9
  subst M9
  refine v_aload_n dX11_loadBest_11 rfl rfl ?_
  refine v_aload_n dX11_loadBest_12 rfl rfl ?_
  refine gf_X11_20 dX11_loadBest_13 rfl hO ?_
  refine k_X11_63 dX11_loadBest_16 rfl (c_remember htr hB hR hX0 (by decide)) hO (Nat.le_of_ble_eq_true rfl) (by omega) (by omega) (Nat.le_of_ble_eq_true rfl) (fun M9 h9 => ?_) (fun _ _ h9 => h9.elim)
  obtain ⟨pa1, hPa, hP, hF⟩ := h9
  obtain ⟨hs, old, hB, hR⟩ := _root_.id hP
  obtain ⟨hO, hE8, hkp, hk3, ⟨ad, sl, le, fg, tp, F, hC⟩, hK, hS2, hS3, hS8, hRO⟩ := _root_.id hB
  obtain ⟨hSt, hRo, hSR, hLR, hSl, hLe, hkd, hinj, ⟨hfg, hRd, hSd, hLt⟩, hG⟩ := _root_.id hC
  obtain ⟨hDk, hDs, ⟨f1, hB1⟩, ⟨f2, hB2⟩, hBl, ⟨f3, hB3⟩, hRt, ⟨f4, hB4⟩, hkD, hn34, hDr⟩ := _root_.id hK
  obtain ⟨hg1, hg2, hg3, hg4, hg5, hg6, hg7, hg8, hgL, hgS, hgR, hgI, hgN, hg0⟩ := _root_.id hG
  obtain ⟨⟨o1, o2⟩, o3⟩ := vdBest_0 hok
  refine v_aload_n dX11_loadBest_19 rfl rfl ?_
  refine gf_X11_10 dX11_loadBest_20 rfl hO ?_
  refine v_iload_n dX11_loadBest_23 rfl rfl ?_
  refine k_X11_111 dX11_loadBest_24 rfl (c_putBestOn htr hC hK o1 o2) hDk (Nat.le_of_ble_eq_true rfl) (by omega) (by omega) (Nat.le_of_ble_eq_true rfl) (fun r24 M9 h9 => ?_) (fun _ _ h9 => h9.elim)
  obtain ⟨rfl, F9, t9, k9, f9⟩ := h9
  have hQ := hP.now f9 ⟨_, _, _, _, _, _, t9⟩ k9
  have hF9 := hF.tr (Fr2.f30 f9 (by decide) (by decide))
  exact v_iret dX11_loadBest_27 rfl ⟨hok, rfl, pa1, hPa, hQ, hF9⟩ (by omega) (by omega)
theorem dX11_setTemperature_0 : decode cX11_setTemperature 0 = .ok (.aload_n 0, 1) := by decide +kernel
theorem dX11_setTemperature_1 : decode cX11_setTemperature 1 = .ok (.getfield 10, 3) := by decide +kernel
theorem dX11_setTemperature_4 : decode cX11_setTemperature 4 = .ok (.iload_n 1, 1) := by decide +kernel
theorem dX11_setTemperature_5 : decode cX11_setTemperature 5 = .ok (.invokevirtual 121, 3) := by decide +kernel
theorem dX11_setTemperature_8 : decode cX11_setTemperature 8 = .ok (.invokestatic 59, 3) := by decide +kernel
theorem dX11_setTemperature_11 : decode cX11_setTemperature 11 = .ok (.aload_n 0, 1) := by decide +kernel
theorem dX11_setTemperature_12 : decode cX11_setTemperature 12 = .ok (.aload_n 0, 1) := by decide +kernel
theorem dX11_setTemperature_13 : decode cX11_setTemperature 13 = .ok (.getfield 20, 3) := by decide +kernel
theorem dX11_setTemperature_16 : decode cX11_setTemperature 16 = .ok (.invokevirtual 63, 3) := by decide +kernel
theorem dX11_setTemperature_19 : decode cX11_setTemperature 19 = .ok (.aload_n 0, 1) := by decide +kernel
theorem dX11_setTemperature_20 : decode cX11_setTemperature 20 = .ok (.getfield 10, 3) := by decide +kernel
theorem dX11_setTemperature_23 : decode cX11_setTemperature 23 = .ok (.iload_n 1, 1) := by decide +kernel
theorem dX11_setTemperature_24 : decode cX11_setTemperature 24 = .ok (.invokevirtual 124, 3) := by decide +kernel
theorem dX11_setTemperature_27 : decode cX11_setTemperature 27 = .ok (.ireturn, 1) := by decide +kernel
set_option maxRecDepth 100000 in
set_option maxHeartbeats 4000000 in
theorem f_setTemperature {l : Launch} {g : Nat → Nat} {M : LH} (htr : l.stackTraces = false) {kd : Nat → Nat} {p : Nat} {q a : Nat → Nat} {e8 : Int32 → Nat} {v : Int32 → Int32} {sv : Int32} {sa : Int32 → Int32} {ch : Int32} {pa tx : Int32 → Int32} {tn : Int32} {Ls : List Int32} {ea fl : Int32} (hP : Pg kd M p q a e8 v sv sa ch pa tx tn Ls ea fl) (n : Int32) : K_X11_setTemperature l g 5 1 6 [.ref p, .int n] M (RI (fun x M9 => vdDeg n = 0 ∧ x = v 1 ∧ ∃ pa', PaS ch pa v pa' ∧ Pg kd M9 p q a e8 (ui v 1 n) sv sa ((if ch = 8 then 7 else ch) + 1) pa' tx tn Ls ea fl ∧ F30 kd M M9) (fun E M9 => ¬ vdDeg n = 0 ∧ E = exV (vdDeg n) ∧ Pg kd M9 p q a e8 v sv sa ch pa tx tn Ls ea fl ∧ F30 kd M M9)) := by
  refine Ko_X11_setTemperature htr (fun X => ?_)
  obtain ⟨hs, old, hB, hR⟩ := _root_.id hP
  obtain ⟨hO, hE8, hkp, hk3, ⟨ad, sl, le, fg, tp, F, hC⟩, hK, hS2, hS3, hS8, hRO⟩ := _root_.id hB
  have hX0 : StX kd 1 M (a 0) v := ⟨ad, sl, le, fg, tp, F, hC⟩
  obtain ⟨hSt, hRo, hSR, hLR, hSl, hLe, hkd, hinj, ⟨hfg, hRd, hSd, hLt⟩, hG⟩ := _root_.id hC
  obtain ⟨hDk, hDs, ⟨f1, hB1⟩, ⟨f2, hB2⟩, hBl, ⟨f3, hB3⟩, hRt, ⟨f4, hB4⟩, hkD, hn34, hDr⟩ := _root_.id hK
  obtain ⟨hg1, hg2, hg3, hg4, hg5, hg6, hg7, hg8, hgL, hgS, hgR, hgI, hgN, hg0⟩ := _root_.id hG
  refine v_aload_n dX11_setTemperature_0 rfl rfl ?_
  refine gf_X11_10 dX11_setTemperature_1 rfl hO ?_
  refine v_iload_n dX11_setTemperature_4 rfl rfl ?_
  refine k_X11_121 dX11_setTemperature_5 rfl (c_judgeDegrees htr hC hK n) hDk (Nat.le_of_ble_eq_true rfl) (by omega) (by omega) (Nat.le_of_ble_eq_true rfl) (fun r5 M9 h9 => ?_) (fun _ _ h9 => h9.elim)
  obtain ⟨rfl, e9⟩ := h9
  subst M9
  refine k_X11_59 dX11_setTemperature_8 rfl (c_demandFine htr (vd_lt (σ := v) (s := 0) (t := 0) (w := 0) (e := 0) (k := 0) (id := 0)).2.2.2.2.2.2.2.1) (Nat.le_of_ble_eq_true rfl) (by omega) (by omega) (Nat.le_of_ble_eq_true rfl) (fun M9 h9 => ?_) (fun _ _ h9 => by obtain ⟨h91, rfl, rfl⟩ := h9; exact VX.out ⟨h91, rfl, hP, F30.rf⟩ (by omega) (by omega))
  obtain ⟨hok, e9⟩ := h9
  subst M9
  refine v_aload_n dX11_setTemperature_11 rfl rfl ?_
  refine v_aload_n dX11_setTemperature_12 rfl rfl ?_
  refine gf_X11_20 dX11_setTemperature_13 rfl hO ?_
  refine k_X11_63 dX11_setTemperature_16 rfl (c_remember htr hB hR hX0 (by decide)) hO (Nat.le_of_ble_eq_true rfl) (by omega) (by omega) (Nat.le_of_ble_eq_true rfl) (fun M9 h9 => ?_) (fun _ _ h9 => h9.elim)
  obtain ⟨pa1, hPa, hP, hF⟩ := h9
  obtain ⟨hs, old, hB, hR⟩ := _root_.id hP
  obtain ⟨hO, hE8, hkp, hk3, ⟨ad, sl, le, fg, tp, F, hC⟩, hK, hS2, hS3, hS8, hRO⟩ := _root_.id hB
  obtain ⟨hSt, hRo, hSR, hLR, hSl, hLe, hkd, hinj, ⟨hfg, hRd, hSd, hLt⟩, hG⟩ := _root_.id hC
  obtain ⟨hDk, hDs, ⟨f1, hB1⟩, ⟨f2, hB2⟩, hBl, ⟨f3, hB3⟩, hRt, ⟨f4, hB4⟩, hkD, hn34, hDr⟩ := _root_.id hK
  obtain ⟨hg1, hg2, hg3, hg4, hg5, hg6, hg7, hg8, hgL, hgS, hgR, hgI, hgN, hg0⟩ := _root_.id hG
  obtain ⟨o1, o2⟩ := vdDeg_0 hok
  refine v_aload_n dX11_setTemperature_19 rfl rfl ?_
  refine gf_X11_10 dX11_setTemperature_20 rfl hO ?_
  refine v_iload_n dX11_setTemperature_23 rfl rfl ?_
  refine k_X11_124 dX11_setTemperature_24 rfl (c_changeDegrees htr hC hK o1 o2) hDk (Nat.le_of_ble_eq_true rfl) (by omega) (by omega) (Nat.le_of_ble_eq_true rfl) (fun r24 M9 h9 => ?_) (fun _ _ h9 => h9.elim)
  obtain ⟨rfl, t9, f9⟩ := h9
  have hQ := hP.st f9 ⟨_, _, _, _, _, _, t9⟩
  have hF9 := hF.tr (Frm.f30 f9 (by decide))
  exact v_iret dX11_setTemperature_27 rfl ⟨hok, rfl, pa1, hPa, hQ, hF9⟩ (by omega) (by omega)
theorem dX11_advance_0 : decode cX11_advance 0 = .ok (.aload_n 0, 1) := by decide +kernel
theorem dX11_advance_1 : decode cX11_advance 1 = .ok (.getfield 10, 3) := by decide +kernel
theorem dX11_advance_4 : decode cX11_advance 4 = .ok (.iload_n 1, 1) := by decide +kernel
theorem dX11_advance_5 : decode cX11_advance 5 = .ok (.invokevirtual 127, 3) := by decide +kernel
theorem dX11_advance_8 : decode cX11_advance 8 = .ok (.invokestatic 59, 3) := by decide +kernel
theorem dX11_advance_11 : decode cX11_advance 11 = .ok (.aload_n 0, 1) := by decide +kernel
theorem dX11_advance_12 : decode cX11_advance 12 = .ok (.aload_n 0, 1) := by decide +kernel
theorem dX11_advance_13 : decode cX11_advance 13 = .ok (.getfield 20, 3) := by decide +kernel
theorem dX11_advance_16 : decode cX11_advance 16 = .ok (.invokevirtual 63, 3) := by decide +kernel
theorem dX11_advance_19 : decode cX11_advance 19 = .ok (.aload_n 0, 1) := by decide +kernel
theorem dX11_advance_20 : decode cX11_advance 20 = .ok (.getfield 10, 3) := by decide +kernel
theorem dX11_advance_23 : decode cX11_advance 23 = .ok (.iload_n 1, 1) := by decide +kernel
theorem dX11_advance_24 : decode cX11_advance 24 = .ok (.invokevirtual 130, 3) := by decide +kernel
theorem dX11_advance_27 : decode cX11_advance 27 = .ok (.ireturn, 1) := by decide +kernel
set_option maxRecDepth 100000 in
set_option maxHeartbeats 4000000 in
theorem f_advance {l : Launch} {g : Nat → Nat} {M : LH} (htr : l.stackTraces = false) {kd : Nat → Nat} {p : Nat} {q a : Nat → Nat} {e8 : Int32 → Nat} {v : Int32 → Int32} {sv : Int32} {sa : Int32 → Int32} {ch : Int32} {pa tx : Int32 → Int32} {tn : Int32} {Ls : List Int32} {ea fl : Int32} (hP : Pg kd M p q a e8 v sv sa ch pa tx tn Ls ea fl) (n : Int32) : K_X11_advance l g 5 1 6 [.ref p, .int n] M (RI (fun x M9 => vdHrs n = 0 ∧ x = psN v n.toNatClampNeg 3 - v 3 ∧ ∃ pa', PaS ch pa v pa' ∧ Pg kd M9 p q a e8 (psN v n.toNatClampNeg) sv sa ((if ch = 8 then 7 else ch) + 1) pa' tx tn Ls ea fl ∧ F30 kd M M9) (fun E M9 => ¬ vdHrs n = 0 ∧ E = exV (vdHrs n) ∧ Pg kd M9 p q a e8 v sv sa ch pa tx tn Ls ea fl ∧ F30 kd M M9)) := by
  refine Ko_X11_advance htr (fun X => ?_)
  obtain ⟨hs, old, hB, hR⟩ := _root_.id hP
  obtain ⟨hO, hE8, hkp, hk3, ⟨ad, sl, le, fg, tp, F, hC⟩, hK, hS2, hS3, hS8, hRO⟩ := _root_.id hB
  have hX0 : StX kd 1 M (a 0) v := ⟨ad, sl, le, fg, tp, F, hC⟩
  obtain ⟨hSt, hRo, hSR, hLR, hSl, hLe, hkd, hinj, ⟨hfg, hRd, hSd, hLt⟩, hG⟩ := _root_.id hC
  obtain ⟨hDk, hDs, ⟨f1, hB1⟩, ⟨f2, hB2⟩, hBl, ⟨f3, hB3⟩, hRt, ⟨f4, hB4⟩, hkD, hn34, hDr⟩ := _root_.id hK
  obtain ⟨hg1, hg2, hg3, hg4, hg5, hg6, hg7, hg8, hgL, hgS, hgR, hgI, hgN, hg0⟩ := _root_.id hG
  refine v_aload_n dX11_advance_0 rfl rfl ?_
  refine gf_X11_10 dX11_advance_1 rfl hO ?_
  refine v_iload_n dX11_advance_4 rfl rfl ?_
  refine k_X11_127 dX11_advance_5 rfl (c_judgeHours htr hC hK n) hDk (Nat.le_of_ble_eq_true rfl) (by omega) (by omega) (Nat.le_of_ble_eq_true rfl) (fun r5 M9 h9 => ?_) (fun _ _ h9 => h9.elim)
  obtain ⟨rfl, e9⟩ := h9
  subst M9
  refine k_X11_59 dX11_advance_8 rfl (c_demandFine htr (vd_lt (σ := v) (s := 0) (t := 0) (w := 0) (e := 0) (k := 0) (id := 0)).2.2.2.2.2.2.2.2.1) (Nat.le_of_ble_eq_true rfl) (by omega) (by omega) (Nat.le_of_ble_eq_true rfl) (fun M9 h9 => ?_) (fun _ _ h9 => by obtain ⟨h91, rfl, rfl⟩ := h9; exact VX.out ⟨h91, rfl, hP, F30.rf⟩ (by omega) (by omega))
  obtain ⟨hok, e9⟩ := h9
  subst M9
  refine v_aload_n dX11_advance_11 rfl rfl ?_
  refine v_aload_n dX11_advance_12 rfl rfl ?_
  refine gf_X11_20 dX11_advance_13 rfl hO ?_
  refine k_X11_63 dX11_advance_16 rfl (c_remember htr hB hR hX0 (by decide)) hO (Nat.le_of_ble_eq_true rfl) (by omega) (by omega) (Nat.le_of_ble_eq_true rfl) (fun M9 h9 => ?_) (fun _ _ h9 => h9.elim)
  obtain ⟨pa1, hPa, hP, hF⟩ := h9
  obtain ⟨hs, old, hB, hR⟩ := _root_.id hP
  obtain ⟨hO, hE8, hkp, hk3, ⟨ad, sl, le, fg, tp, F, hC⟩, hK, hS2, hS3, hS8, hRO⟩ := _root_.id hB
  obtain ⟨hSt, hRo, hSR, hLR, hSl, hLe, hkd, hinj, ⟨hfg, hRd, hSd, hLt⟩, hG⟩ := _root_.id hC
  obtain ⟨hDk, hDs, ⟨f1, hB1⟩, ⟨f2, hB2⟩, hBl, ⟨f3, hB3⟩, hRt, ⟨f4, hB4⟩, hkD, hn34, hDr⟩ := _root_.id hK
  obtain ⟨hg1, hg2, hg3, hg4, hg5, hg6, hg7, hg8, hgL, hgS, hgR, hgI, hgN, hg0⟩ := _root_.id hG
  obtain ⟨o1, o2⟩ := vdHrs_0 hok
  refine v_aload_n dX11_advance_19 rfl rfl ?_
  refine gf_X11_10 dX11_advance_20 rfl hO ?_
  refine v_iload_n dX11_advance_23 rfl rfl ?_
  refine k_X11_130 dX11_advance_24 rfl (c_passHours htr hC hK o1 o2) hDk (Nat.le_of_ble_eq_true rfl) (by omega) (by omega) (Nat.le_of_ble_eq_true rfl) (fun r24 M9 h9 => ?_) (fun _ _ h9 => h9.elim)
  obtain ⟨rfl, t9, f9⟩ := h9
  have hQ := hP.st f9 (StX.e t9)
  have hF9 := hF.tr (Frm.f30 f9 (by decide))
  exact v_iret dX11_advance_27 rfl ⟨hok, rfl, pa1, hPa, hQ, hF9⟩ (by omega) (by omega)
theorem dX11_send_0 : decode cX11_send 0 = .ok (.aload_n 0, 1) := by decide +kernel
theorem dX11_send_1 : decode cX11_send 1 = .ok (.getfield 10, 3) := by decide +kernel
theorem dX11_send_4 : decode cX11_send 4 = .ok (.iload_n 1, 1) := by decide +kernel
theorem dX11_send_5 : decode cX11_send 5 = .ok (.iload_n 2, 1) := by decide +kernel
theorem dX11_send_6 : decode cX11_send 6 = .ok (.invokevirtual 115, 3) := by decide +kernel
theorem dX11_send_9 : decode cX11_send 9 = .ok (.invokestatic 59, 3) := by decide +kernel
theorem dX11_send_12 : decode cX11_send 12 = .ok (.aload_n 0, 1) := by decide +kernel
theorem dX11_send_13 : decode cX11_send 13 = .ok (.aload_n 0, 1) := by decide +kernel
theorem dX11_send_14 : decode cX11_send 14 = .ok (.getfield 20, 3) := by decide +kernel
theorem dX11_send_17 : decode cX11_send 17 = .ok (.invokevirtual 63, 3) := by decide +kernel
theorem dX11_send_20 : decode cX11_send 20 = .ok (.aload_n 0, 1) := by decide +kernel
theorem dX11_send_21 : decode cX11_send 21 = .ok (.getfield 10, 3) := by decide +kernel
theorem dX11_send_24 : decode cX11_send 24 = .ok (.iload_n 1, 1) := by decide +kernel
theorem dX11_send_25 : decode cX11_send 25 = .ok (.iload_n 2, 1) := by decide +kernel
theorem dX11_send_26 : decode cX11_send 26 = .ok (.invokevirtual 118, 3) := by decide +kernel
theorem dX11_send_29 : decode cX11_send 29 = .ok (.ireturn, 1) := by decide +kernel
set_option maxRecDepth 100000 in
set_option maxHeartbeats 4000000 in
theorem f_send {l : Launch} {g : Nat → Nat} {M : LH} (htr : l.stackTraces = false) {kd : Nat → Nat} {p : Nat} {q a : Nat → Nat} {e8 : Int32 → Nat} {v : Int32 → Int32} {sv : Int32} {sa : Int32 → Int32} {ch : Int32} {pa tx : Int32 → Int32} {tn : Int32} {Ls : List Int32} {ea fl : Int32} (hP : Pg kd M p q a e8 v sv sa ch pa tx tn Ls ea fl) (k s : Int32) : K_X11_send l g 5 1 6 [.ref p, .int k, .int s] M (RI (fun x M9 => ∃ w, (hsl v k → hst v s → IsD v 1000000 (sd v k 1) s w.toInt ∨ (0 < sd v k 2 ∨ sd v k 1 = s)) ∧ vdGo v k s w = 0 ∧ IsD v 1000000 (sd v k 1) s x.toInt ∧ ∃ pa', PaS ch pa v pa' ∧ Pg kd M9 p q a e8 (goS v k s x) sv sa ((if ch = 8 then 7 else ch) + 1) pa' tx tn Ls ea fl ∧ F30 kd M M9) (fun E M9 => ∃ w, (hsl v k → hst v s → IsD v 1000000 (sd v k 1) s w.toInt ∨ (0 < sd v k 2 ∨ sd v k 1 = s)) ∧ ¬ vdGo v k s w = 0 ∧ E = exV (vdGo v k s w) ∧ Pg kd M9 p q a e8 v sv sa ch pa tx tn Ls ea fl ∧ F30 kd M M9)) := by
  refine Ko_X11_send htr (fun X => ?_)
  obtain ⟨hs, old, hB, hR⟩ := _root_.id hP
  obtain ⟨hO, hE8, hkp, hk3, ⟨ad, sl, le, fg, tp, F, hC⟩, hK, hS2, hS3, hS8, hRO⟩ := _root_.id hB
  obtain ⟨hSt, hRo, hSR, hLR, hSl, hLe, hkd, hinj, ⟨hfg, hRd, hSd, hLt⟩, hG⟩ := _root_.id hC
  obtain ⟨hDk, hDs, ⟨f1, hB1⟩, ⟨f2, hB2⟩, hBl, ⟨f3, hB3⟩, hRt, ⟨f4, hB4⟩, hkD, hn34, hDr⟩ := _root_.id hK
  obtain ⟨hg1, hg2, hg3, hg4, hg5, hg6, hg7, hg8, hgL, hgS, hgR, hgI, hgN, hg0⟩ := _root_.id hG
  refine v_aload_n dX11_send_0 rfl rfl ?_
  refine gf_X11_10 dX11_send_1 rfl hO ?_
  refine v_iload_n dX11_send_4 rfl rfl ?_
  refine v_iload_n dX11_send_5 rfl rfl ?_
  refine k_X11_115 dX11_send_6 rfl (c_judgeGo htr hC hK k s) hDk (Nat.le_of_ble_eq_true rfl) (by omega) (by omega) (Nat.le_of_ble_eq_true rfl) (fun r6 M9 h9 => ?_) (fun _ _ h9 => h9.elim)
  obtain ⟨w, hw, rfl, f9, e9⟩ := h9
  have hP := hP.desk (M' := M9) (by rw [e9]; exact Frm.up hkD.2.2.1) (by rw [e9]; exact Dk.row hK hB1 f9)
  have hF0 : F30 kd M M9 := by rw [e9]; exact Frm.f30 (r := 20) (Frm.up hkD.2.2.1) (by decide)
  clear e9
  obtain ⟨hs, old, hB, hR⟩ := _root_.id hP
  obtain ⟨hO, hE8, hkp, hk3, ⟨ad, sl, le, fg, tp, F, hC⟩, hK, hS2, hS3, hS8, hRO⟩ := _root_.id hB
  obtain ⟨hSt, hRo, hSR, hLR, hSl, hLe, hkd, hinj, ⟨hfg, hRd, hSd, hLt⟩, hG⟩ := _root_.id hC
  obtain ⟨hDk, hDs, ⟨f1, hB1⟩, ⟨f2, hB2⟩, hBl, ⟨f3, hB3⟩, hRt, ⟨f4, hB4⟩, hkD, hn34, hDr⟩ := _root_.id hK
  obtain ⟨hg1, hg2, hg3, hg4, hg5, hg6, hg7, hg8, hgL, hgS, hgR, hgI, hgN, hg0⟩ := _root_.id hG
  refine k_X11_59 dX11_send_9 rfl (c_demandFine htr (vd_lt (σ := v) (s := 0) (t := s) (n := 0) (w := w) (e := 0) (k := k) (id := 0)).2.2.2.2.2.2.2.2.2) (Nat.le_of_ble_eq_true rfl) (by omega) (by omega) (Nat.le_of_ble_eq_true rfl) (fun M9 h9 => ?_) (fun _ _ h9 => by obtain ⟨h91, rfl, rfl⟩ := h9; exact VX.out ⟨w, hw, h91, rfl, hP, hF0⟩ (by omega) (by omega))
  obtain ⟨hok, e9⟩ := h9
  subst M9
  refine v_aload_n dX11_send_12 rfl rfl ?_
  refine v_aload_n dX11_send_13 rfl rfl ?_
  refine gf_X11_20 dX11_send_14 rfl hO ?_
  refine k_X11_63 dX11_send_17 rfl (c_remember htr hB hR ⟨_, _, _, _, _, _, hC⟩ (by decide)) hO (Nat.le_of_ble_eq_true rfl) (by omega) (by omega) (Nat.le_of_ble_eq_true rfl) (fun M9 h9 => ?_) (fun _ _ h9 => h9.elim)
  obtain ⟨pa1, hPa, hP, hF⟩ := h9
  obtain ⟨hs, old, hB, hR⟩ := _root_.id hP
  obtain ⟨hO, hE8, hkp, hk3, ⟨ad, sl, le, fg, tp, F, hC⟩, hK, hS2, hS3, hS8, hRO⟩ := _root_.id hB
  obtain ⟨hSt, hRo, hSR, hLR, hSl, hLe, hkd, hinj, ⟨hfg, hRd, hSd, hLt⟩, hG⟩ := _root_.id hC
  obtain ⟨hDk, hDs, ⟨f1, hB1⟩, ⟨f2, hB2⟩, hBl, ⟨f3, hB3⟩, hRt, ⟨f4, hB4⟩, hkD, hn34, hDr⟩ := _root_.id hK
  obtain ⟨hg1, hg2, hg3, hg4, hg5, hg6, hg7, hg8, hgL, hgS, hgR, hgI, hgN, hg0⟩ := _root_.id hG
  have ho := (vdGo_0 hw).mp hok
  obtain ⟨⟨o1, o2⟩, ⟨o3, o4⟩, o5, o6⟩ : hsl v k ∧ hst v s ∧ ¬ (0 < sd v k 2 ∨ sd v k 1 = s) ∧ ∃ d, Wks v (sd v k 1) s d := ho
  refine v_aload_n dX11_send_20 rfl rfl ?_
  refine gf_X11_10 dX11_send_21 rfl hO ?_
  refine v_iload_n dX11_send_24 rfl rfl ?_
  refine v_iload_n dX11_send_25 rfl rfl ?_
  refine k_X11_118 dX11_send_26 rfl (c_go htr hC hK o1 o2 o3 o4 o6) hDk (Nat.le_of_ble_eq_true rfl) (by omega) (by omega) (Nat.le_of_ble_eq_true rfl) (fun r26 M9 h9 => ?_) (fun _ _ h9 => h9.elim)
  obtain ⟨d9, F9, t9, k9, f9⟩ := h9
  have hQ := hP.now f9 ⟨_, _, _, _, _, _, t9⟩ k9
  have hF9 := (hF0.tr hF).tr (Fr2.f30 f9 (by decide) (by decide))
  exact v_iret dX11_send_29 rfl ⟨w, hw, hok, d9, pa1, hPa, hQ, hF9⟩ (by omega) (by omega)
