/-! ===== the face: undo, the snapshot, the output read ===== -/
theorem PgR.less {kd : Nat → Nat} {M : LH} {a : Nat → Nat} {e8 : Int32 → Nat} {hs old sv : Int32} {sa : Int32 → Int32} {ch c2 : Int32} {pa : Int32 → Int32} (h : PgR kd M a e8 hs old sv sa ch pa) (c0 : 0 ≤ c2) (c1 : c2 ≤ ch) : PgR kd M a e8 hs old sv sa c2 pa := by
  obtain ⟨g1, g2, g3, g4, g5, g6, g7, g8⟩ := h
  exact ⟨g1, g2, g3, g4, g5, c0, Int32.le_trans c1 g7, fun k k0 k1 => g8 k k0 (Int32.lt_of_lt_of_le k1 c1)⟩
/-- the snapshot's room changes; the room of the state before a script -/
theorem PgB.sn {kd : Nat → Nat} {p : Nat} {q a : Nat → Nat} {e8 : Int32 → Nat} {hs old : Int32} {v : Int32 → Int32} {ch : Int32} {tx : Int32 → Int32} {tn : Int32} {Ls : List Int32} {ea fl : Int32} {M M' : LH} (h : PgB kd M p q a e8 hs old v ch tx tn Ls ea fl) (f : Frm kd 2 M M') (hX : StS kd 2 M' (a 1)) : PgB kd M' p q a e8 hs old v ch tx tn Ls ea fl := by
  obtain ⟨g1, g2, g3, g4, g5, g6, g7, g8, g9, g10⟩ := h
  have f2 : Fs kd (fun r => r = 2) M M' := Frm.fs f rfl
  exact ⟨(f2 _ (by rw [g3]; decide)).trans g1, (f2 _ (by rw [g4]; decide)).trans g2, g3, g4, g5.tp (f2.tp (by decide)), g6.tp (f2.tp (by decide)), hX, g8.tp (f2.tp (by decide)), fun j j0 j1 => (g9 j j0 j1).tp (f2.tp (by omega)), g10.fs f2 (by decide) (by decide) (by decide) (by decide)⟩
theorem PgB.bs {kd : Nat → Nat} {p : Nat} {q a : Nat → Nat} {e8 : Int32 → Nat} {hs old : Int32} {v : Int32 → Int32} {ch : Int32} {tx : Int32 → Int32} {tn : Int32} {Ls : List Int32} {ea fl : Int32} {M M' : LH} (h : PgB kd M p q a e8 hs old v ch tx tn Ls ea fl) (f : Frm kd 3 M M') (hX : StS kd 3 M' (a 2)) : PgB kd M' p q a e8 hs old v ch tx tn Ls ea fl := by
  obtain ⟨g1, g2, g3, g4, g5, g6, g7, g8, g9, g10⟩ := h
  have f2 : Fs kd (fun r => r = 3) M M' := Frm.fs f rfl
  exact ⟨(f2 _ (by rw [g3]; decide)).trans g1, (f2 _ (by rw [g4]; decide)).trans g2, g3, g4, g5.tp (f2.tp (by decide)), g6.tp (f2.tp (by decide)), g7.tp (f2.tp (by decide)), hX, fun j j0 j1 => (g9 j j0 j1).tp (f2.tp (by omega)), g10.fs f2 (by decide) (by decide) (by decide) (by decide)⟩
/-- the living state is copied from another -/
theorem PgB.cp {kd : Nat → Nat} {p : Nat} {q a : Nat → Nat} {e8 : Int32 → Nat} {hs old : Int32} {v : Int32 → Int32} {ch : Int32} {tx : Int32 → Int32} {tn : Int32} {Ls : List Int32} {ea fl : Int32} {M M' : LH} {v' : Int32 → Int32} (h : PgB kd M p q a e8 hs old v ch tx tn Ls ea fl) (f : Frm kd 1 M M') (hX : StX kd 1 M' (a 0) v') : PgB kd M' p q a e8 hs old v' ch tx tn Ls ea fl := by
  exact h.now (Fr2.a f) hX (h.2.2.2.2.2.1.tp ((Frm.fs (S := fun r => r = 1) f rfl).tp (by decide)))
theorem dX11_undo_0 : decode cX11_undo 0 = .ok (.aload_n 0, 1) := by decide +kernel
theorem dX11_undo_1 : decode cX11_undo 1 = .ok (.getfield 387, 3) := by decide +kernel
theorem dX11_undo_4 : decode cX11_undo 4 = .ok (.ifCond .ne 14, 3) := by decide +kernel
theorem dX11_undo_7 : decode cX11_undo 7 = .ok (.new 224, 3) := by decide +kernel
theorem dX11_undo_10 : decode cX11_undo 10 = .ok (.dup, 1) := by decide +kernel
theorem dX11_undo_11 : decode cX11_undo 11 = .ok (.ldc_w 390, 3) := by decide +kernel
theorem dX11_undo_14 : decode cX11_undo 14 = .ok (.invokespecial 228, 3) := by decide +kernel
theorem dX11_undo_17 : decode cX11_undo 17 = .ok (.athrow, 1) := by decide +kernel
theorem dX11_undo_18 : decode cX11_undo 18 = .ok (.aload_n 0, 1) := by decide +kernel
theorem dX11_undo_19 : decode cX11_undo 19 = .ok (.dup, 1) := by decide +kernel
theorem dX11_undo_20 : decode cX11_undo 20 = .ok (.getfield 387, 3) := by decide +kernel
theorem dX11_undo_23 : decode cX11_undo 23 = .ok (.iconst 1, 1) := by decide +kernel
theorem dX11_undo_24 : decode cX11_undo 24 = .ok (.isub, 1) := by decide +kernel
theorem dX11_undo_25 : decode cX11_undo 25 = .ok (.putfield 387, 3) := by decide +kernel
theorem dX11_undo_28 : decode cX11_undo 28 = .ok (.aload_n 0, 1) := by decide +kernel
theorem dX11_undo_29 : decode cX11_undo 29 = .ok (.getfield 20, 3) := by decide +kernel
theorem dX11_undo_32 : decode cX11_undo 32 = .ok (.aload_n 0, 1) := by decide +kernel
theorem dX11_undo_33 : decode cX11_undo 33 = .ok (.getfield 27, 3) := by decide +kernel
theorem dX11_undo_36 : decode cX11_undo 36 = .ok (.aload_n 0, 1) := by decide +kernel
theorem dX11_undo_37 : decode cX11_undo 37 = .ok (.getfield 392, 3) := by decide +kernel
theorem dX11_undo_40 : decode cX11_undo 40 = .ok (.aload_n 0, 1) := by decide +kernel
theorem dX11_undo_41 : decode cX11_undo 41 = .ok (.getfield 387, 3) := by decide +kernel
theorem dX11_undo_44 : decode cX11_undo 44 = .ok (.iadd, 1) := by decide +kernel
theorem dX11_undo_45 : decode cX11_undo 45 = .ok (.bipush 8, 2) := by decide +kernel
theorem dX11_undo_47 : decode cX11_undo 47 = .ok (.irem, 1) := by decide +kernel
theorem dX11_undo_48 : decode cX11_undo 48 = .ok (.aaload, 1) := by decide +kernel
theorem dX11_undo_49 : decode cX11_undo 49 = .ok (.invokevirtual 375, 3) := by decide +kernel
theorem dX11_undo_52 : decode cX11_undo 52 = .ok (.aload_n 0, 1) := by decide +kernel
theorem dX11_undo_53 : decode cX11_undo 53 = .ok (.getfield 387, 3) := by decide +kernel
theorem dX11_undo_56 : decode cX11_undo 56 = .ok (.ireturn, 1) := by decide +kernel
set_option maxRecDepth 100000 in
set_option maxHeartbeats 4000000 in
theorem f_undo {l : Launch} {g : Nat → Nat} {M : LH} (htr : l.stackTraces = false) {kd : Nat → Nat} {p : Nat} {q a : Nat → Nat} {e8 : Int32 → Nat} {v : Int32 → Int32} {sv : Int32} {sa : Int32 → Int32} {ch : Int32} {pa tx : Int32 → Int32} {tn : Int32} {Ls : List Int32} {ea fl : Int32} (hP : Pg kd M p q a e8 v sv sa ch pa tx tn Ls ea fl) : K_X11_undo l g 2 2 12 [.ref p] M (RI (fun x M9 => ¬ ch = 0 ∧ x = ch - 1 ∧ Pg kd M9 p q a e8 (fun j => pa ((ch - 1) * 150 + j)) sv sa (ch - 1) pa tx tn Ls ea fl ∧ F30 kd M M9) (fun E M9 => ch = 0 ∧ E = exV 3 ∧ Pg kd M9 p q a e8 v sv sa ch pa tx tn Ls ea fl ∧ F30 kd M M9)) := by
  refine Ko_X11_undo htr (fun X => ?_)
  obtain ⟨hs, old, hB, hR⟩ := _root_.id hP
  obtain ⟨hO, hE8, hkp, hk3, ⟨ad, sl, le, fg, tp, F, hC⟩, hK, hS2, hS3, hS8, hRO⟩ := _root_.id hB
  obtain ⟨r1, r2, r3, r4, r5, r6, r7, r8⟩ := _root_.id hR
  refine v_aload_n dX11_undo_0 rfl rfl ?_
  refine gf_X11_387 dX11_undo_1 rfl hO ?_
  refine v_if_ne (tgt := 18) dX11_undo_4 (by decide) (fun h4 => ?_) (fun h4 => ?_)
  · refine v_aload_n dX11_undo_18 rfl rfl ?_
    refine v_dup dX11_undo_19 rfl ?_
    refine gf_X11_387 dX11_undo_20 rfl hO ?_
    refine v_iconst (v := 1) dX11_undo_23 (by decide) ?_
    refine v_isub dX11_undo_24 ?_
    refine pf_X11_387 dX11_undo_25 rfl hO ?_
    refine V.pgb (PgB.own hB) (up21 hkp Fs.rf) (fun M1 hB hF => ?_)
    obtain ⟨hO, hE8, hkp, hk3, hX0, hK, hS2, hS3, hS8, hRO⟩ := _root_.id hB
    refine v_aload_n dX11_undo_28 rfl rfl ?_
    refine gf_X11_20 dX11_undo_29 rfl hO ?_
    refine v_aload_n dX11_undo_32 rfl rfl ?_
    refine gf_X11_27 dX11_undo_33 rfl hO ?_
    refine v_aload_n dX11_undo_36 rfl rfl ?_
    refine gf_X11_392 dX11_undo_37 rfl hO ?_
    refine v_aload_n dX11_undo_40 rfl rfl ?_
    refine gf_X11_387 dX11_undo_41 rfl hO ?_
    refine v_iadd dX11_undo_44 ?_
    refine v_bipush (v := (8)) dX11_undo_45 (by decide) ?_
    refine v_irem dX11_undo_47 (by decide) ?_
    rw [show old + (ch - 1) - (old + (ch - 1)) / 8 * 8 = md8 (old + (ch - 1)) from rfl]
    have c20 : 0 ≤ ch - 1 := by clear r8 hR hB hX0 hK hS2 hS3 hS8 hRO hP; lia
    have c28 : ch - 1 < 8 := by clear r8 hR hB hX0 hK hS2 hS3 hS8 hRO hP; lia
    have c2c : ch - 1 < ch := by clear r8 hR hB hX0 hK hS2 hS3 hS8 hRO hP; lia
    have i0 := md8_0 (x := old) (k := ch - 1) r4 r5 c20 c28
    obtain ⟨adS, slS, leS, fgS, tpS, FS, hSR⟩ := (r8 (ch - 1) c20 c2c).tp (hF.tp (rg8 r4 r5 c20 c28))
    obtain ⟨adT, slT, leT, cT, FT, hSC⟩ := hX0.s
    have rne : ¬ 10 + (md8 (old + (ch - 1))).toNatClampNeg = 1 := by omega
    refine v_aald1 dX11_undo_48 hE8 i0.1 i0.2 rfl ?_
    refine k_X11_375 dX11_undo_49 rfl (c_copySt htr hSC hSR rne) hSC.1 (Nat.le_of_ble_eq_true rfl) (by omega) (by omega) (Nat.le_of_ble_eq_true rfl) (fun M9 h9 => ?_) (fun _ _ h9 => h9.elim)
    obtain ⟨⟨F9, h91⟩, h92⟩ := h9
    have hB := hB.cp h92 ⟨_, _, _, _, _, _, h91⟩
    obtain ⟨hO, hE8, hkp, hk3, hX0, hK, hS2, hS3, hS8, hRO⟩ := _root_.id hB
    refine v_aload_n dX11_undo_52 rfl rfl ?_
    refine gf_X11_387 dX11_undo_53 rfl hO ?_
    exact v_iret dX11_undo_56 rfl ⟨by assumption, rfl, ⟨hs, old, hB, (((hR.fs hF (by decide) (fun i hi => by omega)).fs (Frm.fs (S := fun r => r = 1) h92 rfl) (by decide) (fun i hi => by omega)).less c20 (Int32.le_of_lt c2c))⟩, (hF.f30 (fun r h => by omega)).tr (Frm.f30 h92 (by decide))⟩ (by omega) (by omega)
  · exact th_X11_224_390 dX11_undo_7 dX11_undo_10 dX11_undo_11 dX11_undo_14 dX11_undo_17 rfl (Nat.le_of_ble_eq_true rfl) ⟨(by first | assumption | exact Classical.not_not.mp (by assumption)), rfl, hP, F30.rf⟩ (by omega) (by omega)
theorem dX11_save_0 : decode cX11_save 0 = .ok (.aload_n 0, 1) := by decide +kernel
theorem dX11_save_1 : decode cX11_save 1 = .ok (.getfield 24, 3) := by decide +kernel
theorem dX11_save_4 : decode cX11_save 4 = .ok (.aload_n 0, 1) := by decide +kernel
theorem dX11_save_5 : decode cX11_save 5 = .ok (.getfield 20, 3) := by decide +kernel
theorem dX11_save_8 : decode cX11_save 8 = .ok (.invokevirtual 375, 3) := by decide +kernel
theorem dX11_save_11 : decode cX11_save 11 = .ok (.aload_n 0, 1) := by decide +kernel
theorem dX11_save_12 : decode cX11_save 12 = .ok (.iconst 1, 1) := by decide +kernel
theorem dX11_save_13 : decode cX11_save 13 = .ok (.putfield 395, 3) := by decide +kernel
theorem dX11_save_16 : decode cX11_save 16 = .ok (.aload_n 0, 1) := by decide +kernel
theorem dX11_save_17 : decode cX11_save 17 = .ok (.getfield 20, 3) := by decide +kernel
theorem dX11_save_20 : decode cX11_save 20 = .ok (.getfield 221, 3) := by decide +kernel
theorem dX11_save_23 : decode cX11_save 23 = .ok (.ireturn, 1) := by decide +kernel
set_option maxRecDepth 100000 in
set_option maxHeartbeats 4000000 in
theorem f_save {l : Launch} {g : Nat → Nat} {M : LH} (htr : l.stackTraces = false) {kd : Nat → Nat} {p : Nat} {q a : Nat → Nat} {e8 : Int32 → Nat} {v : Int32 → Int32} {sv : Int32} {sa : Int32 → Int32} {ch : Int32} {pa tx : Int32 → Int32} {tn : Int32} {Ls : List Int32} {ea fl : Int32} (hP : Pg kd M p q a e8 v sv sa ch pa tx tn Ls ea fl) : K_X11_save l g 2 0 0 [.ref p] M (RI (fun x M9 => x = v 7 ∧ Pg kd M9 p q a e8 v 1 v ch pa tx tn Ls ea fl ∧ F30 kd M M9) nX) := by
  refine Ko_X11_save htr (fun X => ?_)
  obtain ⟨hs, old, hB, hR⟩ := _root_.id hP
  obtain ⟨hO, hE8, hkp, hk3, ⟨ad, sl, le, fg, tp, F, hC⟩, hK, hS2, hS3, hS8, hRO⟩ := _root_.id hB
  obtain ⟨r1, r2, r3, r4, r5, r6, r7, r8⟩ := _root_.id hR
  obtain ⟨adT, slT, leT, cT, FT, hSC⟩ := hS2
  refine v_aload_n dX11_save_0 rfl rfl ?_
  refine gf_X11_24 dX11_save_1 rfl hO ?_
  refine v_aload_n dX11_save_4 rfl rfl ?_
  refine gf_X11_20 dX11_save_5 rfl hO ?_
  refine k_X11_375 dX11_save_8 rfl (c_copySt htr hSC hC (by decide)) hSC.1 (Nat.le_of_ble_eq_true rfl) (by omega) (by omega) (Nat.le_of_ble_eq_true rfl) (fun M9 h9 => ?_) (fun _ _ h9 => h9.elim)
  obtain ⟨⟨F9, h91⟩, h92⟩ := h9
  have hX9 : StX kd 2 M9 (a 1) v := ⟨_, _, _, _, _, _, h91⟩
  have hB := hB.sn h92 hX9.s
  obtain ⟨hO, hE8, hkp, hk3, ⟨ad, sl, le, fg, tp, F, hC⟩, hK, hS2, hS3, hS8, hRO⟩ := _root_.id hB
  refine v_aload_n dX11_save_11 rfl rfl ?_
  refine v_iconst (v := 1) dX11_save_12 (by decide) ?_
  refine pf_X11_395 dX11_save_13 rfl (by first | rfl | assumption) (by first | rfl | assumption) hO ?_
  refine V.pgb (PgB.own hB) (up21 hkp Fs.rf) (fun M1 hB hF => ?_)
  obtain ⟨hO, hE8, hkp, hk3, ⟨ad, sl, le, fg, tp, F, hC⟩, hK, hS2, hS3, hS8, hRO⟩ := _root_.id hB
  have hSt := hC.1
  obtain ⟨-, -, -, -, -, -, -, -, ⟨hfg, hRd, hSd, hLt⟩, hG⟩ := _root_.id hC
  refine v_aload_n dX11_save_16 rfl rfl ?_
  refine gf_X11_20 dX11_save_17 rfl hO ?_
  refine gf_X11_221 dX11_save_20 rfl hSt ?_
  exact v_iret dX11_save_23 rfl ⟨rfl, ⟨1, old, hB, Or.inr rfl, by decide, fun _ => hX9.tp (hF.tp (by decide)), r4, r5, r6, r7, fun k k0 k1 => ((r8 k k0 k1).tp ((Frm.fs (S := fun r => r = 2) h92 rfl).tp (by omega))).tp (hF.tp (rg8 r4 r5 k0 (Int32.lt_of_lt_of_le k1 r7)))⟩, (Frm.f30 h92 (by decide)).tr (hF.f30 (fun r h => by omega))⟩ (by omega) (by omega)
theorem dX11_restore_0 : decode cX11_restore 0 = .ok (.aload_n 0, 1) := by decide +kernel
theorem dX11_restore_1 : decode cX11_restore 1 = .ok (.getfield 395, 3) := by decide +kernel
theorem dX11_restore_4 : decode cX11_restore 4 = .ok (.ifCond .ne 14, 3) := by decide +kernel
theorem dX11_restore_7 : decode cX11_restore 7 = .ok (.new 362, 3) := by decide +kernel
theorem dX11_restore_10 : decode cX11_restore 10 = .ok (.dup, 1) := by decide +kernel
theorem dX11_restore_11 : decode cX11_restore 11 = .ok (.ldc_w 399, 3) := by decide +kernel
theorem dX11_restore_14 : decode cX11_restore 14 = .ok (.invokespecial 366, 3) := by decide +kernel
theorem dX11_restore_17 : decode cX11_restore 17 = .ok (.athrow, 1) := by decide +kernel
theorem dX11_restore_18 : decode cX11_restore 18 = .ok (.aload_n 0, 1) := by decide +kernel
theorem dX11_restore_19 : decode cX11_restore 19 = .ok (.getfield 20, 3) := by decide +kernel
theorem dX11_restore_22 : decode cX11_restore 22 = .ok (.aload_n 0, 1) := by decide +kernel
theorem dX11_restore_23 : decode cX11_restore 23 = .ok (.getfield 24, 3) := by decide +kernel
theorem dX11_restore_26 : decode cX11_restore 26 = .ok (.invokevirtual 375, 3) := by decide +kernel
theorem dX11_restore_29 : decode cX11_restore 29 = .ok (.aload_n 0, 1) := by decide +kernel
theorem dX11_restore_30 : decode cX11_restore 30 = .ok (.iconst 0, 1) := by decide +kernel
theorem dX11_restore_31 : decode cX11_restore 31 = .ok (.putfield 387, 3) := by decide +kernel
theorem dX11_restore_34 : decode cX11_restore 34 = .ok (.aload_n 0, 1) := by decide +kernel
theorem dX11_restore_35 : decode cX11_restore 35 = .ok (.getfield 20, 3) := by decide +kernel
theorem dX11_restore_38 : decode cX11_restore 38 = .ok (.getfield 221, 3) := by decide +kernel
theorem dX11_restore_41 : decode cX11_restore 41 = .ok (.ireturn, 1) := by decide +kernel
set_option maxRecDepth 100000 in
set_option maxHeartbeats 4000000 in
theorem f_restore {l : Launch} {g : Nat → Nat} {M : LH} (htr : l.stackTraces = false) {kd : Nat → Nat} {p : Nat} {q a : Nat → Nat} {e8 : Int32 → Nat} {v : Int32 → Int32} {sv : Int32} {sa : Int32 → Int32} {ch : Int32} {pa tx : Int32 → Int32} {tn : Int32} {Ls : List Int32} {ea fl : Int32} (hP : Pg kd M p q a e8 v sv sa ch pa tx tn Ls ea fl) : K_X11_restore l g 2 2 12 [.ref p] M (RI (fun x M9 => ¬ sv = 0 ∧ x = sa 7 ∧ Pg kd M9 p q a e8 sa sv sa 0 pa tx tn Ls ea fl ∧ F30 kd M M9) (fun E M9 => sv = 0 ∧ E = exV 4 ∧ Pg kd M9 p q a e8 v sv sa ch pa tx tn Ls ea fl ∧ F30 kd M M9)) := by
  refine Ko_X11_restore htr (fun X => ?_)
  obtain ⟨hs, old, hB, hR⟩ := _root_.id hP
  obtain ⟨hO, hE8, hkp, hk3, ⟨ad, sl, le, fg, tp, F, hC⟩, hK, hS2, hS3, hS8, hRO⟩ := _root_.id hB
  obtain ⟨r1, r2, r3, r4, r5, r6, r7, r8⟩ := _root_.id hR
  refine v_aload_n dX11_restore_0 rfl rfl ?_
  refine gf_X11_395 dX11_restore_1 rfl hO ?_
  refine v_if_ne (tgt := 18) dX11_restore_4 (by decide) (fun h4 => ?_) (fun h4 => ?_)
  · have hsv : ¬ sv = 0 := fun z => (by assumption : ¬ hs = 0) (r2.mpr z)
    obtain ⟨adS, slS, leS, fgS, tpS, FS, hSR⟩ := r3 hsv
    refine v_aload_n dX11_restore_18 rfl rfl ?_
    refine gf_X11_20 dX11_restore_19 rfl hO ?_
    refine v_aload_n dX11_restore_22 rfl rfl ?_
    refine gf_X11_24 dX11_restore_23 rfl hO ?_
    refine k_X11_375 dX11_restore_26 rfl (c_copySt htr (StR.toC hC) hSR (by decide)) hC.1 (Nat.le_of_ble_eq_true rfl) (by omega) (by omega) (Nat.le_of_ble_eq_true rfl) (fun M9 h9 => ?_) (fun _ _ h9 => h9.elim)
    obtain ⟨⟨F9, h91⟩, h92⟩ := h9
    have hB := hB.cp h92 ⟨_, _, _, _, _, _, h91⟩
    obtain ⟨hO, hE8, hkp, hk3, ⟨ad, sl, le, fg, tp, F, hC⟩, hK, hS2, hS3, hS8, hRO⟩ := _root_.id hB
    refine v_aload_n dX11_restore_29 rfl rfl ?_
    refine v_iconst (v := 0) dX11_restore_30 (by decide) ?_
    refine pf_X11_387 dX11_restore_31 rfl hO ?_
    refine V.pgb (PgB.own hB) (up21 hkp Fs.rf) (fun M1 hB hF => ?_)
    obtain ⟨hO, hE8, hkp, hk3, ⟨ad, sl, le, fg, tp, F, hC⟩, hK, hS2, hS3, hS8, hRO⟩ := _root_.id hB
    have hSt := hC.1
    obtain ⟨-, -, -, -, -, -, -, -, ⟨hfg, hRd, hSd, hLt⟩, hG⟩ := _root_.id hC
    refine v_aload_n dX11_restore_34 rfl rfl ?_
    refine gf_X11_20 dX11_restore_35 rfl hO ?_
    refine gf_X11_221 dX11_restore_38 rfl hSt ?_
    exact v_iret dX11_restore_41 rfl ⟨hsv, rfl, ⟨hs, old, hB, (((hR.fs (Frm.fs (S := fun r => r = 1) h92 rfl) (by decide) (fun i hi => by omega)).fs hF (by decide) (fun i hi => by omega)).less (by decide) r6)⟩, (Frm.f30 h92 (by decide)).tr (hF.f30 (fun r h => by omega))⟩ (by omega) (by omega)
  · exact th_X11_362_399 dX11_restore_7 dX11_restore_10 dX11_restore_11 dX11_restore_14 dX11_restore_17 rfl (Nat.le_of_ble_eq_true rfl) ⟨r2.mp (by first | assumption | exact Classical.not_not.mp (by assumption)), rfl, hP, F30.rf⟩ (by omega) (by omega)
theorem dX11_outputAt_0 : decode cX11_outputAt 0 = .ok (.iload_n 1, 1) := by decide +kernel
theorem dX11_outputAt_1 : decode cX11_outputAt 1 = .ok (.ifCond .lt 14, 3) := by decide +kernel
theorem dX11_outputAt_4 : decode cX11_outputAt 4 = .ok (.iload_n 1, 1) := by decide +kernel
theorem dX11_outputAt_5 : decode cX11_outputAt 5 = .ok (.aload_n 0, 1) := by decide +kernel
theorem dX11_outputAt_6 : decode cX11_outputAt 6 = .ok (.getfield 51, 3) := by decide +kernel
theorem dX11_outputAt_9 : decode cX11_outputAt 9 = .ok (.invokevirtual 342, 3) := by decide +kernel
theorem dX11_outputAt_12 : decode cX11_outputAt 12 = .ok (.if_icmp .lt 14, 3) := by decide +kernel
theorem dX11_outputAt_15 : decode cX11_outputAt 15 = .ok (.new 348, 3) := by decide +kernel
theorem dX11_outputAt_18 : decode cX11_outputAt 18 = .ok (.dup, 1) := by decide +kernel
theorem dX11_outputAt_19 : decode cX11_outputAt 19 = .ok (.ldc_w 350, 3) := by decide +kernel
theorem dX11_outputAt_22 : decode cX11_outputAt 22 = .ok (.invokespecial 352, 3) := by decide +kernel
theorem dX11_outputAt_25 : decode cX11_outputAt 25 = .ok (.athrow, 1) := by decide +kernel
theorem dX11_outputAt_26 : decode cX11_outputAt 26 = .ok (.aload_n 0, 1) := by decide +kernel
theorem dX11_outputAt_27 : decode cX11_outputAt 27 = .ok (.getfield 51, 3) := by decide +kernel
theorem dX11_outputAt_30 : decode cX11_outputAt 30 = .ok (.iload_n 1, 1) := by decide +kernel
theorem dX11_outputAt_31 : decode cX11_outputAt 31 = .ok (.invokevirtual 353, 3) := by decide +kernel
theorem dX11_outputAt_34 : decode cX11_outputAt 34 = .ok (.ireturn, 1) := by decide +kernel
set_option maxRecDepth 100000 in
set_option maxHeartbeats 4000000 in
theorem f_outputAt {l : Launch} {g : Nat → Nat} {M : LH} (htr : l.stackTraces = false) {kd : Nat → Nat} {p : Nat} {q a : Nat → Nat} {e8 : Int32 → Nat} {v : Int32 → Int32} {sv : Int32} {sa : Int32 → Int32} {ch : Int32} {pa tx : Int32 → Int32} {tn : Int32} {Ls : List Int32} {ea fl : Int32} (hP : Pg kd M p q a e8 v sv sa ch pa tx tn Ls ea fl) (j : Int32) : K_X11_outputAt l g 4 2 12 [.ref p, .int j] M (RI (fun x M9 => (0 ≤ j ∧ j.toNatClampNeg < Ls.length) ∧ x = Ls.getD j.toNatClampNeg 0 ∧ Pg kd M9 p q a e8 v sv sa ch pa tx tn Ls ea fl ∧ F30 kd M M9) (fun E M9 => ¬ (0 ≤ j ∧ j.toNatClampNeg < Ls.length) ∧ E = exV 1 ∧ Pg kd M9 p q a e8 v sv sa ch pa tx tn Ls ea fl ∧ F30 kd M M9)) := by
  refine Ko_X11_outputAt htr (fun X => ?_)
  obtain ⟨hs, old, hB, hR⟩ := _root_.id hP
  obtain ⟨hO, hE8, hkp, hk3, ⟨ad, sl, le, fg, tp, F, hC⟩, hK, hS2, hS3, hS8, hRO⟩ := _root_.id hB
  obtain ⟨vt, ct, f0, cm, at9, nc, NN, vo, co, c1, hRr, c3, c4, ⟨co3, ⟨fo, hSb, hTl⟩, co4⟩, c6, c7, c8⟩ := _root_.id hRO
  obtain ⟨cb1, cb2, cb3, cb4⟩ := cpc_b co co3
  obtain ⟨⟨mlo, hBo⟩, -, so0, soN, -, sob⟩ := _root_.id hSb
  refine v_iload_n dX11_outputAt_0 rfl rfl ?_
  refine v_if_lt (tgt := 15) dX11_outputAt_1 (by decide) (fun h1 => ?_) (fun h1 => ?_)
  · exact th_X11_348_350 dX11_outputAt_15 dX11_outputAt_18 dX11_outputAt_19 dX11_outputAt_22 dX11_outputAt_25 rfl (Nat.le_of_ble_eq_true rfl) ⟨(fun z => by first | exact absurd z.1 (Int32.not_le.mpr h1) | exact absurd (by have w := nI_lt z.2 (by omega); rwa [tc_nI z.1] at w) h12), rfl, hP, F30.rf⟩ (by omega) (by omega)
  · refine v_iload_n dX11_outputAt_4 rfl rfl ?_
    refine v_aload_n dX11_outputAt_5 rfl rfl ?_
    refine gf_X11_51 dX11_outputAt_6 rfl hO ?_
    refine k_X11_342 dX11_outputAt_9 rfl (c_len4 htr hSb) hBo (Nat.le_of_ble_eq_true rfl) (by omega) (by omega) (Nat.le_of_ble_eq_true rfl) (fun r9 M9 h9 => ?_) (fun _ _ h9 => h9.elim)
    obtain ⟨rfl, e9⟩ := h9
    subst M9
    refine v_icmp_lt (tgt := 26) dX11_outputAt_12 (by decide) (fun h12 => ?_) (fun h12 => ?_)
    · have j0 := Int32.not_lt.mp h1
      have z0 := sob j j0 (Int32.lt_of_lt_of_le h12 soN)
      have jl : j.toNatClampNeg < Ls.length := by
        have z := tc_lt j0 h12
        rwa [nI_clamp (by omega)] at z
      have jv : fo j = Ls.getD j.toNatClampNeg 0 := by
        have z := hTl _ jl
        rwa [tc_nI j0] at z
      refine v_aload_n dX11_outputAt_26 rfl rfl ?_
      refine gf_X11_51 dX11_outputAt_27 rfl hO ?_
      refine v_iload_n dX11_outputAt_30 rfl rfl ?_
      refine k_X11_353 dX11_outputAt_31 rfl (c_charAt htr hSb j0 h12) hBo (Nat.le_of_ble_eq_true rfl) (by omega) (by omega) (Nat.le_of_ble_eq_true rfl) (fun r31 M9 h9 => ?_) (fun _ _ h9 => h9.elim)
      obtain ⟨rfl, e9⟩ := h9
      subst M9
      exact v_zret dX11_outputAt_34 rfl (narC z0.1 z0.2)  ⟨⟨j0, jl⟩, jv, hP, F30.rf⟩ (by omega) (by omega)
    · exact th_X11_348_350 dX11_outputAt_15 dX11_outputAt_18 dX11_outputAt_19 dX11_outputAt_22 dX11_outputAt_25 rfl (Nat.le_of_ble_eq_true rfl) ⟨(fun z => by first | exact absurd z.1 (Int32.not_le.mpr h1) | exact absurd (by have w := nI_lt z.2 (by omega); rwa [tc_nI z.1] at w) h12), rfl, hP, F30.rf⟩ (by omega) (by omega)
