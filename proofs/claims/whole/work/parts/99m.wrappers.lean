/-! ===== the law: its wrappers ===== -/
abbrev K_L_addStation (l : Launch) (g : Nat → Nat) (L mc ms : Nat) (av : List Value) (M : LH) (Po : Res → LH → Prop) : Prop := Ct l g yL_addStation (.codeWith yL_addStation cL_addStation 3 (some .int) [(0, 8, 11, 13)]) L mc ms av M Po
theorem ck_L_addStation : cOk yL_addStation 2 := ⟨by decide +kernel, by decide +kernel, by decide +kernel⟩
theorem dL_addStation_0 : decode cL_addStation 0 = .ok (.aload_n 1, 1) := by decide +kernel
theorem dL_addStation_1 : decode cL_addStation 1 = .ok (.iconst 0, 1) := by decide +kernel
theorem dL_addStation_2 : decode cL_addStation 2 = .ok (.aload_n 0, 1) := by decide +kernel
theorem dL_addStation_3 : decode cL_addStation 3 = .ok (.invokevirtual 7, 3) := by decide +kernel
theorem dL_addStation_6 : decode cL_addStation 6 = .ok (.i2l, 1) := by decide +kernel
theorem dL_addStation_7 : decode cL_addStation 7 = .ok (.lastore, 1) := by decide +kernel
theorem dL_addStation_8 : decode cL_addStation 8 = .ok (.goto 6, 3) := by decide +kernel
theorem dL_addStation_11 : decode cL_addStation 11 = .ok (.astore_n 2, 1) := by decide +kernel
theorem dL_addStation_12 : decode cL_addStation 12 = .ok (.iconst 1, 1) := by decide +kernel
theorem dL_addStation_13 : decode cL_addStation 13 = .ok (.ireturn, 1) := by decide +kernel
theorem dL_addStation_14 : decode cL_addStation 14 = .ok (.iconst 0, 1) := by decide +kernel
theorem dL_addStation_15 : decode cL_addStation 15 = .ok (.ireturn, 1) := by decide +kernel
set_option maxRecDepth 100000 in
set_option maxHeartbeats 4000000 in
theorem w_L_addStation {l : Launch} {g : Nat → Nat} {M : LH} (htr : l.stackTraces = false) {p out : Nat}  {fs : List Value} {L2 mc2 ms2 : Nat} {f : Int32 → LH → Prop} {x : String → LH → Prop} (hM : K_X11_addStation l g L2 mc2 ms2 [.ref p] M (RI f x)) (hp : M p = some (ob 9 fs)) (ho : ∀ r M9, f r M9 → ∃ h, M9 out = some (la 1 h)) (hx : ∀ E M9, x E M9 → E = "java/lang/IllegalStateException") : K_L_addStation l g (L2 + 1) mc2 ms2 [.ref p, .ref out] M (RI (fun k M9 => (k = 0 ∧ ∃ r M8 h, f r M8 ∧ h 0 = r.toInt64 ∧ M9 = hup M8 out (la 1 h)) ∨ (∃ E, x E M9 ∧ ((E = "java/lang/IllegalStateException" ∧ k = 1)))) nX) := by
  refine Ct.ofH (nL := 3) (by decide +kernel) (Nat.le_of_ble_eq_true rfl) (by simp [Value.category]) htr (fun X => ?_)
  show V l g yL_addStation cL_addStation ((some .int)) (tableOf [(0, 8, 11, 13)]) (L2 + 1) mc2 ms2 (RI (fun k M9 => (k = 0 ∧ ∃ r M8 h, f r M8 ∧ h 0 = r.toInt64 ∧ M9 = hup M8 out (la 1 h)) ∨ (∃ E, x E M9 ∧ ((E = "java/lang/IllegalStateException" ∧ k = 1)))) nX) X M 0 0 0 [some (.ref p), some (.ref out), none] []
  refine v_aload_n dL_addStation_0 rfl rfl ?_
  refine v_iconst (v := 0) dL_addStation_1 (by decide) ?_
  refine v_aload_n dL_addStation_2 rfl rfl ?_
  refine k_L_7 dL_addStation_3 rfl hM hp (Nat.le_refl _) (by omega) (by omega) (Nat.le_of_ble_eq_true rfl) (fun r3 M9 h9 => ?_) (fun E M9 h9 => ?_)
  obtain ⟨h0, ho9⟩ := ho _ _ h9
  refine v_i2l dL_addStation_6 ?_
  refine v_last dL_addStation_7 ho9 ?_
  refine v_goto (tgt := 14) dL_addStation_8 (by decide) ?_
  refine v_iconst (v := 0) dL_addStation_14 (by decide) ?_
  exact v_iret dL_addStation_15 rfl (Or.inl ⟨rfl, _, _, _, h9, rfl, rfl⟩) (by omega) (by omega)
  obtain rfl := hx E M9 h9
  refine VX.catch (own := "SledgePostLaw") (name := "java/lang/IllegalStateException") (pre := []) (suf := []) (x := ⟨0, 8, 11, 13⟩) rfl rfl (fun z hz => nomatch hz) (by decide) (by decide) (Ut_of (mt_3 105 rfl) rfl) (mt_3 234 rfl) (fun q9 => ?_)
  refine v_astore_2 dL_addStation_11 ?_
  refine v_iconst (v := 1) dL_addStation_12 (by decide) ?_
  exact v_iret dL_addStation_13 rfl (Or.inr ⟨_, h9, ⟨rfl, rfl⟩⟩) (by omega) (by omega)
abbrev K_L_setRoad (l : Launch) (g : Nat → Nat) (L mc ms : Nat) (av : List Value) (M : LH) (Po : Res → LH → Prop) : Prop := Ct l g yL_setRoad (.codeWith yL_setRoad cL_setRoad 6 (some .int) [(0, 12, 15, 19), (0, 12, 19, 21)]) L mc ms av M Po
theorem ck_L_setRoad : cOk yL_setRoad 5 := ⟨by decide +kernel, by decide +kernel, by decide +kernel⟩
theorem dL_setRoad_0 : decode cL_setRoad 0 = .ok (.aload 4, 2) := by decide +kernel
theorem dL_setRoad_2 : decode cL_setRoad 2 = .ok (.iconst 0, 1) := by decide +kernel
theorem dL_setRoad_3 : decode cL_setRoad 3 = .ok (.aload_n 0, 1) := by decide +kernel
theorem dL_setRoad_4 : decode cL_setRoad 4 = .ok (.iload_n 1, 1) := by decide +kernel
theorem dL_setRoad_5 : decode cL_setRoad 5 = .ok (.iload_n 2, 1) := by decide +kernel
theorem dL_setRoad_6 : decode cL_setRoad 6 = .ok (.iload_n 3, 1) := by decide +kernel
theorem dL_setRoad_7 : decode cL_setRoad 7 = .ok (.invokevirtual 15, 3) := by decide +kernel
theorem dL_setRoad_10 : decode cL_setRoad 10 = .ok (.i2l, 1) := by decide +kernel
theorem dL_setRoad_11 : decode cL_setRoad 11 = .ok (.lastore, 1) := by decide +kernel
theorem dL_setRoad_12 : decode cL_setRoad 12 = .ok (.goto 11, 3) := by decide +kernel
theorem dL_setRoad_15 : decode cL_setRoad 15 = .ok (.astore 5, 2) := by decide +kernel
theorem dL_setRoad_17 : decode cL_setRoad 17 = .ok (.iconst 1, 1) := by decide +kernel
theorem dL_setRoad_18 : decode cL_setRoad 18 = .ok (.ireturn, 1) := by decide +kernel
theorem dL_setRoad_19 : decode cL_setRoad 19 = .ok (.astore 5, 2) := by decide +kernel
theorem dL_setRoad_21 : decode cL_setRoad 21 = .ok (.iconst 2, 1) := by decide +kernel
theorem dL_setRoad_22 : decode cL_setRoad 22 = .ok (.ireturn, 1) := by decide +kernel
theorem dL_setRoad_23 : decode cL_setRoad 23 = .ok (.iconst 0, 1) := by decide +kernel
theorem dL_setRoad_24 : decode cL_setRoad 24 = .ok (.ireturn, 1) := by decide +kernel
set_option maxRecDepth 100000 in
set_option maxHeartbeats 4000000 in
theorem w_L_setRoad {l : Launch} {g : Nat → Nat} {M : LH} (htr : l.stackTraces = false) {p out : Nat} {b0 : Int32} {b1 : Int32} {b2 : Int32} {fs : List Value} {L2 mc2 ms2 : Nat} {f : Int32 → LH → Prop} {x : String → LH → Prop} (hM : K_X11_setRoad l g L2 mc2 ms2 [.ref p, .int b0, .int b1, .int b2] M (RI f x)) (hp : M p = some (ob 9 fs)) (ho : ∀ r M9, f r M9 → ∃ h, M9 out = some (la 1 h)) (hx : ∀ E M9, x E M9 → E = "java/lang/IndexOutOfBoundsException" ∨ E = "java/lang/IllegalArgumentException") : K_L_setRoad l g (L2 + 1) mc2 ms2 [.ref p, .int b0, .int b1, .int b2, .ref out] M (RI (fun k M9 => (k = 0 ∧ ∃ r M8 h, f r M8 ∧ h 0 = r.toInt64 ∧ M9 = hup M8 out (la 1 h)) ∨ (∃ E, x E M9 ∧ ((E = "java/lang/IndexOutOfBoundsException" ∧ k = 1) ∨ (E = "java/lang/IllegalArgumentException" ∧ k = 2)))) nX) := by
  refine Ct.ofH (nL := 6) (by decide +kernel) (Nat.le_of_ble_eq_true rfl) (by simp [Value.category]) htr (fun X => ?_)
  show V l g yL_setRoad cL_setRoad ((some .int)) (tableOf [(0, 12, 15, 19), (0, 12, 19, 21)]) (L2 + 1) mc2 ms2 (RI (fun k M9 => (k = 0 ∧ ∃ r M8 h, f r M8 ∧ h 0 = r.toInt64 ∧ M9 = hup M8 out (la 1 h)) ∨ (∃ E, x E M9 ∧ ((E = "java/lang/IndexOutOfBoundsException" ∧ k = 1) ∨ (E = "java/lang/IllegalArgumentException" ∧ k = 2)))) nX) X M 0 0 0 [some (.ref p), some (.int b0), some (.int b1), some (.int b2), some (.ref out), none] []
  refine v_aload dL_setRoad_0 rfl ?_
  refine v_iconst (v := 0) dL_setRoad_2 (by decide) ?_
  refine v_aload_n dL_setRoad_3 rfl rfl ?_
  refine v_iload_n dL_setRoad_4 rfl rfl ?_
  refine v_iload_n dL_setRoad_5 rfl rfl ?_
  refine v_iload_n dL_setRoad_6 rfl rfl ?_
  refine k_L_15 dL_setRoad_7 rfl hM hp (Nat.le_refl _) (by omega) (by omega) (Nat.le_of_ble_eq_true rfl) (fun r7 M9 h9 => ?_) (fun E M9 h9 => ?_)
  obtain ⟨h0, ho9⟩ := ho _ _ h9
  refine v_i2l dL_setRoad_10 ?_
  refine v_last dL_setRoad_11 ho9 ?_
  refine v_goto (tgt := 23) dL_setRoad_12 (by decide) ?_
  refine v_iconst (v := 0) dL_setRoad_23 (by decide) ?_
  exact v_iret dL_setRoad_24 rfl (Or.inl ⟨rfl, _, _, _, h9, rfl, rfl⟩) (by omega) (by omega)
  rcases hx E M9 h9 with rfl | rfl
  · refine VX.catch (own := "SledgePostLaw") (name := "java/lang/IndexOutOfBoundsException") (pre := []) (suf := [⟨0, 12, 19, 21⟩]) (x := ⟨0, 12, 15, 19⟩) rfl rfl (fun z hz => nomatch hz) (by decide) (by decide) (Ut_of (mt_4 37 rfl) rfl) (mt_3 125 rfl) (fun q9 => ?_)
    refine v_astore_5 dL_setRoad_15 ?_
    refine v_iconst (v := 1) dL_setRoad_17 (by decide) ?_
    exact v_iret dL_setRoad_18 rfl (Or.inr ⟨_, h9, Or.inl ⟨rfl, rfl⟩⟩) (by omega) (by omega)
  · refine VX.catch (own := "SledgePostLaw") (name := "java/lang/IllegalArgumentException") (pre := [⟨0, 12, 15, 19⟩]) (suf := []) (x := ⟨0, 12, 19, 21⟩) rfl rfl (List.forall_mem_cons.mpr ⟨⟨by decide, "java/lang/IndexOutOfBoundsException", (Ut_of (mt_4 37 rfl) rfl), by decide +kernel⟩, fun z hz => nomatch hz⟩) (by decide) (by decide) (Ut_of (mt_4 58 rfl) rfl) (mt_3 199 rfl) (fun q9 => ?_)
    refine v_astore_5 dL_setRoad_19 ?_
    refine v_iconst (v := 2) dL_setRoad_21 (by decide) ?_
    exact v_iret dL_setRoad_22 rfl (Or.inr ⟨_, h9, Or.inr (⟨rfl, rfl⟩)⟩) (by omega) (by omega)
abbrev K_L_addSledge (l : Launch) (g : Nat → Nat) (L mc ms : Nat) (av : List Value) (M : LH) (Po : Res → LH → Prop) : Prop := Ct l g yL_addSledge (.codeWith yL_addSledge cL_addSledge 5 (some .int) [(0, 10, 13, 19), (0, 10, 17, 21), (0, 10, 21, 13)]) L mc ms av M Po
theorem ck_L_addSledge : cOk yL_addSledge 4 := ⟨by decide +kernel, by decide +kernel, by decide +kernel⟩
theorem dL_addSledge_0 : decode cL_addSledge 0 = .ok (.aload_n 3, 1) := by decide +kernel
theorem dL_addSledge_1 : decode cL_addSledge 1 = .ok (.iconst 0, 1) := by decide +kernel
theorem dL_addSledge_2 : decode cL_addSledge 2 = .ok (.aload_n 0, 1) := by decide +kernel
theorem dL_addSledge_3 : decode cL_addSledge 3 = .ok (.iload_n 1, 1) := by decide +kernel
theorem dL_addSledge_4 : decode cL_addSledge 4 = .ok (.iload_n 2, 1) := by decide +kernel
theorem dL_addSledge_5 : decode cL_addSledge 5 = .ok (.invokevirtual 23, 3) := by decide +kernel
theorem dL_addSledge_8 : decode cL_addSledge 8 = .ok (.i2l, 1) := by decide +kernel
theorem dL_addSledge_9 : decode cL_addSledge 9 = .ok (.lastore, 1) := by decide +kernel
theorem dL_addSledge_10 : decode cL_addSledge 10 = .ok (.goto 15, 3) := by decide +kernel
theorem dL_addSledge_13 : decode cL_addSledge 13 = .ok (.astore 4, 2) := by decide +kernel
theorem dL_addSledge_15 : decode cL_addSledge 15 = .ok (.iconst 1, 1) := by decide +kernel
theorem dL_addSledge_16 : decode cL_addSledge 16 = .ok (.ireturn, 1) := by decide +kernel
theorem dL_addSledge_17 : decode cL_addSledge 17 = .ok (.astore 4, 2) := by decide +kernel
theorem dL_addSledge_19 : decode cL_addSledge 19 = .ok (.iconst 2, 1) := by decide +kernel
theorem dL_addSledge_20 : decode cL_addSledge 20 = .ok (.ireturn, 1) := by decide +kernel
theorem dL_addSledge_21 : decode cL_addSledge 21 = .ok (.astore 4, 2) := by decide +kernel
theorem dL_addSledge_23 : decode cL_addSledge 23 = .ok (.iconst 3, 1) := by decide +kernel
theorem dL_addSledge_24 : decode cL_addSledge 24 = .ok (.ireturn, 1) := by decide +kernel
theorem dL_addSledge_25 : decode cL_addSledge 25 = .ok (.iconst 0, 1) := by decide +kernel
theorem dL_addSledge_26 : decode cL_addSledge 26 = .ok (.ireturn, 1) := by decide +kernel
set_option maxRecDepth 100000 in
set_option maxHeartbeats 4000000 in
theorem w_L_addSledge {l : Launch} {g : Nat → Nat} {M : LH} (htr : l.stackTraces = false) {p out : Nat} {b0 : Int32} {b1 : Int32} {fs : List Value} {L2 mc2 ms2 : Nat} {f : Int32 → LH → Prop} {x : String → LH → Prop} (hM : K_X11_addSledge l g L2 mc2 ms2 [.ref p, .int b0, .int b1] M (RI f x)) (hp : M p = some (ob 9 fs)) (ho : ∀ r M9, f r M9 → ∃ h, M9 out = some (la 1 h)) (hx : ∀ E M9, x E M9 → E = "java/lang/IndexOutOfBoundsException" ∨ E = "java/lang/IllegalArgumentException" ∨ E = "java/lang/IllegalStateException") : K_L_addSledge l g (L2 + 1) mc2 ms2 [.ref p, .int b0, .int b1, .ref out] M (RI (fun k M9 => (k = 0 ∧ ∃ r M8 h, f r M8 ∧ h 0 = r.toInt64 ∧ M9 = hup M8 out (la 1 h)) ∨ (∃ E, x E M9 ∧ ((E = "java/lang/IndexOutOfBoundsException" ∧ k = 1) ∨ (E = "java/lang/IllegalArgumentException" ∧ k = 2) ∨ (E = "java/lang/IllegalStateException" ∧ k = 3)))) nX) := by
  refine Ct.ofH (nL := 5) (by decide +kernel) (Nat.le_of_ble_eq_true rfl) (by simp [Value.category]) htr (fun X => ?_)
  show V l g yL_addSledge cL_addSledge ((some .int)) (tableOf [(0, 10, 13, 19), (0, 10, 17, 21), (0, 10, 21, 13)]) (L2 + 1) mc2 ms2 (RI (fun k M9 => (k = 0 ∧ ∃ r M8 h, f r M8 ∧ h 0 = r.toInt64 ∧ M9 = hup M8 out (la 1 h)) ∨ (∃ E, x E M9 ∧ ((E = "java/lang/IndexOutOfBoundsException" ∧ k = 1) ∨ (E = "java/lang/IllegalArgumentException" ∧ k = 2) ∨ (E = "java/lang/IllegalStateException" ∧ k = 3)))) nX) X M 0 0 0 [some (.ref p), some (.int b0), some (.int b1), some (.ref out), none] []
  refine v_aload_n dL_addSledge_0 rfl rfl ?_
  refine v_iconst (v := 0) dL_addSledge_1 (by decide) ?_
  refine v_aload_n dL_addSledge_2 rfl rfl ?_
  refine v_iload_n dL_addSledge_3 rfl rfl ?_
  refine v_iload_n dL_addSledge_4 rfl rfl ?_
  refine k_L_23 dL_addSledge_5 rfl hM hp (Nat.le_refl _) (by omega) (by omega) (Nat.le_of_ble_eq_true rfl) (fun r5 M9 h9 => ?_) (fun E M9 h9 => ?_)
  obtain ⟨h0, ho9⟩ := ho _ _ h9
  refine v_i2l dL_addSledge_8 ?_
  refine v_last dL_addSledge_9 ho9 ?_
  refine v_goto (tgt := 25) dL_addSledge_10 (by decide) ?_
  refine v_iconst (v := 0) dL_addSledge_25 (by decide) ?_
  exact v_iret dL_addSledge_26 rfl (Or.inl ⟨rfl, _, _, _, h9, rfl, rfl⟩) (by omega) (by omega)
  rcases hx E M9 h9 with rfl | rfl | rfl
  · refine VX.catch (own := "SledgePostLaw") (name := "java/lang/IndexOutOfBoundsException") (pre := []) (suf := [⟨0, 10, 17, 21⟩, ⟨0, 10, 21, 13⟩]) (x := ⟨0, 10, 13, 19⟩) rfl rfl (fun z hz => nomatch hz) (by decide) (by decide) (Ut_of (mt_4 37 rfl) rfl) (mt_3 125 rfl) (fun q9 => ?_)
    refine v_astore_4 dL_addSledge_13 ?_
    refine v_iconst (v := 1) dL_addSledge_15 (by decide) ?_
    exact v_iret dL_addSledge_16 rfl (Or.inr ⟨_, h9, Or.inl ⟨rfl, rfl⟩⟩) (by omega) (by omega)
  · refine VX.catch (own := "SledgePostLaw") (name := "java/lang/IllegalArgumentException") (pre := [⟨0, 10, 13, 19⟩]) (suf := [⟨0, 10, 21, 13⟩]) (x := ⟨0, 10, 17, 21⟩) rfl rfl (List.forall_mem_cons.mpr ⟨⟨by decide, "java/lang/IndexOutOfBoundsException", (Ut_of (mt_4 37 rfl) rfl), by decide +kernel⟩, fun z hz => nomatch hz⟩) (by decide) (by decide) (Ut_of (mt_4 58 rfl) rfl) (mt_3 199 rfl) (fun q9 => ?_)
    refine v_astore_4 dL_addSledge_17 ?_
    refine v_iconst (v := 2) dL_addSledge_19 (by decide) ?_
    exact v_iret dL_addSledge_20 rfl (Or.inr ⟨_, h9, Or.inr (Or.inl ⟨rfl, rfl⟩)⟩) (by omega) (by omega)
  · refine VX.catch (own := "SledgePostLaw") (name := "java/lang/IllegalStateException") (pre := [⟨0, 10, 13, 19⟩, ⟨0, 10, 17, 21⟩]) (suf := []) (x := ⟨0, 10, 21, 13⟩) rfl rfl (List.forall_mem_cons.mpr ⟨⟨by decide, "java/lang/IndexOutOfBoundsException", (Ut_of (mt_4 37 rfl) rfl), by decide +kernel⟩, List.forall_mem_cons.mpr ⟨⟨by decide, "java/lang/IllegalArgumentException", (Ut_of (mt_4 58 rfl) rfl), by decide +kernel⟩, fun z hz => nomatch hz⟩⟩) (by decide) (by decide) (Ut_of (mt_3 105 rfl) rfl) (mt_3 234 rfl) (fun q9 => ?_)
    refine v_astore_4 dL_addSledge_21 ?_
    refine v_iconst (v := 3) dL_addSledge_23 (by decide) ?_
    exact v_iret dL_addSledge_24 rfl (Or.inr ⟨_, h9, Or.inr (Or.inr (⟨rfl, rfl⟩))⟩) (by omega) (by omega)
abbrev K_L_post (l : Launch) (g : Nat → Nat) (L mc ms : Nat) (av : List Value) (M : LH) (Po : Res → LH → Prop) : Prop := Ct l g yL_post (.codeWith yL_post cL_post 8 (some .int) [(0, 16, 19, 19), (0, 16, 23, 21), (0, 16, 27, 13)]) L mc ms av M Po
theorem ck_L_post : cOk yL_post 7 := ⟨by decide +kernel, by decide +kernel, by decide +kernel⟩
theorem dL_post_0 : decode cL_post 0 = .ok (.aload 6, 2) := by decide +kernel
theorem dL_post_2 : decode cL_post 2 = .ok (.iconst 0, 1) := by decide +kernel
theorem dL_post_3 : decode cL_post 3 = .ok (.aload_n 0, 1) := by decide +kernel
theorem dL_post_4 : decode cL_post 4 = .ok (.iload_n 1, 1) := by decide +kernel
theorem dL_post_5 : decode cL_post 5 = .ok (.iload_n 2, 1) := by decide +kernel
theorem dL_post_6 : decode cL_post 6 = .ok (.iload_n 3, 1) := by decide +kernel
theorem dL_post_7 : decode cL_post 7 = .ok (.iload 4, 2) := by decide +kernel
theorem dL_post_9 : decode cL_post 9 = .ok (.iload 5, 2) := by decide +kernel
theorem dL_post_11 : decode cL_post 11 = .ok (.invokevirtual 27, 3) := by decide +kernel
theorem dL_post_14 : decode cL_post 14 = .ok (.i2l, 1) := by decide +kernel
theorem dL_post_15 : decode cL_post 15 = .ok (.lastore, 1) := by decide +kernel
theorem dL_post_16 : decode cL_post 16 = .ok (.goto 15, 3) := by decide +kernel
theorem dL_post_19 : decode cL_post 19 = .ok (.astore 7, 2) := by decide +kernel
theorem dL_post_21 : decode cL_post 21 = .ok (.iconst 1, 1) := by decide +kernel
theorem dL_post_22 : decode cL_post 22 = .ok (.ireturn, 1) := by decide +kernel
theorem dL_post_23 : decode cL_post 23 = .ok (.astore 7, 2) := by decide +kernel
theorem dL_post_25 : decode cL_post 25 = .ok (.iconst 2, 1) := by decide +kernel
theorem dL_post_26 : decode cL_post 26 = .ok (.ireturn, 1) := by decide +kernel
theorem dL_post_27 : decode cL_post 27 = .ok (.astore 7, 2) := by decide +kernel
theorem dL_post_29 : decode cL_post 29 = .ok (.iconst 3, 1) := by decide +kernel
theorem dL_post_30 : decode cL_post 30 = .ok (.ireturn, 1) := by decide +kernel
theorem dL_post_31 : decode cL_post 31 = .ok (.iconst 0, 1) := by decide +kernel
theorem dL_post_32 : decode cL_post 32 = .ok (.ireturn, 1) := by decide +kernel
set_option maxRecDepth 100000 in
set_option maxHeartbeats 4000000 in
theorem w_L_post {l : Launch} {g : Nat → Nat} {M : LH} (htr : l.stackTraces = false) {p out : Nat} {b0 : Int32} {b1 : Int32} {b2 : Int32} {b3 : Int32} {b4 : Int32} {fs : List Value} {L2 mc2 ms2 : Nat} {f : Int32 → LH → Prop} {x : String → LH → Prop} (hM : K_X11_post l g L2 mc2 ms2 [.ref p, .int b0, .int b1, .int b2, .int b3, .int b4] M (RI f x)) (hp : M p = some (ob 9 fs)) (ho : ∀ r M9, f r M9 → ∃ h, M9 out = some (la 1 h)) (hx : ∀ E M9, x E M9 → E = "java/lang/IndexOutOfBoundsException" ∨ E = "java/lang/IllegalArgumentException" ∨ E = "java/lang/IllegalStateException") : K_L_post l g (L2 + 1) mc2 ms2 [.ref p, .int b0, .int b1, .int b2, .int b3, .int b4, .ref out] M (RI (fun k M9 => (k = 0 ∧ ∃ r M8 h, f r M8 ∧ h 0 = r.toInt64 ∧ M9 = hup M8 out (la 1 h)) ∨ (∃ E, x E M9 ∧ ((E = "java/lang/IndexOutOfBoundsException" ∧ k = 1) ∨ (E = "java/lang/IllegalArgumentException" ∧ k = 2) ∨ (E = "java/lang/IllegalStateException" ∧ k = 3)))) nX) := by
  refine Ct.ofH (nL := 8) (by decide +kernel) (Nat.le_of_ble_eq_true rfl) (by simp [Value.category]) htr (fun X => ?_)
  show V l g yL_post cL_post ((some .int)) (tableOf [(0, 16, 19, 19), (0, 16, 23, 21), (0, 16, 27, 13)]) (L2 + 1) mc2 ms2 (RI (fun k M9 => (k = 0 ∧ ∃ r M8 h, f r M8 ∧ h 0 = r.toInt64 ∧ M9 = hup M8 out (la 1 h)) ∨ (∃ E, x E M9 ∧ ((E = "java/lang/IndexOutOfBoundsException" ∧ k = 1) ∨ (E = "java/lang/IllegalArgumentException" ∧ k = 2) ∨ (E = "java/lang/IllegalStateException" ∧ k = 3)))) nX) X M 0 0 0 [some (.ref p), some (.int b0), some (.int b1), some (.int b2), some (.int b3), some (.int b4), some (.ref out), none] []
  refine v_aload dL_post_0 rfl ?_
  refine v_iconst (v := 0) dL_post_2 (by decide) ?_
  refine v_aload_n dL_post_3 rfl rfl ?_
  refine v_iload_n dL_post_4 rfl rfl ?_
  refine v_iload_n dL_post_5 rfl rfl ?_
  refine v_iload_n dL_post_6 rfl rfl ?_
  refine v_iload dL_post_7 rfl ?_
  refine v_iload dL_post_9 rfl ?_
  refine k_L_27 dL_post_11 rfl hM hp (Nat.le_refl _) (by omega) (by omega) (Nat.le_of_ble_eq_true rfl) (fun r11 M9 h9 => ?_) (fun E M9 h9 => ?_)
  obtain ⟨h0, ho9⟩ := ho _ _ h9
  refine v_i2l dL_post_14 ?_
  refine v_last dL_post_15 ho9 ?_
  refine v_goto (tgt := 31) dL_post_16 (by decide) ?_
  refine v_iconst (v := 0) dL_post_31 (by decide) ?_
  exact v_iret dL_post_32 rfl (Or.inl ⟨rfl, _, _, _, h9, rfl, rfl⟩) (by omega) (by omega)
  rcases hx E M9 h9 with rfl | rfl | rfl
  · refine VX.catch (own := "SledgePostLaw") (name := "java/lang/IndexOutOfBoundsException") (pre := []) (suf := [⟨0, 16, 23, 21⟩, ⟨0, 16, 27, 13⟩]) (x := ⟨0, 16, 19, 19⟩) rfl rfl (fun z hz => nomatch hz) (by decide) (by decide) (Ut_of (mt_4 37 rfl) rfl) (mt_3 125 rfl) (fun q9 => ?_)
    refine v_astore_7 dL_post_19 ?_
    refine v_iconst (v := 1) dL_post_21 (by decide) ?_
    exact v_iret dL_post_22 rfl (Or.inr ⟨_, h9, Or.inl ⟨rfl, rfl⟩⟩) (by omega) (by omega)
  · refine VX.catch (own := "SledgePostLaw") (name := "java/lang/IllegalArgumentException") (pre := [⟨0, 16, 19, 19⟩]) (suf := [⟨0, 16, 27, 13⟩]) (x := ⟨0, 16, 23, 21⟩) rfl rfl (List.forall_mem_cons.mpr ⟨⟨by decide, "java/lang/IndexOutOfBoundsException", (Ut_of (mt_4 37 rfl) rfl), by decide +kernel⟩, fun z hz => nomatch hz⟩) (by decide) (by decide) (Ut_of (mt_4 58 rfl) rfl) (mt_3 199 rfl) (fun q9 => ?_)
    refine v_astore_7 dL_post_23 ?_
    refine v_iconst (v := 2) dL_post_25 (by decide) ?_
    exact v_iret dL_post_26 rfl (Or.inr ⟨_, h9, Or.inr (Or.inl ⟨rfl, rfl⟩)⟩) (by omega) (by omega)
  · refine VX.catch (own := "SledgePostLaw") (name := "java/lang/IllegalStateException") (pre := [⟨0, 16, 19, 19⟩, ⟨0, 16, 23, 21⟩]) (suf := []) (x := ⟨0, 16, 27, 13⟩) rfl rfl (List.forall_mem_cons.mpr ⟨⟨by decide, "java/lang/IndexOutOfBoundsException", (Ut_of (mt_4 37 rfl) rfl), by decide +kernel⟩, List.forall_mem_cons.mpr ⟨⟨by decide, "java/lang/IllegalArgumentException", (Ut_of (mt_4 58 rfl) rfl), by decide +kernel⟩, fun z hz => nomatch hz⟩⟩) (by decide) (by decide) (Ut_of (mt_3 105 rfl) rfl) (mt_3 234 rfl) (fun q9 => ?_)
    refine v_astore_7 dL_post_27 ?_
    refine v_iconst (v := 3) dL_post_29 (by decide) ?_
    exact v_iret dL_post_30 rfl (Or.inr ⟨_, h9, Or.inr (Or.inr (⟨rfl, rfl⟩))⟩) (by omega) (by omega)
abbrev K_L_load (l : Launch) (g : Nat → Nat) (L mc ms : Nat) (av : List Value) (M : LH) (Po : Res → LH → Prop) : Prop := Ct l g yL_load (.codeWith yL_load cL_load 5 (some .int) [(0, 10, 13, 19), (0, 10, 17, 34), (0, 10, 21, 13), (0, 10, 25, 36)]) L mc ms av M Po
theorem ck_L_load : cOk yL_load 4 := ⟨by decide +kernel, by decide +kernel, by decide +kernel⟩
theorem dL_load_0 : decode cL_load 0 = .ok (.aload_n 3, 1) := by decide +kernel
theorem dL_load_1 : decode cL_load 1 = .ok (.iconst 0, 1) := by decide +kernel
theorem dL_load_2 : decode cL_load 2 = .ok (.aload_n 0, 1) := by decide +kernel
theorem dL_load_3 : decode cL_load 3 = .ok (.iload_n 1, 1) := by decide +kernel
theorem dL_load_4 : decode cL_load 4 = .ok (.iload_n 2, 1) := by decide +kernel
theorem dL_load_5 : decode cL_load 5 = .ok (.invokevirtual 31, 3) := by decide +kernel
theorem dL_load_8 : decode cL_load 8 = .ok (.i2l, 1) := by decide +kernel
theorem dL_load_9 : decode cL_load 9 = .ok (.lastore, 1) := by decide +kernel
theorem dL_load_10 : decode cL_load 10 = .ok (.goto 19, 3) := by decide +kernel
theorem dL_load_13 : decode cL_load 13 = .ok (.astore 4, 2) := by decide +kernel
theorem dL_load_15 : decode cL_load 15 = .ok (.iconst 1, 1) := by decide +kernel
theorem dL_load_16 : decode cL_load 16 = .ok (.ireturn, 1) := by decide +kernel
theorem dL_load_17 : decode cL_load 17 = .ok (.astore 4, 2) := by decide +kernel
theorem dL_load_19 : decode cL_load 19 = .ok (.iconst 2, 1) := by decide +kernel
theorem dL_load_20 : decode cL_load 20 = .ok (.ireturn, 1) := by decide +kernel
theorem dL_load_21 : decode cL_load 21 = .ok (.astore 4, 2) := by decide +kernel
theorem dL_load_23 : decode cL_load 23 = .ok (.iconst 3, 1) := by decide +kernel
theorem dL_load_24 : decode cL_load 24 = .ok (.ireturn, 1) := by decide +kernel
theorem dL_load_25 : decode cL_load 25 = .ok (.astore 4, 2) := by decide +kernel
theorem dL_load_27 : decode cL_load 27 = .ok (.iconst 4, 1) := by decide +kernel
theorem dL_load_28 : decode cL_load 28 = .ok (.ireturn, 1) := by decide +kernel
theorem dL_load_29 : decode cL_load 29 = .ok (.iconst 0, 1) := by decide +kernel
theorem dL_load_30 : decode cL_load 30 = .ok (.ireturn, 1) := by decide +kernel
set_option maxRecDepth 100000 in
set_option maxHeartbeats 4000000 in
theorem w_L_load {l : Launch} {g : Nat → Nat} {M : LH} (htr : l.stackTraces = false) {p out : Nat} {b0 : Int32} {b1 : Int32} {fs : List Value} {L2 mc2 ms2 : Nat} {f : Int32 → LH → Prop} {x : String → LH → Prop} (hM : K_X11_load l g L2 mc2 ms2 [.ref p, .int b0, .int b1] M (RI f x)) (hp : M p = some (ob 9 fs)) (ho : ∀ r M9, f r M9 → ∃ h, M9 out = some (la 1 h)) (hx : ∀ E M9, x E M9 → E = "java/lang/IndexOutOfBoundsException" ∨ E = "java/util/NoSuchElementException" ∨ E = "java/lang/IllegalStateException" ∨ E = "java/lang/UnsupportedOperationException") : K_L_load l g (L2 + 1) mc2 ms2 [.ref p, .int b0, .int b1, .ref out] M (RI (fun k M9 => (k = 0 ∧ ∃ r M8 h, f r M8 ∧ h 0 = r.toInt64 ∧ M9 = hup M8 out (la 1 h)) ∨ (∃ E, x E M9 ∧ ((E = "java/lang/IndexOutOfBoundsException" ∧ k = 1) ∨ (E = "java/util/NoSuchElementException" ∧ k = 2) ∨ (E = "java/lang/IllegalStateException" ∧ k = 3) ∨ (E = "java/lang/UnsupportedOperationException" ∧ k = 4)))) nX) := by
  refine Ct.ofH (nL := 5) (by decide +kernel) (Nat.le_of_ble_eq_true rfl) (by simp [Value.category]) htr (fun X => ?_)
  show V l g yL_load cL_load ((some .int)) (tableOf [(0, 10, 13, 19), (0, 10, 17, 34), (0, 10, 21, 13), (0, 10, 25, 36)]) (L2 + 1) mc2 ms2 (RI (fun k M9 => (k = 0 ∧ ∃ r M8 h, f r M8 ∧ h 0 = r.toInt64 ∧ M9 = hup M8 out (la 1 h)) ∨ (∃ E, x E M9 ∧ ((E = "java/lang/IndexOutOfBoundsException" ∧ k = 1) ∨ (E = "java/util/NoSuchElementException" ∧ k = 2) ∨ (E = "java/lang/IllegalStateException" ∧ k = 3) ∨ (E = "java/lang/UnsupportedOperationException" ∧ k = 4)))) nX) X M 0 0 0 [some (.ref p), some (.int b0), some (.int b1), some (.ref out), none] []
  refine v_aload_n dL_load_0 rfl rfl ?_
  refine v_iconst (v := 0) dL_load_1 (by decide) ?_
  refine v_aload_n dL_load_2 rfl rfl ?_
  refine v_iload_n dL_load_3 rfl rfl ?_
  refine v_iload_n dL_load_4 rfl rfl ?_
  refine k_L_31 dL_load_5 rfl hM hp (Nat.le_refl _) (by omega) (by omega) (Nat.le_of_ble_eq_true rfl) (fun r5 M9 h9 => ?_) (fun E M9 h9 => ?_)
  obtain ⟨h0, ho9⟩ := ho _ _ h9
  refine v_i2l dL_load_8 ?_
  refine v_last dL_load_9 ho9 ?_
  refine v_goto (tgt := 29) dL_load_10 (by decide) ?_
  refine v_iconst (v := 0) dL_load_29 (by decide) ?_
  exact v_iret dL_load_30 rfl (Or.inl ⟨rfl, _, _, _, h9, rfl, rfl⟩) (by omega) (by omega)
  rcases hx E M9 h9 with rfl | rfl | rfl | rfl
  · refine VX.catch (own := "SledgePostLaw") (name := "java/lang/IndexOutOfBoundsException") (pre := []) (suf := [⟨0, 10, 17, 34⟩, ⟨0, 10, 21, 13⟩, ⟨0, 10, 25, 36⟩]) (x := ⟨0, 10, 13, 19⟩) rfl rfl (fun z hz => nomatch hz) (by decide) (by decide) (Ut_of (mt_4 37 rfl) rfl) (mt_3 125 rfl) (fun q9 => ?_)
    refine v_astore_4 dL_load_13 ?_
    refine v_iconst (v := 1) dL_load_15 (by decide) ?_
    exact v_iret dL_load_16 rfl (Or.inr ⟨_, h9, Or.inl ⟨rfl, rfl⟩⟩) (by omega) (by omega)
  · refine VX.catch (own := "SledgePostLaw") (name := "java/util/NoSuchElementException") (pre := [⟨0, 10, 13, 19⟩]) (suf := [⟨0, 10, 21, 13⟩, ⟨0, 10, 25, 36⟩]) (x := ⟨0, 10, 17, 34⟩) rfl rfl (List.forall_mem_cons.mpr ⟨⟨by decide, "java/lang/IndexOutOfBoundsException", (Ut_of (mt_4 37 rfl) rfl), by decide +kernel⟩, fun z hz => nomatch hz⟩) (by decide) (by decide) (Ut_of (mt_4 111 rfl) rfl) (mt_3 217 rfl) (fun q9 => ?_)
    refine v_astore_4 dL_load_17 ?_
    refine v_iconst (v := 2) dL_load_19 (by decide) ?_
    exact v_iret dL_load_20 rfl (Or.inr ⟨_, h9, Or.inr (Or.inl ⟨rfl, rfl⟩)⟩) (by omega) (by omega)
  · refine VX.catch (own := "SledgePostLaw") (name := "java/lang/IllegalStateException") (pre := [⟨0, 10, 13, 19⟩, ⟨0, 10, 17, 34⟩]) (suf := [⟨0, 10, 25, 36⟩]) (x := ⟨0, 10, 21, 13⟩) rfl rfl (List.forall_mem_cons.mpr ⟨⟨by decide, "java/lang/IndexOutOfBoundsException", (Ut_of (mt_4 37 rfl) rfl), by decide +kernel⟩, List.forall_mem_cons.mpr ⟨⟨by decide, "java/util/NoSuchElementException", (Ut_of (mt_4 111 rfl) rfl), by decide +kernel⟩, fun z hz => nomatch hz⟩⟩) (by decide) (by decide) (Ut_of (mt_3 105 rfl) rfl) (mt_3 234 rfl) (fun q9 => ?_)
    refine v_astore_4 dL_load_21 ?_
    refine v_iconst (v := 3) dL_load_23 (by decide) ?_
    exact v_iret dL_load_24 rfl (Or.inr ⟨_, h9, Or.inr (Or.inr (Or.inl ⟨rfl, rfl⟩))⟩) (by omega) (by omega)
  · refine VX.catch (own := "SledgePostLaw") (name := "java/lang/UnsupportedOperationException") (pre := [⟨0, 10, 13, 19⟩, ⟨0, 10, 17, 34⟩, ⟨0, 10, 21, 13⟩]) (suf := []) (x := ⟨0, 10, 25, 36⟩) rfl rfl (List.forall_mem_cons.mpr ⟨⟨by decide, "java/lang/IndexOutOfBoundsException", (Ut_of (mt_4 37 rfl) rfl), by decide +kernel⟩, List.forall_mem_cons.mpr ⟨⟨by decide, "java/util/NoSuchElementException", (Ut_of (mt_4 111 rfl) rfl), by decide +kernel⟩, List.forall_mem_cons.mpr ⟨⟨by decide, "java/lang/IllegalStateException", (Ut_of (mt_3 105 rfl) rfl), by decide +kernel⟩, fun z hz => nomatch hz⟩⟩⟩) (by decide) (by decide) (Ut_of (mt_4 112 rfl) rfl) (mt_4 12 rfl) (fun q9 => ?_)
    refine v_astore_4 dL_load_25 ?_
    refine v_iconst (v := 4) dL_load_27 (by decide) ?_
    exact v_iret dL_load_28 rfl (Or.inr ⟨_, h9, Or.inr (Or.inr (Or.inr (⟨rfl, rfl⟩)))⟩) (by omega) (by omega)
abbrev K_L_unload (l : Launch) (g : Nat → Nat) (L mc ms : Nat) (av : List Value) (M : LH) (Po : Res → LH → Prop) : Prop := Ct l g yL_unload (.codeWith yL_unload cL_unload 5 (some .int) [(0, 10, 13, 19), (0, 10, 17, 34), (0, 10, 21, 13)]) L mc ms av M Po
theorem ck_L_unload : cOk yL_unload 4 := ⟨by decide +kernel, by decide +kernel, by decide +kernel⟩
theorem dL_unload_0 : decode cL_unload 0 = .ok (.aload_n 3, 1) := by decide +kernel
theorem dL_unload_1 : decode cL_unload 1 = .ok (.iconst 0, 1) := by decide +kernel
theorem dL_unload_2 : decode cL_unload 2 = .ok (.aload_n 0, 1) := by decide +kernel
theorem dL_unload_3 : decode cL_unload 3 = .ok (.iload_n 1, 1) := by decide +kernel
theorem dL_unload_4 : decode cL_unload 4 = .ok (.iload_n 2, 1) := by decide +kernel
theorem dL_unload_5 : decode cL_unload 5 = .ok (.invokevirtual 38, 3) := by decide +kernel
theorem dL_unload_8 : decode cL_unload 8 = .ok (.i2l, 1) := by decide +kernel
theorem dL_unload_9 : decode cL_unload 9 = .ok (.lastore, 1) := by decide +kernel
theorem dL_unload_10 : decode cL_unload 10 = .ok (.goto 15, 3) := by decide +kernel
theorem dL_unload_13 : decode cL_unload 13 = .ok (.astore 4, 2) := by decide +kernel
theorem dL_unload_15 : decode cL_unload 15 = .ok (.iconst 1, 1) := by decide +kernel
theorem dL_unload_16 : decode cL_unload 16 = .ok (.ireturn, 1) := by decide +kernel
theorem dL_unload_17 : decode cL_unload 17 = .ok (.astore 4, 2) := by decide +kernel
theorem dL_unload_19 : decode cL_unload 19 = .ok (.iconst 2, 1) := by decide +kernel
theorem dL_unload_20 : decode cL_unload 20 = .ok (.ireturn, 1) := by decide +kernel
theorem dL_unload_21 : decode cL_unload 21 = .ok (.astore 4, 2) := by decide +kernel
theorem dL_unload_23 : decode cL_unload 23 = .ok (.iconst 3, 1) := by decide +kernel
theorem dL_unload_24 : decode cL_unload 24 = .ok (.ireturn, 1) := by decide +kernel
theorem dL_unload_25 : decode cL_unload 25 = .ok (.iconst 0, 1) := by decide +kernel
theorem dL_unload_26 : decode cL_unload 26 = .ok (.ireturn, 1) := by decide +kernel
set_option maxRecDepth 100000 in
set_option maxHeartbeats 4000000 in
theorem w_L_unload {l : Launch} {g : Nat → Nat} {M : LH} (htr : l.stackTraces = false) {p out : Nat} {b0 : Int32} {b1 : Int32} {fs : List Value} {L2 mc2 ms2 : Nat} {f : Int32 → LH → Prop} {x : String → LH → Prop} (hM : K_X11_unload l g L2 mc2 ms2 [.ref p, .int b0, .int b1] M (RI f x)) (hp : M p = some (ob 9 fs)) (ho : ∀ r M9, f r M9 → ∃ h, M9 out = some (la 1 h)) (hx : ∀ E M9, x E M9 → E = "java/lang/IndexOutOfBoundsException" ∨ E = "java/util/NoSuchElementException" ∨ E = "java/lang/IllegalStateException") : K_L_unload l g (L2 + 1) mc2 ms2 [.ref p, .int b0, .int b1, .ref out] M (RI (fun k M9 => (k = 0 ∧ ∃ r M8 h, f r M8 ∧ h 0 = r.toInt64 ∧ M9 = hup M8 out (la 1 h)) ∨ (∃ E, x E M9 ∧ ((E = "java/lang/IndexOutOfBoundsException" ∧ k = 1) ∨ (E = "java/util/NoSuchElementException" ∧ k = 2) ∨ (E = "java/lang/IllegalStateException" ∧ k = 3)))) nX) := by
  refine Ct.ofH (nL := 5) (by decide +kernel) (Nat.le_of_ble_eq_true rfl) (by simp [Value.category]) htr (fun X => ?_)
  show V l g yL_unload cL_unload ((some .int)) (tableOf [(0, 10, 13, 19), (0, 10, 17, 34), (0, 10, 21, 13)]) (L2 + 1) mc2 ms2 (RI (fun k M9 => (k = 0 ∧ ∃ r M8 h, f r M8 ∧ h 0 = r.toInt64 ∧ M9 = hup M8 out (la 1 h)) ∨ (∃ E, x E M9 ∧ ((E = "java/lang/IndexOutOfBoundsException" ∧ k = 1) ∨ (E = "java/util/NoSuchElementException" ∧ k = 2) ∨ (E = "java/lang/IllegalStateException" ∧ k = 3)))) nX) X M 0 0 0 [some (.ref p), some (.int b0), some (.int b1), some (.ref out), none] []
  refine v_aload_n dL_unload_0 rfl rfl ?_
  refine v_iconst (v := 0) dL_unload_1 (by decide) ?_
  refine v_aload_n dL_unload_2 rfl rfl ?_
  refine v_iload_n dL_unload_3 rfl rfl ?_
  refine v_iload_n dL_unload_4 rfl rfl ?_
  refine k_L_38 dL_unload_5 rfl hM hp (Nat.le_refl _) (by omega) (by omega) (Nat.le_of_ble_eq_true rfl) (fun r5 M9 h9 => ?_) (fun E M9 h9 => ?_)
  obtain ⟨h0, ho9⟩ := ho _ _ h9
  refine v_i2l dL_unload_8 ?_
  refine v_last dL_unload_9 ho9 ?_
  refine v_goto (tgt := 25) dL_unload_10 (by decide) ?_
  refine v_iconst (v := 0) dL_unload_25 (by decide) ?_
  exact v_iret dL_unload_26 rfl (Or.inl ⟨rfl, _, _, _, h9, rfl, rfl⟩) (by omega) (by omega)
  rcases hx E M9 h9 with rfl | rfl | rfl
  · refine VX.catch (own := "SledgePostLaw") (name := "java/lang/IndexOutOfBoundsException") (pre := []) (suf := [⟨0, 10, 17, 34⟩, ⟨0, 10, 21, 13⟩]) (x := ⟨0, 10, 13, 19⟩) rfl rfl (fun z hz => nomatch hz) (by decide) (by decide) (Ut_of (mt_4 37 rfl) rfl) (mt_3 125 rfl) (fun q9 => ?_)
    refine v_astore_4 dL_unload_13 ?_
    refine v_iconst (v := 1) dL_unload_15 (by decide) ?_
    exact v_iret dL_unload_16 rfl (Or.inr ⟨_, h9, Or.inl ⟨rfl, rfl⟩⟩) (by omega) (by omega)
  · refine VX.catch (own := "SledgePostLaw") (name := "java/util/NoSuchElementException") (pre := [⟨0, 10, 13, 19⟩]) (suf := [⟨0, 10, 21, 13⟩]) (x := ⟨0, 10, 17, 34⟩) rfl rfl (List.forall_mem_cons.mpr ⟨⟨by decide, "java/lang/IndexOutOfBoundsException", (Ut_of (mt_4 37 rfl) rfl), by decide +kernel⟩, fun z hz => nomatch hz⟩) (by decide) (by decide) (Ut_of (mt_4 111 rfl) rfl) (mt_3 217 rfl) (fun q9 => ?_)
    refine v_astore_4 dL_unload_17 ?_
    refine v_iconst (v := 2) dL_unload_19 (by decide) ?_
    exact v_iret dL_unload_20 rfl (Or.inr ⟨_, h9, Or.inr (Or.inl ⟨rfl, rfl⟩)⟩) (by omega) (by omega)
  · refine VX.catch (own := "SledgePostLaw") (name := "java/lang/IllegalStateException") (pre := [⟨0, 10, 13, 19⟩, ⟨0, 10, 17, 34⟩]) (suf := []) (x := ⟨0, 10, 21, 13⟩) rfl rfl (List.forall_mem_cons.mpr ⟨⟨by decide, "java/lang/IndexOutOfBoundsException", (Ut_of (mt_4 37 rfl) rfl), by decide +kernel⟩, List.forall_mem_cons.mpr ⟨⟨by decide, "java/util/NoSuchElementException", (Ut_of (mt_4 111 rfl) rfl), by decide +kernel⟩, fun z hz => nomatch hz⟩⟩) (by decide) (by decide) (Ut_of (mt_3 105 rfl) rfl) (mt_3 234 rfl) (fun q9 => ?_)
    refine v_astore_4 dL_unload_21 ?_
    refine v_iconst (v := 3) dL_unload_23 (by decide) ?_
    exact v_iret dL_unload_24 rfl (Or.inr ⟨_, h9, Or.inr (Or.inr (⟨rfl, rfl⟩))⟩) (by omega) (by omega)
abbrev K_L_loadBest (l : Launch) (g : Nat → Nat) (L mc ms : Nat) (av : List Value) (M : LH) (Po : Res → LH → Prop) : Prop := Ct l g yL_loadBest (.codeWith yL_loadBest cL_loadBest 4 (some .int) [(0, 9, 12, 19), (0, 9, 15, 13)]) L mc ms av M Po
theorem ck_L_loadBest : cOk yL_loadBest 3 := ⟨by decide +kernel, by decide +kernel, by decide +kernel⟩
theorem dL_loadBest_0 : decode cL_loadBest 0 = .ok (.aload_n 2, 1) := by decide +kernel
theorem dL_loadBest_1 : decode cL_loadBest 1 = .ok (.iconst 0, 1) := by decide +kernel
theorem dL_loadBest_2 : decode cL_loadBest 2 = .ok (.aload_n 0, 1) := by decide +kernel
theorem dL_loadBest_3 : decode cL_loadBest 3 = .ok (.iload_n 1, 1) := by decide +kernel
theorem dL_loadBest_4 : decode cL_loadBest 4 = .ok (.invokevirtual 41, 3) := by decide +kernel
theorem dL_loadBest_7 : decode cL_loadBest 7 = .ok (.i2l, 1) := by decide +kernel
theorem dL_loadBest_8 : decode cL_loadBest 8 = .ok (.lastore, 1) := by decide +kernel
theorem dL_loadBest_9 : decode cL_loadBest 9 = .ok (.goto 9, 3) := by decide +kernel
theorem dL_loadBest_12 : decode cL_loadBest 12 = .ok (.astore_n 3, 1) := by decide +kernel
theorem dL_loadBest_13 : decode cL_loadBest 13 = .ok (.iconst 1, 1) := by decide +kernel
theorem dL_loadBest_14 : decode cL_loadBest 14 = .ok (.ireturn, 1) := by decide +kernel
theorem dL_loadBest_15 : decode cL_loadBest 15 = .ok (.astore_n 3, 1) := by decide +kernel
theorem dL_loadBest_16 : decode cL_loadBest 16 = .ok (.iconst 2, 1) := by decide +kernel
theorem dL_loadBest_17 : decode cL_loadBest 17 = .ok (.ireturn, 1) := by decide +kernel
theorem dL_loadBest_18 : decode cL_loadBest 18 = .ok (.iconst 0, 1) := by decide +kernel
theorem dL_loadBest_19 : decode cL_loadBest 19 = .ok (.ireturn, 1) := by decide +kernel
set_option maxRecDepth 100000 in
set_option maxHeartbeats 4000000 in
theorem w_L_loadBest {l : Launch} {g : Nat → Nat} {M : LH} (htr : l.stackTraces = false) {p out : Nat} {b0 : Int32} {fs : List Value} {L2 mc2 ms2 : Nat} {f : Int32 → LH → Prop} {x : String → LH → Prop} (hM : K_X11_loadBest l g L2 mc2 ms2 [.ref p, .int b0] M (RI f x)) (hp : M p = some (ob 9 fs)) (ho : ∀ r M9, f r M9 → ∃ h, M9 out = some (la 1 h)) (hx : ∀ E M9, x E M9 → E = "java/lang/IndexOutOfBoundsException" ∨ E = "java/lang/IllegalStateException") : K_L_loadBest l g (L2 + 1) mc2 ms2 [.ref p, .int b0, .ref out] M (RI (fun k M9 => (k = 0 ∧ ∃ r M8 h, f r M8 ∧ h 0 = r.toInt64 ∧ M9 = hup M8 out (la 1 h)) ∨ (∃ E, x E M9 ∧ ((E = "java/lang/IndexOutOfBoundsException" ∧ k = 1) ∨ (E = "java/lang/IllegalStateException" ∧ k = 2)))) nX) := by
  refine Ct.ofH (nL := 4) (by decide +kernel) (Nat.le_of_ble_eq_true rfl) (by simp [Value.category]) htr (fun X => ?_)
  show V l g yL_loadBest cL_loadBest ((some .int)) (tableOf [(0, 9, 12, 19), (0, 9, 15, 13)]) (L2 + 1) mc2 ms2 (RI (fun k M9 => (k = 0 ∧ ∃ r M8 h, f r M8 ∧ h 0 = r.toInt64 ∧ M9 = hup M8 out (la 1 h)) ∨ (∃ E, x E M9 ∧ ((E = "java/lang/IndexOutOfBoundsException" ∧ k = 1) ∨ (E = "java/lang/IllegalStateException" ∧ k = 2)))) nX) X M 0 0 0 [some (.ref p), some (.int b0), some (.ref out), none] []
  refine v_aload_n dL_loadBest_0 rfl rfl ?_
  refine v_iconst (v := 0) dL_loadBest_1 (by decide) ?_
  refine v_aload_n dL_loadBest_2 rfl rfl ?_
  refine v_iload_n dL_loadBest_3 rfl rfl ?_
  refine k_L_41 dL_loadBest_4 rfl hM hp (Nat.le_refl _) (by omega) (by omega) (Nat.le_of_ble_eq_true rfl) (fun r4 M9 h9 => ?_) (fun E M9 h9 => ?_)
  obtain ⟨h0, ho9⟩ := ho _ _ h9
  refine v_i2l dL_loadBest_7 ?_
  refine v_last dL_loadBest_8 ho9 ?_
  refine v_goto (tgt := 18) dL_loadBest_9 (by decide) ?_
  refine v_iconst (v := 0) dL_loadBest_18 (by decide) ?_
  exact v_iret dL_loadBest_19 rfl (Or.inl ⟨rfl, _, _, _, h9, rfl, rfl⟩) (by omega) (by omega)
  rcases hx E M9 h9 with rfl | rfl
  · refine VX.catch (own := "SledgePostLaw") (name := "java/lang/IndexOutOfBoundsException") (pre := []) (suf := [⟨0, 9, 15, 13⟩]) (x := ⟨0, 9, 12, 19⟩) rfl rfl (fun z hz => nomatch hz) (by decide) (by decide) (Ut_of (mt_4 37 rfl) rfl) (mt_3 125 rfl) (fun q9 => ?_)
    refine v_astore_3 dL_loadBest_12 ?_
    refine v_iconst (v := 1) dL_loadBest_13 (by decide) ?_
    exact v_iret dL_loadBest_14 rfl (Or.inr ⟨_, h9, Or.inl ⟨rfl, rfl⟩⟩) (by omega) (by omega)
  · refine VX.catch (own := "SledgePostLaw") (name := "java/lang/IllegalStateException") (pre := [⟨0, 9, 12, 19⟩]) (suf := []) (x := ⟨0, 9, 15, 13⟩) rfl rfl (List.forall_mem_cons.mpr ⟨⟨by decide, "java/lang/IndexOutOfBoundsException", (Ut_of (mt_4 37 rfl) rfl), by decide +kernel⟩, fun z hz => nomatch hz⟩) (by decide) (by decide) (Ut_of (mt_3 105 rfl) rfl) (mt_3 234 rfl) (fun q9 => ?_)
    refine v_astore_3 dL_loadBest_15 ?_
    refine v_iconst (v := 2) dL_loadBest_16 (by decide) ?_
    exact v_iret dL_loadBest_17 rfl (Or.inr ⟨_, h9, Or.inr (⟨rfl, rfl⟩)⟩) (by omega) (by omega)
abbrev K_L_send (l : Launch) (g : Nat → Nat) (L mc ms : Nat) (av : List Value) (M : LH) (Po : Res → LH → Prop) : Prop := Ct l g yL_send (.codeWith yL_send cL_send 5 (some .int) [(0, 10, 13, 19), (0, 10, 17, 13), (0, 10, 21, 36)]) L mc ms av M Po
theorem ck_L_send : cOk yL_send 4 := ⟨by decide +kernel, by decide +kernel, by decide +kernel⟩
theorem dL_send_0 : decode cL_send 0 = .ok (.aload_n 3, 1) := by decide +kernel
theorem dL_send_1 : decode cL_send 1 = .ok (.iconst 0, 1) := by decide +kernel
theorem dL_send_2 : decode cL_send 2 = .ok (.aload_n 0, 1) := by decide +kernel
theorem dL_send_3 : decode cL_send 3 = .ok (.iload_n 1, 1) := by decide +kernel
theorem dL_send_4 : decode cL_send 4 = .ok (.iload_n 2, 1) := by decide +kernel
theorem dL_send_5 : decode cL_send 5 = .ok (.invokevirtual 45, 3) := by decide +kernel
theorem dL_send_8 : decode cL_send 8 = .ok (.i2l, 1) := by decide +kernel
theorem dL_send_9 : decode cL_send 9 = .ok (.lastore, 1) := by decide +kernel
theorem dL_send_10 : decode cL_send 10 = .ok (.goto 15, 3) := by decide +kernel
theorem dL_send_13 : decode cL_send 13 = .ok (.astore 4, 2) := by decide +kernel
theorem dL_send_15 : decode cL_send 15 = .ok (.iconst 1, 1) := by decide +kernel
theorem dL_send_16 : decode cL_send 16 = .ok (.ireturn, 1) := by decide +kernel
theorem dL_send_17 : decode cL_send 17 = .ok (.astore 4, 2) := by decide +kernel
theorem dL_send_19 : decode cL_send 19 = .ok (.iconst 2, 1) := by decide +kernel
theorem dL_send_20 : decode cL_send 20 = .ok (.ireturn, 1) := by decide +kernel
theorem dL_send_21 : decode cL_send 21 = .ok (.astore 4, 2) := by decide +kernel
theorem dL_send_23 : decode cL_send 23 = .ok (.iconst 3, 1) := by decide +kernel
theorem dL_send_24 : decode cL_send 24 = .ok (.ireturn, 1) := by decide +kernel
theorem dL_send_25 : decode cL_send 25 = .ok (.iconst 0, 1) := by decide +kernel
theorem dL_send_26 : decode cL_send 26 = .ok (.ireturn, 1) := by decide +kernel
set_option maxRecDepth 100000 in
set_option maxHeartbeats 4000000 in
theorem w_L_send {l : Launch} {g : Nat → Nat} {M : LH} (htr : l.stackTraces = false) {p out : Nat} {b0 : Int32} {b1 : Int32} {fs : List Value} {L2 mc2 ms2 : Nat} {f : Int32 → LH → Prop} {x : String → LH → Prop} (hM : K_X11_send l g L2 mc2 ms2 [.ref p, .int b0, .int b1] M (RI f x)) (hp : M p = some (ob 9 fs)) (ho : ∀ r M9, f r M9 → ∃ h, M9 out = some (la 1 h)) (hx : ∀ E M9, x E M9 → E = "java/lang/IndexOutOfBoundsException" ∨ E = "java/lang/IllegalStateException" ∨ E = "java/lang/UnsupportedOperationException") : K_L_send l g (L2 + 1) mc2 ms2 [.ref p, .int b0, .int b1, .ref out] M (RI (fun k M9 => (k = 0 ∧ ∃ r M8 h, f r M8 ∧ h 0 = r.toInt64 ∧ M9 = hup M8 out (la 1 h)) ∨ (∃ E, x E M9 ∧ ((E = "java/lang/IndexOutOfBoundsException" ∧ k = 1) ∨ (E = "java/lang/IllegalStateException" ∧ k = 2) ∨ (E = "java/lang/UnsupportedOperationException" ∧ k = 3)))) nX) := by
  refine Ct.ofH (nL := 5) (by decide +kernel) (Nat.le_of_ble_eq_true rfl) (by simp [Value.category]) htr (fun X => ?_)
  show V l g yL_send cL_send ((some .int)) (tableOf [(0, 10, 13, 19), (0, 10, 17, 13), (0, 10, 21, 36)]) (L2 + 1) mc2 ms2 (RI (fun k M9 => (k = 0 ∧ ∃ r M8 h, f r M8 ∧ h 0 = r.toInt64 ∧ M9 = hup M8 out (la 1 h)) ∨ (∃ E, x E M9 ∧ ((E = "java/lang/IndexOutOfBoundsException" ∧ k = 1) ∨ (E = "java/lang/IllegalStateException" ∧ k = 2) ∨ (E = "java/lang/UnsupportedOperationException" ∧ k = 3)))) nX) X M 0 0 0 [some (.ref p), some (.int b0), some (.int b1), some (.ref out), none] []
  refine v_aload_n dL_send_0 rfl rfl ?_
  refine v_iconst (v := 0) dL_send_1 (by decide) ?_
  refine v_aload_n dL_send_2 rfl rfl ?_
  refine v_iload_n dL_send_3 rfl rfl ?_
  refine v_iload_n dL_send_4 rfl rfl ?_
  refine k_L_45 dL_send_5 rfl hM hp (Nat.le_refl _) (by omega) (by omega) (Nat.le_of_ble_eq_true rfl) (fun r5 M9 h9 => ?_) (fun E M9 h9 => ?_)
  obtain ⟨h0, ho9⟩ := ho _ _ h9
  refine v_i2l dL_send_8 ?_
  refine v_last dL_send_9 ho9 ?_
  refine v_goto (tgt := 25) dL_send_10 (by decide) ?_
  refine v_iconst (v := 0) dL_send_25 (by decide) ?_
  exact v_iret dL_send_26 rfl (Or.inl ⟨rfl, _, _, _, h9, rfl, rfl⟩) (by omega) (by omega)
  rcases hx E M9 h9 with rfl | rfl | rfl
  · refine VX.catch (own := "SledgePostLaw") (name := "java/lang/IndexOutOfBoundsException") (pre := []) (suf := [⟨0, 10, 17, 13⟩, ⟨0, 10, 21, 36⟩]) (x := ⟨0, 10, 13, 19⟩) rfl rfl (fun z hz => nomatch hz) (by decide) (by decide) (Ut_of (mt_4 37 rfl) rfl) (mt_3 125 rfl) (fun q9 => ?_)
    refine v_astore_4 dL_send_13 ?_
    refine v_iconst (v := 1) dL_send_15 (by decide) ?_
    exact v_iret dL_send_16 rfl (Or.inr ⟨_, h9, Or.inl ⟨rfl, rfl⟩⟩) (by omega) (by omega)
  · refine VX.catch (own := "SledgePostLaw") (name := "java/lang/IllegalStateException") (pre := [⟨0, 10, 13, 19⟩]) (suf := [⟨0, 10, 21, 36⟩]) (x := ⟨0, 10, 17, 13⟩) rfl rfl (List.forall_mem_cons.mpr ⟨⟨by decide, "java/lang/IndexOutOfBoundsException", (Ut_of (mt_4 37 rfl) rfl), by decide +kernel⟩, fun z hz => nomatch hz⟩) (by decide) (by decide) (Ut_of (mt_3 105 rfl) rfl) (mt_3 234 rfl) (fun q9 => ?_)
    refine v_astore_4 dL_send_17 ?_
    refine v_iconst (v := 2) dL_send_19 (by decide) ?_
    exact v_iret dL_send_20 rfl (Or.inr ⟨_, h9, Or.inr (Or.inl ⟨rfl, rfl⟩)⟩) (by omega) (by omega)
  · refine VX.catch (own := "SledgePostLaw") (name := "java/lang/UnsupportedOperationException") (pre := [⟨0, 10, 13, 19⟩, ⟨0, 10, 17, 13⟩]) (suf := []) (x := ⟨0, 10, 21, 36⟩) rfl rfl (List.forall_mem_cons.mpr ⟨⟨by decide, "java/lang/IndexOutOfBoundsException", (Ut_of (mt_4 37 rfl) rfl), by decide +kernel⟩, List.forall_mem_cons.mpr ⟨⟨by decide, "java/lang/IllegalStateException", (Ut_of (mt_3 105 rfl) rfl), by decide +kernel⟩, fun z hz => nomatch hz⟩⟩) (by decide) (by decide) (Ut_of (mt_4 112 rfl) rfl) (mt_4 12 rfl) (fun q9 => ?_)
    refine v_astore_4 dL_send_21 ?_
    refine v_iconst (v := 3) dL_send_23 (by decide) ?_
    exact v_iret dL_send_24 rfl (Or.inr ⟨_, h9, Or.inr (Or.inr (⟨rfl, rfl⟩))⟩) (by omega) (by omega)
abbrev K_L_setTemperature (l : Launch) (g : Nat → Nat) (L mc ms : Nat) (av : List Value) (M : LH) (Po : Res → LH → Prop) : Prop := Ct l g yL_setTemperature (.codeWith yL_setTemperature cL_setTemperature 4 (some .int) [(0, 9, 12, 21)]) L mc ms av M Po
theorem ck_L_setTemperature : cOk yL_setTemperature 3 := ⟨by decide +kernel, by decide +kernel, by decide +kernel⟩
theorem dL_setTemperature_0 : decode cL_setTemperature 0 = .ok (.aload_n 2, 1) := by decide +kernel
theorem dL_setTemperature_1 : decode cL_setTemperature 1 = .ok (.iconst 0, 1) := by decide +kernel
theorem dL_setTemperature_2 : decode cL_setTemperature 2 = .ok (.aload_n 0, 1) := by decide +kernel
theorem dL_setTemperature_3 : decode cL_setTemperature 3 = .ok (.iload_n 1, 1) := by decide +kernel
theorem dL_setTemperature_4 : decode cL_setTemperature 4 = .ok (.invokevirtual 48, 3) := by decide +kernel
theorem dL_setTemperature_7 : decode cL_setTemperature 7 = .ok (.i2l, 1) := by decide +kernel
theorem dL_setTemperature_8 : decode cL_setTemperature 8 = .ok (.lastore, 1) := by decide +kernel
theorem dL_setTemperature_9 : decode cL_setTemperature 9 = .ok (.goto 6, 3) := by decide +kernel
theorem dL_setTemperature_12 : decode cL_setTemperature 12 = .ok (.astore_n 3, 1) := by decide +kernel
theorem dL_setTemperature_13 : decode cL_setTemperature 13 = .ok (.iconst 1, 1) := by decide +kernel
theorem dL_setTemperature_14 : decode cL_setTemperature 14 = .ok (.ireturn, 1) := by decide +kernel
theorem dL_setTemperature_15 : decode cL_setTemperature 15 = .ok (.iconst 0, 1) := by decide +kernel
theorem dL_setTemperature_16 : decode cL_setTemperature 16 = .ok (.ireturn, 1) := by decide +kernel
set_option maxRecDepth 100000 in
set_option maxHeartbeats 4000000 in
theorem w_L_setTemperature {l : Launch} {g : Nat → Nat} {M : LH} (htr : l.stackTraces = false) {p out : Nat} {b0 : Int32} {fs : List Value} {L2 mc2 ms2 : Nat} {f : Int32 → LH → Prop} {x : String → LH → Prop} (hM : K_X11_setTemperature l g L2 mc2 ms2 [.ref p, .int b0] M (RI f x)) (hp : M p = some (ob 9 fs)) (ho : ∀ r M9, f r M9 → ∃ h, M9 out = some (la 1 h)) (hx : ∀ E M9, x E M9 → E = "java/lang/IllegalArgumentException") : K_L_setTemperature l g (L2 + 1) mc2 ms2 [.ref p, .int b0, .ref out] M (RI (fun k M9 => (k = 0 ∧ ∃ r M8 h, f r M8 ∧ h 0 = r.toInt64 ∧ M9 = hup M8 out (la 1 h)) ∨ (∃ E, x E M9 ∧ ((E = "java/lang/IllegalArgumentException" ∧ k = 1)))) nX) := by
  refine Ct.ofH (nL := 4) (by decide +kernel) (Nat.le_of_ble_eq_true rfl) (by simp [Value.category]) htr (fun X => ?_)
  show V l g yL_setTemperature cL_setTemperature ((some .int)) (tableOf [(0, 9, 12, 21)]) (L2 + 1) mc2 ms2 (RI (fun k M9 => (k = 0 ∧ ∃ r M8 h, f r M8 ∧ h 0 = r.toInt64 ∧ M9 = hup M8 out (la 1 h)) ∨ (∃ E, x E M9 ∧ ((E = "java/lang/IllegalArgumentException" ∧ k = 1)))) nX) X M 0 0 0 [some (.ref p), some (.int b0), some (.ref out), none] []
  refine v_aload_n dL_setTemperature_0 rfl rfl ?_
  refine v_iconst (v := 0) dL_setTemperature_1 (by decide) ?_
  refine v_aload_n dL_setTemperature_2 rfl rfl ?_
  refine v_iload_n dL_setTemperature_3 rfl rfl ?_
  refine k_L_48 dL_setTemperature_4 rfl hM hp (Nat.le_refl _) (by omega) (by omega) (Nat.le_of_ble_eq_true rfl) (fun r4 M9 h9 => ?_) (fun E M9 h9 => ?_)
  obtain ⟨h0, ho9⟩ := ho _ _ h9
  refine v_i2l dL_setTemperature_7 ?_
  refine v_last dL_setTemperature_8 ho9 ?_
  refine v_goto (tgt := 15) dL_setTemperature_9 (by decide) ?_
  refine v_iconst (v := 0) dL_setTemperature_15 (by decide) ?_
  exact v_iret dL_setTemperature_16 rfl (Or.inl ⟨rfl, _, _, _, h9, rfl, rfl⟩) (by omega) (by omega)
  obtain rfl := hx E M9 h9
  refine VX.catch (own := "SledgePostLaw") (name := "java/lang/IllegalArgumentException") (pre := []) (suf := []) (x := ⟨0, 9, 12, 21⟩) rfl rfl (fun z hz => nomatch hz) (by decide) (by decide) (Ut_of (mt_4 58 rfl) rfl) (mt_3 199 rfl) (fun q9 => ?_)
  refine v_astore_3 dL_setTemperature_12 ?_
  refine v_iconst (v := 1) dL_setTemperature_13 (by decide) ?_
  exact v_iret dL_setTemperature_14 rfl (Or.inr ⟨_, h9, ⟨rfl, rfl⟩⟩) (by omega) (by omega)
abbrev K_L_advance (l : Launch) (g : Nat → Nat) (L mc ms : Nat) (av : List Value) (M : LH) (Po : Res → LH → Prop) : Prop := Ct l g yL_advance (.codeWith yL_advance cL_advance 4 (some .int) [(0, 9, 12, 21)]) L mc ms av M Po
theorem ck_L_advance : cOk yL_advance 3 := ⟨by decide +kernel, by decide +kernel, by decide +kernel⟩
theorem dL_advance_0 : decode cL_advance 0 = .ok (.aload_n 2, 1) := by decide +kernel
theorem dL_advance_1 : decode cL_advance 1 = .ok (.iconst 0, 1) := by decide +kernel
theorem dL_advance_2 : decode cL_advance 2 = .ok (.aload_n 0, 1) := by decide +kernel
theorem dL_advance_3 : decode cL_advance 3 = .ok (.iload_n 1, 1) := by decide +kernel
theorem dL_advance_4 : decode cL_advance 4 = .ok (.invokevirtual 51, 3) := by decide +kernel
theorem dL_advance_7 : decode cL_advance 7 = .ok (.i2l, 1) := by decide +kernel
theorem dL_advance_8 : decode cL_advance 8 = .ok (.lastore, 1) := by decide +kernel
theorem dL_advance_9 : decode cL_advance 9 = .ok (.goto 6, 3) := by decide +kernel
theorem dL_advance_12 : decode cL_advance 12 = .ok (.astore_n 3, 1) := by decide +kernel
theorem dL_advance_13 : decode cL_advance 13 = .ok (.iconst 1, 1) := by decide +kernel
theorem dL_advance_14 : decode cL_advance 14 = .ok (.ireturn, 1) := by decide +kernel
theorem dL_advance_15 : decode cL_advance 15 = .ok (.iconst 0, 1) := by decide +kernel
theorem dL_advance_16 : decode cL_advance 16 = .ok (.ireturn, 1) := by decide +kernel
set_option maxRecDepth 100000 in
set_option maxHeartbeats 4000000 in
theorem w_L_advance {l : Launch} {g : Nat → Nat} {M : LH} (htr : l.stackTraces = false) {p out : Nat} {b0 : Int32} {fs : List Value} {L2 mc2 ms2 : Nat} {f : Int32 → LH → Prop} {x : String → LH → Prop} (hM : K_X11_advance l g L2 mc2 ms2 [.ref p, .int b0] M (RI f x)) (hp : M p = some (ob 9 fs)) (ho : ∀ r M9, f r M9 → ∃ h, M9 out = some (la 1 h)) (hx : ∀ E M9, x E M9 → E = "java/lang/IllegalArgumentException") : K_L_advance l g (L2 + 1) mc2 ms2 [.ref p, .int b0, .ref out] M (RI (fun k M9 => (k = 0 ∧ ∃ r M8 h, f r M8 ∧ h 0 = r.toInt64 ∧ M9 = hup M8 out (la 1 h)) ∨ (∃ E, x E M9 ∧ ((E = "java/lang/IllegalArgumentException" ∧ k = 1)))) nX) := by
  refine Ct.ofH (nL := 4) (by decide +kernel) (Nat.le_of_ble_eq_true rfl) (by simp [Value.category]) htr (fun X => ?_)
  show V l g yL_advance cL_advance ((some .int)) (tableOf [(0, 9, 12, 21)]) (L2 + 1) mc2 ms2 (RI (fun k M9 => (k = 0 ∧ ∃ r M8 h, f r M8 ∧ h 0 = r.toInt64 ∧ M9 = hup M8 out (la 1 h)) ∨ (∃ E, x E M9 ∧ ((E = "java/lang/IllegalArgumentException" ∧ k = 1)))) nX) X M 0 0 0 [some (.ref p), some (.int b0), some (.ref out), none] []
  refine v_aload_n dL_advance_0 rfl rfl ?_
  refine v_iconst (v := 0) dL_advance_1 (by decide) ?_
  refine v_aload_n dL_advance_2 rfl rfl ?_
  refine v_iload_n dL_advance_3 rfl rfl ?_
  refine k_L_51 dL_advance_4 rfl hM hp (Nat.le_refl _) (by omega) (by omega) (Nat.le_of_ble_eq_true rfl) (fun r4 M9 h9 => ?_) (fun E M9 h9 => ?_)
  obtain ⟨h0, ho9⟩ := ho _ _ h9
  refine v_i2l dL_advance_7 ?_
  refine v_last dL_advance_8 ho9 ?_
  refine v_goto (tgt := 15) dL_advance_9 (by decide) ?_
  refine v_iconst (v := 0) dL_advance_15 (by decide) ?_
  exact v_iret dL_advance_16 rfl (Or.inl ⟨rfl, _, _, _, h9, rfl, rfl⟩) (by omega) (by omega)
  obtain rfl := hx E M9 h9
  refine VX.catch (own := "SledgePostLaw") (name := "java/lang/IllegalArgumentException") (pre := []) (suf := []) (x := ⟨0, 9, 12, 21⟩) rfl rfl (fun z hz => nomatch hz) (by decide) (by decide) (Ut_of (mt_4 58 rfl) rfl) (mt_3 199 rfl) (fun q9 => ?_)
  refine v_astore_3 dL_advance_12 ?_
  refine v_iconst (v := 1) dL_advance_13 (by decide) ?_
  exact v_iret dL_advance_14 rfl (Or.inr ⟨_, h9, ⟨rfl, rfl⟩⟩) (by omega) (by omega)
abbrev K_L_road (l : Launch) (g : Nat → Nat) (L mc ms : Nat) (av : List Value) (M : LH) (Po : Res → LH → Prop) : Prop := Ct l g yL_road (.codeWith yL_road cL_road 5 (some .int) [(0, 10, 13, 19)]) L mc ms av M Po
theorem ck_L_road : cOk yL_road 4 := ⟨by decide +kernel, by decide +kernel, by decide +kernel⟩
theorem dL_road_0 : decode cL_road 0 = .ok (.aload_n 3, 1) := by decide +kernel
theorem dL_road_1 : decode cL_road 1 = .ok (.iconst 0, 1) := by decide +kernel
theorem dL_road_2 : decode cL_road 2 = .ok (.aload_n 0, 1) := by decide +kernel
theorem dL_road_3 : decode cL_road 3 = .ok (.iload_n 1, 1) := by decide +kernel
theorem dL_road_4 : decode cL_road 4 = .ok (.iload_n 2, 1) := by decide +kernel
theorem dL_road_5 : decode cL_road 5 = .ok (.invokevirtual 54, 3) := by decide +kernel
theorem dL_road_8 : decode cL_road 8 = .ok (.i2l, 1) := by decide +kernel
theorem dL_road_9 : decode cL_road 9 = .ok (.lastore, 1) := by decide +kernel
theorem dL_road_10 : decode cL_road 10 = .ok (.goto 7, 3) := by decide +kernel
theorem dL_road_13 : decode cL_road 13 = .ok (.astore 4, 2) := by decide +kernel
theorem dL_road_15 : decode cL_road 15 = .ok (.iconst 1, 1) := by decide +kernel
theorem dL_road_16 : decode cL_road 16 = .ok (.ireturn, 1) := by decide +kernel
theorem dL_road_17 : decode cL_road 17 = .ok (.iconst 0, 1) := by decide +kernel
theorem dL_road_18 : decode cL_road 18 = .ok (.ireturn, 1) := by decide +kernel
set_option maxRecDepth 100000 in
set_option maxHeartbeats 4000000 in
theorem w_L_road {l : Launch} {g : Nat → Nat} {M : LH} (htr : l.stackTraces = false) {p out : Nat} {b0 : Int32} {b1 : Int32} {fs : List Value} {L2 mc2 ms2 : Nat} {f : Int32 → LH → Prop} {x : String → LH → Prop} (hM : K_X11_road l g L2 mc2 ms2 [.ref p, .int b0, .int b1] M (RI f x)) (hp : M p = some (ob 9 fs)) (ho : ∀ r M9, f r M9 → ∃ h, M9 out = some (la 1 h)) (hx : ∀ E M9, x E M9 → E = "java/lang/IndexOutOfBoundsException") : K_L_road l g (L2 + 1) mc2 ms2 [.ref p, .int b0, .int b1, .ref out] M (RI (fun k M9 => (k = 0 ∧ ∃ r M8 h, f r M8 ∧ h 0 = r.toInt64 ∧ M9 = hup M8 out (la 1 h)) ∨ (∃ E, x E M9 ∧ ((E = "java/lang/IndexOutOfBoundsException" ∧ k = 1)))) nX) := by
  refine Ct.ofH (nL := 5) (by decide +kernel) (Nat.le_of_ble_eq_true rfl) (by simp [Value.category]) htr (fun X => ?_)
  show V l g yL_road cL_road ((some .int)) (tableOf [(0, 10, 13, 19)]) (L2 + 1) mc2 ms2 (RI (fun k M9 => (k = 0 ∧ ∃ r M8 h, f r M8 ∧ h 0 = r.toInt64 ∧ M9 = hup M8 out (la 1 h)) ∨ (∃ E, x E M9 ∧ ((E = "java/lang/IndexOutOfBoundsException" ∧ k = 1)))) nX) X M 0 0 0 [some (.ref p), some (.int b0), some (.int b1), some (.ref out), none] []
  refine v_aload_n dL_road_0 rfl rfl ?_
  refine v_iconst (v := 0) dL_road_1 (by decide) ?_
  refine v_aload_n dL_road_2 rfl rfl ?_
  refine v_iload_n dL_road_3 rfl rfl ?_
  refine v_iload_n dL_road_4 rfl rfl ?_
  refine k_L_54 dL_road_5 rfl hM hp (Nat.le_refl _) (by omega) (by omega) (Nat.le_of_ble_eq_true rfl) (fun r5 M9 h9 => ?_) (fun E M9 h9 => ?_)
  obtain ⟨h0, ho9⟩ := ho _ _ h9
  refine v_i2l dL_road_8 ?_
  refine v_last dL_road_9 ho9 ?_
  refine v_goto (tgt := 17) dL_road_10 (by decide) ?_
  refine v_iconst (v := 0) dL_road_17 (by decide) ?_
  exact v_iret dL_road_18 rfl (Or.inl ⟨rfl, _, _, _, h9, rfl, rfl⟩) (by omega) (by omega)
  obtain rfl := hx E M9 h9
  refine VX.catch (own := "SledgePostLaw") (name := "java/lang/IndexOutOfBoundsException") (pre := []) (suf := []) (x := ⟨0, 10, 13, 19⟩) rfl rfl (fun z hz => nomatch hz) (by decide) (by decide) (Ut_of (mt_4 37 rfl) rfl) (mt_3 125 rfl) (fun q9 => ?_)
  refine v_astore_4 dL_road_13 ?_
  refine v_iconst (v := 1) dL_road_15 (by decide) ?_
  exact v_iret dL_road_16 rfl (Or.inr ⟨_, h9, ⟨rfl, rfl⟩⟩) (by omega) (by omega)
abbrev K_L_areConnected (l : Launch) (g : Nat → Nat) (L mc ms : Nat) (av : List Value) (M : LH) (Po : Res → LH → Prop) : Prop := Ct l g yL_areConnected (.codeWith yL_areConnected cL_areConnected 5 (some .int) [(0, 17, 20, 19)]) L mc ms av M Po
theorem ck_L_areConnected : cOk yL_areConnected 4 := ⟨by decide +kernel, by decide +kernel, by decide +kernel⟩
theorem dL_areConnected_0 : decode cL_areConnected 0 = .ok (.aload_n 3, 1) := by decide +kernel
theorem dL_areConnected_1 : decode cL_areConnected 1 = .ok (.iconst 0, 1) := by decide +kernel
theorem dL_areConnected_2 : decode cL_areConnected 2 = .ok (.aload_n 0, 1) := by decide +kernel
theorem dL_areConnected_3 : decode cL_areConnected 3 = .ok (.iload_n 1, 1) := by decide +kernel
theorem dL_areConnected_4 : decode cL_areConnected 4 = .ok (.iload_n 2, 1) := by decide +kernel
theorem dL_areConnected_5 : decode cL_areConnected 5 = .ok (.invokevirtual 57, 3) := by decide +kernel
theorem dL_areConnected_8 : decode cL_areConnected 8 = .ok (.ifCond .eq 7, 3) := by decide +kernel
theorem dL_areConnected_11 : decode cL_areConnected 11 = .ok (.lconst 1, 1) := by decide +kernel
theorem dL_areConnected_12 : decode cL_areConnected 12 = .ok (.goto 4, 3) := by decide +kernel
theorem dL_areConnected_15 : decode cL_areConnected 15 = .ok (.lconst 0, 1) := by decide +kernel
theorem dL_areConnected_16 : decode cL_areConnected 16 = .ok (.lastore, 1) := by decide +kernel
theorem dL_areConnected_17 : decode cL_areConnected 17 = .ok (.goto 7, 3) := by decide +kernel
theorem dL_areConnected_20 : decode cL_areConnected 20 = .ok (.astore 4, 2) := by decide +kernel
theorem dL_areConnected_22 : decode cL_areConnected 22 = .ok (.iconst 1, 1) := by decide +kernel
theorem dL_areConnected_23 : decode cL_areConnected 23 = .ok (.ireturn, 1) := by decide +kernel
theorem dL_areConnected_24 : decode cL_areConnected 24 = .ok (.iconst 0, 1) := by decide +kernel
theorem dL_areConnected_25 : decode cL_areConnected 25 = .ok (.ireturn, 1) := by decide +kernel
set_option maxRecDepth 100000 in
set_option maxHeartbeats 4000000 in
theorem w_L_areConnected {l : Launch} {g : Nat → Nat} {M : LH} (htr : l.stackTraces = false) {p out : Nat} {b0 : Int32} {b1 : Int32} {fs : List Value} {L2 mc2 ms2 : Nat} {f : Int32 → LH → Prop} {x : String → LH → Prop} (hM : K_X11_areConnected l g L2 mc2 ms2 [.ref p, .int b0, .int b1] M (RI f x)) (hp : M p = some (ob 9 fs)) (ho : ∀ r M9, f r M9 → ∃ h, M9 out = some (la 1 h)) (hx : ∀ E M9, x E M9 → E = "java/lang/IndexOutOfBoundsException") : K_L_areConnected l g (L2 + 1) mc2 ms2 [.ref p, .int b0, .int b1, .ref out] M (RI (fun k M9 => (k = 0 ∧ ∃ r M8 h, f r M8 ∧ h 0 = (if r = 0 then 0 else 1) ∧ M9 = hup M8 out (la 1 h)) ∨ (∃ E, x E M9 ∧ ((E = "java/lang/IndexOutOfBoundsException" ∧ k = 1)))) nX) := by
  refine Ct.ofH (nL := 5) (by decide +kernel) (Nat.le_of_ble_eq_true rfl) (by simp [Value.category]) htr (fun X => ?_)
  show V l g yL_areConnected cL_areConnected ((some .int)) (tableOf [(0, 17, 20, 19)]) (L2 + 1) mc2 ms2 (RI (fun k M9 => (k = 0 ∧ ∃ r M8 h, f r M8 ∧ h 0 = (if r = 0 then 0 else 1) ∧ M9 = hup M8 out (la 1 h)) ∨ (∃ E, x E M9 ∧ ((E = "java/lang/IndexOutOfBoundsException" ∧ k = 1)))) nX) X M 0 0 0 [some (.ref p), some (.int b0), some (.int b1), some (.ref out), none] []
  refine v_aload_n dL_areConnected_0 rfl rfl ?_
  refine v_iconst (v := 0) dL_areConnected_1 (by decide) ?_
  refine v_aload_n dL_areConnected_2 rfl rfl ?_
  refine v_iload_n dL_areConnected_3 rfl rfl ?_
  refine v_iload_n dL_areConnected_4 rfl rfl ?_
  refine k_L_57 dL_areConnected_5 rfl hM hp (Nat.le_refl _) (by omega) (by omega) (Nat.le_of_ble_eq_true rfl) (fun r5 M9 h9 => ?_) (fun E M9 h9 => ?_)
  obtain ⟨h0, ho9⟩ := ho _ _ h9
  refine v_if_eq (tgt := 15) dL_areConnected_8 (by decide) (fun h8 => ?_) (fun h8 => ?_)
  · refine v_lconst (v := 0) dL_areConnected_15 (by decide) ?_
    refine v_last dL_areConnected_16 ho9 ?_
    refine v_goto (tgt := 24) dL_areConnected_17 (by decide) ?_
    refine v_iconst (v := 0) dL_areConnected_24 (by decide) ?_
    exact v_iret dL_areConnected_25 rfl (Or.inl ⟨rfl, _, _, _, h9, (by first | exact (if_pos h8).symm | exact (if_neg h8).symm), rfl⟩) (by omega) (by omega)
  · refine v_lconst (v := 1) dL_areConnected_11 (by decide) ?_
    refine v_goto (tgt := 16) dL_areConnected_12 (by decide) ?_
    refine v_last dL_areConnected_16 ho9 ?_
    refine v_goto (tgt := 24) dL_areConnected_17 (by decide) ?_
    refine v_iconst (v := 0) dL_areConnected_24 (by decide) ?_
    exact v_iret dL_areConnected_25 rfl (Or.inl ⟨rfl, _, _, _, h9, (by first | exact (if_pos h8).symm | exact (if_neg h8).symm), rfl⟩) (by omega) (by omega)
  obtain rfl := hx E M9 h9
  refine VX.catch (own := "SledgePostLaw") (name := "java/lang/IndexOutOfBoundsException") (pre := []) (suf := []) (x := ⟨0, 17, 20, 19⟩) rfl rfl (fun z hz => nomatch hz) (by decide) (by decide) (Ut_of (mt_4 37 rfl) rfl) (mt_3 125 rfl) (fun q9 => ?_)
  refine v_astore_4 dL_areConnected_20 ?_
  refine v_iconst (v := 1) dL_areConnected_22 (by decide) ?_
  exact v_iret dL_areConnected_23 rfl (Or.inr ⟨_, h9, ⟨rfl, rfl⟩⟩) (by omega) (by omega)
abbrev K_L_distance (l : Launch) (g : Nat → Nat) (L mc ms : Nat) (av : List Value) (M : LH) (Po : Res → LH → Prop) : Prop := Ct l g yL_distance (.codeWith yL_distance cL_distance 5 (some .int) [(0, 10, 13, 19), (0, 10, 17, 34)]) L mc ms av M Po
theorem ck_L_distance : cOk yL_distance 4 := ⟨by decide +kernel, by decide +kernel, by decide +kernel⟩
theorem dL_distance_0 : decode cL_distance 0 = .ok (.aload_n 3, 1) := by decide +kernel
theorem dL_distance_1 : decode cL_distance 1 = .ok (.iconst 0, 1) := by decide +kernel
theorem dL_distance_2 : decode cL_distance 2 = .ok (.aload_n 0, 1) := by decide +kernel
theorem dL_distance_3 : decode cL_distance 3 = .ok (.iload_n 1, 1) := by decide +kernel
theorem dL_distance_4 : decode cL_distance 4 = .ok (.iload_n 2, 1) := by decide +kernel
theorem dL_distance_5 : decode cL_distance 5 = .ok (.invokevirtual 61, 3) := by decide +kernel
theorem dL_distance_8 : decode cL_distance 8 = .ok (.i2l, 1) := by decide +kernel
theorem dL_distance_9 : decode cL_distance 9 = .ok (.lastore, 1) := by decide +kernel
theorem dL_distance_10 : decode cL_distance 10 = .ok (.goto 11, 3) := by decide +kernel
theorem dL_distance_13 : decode cL_distance 13 = .ok (.astore 4, 2) := by decide +kernel
theorem dL_distance_15 : decode cL_distance 15 = .ok (.iconst 1, 1) := by decide +kernel
theorem dL_distance_16 : decode cL_distance 16 = .ok (.ireturn, 1) := by decide +kernel
theorem dL_distance_17 : decode cL_distance 17 = .ok (.astore 4, 2) := by decide +kernel
theorem dL_distance_19 : decode cL_distance 19 = .ok (.iconst 2, 1) := by decide +kernel
theorem dL_distance_20 : decode cL_distance 20 = .ok (.ireturn, 1) := by decide +kernel
theorem dL_distance_21 : decode cL_distance 21 = .ok (.iconst 0, 1) := by decide +kernel
theorem dL_distance_22 : decode cL_distance 22 = .ok (.ireturn, 1) := by decide +kernel
set_option maxRecDepth 100000 in
set_option maxHeartbeats 4000000 in
theorem w_L_distance {l : Launch} {g : Nat → Nat} {M : LH} (htr : l.stackTraces = false) {p out : Nat} {b0 : Int32} {b1 : Int32} {fs : List Value} {L2 mc2 ms2 : Nat} {f : Int32 → LH → Prop} {x : String → LH → Prop} (hM : K_X11_distance l g L2 mc2 ms2 [.ref p, .int b0, .int b1] M (RI f x)) (hp : M p = some (ob 9 fs)) (ho : ∀ r M9, f r M9 → ∃ h, M9 out = some (la 1 h)) (hx : ∀ E M9, x E M9 → E = "java/lang/IndexOutOfBoundsException" ∨ E = "java/util/NoSuchElementException") : K_L_distance l g (L2 + 1) mc2 ms2 [.ref p, .int b0, .int b1, .ref out] M (RI (fun k M9 => (k = 0 ∧ ∃ r M8 h, f r M8 ∧ h 0 = r.toInt64 ∧ M9 = hup M8 out (la 1 h)) ∨ (∃ E, x E M9 ∧ ((E = "java/lang/IndexOutOfBoundsException" ∧ k = 1) ∨ (E = "java/util/NoSuchElementException" ∧ k = 2)))) nX) := by
  refine Ct.ofH (nL := 5) (by decide +kernel) (Nat.le_of_ble_eq_true rfl) (by simp [Value.category]) htr (fun X => ?_)
  show V l g yL_distance cL_distance ((some .int)) (tableOf [(0, 10, 13, 19), (0, 10, 17, 34)]) (L2 + 1) mc2 ms2 (RI (fun k M9 => (k = 0 ∧ ∃ r M8 h, f r M8 ∧ h 0 = r.toInt64 ∧ M9 = hup M8 out (la 1 h)) ∨ (∃ E, x E M9 ∧ ((E = "java/lang/IndexOutOfBoundsException" ∧ k = 1) ∨ (E = "java/util/NoSuchElementException" ∧ k = 2)))) nX) X M 0 0 0 [some (.ref p), some (.int b0), some (.int b1), some (.ref out), none] []
  refine v_aload_n dL_distance_0 rfl rfl ?_
  refine v_iconst (v := 0) dL_distance_1 (by decide) ?_
  refine v_aload_n dL_distance_2 rfl rfl ?_
  refine v_iload_n dL_distance_3 rfl rfl ?_
  refine v_iload_n dL_distance_4 rfl rfl ?_
  refine k_L_61 dL_distance_5 rfl hM hp (Nat.le_refl _) (by omega) (by omega) (Nat.le_of_ble_eq_true rfl) (fun r5 M9 h9 => ?_) (fun E M9 h9 => ?_)
  obtain ⟨h0, ho9⟩ := ho _ _ h9
  refine v_i2l dL_distance_8 ?_
  refine v_last dL_distance_9 ho9 ?_
  refine v_goto (tgt := 21) dL_distance_10 (by decide) ?_
  refine v_iconst (v := 0) dL_distance_21 (by decide) ?_
  exact v_iret dL_distance_22 rfl (Or.inl ⟨rfl, _, _, _, h9, rfl, rfl⟩) (by omega) (by omega)
  rcases hx E M9 h9 with rfl | rfl
  · refine VX.catch (own := "SledgePostLaw") (name := "java/lang/IndexOutOfBoundsException") (pre := []) (suf := [⟨0, 10, 17, 34⟩]) (x := ⟨0, 10, 13, 19⟩) rfl rfl (fun z hz => nomatch hz) (by decide) (by decide) (Ut_of (mt_4 37 rfl) rfl) (mt_3 125 rfl) (fun q9 => ?_)
    refine v_astore_4 dL_distance_13 ?_
    refine v_iconst (v := 1) dL_distance_15 (by decide) ?_
    exact v_iret dL_distance_16 rfl (Or.inr ⟨_, h9, Or.inl ⟨rfl, rfl⟩⟩) (by omega) (by omega)
  · refine VX.catch (own := "SledgePostLaw") (name := "java/util/NoSuchElementException") (pre := [⟨0, 10, 13, 19⟩]) (suf := []) (x := ⟨0, 10, 17, 34⟩) rfl rfl (List.forall_mem_cons.mpr ⟨⟨by decide, "java/lang/IndexOutOfBoundsException", (Ut_of (mt_4 37 rfl) rfl), by decide +kernel⟩, fun z hz => nomatch hz⟩) (by decide) (by decide) (Ut_of (mt_4 111 rfl) rfl) (mt_3 217 rfl) (fun q9 => ?_)
    refine v_astore_4 dL_distance_17 ?_
    refine v_iconst (v := 2) dL_distance_19 (by decide) ?_
    exact v_iret dL_distance_20 rfl (Or.inr ⟨_, h9, Or.inr (⟨rfl, rfl⟩)⟩) (by omega) (by omega)
abbrev K_L_distanceByStations (l : Launch) (g : Nat → Nat) (L mc ms : Nat) (av : List Value) (M : LH) (Po : Res → LH → Prop) : Prop := Ct l g yL_distanceByStations (.codeWith yL_distanceByStations cL_distanceByStations 5 (some .int) [(0, 10, 13, 19), (0, 10, 17, 34)]) L mc ms av M Po
theorem ck_L_distanceByStations : cOk yL_distanceByStations 4 := ⟨by decide +kernel, by decide +kernel, by decide +kernel⟩
theorem dL_distanceByStations_0 : decode cL_distanceByStations 0 = .ok (.aload_n 3, 1) := by decide +kernel
theorem dL_distanceByStations_1 : decode cL_distanceByStations 1 = .ok (.iconst 0, 1) := by decide +kernel
theorem dL_distanceByStations_2 : decode cL_distanceByStations 2 = .ok (.aload_n 0, 1) := by decide +kernel
theorem dL_distanceByStations_3 : decode cL_distanceByStations 3 = .ok (.iload_n 1, 1) := by decide +kernel
theorem dL_distanceByStations_4 : decode cL_distanceByStations 4 = .ok (.iload_n 2, 1) := by decide +kernel
theorem dL_distanceByStations_5 : decode cL_distanceByStations 5 = .ok (.invokevirtual 64, 3) := by decide +kernel
theorem dL_distanceByStations_8 : decode cL_distanceByStations 8 = .ok (.i2l, 1) := by decide +kernel
theorem dL_distanceByStations_9 : decode cL_distanceByStations 9 = .ok (.lastore, 1) := by decide +kernel
theorem dL_distanceByStations_10 : decode cL_distanceByStations 10 = .ok (.goto 11, 3) := by decide +kernel
theorem dL_distanceByStations_13 : decode cL_distanceByStations 13 = .ok (.astore 4, 2) := by decide +kernel
theorem dL_distanceByStations_15 : decode cL_distanceByStations 15 = .ok (.iconst 1, 1) := by decide +kernel
theorem dL_distanceByStations_16 : decode cL_distanceByStations 16 = .ok (.ireturn, 1) := by decide +kernel
theorem dL_distanceByStations_17 : decode cL_distanceByStations 17 = .ok (.astore 4, 2) := by decide +kernel
theorem dL_distanceByStations_19 : decode cL_distanceByStations 19 = .ok (.iconst 2, 1) := by decide +kernel
theorem dL_distanceByStations_20 : decode cL_distanceByStations 20 = .ok (.ireturn, 1) := by decide +kernel
theorem dL_distanceByStations_21 : decode cL_distanceByStations 21 = .ok (.iconst 0, 1) := by decide +kernel
theorem dL_distanceByStations_22 : decode cL_distanceByStations 22 = .ok (.ireturn, 1) := by decide +kernel
set_option maxRecDepth 100000 in
set_option maxHeartbeats 4000000 in
theorem w_L_distanceByStations {l : Launch} {g : Nat → Nat} {M : LH} (htr : l.stackTraces = false) {p out : Nat} {b0 : Int32} {b1 : Int32} {fs : List Value} {L2 mc2 ms2 : Nat} {f : Int32 → LH → Prop} {x : String → LH → Prop} (hM : K_X11_distanceByStations l g L2 mc2 ms2 [.ref p, .int b0, .int b1] M (RI f x)) (hp : M p = some (ob 9 fs)) (ho : ∀ r M9, f r M9 → ∃ h, M9 out = some (la 1 h)) (hx : ∀ E M9, x E M9 → E = "java/lang/IndexOutOfBoundsException" ∨ E = "java/util/NoSuchElementException") : K_L_distanceByStations l g (L2 + 1) mc2 ms2 [.ref p, .int b0, .int b1, .ref out] M (RI (fun k M9 => (k = 0 ∧ ∃ r M8 h, f r M8 ∧ h 0 = r.toInt64 ∧ M9 = hup M8 out (la 1 h)) ∨ (∃ E, x E M9 ∧ ((E = "java/lang/IndexOutOfBoundsException" ∧ k = 1) ∨ (E = "java/util/NoSuchElementException" ∧ k = 2)))) nX) := by
  refine Ct.ofH (nL := 5) (by decide +kernel) (Nat.le_of_ble_eq_true rfl) (by simp [Value.category]) htr (fun X => ?_)
  show V l g yL_distanceByStations cL_distanceByStations ((some .int)) (tableOf [(0, 10, 13, 19), (0, 10, 17, 34)]) (L2 + 1) mc2 ms2 (RI (fun k M9 => (k = 0 ∧ ∃ r M8 h, f r M8 ∧ h 0 = r.toInt64 ∧ M9 = hup M8 out (la 1 h)) ∨ (∃ E, x E M9 ∧ ((E = "java/lang/IndexOutOfBoundsException" ∧ k = 1) ∨ (E = "java/util/NoSuchElementException" ∧ k = 2)))) nX) X M 0 0 0 [some (.ref p), some (.int b0), some (.int b1), some (.ref out), none] []
  refine v_aload_n dL_distanceByStations_0 rfl rfl ?_
  refine v_iconst (v := 0) dL_distanceByStations_1 (by decide) ?_
  refine v_aload_n dL_distanceByStations_2 rfl rfl ?_
  refine v_iload_n dL_distanceByStations_3 rfl rfl ?_
  refine v_iload_n dL_distanceByStations_4 rfl rfl ?_
  refine k_L_64 dL_distanceByStations_5 rfl hM hp (Nat.le_refl _) (by omega) (by omega) (Nat.le_of_ble_eq_true rfl) (fun r5 M9 h9 => ?_) (fun E M9 h9 => ?_)
  obtain ⟨h0, ho9⟩ := ho _ _ h9
  refine v_i2l dL_distanceByStations_8 ?_
  refine v_last dL_distanceByStations_9 ho9 ?_
  refine v_goto (tgt := 21) dL_distanceByStations_10 (by decide) ?_
  refine v_iconst (v := 0) dL_distanceByStations_21 (by decide) ?_
  exact v_iret dL_distanceByStations_22 rfl (Or.inl ⟨rfl, _, _, _, h9, rfl, rfl⟩) (by omega) (by omega)
  rcases hx E M9 h9 with rfl | rfl
  · refine VX.catch (own := "SledgePostLaw") (name := "java/lang/IndexOutOfBoundsException") (pre := []) (suf := [⟨0, 10, 17, 34⟩]) (x := ⟨0, 10, 13, 19⟩) rfl rfl (fun z hz => nomatch hz) (by decide) (by decide) (Ut_of (mt_4 37 rfl) rfl) (mt_3 125 rfl) (fun q9 => ?_)
    refine v_astore_4 dL_distanceByStations_13 ?_
    refine v_iconst (v := 1) dL_distanceByStations_15 (by decide) ?_
    exact v_iret dL_distanceByStations_16 rfl (Or.inr ⟨_, h9, Or.inl ⟨rfl, rfl⟩⟩) (by omega) (by omega)
  · refine VX.catch (own := "SledgePostLaw") (name := "java/util/NoSuchElementException") (pre := [⟨0, 10, 13, 19⟩]) (suf := []) (x := ⟨0, 10, 17, 34⟩) rfl rfl (List.forall_mem_cons.mpr ⟨⟨by decide, "java/lang/IndexOutOfBoundsException", (Ut_of (mt_4 37 rfl) rfl), by decide +kernel⟩, fun z hz => nomatch hz⟩) (by decide) (by decide) (Ut_of (mt_4 111 rfl) rfl) (mt_3 217 rfl) (fun q9 => ?_)
    refine v_astore_4 dL_distanceByStations_17 ?_
    refine v_iconst (v := 2) dL_distanceByStations_19 (by decide) ?_
    exact v_iret dL_distanceByStations_20 rfl (Or.inr ⟨_, h9, Or.inr (⟨rfl, rfl⟩)⟩) (by omega) (by omega)
abbrev K_L_waitingIn (l : Launch) (g : Nat → Nat) (L mc ms : Nat) (av : List Value) (M : LH) (Po : Res → LH → Prop) : Prop := Ct l g yL_waitingIn (.codeWith yL_waitingIn cL_waitingIn 4 (some .int) [(0, 9, 12, 19)]) L mc ms av M Po
theorem ck_L_waitingIn : cOk yL_waitingIn 3 := ⟨by decide +kernel, by decide +kernel, by decide +kernel⟩
theorem dL_waitingIn_0 : decode cL_waitingIn 0 = .ok (.aload_n 2, 1) := by decide +kernel
theorem dL_waitingIn_1 : decode cL_waitingIn 1 = .ok (.iconst 0, 1) := by decide +kernel
theorem dL_waitingIn_2 : decode cL_waitingIn 2 = .ok (.aload_n 0, 1) := by decide +kernel
theorem dL_waitingIn_3 : decode cL_waitingIn 3 = .ok (.iload_n 1, 1) := by decide +kernel
theorem dL_waitingIn_4 : decode cL_waitingIn 4 = .ok (.invokevirtual 67, 3) := by decide +kernel
theorem dL_waitingIn_7 : decode cL_waitingIn 7 = .ok (.i2l, 1) := by decide +kernel
theorem dL_waitingIn_8 : decode cL_waitingIn 8 = .ok (.lastore, 1) := by decide +kernel
theorem dL_waitingIn_9 : decode cL_waitingIn 9 = .ok (.goto 6, 3) := by decide +kernel
theorem dL_waitingIn_12 : decode cL_waitingIn 12 = .ok (.astore_n 3, 1) := by decide +kernel
theorem dL_waitingIn_13 : decode cL_waitingIn 13 = .ok (.iconst 1, 1) := by decide +kernel
theorem dL_waitingIn_14 : decode cL_waitingIn 14 = .ok (.ireturn, 1) := by decide +kernel
theorem dL_waitingIn_15 : decode cL_waitingIn 15 = .ok (.iconst 0, 1) := by decide +kernel
theorem dL_waitingIn_16 : decode cL_waitingIn 16 = .ok (.ireturn, 1) := by decide +kernel
set_option maxRecDepth 100000 in
set_option maxHeartbeats 4000000 in
theorem w_L_waitingIn {l : Launch} {g : Nat → Nat} {M : LH} (htr : l.stackTraces = false) {p out : Nat} {b0 : Int32} {fs : List Value} {L2 mc2 ms2 : Nat} {f : Int32 → LH → Prop} {x : String → LH → Prop} (hM : K_X11_waitingIn l g L2 mc2 ms2 [.ref p, .int b0] M (RI f x)) (hp : M p = some (ob 9 fs)) (ho : ∀ r M9, f r M9 → ∃ h, M9 out = some (la 1 h)) (hx : ∀ E M9, x E M9 → E = "java/lang/IndexOutOfBoundsException") : K_L_waitingIn l g (L2 + 1) mc2 ms2 [.ref p, .int b0, .ref out] M (RI (fun k M9 => (k = 0 ∧ ∃ r M8 h, f r M8 ∧ h 0 = r.toInt64 ∧ M9 = hup M8 out (la 1 h)) ∨ (∃ E, x E M9 ∧ ((E = "java/lang/IndexOutOfBoundsException" ∧ k = 1)))) nX) := by
  refine Ct.ofH (nL := 4) (by decide +kernel) (Nat.le_of_ble_eq_true rfl) (by simp [Value.category]) htr (fun X => ?_)
  show V l g yL_waitingIn cL_waitingIn ((some .int)) (tableOf [(0, 9, 12, 19)]) (L2 + 1) mc2 ms2 (RI (fun k M9 => (k = 0 ∧ ∃ r M8 h, f r M8 ∧ h 0 = r.toInt64 ∧ M9 = hup M8 out (la 1 h)) ∨ (∃ E, x E M9 ∧ ((E = "java/lang/IndexOutOfBoundsException" ∧ k = 1)))) nX) X M 0 0 0 [some (.ref p), some (.int b0), some (.ref out), none] []
  refine v_aload_n dL_waitingIn_0 rfl rfl ?_
  refine v_iconst (v := 0) dL_waitingIn_1 (by decide) ?_
  refine v_aload_n dL_waitingIn_2 rfl rfl ?_
  refine v_iload_n dL_waitingIn_3 rfl rfl ?_
  refine k_L_67 dL_waitingIn_4 rfl hM hp (Nat.le_refl _) (by omega) (by omega) (Nat.le_of_ble_eq_true rfl) (fun r4 M9 h9 => ?_) (fun E M9 h9 => ?_)
  obtain ⟨h0, ho9⟩ := ho _ _ h9
  refine v_i2l dL_waitingIn_7 ?_
  refine v_last dL_waitingIn_8 ho9 ?_
  refine v_goto (tgt := 15) dL_waitingIn_9 (by decide) ?_
  refine v_iconst (v := 0) dL_waitingIn_15 (by decide) ?_
  exact v_iret dL_waitingIn_16 rfl (Or.inl ⟨rfl, _, _, _, h9, rfl, rfl⟩) (by omega) (by omega)
  obtain rfl := hx E M9 h9
  refine VX.catch (own := "SledgePostLaw") (name := "java/lang/IndexOutOfBoundsException") (pre := []) (suf := []) (x := ⟨0, 9, 12, 19⟩) rfl rfl (fun z hz => nomatch hz) (by decide) (by decide) (Ut_of (mt_4 37 rfl) rfl) (mt_3 125 rfl) (fun q9 => ?_)
  refine v_astore_3 dL_waitingIn_12 ?_
  refine v_iconst (v := 1) dL_waitingIn_13 (by decide) ?_
  exact v_iret dL_waitingIn_14 rfl (Or.inr ⟨_, h9, ⟨rfl, rfl⟩⟩) (by omega) (by omega)
abbrev K_L_capacity (l : Launch) (g : Nat → Nat) (L mc ms : Nat) (av : List Value) (M : LH) (Po : Res → LH → Prop) : Prop := Ct l g yL_capacity (.codeWith yL_capacity cL_capacity 4 (some .int) [(0, 9, 12, 19)]) L mc ms av M Po
theorem ck_L_capacity : cOk yL_capacity 3 := ⟨by decide +kernel, by decide +kernel, by decide +kernel⟩
theorem dL_capacity_0 : decode cL_capacity 0 = .ok (.aload_n 2, 1) := by decide +kernel
theorem dL_capacity_1 : decode cL_capacity 1 = .ok (.iconst 0, 1) := by decide +kernel
theorem dL_capacity_2 : decode cL_capacity 2 = .ok (.aload_n 0, 1) := by decide +kernel
theorem dL_capacity_3 : decode cL_capacity 3 = .ok (.iload_n 1, 1) := by decide +kernel
theorem dL_capacity_4 : decode cL_capacity 4 = .ok (.invokevirtual 70, 3) := by decide +kernel
theorem dL_capacity_7 : decode cL_capacity 7 = .ok (.i2l, 1) := by decide +kernel
theorem dL_capacity_8 : decode cL_capacity 8 = .ok (.lastore, 1) := by decide +kernel
theorem dL_capacity_9 : decode cL_capacity 9 = .ok (.goto 6, 3) := by decide +kernel
theorem dL_capacity_12 : decode cL_capacity 12 = .ok (.astore_n 3, 1) := by decide +kernel
theorem dL_capacity_13 : decode cL_capacity 13 = .ok (.iconst 1, 1) := by decide +kernel
theorem dL_capacity_14 : decode cL_capacity 14 = .ok (.ireturn, 1) := by decide +kernel
theorem dL_capacity_15 : decode cL_capacity 15 = .ok (.iconst 0, 1) := by decide +kernel
theorem dL_capacity_16 : decode cL_capacity 16 = .ok (.ireturn, 1) := by decide +kernel
set_option maxRecDepth 100000 in
set_option maxHeartbeats 4000000 in
theorem w_L_capacity {l : Launch} {g : Nat → Nat} {M : LH} (htr : l.stackTraces = false) {p out : Nat} {b0 : Int32} {fs : List Value} {L2 mc2 ms2 : Nat} {f : Int32 → LH → Prop} {x : String → LH → Prop} (hM : K_X11_capacity l g L2 mc2 ms2 [.ref p, .int b0] M (RI f x)) (hp : M p = some (ob 9 fs)) (ho : ∀ r M9, f r M9 → ∃ h, M9 out = some (la 1 h)) (hx : ∀ E M9, x E M9 → E = "java/lang/IndexOutOfBoundsException") : K_L_capacity l g (L2 + 1) mc2 ms2 [.ref p, .int b0, .ref out] M (RI (fun k M9 => (k = 0 ∧ ∃ r M8 h, f r M8 ∧ h 0 = r.toInt64 ∧ M9 = hup M8 out (la 1 h)) ∨ (∃ E, x E M9 ∧ ((E = "java/lang/IndexOutOfBoundsException" ∧ k = 1)))) nX) := by
  refine Ct.ofH (nL := 4) (by decide +kernel) (Nat.le_of_ble_eq_true rfl) (by simp [Value.category]) htr (fun X => ?_)
  show V l g yL_capacity cL_capacity ((some .int)) (tableOf [(0, 9, 12, 19)]) (L2 + 1) mc2 ms2 (RI (fun k M9 => (k = 0 ∧ ∃ r M8 h, f r M8 ∧ h 0 = r.toInt64 ∧ M9 = hup M8 out (la 1 h)) ∨ (∃ E, x E M9 ∧ ((E = "java/lang/IndexOutOfBoundsException" ∧ k = 1)))) nX) X M 0 0 0 [some (.ref p), some (.int b0), some (.ref out), none] []
  refine v_aload_n dL_capacity_0 rfl rfl ?_
  refine v_iconst (v := 0) dL_capacity_1 (by decide) ?_
  refine v_aload_n dL_capacity_2 rfl rfl ?_
  refine v_iload_n dL_capacity_3 rfl rfl ?_
  refine k_L_70 dL_capacity_4 rfl hM hp (Nat.le_refl _) (by omega) (by omega) (Nat.le_of_ble_eq_true rfl) (fun r4 M9 h9 => ?_) (fun E M9 h9 => ?_)
  obtain ⟨h0, ho9⟩ := ho _ _ h9
  refine v_i2l dL_capacity_7 ?_
  refine v_last dL_capacity_8 ho9 ?_
  refine v_goto (tgt := 15) dL_capacity_9 (by decide) ?_
  refine v_iconst (v := 0) dL_capacity_15 (by decide) ?_
  exact v_iret dL_capacity_16 rfl (Or.inl ⟨rfl, _, _, _, h9, rfl, rfl⟩) (by omega) (by omega)
  obtain rfl := hx E M9 h9
  refine VX.catch (own := "SledgePostLaw") (name := "java/lang/IndexOutOfBoundsException") (pre := []) (suf := []) (x := ⟨0, 9, 12, 19⟩) rfl rfl (fun z hz => nomatch hz) (by decide) (by decide) (Ut_of (mt_4 37 rfl) rfl) (mt_3 125 rfl) (fun q9 => ?_)
  refine v_astore_3 dL_capacity_12 ?_
  refine v_iconst (v := 1) dL_capacity_13 (by decide) ?_
  exact v_iret dL_capacity_14 rfl (Or.inr ⟨_, h9, ⟨rfl, rfl⟩⟩) (by omega) (by omega)
abbrev K_L_loadOf (l : Launch) (g : Nat → Nat) (L mc ms : Nat) (av : List Value) (M : LH) (Po : Res → LH → Prop) : Prop := Ct l g yL_loadOf (.codeWith yL_loadOf cL_loadOf 4 (some .int) [(0, 9, 12, 19)]) L mc ms av M Po
theorem ck_L_loadOf : cOk yL_loadOf 3 := ⟨by decide +kernel, by decide +kernel, by decide +kernel⟩
theorem dL_loadOf_0 : decode cL_loadOf 0 = .ok (.aload_n 2, 1) := by decide +kernel
theorem dL_loadOf_1 : decode cL_loadOf 1 = .ok (.iconst 0, 1) := by decide +kernel
theorem dL_loadOf_2 : decode cL_loadOf 2 = .ok (.aload_n 0, 1) := by decide +kernel
theorem dL_loadOf_3 : decode cL_loadOf 3 = .ok (.iload_n 1, 1) := by decide +kernel
theorem dL_loadOf_4 : decode cL_loadOf 4 = .ok (.invokevirtual 73, 3) := by decide +kernel
theorem dL_loadOf_7 : decode cL_loadOf 7 = .ok (.i2l, 1) := by decide +kernel
theorem dL_loadOf_8 : decode cL_loadOf 8 = .ok (.lastore, 1) := by decide +kernel
theorem dL_loadOf_9 : decode cL_loadOf 9 = .ok (.goto 6, 3) := by decide +kernel
theorem dL_loadOf_12 : decode cL_loadOf 12 = .ok (.astore_n 3, 1) := by decide +kernel
theorem dL_loadOf_13 : decode cL_loadOf 13 = .ok (.iconst 1, 1) := by decide +kernel
theorem dL_loadOf_14 : decode cL_loadOf 14 = .ok (.ireturn, 1) := by decide +kernel
theorem dL_loadOf_15 : decode cL_loadOf 15 = .ok (.iconst 0, 1) := by decide +kernel
theorem dL_loadOf_16 : decode cL_loadOf 16 = .ok (.ireturn, 1) := by decide +kernel
set_option maxRecDepth 100000 in
set_option maxHeartbeats 4000000 in
theorem w_L_loadOf {l : Launch} {g : Nat → Nat} {M : LH} (htr : l.stackTraces = false) {p out : Nat} {b0 : Int32} {fs : List Value} {L2 mc2 ms2 : Nat} {f : Int32 → LH → Prop} {x : String → LH → Prop} (hM : K_X11_loadOf l g L2 mc2 ms2 [.ref p, .int b0] M (RI f x)) (hp : M p = some (ob 9 fs)) (ho : ∀ r M9, f r M9 → ∃ h, M9 out = some (la 1 h)) (hx : ∀ E M9, x E M9 → E = "java/lang/IndexOutOfBoundsException") : K_L_loadOf l g (L2 + 1) mc2 ms2 [.ref p, .int b0, .ref out] M (RI (fun k M9 => (k = 0 ∧ ∃ r M8 h, f r M8 ∧ h 0 = r.toInt64 ∧ M9 = hup M8 out (la 1 h)) ∨ (∃ E, x E M9 ∧ ((E = "java/lang/IndexOutOfBoundsException" ∧ k = 1)))) nX) := by
  refine Ct.ofH (nL := 4) (by decide +kernel) (Nat.le_of_ble_eq_true rfl) (by simp [Value.category]) htr (fun X => ?_)
  show V l g yL_loadOf cL_loadOf ((some .int)) (tableOf [(0, 9, 12, 19)]) (L2 + 1) mc2 ms2 (RI (fun k M9 => (k = 0 ∧ ∃ r M8 h, f r M8 ∧ h 0 = r.toInt64 ∧ M9 = hup M8 out (la 1 h)) ∨ (∃ E, x E M9 ∧ ((E = "java/lang/IndexOutOfBoundsException" ∧ k = 1)))) nX) X M 0 0 0 [some (.ref p), some (.int b0), some (.ref out), none] []
  refine v_aload_n dL_loadOf_0 rfl rfl ?_
  refine v_iconst (v := 0) dL_loadOf_1 (by decide) ?_
  refine v_aload_n dL_loadOf_2 rfl rfl ?_
  refine v_iload_n dL_loadOf_3 rfl rfl ?_
  refine k_L_73 dL_loadOf_4 rfl hM hp (Nat.le_refl _) (by omega) (by omega) (Nat.le_of_ble_eq_true rfl) (fun r4 M9 h9 => ?_) (fun E M9 h9 => ?_)
  obtain ⟨h0, ho9⟩ := ho _ _ h9
  refine v_i2l dL_loadOf_7 ?_
  refine v_last dL_loadOf_8 ho9 ?_
  refine v_goto (tgt := 15) dL_loadOf_9 (by decide) ?_
  refine v_iconst (v := 0) dL_loadOf_15 (by decide) ?_
  exact v_iret dL_loadOf_16 rfl (Or.inl ⟨rfl, _, _, _, h9, rfl, rfl⟩) (by omega) (by omega)
  obtain rfl := hx E M9 h9
  refine VX.catch (own := "SledgePostLaw") (name := "java/lang/IndexOutOfBoundsException") (pre := []) (suf := []) (x := ⟨0, 9, 12, 19⟩) rfl rfl (fun z hz => nomatch hz) (by decide) (by decide) (Ut_of (mt_4 37 rfl) rfl) (mt_3 125 rfl) (fun q9 => ?_)
  refine v_astore_3 dL_loadOf_12 ?_
  refine v_iconst (v := 1) dL_loadOf_13 (by decide) ?_
  exact v_iret dL_loadOf_14 rfl (Or.inr ⟨_, h9, ⟨rfl, rfl⟩⟩) (by omega) (by omega)
abbrev K_L_isTravelling (l : Launch) (g : Nat → Nat) (L mc ms : Nat) (av : List Value) (M : LH) (Po : Res → LH → Prop) : Prop := Ct l g yL_isTravelling (.codeWith yL_isTravelling cL_isTravelling 4 (some .int) [(0, 16, 19, 19)]) L mc ms av M Po
theorem ck_L_isTravelling : cOk yL_isTravelling 3 := ⟨by decide +kernel, by decide +kernel, by decide +kernel⟩
theorem dL_isTravelling_0 : decode cL_isTravelling 0 = .ok (.aload_n 2, 1) := by decide +kernel
theorem dL_isTravelling_1 : decode cL_isTravelling 1 = .ok (.iconst 0, 1) := by decide +kernel
theorem dL_isTravelling_2 : decode cL_isTravelling 2 = .ok (.aload_n 0, 1) := by decide +kernel
theorem dL_isTravelling_3 : decode cL_isTravelling 3 = .ok (.iload_n 1, 1) := by decide +kernel
theorem dL_isTravelling_4 : decode cL_isTravelling 4 = .ok (.invokevirtual 76, 3) := by decide +kernel
theorem dL_isTravelling_7 : decode cL_isTravelling 7 = .ok (.ifCond .eq 7, 3) := by decide +kernel
theorem dL_isTravelling_10 : decode cL_isTravelling 10 = .ok (.lconst 1, 1) := by decide +kernel
theorem dL_isTravelling_11 : decode cL_isTravelling 11 = .ok (.goto 4, 3) := by decide +kernel
theorem dL_isTravelling_14 : decode cL_isTravelling 14 = .ok (.lconst 0, 1) := by decide +kernel
theorem dL_isTravelling_15 : decode cL_isTravelling 15 = .ok (.lastore, 1) := by decide +kernel
theorem dL_isTravelling_16 : decode cL_isTravelling 16 = .ok (.goto 6, 3) := by decide +kernel
theorem dL_isTravelling_19 : decode cL_isTravelling 19 = .ok (.astore_n 3, 1) := by decide +kernel
theorem dL_isTravelling_20 : decode cL_isTravelling 20 = .ok (.iconst 1, 1) := by decide +kernel
theorem dL_isTravelling_21 : decode cL_isTravelling 21 = .ok (.ireturn, 1) := by decide +kernel
theorem dL_isTravelling_22 : decode cL_isTravelling 22 = .ok (.iconst 0, 1) := by decide +kernel
theorem dL_isTravelling_23 : decode cL_isTravelling 23 = .ok (.ireturn, 1) := by decide +kernel
set_option maxRecDepth 100000 in
set_option maxHeartbeats 4000000 in
theorem w_L_isTravelling {l : Launch} {g : Nat → Nat} {M : LH} (htr : l.stackTraces = false) {p out : Nat} {b0 : Int32} {fs : List Value} {L2 mc2 ms2 : Nat} {f : Int32 → LH → Prop} {x : String → LH → Prop} (hM : K_X11_isTravelling l g L2 mc2 ms2 [.ref p, .int b0] M (RI f x)) (hp : M p = some (ob 9 fs)) (ho : ∀ r M9, f r M9 → ∃ h, M9 out = some (la 1 h)) (hx : ∀ E M9, x E M9 → E = "java/lang/IndexOutOfBoundsException") : K_L_isTravelling l g (L2 + 1) mc2 ms2 [.ref p, .int b0, .ref out] M (RI (fun k M9 => (k = 0 ∧ ∃ r M8 h, f r M8 ∧ h 0 = (if r = 0 then 0 else 1) ∧ M9 = hup M8 out (la 1 h)) ∨ (∃ E, x E M9 ∧ ((E = "java/lang/IndexOutOfBoundsException" ∧ k = 1)))) nX) := by
  refine Ct.ofH (nL := 4) (by decide +kernel) (Nat.le_of_ble_eq_true rfl) (by simp [Value.category]) htr (fun X => ?_)
  show V l g yL_isTravelling cL_isTravelling ((some .int)) (tableOf [(0, 16, 19, 19)]) (L2 + 1) mc2 ms2 (RI (fun k M9 => (k = 0 ∧ ∃ r M8 h, f r M8 ∧ h 0 = (if r = 0 then 0 else 1) ∧ M9 = hup M8 out (la 1 h)) ∨ (∃ E, x E M9 ∧ ((E = "java/lang/IndexOutOfBoundsException" ∧ k = 1)))) nX) X M 0 0 0 [some (.ref p), some (.int b0), some (.ref out), none] []
  refine v_aload_n dL_isTravelling_0 rfl rfl ?_
  refine v_iconst (v := 0) dL_isTravelling_1 (by decide) ?_
  refine v_aload_n dL_isTravelling_2 rfl rfl ?_
  refine v_iload_n dL_isTravelling_3 rfl rfl ?_
  refine k_L_76 dL_isTravelling_4 rfl hM hp (Nat.le_refl _) (by omega) (by omega) (Nat.le_of_ble_eq_true rfl) (fun r4 M9 h9 => ?_) (fun E M9 h9 => ?_)
  obtain ⟨h0, ho9⟩ := ho _ _ h9
  refine v_if_eq (tgt := 14) dL_isTravelling_7 (by decide) (fun h7 => ?_) (fun h7 => ?_)
  · refine v_lconst (v := 0) dL_isTravelling_14 (by decide) ?_
    refine v_last dL_isTravelling_15 ho9 ?_
    refine v_goto (tgt := 22) dL_isTravelling_16 (by decide) ?_
    refine v_iconst (v := 0) dL_isTravelling_22 (by decide) ?_
    exact v_iret dL_isTravelling_23 rfl (Or.inl ⟨rfl, _, _, _, h9, (by first | exact (if_pos h7).symm | exact (if_neg h7).symm), rfl⟩) (by omega) (by omega)
  · refine v_lconst (v := 1) dL_isTravelling_10 (by decide) ?_
    refine v_goto (tgt := 15) dL_isTravelling_11 (by decide) ?_
    refine v_last dL_isTravelling_15 ho9 ?_
    refine v_goto (tgt := 22) dL_isTravelling_16 (by decide) ?_
    refine v_iconst (v := 0) dL_isTravelling_22 (by decide) ?_
    exact v_iret dL_isTravelling_23 rfl (Or.inl ⟨rfl, _, _, _, h9, (by first | exact (if_pos h7).symm | exact (if_neg h7).symm), rfl⟩) (by omega) (by omega)
  obtain rfl := hx E M9 h9
  refine VX.catch (own := "SledgePostLaw") (name := "java/lang/IndexOutOfBoundsException") (pre := []) (suf := []) (x := ⟨0, 16, 19, 19⟩) rfl rfl (fun z hz => nomatch hz) (by decide) (by decide) (Ut_of (mt_4 37 rfl) rfl) (mt_3 125 rfl) (fun q9 => ?_)
  refine v_astore_3 dL_isTravelling_19 ?_
  refine v_iconst (v := 1) dL_isTravelling_20 (by decide) ?_
  exact v_iret dL_isTravelling_21 rfl (Or.inr ⟨_, h9, ⟨rfl, rfl⟩⟩) (by omega) (by omega)
abbrev K_L_stationOfSledge (l : Launch) (g : Nat → Nat) (L mc ms : Nat) (av : List Value) (M : LH) (Po : Res → LH → Prop) : Prop := Ct l g yL_stationOfSledge (.codeWith yL_stationOfSledge cL_stationOfSledge 4 (some .int) [(0, 9, 12, 19)]) L mc ms av M Po
theorem ck_L_stationOfSledge : cOk yL_stationOfSledge 3 := ⟨by decide +kernel, by decide +kernel, by decide +kernel⟩
theorem dL_stationOfSledge_0 : decode cL_stationOfSledge 0 = .ok (.aload_n 2, 1) := by decide +kernel
theorem dL_stationOfSledge_1 : decode cL_stationOfSledge 1 = .ok (.iconst 0, 1) := by decide +kernel
theorem dL_stationOfSledge_2 : decode cL_stationOfSledge 2 = .ok (.aload_n 0, 1) := by decide +kernel
theorem dL_stationOfSledge_3 : decode cL_stationOfSledge 3 = .ok (.iload_n 1, 1) := by decide +kernel
theorem dL_stationOfSledge_4 : decode cL_stationOfSledge 4 = .ok (.invokevirtual 80, 3) := by decide +kernel
theorem dL_stationOfSledge_7 : decode cL_stationOfSledge 7 = .ok (.i2l, 1) := by decide +kernel
theorem dL_stationOfSledge_8 : decode cL_stationOfSledge 8 = .ok (.lastore, 1) := by decide +kernel
theorem dL_stationOfSledge_9 : decode cL_stationOfSledge 9 = .ok (.goto 6, 3) := by decide +kernel
theorem dL_stationOfSledge_12 : decode cL_stationOfSledge 12 = .ok (.astore_n 3, 1) := by decide +kernel
theorem dL_stationOfSledge_13 : decode cL_stationOfSledge 13 = .ok (.iconst 1, 1) := by decide +kernel
theorem dL_stationOfSledge_14 : decode cL_stationOfSledge 14 = .ok (.ireturn, 1) := by decide +kernel
theorem dL_stationOfSledge_15 : decode cL_stationOfSledge 15 = .ok (.iconst 0, 1) := by decide +kernel
theorem dL_stationOfSledge_16 : decode cL_stationOfSledge 16 = .ok (.ireturn, 1) := by decide +kernel
set_option maxRecDepth 100000 in
set_option maxHeartbeats 4000000 in
theorem w_L_stationOfSledge {l : Launch} {g : Nat → Nat} {M : LH} (htr : l.stackTraces = false) {p out : Nat} {b0 : Int32} {fs : List Value} {L2 mc2 ms2 : Nat} {f : Int32 → LH → Prop} {x : String → LH → Prop} (hM : K_X11_stationOfSledge l g L2 mc2 ms2 [.ref p, .int b0] M (RI f x)) (hp : M p = some (ob 9 fs)) (ho : ∀ r M9, f r M9 → ∃ h, M9 out = some (la 1 h)) (hx : ∀ E M9, x E M9 → E = "java/lang/IndexOutOfBoundsException") : K_L_stationOfSledge l g (L2 + 1) mc2 ms2 [.ref p, .int b0, .ref out] M (RI (fun k M9 => (k = 0 ∧ ∃ r M8 h, f r M8 ∧ h 0 = r.toInt64 ∧ M9 = hup M8 out (la 1 h)) ∨ (∃ E, x E M9 ∧ ((E = "java/lang/IndexOutOfBoundsException" ∧ k = 1)))) nX) := by
  refine Ct.ofH (nL := 4) (by decide +kernel) (Nat.le_of_ble_eq_true rfl) (by simp [Value.category]) htr (fun X => ?_)
  show V l g yL_stationOfSledge cL_stationOfSledge ((some .int)) (tableOf [(0, 9, 12, 19)]) (L2 + 1) mc2 ms2 (RI (fun k M9 => (k = 0 ∧ ∃ r M8 h, f r M8 ∧ h 0 = r.toInt64 ∧ M9 = hup M8 out (la 1 h)) ∨ (∃ E, x E M9 ∧ ((E = "java/lang/IndexOutOfBoundsException" ∧ k = 1)))) nX) X M 0 0 0 [some (.ref p), some (.int b0), some (.ref out), none] []
  refine v_aload_n dL_stationOfSledge_0 rfl rfl ?_
  refine v_iconst (v := 0) dL_stationOfSledge_1 (by decide) ?_
  refine v_aload_n dL_stationOfSledge_2 rfl rfl ?_
  refine v_iload_n dL_stationOfSledge_3 rfl rfl ?_
  refine k_L_80 dL_stationOfSledge_4 rfl hM hp (Nat.le_refl _) (by omega) (by omega) (Nat.le_of_ble_eq_true rfl) (fun r4 M9 h9 => ?_) (fun E M9 h9 => ?_)
  obtain ⟨h0, ho9⟩ := ho _ _ h9
  refine v_i2l dL_stationOfSledge_7 ?_
  refine v_last dL_stationOfSledge_8 ho9 ?_
  refine v_goto (tgt := 15) dL_stationOfSledge_9 (by decide) ?_
  refine v_iconst (v := 0) dL_stationOfSledge_15 (by decide) ?_
  exact v_iret dL_stationOfSledge_16 rfl (Or.inl ⟨rfl, _, _, _, h9, rfl, rfl⟩) (by omega) (by omega)
  obtain rfl := hx E M9 h9
  refine VX.catch (own := "SledgePostLaw") (name := "java/lang/IndexOutOfBoundsException") (pre := []) (suf := []) (x := ⟨0, 9, 12, 19⟩) rfl rfl (fun z hz => nomatch hz) (by decide) (by decide) (Ut_of (mt_4 37 rfl) rfl) (mt_3 125 rfl) (fun q9 => ?_)
  refine v_astore_3 dL_stationOfSledge_12 ?_
  refine v_iconst (v := 1) dL_stationOfSledge_13 (by decide) ?_
  exact v_iret dL_stationOfSledge_14 rfl (Or.inr ⟨_, h9, ⟨rfl, rfl⟩⟩) (by omega) (by omega)
abbrev K_L_hoursLeft (l : Launch) (g : Nat → Nat) (L mc ms : Nat) (av : List Value) (M : LH) (Po : Res → LH → Prop) : Prop := Ct l g yL_hoursLeft (.codeWith yL_hoursLeft cL_hoursLeft 4 (some .int) [(0, 9, 12, 19)]) L mc ms av M Po
theorem ck_L_hoursLeft : cOk yL_hoursLeft 3 := ⟨by decide +kernel, by decide +kernel, by decide +kernel⟩
theorem dL_hoursLeft_0 : decode cL_hoursLeft 0 = .ok (.aload_n 2, 1) := by decide +kernel
theorem dL_hoursLeft_1 : decode cL_hoursLeft 1 = .ok (.iconst 0, 1) := by decide +kernel
theorem dL_hoursLeft_2 : decode cL_hoursLeft 2 = .ok (.aload_n 0, 1) := by decide +kernel
theorem dL_hoursLeft_3 : decode cL_hoursLeft 3 = .ok (.iload_n 1, 1) := by decide +kernel
theorem dL_hoursLeft_4 : decode cL_hoursLeft 4 = .ok (.invokevirtual 83, 3) := by decide +kernel
theorem dL_hoursLeft_7 : decode cL_hoursLeft 7 = .ok (.i2l, 1) := by decide +kernel
theorem dL_hoursLeft_8 : decode cL_hoursLeft 8 = .ok (.lastore, 1) := by decide +kernel
theorem dL_hoursLeft_9 : decode cL_hoursLeft 9 = .ok (.goto 6, 3) := by decide +kernel
theorem dL_hoursLeft_12 : decode cL_hoursLeft 12 = .ok (.astore_n 3, 1) := by decide +kernel
theorem dL_hoursLeft_13 : decode cL_hoursLeft 13 = .ok (.iconst 1, 1) := by decide +kernel
theorem dL_hoursLeft_14 : decode cL_hoursLeft 14 = .ok (.ireturn, 1) := by decide +kernel
theorem dL_hoursLeft_15 : decode cL_hoursLeft 15 = .ok (.iconst 0, 1) := by decide +kernel
theorem dL_hoursLeft_16 : decode cL_hoursLeft 16 = .ok (.ireturn, 1) := by decide +kernel
set_option maxRecDepth 100000 in
set_option maxHeartbeats 4000000 in
theorem w_L_hoursLeft {l : Launch} {g : Nat → Nat} {M : LH} (htr : l.stackTraces = false) {p out : Nat} {b0 : Int32} {fs : List Value} {L2 mc2 ms2 : Nat} {f : Int32 → LH → Prop} {x : String → LH → Prop} (hM : K_X11_hoursLeft l g L2 mc2 ms2 [.ref p, .int b0] M (RI f x)) (hp : M p = some (ob 9 fs)) (ho : ∀ r M9, f r M9 → ∃ h, M9 out = some (la 1 h)) (hx : ∀ E M9, x E M9 → E = "java/lang/IndexOutOfBoundsException") : K_L_hoursLeft l g (L2 + 1) mc2 ms2 [.ref p, .int b0, .ref out] M (RI (fun k M9 => (k = 0 ∧ ∃ r M8 h, f r M8 ∧ h 0 = r.toInt64 ∧ M9 = hup M8 out (la 1 h)) ∨ (∃ E, x E M9 ∧ ((E = "java/lang/IndexOutOfBoundsException" ∧ k = 1)))) nX) := by
  refine Ct.ofH (nL := 4) (by decide +kernel) (Nat.le_of_ble_eq_true rfl) (by simp [Value.category]) htr (fun X => ?_)
  show V l g yL_hoursLeft cL_hoursLeft ((some .int)) (tableOf [(0, 9, 12, 19)]) (L2 + 1) mc2 ms2 (RI (fun k M9 => (k = 0 ∧ ∃ r M8 h, f r M8 ∧ h 0 = r.toInt64 ∧ M9 = hup M8 out (la 1 h)) ∨ (∃ E, x E M9 ∧ ((E = "java/lang/IndexOutOfBoundsException" ∧ k = 1)))) nX) X M 0 0 0 [some (.ref p), some (.int b0), some (.ref out), none] []
  refine v_aload_n dL_hoursLeft_0 rfl rfl ?_
  refine v_iconst (v := 0) dL_hoursLeft_1 (by decide) ?_
  refine v_aload_n dL_hoursLeft_2 rfl rfl ?_
  refine v_iload_n dL_hoursLeft_3 rfl rfl ?_
  refine k_L_83 dL_hoursLeft_4 rfl hM hp (Nat.le_refl _) (by omega) (by omega) (Nat.le_of_ble_eq_true rfl) (fun r4 M9 h9 => ?_) (fun E M9 h9 => ?_)
  obtain ⟨h0, ho9⟩ := ho _ _ h9
  refine v_i2l dL_hoursLeft_7 ?_
  refine v_last dL_hoursLeft_8 ho9 ?_
  refine v_goto (tgt := 15) dL_hoursLeft_9 (by decide) ?_
  refine v_iconst (v := 0) dL_hoursLeft_15 (by decide) ?_
  exact v_iret dL_hoursLeft_16 rfl (Or.inl ⟨rfl, _, _, _, h9, rfl, rfl⟩) (by omega) (by omega)
  obtain rfl := hx E M9 h9
  refine VX.catch (own := "SledgePostLaw") (name := "java/lang/IndexOutOfBoundsException") (pre := []) (suf := []) (x := ⟨0, 9, 12, 19⟩) rfl rfl (fun z hz => nomatch hz) (by decide) (by decide) (Ut_of (mt_4 37 rfl) rfl) (mt_3 125 rfl) (fun q9 => ?_)
  refine v_astore_3 dL_hoursLeft_12 ?_
  refine v_iconst (v := 1) dL_hoursLeft_13 (by decide) ?_
  exact v_iret dL_hoursLeft_14 rfl (Or.inr ⟨_, h9, ⟨rfl, rfl⟩⟩) (by omega) (by omega)
abbrev K_L_lettersOn (l : Launch) (g : Nat → Nat) (L mc ms : Nat) (av : List Value) (M : LH) (Po : Res → LH → Prop) : Prop := Ct l g yL_lettersOn (.codeWith yL_lettersOn cL_lettersOn 4 (some .int) [(0, 9, 12, 19)]) L mc ms av M Po
theorem ck_L_lettersOn : cOk yL_lettersOn 3 := ⟨by decide +kernel, by decide +kernel, by decide +kernel⟩
theorem dL_lettersOn_0 : decode cL_lettersOn 0 = .ok (.aload_n 2, 1) := by decide +kernel
theorem dL_lettersOn_1 : decode cL_lettersOn 1 = .ok (.iconst 0, 1) := by decide +kernel
theorem dL_lettersOn_2 : decode cL_lettersOn 2 = .ok (.aload_n 0, 1) := by decide +kernel
theorem dL_lettersOn_3 : decode cL_lettersOn 3 = .ok (.iload_n 1, 1) := by decide +kernel
theorem dL_lettersOn_4 : decode cL_lettersOn 4 = .ok (.invokevirtual 86, 3) := by decide +kernel
theorem dL_lettersOn_7 : decode cL_lettersOn 7 = .ok (.i2l, 1) := by decide +kernel
theorem dL_lettersOn_8 : decode cL_lettersOn 8 = .ok (.lastore, 1) := by decide +kernel
theorem dL_lettersOn_9 : decode cL_lettersOn 9 = .ok (.goto 6, 3) := by decide +kernel
theorem dL_lettersOn_12 : decode cL_lettersOn 12 = .ok (.astore_n 3, 1) := by decide +kernel
theorem dL_lettersOn_13 : decode cL_lettersOn 13 = .ok (.iconst 1, 1) := by decide +kernel
theorem dL_lettersOn_14 : decode cL_lettersOn 14 = .ok (.ireturn, 1) := by decide +kernel
theorem dL_lettersOn_15 : decode cL_lettersOn 15 = .ok (.iconst 0, 1) := by decide +kernel
theorem dL_lettersOn_16 : decode cL_lettersOn 16 = .ok (.ireturn, 1) := by decide +kernel
set_option maxRecDepth 100000 in
set_option maxHeartbeats 4000000 in
theorem w_L_lettersOn {l : Launch} {g : Nat → Nat} {M : LH} (htr : l.stackTraces = false) {p out : Nat} {b0 : Int32} {fs : List Value} {L2 mc2 ms2 : Nat} {f : Int32 → LH → Prop} {x : String → LH → Prop} (hM : K_X11_lettersOn l g L2 mc2 ms2 [.ref p, .int b0] M (RI f x)) (hp : M p = some (ob 9 fs)) (ho : ∀ r M9, f r M9 → ∃ h, M9 out = some (la 1 h)) (hx : ∀ E M9, x E M9 → E = "java/lang/IndexOutOfBoundsException") : K_L_lettersOn l g (L2 + 1) mc2 ms2 [.ref p, .int b0, .ref out] M (RI (fun k M9 => (k = 0 ∧ ∃ r M8 h, f r M8 ∧ h 0 = r.toInt64 ∧ M9 = hup M8 out (la 1 h)) ∨ (∃ E, x E M9 ∧ ((E = "java/lang/IndexOutOfBoundsException" ∧ k = 1)))) nX) := by
  refine Ct.ofH (nL := 4) (by decide +kernel) (Nat.le_of_ble_eq_true rfl) (by simp [Value.category]) htr (fun X => ?_)
  show V l g yL_lettersOn cL_lettersOn ((some .int)) (tableOf [(0, 9, 12, 19)]) (L2 + 1) mc2 ms2 (RI (fun k M9 => (k = 0 ∧ ∃ r M8 h, f r M8 ∧ h 0 = r.toInt64 ∧ M9 = hup M8 out (la 1 h)) ∨ (∃ E, x E M9 ∧ ((E = "java/lang/IndexOutOfBoundsException" ∧ k = 1)))) nX) X M 0 0 0 [some (.ref p), some (.int b0), some (.ref out), none] []
  refine v_aload_n dL_lettersOn_0 rfl rfl ?_
  refine v_iconst (v := 0) dL_lettersOn_1 (by decide) ?_
  refine v_aload_n dL_lettersOn_2 rfl rfl ?_
  refine v_iload_n dL_lettersOn_3 rfl rfl ?_
  refine k_L_86 dL_lettersOn_4 rfl hM hp (Nat.le_refl _) (by omega) (by omega) (Nat.le_of_ble_eq_true rfl) (fun r4 M9 h9 => ?_) (fun E M9 h9 => ?_)
  obtain ⟨h0, ho9⟩ := ho _ _ h9
  refine v_i2l dL_lettersOn_7 ?_
  refine v_last dL_lettersOn_8 ho9 ?_
  refine v_goto (tgt := 15) dL_lettersOn_9 (by decide) ?_
  refine v_iconst (v := 0) dL_lettersOn_15 (by decide) ?_
  exact v_iret dL_lettersOn_16 rfl (Or.inl ⟨rfl, _, _, _, h9, rfl, rfl⟩) (by omega) (by omega)
  obtain rfl := hx E M9 h9
  refine VX.catch (own := "SledgePostLaw") (name := "java/lang/IndexOutOfBoundsException") (pre := []) (suf := []) (x := ⟨0, 9, 12, 19⟩) rfl rfl (fun z hz => nomatch hz) (by decide) (by decide) (Ut_of (mt_4 37 rfl) rfl) (mt_3 125 rfl) (fun q9 => ?_)
  refine v_astore_3 dL_lettersOn_12 ?_
  refine v_iconst (v := 1) dL_lettersOn_13 (by decide) ?_
  exact v_iret dL_lettersOn_14 rfl (Or.inr ⟨_, h9, ⟨rfl, rfl⟩⟩) (by omega) (by omega)
abbrev K_L_letterOn (l : Launch) (g : Nat → Nat) (L mc ms : Nat) (av : List Value) (M : LH) (Po : Res → LH → Prop) : Prop := Ct l g yL_letterOn (.codeWith yL_letterOn cL_letterOn 5 (some .int) [(0, 10, 13, 19), (0, 10, 17, 34)]) L mc ms av M Po
theorem ck_L_letterOn : cOk yL_letterOn 4 := ⟨by decide +kernel, by decide +kernel, by decide +kernel⟩
theorem dL_letterOn_0 : decode cL_letterOn 0 = .ok (.aload_n 3, 1) := by decide +kernel
theorem dL_letterOn_1 : decode cL_letterOn 1 = .ok (.iconst 0, 1) := by decide +kernel
theorem dL_letterOn_2 : decode cL_letterOn 2 = .ok (.aload_n 0, 1) := by decide +kernel
theorem dL_letterOn_3 : decode cL_letterOn 3 = .ok (.iload_n 1, 1) := by decide +kernel
theorem dL_letterOn_4 : decode cL_letterOn 4 = .ok (.iload_n 2, 1) := by decide +kernel
theorem dL_letterOn_5 : decode cL_letterOn 5 = .ok (.invokevirtual 89, 3) := by decide +kernel
theorem dL_letterOn_8 : decode cL_letterOn 8 = .ok (.i2l, 1) := by decide +kernel
theorem dL_letterOn_9 : decode cL_letterOn 9 = .ok (.lastore, 1) := by decide +kernel
theorem dL_letterOn_10 : decode cL_letterOn 10 = .ok (.goto 11, 3) := by decide +kernel
theorem dL_letterOn_13 : decode cL_letterOn 13 = .ok (.astore 4, 2) := by decide +kernel
theorem dL_letterOn_15 : decode cL_letterOn 15 = .ok (.iconst 1, 1) := by decide +kernel
theorem dL_letterOn_16 : decode cL_letterOn 16 = .ok (.ireturn, 1) := by decide +kernel
theorem dL_letterOn_17 : decode cL_letterOn 17 = .ok (.astore 4, 2) := by decide +kernel
theorem dL_letterOn_19 : decode cL_letterOn 19 = .ok (.iconst 2, 1) := by decide +kernel
theorem dL_letterOn_20 : decode cL_letterOn 20 = .ok (.ireturn, 1) := by decide +kernel
theorem dL_letterOn_21 : decode cL_letterOn 21 = .ok (.iconst 0, 1) := by decide +kernel
theorem dL_letterOn_22 : decode cL_letterOn 22 = .ok (.ireturn, 1) := by decide +kernel
set_option maxRecDepth 100000 in
set_option maxHeartbeats 4000000 in
theorem w_L_letterOn {l : Launch} {g : Nat → Nat} {M : LH} (htr : l.stackTraces = false) {p out : Nat} {b0 : Int32} {b1 : Int32} {fs : List Value} {L2 mc2 ms2 : Nat} {f : Int32 → LH → Prop} {x : String → LH → Prop} (hM : K_X11_letterOn l g L2 mc2 ms2 [.ref p, .int b0, .int b1] M (RI f x)) (hp : M p = some (ob 9 fs)) (ho : ∀ r M9, f r M9 → ∃ h, M9 out = some (la 1 h)) (hx : ∀ E M9, x E M9 → E = "java/lang/IndexOutOfBoundsException" ∨ E = "java/util/NoSuchElementException") : K_L_letterOn l g (L2 + 1) mc2 ms2 [.ref p, .int b0, .int b1, .ref out] M (RI (fun k M9 => (k = 0 ∧ ∃ r M8 h, f r M8 ∧ h 0 = r.toInt64 ∧ M9 = hup M8 out (la 1 h)) ∨ (∃ E, x E M9 ∧ ((E = "java/lang/IndexOutOfBoundsException" ∧ k = 1) ∨ (E = "java/util/NoSuchElementException" ∧ k = 2)))) nX) := by
  refine Ct.ofH (nL := 5) (by decide +kernel) (Nat.le_of_ble_eq_true rfl) (by simp [Value.category]) htr (fun X => ?_)
  show V l g yL_letterOn cL_letterOn ((some .int)) (tableOf [(0, 10, 13, 19), (0, 10, 17, 34)]) (L2 + 1) mc2 ms2 (RI (fun k M9 => (k = 0 ∧ ∃ r M8 h, f r M8 ∧ h 0 = r.toInt64 ∧ M9 = hup M8 out (la 1 h)) ∨ (∃ E, x E M9 ∧ ((E = "java/lang/IndexOutOfBoundsException" ∧ k = 1) ∨ (E = "java/util/NoSuchElementException" ∧ k = 2)))) nX) X M 0 0 0 [some (.ref p), some (.int b0), some (.int b1), some (.ref out), none] []
  refine v_aload_n dL_letterOn_0 rfl rfl ?_
  refine v_iconst (v := 0) dL_letterOn_1 (by decide) ?_
  refine v_aload_n dL_letterOn_2 rfl rfl ?_
  refine v_iload_n dL_letterOn_3 rfl rfl ?_
  refine v_iload_n dL_letterOn_4 rfl rfl ?_
  refine k_L_89 dL_letterOn_5 rfl hM hp (Nat.le_refl _) (by omega) (by omega) (Nat.le_of_ble_eq_true rfl) (fun r5 M9 h9 => ?_) (fun E M9 h9 => ?_)
  obtain ⟨h0, ho9⟩ := ho _ _ h9
  refine v_i2l dL_letterOn_8 ?_
  refine v_last dL_letterOn_9 ho9 ?_
  refine v_goto (tgt := 21) dL_letterOn_10 (by decide) ?_
  refine v_iconst (v := 0) dL_letterOn_21 (by decide) ?_
  exact v_iret dL_letterOn_22 rfl (Or.inl ⟨rfl, _, _, _, h9, rfl, rfl⟩) (by omega) (by omega)
  rcases hx E M9 h9 with rfl | rfl
  · refine VX.catch (own := "SledgePostLaw") (name := "java/lang/IndexOutOfBoundsException") (pre := []) (suf := [⟨0, 10, 17, 34⟩]) (x := ⟨0, 10, 13, 19⟩) rfl rfl (fun z hz => nomatch hz) (by decide) (by decide) (Ut_of (mt_4 37 rfl) rfl) (mt_3 125 rfl) (fun q9 => ?_)
    refine v_astore_4 dL_letterOn_13 ?_
    refine v_iconst (v := 1) dL_letterOn_15 (by decide) ?_
    exact v_iret dL_letterOn_16 rfl (Or.inr ⟨_, h9, Or.inl ⟨rfl, rfl⟩⟩) (by omega) (by omega)
  · refine VX.catch (own := "SledgePostLaw") (name := "java/util/NoSuchElementException") (pre := [⟨0, 10, 13, 19⟩]) (suf := []) (x := ⟨0, 10, 17, 34⟩) rfl rfl (List.forall_mem_cons.mpr ⟨⟨by decide, "java/lang/IndexOutOfBoundsException", (Ut_of (mt_4 37 rfl) rfl), by decide +kernel⟩, fun z hz => nomatch hz⟩) (by decide) (by decide) (Ut_of (mt_4 111 rfl) rfl) (mt_3 217 rfl) (fun q9 => ?_)
    refine v_astore_4 dL_letterOn_17 ?_
    refine v_iconst (v := 2) dL_letterOn_19 (by decide) ?_
    exact v_iret dL_letterOn_20 rfl (Or.inr ⟨_, h9, Or.inr (⟨rfl, rfl⟩)⟩) (by omega) (by omega)
abbrev K_L_bestLoadFee (l : Launch) (g : Nat → Nat) (L mc ms : Nat) (av : List Value) (M : LH) (Po : Res → LH → Prop) : Prop := Ct l g yL_bestLoadFee (.codeWith yL_bestLoadFee cL_bestLoadFee 4 (some .int) [(0, 9, 12, 19), (0, 9, 15, 13)]) L mc ms av M Po
theorem ck_L_bestLoadFee : cOk yL_bestLoadFee 3 := ⟨by decide +kernel, by decide +kernel, by decide +kernel⟩
theorem dL_bestLoadFee_0 : decode cL_bestLoadFee 0 = .ok (.aload_n 2, 1) := by decide +kernel
theorem dL_bestLoadFee_1 : decode cL_bestLoadFee 1 = .ok (.iconst 0, 1) := by decide +kernel
theorem dL_bestLoadFee_2 : decode cL_bestLoadFee 2 = .ok (.aload_n 0, 1) := by decide +kernel
theorem dL_bestLoadFee_3 : decode cL_bestLoadFee 3 = .ok (.iload_n 1, 1) := by decide +kernel
theorem dL_bestLoadFee_4 : decode cL_bestLoadFee 4 = .ok (.invokevirtual 92, 3) := by decide +kernel
theorem dL_bestLoadFee_7 : decode cL_bestLoadFee 7 = .ok (.i2l, 1) := by decide +kernel
theorem dL_bestLoadFee_8 : decode cL_bestLoadFee 8 = .ok (.lastore, 1) := by decide +kernel
theorem dL_bestLoadFee_9 : decode cL_bestLoadFee 9 = .ok (.goto 9, 3) := by decide +kernel
theorem dL_bestLoadFee_12 : decode cL_bestLoadFee 12 = .ok (.astore_n 3, 1) := by decide +kernel
theorem dL_bestLoadFee_13 : decode cL_bestLoadFee 13 = .ok (.iconst 1, 1) := by decide +kernel
theorem dL_bestLoadFee_14 : decode cL_bestLoadFee 14 = .ok (.ireturn, 1) := by decide +kernel
theorem dL_bestLoadFee_15 : decode cL_bestLoadFee 15 = .ok (.astore_n 3, 1) := by decide +kernel
theorem dL_bestLoadFee_16 : decode cL_bestLoadFee 16 = .ok (.iconst 2, 1) := by decide +kernel
theorem dL_bestLoadFee_17 : decode cL_bestLoadFee 17 = .ok (.ireturn, 1) := by decide +kernel
theorem dL_bestLoadFee_18 : decode cL_bestLoadFee 18 = .ok (.iconst 0, 1) := by decide +kernel
theorem dL_bestLoadFee_19 : decode cL_bestLoadFee 19 = .ok (.ireturn, 1) := by decide +kernel
set_option maxRecDepth 100000 in
set_option maxHeartbeats 4000000 in
theorem w_L_bestLoadFee {l : Launch} {g : Nat → Nat} {M : LH} (htr : l.stackTraces = false) {p out : Nat} {b0 : Int32} {fs : List Value} {L2 mc2 ms2 : Nat} {f : Int32 → LH → Prop} {x : String → LH → Prop} (hM : K_X11_bestLoadFee l g L2 mc2 ms2 [.ref p, .int b0] M (RI f x)) (hp : M p = some (ob 9 fs)) (ho : ∀ r M9, f r M9 → ∃ h, M9 out = some (la 1 h)) (hx : ∀ E M9, x E M9 → E = "java/lang/IndexOutOfBoundsException" ∨ E = "java/lang/IllegalStateException") : K_L_bestLoadFee l g (L2 + 1) mc2 ms2 [.ref p, .int b0, .ref out] M (RI (fun k M9 => (k = 0 ∧ ∃ r M8 h, f r M8 ∧ h 0 = r.toInt64 ∧ M9 = hup M8 out (la 1 h)) ∨ (∃ E, x E M9 ∧ ((E = "java/lang/IndexOutOfBoundsException" ∧ k = 1) ∨ (E = "java/lang/IllegalStateException" ∧ k = 2)))) nX) := by
  refine Ct.ofH (nL := 4) (by decide +kernel) (Nat.le_of_ble_eq_true rfl) (by simp [Value.category]) htr (fun X => ?_)
  show V l g yL_bestLoadFee cL_bestLoadFee ((some .int)) (tableOf [(0, 9, 12, 19), (0, 9, 15, 13)]) (L2 + 1) mc2 ms2 (RI (fun k M9 => (k = 0 ∧ ∃ r M8 h, f r M8 ∧ h 0 = r.toInt64 ∧ M9 = hup M8 out (la 1 h)) ∨ (∃ E, x E M9 ∧ ((E = "java/lang/IndexOutOfBoundsException" ∧ k = 1) ∨ (E = "java/lang/IllegalStateException" ∧ k = 2)))) nX) X M 0 0 0 [some (.ref p), some (.int b0), some (.ref out), none] []
  refine v_aload_n dL_bestLoadFee_0 rfl rfl ?_
  refine v_iconst (v := 0) dL_bestLoadFee_1 (by decide) ?_
  refine v_aload_n dL_bestLoadFee_2 rfl rfl ?_
  refine v_iload_n dL_bestLoadFee_3 rfl rfl ?_
  refine k_L_92 dL_bestLoadFee_4 rfl hM hp (Nat.le_refl _) (by omega) (by omega) (Nat.le_of_ble_eq_true rfl) (fun r4 M9 h9 => ?_) (fun E M9 h9 => ?_)
  obtain ⟨h0, ho9⟩ := ho _ _ h9
  refine v_i2l dL_bestLoadFee_7 ?_
  refine v_last dL_bestLoadFee_8 ho9 ?_
  refine v_goto (tgt := 18) dL_bestLoadFee_9 (by decide) ?_
  refine v_iconst (v := 0) dL_bestLoadFee_18 (by decide) ?_
  exact v_iret dL_bestLoadFee_19 rfl (Or.inl ⟨rfl, _, _, _, h9, rfl, rfl⟩) (by omega) (by omega)
  rcases hx E M9 h9 with rfl | rfl
  · refine VX.catch (own := "SledgePostLaw") (name := "java/lang/IndexOutOfBoundsException") (pre := []) (suf := [⟨0, 9, 15, 13⟩]) (x := ⟨0, 9, 12, 19⟩) rfl rfl (fun z hz => nomatch hz) (by decide) (by decide) (Ut_of (mt_4 37 rfl) rfl) (mt_3 125 rfl) (fun q9 => ?_)
    refine v_astore_3 dL_bestLoadFee_12 ?_
    refine v_iconst (v := 1) dL_bestLoadFee_13 (by decide) ?_
    exact v_iret dL_bestLoadFee_14 rfl (Or.inr ⟨_, h9, Or.inl ⟨rfl, rfl⟩⟩) (by omega) (by omega)
  · refine VX.catch (own := "SledgePostLaw") (name := "java/lang/IllegalStateException") (pre := [⟨0, 9, 12, 19⟩]) (suf := []) (x := ⟨0, 9, 15, 13⟩) rfl rfl (List.forall_mem_cons.mpr ⟨⟨by decide, "java/lang/IndexOutOfBoundsException", (Ut_of (mt_4 37 rfl) rfl), by decide +kernel⟩, fun z hz => nomatch hz⟩) (by decide) (by decide) (Ut_of (mt_3 105 rfl) rfl) (mt_3 234 rfl) (fun q9 => ?_)
    refine v_astore_3 dL_bestLoadFee_15 ?_
    refine v_iconst (v := 2) dL_bestLoadFee_16 (by decide) ?_
    exact v_iret dL_bestLoadFee_17 rfl (Or.inr ⟨_, h9, Or.inr (⟨rfl, rfl⟩)⟩) (by omega) (by omega)
abbrev K_L_bestLoadFeeByTrying (l : Launch) (g : Nat → Nat) (L mc ms : Nat) (av : List Value) (M : LH) (Po : Res → LH → Prop) : Prop := Ct l g yL_bestLoadFeeByTrying (.codeWith yL_bestLoadFeeByTrying cL_bestLoadFeeByTrying 4 (some .int) [(0, 9, 12, 19), (0, 9, 15, 13)]) L mc ms av M Po
theorem ck_L_bestLoadFeeByTrying : cOk yL_bestLoadFeeByTrying 3 := ⟨by decide +kernel, by decide +kernel, by decide +kernel⟩
theorem dL_bestLoadFeeByTrying_0 : decode cL_bestLoadFeeByTrying 0 = .ok (.aload_n 2, 1) := by decide +kernel
theorem dL_bestLoadFeeByTrying_1 : decode cL_bestLoadFeeByTrying 1 = .ok (.iconst 0, 1) := by decide +kernel
theorem dL_bestLoadFeeByTrying_2 : decode cL_bestLoadFeeByTrying 2 = .ok (.aload_n 0, 1) := by decide +kernel
theorem dL_bestLoadFeeByTrying_3 : decode cL_bestLoadFeeByTrying 3 = .ok (.iload_n 1, 1) := by decide +kernel
theorem dL_bestLoadFeeByTrying_4 : decode cL_bestLoadFeeByTrying 4 = .ok (.invokevirtual 95, 3) := by decide +kernel
theorem dL_bestLoadFeeByTrying_7 : decode cL_bestLoadFeeByTrying 7 = .ok (.i2l, 1) := by decide +kernel
theorem dL_bestLoadFeeByTrying_8 : decode cL_bestLoadFeeByTrying 8 = .ok (.lastore, 1) := by decide +kernel
theorem dL_bestLoadFeeByTrying_9 : decode cL_bestLoadFeeByTrying 9 = .ok (.goto 9, 3) := by decide +kernel
theorem dL_bestLoadFeeByTrying_12 : decode cL_bestLoadFeeByTrying 12 = .ok (.astore_n 3, 1) := by decide +kernel
theorem dL_bestLoadFeeByTrying_13 : decode cL_bestLoadFeeByTrying 13 = .ok (.iconst 1, 1) := by decide +kernel
theorem dL_bestLoadFeeByTrying_14 : decode cL_bestLoadFeeByTrying 14 = .ok (.ireturn, 1) := by decide +kernel
theorem dL_bestLoadFeeByTrying_15 : decode cL_bestLoadFeeByTrying 15 = .ok (.astore_n 3, 1) := by decide +kernel
theorem dL_bestLoadFeeByTrying_16 : decode cL_bestLoadFeeByTrying 16 = .ok (.iconst 2, 1) := by decide +kernel
theorem dL_bestLoadFeeByTrying_17 : decode cL_bestLoadFeeByTrying 17 = .ok (.ireturn, 1) := by decide +kernel
theorem dL_bestLoadFeeByTrying_18 : decode cL_bestLoadFeeByTrying 18 = .ok (.iconst 0, 1) := by decide +kernel
theorem dL_bestLoadFeeByTrying_19 : decode cL_bestLoadFeeByTrying 19 = .ok (.ireturn, 1) := by decide +kernel
set_option maxRecDepth 100000 in
set_option maxHeartbeats 4000000 in
theorem w_L_bestLoadFeeByTrying {l : Launch} {g : Nat → Nat} {M : LH} (htr : l.stackTraces = false) {p out : Nat} {b0 : Int32} {fs : List Value} {L2 mc2 ms2 : Nat} {f : Int32 → LH → Prop} {x : String → LH → Prop} (hM : K_X11_bestLoadFeeByTrying l g L2 mc2 ms2 [.ref p, .int b0] M (RI f x)) (hp : M p = some (ob 9 fs)) (ho : ∀ r M9, f r M9 → ∃ h, M9 out = some (la 1 h)) (hx : ∀ E M9, x E M9 → E = "java/lang/IndexOutOfBoundsException" ∨ E = "java/lang/IllegalStateException") : K_L_bestLoadFeeByTrying l g (L2 + 1) mc2 ms2 [.ref p, .int b0, .ref out] M (RI (fun k M9 => (k = 0 ∧ ∃ r M8 h, f r M8 ∧ h 0 = r.toInt64 ∧ M9 = hup M8 out (la 1 h)) ∨ (∃ E, x E M9 ∧ ((E = "java/lang/IndexOutOfBoundsException" ∧ k = 1) ∨ (E = "java/lang/IllegalStateException" ∧ k = 2)))) nX) := by
  refine Ct.ofH (nL := 4) (by decide +kernel) (Nat.le_of_ble_eq_true rfl) (by simp [Value.category]) htr (fun X => ?_)
  show V l g yL_bestLoadFeeByTrying cL_bestLoadFeeByTrying ((some .int)) (tableOf [(0, 9, 12, 19), (0, 9, 15, 13)]) (L2 + 1) mc2 ms2 (RI (fun k M9 => (k = 0 ∧ ∃ r M8 h, f r M8 ∧ h 0 = r.toInt64 ∧ M9 = hup M8 out (la 1 h)) ∨ (∃ E, x E M9 ∧ ((E = "java/lang/IndexOutOfBoundsException" ∧ k = 1) ∨ (E = "java/lang/IllegalStateException" ∧ k = 2)))) nX) X M 0 0 0 [some (.ref p), some (.int b0), some (.ref out), none] []
  refine v_aload_n dL_bestLoadFeeByTrying_0 rfl rfl ?_
  refine v_iconst (v := 0) dL_bestLoadFeeByTrying_1 (by decide) ?_
  refine v_aload_n dL_bestLoadFeeByTrying_2 rfl rfl ?_
  refine v_iload_n dL_bestLoadFeeByTrying_3 rfl rfl ?_
  refine k_L_95 dL_bestLoadFeeByTrying_4 rfl hM hp (Nat.le_refl _) (by omega) (by omega) (Nat.le_of_ble_eq_true rfl) (fun r4 M9 h9 => ?_) (fun E M9 h9 => ?_)
  obtain ⟨h0, ho9⟩ := ho _ _ h9
  refine v_i2l dL_bestLoadFeeByTrying_7 ?_
  refine v_last dL_bestLoadFeeByTrying_8 ho9 ?_
  refine v_goto (tgt := 18) dL_bestLoadFeeByTrying_9 (by decide) ?_
  refine v_iconst (v := 0) dL_bestLoadFeeByTrying_18 (by decide) ?_
  exact v_iret dL_bestLoadFeeByTrying_19 rfl (Or.inl ⟨rfl, _, _, _, h9, rfl, rfl⟩) (by omega) (by omega)
  rcases hx E M9 h9 with rfl | rfl
  · refine VX.catch (own := "SledgePostLaw") (name := "java/lang/IndexOutOfBoundsException") (pre := []) (suf := [⟨0, 9, 15, 13⟩]) (x := ⟨0, 9, 12, 19⟩) rfl rfl (fun z hz => nomatch hz) (by decide) (by decide) (Ut_of (mt_4 37 rfl) rfl) (mt_3 125 rfl) (fun q9 => ?_)
    refine v_astore_3 dL_bestLoadFeeByTrying_12 ?_
    refine v_iconst (v := 1) dL_bestLoadFeeByTrying_13 (by decide) ?_
    exact v_iret dL_bestLoadFeeByTrying_14 rfl (Or.inr ⟨_, h9, Or.inl ⟨rfl, rfl⟩⟩) (by omega) (by omega)
  · refine VX.catch (own := "SledgePostLaw") (name := "java/lang/IllegalStateException") (pre := [⟨0, 9, 12, 19⟩]) (suf := []) (x := ⟨0, 9, 15, 13⟩) rfl rfl (List.forall_mem_cons.mpr ⟨⟨by decide, "java/lang/IndexOutOfBoundsException", (Ut_of (mt_4 37 rfl) rfl), by decide +kernel⟩, fun z hz => nomatch hz⟩) (by decide) (by decide) (Ut_of (mt_3 105 rfl) rfl) (mt_3 234 rfl) (fun q9 => ?_)
    refine v_astore_3 dL_bestLoadFeeByTrying_15 ?_
    refine v_iconst (v := 2) dL_bestLoadFeeByTrying_16 (by decide) ?_
    exact v_iret dL_bestLoadFeeByTrying_17 rfl (Or.inr ⟨_, h9, Or.inr (⟨rfl, rfl⟩)⟩) (by omega) (by omega)
abbrev K_L_roundTrip (l : Launch) (g : Nat → Nat) (L mc ms : Nat) (av : List Value) (M : LH) (Po : Res → LH → Prop) : Prop := Ct l g yL_roundTrip (.codeWith yL_roundTrip cL_roundTrip 4 (some .int) [(0, 9, 12, 19), (0, 9, 15, 34)]) L mc ms av M Po
theorem ck_L_roundTrip : cOk yL_roundTrip 3 := ⟨by decide +kernel, by decide +kernel, by decide +kernel⟩
theorem dL_roundTrip_0 : decode cL_roundTrip 0 = .ok (.aload_n 2, 1) := by decide +kernel
theorem dL_roundTrip_1 : decode cL_roundTrip 1 = .ok (.iconst 0, 1) := by decide +kernel
theorem dL_roundTrip_2 : decode cL_roundTrip 2 = .ok (.aload_n 0, 1) := by decide +kernel
theorem dL_roundTrip_3 : decode cL_roundTrip 3 = .ok (.iload_n 1, 1) := by decide +kernel
theorem dL_roundTrip_4 : decode cL_roundTrip 4 = .ok (.invokevirtual 98, 3) := by decide +kernel
theorem dL_roundTrip_7 : decode cL_roundTrip 7 = .ok (.i2l, 1) := by decide +kernel
theorem dL_roundTrip_8 : decode cL_roundTrip 8 = .ok (.lastore, 1) := by decide +kernel
theorem dL_roundTrip_9 : decode cL_roundTrip 9 = .ok (.goto 9, 3) := by decide +kernel
theorem dL_roundTrip_12 : decode cL_roundTrip 12 = .ok (.astore_n 3, 1) := by decide +kernel
theorem dL_roundTrip_13 : decode cL_roundTrip 13 = .ok (.iconst 1, 1) := by decide +kernel
theorem dL_roundTrip_14 : decode cL_roundTrip 14 = .ok (.ireturn, 1) := by decide +kernel
theorem dL_roundTrip_15 : decode cL_roundTrip 15 = .ok (.astore_n 3, 1) := by decide +kernel
theorem dL_roundTrip_16 : decode cL_roundTrip 16 = .ok (.iconst 2, 1) := by decide +kernel
theorem dL_roundTrip_17 : decode cL_roundTrip 17 = .ok (.ireturn, 1) := by decide +kernel
theorem dL_roundTrip_18 : decode cL_roundTrip 18 = .ok (.iconst 0, 1) := by decide +kernel
theorem dL_roundTrip_19 : decode cL_roundTrip 19 = .ok (.ireturn, 1) := by decide +kernel
set_option maxRecDepth 100000 in
set_option maxHeartbeats 4000000 in
theorem w_L_roundTrip {l : Launch} {g : Nat → Nat} {M : LH} (htr : l.stackTraces = false) {p out : Nat} {b0 : Int32} {fs : List Value} {L2 mc2 ms2 : Nat} {f : Int32 → LH → Prop} {x : String → LH → Prop} (hM : K_X11_roundTrip l g L2 mc2 ms2 [.ref p, .int b0] M (RI f x)) (hp : M p = some (ob 9 fs)) (ho : ∀ r M9, f r M9 → ∃ h, M9 out = some (la 1 h)) (hx : ∀ E M9, x E M9 → E = "java/lang/IndexOutOfBoundsException" ∨ E = "java/util/NoSuchElementException") : K_L_roundTrip l g (L2 + 1) mc2 ms2 [.ref p, .int b0, .ref out] M (RI (fun k M9 => (k = 0 ∧ ∃ r M8 h, f r M8 ∧ h 0 = r.toInt64 ∧ M9 = hup M8 out (la 1 h)) ∨ (∃ E, x E M9 ∧ ((E = "java/lang/IndexOutOfBoundsException" ∧ k = 1) ∨ (E = "java/util/NoSuchElementException" ∧ k = 2)))) nX) := by
  refine Ct.ofH (nL := 4) (by decide +kernel) (Nat.le_of_ble_eq_true rfl) (by simp [Value.category]) htr (fun X => ?_)
  show V l g yL_roundTrip cL_roundTrip ((some .int)) (tableOf [(0, 9, 12, 19), (0, 9, 15, 34)]) (L2 + 1) mc2 ms2 (RI (fun k M9 => (k = 0 ∧ ∃ r M8 h, f r M8 ∧ h 0 = r.toInt64 ∧ M9 = hup M8 out (la 1 h)) ∨ (∃ E, x E M9 ∧ ((E = "java/lang/IndexOutOfBoundsException" ∧ k = 1) ∨ (E = "java/util/NoSuchElementException" ∧ k = 2)))) nX) X M 0 0 0 [some (.ref p), some (.int b0), some (.ref out), none] []
  refine v_aload_n dL_roundTrip_0 rfl rfl ?_
  refine v_iconst (v := 0) dL_roundTrip_1 (by decide) ?_
  refine v_aload_n dL_roundTrip_2 rfl rfl ?_
  refine v_iload_n dL_roundTrip_3 rfl rfl ?_
  refine k_L_98 dL_roundTrip_4 rfl hM hp (Nat.le_refl _) (by omega) (by omega) (Nat.le_of_ble_eq_true rfl) (fun r4 M9 h9 => ?_) (fun E M9 h9 => ?_)
  obtain ⟨h0, ho9⟩ := ho _ _ h9
  refine v_i2l dL_roundTrip_7 ?_
  refine v_last dL_roundTrip_8 ho9 ?_
  refine v_goto (tgt := 18) dL_roundTrip_9 (by decide) ?_
  refine v_iconst (v := 0) dL_roundTrip_18 (by decide) ?_
  exact v_iret dL_roundTrip_19 rfl (Or.inl ⟨rfl, _, _, _, h9, rfl, rfl⟩) (by omega) (by omega)
  rcases hx E M9 h9 with rfl | rfl
  · refine VX.catch (own := "SledgePostLaw") (name := "java/lang/IndexOutOfBoundsException") (pre := []) (suf := [⟨0, 9, 15, 34⟩]) (x := ⟨0, 9, 12, 19⟩) rfl rfl (fun z hz => nomatch hz) (by decide) (by decide) (Ut_of (mt_4 37 rfl) rfl) (mt_3 125 rfl) (fun q9 => ?_)
    refine v_astore_3 dL_roundTrip_12 ?_
    refine v_iconst (v := 1) dL_roundTrip_13 (by decide) ?_
    exact v_iret dL_roundTrip_14 rfl (Or.inr ⟨_, h9, Or.inl ⟨rfl, rfl⟩⟩) (by omega) (by omega)
  · refine VX.catch (own := "SledgePostLaw") (name := "java/util/NoSuchElementException") (pre := [⟨0, 9, 12, 19⟩]) (suf := []) (x := ⟨0, 9, 15, 34⟩) rfl rfl (List.forall_mem_cons.mpr ⟨⟨by decide, "java/lang/IndexOutOfBoundsException", (Ut_of (mt_4 37 rfl) rfl), by decide +kernel⟩, fun z hz => nomatch hz⟩) (by decide) (by decide) (Ut_of (mt_4 111 rfl) rfl) (mt_3 217 rfl) (fun q9 => ?_)
    refine v_astore_3 dL_roundTrip_15 ?_
    refine v_iconst (v := 2) dL_roundTrip_16 (by decide) ?_
    exact v_iret dL_roundTrip_17 rfl (Or.inr ⟨_, h9, Or.inr (⟨rfl, rfl⟩)⟩) (by omega) (by omega)
abbrev K_L_roundTripByOrders (l : Launch) (g : Nat → Nat) (L mc ms : Nat) (av : List Value) (M : LH) (Po : Res → LH → Prop) : Prop := Ct l g yL_roundTripByOrders (.codeWith yL_roundTripByOrders cL_roundTripByOrders 4 (some .int) [(0, 9, 12, 19), (0, 9, 15, 34)]) L mc ms av M Po
theorem ck_L_roundTripByOrders : cOk yL_roundTripByOrders 3 := ⟨by decide +kernel, by decide +kernel, by decide +kernel⟩
theorem dL_roundTripByOrders_0 : decode cL_roundTripByOrders 0 = .ok (.aload_n 2, 1) := by decide +kernel
theorem dL_roundTripByOrders_1 : decode cL_roundTripByOrders 1 = .ok (.iconst 0, 1) := by decide +kernel
theorem dL_roundTripByOrders_2 : decode cL_roundTripByOrders 2 = .ok (.aload_n 0, 1) := by decide +kernel
theorem dL_roundTripByOrders_3 : decode cL_roundTripByOrders 3 = .ok (.iload_n 1, 1) := by decide +kernel
theorem dL_roundTripByOrders_4 : decode cL_roundTripByOrders 4 = .ok (.invokevirtual 101, 3) := by decide +kernel
theorem dL_roundTripByOrders_7 : decode cL_roundTripByOrders 7 = .ok (.i2l, 1) := by decide +kernel
theorem dL_roundTripByOrders_8 : decode cL_roundTripByOrders 8 = .ok (.lastore, 1) := by decide +kernel
theorem dL_roundTripByOrders_9 : decode cL_roundTripByOrders 9 = .ok (.goto 9, 3) := by decide +kernel
theorem dL_roundTripByOrders_12 : decode cL_roundTripByOrders 12 = .ok (.astore_n 3, 1) := by decide +kernel
theorem dL_roundTripByOrders_13 : decode cL_roundTripByOrders 13 = .ok (.iconst 1, 1) := by decide +kernel
theorem dL_roundTripByOrders_14 : decode cL_roundTripByOrders 14 = .ok (.ireturn, 1) := by decide +kernel
theorem dL_roundTripByOrders_15 : decode cL_roundTripByOrders 15 = .ok (.astore_n 3, 1) := by decide +kernel
theorem dL_roundTripByOrders_16 : decode cL_roundTripByOrders 16 = .ok (.iconst 2, 1) := by decide +kernel
theorem dL_roundTripByOrders_17 : decode cL_roundTripByOrders 17 = .ok (.ireturn, 1) := by decide +kernel
theorem dL_roundTripByOrders_18 : decode cL_roundTripByOrders 18 = .ok (.iconst 0, 1) := by decide +kernel
theorem dL_roundTripByOrders_19 : decode cL_roundTripByOrders 19 = .ok (.ireturn, 1) := by decide +kernel
set_option maxRecDepth 100000 in
set_option maxHeartbeats 4000000 in
theorem w_L_roundTripByOrders {l : Launch} {g : Nat → Nat} {M : LH} (htr : l.stackTraces = false) {p out : Nat} {b0 : Int32} {fs : List Value} {L2 mc2 ms2 : Nat} {f : Int32 → LH → Prop} {x : String → LH → Prop} (hM : K_X11_roundTripByOrders l g L2 mc2 ms2 [.ref p, .int b0] M (RI f x)) (hp : M p = some (ob 9 fs)) (ho : ∀ r M9, f r M9 → ∃ h, M9 out = some (la 1 h)) (hx : ∀ E M9, x E M9 → E = "java/lang/IndexOutOfBoundsException" ∨ E = "java/util/NoSuchElementException") : K_L_roundTripByOrders l g (L2 + 1) mc2 ms2 [.ref p, .int b0, .ref out] M (RI (fun k M9 => (k = 0 ∧ ∃ r M8 h, f r M8 ∧ h 0 = r.toInt64 ∧ M9 = hup M8 out (la 1 h)) ∨ (∃ E, x E M9 ∧ ((E = "java/lang/IndexOutOfBoundsException" ∧ k = 1) ∨ (E = "java/util/NoSuchElementException" ∧ k = 2)))) nX) := by
  refine Ct.ofH (nL := 4) (by decide +kernel) (Nat.le_of_ble_eq_true rfl) (by simp [Value.category]) htr (fun X => ?_)
  show V l g yL_roundTripByOrders cL_roundTripByOrders ((some .int)) (tableOf [(0, 9, 12, 19), (0, 9, 15, 34)]) (L2 + 1) mc2 ms2 (RI (fun k M9 => (k = 0 ∧ ∃ r M8 h, f r M8 ∧ h 0 = r.toInt64 ∧ M9 = hup M8 out (la 1 h)) ∨ (∃ E, x E M9 ∧ ((E = "java/lang/IndexOutOfBoundsException" ∧ k = 1) ∨ (E = "java/util/NoSuchElementException" ∧ k = 2)))) nX) X M 0 0 0 [some (.ref p), some (.int b0), some (.ref out), none] []
  refine v_aload_n dL_roundTripByOrders_0 rfl rfl ?_
  refine v_iconst (v := 0) dL_roundTripByOrders_1 (by decide) ?_
  refine v_aload_n dL_roundTripByOrders_2 rfl rfl ?_
  refine v_iload_n dL_roundTripByOrders_3 rfl rfl ?_
  refine k_L_101 dL_roundTripByOrders_4 rfl hM hp (Nat.le_refl _) (by omega) (by omega) (Nat.le_of_ble_eq_true rfl) (fun r4 M9 h9 => ?_) (fun E M9 h9 => ?_)
  obtain ⟨h0, ho9⟩ := ho _ _ h9
  refine v_i2l dL_roundTripByOrders_7 ?_
  refine v_last dL_roundTripByOrders_8 ho9 ?_
  refine v_goto (tgt := 18) dL_roundTripByOrders_9 (by decide) ?_
  refine v_iconst (v := 0) dL_roundTripByOrders_18 (by decide) ?_
  exact v_iret dL_roundTripByOrders_19 rfl (Or.inl ⟨rfl, _, _, _, h9, rfl, rfl⟩) (by omega) (by omega)
  rcases hx E M9 h9 with rfl | rfl
  · refine VX.catch (own := "SledgePostLaw") (name := "java/lang/IndexOutOfBoundsException") (pre := []) (suf := [⟨0, 9, 15, 34⟩]) (x := ⟨0, 9, 12, 19⟩) rfl rfl (fun z hz => nomatch hz) (by decide) (by decide) (Ut_of (mt_4 37 rfl) rfl) (mt_3 125 rfl) (fun q9 => ?_)
    refine v_astore_3 dL_roundTripByOrders_12 ?_
    refine v_iconst (v := 1) dL_roundTripByOrders_13 (by decide) ?_
    exact v_iret dL_roundTripByOrders_14 rfl (Or.inr ⟨_, h9, Or.inl ⟨rfl, rfl⟩⟩) (by omega) (by omega)
  · refine VX.catch (own := "SledgePostLaw") (name := "java/util/NoSuchElementException") (pre := [⟨0, 9, 12, 19⟩]) (suf := []) (x := ⟨0, 9, 15, 34⟩) rfl rfl (List.forall_mem_cons.mpr ⟨⟨by decide, "java/lang/IndexOutOfBoundsException", (Ut_of (mt_4 37 rfl) rfl), by decide +kernel⟩, fun z hz => nomatch hz⟩) (by decide) (by decide) (Ut_of (mt_4 111 rfl) rfl) (mt_3 217 rfl) (fun q9 => ?_)
    refine v_astore_3 dL_roundTripByOrders_15 ?_
    refine v_iconst (v := 2) dL_roundTripByOrders_16 (by decide) ?_
    exact v_iret dL_roundTripByOrders_17 rfl (Or.inr ⟨_, h9, Or.inr (⟨rfl, rfl⟩)⟩) (by omega) (by omega)
abbrev K_L_letterAt (l : Launch) (g : Nat → Nat) (L mc ms : Nat) (av : List Value) (M : LH) (Po : Res → LH → Prop) : Prop := Ct l g yL_letterAt (.codeWith yL_letterAt cL_letterAt 4 (some .int) [(0, 9, 12, 34)]) L mc ms av M Po
theorem ck_L_letterAt : cOk yL_letterAt 3 := ⟨by decide +kernel, by decide +kernel, by decide +kernel⟩
theorem dL_letterAt_0 : decode cL_letterAt 0 = .ok (.aload_n 2, 1) := by decide +kernel
theorem dL_letterAt_1 : decode cL_letterAt 1 = .ok (.iconst 0, 1) := by decide +kernel
theorem dL_letterAt_2 : decode cL_letterAt 2 = .ok (.aload_n 0, 1) := by decide +kernel
theorem dL_letterAt_3 : decode cL_letterAt 3 = .ok (.iload_n 1, 1) := by decide +kernel
theorem dL_letterAt_4 : decode cL_letterAt 4 = .ok (.invokevirtual 104, 3) := by decide +kernel
theorem dL_letterAt_7 : decode cL_letterAt 7 = .ok (.i2l, 1) := by decide +kernel
theorem dL_letterAt_8 : decode cL_letterAt 8 = .ok (.lastore, 1) := by decide +kernel
theorem dL_letterAt_9 : decode cL_letterAt 9 = .ok (.goto 6, 3) := by decide +kernel
theorem dL_letterAt_12 : decode cL_letterAt 12 = .ok (.astore_n 3, 1) := by decide +kernel
theorem dL_letterAt_13 : decode cL_letterAt 13 = .ok (.iconst 1, 1) := by decide +kernel
theorem dL_letterAt_14 : decode cL_letterAt 14 = .ok (.ireturn, 1) := by decide +kernel
theorem dL_letterAt_15 : decode cL_letterAt 15 = .ok (.iconst 0, 1) := by decide +kernel
theorem dL_letterAt_16 : decode cL_letterAt 16 = .ok (.ireturn, 1) := by decide +kernel
set_option maxRecDepth 100000 in
set_option maxHeartbeats 4000000 in
theorem w_L_letterAt {l : Launch} {g : Nat → Nat} {M : LH} (htr : l.stackTraces = false) {p out : Nat} {b0 : Int32} {fs : List Value} {L2 mc2 ms2 : Nat} {f : Int32 → LH → Prop} {x : String → LH → Prop} (hM : K_X11_letterAt l g L2 mc2 ms2 [.ref p, .int b0] M (RI f x)) (hp : M p = some (ob 9 fs)) (ho : ∀ r M9, f r M9 → ∃ h, M9 out = some (la 1 h)) (hx : ∀ E M9, x E M9 → E = "java/util/NoSuchElementException") : K_L_letterAt l g (L2 + 1) mc2 ms2 [.ref p, .int b0, .ref out] M (RI (fun k M9 => (k = 0 ∧ ∃ r M8 h, f r M8 ∧ h 0 = r.toInt64 ∧ M9 = hup M8 out (la 1 h)) ∨ (∃ E, x E M9 ∧ ((E = "java/util/NoSuchElementException" ∧ k = 1)))) nX) := by
  refine Ct.ofH (nL := 4) (by decide +kernel) (Nat.le_of_ble_eq_true rfl) (by simp [Value.category]) htr (fun X => ?_)
  show V l g yL_letterAt cL_letterAt ((some .int)) (tableOf [(0, 9, 12, 34)]) (L2 + 1) mc2 ms2 (RI (fun k M9 => (k = 0 ∧ ∃ r M8 h, f r M8 ∧ h 0 = r.toInt64 ∧ M9 = hup M8 out (la 1 h)) ∨ (∃ E, x E M9 ∧ ((E = "java/util/NoSuchElementException" ∧ k = 1)))) nX) X M 0 0 0 [some (.ref p), some (.int b0), some (.ref out), none] []
  refine v_aload_n dL_letterAt_0 rfl rfl ?_
  refine v_iconst (v := 0) dL_letterAt_1 (by decide) ?_
  refine v_aload_n dL_letterAt_2 rfl rfl ?_
  refine v_iload_n dL_letterAt_3 rfl rfl ?_
  refine k_L_104 dL_letterAt_4 rfl hM hp (Nat.le_refl _) (by omega) (by omega) (Nat.le_of_ble_eq_true rfl) (fun r4 M9 h9 => ?_) (fun E M9 h9 => ?_)
  obtain ⟨h0, ho9⟩ := ho _ _ h9
  refine v_i2l dL_letterAt_7 ?_
  refine v_last dL_letterAt_8 ho9 ?_
  refine v_goto (tgt := 15) dL_letterAt_9 (by decide) ?_
  refine v_iconst (v := 0) dL_letterAt_15 (by decide) ?_
  exact v_iret dL_letterAt_16 rfl (Or.inl ⟨rfl, _, _, _, h9, rfl, rfl⟩) (by omega) (by omega)
  obtain rfl := hx E M9 h9
  refine VX.catch (own := "SledgePostLaw") (name := "java/util/NoSuchElementException") (pre := []) (suf := []) (x := ⟨0, 9, 12, 34⟩) rfl rfl (fun z hz => nomatch hz) (by decide) (by decide) (Ut_of (mt_4 111 rfl) rfl) (mt_3 217 rfl) (fun q9 => ?_)
  refine v_astore_3 dL_letterAt_12 ?_
  refine v_iconst (v := 1) dL_letterAt_13 (by decide) ?_
  exact v_iret dL_letterAt_14 rfl (Or.inr ⟨_, h9, ⟨rfl, rfl⟩⟩) (by omega) (by omega)
abbrev K_L_destinationOf (l : Launch) (g : Nat → Nat) (L mc ms : Nat) (av : List Value) (M : LH) (Po : Res → LH → Prop) : Prop := Ct l g yL_destinationOf (.codeWith yL_destinationOf cL_destinationOf 4 (some .int) [(0, 9, 12, 34)]) L mc ms av M Po
theorem ck_L_destinationOf : cOk yL_destinationOf 3 := ⟨by decide +kernel, by decide +kernel, by decide +kernel⟩
theorem dL_destinationOf_0 : decode cL_destinationOf 0 = .ok (.aload_n 2, 1) := by decide +kernel
theorem dL_destinationOf_1 : decode cL_destinationOf 1 = .ok (.iconst 0, 1) := by decide +kernel
theorem dL_destinationOf_2 : decode cL_destinationOf 2 = .ok (.aload_n 0, 1) := by decide +kernel
theorem dL_destinationOf_3 : decode cL_destinationOf 3 = .ok (.iload_n 1, 1) := by decide +kernel
theorem dL_destinationOf_4 : decode cL_destinationOf 4 = .ok (.invokevirtual 107, 3) := by decide +kernel
theorem dL_destinationOf_7 : decode cL_destinationOf 7 = .ok (.i2l, 1) := by decide +kernel
theorem dL_destinationOf_8 : decode cL_destinationOf 8 = .ok (.lastore, 1) := by decide +kernel
theorem dL_destinationOf_9 : decode cL_destinationOf 9 = .ok (.goto 6, 3) := by decide +kernel
theorem dL_destinationOf_12 : decode cL_destinationOf 12 = .ok (.astore_n 3, 1) := by decide +kernel
theorem dL_destinationOf_13 : decode cL_destinationOf 13 = .ok (.iconst 1, 1) := by decide +kernel
theorem dL_destinationOf_14 : decode cL_destinationOf 14 = .ok (.ireturn, 1) := by decide +kernel
theorem dL_destinationOf_15 : decode cL_destinationOf 15 = .ok (.iconst 0, 1) := by decide +kernel
theorem dL_destinationOf_16 : decode cL_destinationOf 16 = .ok (.ireturn, 1) := by decide +kernel
set_option maxRecDepth 100000 in
set_option maxHeartbeats 4000000 in
theorem w_L_destinationOf {l : Launch} {g : Nat → Nat} {M : LH} (htr : l.stackTraces = false) {p out : Nat} {b0 : Int32} {fs : List Value} {L2 mc2 ms2 : Nat} {f : Int32 → LH → Prop} {x : String → LH → Prop} (hM : K_X11_destinationOf l g L2 mc2 ms2 [.ref p, .int b0] M (RI f x)) (hp : M p = some (ob 9 fs)) (ho : ∀ r M9, f r M9 → ∃ h, M9 out = some (la 1 h)) (hx : ∀ E M9, x E M9 → E = "java/util/NoSuchElementException") : K_L_destinationOf l g (L2 + 1) mc2 ms2 [.ref p, .int b0, .ref out] M (RI (fun k M9 => (k = 0 ∧ ∃ r M8 h, f r M8 ∧ h 0 = r.toInt64 ∧ M9 = hup M8 out (la 1 h)) ∨ (∃ E, x E M9 ∧ ((E = "java/util/NoSuchElementException" ∧ k = 1)))) nX) := by
  refine Ct.ofH (nL := 4) (by decide +kernel) (Nat.le_of_ble_eq_true rfl) (by simp [Value.category]) htr (fun X => ?_)
  show V l g yL_destinationOf cL_destinationOf ((some .int)) (tableOf [(0, 9, 12, 34)]) (L2 + 1) mc2 ms2 (RI (fun k M9 => (k = 0 ∧ ∃ r M8 h, f r M8 ∧ h 0 = r.toInt64 ∧ M9 = hup M8 out (la 1 h)) ∨ (∃ E, x E M9 ∧ ((E = "java/util/NoSuchElementException" ∧ k = 1)))) nX) X M 0 0 0 [some (.ref p), some (.int b0), some (.ref out), none] []
  refine v_aload_n dL_destinationOf_0 rfl rfl ?_
  refine v_iconst (v := 0) dL_destinationOf_1 (by decide) ?_
  refine v_aload_n dL_destinationOf_2 rfl rfl ?_
  refine v_iload_n dL_destinationOf_3 rfl rfl ?_
  refine k_L_107 dL_destinationOf_4 rfl hM hp (Nat.le_refl _) (by omega) (by omega) (Nat.le_of_ble_eq_true rfl) (fun r4 M9 h9 => ?_) (fun E M9 h9 => ?_)
  obtain ⟨h0, ho9⟩ := ho _ _ h9
  refine v_i2l dL_destinationOf_7 ?_
  refine v_last dL_destinationOf_8 ho9 ?_
  refine v_goto (tgt := 15) dL_destinationOf_9 (by decide) ?_
  refine v_iconst (v := 0) dL_destinationOf_15 (by decide) ?_
  exact v_iret dL_destinationOf_16 rfl (Or.inl ⟨rfl, _, _, _, h9, rfl, rfl⟩) (by omega) (by omega)
  obtain rfl := hx E M9 h9
  refine VX.catch (own := "SledgePostLaw") (name := "java/util/NoSuchElementException") (pre := []) (suf := []) (x := ⟨0, 9, 12, 34⟩) rfl rfl (fun z hz => nomatch hz) (by decide) (by decide) (Ut_of (mt_4 111 rfl) rfl) (mt_3 217 rfl) (fun q9 => ?_)
  refine v_astore_3 dL_destinationOf_12 ?_
  refine v_iconst (v := 1) dL_destinationOf_13 (by decide) ?_
  exact v_iret dL_destinationOf_14 rfl (Or.inr ⟨_, h9, ⟨rfl, rfl⟩⟩) (by omega) (by omega)
abbrev K_L_weightOf (l : Launch) (g : Nat → Nat) (L mc ms : Nat) (av : List Value) (M : LH) (Po : Res → LH → Prop) : Prop := Ct l g yL_weightOf (.codeWith yL_weightOf cL_weightOf 4 (some .int) [(0, 9, 12, 34)]) L mc ms av M Po
theorem ck_L_weightOf : cOk yL_weightOf 3 := ⟨by decide +kernel, by decide +kernel, by decide +kernel⟩
theorem dL_weightOf_0 : decode cL_weightOf 0 = .ok (.aload_n 2, 1) := by decide +kernel
theorem dL_weightOf_1 : decode cL_weightOf 1 = .ok (.iconst 0, 1) := by decide +kernel
theorem dL_weightOf_2 : decode cL_weightOf 2 = .ok (.aload_n 0, 1) := by decide +kernel
theorem dL_weightOf_3 : decode cL_weightOf 3 = .ok (.iload_n 1, 1) := by decide +kernel
theorem dL_weightOf_4 : decode cL_weightOf 4 = .ok (.invokevirtual 110, 3) := by decide +kernel
theorem dL_weightOf_7 : decode cL_weightOf 7 = .ok (.i2l, 1) := by decide +kernel
theorem dL_weightOf_8 : decode cL_weightOf 8 = .ok (.lastore, 1) := by decide +kernel
theorem dL_weightOf_9 : decode cL_weightOf 9 = .ok (.goto 6, 3) := by decide +kernel
theorem dL_weightOf_12 : decode cL_weightOf 12 = .ok (.astore_n 3, 1) := by decide +kernel
theorem dL_weightOf_13 : decode cL_weightOf 13 = .ok (.iconst 1, 1) := by decide +kernel
theorem dL_weightOf_14 : decode cL_weightOf 14 = .ok (.ireturn, 1) := by decide +kernel
theorem dL_weightOf_15 : decode cL_weightOf 15 = .ok (.iconst 0, 1) := by decide +kernel
theorem dL_weightOf_16 : decode cL_weightOf 16 = .ok (.ireturn, 1) := by decide +kernel
set_option maxRecDepth 100000 in
set_option maxHeartbeats 4000000 in
theorem w_L_weightOf {l : Launch} {g : Nat → Nat} {M : LH} (htr : l.stackTraces = false) {p out : Nat} {b0 : Int32} {fs : List Value} {L2 mc2 ms2 : Nat} {f : Int32 → LH → Prop} {x : String → LH → Prop} (hM : K_X11_weightOf l g L2 mc2 ms2 [.ref p, .int b0] M (RI f x)) (hp : M p = some (ob 9 fs)) (ho : ∀ r M9, f r M9 → ∃ h, M9 out = some (la 1 h)) (hx : ∀ E M9, x E M9 → E = "java/util/NoSuchElementException") : K_L_weightOf l g (L2 + 1) mc2 ms2 [.ref p, .int b0, .ref out] M (RI (fun k M9 => (k = 0 ∧ ∃ r M8 h, f r M8 ∧ h 0 = r.toInt64 ∧ M9 = hup M8 out (la 1 h)) ∨ (∃ E, x E M9 ∧ ((E = "java/util/NoSuchElementException" ∧ k = 1)))) nX) := by
  refine Ct.ofH (nL := 4) (by decide +kernel) (Nat.le_of_ble_eq_true rfl) (by simp [Value.category]) htr (fun X => ?_)
  show V l g yL_weightOf cL_weightOf ((some .int)) (tableOf [(0, 9, 12, 34)]) (L2 + 1) mc2 ms2 (RI (fun k M9 => (k = 0 ∧ ∃ r M8 h, f r M8 ∧ h 0 = r.toInt64 ∧ M9 = hup M8 out (la 1 h)) ∨ (∃ E, x E M9 ∧ ((E = "java/util/NoSuchElementException" ∧ k = 1)))) nX) X M 0 0 0 [some (.ref p), some (.int b0), some (.ref out), none] []
  refine v_aload_n dL_weightOf_0 rfl rfl ?_
  refine v_iconst (v := 0) dL_weightOf_1 (by decide) ?_
  refine v_aload_n dL_weightOf_2 rfl rfl ?_
  refine v_iload_n dL_weightOf_3 rfl rfl ?_
  refine k_L_110 dL_weightOf_4 rfl hM hp (Nat.le_refl _) (by omega) (by omega) (Nat.le_of_ble_eq_true rfl) (fun r4 M9 h9 => ?_) (fun E M9 h9 => ?_)
  obtain ⟨h0, ho9⟩ := ho _ _ h9
  refine v_i2l dL_weightOf_7 ?_
  refine v_last dL_weightOf_8 ho9 ?_
  refine v_goto (tgt := 15) dL_weightOf_9 (by decide) ?_
  refine v_iconst (v := 0) dL_weightOf_15 (by decide) ?_
  exact v_iret dL_weightOf_16 rfl (Or.inl ⟨rfl, _, _, _, h9, rfl, rfl⟩) (by omega) (by omega)
  obtain rfl := hx E M9 h9
  refine VX.catch (own := "SledgePostLaw") (name := "java/util/NoSuchElementException") (pre := []) (suf := []) (x := ⟨0, 9, 12, 34⟩) rfl rfl (fun z hz => nomatch hz) (by decide) (by decide) (Ut_of (mt_4 111 rfl) rfl) (mt_3 217 rfl) (fun q9 => ?_)
  refine v_astore_3 dL_weightOf_12 ?_
  refine v_iconst (v := 1) dL_weightOf_13 (by decide) ?_
  exact v_iret dL_weightOf_14 rfl (Or.inr ⟨_, h9, ⟨rfl, rfl⟩⟩) (by omega) (by omega)
abbrev K_L_feeOf (l : Launch) (g : Nat → Nat) (L mc ms : Nat) (av : List Value) (M : LH) (Po : Res → LH → Prop) : Prop := Ct l g yL_feeOf (.codeWith yL_feeOf cL_feeOf 4 (some .int) [(0, 9, 12, 34)]) L mc ms av M Po
theorem ck_L_feeOf : cOk yL_feeOf 3 := ⟨by decide +kernel, by decide +kernel, by decide +kernel⟩
theorem dL_feeOf_0 : decode cL_feeOf 0 = .ok (.aload_n 2, 1) := by decide +kernel
theorem dL_feeOf_1 : decode cL_feeOf 1 = .ok (.iconst 0, 1) := by decide +kernel
theorem dL_feeOf_2 : decode cL_feeOf 2 = .ok (.aload_n 0, 1) := by decide +kernel
theorem dL_feeOf_3 : decode cL_feeOf 3 = .ok (.iload_n 1, 1) := by decide +kernel
theorem dL_feeOf_4 : decode cL_feeOf 4 = .ok (.invokevirtual 113, 3) := by decide +kernel
theorem dL_feeOf_7 : decode cL_feeOf 7 = .ok (.i2l, 1) := by decide +kernel
theorem dL_feeOf_8 : decode cL_feeOf 8 = .ok (.lastore, 1) := by decide +kernel
theorem dL_feeOf_9 : decode cL_feeOf 9 = .ok (.goto 6, 3) := by decide +kernel
theorem dL_feeOf_12 : decode cL_feeOf 12 = .ok (.astore_n 3, 1) := by decide +kernel
theorem dL_feeOf_13 : decode cL_feeOf 13 = .ok (.iconst 1, 1) := by decide +kernel
theorem dL_feeOf_14 : decode cL_feeOf 14 = .ok (.ireturn, 1) := by decide +kernel
theorem dL_feeOf_15 : decode cL_feeOf 15 = .ok (.iconst 0, 1) := by decide +kernel
theorem dL_feeOf_16 : decode cL_feeOf 16 = .ok (.ireturn, 1) := by decide +kernel
set_option maxRecDepth 100000 in
set_option maxHeartbeats 4000000 in
theorem w_L_feeOf {l : Launch} {g : Nat → Nat} {M : LH} (htr : l.stackTraces = false) {p out : Nat} {b0 : Int32} {fs : List Value} {L2 mc2 ms2 : Nat} {f : Int32 → LH → Prop} {x : String → LH → Prop} (hM : K_X11_feeOf l g L2 mc2 ms2 [.ref p, .int b0] M (RI f x)) (hp : M p = some (ob 9 fs)) (ho : ∀ r M9, f r M9 → ∃ h, M9 out = some (la 1 h)) (hx : ∀ E M9, x E M9 → E = "java/util/NoSuchElementException") : K_L_feeOf l g (L2 + 1) mc2 ms2 [.ref p, .int b0, .ref out] M (RI (fun k M9 => (k = 0 ∧ ∃ r M8 h, f r M8 ∧ h 0 = r.toInt64 ∧ M9 = hup M8 out (la 1 h)) ∨ (∃ E, x E M9 ∧ ((E = "java/util/NoSuchElementException" ∧ k = 1)))) nX) := by
  refine Ct.ofH (nL := 4) (by decide +kernel) (Nat.le_of_ble_eq_true rfl) (by simp [Value.category]) htr (fun X => ?_)
  show V l g yL_feeOf cL_feeOf ((some .int)) (tableOf [(0, 9, 12, 34)]) (L2 + 1) mc2 ms2 (RI (fun k M9 => (k = 0 ∧ ∃ r M8 h, f r M8 ∧ h 0 = r.toInt64 ∧ M9 = hup M8 out (la 1 h)) ∨ (∃ E, x E M9 ∧ ((E = "java/util/NoSuchElementException" ∧ k = 1)))) nX) X M 0 0 0 [some (.ref p), some (.int b0), some (.ref out), none] []
  refine v_aload_n dL_feeOf_0 rfl rfl ?_
  refine v_iconst (v := 0) dL_feeOf_1 (by decide) ?_
  refine v_aload_n dL_feeOf_2 rfl rfl ?_
  refine v_iload_n dL_feeOf_3 rfl rfl ?_
  refine k_L_113 dL_feeOf_4 rfl hM hp (Nat.le_refl _) (by omega) (by omega) (Nat.le_of_ble_eq_true rfl) (fun r4 M9 h9 => ?_) (fun E M9 h9 => ?_)
  obtain ⟨h0, ho9⟩ := ho _ _ h9
  refine v_i2l dL_feeOf_7 ?_
  refine v_last dL_feeOf_8 ho9 ?_
  refine v_goto (tgt := 15) dL_feeOf_9 (by decide) ?_
  refine v_iconst (v := 0) dL_feeOf_15 (by decide) ?_
  exact v_iret dL_feeOf_16 rfl (Or.inl ⟨rfl, _, _, _, h9, rfl, rfl⟩) (by omega) (by omega)
  obtain rfl := hx E M9 h9
  refine VX.catch (own := "SledgePostLaw") (name := "java/util/NoSuchElementException") (pre := []) (suf := []) (x := ⟨0, 9, 12, 34⟩) rfl rfl (fun z hz => nomatch hz) (by decide) (by decide) (Ut_of (mt_4 111 rfl) rfl) (mt_3 217 rfl) (fun q9 => ?_)
  refine v_astore_3 dL_feeOf_12 ?_
  refine v_iconst (v := 1) dL_feeOf_13 (by decide) ?_
  exact v_iret dL_feeOf_14 rfl (Or.inr ⟨_, h9, ⟨rfl, rfl⟩⟩) (by omega) (by omega)
abbrev K_L_iceOf (l : Launch) (g : Nat → Nat) (L mc ms : Nat) (av : List Value) (M : LH) (Po : Res → LH → Prop) : Prop := Ct l g yL_iceOf (.codeWith yL_iceOf cL_iceOf 4 (some .int) [(0, 9, 12, 34)]) L mc ms av M Po
theorem ck_L_iceOf : cOk yL_iceOf 3 := ⟨by decide +kernel, by decide +kernel, by decide +kernel⟩
theorem dL_iceOf_0 : decode cL_iceOf 0 = .ok (.aload_n 2, 1) := by decide +kernel
theorem dL_iceOf_1 : decode cL_iceOf 1 = .ok (.iconst 0, 1) := by decide +kernel
theorem dL_iceOf_2 : decode cL_iceOf 2 = .ok (.aload_n 0, 1) := by decide +kernel
theorem dL_iceOf_3 : decode cL_iceOf 3 = .ok (.iload_n 1, 1) := by decide +kernel
theorem dL_iceOf_4 : decode cL_iceOf 4 = .ok (.invokevirtual 116, 3) := by decide +kernel
theorem dL_iceOf_7 : decode cL_iceOf 7 = .ok (.i2l, 1) := by decide +kernel
theorem dL_iceOf_8 : decode cL_iceOf 8 = .ok (.lastore, 1) := by decide +kernel
theorem dL_iceOf_9 : decode cL_iceOf 9 = .ok (.goto 6, 3) := by decide +kernel
theorem dL_iceOf_12 : decode cL_iceOf 12 = .ok (.astore_n 3, 1) := by decide +kernel
theorem dL_iceOf_13 : decode cL_iceOf 13 = .ok (.iconst 1, 1) := by decide +kernel
theorem dL_iceOf_14 : decode cL_iceOf 14 = .ok (.ireturn, 1) := by decide +kernel
theorem dL_iceOf_15 : decode cL_iceOf 15 = .ok (.iconst 0, 1) := by decide +kernel
theorem dL_iceOf_16 : decode cL_iceOf 16 = .ok (.ireturn, 1) := by decide +kernel
set_option maxRecDepth 100000 in
set_option maxHeartbeats 4000000 in
theorem w_L_iceOf {l : Launch} {g : Nat → Nat} {M : LH} (htr : l.stackTraces = false) {p out : Nat} {b0 : Int32} {fs : List Value} {L2 mc2 ms2 : Nat} {f : Int32 → LH → Prop} {x : String → LH → Prop} (hM : K_X11_iceOf l g L2 mc2 ms2 [.ref p, .int b0] M (RI f x)) (hp : M p = some (ob 9 fs)) (ho : ∀ r M9, f r M9 → ∃ h, M9 out = some (la 1 h)) (hx : ∀ E M9, x E M9 → E = "java/util/NoSuchElementException") : K_L_iceOf l g (L2 + 1) mc2 ms2 [.ref p, .int b0, .ref out] M (RI (fun k M9 => (k = 0 ∧ ∃ r M8 h, f r M8 ∧ h 0 = r.toInt64 ∧ M9 = hup M8 out (la 1 h)) ∨ (∃ E, x E M9 ∧ ((E = "java/util/NoSuchElementException" ∧ k = 1)))) nX) := by
  refine Ct.ofH (nL := 4) (by decide +kernel) (Nat.le_of_ble_eq_true rfl) (by simp [Value.category]) htr (fun X => ?_)
  show V l g yL_iceOf cL_iceOf ((some .int)) (tableOf [(0, 9, 12, 34)]) (L2 + 1) mc2 ms2 (RI (fun k M9 => (k = 0 ∧ ∃ r M8 h, f r M8 ∧ h 0 = r.toInt64 ∧ M9 = hup M8 out (la 1 h)) ∨ (∃ E, x E M9 ∧ ((E = "java/util/NoSuchElementException" ∧ k = 1)))) nX) X M 0 0 0 [some (.ref p), some (.int b0), some (.ref out), none] []
  refine v_aload_n dL_iceOf_0 rfl rfl ?_
  refine v_iconst (v := 0) dL_iceOf_1 (by decide) ?_
  refine v_aload_n dL_iceOf_2 rfl rfl ?_
  refine v_iload_n dL_iceOf_3 rfl rfl ?_
  refine k_L_116 dL_iceOf_4 rfl hM hp (Nat.le_refl _) (by omega) (by omega) (Nat.le_of_ble_eq_true rfl) (fun r4 M9 h9 => ?_) (fun E M9 h9 => ?_)
  obtain ⟨h0, ho9⟩ := ho _ _ h9
  refine v_i2l dL_iceOf_7 ?_
  refine v_last dL_iceOf_8 ho9 ?_
  refine v_goto (tgt := 15) dL_iceOf_9 (by decide) ?_
  refine v_iconst (v := 0) dL_iceOf_15 (by decide) ?_
  exact v_iret dL_iceOf_16 rfl (Or.inl ⟨rfl, _, _, _, h9, rfl, rfl⟩) (by omega) (by omega)
  obtain rfl := hx E M9 h9
  refine VX.catch (own := "SledgePostLaw") (name := "java/util/NoSuchElementException") (pre := []) (suf := []) (x := ⟨0, 9, 12, 34⟩) rfl rfl (fun z hz => nomatch hz) (by decide) (by decide) (Ut_of (mt_4 111 rfl) rfl) (mt_3 217 rfl) (fun q9 => ?_)
  refine v_astore_3 dL_iceOf_12 ?_
  refine v_iconst (v := 1) dL_iceOf_13 (by decide) ?_
  exact v_iret dL_iceOf_14 rfl (Or.inr ⟨_, h9, ⟨rfl, rfl⟩⟩) (by omega) (by omega)
abbrev K_L_isOpen (l : Launch) (g : Nat → Nat) (L mc ms : Nat) (av : List Value) (M : LH) (Po : Res → LH → Prop) : Prop := Ct l g yL_isOpen (.codeWith yL_isOpen cL_isOpen 4 (some .int) [(0, 16, 19, 34)]) L mc ms av M Po
theorem ck_L_isOpen : cOk yL_isOpen 3 := ⟨by decide +kernel, by decide +kernel, by decide +kernel⟩
theorem dL_isOpen_0 : decode cL_isOpen 0 = .ok (.aload_n 2, 1) := by decide +kernel
theorem dL_isOpen_1 : decode cL_isOpen 1 = .ok (.iconst 0, 1) := by decide +kernel
theorem dL_isOpen_2 : decode cL_isOpen 2 = .ok (.aload_n 0, 1) := by decide +kernel
theorem dL_isOpen_3 : decode cL_isOpen 3 = .ok (.iload_n 1, 1) := by decide +kernel
theorem dL_isOpen_4 : decode cL_isOpen 4 = .ok (.invokevirtual 119, 3) := by decide +kernel
theorem dL_isOpen_7 : decode cL_isOpen 7 = .ok (.ifCond .eq 7, 3) := by decide +kernel
theorem dL_isOpen_10 : decode cL_isOpen 10 = .ok (.lconst 1, 1) := by decide +kernel
theorem dL_isOpen_11 : decode cL_isOpen 11 = .ok (.goto 4, 3) := by decide +kernel
theorem dL_isOpen_14 : decode cL_isOpen 14 = .ok (.lconst 0, 1) := by decide +kernel
theorem dL_isOpen_15 : decode cL_isOpen 15 = .ok (.lastore, 1) := by decide +kernel
theorem dL_isOpen_16 : decode cL_isOpen 16 = .ok (.goto 6, 3) := by decide +kernel
theorem dL_isOpen_19 : decode cL_isOpen 19 = .ok (.astore_n 3, 1) := by decide +kernel
theorem dL_isOpen_20 : decode cL_isOpen 20 = .ok (.iconst 1, 1) := by decide +kernel
theorem dL_isOpen_21 : decode cL_isOpen 21 = .ok (.ireturn, 1) := by decide +kernel
theorem dL_isOpen_22 : decode cL_isOpen 22 = .ok (.iconst 0, 1) := by decide +kernel
theorem dL_isOpen_23 : decode cL_isOpen 23 = .ok (.ireturn, 1) := by decide +kernel
set_option maxRecDepth 100000 in
set_option maxHeartbeats 4000000 in
theorem w_L_isOpen {l : Launch} {g : Nat → Nat} {M : LH} (htr : l.stackTraces = false) {p out : Nat} {b0 : Int32} {fs : List Value} {L2 mc2 ms2 : Nat} {f : Int32 → LH → Prop} {x : String → LH → Prop} (hM : K_X11_isOpen l g L2 mc2 ms2 [.ref p, .int b0] M (RI f x)) (hp : M p = some (ob 9 fs)) (ho : ∀ r M9, f r M9 → ∃ h, M9 out = some (la 1 h)) (hx : ∀ E M9, x E M9 → E = "java/util/NoSuchElementException") : K_L_isOpen l g (L2 + 1) mc2 ms2 [.ref p, .int b0, .ref out] M (RI (fun k M9 => (k = 0 ∧ ∃ r M8 h, f r M8 ∧ h 0 = (if r = 0 then 0 else 1) ∧ M9 = hup M8 out (la 1 h)) ∨ (∃ E, x E M9 ∧ ((E = "java/util/NoSuchElementException" ∧ k = 1)))) nX) := by
  refine Ct.ofH (nL := 4) (by decide +kernel) (Nat.le_of_ble_eq_true rfl) (by simp [Value.category]) htr (fun X => ?_)
  show V l g yL_isOpen cL_isOpen ((some .int)) (tableOf [(0, 16, 19, 34)]) (L2 + 1) mc2 ms2 (RI (fun k M9 => (k = 0 ∧ ∃ r M8 h, f r M8 ∧ h 0 = (if r = 0 then 0 else 1) ∧ M9 = hup M8 out (la 1 h)) ∨ (∃ E, x E M9 ∧ ((E = "java/util/NoSuchElementException" ∧ k = 1)))) nX) X M 0 0 0 [some (.ref p), some (.int b0), some (.ref out), none] []
  refine v_aload_n dL_isOpen_0 rfl rfl ?_
  refine v_iconst (v := 0) dL_isOpen_1 (by decide) ?_
  refine v_aload_n dL_isOpen_2 rfl rfl ?_
  refine v_iload_n dL_isOpen_3 rfl rfl ?_
  refine k_L_119 dL_isOpen_4 rfl hM hp (Nat.le_refl _) (by omega) (by omega) (Nat.le_of_ble_eq_true rfl) (fun r4 M9 h9 => ?_) (fun E M9 h9 => ?_)
  obtain ⟨h0, ho9⟩ := ho _ _ h9
  refine v_if_eq (tgt := 14) dL_isOpen_7 (by decide) (fun h7 => ?_) (fun h7 => ?_)
  · refine v_lconst (v := 0) dL_isOpen_14 (by decide) ?_
    refine v_last dL_isOpen_15 ho9 ?_
    refine v_goto (tgt := 22) dL_isOpen_16 (by decide) ?_
    refine v_iconst (v := 0) dL_isOpen_22 (by decide) ?_
    exact v_iret dL_isOpen_23 rfl (Or.inl ⟨rfl, _, _, _, h9, (by first | exact (if_pos h7).symm | exact (if_neg h7).symm), rfl⟩) (by omega) (by omega)
  · refine v_lconst (v := 1) dL_isOpen_10 (by decide) ?_
    refine v_goto (tgt := 15) dL_isOpen_11 (by decide) ?_
    refine v_last dL_isOpen_15 ho9 ?_
    refine v_goto (tgt := 22) dL_isOpen_16 (by decide) ?_
    refine v_iconst (v := 0) dL_isOpen_22 (by decide) ?_
    exact v_iret dL_isOpen_23 rfl (Or.inl ⟨rfl, _, _, _, h9, (by first | exact (if_pos h7).symm | exact (if_neg h7).symm), rfl⟩) (by omega) (by omega)
  obtain rfl := hx E M9 h9
  refine VX.catch (own := "SledgePostLaw") (name := "java/util/NoSuchElementException") (pre := []) (suf := []) (x := ⟨0, 16, 19, 34⟩) rfl rfl (fun z hz => nomatch hz) (by decide) (by decide) (Ut_of (mt_4 111 rfl) rfl) (mt_3 217 rfl) (fun q9 => ?_)
  refine v_astore_3 dL_isOpen_19 ?_
  refine v_iconst (v := 1) dL_isOpen_20 (by decide) ?_
  exact v_iret dL_isOpen_21 rfl (Or.inr ⟨_, h9, ⟨rfl, rfl⟩⟩) (by omega) (by omega)
abbrev K_L_sledgeOf (l : Launch) (g : Nat → Nat) (L mc ms : Nat) (av : List Value) (M : LH) (Po : Res → LH → Prop) : Prop := Ct l g yL_sledgeOf (.codeWith yL_sledgeOf cL_sledgeOf 4 (some .int) [(0, 9, 12, 34)]) L mc ms av M Po
theorem ck_L_sledgeOf : cOk yL_sledgeOf 3 := ⟨by decide +kernel, by decide +kernel, by decide +kernel⟩
theorem dL_sledgeOf_0 : decode cL_sledgeOf 0 = .ok (.aload_n 2, 1) := by decide +kernel
theorem dL_sledgeOf_1 : decode cL_sledgeOf 1 = .ok (.iconst 0, 1) := by decide +kernel
theorem dL_sledgeOf_2 : decode cL_sledgeOf 2 = .ok (.aload_n 0, 1) := by decide +kernel
theorem dL_sledgeOf_3 : decode cL_sledgeOf 3 = .ok (.iload_n 1, 1) := by decide +kernel
theorem dL_sledgeOf_4 : decode cL_sledgeOf 4 = .ok (.invokevirtual 122, 3) := by decide +kernel
theorem dL_sledgeOf_7 : decode cL_sledgeOf 7 = .ok (.i2l, 1) := by decide +kernel
theorem dL_sledgeOf_8 : decode cL_sledgeOf 8 = .ok (.lastore, 1) := by decide +kernel
theorem dL_sledgeOf_9 : decode cL_sledgeOf 9 = .ok (.goto 6, 3) := by decide +kernel
theorem dL_sledgeOf_12 : decode cL_sledgeOf 12 = .ok (.astore_n 3, 1) := by decide +kernel
theorem dL_sledgeOf_13 : decode cL_sledgeOf 13 = .ok (.iconst 1, 1) := by decide +kernel
theorem dL_sledgeOf_14 : decode cL_sledgeOf 14 = .ok (.ireturn, 1) := by decide +kernel
theorem dL_sledgeOf_15 : decode cL_sledgeOf 15 = .ok (.iconst 0, 1) := by decide +kernel
theorem dL_sledgeOf_16 : decode cL_sledgeOf 16 = .ok (.ireturn, 1) := by decide +kernel
set_option maxRecDepth 100000 in
set_option maxHeartbeats 4000000 in
theorem w_L_sledgeOf {l : Launch} {g : Nat → Nat} {M : LH} (htr : l.stackTraces = false) {p out : Nat} {b0 : Int32} {fs : List Value} {L2 mc2 ms2 : Nat} {f : Int32 → LH → Prop} {x : String → LH → Prop} (hM : K_X11_sledgeOf l g L2 mc2 ms2 [.ref p, .int b0] M (RI f x)) (hp : M p = some (ob 9 fs)) (ho : ∀ r M9, f r M9 → ∃ h, M9 out = some (la 1 h)) (hx : ∀ E M9, x E M9 → E = "java/util/NoSuchElementException") : K_L_sledgeOf l g (L2 + 1) mc2 ms2 [.ref p, .int b0, .ref out] M (RI (fun k M9 => (k = 0 ∧ ∃ r M8 h, f r M8 ∧ h 0 = r.toInt64 ∧ M9 = hup M8 out (la 1 h)) ∨ (∃ E, x E M9 ∧ ((E = "java/util/NoSuchElementException" ∧ k = 1)))) nX) := by
  refine Ct.ofH (nL := 4) (by decide +kernel) (Nat.le_of_ble_eq_true rfl) (by simp [Value.category]) htr (fun X => ?_)
  show V l g yL_sledgeOf cL_sledgeOf ((some .int)) (tableOf [(0, 9, 12, 34)]) (L2 + 1) mc2 ms2 (RI (fun k M9 => (k = 0 ∧ ∃ r M8 h, f r M8 ∧ h 0 = r.toInt64 ∧ M9 = hup M8 out (la 1 h)) ∨ (∃ E, x E M9 ∧ ((E = "java/util/NoSuchElementException" ∧ k = 1)))) nX) X M 0 0 0 [some (.ref p), some (.int b0), some (.ref out), none] []
  refine v_aload_n dL_sledgeOf_0 rfl rfl ?_
  refine v_iconst (v := 0) dL_sledgeOf_1 (by decide) ?_
  refine v_aload_n dL_sledgeOf_2 rfl rfl ?_
  refine v_iload_n dL_sledgeOf_3 rfl rfl ?_
  refine k_L_122 dL_sledgeOf_4 rfl hM hp (Nat.le_refl _) (by omega) (by omega) (Nat.le_of_ble_eq_true rfl) (fun r4 M9 h9 => ?_) (fun E M9 h9 => ?_)
  obtain ⟨h0, ho9⟩ := ho _ _ h9
  refine v_i2l dL_sledgeOf_7 ?_
  refine v_last dL_sledgeOf_8 ho9 ?_
  refine v_goto (tgt := 15) dL_sledgeOf_9 (by decide) ?_
  refine v_iconst (v := 0) dL_sledgeOf_15 (by decide) ?_
  exact v_iret dL_sledgeOf_16 rfl (Or.inl ⟨rfl, _, _, _, h9, rfl, rfl⟩) (by omega) (by omega)
  obtain rfl := hx E M9 h9
  refine VX.catch (own := "SledgePostLaw") (name := "java/util/NoSuchElementException") (pre := []) (suf := []) (x := ⟨0, 9, 12, 34⟩) rfl rfl (fun z hz => nomatch hz) (by decide) (by decide) (Ut_of (mt_4 111 rfl) rfl) (mt_3 217 rfl) (fun q9 => ?_)
  refine v_astore_3 dL_sledgeOf_12 ?_
  refine v_iconst (v := 1) dL_sledgeOf_13 (by decide) ?_
  exact v_iret dL_sledgeOf_14 rfl (Or.inr ⟨_, h9, ⟨rfl, rfl⟩⟩) (by omega) (by omega)
abbrev K_L_stationOfLetter (l : Launch) (g : Nat → Nat) (L mc ms : Nat) (av : List Value) (M : LH) (Po : Res → LH → Prop) : Prop := Ct l g yL_stationOfLetter (.codeWith yL_stationOfLetter cL_stationOfLetter 4 (some .int) [(0, 9, 12, 34)]) L mc ms av M Po
theorem ck_L_stationOfLetter : cOk yL_stationOfLetter 3 := ⟨by decide +kernel, by decide +kernel, by decide +kernel⟩
theorem dL_stationOfLetter_0 : decode cL_stationOfLetter 0 = .ok (.aload_n 2, 1) := by decide +kernel
theorem dL_stationOfLetter_1 : decode cL_stationOfLetter 1 = .ok (.iconst 0, 1) := by decide +kernel
theorem dL_stationOfLetter_2 : decode cL_stationOfLetter 2 = .ok (.aload_n 0, 1) := by decide +kernel
theorem dL_stationOfLetter_3 : decode cL_stationOfLetter 3 = .ok (.iload_n 1, 1) := by decide +kernel
theorem dL_stationOfLetter_4 : decode cL_stationOfLetter 4 = .ok (.invokevirtual 125, 3) := by decide +kernel
theorem dL_stationOfLetter_7 : decode cL_stationOfLetter 7 = .ok (.i2l, 1) := by decide +kernel
theorem dL_stationOfLetter_8 : decode cL_stationOfLetter 8 = .ok (.lastore, 1) := by decide +kernel
theorem dL_stationOfLetter_9 : decode cL_stationOfLetter 9 = .ok (.goto 6, 3) := by decide +kernel
theorem dL_stationOfLetter_12 : decode cL_stationOfLetter 12 = .ok (.astore_n 3, 1) := by decide +kernel
theorem dL_stationOfLetter_13 : decode cL_stationOfLetter 13 = .ok (.iconst 1, 1) := by decide +kernel
theorem dL_stationOfLetter_14 : decode cL_stationOfLetter 14 = .ok (.ireturn, 1) := by decide +kernel
theorem dL_stationOfLetter_15 : decode cL_stationOfLetter 15 = .ok (.iconst 0, 1) := by decide +kernel
theorem dL_stationOfLetter_16 : decode cL_stationOfLetter 16 = .ok (.ireturn, 1) := by decide +kernel
set_option maxRecDepth 100000 in
set_option maxHeartbeats 4000000 in
theorem w_L_stationOfLetter {l : Launch} {g : Nat → Nat} {M : LH} (htr : l.stackTraces = false) {p out : Nat} {b0 : Int32} {fs : List Value} {L2 mc2 ms2 : Nat} {f : Int32 → LH → Prop} {x : String → LH → Prop} (hM : K_X11_stationOfLetter l g L2 mc2 ms2 [.ref p, .int b0] M (RI f x)) (hp : M p = some (ob 9 fs)) (ho : ∀ r M9, f r M9 → ∃ h, M9 out = some (la 1 h)) (hx : ∀ E M9, x E M9 → E = "java/util/NoSuchElementException") : K_L_stationOfLetter l g (L2 + 1) mc2 ms2 [.ref p, .int b0, .ref out] M (RI (fun k M9 => (k = 0 ∧ ∃ r M8 h, f r M8 ∧ h 0 = r.toInt64 ∧ M9 = hup M8 out (la 1 h)) ∨ (∃ E, x E M9 ∧ ((E = "java/util/NoSuchElementException" ∧ k = 1)))) nX) := by
  refine Ct.ofH (nL := 4) (by decide +kernel) (Nat.le_of_ble_eq_true rfl) (by simp [Value.category]) htr (fun X => ?_)
  show V l g yL_stationOfLetter cL_stationOfLetter ((some .int)) (tableOf [(0, 9, 12, 34)]) (L2 + 1) mc2 ms2 (RI (fun k M9 => (k = 0 ∧ ∃ r M8 h, f r M8 ∧ h 0 = r.toInt64 ∧ M9 = hup M8 out (la 1 h)) ∨ (∃ E, x E M9 ∧ ((E = "java/util/NoSuchElementException" ∧ k = 1)))) nX) X M 0 0 0 [some (.ref p), some (.int b0), some (.ref out), none] []
  refine v_aload_n dL_stationOfLetter_0 rfl rfl ?_
  refine v_iconst (v := 0) dL_stationOfLetter_1 (by decide) ?_
  refine v_aload_n dL_stationOfLetter_2 rfl rfl ?_
  refine v_iload_n dL_stationOfLetter_3 rfl rfl ?_
  refine k_L_125 dL_stationOfLetter_4 rfl hM hp (Nat.le_refl _) (by omega) (by omega) (Nat.le_of_ble_eq_true rfl) (fun r4 M9 h9 => ?_) (fun E M9 h9 => ?_)
  obtain ⟨h0, ho9⟩ := ho _ _ h9
  refine v_i2l dL_stationOfLetter_7 ?_
  refine v_last dL_stationOfLetter_8 ho9 ?_
  refine v_goto (tgt := 15) dL_stationOfLetter_9 (by decide) ?_
  refine v_iconst (v := 0) dL_stationOfLetter_15 (by decide) ?_
  exact v_iret dL_stationOfLetter_16 rfl (Or.inl ⟨rfl, _, _, _, h9, rfl, rfl⟩) (by omega) (by omega)
  obtain rfl := hx E M9 h9
  refine VX.catch (own := "SledgePostLaw") (name := "java/util/NoSuchElementException") (pre := []) (suf := []) (x := ⟨0, 9, 12, 34⟩) rfl rfl (fun z hz => nomatch hz) (by decide) (by decide) (Ut_of (mt_4 111 rfl) rfl) (mt_3 217 rfl) (fun q9 => ?_)
  refine v_astore_3 dL_stationOfLetter_12 ?_
  refine v_iconst (v := 1) dL_stationOfLetter_13 (by decide) ?_
  exact v_iret dL_stationOfLetter_14 rfl (Or.inr ⟨_, h9, ⟨rfl, rfl⟩⟩) (by omega) (by omega)
abbrev K_L_hoursUntilOpen (l : Launch) (g : Nat → Nat) (L mc ms : Nat) (av : List Value) (M : LH) (Po : Res → LH → Prop) : Prop := Ct l g yL_hoursUntilOpen (.codeWith yL_hoursUntilOpen cL_hoursUntilOpen 4 (some .int) [(0, 9, 12, 34)]) L mc ms av M Po
theorem ck_L_hoursUntilOpen : cOk yL_hoursUntilOpen 3 := ⟨by decide +kernel, by decide +kernel, by decide +kernel⟩
theorem dL_hoursUntilOpen_0 : decode cL_hoursUntilOpen 0 = .ok (.aload_n 2, 1) := by decide +kernel
theorem dL_hoursUntilOpen_1 : decode cL_hoursUntilOpen 1 = .ok (.iconst 0, 1) := by decide +kernel
theorem dL_hoursUntilOpen_2 : decode cL_hoursUntilOpen 2 = .ok (.aload_n 0, 1) := by decide +kernel
theorem dL_hoursUntilOpen_3 : decode cL_hoursUntilOpen 3 = .ok (.iload_n 1, 1) := by decide +kernel
theorem dL_hoursUntilOpen_4 : decode cL_hoursUntilOpen 4 = .ok (.invokevirtual 128, 3) := by decide +kernel
theorem dL_hoursUntilOpen_7 : decode cL_hoursUntilOpen 7 = .ok (.i2l, 1) := by decide +kernel
theorem dL_hoursUntilOpen_8 : decode cL_hoursUntilOpen 8 = .ok (.lastore, 1) := by decide +kernel
theorem dL_hoursUntilOpen_9 : decode cL_hoursUntilOpen 9 = .ok (.goto 6, 3) := by decide +kernel
theorem dL_hoursUntilOpen_12 : decode cL_hoursUntilOpen 12 = .ok (.astore_n 3, 1) := by decide +kernel
theorem dL_hoursUntilOpen_13 : decode cL_hoursUntilOpen 13 = .ok (.iconst 1, 1) := by decide +kernel
theorem dL_hoursUntilOpen_14 : decode cL_hoursUntilOpen 14 = .ok (.ireturn, 1) := by decide +kernel
theorem dL_hoursUntilOpen_15 : decode cL_hoursUntilOpen 15 = .ok (.iconst 0, 1) := by decide +kernel
theorem dL_hoursUntilOpen_16 : decode cL_hoursUntilOpen 16 = .ok (.ireturn, 1) := by decide +kernel
set_option maxRecDepth 100000 in
set_option maxHeartbeats 4000000 in
theorem w_L_hoursUntilOpen {l : Launch} {g : Nat → Nat} {M : LH} (htr : l.stackTraces = false) {p out : Nat} {b0 : Int32} {fs : List Value} {L2 mc2 ms2 : Nat} {f : Int32 → LH → Prop} {x : String → LH → Prop} (hM : K_X11_hoursUntilOpen l g L2 mc2 ms2 [.ref p, .int b0] M (RI f x)) (hp : M p = some (ob 9 fs)) (ho : ∀ r M9, f r M9 → ∃ h, M9 out = some (la 1 h)) (hx : ∀ E M9, x E M9 → E = "java/util/NoSuchElementException") : K_L_hoursUntilOpen l g (L2 + 1) mc2 ms2 [.ref p, .int b0, .ref out] M (RI (fun k M9 => (k = 0 ∧ ∃ r M8 h, f r M8 ∧ h 0 = r.toInt64 ∧ M9 = hup M8 out (la 1 h)) ∨ (∃ E, x E M9 ∧ ((E = "java/util/NoSuchElementException" ∧ k = 1)))) nX) := by
  refine Ct.ofH (nL := 4) (by decide +kernel) (Nat.le_of_ble_eq_true rfl) (by simp [Value.category]) htr (fun X => ?_)
  show V l g yL_hoursUntilOpen cL_hoursUntilOpen ((some .int)) (tableOf [(0, 9, 12, 34)]) (L2 + 1) mc2 ms2 (RI (fun k M9 => (k = 0 ∧ ∃ r M8 h, f r M8 ∧ h 0 = r.toInt64 ∧ M9 = hup M8 out (la 1 h)) ∨ (∃ E, x E M9 ∧ ((E = "java/util/NoSuchElementException" ∧ k = 1)))) nX) X M 0 0 0 [some (.ref p), some (.int b0), some (.ref out), none] []
  refine v_aload_n dL_hoursUntilOpen_0 rfl rfl ?_
  refine v_iconst (v := 0) dL_hoursUntilOpen_1 (by decide) ?_
  refine v_aload_n dL_hoursUntilOpen_2 rfl rfl ?_
  refine v_iload_n dL_hoursUntilOpen_3 rfl rfl ?_
  refine k_L_128 dL_hoursUntilOpen_4 rfl hM hp (Nat.le_refl _) (by omega) (by omega) (Nat.le_of_ble_eq_true rfl) (fun r4 M9 h9 => ?_) (fun E M9 h9 => ?_)
  obtain ⟨h0, ho9⟩ := ho _ _ h9
  refine v_i2l dL_hoursUntilOpen_7 ?_
  refine v_last dL_hoursUntilOpen_8 ho9 ?_
  refine v_goto (tgt := 15) dL_hoursUntilOpen_9 (by decide) ?_
  refine v_iconst (v := 0) dL_hoursUntilOpen_15 (by decide) ?_
  exact v_iret dL_hoursUntilOpen_16 rfl (Or.inl ⟨rfl, _, _, _, h9, rfl, rfl⟩) (by omega) (by omega)
  obtain rfl := hx E M9 h9
  refine VX.catch (own := "SledgePostLaw") (name := "java/util/NoSuchElementException") (pre := []) (suf := []) (x := ⟨0, 9, 12, 34⟩) rfl rfl (fun z hz => nomatch hz) (by decide) (by decide) (Ut_of (mt_4 111 rfl) rfl) (mt_3 217 rfl) (fun q9 => ?_)
  refine v_astore_3 dL_hoursUntilOpen_12 ?_
  refine v_iconst (v := 1) dL_hoursUntilOpen_13 (by decide) ?_
  exact v_iret dL_hoursUntilOpen_14 rfl (Or.inr ⟨_, h9, ⟨rfl, rfl⟩⟩) (by omega) (by omega)
abbrev K_L_letterByFee (l : Launch) (g : Nat → Nat) (L mc ms : Nat) (av : List Value) (M : LH) (Po : Res → LH → Prop) : Prop := Ct l g yL_letterByFee (.codeWith yL_letterByFee cL_letterByFee 4 (some .int) [(0, 9, 12, 34)]) L mc ms av M Po
theorem ck_L_letterByFee : cOk yL_letterByFee 3 := ⟨by decide +kernel, by decide +kernel, by decide +kernel⟩
theorem dL_letterByFee_0 : decode cL_letterByFee 0 = .ok (.aload_n 2, 1) := by decide +kernel
theorem dL_letterByFee_1 : decode cL_letterByFee 1 = .ok (.iconst 0, 1) := by decide +kernel
theorem dL_letterByFee_2 : decode cL_letterByFee 2 = .ok (.aload_n 0, 1) := by decide +kernel
theorem dL_letterByFee_3 : decode cL_letterByFee 3 = .ok (.iload_n 1, 1) := by decide +kernel
theorem dL_letterByFee_4 : decode cL_letterByFee 4 = .ok (.invokevirtual 131, 3) := by decide +kernel
theorem dL_letterByFee_7 : decode cL_letterByFee 7 = .ok (.i2l, 1) := by decide +kernel
theorem dL_letterByFee_8 : decode cL_letterByFee 8 = .ok (.lastore, 1) := by decide +kernel
theorem dL_letterByFee_9 : decode cL_letterByFee 9 = .ok (.goto 6, 3) := by decide +kernel
theorem dL_letterByFee_12 : decode cL_letterByFee 12 = .ok (.astore_n 3, 1) := by decide +kernel
theorem dL_letterByFee_13 : decode cL_letterByFee 13 = .ok (.iconst 1, 1) := by decide +kernel
theorem dL_letterByFee_14 : decode cL_letterByFee 14 = .ok (.ireturn, 1) := by decide +kernel
theorem dL_letterByFee_15 : decode cL_letterByFee 15 = .ok (.iconst 0, 1) := by decide +kernel
theorem dL_letterByFee_16 : decode cL_letterByFee 16 = .ok (.ireturn, 1) := by decide +kernel
set_option maxRecDepth 100000 in
set_option maxHeartbeats 4000000 in
theorem w_L_letterByFee {l : Launch} {g : Nat → Nat} {M : LH} (htr : l.stackTraces = false) {p out : Nat} {b0 : Int32} {fs : List Value} {L2 mc2 ms2 : Nat} {f : Int32 → LH → Prop} {x : String → LH → Prop} (hM : K_X11_letterByFee l g L2 mc2 ms2 [.ref p, .int b0] M (RI f x)) (hp : M p = some (ob 9 fs)) (ho : ∀ r M9, f r M9 → ∃ h, M9 out = some (la 1 h)) (hx : ∀ E M9, x E M9 → E = "java/util/NoSuchElementException") : K_L_letterByFee l g (L2 + 1) mc2 ms2 [.ref p, .int b0, .ref out] M (RI (fun k M9 => (k = 0 ∧ ∃ r M8 h, f r M8 ∧ h 0 = r.toInt64 ∧ M9 = hup M8 out (la 1 h)) ∨ (∃ E, x E M9 ∧ ((E = "java/util/NoSuchElementException" ∧ k = 1)))) nX) := by
  refine Ct.ofH (nL := 4) (by decide +kernel) (Nat.le_of_ble_eq_true rfl) (by simp [Value.category]) htr (fun X => ?_)
  show V l g yL_letterByFee cL_letterByFee ((some .int)) (tableOf [(0, 9, 12, 34)]) (L2 + 1) mc2 ms2 (RI (fun k M9 => (k = 0 ∧ ∃ r M8 h, f r M8 ∧ h 0 = r.toInt64 ∧ M9 = hup M8 out (la 1 h)) ∨ (∃ E, x E M9 ∧ ((E = "java/util/NoSuchElementException" ∧ k = 1)))) nX) X M 0 0 0 [some (.ref p), some (.int b0), some (.ref out), none] []
  refine v_aload_n dL_letterByFee_0 rfl rfl ?_
  refine v_iconst (v := 0) dL_letterByFee_1 (by decide) ?_
  refine v_aload_n dL_letterByFee_2 rfl rfl ?_
  refine v_iload_n dL_letterByFee_3 rfl rfl ?_
  refine k_L_131 dL_letterByFee_4 rfl hM hp (Nat.le_refl _) (by omega) (by omega) (Nat.le_of_ble_eq_true rfl) (fun r4 M9 h9 => ?_) (fun E M9 h9 => ?_)
  obtain ⟨h0, ho9⟩ := ho _ _ h9
  refine v_i2l dL_letterByFee_7 ?_
  refine v_last dL_letterByFee_8 ho9 ?_
  refine v_goto (tgt := 15) dL_letterByFee_9 (by decide) ?_
  refine v_iconst (v := 0) dL_letterByFee_15 (by decide) ?_
  exact v_iret dL_letterByFee_16 rfl (Or.inl ⟨rfl, _, _, _, h9, rfl, rfl⟩) (by omega) (by omega)
  obtain rfl := hx E M9 h9
  refine VX.catch (own := "SledgePostLaw") (name := "java/util/NoSuchElementException") (pre := []) (suf := []) (x := ⟨0, 9, 12, 34⟩) rfl rfl (fun z hz => nomatch hz) (by decide) (by decide) (Ut_of (mt_4 111 rfl) rfl) (mt_3 217 rfl) (fun q9 => ?_)
  refine v_astore_3 dL_letterByFee_12 ?_
  refine v_iconst (v := 1) dL_letterByFee_13 (by decide) ?_
  exact v_iret dL_letterByFee_14 rfl (Or.inr ⟨_, h9, ⟨rfl, rfl⟩⟩) (by omega) (by omega)
abbrev K_L_codeOf (l : Launch) (g : Nat → Nat) (L mc ms : Nat) (av : List Value) (M : LH) (Po : Res → LH → Prop) : Prop := Ct l g yL_codeOf (.codeWith yL_codeOf cL_codeOf 4 (some .int) [(0, 9, 12, 34)]) L mc ms av M Po
theorem ck_L_codeOf : cOk yL_codeOf 3 := ⟨by decide +kernel, by decide +kernel, by decide +kernel⟩
theorem dL_codeOf_0 : decode cL_codeOf 0 = .ok (.aload_n 2, 1) := by decide +kernel
theorem dL_codeOf_1 : decode cL_codeOf 1 = .ok (.iconst 0, 1) := by decide +kernel
theorem dL_codeOf_2 : decode cL_codeOf 2 = .ok (.aload_n 0, 1) := by decide +kernel
theorem dL_codeOf_3 : decode cL_codeOf 3 = .ok (.iload_n 1, 1) := by decide +kernel
theorem dL_codeOf_4 : decode cL_codeOf 4 = .ok (.invokevirtual 134, 3) := by decide +kernel
theorem dL_codeOf_7 : decode cL_codeOf 7 = .ok (.i2l, 1) := by decide +kernel
theorem dL_codeOf_8 : decode cL_codeOf 8 = .ok (.lastore, 1) := by decide +kernel
theorem dL_codeOf_9 : decode cL_codeOf 9 = .ok (.goto 6, 3) := by decide +kernel
theorem dL_codeOf_12 : decode cL_codeOf 12 = .ok (.astore_n 3, 1) := by decide +kernel
theorem dL_codeOf_13 : decode cL_codeOf 13 = .ok (.iconst 1, 1) := by decide +kernel
theorem dL_codeOf_14 : decode cL_codeOf 14 = .ok (.ireturn, 1) := by decide +kernel
theorem dL_codeOf_15 : decode cL_codeOf 15 = .ok (.iconst 0, 1) := by decide +kernel
theorem dL_codeOf_16 : decode cL_codeOf 16 = .ok (.ireturn, 1) := by decide +kernel
set_option maxRecDepth 100000 in
set_option maxHeartbeats 4000000 in
theorem w_L_codeOf {l : Launch} {g : Nat → Nat} {M : LH} (htr : l.stackTraces = false) {p out : Nat} {b0 : Int32} {fs : List Value} {L2 mc2 ms2 : Nat} {f : Int32 → LH → Prop} {x : String → LH → Prop} (hM : K_X11_codeOf l g L2 mc2 ms2 [.ref p, .int b0] M (RI f x)) (hp : M p = some (ob 9 fs)) (ho : ∀ r M9, f r M9 → ∃ h, M9 out = some (la 1 h)) (hx : ∀ E M9, x E M9 → E = "java/util/NoSuchElementException") : K_L_codeOf l g (L2 + 1) mc2 ms2 [.ref p, .int b0, .ref out] M (RI (fun k M9 => (k = 0 ∧ ∃ r M8 h, f r M8 ∧ h 0 = r.toInt64 ∧ M9 = hup M8 out (la 1 h)) ∨ (∃ E, x E M9 ∧ ((E = "java/util/NoSuchElementException" ∧ k = 1)))) nX) := by
  refine Ct.ofH (nL := 4) (by decide +kernel) (Nat.le_of_ble_eq_true rfl) (by simp [Value.category]) htr (fun X => ?_)
  show V l g yL_codeOf cL_codeOf ((some .int)) (tableOf [(0, 9, 12, 34)]) (L2 + 1) mc2 ms2 (RI (fun k M9 => (k = 0 ∧ ∃ r M8 h, f r M8 ∧ h 0 = r.toInt64 ∧ M9 = hup M8 out (la 1 h)) ∨ (∃ E, x E M9 ∧ ((E = "java/util/NoSuchElementException" ∧ k = 1)))) nX) X M 0 0 0 [some (.ref p), some (.int b0), some (.ref out), none] []
  refine v_aload_n dL_codeOf_0 rfl rfl ?_
  refine v_iconst (v := 0) dL_codeOf_1 (by decide) ?_
  refine v_aload_n dL_codeOf_2 rfl rfl ?_
  refine v_iload_n dL_codeOf_3 rfl rfl ?_
  refine k_L_134 dL_codeOf_4 rfl hM hp (Nat.le_refl _) (by omega) (by omega) (Nat.le_of_ble_eq_true rfl) (fun r4 M9 h9 => ?_) (fun E M9 h9 => ?_)
  obtain ⟨h0, ho9⟩ := ho _ _ h9
  refine v_i2l dL_codeOf_7 ?_
  refine v_last dL_codeOf_8 ho9 ?_
  refine v_goto (tgt := 15) dL_codeOf_9 (by decide) ?_
  refine v_iconst (v := 0) dL_codeOf_15 (by decide) ?_
  exact v_iret dL_codeOf_16 rfl (Or.inl ⟨rfl, _, _, _, h9, rfl, rfl⟩) (by omega) (by omega)
  obtain rfl := hx E M9 h9
  refine VX.catch (own := "SledgePostLaw") (name := "java/util/NoSuchElementException") (pre := []) (suf := []) (x := ⟨0, 9, 12, 34⟩) rfl rfl (fun z hz => nomatch hz) (by decide) (by decide) (Ut_of (mt_4 111 rfl) rfl) (mt_3 217 rfl) (fun q9 => ?_)
  refine v_astore_3 dL_codeOf_12 ?_
  refine v_iconst (v := 1) dL_codeOf_13 (by decide) ?_
  exact v_iret dL_codeOf_14 rfl (Or.inr ⟨_, h9, ⟨rfl, rfl⟩⟩) (by omega) (by omega)
abbrev K_L_letterByCode (l : Launch) (g : Nat → Nat) (L mc ms : Nat) (av : List Value) (M : LH) (Po : Res → LH → Prop) : Prop := Ct l g yL_letterByCode (.codeWith yL_letterByCode cL_letterByCode 4 (some .int) [(0, 9, 12, 21), (0, 9, 15, 34)]) L mc ms av M Po
theorem ck_L_letterByCode : cOk yL_letterByCode 3 := ⟨by decide +kernel, by decide +kernel, by decide +kernel⟩
theorem dL_letterByCode_0 : decode cL_letterByCode 0 = .ok (.aload_n 2, 1) := by decide +kernel
theorem dL_letterByCode_1 : decode cL_letterByCode 1 = .ok (.iconst 0, 1) := by decide +kernel
theorem dL_letterByCode_2 : decode cL_letterByCode 2 = .ok (.aload_n 0, 1) := by decide +kernel
theorem dL_letterByCode_3 : decode cL_letterByCode 3 = .ok (.iload_n 1, 1) := by decide +kernel
theorem dL_letterByCode_4 : decode cL_letterByCode 4 = .ok (.invokevirtual 137, 3) := by decide +kernel
theorem dL_letterByCode_7 : decode cL_letterByCode 7 = .ok (.i2l, 1) := by decide +kernel
theorem dL_letterByCode_8 : decode cL_letterByCode 8 = .ok (.lastore, 1) := by decide +kernel
theorem dL_letterByCode_9 : decode cL_letterByCode 9 = .ok (.goto 9, 3) := by decide +kernel
theorem dL_letterByCode_12 : decode cL_letterByCode 12 = .ok (.astore_n 3, 1) := by decide +kernel
theorem dL_letterByCode_13 : decode cL_letterByCode 13 = .ok (.iconst 1, 1) := by decide +kernel
theorem dL_letterByCode_14 : decode cL_letterByCode 14 = .ok (.ireturn, 1) := by decide +kernel
theorem dL_letterByCode_15 : decode cL_letterByCode 15 = .ok (.astore_n 3, 1) := by decide +kernel
theorem dL_letterByCode_16 : decode cL_letterByCode 16 = .ok (.iconst 2, 1) := by decide +kernel
theorem dL_letterByCode_17 : decode cL_letterByCode 17 = .ok (.ireturn, 1) := by decide +kernel
theorem dL_letterByCode_18 : decode cL_letterByCode 18 = .ok (.iconst 0, 1) := by decide +kernel
theorem dL_letterByCode_19 : decode cL_letterByCode 19 = .ok (.ireturn, 1) := by decide +kernel
set_option maxRecDepth 100000 in
set_option maxHeartbeats 4000000 in
theorem w_L_letterByCode {l : Launch} {g : Nat → Nat} {M : LH} (htr : l.stackTraces = false) {p out : Nat} {b0 : Int32} {fs : List Value} {L2 mc2 ms2 : Nat} {f : Int32 → LH → Prop} {x : String → LH → Prop} (hM : K_X11_letterByCode l g L2 mc2 ms2 [.ref p, .int b0] M (RI f x)) (hp : M p = some (ob 9 fs)) (ho : ∀ r M9, f r M9 → ∃ h, M9 out = some (la 1 h)) (hx : ∀ E M9, x E M9 → E = "java/lang/IllegalArgumentException" ∨ E = "java/util/NoSuchElementException") : K_L_letterByCode l g (L2 + 1) mc2 ms2 [.ref p, .int b0, .ref out] M (RI (fun k M9 => (k = 0 ∧ ∃ r M8 h, f r M8 ∧ h 0 = r.toInt64 ∧ M9 = hup M8 out (la 1 h)) ∨ (∃ E, x E M9 ∧ ((E = "java/lang/IllegalArgumentException" ∧ k = 1) ∨ (E = "java/util/NoSuchElementException" ∧ k = 2)))) nX) := by
  refine Ct.ofH (nL := 4) (by decide +kernel) (Nat.le_of_ble_eq_true rfl) (by simp [Value.category]) htr (fun X => ?_)
  show V l g yL_letterByCode cL_letterByCode ((some .int)) (tableOf [(0, 9, 12, 21), (0, 9, 15, 34)]) (L2 + 1) mc2 ms2 (RI (fun k M9 => (k = 0 ∧ ∃ r M8 h, f r M8 ∧ h 0 = r.toInt64 ∧ M9 = hup M8 out (la 1 h)) ∨ (∃ E, x E M9 ∧ ((E = "java/lang/IllegalArgumentException" ∧ k = 1) ∨ (E = "java/util/NoSuchElementException" ∧ k = 2)))) nX) X M 0 0 0 [some (.ref p), some (.int b0), some (.ref out), none] []
  refine v_aload_n dL_letterByCode_0 rfl rfl ?_
  refine v_iconst (v := 0) dL_letterByCode_1 (by decide) ?_
  refine v_aload_n dL_letterByCode_2 rfl rfl ?_
  refine v_iload_n dL_letterByCode_3 rfl rfl ?_
  refine k_L_137 dL_letterByCode_4 rfl hM hp (Nat.le_refl _) (by omega) (by omega) (Nat.le_of_ble_eq_true rfl) (fun r4 M9 h9 => ?_) (fun E M9 h9 => ?_)
  obtain ⟨h0, ho9⟩ := ho _ _ h9
  refine v_i2l dL_letterByCode_7 ?_
  refine v_last dL_letterByCode_8 ho9 ?_
  refine v_goto (tgt := 18) dL_letterByCode_9 (by decide) ?_
  refine v_iconst (v := 0) dL_letterByCode_18 (by decide) ?_
  exact v_iret dL_letterByCode_19 rfl (Or.inl ⟨rfl, _, _, _, h9, rfl, rfl⟩) (by omega) (by omega)
  rcases hx E M9 h9 with rfl | rfl
  · refine VX.catch (own := "SledgePostLaw") (name := "java/lang/IllegalArgumentException") (pre := []) (suf := [⟨0, 9, 15, 34⟩]) (x := ⟨0, 9, 12, 21⟩) rfl rfl (fun z hz => nomatch hz) (by decide) (by decide) (Ut_of (mt_4 58 rfl) rfl) (mt_3 199 rfl) (fun q9 => ?_)
    refine v_astore_3 dL_letterByCode_12 ?_
    refine v_iconst (v := 1) dL_letterByCode_13 (by decide) ?_
    exact v_iret dL_letterByCode_14 rfl (Or.inr ⟨_, h9, Or.inl ⟨rfl, rfl⟩⟩) (by omega) (by omega)
  · refine VX.catch (own := "SledgePostLaw") (name := "java/util/NoSuchElementException") (pre := [⟨0, 9, 12, 21⟩]) (suf := []) (x := ⟨0, 9, 15, 34⟩) rfl rfl (List.forall_mem_cons.mpr ⟨⟨by decide, "java/lang/IllegalArgumentException", (Ut_of (mt_4 58 rfl) rfl), by decide +kernel⟩, fun z hz => nomatch hz⟩) (by decide) (by decide) (Ut_of (mt_4 111 rfl) rfl) (mt_3 217 rfl) (fun q9 => ?_)
    refine v_astore_3 dL_letterByCode_15 ?_
    refine v_iconst (v := 2) dL_letterByCode_16 (by decide) ?_
    exact v_iret dL_letterByCode_17 rfl (Or.inr ⟨_, h9, Or.inr (⟨rfl, rfl⟩)⟩) (by omega) (by omega)
abbrev K_L_meanIce (l : Launch) (g : Nat → Nat) (L mc ms : Nat) (av : List Value) (M : LH) (Po : Res → LH → Prop) : Prop := Ct l g yL_meanIce (.codeWith yL_meanIce cL_meanIce 3 (some .int) [(0, 7, 10, 144)]) L mc ms av M Po
theorem ck_L_meanIce : cOk yL_meanIce 2 := ⟨by decide +kernel, by decide +kernel, by decide +kernel⟩
theorem dL_meanIce_0 : decode cL_meanIce 0 = .ok (.aload_n 1, 1) := by decide +kernel
theorem dL_meanIce_1 : decode cL_meanIce 1 = .ok (.iconst 0, 1) := by decide +kernel
theorem dL_meanIce_2 : decode cL_meanIce 2 = .ok (.aload_n 0, 1) := by decide +kernel
theorem dL_meanIce_3 : decode cL_meanIce 3 = .ok (.invokevirtual 140, 3) := by decide +kernel
theorem dL_meanIce_6 : decode cL_meanIce 6 = .ok (.dastore, 1) := by decide +kernel
theorem dL_meanIce_7 : decode cL_meanIce 7 = .ok (.goto 6, 3) := by decide +kernel
theorem dL_meanIce_10 : decode cL_meanIce 10 = .ok (.astore_n 2, 1) := by decide +kernel
theorem dL_meanIce_11 : decode cL_meanIce 11 = .ok (.iconst 1, 1) := by decide +kernel
theorem dL_meanIce_12 : decode cL_meanIce 12 = .ok (.ireturn, 1) := by decide +kernel
theorem dL_meanIce_13 : decode cL_meanIce 13 = .ok (.iconst 0, 1) := by decide +kernel
theorem dL_meanIce_14 : decode cL_meanIce 14 = .ok (.ireturn, 1) := by decide +kernel
set_option maxRecDepth 100000 in
set_option maxHeartbeats 4000000 in
theorem w_L_meanIce {l : Launch} {g : Nat → Nat} {M : LH} (htr : l.stackTraces = false) {p out : Nat}  {fs : List Value} {L2 mc2 ms2 : Nat} {f : UInt64 → LH → Prop} {x : String → LH → Prop} (hM : K_X11_meanIce l g L2 mc2 ms2 [.ref p] M (RD f x)) (hp : M p = some (ob 9 fs)) (ho : ∀ r M9, f r M9 → ∃ h, M9 out = some (da 1 h)) (hx : ∀ E M9, x E M9 → E = "java/lang/ArithmeticException") : K_L_meanIce l g (L2 + 1) mc2 ms2 [.ref p, .ref out] M (RI (fun k M9 => (k = 0 ∧ ∃ r M8 h, f r M8 ∧ h 0 = r ∧ M9 = hup M8 out (da 1 h)) ∨ (∃ E, x E M9 ∧ ((E = "java/lang/ArithmeticException" ∧ k = 1)))) nX) := by
  refine Ct.ofH (nL := 3) (by decide +kernel) (Nat.le_of_ble_eq_true rfl) (by simp [Value.category]) htr (fun X => ?_)
  show V l g yL_meanIce cL_meanIce ((some .int)) (tableOf [(0, 7, 10, 144)]) (L2 + 1) mc2 ms2 (RI (fun k M9 => (k = 0 ∧ ∃ r M8 h, f r M8 ∧ h 0 = r ∧ M9 = hup M8 out (da 1 h)) ∨ (∃ E, x E M9 ∧ ((E = "java/lang/ArithmeticException" ∧ k = 1)))) nX) X M 0 0 0 [some (.ref p), some (.ref out), none] []
  refine v_aload_n dL_meanIce_0 rfl rfl ?_
  refine v_iconst (v := 0) dL_meanIce_1 (by decide) ?_
  refine v_aload_n dL_meanIce_2 rfl rfl ?_
  refine k_L_140 dL_meanIce_3 rfl hM hp (Nat.le_refl _) (by omega) (by omega) (Nat.le_of_ble_eq_true rfl) (fun r3 M9 h9 => ?_) (fun E M9 h9 => ?_)
  obtain ⟨h0, ho9⟩ := ho _ _ h9
  refine v_dast dL_meanIce_6 ho9 ?_
  refine v_goto (tgt := 13) dL_meanIce_7 (by decide) ?_
  refine v_iconst (v := 0) dL_meanIce_13 (by decide) ?_
  exact v_iret dL_meanIce_14 rfl (Or.inl ⟨rfl, _, _, _, h9, rfl, rfl⟩) (by omega) (by omega)
  obtain rfl := hx E M9 h9
  refine VX.catch (own := "SledgePostLaw") (name := "java/lang/ArithmeticException") (pre := []) (suf := []) (x := ⟨0, 7, 10, 144⟩) rfl rfl (fun z hz => nomatch hz) (by decide) (by decide) (Ut_of (mt_6 34 rfl) rfl) (mt_6 46 rfl) (fun q9 => ?_)
  refine v_astore_2 dL_meanIce_10 ?_
  refine v_iconst (v := 1) dL_meanIce_11 (by decide) ?_
  exact v_iret dL_meanIce_12 rfl (Or.inr ⟨_, h9, ⟨rfl, rfl⟩⟩) (by omega) (by omega)
abbrev K_L_openShare (l : Launch) (g : Nat → Nat) (L mc ms : Nat) (av : List Value) (M : LH) (Po : Res → LH → Prop) : Prop := Ct l g yL_openShare (.codeWith yL_openShare cL_openShare 3 (some .int) [(0, 8, 11, 144)]) L mc ms av M Po
theorem ck_L_openShare : cOk yL_openShare 2 := ⟨by decide +kernel, by decide +kernel, by decide +kernel⟩
theorem dL_openShare_0 : decode cL_openShare 0 = .ok (.aload_n 1, 1) := by decide +kernel
theorem dL_openShare_1 : decode cL_openShare 1 = .ok (.iconst 0, 1) := by decide +kernel
theorem dL_openShare_2 : decode cL_openShare 2 = .ok (.aload_n 0, 1) := by decide +kernel
theorem dL_openShare_3 : decode cL_openShare 3 = .ok (.invokevirtual 146, 3) := by decide +kernel
theorem dL_openShare_6 : decode cL_openShare 6 = .ok (.f2d, 1) := by decide +kernel
theorem dL_openShare_7 : decode cL_openShare 7 = .ok (.dastore, 1) := by decide +kernel
theorem dL_openShare_8 : decode cL_openShare 8 = .ok (.goto 6, 3) := by decide +kernel
theorem dL_openShare_11 : decode cL_openShare 11 = .ok (.astore_n 2, 1) := by decide +kernel
theorem dL_openShare_12 : decode cL_openShare 12 = .ok (.iconst 1, 1) := by decide +kernel
theorem dL_openShare_13 : decode cL_openShare 13 = .ok (.ireturn, 1) := by decide +kernel
theorem dL_openShare_14 : decode cL_openShare 14 = .ok (.iconst 0, 1) := by decide +kernel
theorem dL_openShare_15 : decode cL_openShare 15 = .ok (.ireturn, 1) := by decide +kernel
set_option maxRecDepth 100000 in
set_option maxHeartbeats 4000000 in
theorem w_L_openShare {l : Launch} {g : Nat → Nat} {M : LH} (htr : l.stackTraces = false) {p out : Nat}  {fs : List Value} {L2 mc2 ms2 : Nat} {f : UInt32 → LH → Prop} {x : String → LH → Prop} (hM : K_X11_openShare l g L2 mc2 ms2 [.ref p] M (RF f x)) (hp : M p = some (ob 9 fs)) (ho : ∀ r M9, f r M9 → ∃ h, M9 out = some (da 1 h)) (hne : ∀ r M9, f r M9 → vf_n64 (FP.f2d r)) (hx : ∀ E M9, x E M9 → E = "java/lang/ArithmeticException") : K_L_openShare l g (L2 + 1) mc2 ms2 [.ref p, .ref out] M (RI (fun k M9 => (k = 0 ∧ ∃ r M8 h, f r M8 ∧ h 0 = FP.f2d r ∧ M9 = hup M8 out (da 1 h)) ∨ (∃ E, x E M9 ∧ ((E = "java/lang/ArithmeticException" ∧ k = 1)))) nX) := by
  refine Ct.ofH (nL := 3) (by decide +kernel) (Nat.le_of_ble_eq_true rfl) (by simp [Value.category]) htr (fun X => ?_)
  show V l g yL_openShare cL_openShare ((some .int)) (tableOf [(0, 8, 11, 144)]) (L2 + 1) mc2 ms2 (RI (fun k M9 => (k = 0 ∧ ∃ r M8 h, f r M8 ∧ h 0 = FP.f2d r ∧ M9 = hup M8 out (da 1 h)) ∨ (∃ E, x E M9 ∧ ((E = "java/lang/ArithmeticException" ∧ k = 1)))) nX) X M 0 0 0 [some (.ref p), some (.ref out), none] []
  refine v_aload_n dL_openShare_0 rfl rfl ?_
  refine v_iconst (v := 0) dL_openShare_1 (by decide) ?_
  refine v_aload_n dL_openShare_2 rfl rfl ?_
  refine k_L_146 dL_openShare_3 rfl hM hp (Nat.le_refl _) (by omega) (by omega) (Nat.le_of_ble_eq_true rfl) (fun r3 M9 h9 => ?_) (fun E M9 h9 => ?_)
  obtain ⟨h0, ho9⟩ := ho _ _ h9
  refine v_f2d dL_openShare_6 (hne _ _ h9) ?_
  refine v_dast dL_openShare_7 ho9 ?_
  refine v_goto (tgt := 14) dL_openShare_8 (by decide) ?_
  refine v_iconst (v := 0) dL_openShare_14 (by decide) ?_
  exact v_iret dL_openShare_15 rfl (Or.inl ⟨rfl, _, _, _, h9, rfl, rfl⟩) (by omega) (by omega)
  obtain rfl := hx E M9 h9
  refine VX.catch (own := "SledgePostLaw") (name := "java/lang/ArithmeticException") (pre := []) (suf := []) (x := ⟨0, 8, 11, 144⟩) rfl rfl (fun z hz => nomatch hz) (by decide) (by decide) (Ut_of (mt_6 34 rfl) rfl) (mt_6 46 rfl) (fun q9 => ?_)
  refine v_astore_2 dL_openShare_11 ?_
  refine v_iconst (v := 1) dL_openShare_12 (by decide) ?_
  exact v_iret dL_openShare_13 rfl (Or.inr ⟨_, h9, ⟨rfl, rfl⟩⟩) (by omega) (by omega)
abbrev K_L_renderSledge (l : Launch) (g : Nat → Nat) (L mc ms : Nat) (av : List Value) (M : LH) (Po : Res → LH → Prop) : Prop := Ct l g yL_renderSledge (.codeWith yL_renderSledge cL_renderSledge 4 (some .int) [(0, 9, 12, 19)]) L mc ms av M Po
theorem ck_L_renderSledge : cOk yL_renderSledge 3 := ⟨by decide +kernel, by decide +kernel, by decide +kernel⟩
theorem dL_renderSledge_0 : decode cL_renderSledge 0 = .ok (.aload_n 2, 1) := by decide +kernel
theorem dL_renderSledge_1 : decode cL_renderSledge 1 = .ok (.iconst 0, 1) := by decide +kernel
theorem dL_renderSledge_2 : decode cL_renderSledge 2 = .ok (.aload_n 0, 1) := by decide +kernel
theorem dL_renderSledge_3 : decode cL_renderSledge 3 = .ok (.iload_n 1, 1) := by decide +kernel
theorem dL_renderSledge_4 : decode cL_renderSledge 4 = .ok (.invokevirtual 150, 3) := by decide +kernel
theorem dL_renderSledge_7 : decode cL_renderSledge 7 = .ok (.i2l, 1) := by decide +kernel
theorem dL_renderSledge_8 : decode cL_renderSledge 8 = .ok (.lastore, 1) := by decide +kernel
theorem dL_renderSledge_9 : decode cL_renderSledge 9 = .ok (.goto 6, 3) := by decide +kernel
theorem dL_renderSledge_12 : decode cL_renderSledge 12 = .ok (.astore_n 3, 1) := by decide +kernel
theorem dL_renderSledge_13 : decode cL_renderSledge 13 = .ok (.iconst 1, 1) := by decide +kernel
theorem dL_renderSledge_14 : decode cL_renderSledge 14 = .ok (.ireturn, 1) := by decide +kernel
theorem dL_renderSledge_15 : decode cL_renderSledge 15 = .ok (.iconst 0, 1) := by decide +kernel
theorem dL_renderSledge_16 : decode cL_renderSledge 16 = .ok (.ireturn, 1) := by decide +kernel
set_option maxRecDepth 100000 in
set_option maxHeartbeats 4000000 in
theorem w_L_renderSledge {l : Launch} {g : Nat → Nat} {M : LH} (htr : l.stackTraces = false) {p out : Nat} {b0 : Int32} {fs : List Value} {L2 mc2 ms2 : Nat} {f : Int32 → LH → Prop} {x : String → LH → Prop} (hM : K_X11_renderSledge l g L2 mc2 ms2 [.ref p, .int b0] M (RI f x)) (hp : M p = some (ob 9 fs)) (ho : ∀ r M9, f r M9 → ∃ h, M9 out = some (la 1 h)) (hx : ∀ E M9, x E M9 → E = "java/lang/IndexOutOfBoundsException") : K_L_renderSledge l g (L2 + 1) mc2 ms2 [.ref p, .int b0, .ref out] M (RI (fun k M9 => (k = 0 ∧ ∃ r M8 h, f r M8 ∧ h 0 = r.toInt64 ∧ M9 = hup M8 out (la 1 h)) ∨ (∃ E, x E M9 ∧ ((E = "java/lang/IndexOutOfBoundsException" ∧ k = 1)))) nX) := by
  refine Ct.ofH (nL := 4) (by decide +kernel) (Nat.le_of_ble_eq_true rfl) (by simp [Value.category]) htr (fun X => ?_)
  show V l g yL_renderSledge cL_renderSledge ((some .int)) (tableOf [(0, 9, 12, 19)]) (L2 + 1) mc2 ms2 (RI (fun k M9 => (k = 0 ∧ ∃ r M8 h, f r M8 ∧ h 0 = r.toInt64 ∧ M9 = hup M8 out (la 1 h)) ∨ (∃ E, x E M9 ∧ ((E = "java/lang/IndexOutOfBoundsException" ∧ k = 1)))) nX) X M 0 0 0 [some (.ref p), some (.int b0), some (.ref out), none] []
  refine v_aload_n dL_renderSledge_0 rfl rfl ?_
  refine v_iconst (v := 0) dL_renderSledge_1 (by decide) ?_
  refine v_aload_n dL_renderSledge_2 rfl rfl ?_
  refine v_iload_n dL_renderSledge_3 rfl rfl ?_
  refine k_L_150 dL_renderSledge_4 rfl hM hp (Nat.le_refl _) (by omega) (by omega) (Nat.le_of_ble_eq_true rfl) (fun r4 M9 h9 => ?_) (fun E M9 h9 => ?_)
  obtain ⟨h0, ho9⟩ := ho _ _ h9
  refine v_i2l dL_renderSledge_7 ?_
  refine v_last dL_renderSledge_8 ho9 ?_
  refine v_goto (tgt := 15) dL_renderSledge_9 (by decide) ?_
  refine v_iconst (v := 0) dL_renderSledge_15 (by decide) ?_
  exact v_iret dL_renderSledge_16 rfl (Or.inl ⟨rfl, _, _, _, h9, rfl, rfl⟩) (by omega) (by omega)
  obtain rfl := hx E M9 h9
  refine VX.catch (own := "SledgePostLaw") (name := "java/lang/IndexOutOfBoundsException") (pre := []) (suf := []) (x := ⟨0, 9, 12, 19⟩) rfl rfl (fun z hz => nomatch hz) (by decide) (by decide) (Ut_of (mt_4 37 rfl) rfl) (mt_3 125 rfl) (fun q9 => ?_)
  refine v_astore_3 dL_renderSledge_12 ?_
  refine v_iconst (v := 1) dL_renderSledge_13 (by decide) ?_
  exact v_iret dL_renderSledge_14 rfl (Or.inr ⟨_, h9, ⟨rfl, rfl⟩⟩) (by omega) (by omega)
abbrev K_L_renderLetter (l : Launch) (g : Nat → Nat) (L mc ms : Nat) (av : List Value) (M : LH) (Po : Res → LH → Prop) : Prop := Ct l g yL_renderLetter (.codeWith yL_renderLetter cL_renderLetter 4 (some .int) [(0, 9, 12, 34)]) L mc ms av M Po
theorem ck_L_renderLetter : cOk yL_renderLetter 3 := ⟨by decide +kernel, by decide +kernel, by decide +kernel⟩
theorem dL_renderLetter_0 : decode cL_renderLetter 0 = .ok (.aload_n 2, 1) := by decide +kernel
theorem dL_renderLetter_1 : decode cL_renderLetter 1 = .ok (.iconst 0, 1) := by decide +kernel
theorem dL_renderLetter_2 : decode cL_renderLetter 2 = .ok (.aload_n 0, 1) := by decide +kernel
theorem dL_renderLetter_3 : decode cL_renderLetter 3 = .ok (.iload_n 1, 1) := by decide +kernel
theorem dL_renderLetter_4 : decode cL_renderLetter 4 = .ok (.invokevirtual 153, 3) := by decide +kernel
theorem dL_renderLetter_7 : decode cL_renderLetter 7 = .ok (.i2l, 1) := by decide +kernel
theorem dL_renderLetter_8 : decode cL_renderLetter 8 = .ok (.lastore, 1) := by decide +kernel
theorem dL_renderLetter_9 : decode cL_renderLetter 9 = .ok (.goto 6, 3) := by decide +kernel
theorem dL_renderLetter_12 : decode cL_renderLetter 12 = .ok (.astore_n 3, 1) := by decide +kernel
theorem dL_renderLetter_13 : decode cL_renderLetter 13 = .ok (.iconst 1, 1) := by decide +kernel
theorem dL_renderLetter_14 : decode cL_renderLetter 14 = .ok (.ireturn, 1) := by decide +kernel
theorem dL_renderLetter_15 : decode cL_renderLetter 15 = .ok (.iconst 0, 1) := by decide +kernel
theorem dL_renderLetter_16 : decode cL_renderLetter 16 = .ok (.ireturn, 1) := by decide +kernel
set_option maxRecDepth 100000 in
set_option maxHeartbeats 4000000 in
theorem w_L_renderLetter {l : Launch} {g : Nat → Nat} {M : LH} (htr : l.stackTraces = false) {p out : Nat} {b0 : Int32} {fs : List Value} {L2 mc2 ms2 : Nat} {f : Int32 → LH → Prop} {x : String → LH → Prop} (hM : K_X11_renderLetter l g L2 mc2 ms2 [.ref p, .int b0] M (RI f x)) (hp : M p = some (ob 9 fs)) (ho : ∀ r M9, f r M9 → ∃ h, M9 out = some (la 1 h)) (hx : ∀ E M9, x E M9 → E = "java/util/NoSuchElementException") : K_L_renderLetter l g (L2 + 1) mc2 ms2 [.ref p, .int b0, .ref out] M (RI (fun k M9 => (k = 0 ∧ ∃ r M8 h, f r M8 ∧ h 0 = r.toInt64 ∧ M9 = hup M8 out (la 1 h)) ∨ (∃ E, x E M9 ∧ ((E = "java/util/NoSuchElementException" ∧ k = 1)))) nX) := by
  refine Ct.ofH (nL := 4) (by decide +kernel) (Nat.le_of_ble_eq_true rfl) (by simp [Value.category]) htr (fun X => ?_)
  show V l g yL_renderLetter cL_renderLetter ((some .int)) (tableOf [(0, 9, 12, 34)]) (L2 + 1) mc2 ms2 (RI (fun k M9 => (k = 0 ∧ ∃ r M8 h, f r M8 ∧ h 0 = r.toInt64 ∧ M9 = hup M8 out (la 1 h)) ∨ (∃ E, x E M9 ∧ ((E = "java/util/NoSuchElementException" ∧ k = 1)))) nX) X M 0 0 0 [some (.ref p), some (.int b0), some (.ref out), none] []
  refine v_aload_n dL_renderLetter_0 rfl rfl ?_
  refine v_iconst (v := 0) dL_renderLetter_1 (by decide) ?_
  refine v_aload_n dL_renderLetter_2 rfl rfl ?_
  refine v_iload_n dL_renderLetter_3 rfl rfl ?_
  refine k_L_153 dL_renderLetter_4 rfl hM hp (Nat.le_refl _) (by omega) (by omega) (Nat.le_of_ble_eq_true rfl) (fun r4 M9 h9 => ?_) (fun E M9 h9 => ?_)
  obtain ⟨h0, ho9⟩ := ho _ _ h9
  refine v_i2l dL_renderLetter_7 ?_
  refine v_last dL_renderLetter_8 ho9 ?_
  refine v_goto (tgt := 15) dL_renderLetter_9 (by decide) ?_
  refine v_iconst (v := 0) dL_renderLetter_15 (by decide) ?_
  exact v_iret dL_renderLetter_16 rfl (Or.inl ⟨rfl, _, _, _, h9, rfl, rfl⟩) (by omega) (by omega)
  obtain rfl := hx E M9 h9
  refine VX.catch (own := "SledgePostLaw") (name := "java/util/NoSuchElementException") (pre := []) (suf := []) (x := ⟨0, 9, 12, 34⟩) rfl rfl (fun z hz => nomatch hz) (by decide) (by decide) (Ut_of (mt_4 111 rfl) rfl) (mt_3 217 rfl) (fun q9 => ?_)
  refine v_astore_3 dL_renderLetter_12 ?_
  refine v_iconst (v := 1) dL_renderLetter_13 (by decide) ?_
  exact v_iret dL_renderLetter_14 rfl (Or.inr ⟨_, h9, ⟨rfl, rfl⟩⟩) (by omega) (by omega)
abbrev K_L_outputAt (l : Launch) (g : Nat → Nat) (L mc ms : Nat) (av : List Value) (M : LH) (Po : Res → LH → Prop) : Prop := Ct l g yL_outputAt (.codeWith yL_outputAt cL_outputAt 4 (some .int) [(0, 9, 12, 19)]) L mc ms av M Po
theorem ck_L_outputAt : cOk yL_outputAt 3 := ⟨by decide +kernel, by decide +kernel, by decide +kernel⟩
theorem dL_outputAt_0 : decode cL_outputAt 0 = .ok (.aload_n 2, 1) := by decide +kernel
theorem dL_outputAt_1 : decode cL_outputAt 1 = .ok (.iconst 0, 1) := by decide +kernel
theorem dL_outputAt_2 : decode cL_outputAt 2 = .ok (.aload_n 0, 1) := by decide +kernel
theorem dL_outputAt_3 : decode cL_outputAt 3 = .ok (.iload_n 1, 1) := by decide +kernel
theorem dL_outputAt_4 : decode cL_outputAt 4 = .ok (.invokevirtual 156, 3) := by decide +kernel
theorem dL_outputAt_7 : decode cL_outputAt 7 = .ok (.i2l, 1) := by decide +kernel
theorem dL_outputAt_8 : decode cL_outputAt 8 = .ok (.lastore, 1) := by decide +kernel
theorem dL_outputAt_9 : decode cL_outputAt 9 = .ok (.goto 6, 3) := by decide +kernel
theorem dL_outputAt_12 : decode cL_outputAt 12 = .ok (.astore_n 3, 1) := by decide +kernel
theorem dL_outputAt_13 : decode cL_outputAt 13 = .ok (.iconst 1, 1) := by decide +kernel
theorem dL_outputAt_14 : decode cL_outputAt 14 = .ok (.ireturn, 1) := by decide +kernel
theorem dL_outputAt_15 : decode cL_outputAt 15 = .ok (.iconst 0, 1) := by decide +kernel
theorem dL_outputAt_16 : decode cL_outputAt 16 = .ok (.ireturn, 1) := by decide +kernel
set_option maxRecDepth 100000 in
set_option maxHeartbeats 4000000 in
theorem w_L_outputAt {l : Launch} {g : Nat → Nat} {M : LH} (htr : l.stackTraces = false) {p out : Nat} {b0 : Int32} {fs : List Value} {L2 mc2 ms2 : Nat} {f : Int32 → LH → Prop} {x : String → LH → Prop} (hM : K_X11_outputAt l g L2 mc2 ms2 [.ref p, .int b0] M (RI f x)) (hp : M p = some (ob 9 fs)) (ho : ∀ r M9, f r M9 → ∃ h, M9 out = some (la 1 h)) (hx : ∀ E M9, x E M9 → E = "java/lang/IndexOutOfBoundsException") : K_L_outputAt l g (L2 + 1) mc2 ms2 [.ref p, .int b0, .ref out] M (RI (fun k M9 => (k = 0 ∧ ∃ r M8 h, f r M8 ∧ h 0 = r.toInt64 ∧ M9 = hup M8 out (la 1 h)) ∨ (∃ E, x E M9 ∧ ((E = "java/lang/IndexOutOfBoundsException" ∧ k = 1)))) nX) := by
  refine Ct.ofH (nL := 4) (by decide +kernel) (Nat.le_of_ble_eq_true rfl) (by simp [Value.category]) htr (fun X => ?_)
  show V l g yL_outputAt cL_outputAt ((some .int)) (tableOf [(0, 9, 12, 19)]) (L2 + 1) mc2 ms2 (RI (fun k M9 => (k = 0 ∧ ∃ r M8 h, f r M8 ∧ h 0 = r.toInt64 ∧ M9 = hup M8 out (la 1 h)) ∨ (∃ E, x E M9 ∧ ((E = "java/lang/IndexOutOfBoundsException" ∧ k = 1)))) nX) X M 0 0 0 [some (.ref p), some (.int b0), some (.ref out), none] []
  refine v_aload_n dL_outputAt_0 rfl rfl ?_
  refine v_iconst (v := 0) dL_outputAt_1 (by decide) ?_
  refine v_aload_n dL_outputAt_2 rfl rfl ?_
  refine v_iload_n dL_outputAt_3 rfl rfl ?_
  refine k_L_156 dL_outputAt_4 rfl hM hp (Nat.le_refl _) (by omega) (by omega) (Nat.le_of_ble_eq_true rfl) (fun r4 M9 h9 => ?_) (fun E M9 h9 => ?_)
  obtain ⟨h0, ho9⟩ := ho _ _ h9
  refine v_i2l dL_outputAt_7 ?_
  refine v_last dL_outputAt_8 ho9 ?_
  refine v_goto (tgt := 15) dL_outputAt_9 (by decide) ?_
  refine v_iconst (v := 0) dL_outputAt_15 (by decide) ?_
  exact v_iret dL_outputAt_16 rfl (Or.inl ⟨rfl, _, _, _, h9, rfl, rfl⟩) (by omega) (by omega)
  obtain rfl := hx E M9 h9
  refine VX.catch (own := "SledgePostLaw") (name := "java/lang/IndexOutOfBoundsException") (pre := []) (suf := []) (x := ⟨0, 9, 12, 19⟩) rfl rfl (fun z hz => nomatch hz) (by decide) (by decide) (Ut_of (mt_4 37 rfl) rfl) (mt_3 125 rfl) (fun q9 => ?_)
  refine v_astore_3 dL_outputAt_12 ?_
  refine v_iconst (v := 1) dL_outputAt_13 (by decide) ?_
  exact v_iret dL_outputAt_14 rfl (Or.inr ⟨_, h9, ⟨rfl, rfl⟩⟩) (by omega) (by omega)
abbrev K_L_type (l : Launch) (g : Nat → Nat) (L mc ms : Nat) (av : List Value) (M : LH) (Po : Res → LH → Prop) : Prop := Ct l g yL_type (.codeWith yL_type cL_type 4 (some .int) [(0, 9, 12, 21), (0, 9, 15, 13)]) L mc ms av M Po
theorem ck_L_type : cOk yL_type 3 := ⟨by decide +kernel, by decide +kernel, by decide +kernel⟩
theorem dL_type_0 : decode cL_type 0 = .ok (.aload_n 2, 1) := by decide +kernel
theorem dL_type_1 : decode cL_type 1 = .ok (.iconst 0, 1) := by decide +kernel
theorem dL_type_2 : decode cL_type 2 = .ok (.aload_n 0, 1) := by decide +kernel
theorem dL_type_3 : decode cL_type 3 = .ok (.iload_n 1, 1) := by decide +kernel
theorem dL_type_4 : decode cL_type 4 = .ok (.invokevirtual 160, 3) := by decide +kernel
theorem dL_type_7 : decode cL_type 7 = .ok (.i2l, 1) := by decide +kernel
theorem dL_type_8 : decode cL_type 8 = .ok (.lastore, 1) := by decide +kernel
theorem dL_type_9 : decode cL_type 9 = .ok (.goto 9, 3) := by decide +kernel
theorem dL_type_12 : decode cL_type 12 = .ok (.astore_n 3, 1) := by decide +kernel
theorem dL_type_13 : decode cL_type 13 = .ok (.iconst 1, 1) := by decide +kernel
theorem dL_type_14 : decode cL_type 14 = .ok (.ireturn, 1) := by decide +kernel
theorem dL_type_15 : decode cL_type 15 = .ok (.astore_n 3, 1) := by decide +kernel
theorem dL_type_16 : decode cL_type 16 = .ok (.iconst 2, 1) := by decide +kernel
theorem dL_type_17 : decode cL_type 17 = .ok (.ireturn, 1) := by decide +kernel
theorem dL_type_18 : decode cL_type 18 = .ok (.iconst 0, 1) := by decide +kernel
theorem dL_type_19 : decode cL_type 19 = .ok (.ireturn, 1) := by decide +kernel
set_option maxRecDepth 100000 in
set_option maxHeartbeats 4000000 in
theorem w_L_type {l : Launch} {g : Nat → Nat} {M : LH} (htr : l.stackTraces = false) {p out : Nat} {b0 : Int32} {fs : List Value} {L2 mc2 ms2 : Nat} {f : Int32 → LH → Prop} {x : String → LH → Prop} (hM : K_X11_type l g L2 mc2 ms2 [.ref p, .int b0] M (RI f x)) (hp : M p = some (ob 9 fs)) (ho : ∀ r M9, f r M9 → ∃ h, M9 out = some (la 1 h)) (hx : ∀ E M9, x E M9 → E = "java/lang/IllegalArgumentException" ∨ E = "java/lang/IllegalStateException") : K_L_type l g (L2 + 1) mc2 ms2 [.ref p, .int b0, .ref out] M (RI (fun k M9 => (k = 0 ∧ ∃ r M8 h, f r M8 ∧ h 0 = r.toInt64 ∧ M9 = hup M8 out (la 1 h)) ∨ (∃ E, x E M9 ∧ ((E = "java/lang/IllegalArgumentException" ∧ k = 1) ∨ (E = "java/lang/IllegalStateException" ∧ k = 2)))) nX) := by
  refine Ct.ofH (nL := 4) (by decide +kernel) (Nat.le_of_ble_eq_true rfl) (by simp [Value.category]) htr (fun X => ?_)
  show V l g yL_type cL_type ((some .int)) (tableOf [(0, 9, 12, 21), (0, 9, 15, 13)]) (L2 + 1) mc2 ms2 (RI (fun k M9 => (k = 0 ∧ ∃ r M8 h, f r M8 ∧ h 0 = r.toInt64 ∧ M9 = hup M8 out (la 1 h)) ∨ (∃ E, x E M9 ∧ ((E = "java/lang/IllegalArgumentException" ∧ k = 1) ∨ (E = "java/lang/IllegalStateException" ∧ k = 2)))) nX) X M 0 0 0 [some (.ref p), some (.int b0), some (.ref out), none] []
  refine v_aload_n dL_type_0 rfl rfl ?_
  refine v_iconst (v := 0) dL_type_1 (by decide) ?_
  refine v_aload_n dL_type_2 rfl rfl ?_
  refine v_iload_n dL_type_3 rfl rfl ?_
  refine k_L_160 dL_type_4 rfl hM hp (Nat.le_refl _) (by omega) (by omega) (Nat.le_of_ble_eq_true rfl) (fun r4 M9 h9 => ?_) (fun E M9 h9 => ?_)
  obtain ⟨h0, ho9⟩ := ho _ _ h9
  refine v_i2l dL_type_7 ?_
  refine v_last dL_type_8 ho9 ?_
  refine v_goto (tgt := 18) dL_type_9 (by decide) ?_
  refine v_iconst (v := 0) dL_type_18 (by decide) ?_
  exact v_iret dL_type_19 rfl (Or.inl ⟨rfl, _, _, _, h9, rfl, rfl⟩) (by omega) (by omega)
  rcases hx E M9 h9 with rfl | rfl
  · refine VX.catch (own := "SledgePostLaw") (name := "java/lang/IllegalArgumentException") (pre := []) (suf := [⟨0, 9, 15, 13⟩]) (x := ⟨0, 9, 12, 21⟩) rfl rfl (fun z hz => nomatch hz) (by decide) (by decide) (Ut_of (mt_4 58 rfl) rfl) (mt_3 199 rfl) (fun q9 => ?_)
    refine v_astore_3 dL_type_12 ?_
    refine v_iconst (v := 1) dL_type_13 (by decide) ?_
    exact v_iret dL_type_14 rfl (Or.inr ⟨_, h9, Or.inl ⟨rfl, rfl⟩⟩) (by omega) (by omega)
  · refine VX.catch (own := "SledgePostLaw") (name := "java/lang/IllegalStateException") (pre := [⟨0, 9, 12, 21⟩]) (suf := []) (x := ⟨0, 9, 15, 13⟩) rfl rfl (List.forall_mem_cons.mpr ⟨⟨by decide, "java/lang/IllegalArgumentException", (Ut_of (mt_4 58 rfl) rfl), by decide +kernel⟩, fun z hz => nomatch hz⟩) (by decide) (by decide) (Ut_of (mt_3 105 rfl) rfl) (mt_3 234 rfl) (fun q9 => ?_)
    refine v_astore_3 dL_type_15 ?_
    refine v_iconst (v := 2) dL_type_16 (by decide) ?_
    exact v_iret dL_type_17 rfl (Or.inr ⟨_, h9, Or.inr (⟨rfl, rfl⟩)⟩) (by omega) (by omega)
abbrev K_L_runScript (l : Launch) (g : Nat → Nat) (L mc ms : Nat) (av : List Value) (M : LH) (Po : Res → LH → Prop) : Prop := Ct l g yL_runScript (.codeWith yL_runScript cL_runScript 3 (some .int) [(0, 8, 11, 21), (0, 8, 14, 13)]) L mc ms av M Po
theorem ck_L_runScript : cOk yL_runScript 2 := ⟨by decide +kernel, by decide +kernel, by decide +kernel⟩
theorem dL_runScript_0 : decode cL_runScript 0 = .ok (.aload_n 1, 1) := by decide +kernel
theorem dL_runScript_1 : decode cL_runScript 1 = .ok (.iconst 0, 1) := by decide +kernel
theorem dL_runScript_2 : decode cL_runScript 2 = .ok (.aload_n 0, 1) := by decide +kernel
theorem dL_runScript_3 : decode cL_runScript 3 = .ok (.invokevirtual 164, 3) := by decide +kernel
theorem dL_runScript_6 : decode cL_runScript 6 = .ok (.i2l, 1) := by decide +kernel
theorem dL_runScript_7 : decode cL_runScript 7 = .ok (.lastore, 1) := by decide +kernel
theorem dL_runScript_8 : decode cL_runScript 8 = .ok (.goto 9, 3) := by decide +kernel
theorem dL_runScript_11 : decode cL_runScript 11 = .ok (.astore_n 2, 1) := by decide +kernel
theorem dL_runScript_12 : decode cL_runScript 12 = .ok (.iconst 1, 1) := by decide +kernel
theorem dL_runScript_13 : decode cL_runScript 13 = .ok (.ireturn, 1) := by decide +kernel
theorem dL_runScript_14 : decode cL_runScript 14 = .ok (.astore_n 2, 1) := by decide +kernel
theorem dL_runScript_15 : decode cL_runScript 15 = .ok (.iconst 2, 1) := by decide +kernel
theorem dL_runScript_16 : decode cL_runScript 16 = .ok (.ireturn, 1) := by decide +kernel
theorem dL_runScript_17 : decode cL_runScript 17 = .ok (.iconst 0, 1) := by decide +kernel
theorem dL_runScript_18 : decode cL_runScript 18 = .ok (.ireturn, 1) := by decide +kernel
set_option maxRecDepth 100000 in
set_option maxHeartbeats 4000000 in
theorem w_L_runScript {l : Launch} {g : Nat → Nat} {M : LH} (htr : l.stackTraces = false) {p out : Nat}  {fs : List Value} {L2 mc2 ms2 : Nat} {f : Int32 → LH → Prop} {x : String → LH → Prop} (hM : K_X11_runScript l g L2 mc2 ms2 [.ref p] M (RI f x)) (hp : M p = some (ob 9 fs)) (ho : ∀ r M9, f r M9 → ∃ h, M9 out = some (la 1 h)) (hx : ∀ E M9, x E M9 → E = "java/lang/IllegalArgumentException" ∨ E = "java/lang/IllegalStateException") : K_L_runScript l g (L2 + 1) mc2 ms2 [.ref p, .ref out] M (RI (fun k M9 => (k = 0 ∧ ∃ r M8 h, f r M8 ∧ h 0 = r.toInt64 ∧ M9 = hup M8 out (la 1 h)) ∨ (∃ E, x E M9 ∧ ((E = "java/lang/IllegalArgumentException" ∧ k = 1) ∨ (E = "java/lang/IllegalStateException" ∧ k = 2)))) nX) := by
  refine Ct.ofH (nL := 3) (by decide +kernel) (Nat.le_of_ble_eq_true rfl) (by simp [Value.category]) htr (fun X => ?_)
  show V l g yL_runScript cL_runScript ((some .int)) (tableOf [(0, 8, 11, 21), (0, 8, 14, 13)]) (L2 + 1) mc2 ms2 (RI (fun k M9 => (k = 0 ∧ ∃ r M8 h, f r M8 ∧ h 0 = r.toInt64 ∧ M9 = hup M8 out (la 1 h)) ∨ (∃ E, x E M9 ∧ ((E = "java/lang/IllegalArgumentException" ∧ k = 1) ∨ (E = "java/lang/IllegalStateException" ∧ k = 2)))) nX) X M 0 0 0 [some (.ref p), some (.ref out), none] []
  refine v_aload_n dL_runScript_0 rfl rfl ?_
  refine v_iconst (v := 0) dL_runScript_1 (by decide) ?_
  refine v_aload_n dL_runScript_2 rfl rfl ?_
  refine k_L_164 dL_runScript_3 rfl hM hp (Nat.le_refl _) (by omega) (by omega) (Nat.le_of_ble_eq_true rfl) (fun r3 M9 h9 => ?_) (fun E M9 h9 => ?_)
  obtain ⟨h0, ho9⟩ := ho _ _ h9
  refine v_i2l dL_runScript_6 ?_
  refine v_last dL_runScript_7 ho9 ?_
  refine v_goto (tgt := 17) dL_runScript_8 (by decide) ?_
  refine v_iconst (v := 0) dL_runScript_17 (by decide) ?_
  exact v_iret dL_runScript_18 rfl (Or.inl ⟨rfl, _, _, _, h9, rfl, rfl⟩) (by omega) (by omega)
  rcases hx E M9 h9 with rfl | rfl
  · refine VX.catch (own := "SledgePostLaw") (name := "java/lang/IllegalArgumentException") (pre := []) (suf := [⟨0, 8, 14, 13⟩]) (x := ⟨0, 8, 11, 21⟩) rfl rfl (fun z hz => nomatch hz) (by decide) (by decide) (Ut_of (mt_4 58 rfl) rfl) (mt_3 199 rfl) (fun q9 => ?_)
    refine v_astore_2 dL_runScript_11 ?_
    refine v_iconst (v := 1) dL_runScript_12 (by decide) ?_
    exact v_iret dL_runScript_13 rfl (Or.inr ⟨_, h9, Or.inl ⟨rfl, rfl⟩⟩) (by omega) (by omega)
  · refine VX.catch (own := "SledgePostLaw") (name := "java/lang/IllegalStateException") (pre := [⟨0, 8, 11, 21⟩]) (suf := []) (x := ⟨0, 8, 14, 13⟩) rfl rfl (List.forall_mem_cons.mpr ⟨⟨by decide, "java/lang/IllegalArgumentException", (Ut_of (mt_4 58 rfl) rfl), by decide +kernel⟩, fun z hz => nomatch hz⟩) (by decide) (by decide) (Ut_of (mt_3 105 rfl) rfl) (mt_3 234 rfl) (fun q9 => ?_)
    refine v_astore_2 dL_runScript_14 ?_
    refine v_iconst (v := 2) dL_runScript_15 (by decide) ?_
    exact v_iret dL_runScript_16 rfl (Or.inr ⟨_, h9, Or.inr (⟨rfl, rfl⟩)⟩) (by omega) (by omega)
abbrev K_L_errorPosition (l : Launch) (g : Nat → Nat) (L mc ms : Nat) (av : List Value) (M : LH) (Po : Res → LH → Prop) : Prop := Ct l g yL_errorPosition (.codeWith yL_errorPosition cL_errorPosition 3 (some .int) [(0, 8, 11, 34)]) L mc ms av M Po
theorem ck_L_errorPosition : cOk yL_errorPosition 2 := ⟨by decide +kernel, by decide +kernel, by decide +kernel⟩
theorem dL_errorPosition_0 : decode cL_errorPosition 0 = .ok (.aload_n 1, 1) := by decide +kernel
theorem dL_errorPosition_1 : decode cL_errorPosition 1 = .ok (.iconst 0, 1) := by decide +kernel
theorem dL_errorPosition_2 : decode cL_errorPosition 2 = .ok (.aload_n 0, 1) := by decide +kernel
theorem dL_errorPosition_3 : decode cL_errorPosition 3 = .ok (.invokevirtual 167, 3) := by decide +kernel
theorem dL_errorPosition_6 : decode cL_errorPosition 6 = .ok (.i2l, 1) := by decide +kernel
theorem dL_errorPosition_7 : decode cL_errorPosition 7 = .ok (.lastore, 1) := by decide +kernel
theorem dL_errorPosition_8 : decode cL_errorPosition 8 = .ok (.goto 6, 3) := by decide +kernel
theorem dL_errorPosition_11 : decode cL_errorPosition 11 = .ok (.astore_n 2, 1) := by decide +kernel
theorem dL_errorPosition_12 : decode cL_errorPosition 12 = .ok (.iconst 1, 1) := by decide +kernel
theorem dL_errorPosition_13 : decode cL_errorPosition 13 = .ok (.ireturn, 1) := by decide +kernel
theorem dL_errorPosition_14 : decode cL_errorPosition 14 = .ok (.iconst 0, 1) := by decide +kernel
theorem dL_errorPosition_15 : decode cL_errorPosition 15 = .ok (.ireturn, 1) := by decide +kernel
set_option maxRecDepth 100000 in
set_option maxHeartbeats 4000000 in
theorem w_L_errorPosition {l : Launch} {g : Nat → Nat} {M : LH} (htr : l.stackTraces = false) {p out : Nat}  {fs : List Value} {L2 mc2 ms2 : Nat} {f : Int32 → LH → Prop} {x : String → LH → Prop} (hM : K_X11_errorPosition l g L2 mc2 ms2 [.ref p] M (RI f x)) (hp : M p = some (ob 9 fs)) (ho : ∀ r M9, f r M9 → ∃ h, M9 out = some (la 1 h)) (hx : ∀ E M9, x E M9 → E = "java/util/NoSuchElementException") : K_L_errorPosition l g (L2 + 1) mc2 ms2 [.ref p, .ref out] M (RI (fun k M9 => (k = 0 ∧ ∃ r M8 h, f r M8 ∧ h 0 = r.toInt64 ∧ M9 = hup M8 out (la 1 h)) ∨ (∃ E, x E M9 ∧ ((E = "java/util/NoSuchElementException" ∧ k = 1)))) nX) := by
  refine Ct.ofH (nL := 3) (by decide +kernel) (Nat.le_of_ble_eq_true rfl) (by simp [Value.category]) htr (fun X => ?_)
  show V l g yL_errorPosition cL_errorPosition ((some .int)) (tableOf [(0, 8, 11, 34)]) (L2 + 1) mc2 ms2 (RI (fun k M9 => (k = 0 ∧ ∃ r M8 h, f r M8 ∧ h 0 = r.toInt64 ∧ M9 = hup M8 out (la 1 h)) ∨ (∃ E, x E M9 ∧ ((E = "java/util/NoSuchElementException" ∧ k = 1)))) nX) X M 0 0 0 [some (.ref p), some (.ref out), none] []
  refine v_aload_n dL_errorPosition_0 rfl rfl ?_
  refine v_iconst (v := 0) dL_errorPosition_1 (by decide) ?_
  refine v_aload_n dL_errorPosition_2 rfl rfl ?_
  refine k_L_167 dL_errorPosition_3 rfl hM hp (Nat.le_refl _) (by omega) (by omega) (Nat.le_of_ble_eq_true rfl) (fun r3 M9 h9 => ?_) (fun E M9 h9 => ?_)
  obtain ⟨h0, ho9⟩ := ho _ _ h9
  refine v_i2l dL_errorPosition_6 ?_
  refine v_last dL_errorPosition_7 ho9 ?_
  refine v_goto (tgt := 14) dL_errorPosition_8 (by decide) ?_
  refine v_iconst (v := 0) dL_errorPosition_14 (by decide) ?_
  exact v_iret dL_errorPosition_15 rfl (Or.inl ⟨rfl, _, _, _, h9, rfl, rfl⟩) (by omega) (by omega)
  obtain rfl := hx E M9 h9
  refine VX.catch (own := "SledgePostLaw") (name := "java/util/NoSuchElementException") (pre := []) (suf := []) (x := ⟨0, 8, 11, 34⟩) rfl rfl (fun z hz => nomatch hz) (by decide) (by decide) (Ut_of (mt_4 111 rfl) rfl) (mt_3 217 rfl) (fun q9 => ?_)
  refine v_astore_2 dL_errorPosition_11 ?_
  refine v_iconst (v := 1) dL_errorPosition_12 (by decide) ?_
  exact v_iret dL_errorPosition_13 rfl (Or.inr ⟨_, h9, ⟨rfl, rfl⟩⟩) (by omega) (by omega)
abbrev K_L_failedCommand (l : Launch) (g : Nat → Nat) (L mc ms : Nat) (av : List Value) (M : LH) (Po : Res → LH → Prop) : Prop := Ct l g yL_failedCommand (.codeWith yL_failedCommand cL_failedCommand 3 (some .int) [(0, 8, 11, 34)]) L mc ms av M Po
theorem ck_L_failedCommand : cOk yL_failedCommand 2 := ⟨by decide +kernel, by decide +kernel, by decide +kernel⟩
theorem dL_failedCommand_0 : decode cL_failedCommand 0 = .ok (.aload_n 1, 1) := by decide +kernel
theorem dL_failedCommand_1 : decode cL_failedCommand 1 = .ok (.iconst 0, 1) := by decide +kernel
theorem dL_failedCommand_2 : decode cL_failedCommand 2 = .ok (.aload_n 0, 1) := by decide +kernel
theorem dL_failedCommand_3 : decode cL_failedCommand 3 = .ok (.invokevirtual 170, 3) := by decide +kernel
theorem dL_failedCommand_6 : decode cL_failedCommand 6 = .ok (.i2l, 1) := by decide +kernel
theorem dL_failedCommand_7 : decode cL_failedCommand 7 = .ok (.lastore, 1) := by decide +kernel
theorem dL_failedCommand_8 : decode cL_failedCommand 8 = .ok (.goto 6, 3) := by decide +kernel
theorem dL_failedCommand_11 : decode cL_failedCommand 11 = .ok (.astore_n 2, 1) := by decide +kernel
theorem dL_failedCommand_12 : decode cL_failedCommand 12 = .ok (.iconst 1, 1) := by decide +kernel
theorem dL_failedCommand_13 : decode cL_failedCommand 13 = .ok (.ireturn, 1) := by decide +kernel
theorem dL_failedCommand_14 : decode cL_failedCommand 14 = .ok (.iconst 0, 1) := by decide +kernel
theorem dL_failedCommand_15 : decode cL_failedCommand 15 = .ok (.ireturn, 1) := by decide +kernel
set_option maxRecDepth 100000 in
set_option maxHeartbeats 4000000 in
theorem w_L_failedCommand {l : Launch} {g : Nat → Nat} {M : LH} (htr : l.stackTraces = false) {p out : Nat}  {fs : List Value} {L2 mc2 ms2 : Nat} {f : Int32 → LH → Prop} {x : String → LH → Prop} (hM : K_X11_failedCommand l g L2 mc2 ms2 [.ref p] M (RI f x)) (hp : M p = some (ob 9 fs)) (ho : ∀ r M9, f r M9 → ∃ h, M9 out = some (la 1 h)) (hx : ∀ E M9, x E M9 → E = "java/util/NoSuchElementException") : K_L_failedCommand l g (L2 + 1) mc2 ms2 [.ref p, .ref out] M (RI (fun k M9 => (k = 0 ∧ ∃ r M8 h, f r M8 ∧ h 0 = r.toInt64 ∧ M9 = hup M8 out (la 1 h)) ∨ (∃ E, x E M9 ∧ ((E = "java/util/NoSuchElementException" ∧ k = 1)))) nX) := by
  refine Ct.ofH (nL := 3) (by decide +kernel) (Nat.le_of_ble_eq_true rfl) (by simp [Value.category]) htr (fun X => ?_)
  show V l g yL_failedCommand cL_failedCommand ((some .int)) (tableOf [(0, 8, 11, 34)]) (L2 + 1) mc2 ms2 (RI (fun k M9 => (k = 0 ∧ ∃ r M8 h, f r M8 ∧ h 0 = r.toInt64 ∧ M9 = hup M8 out (la 1 h)) ∨ (∃ E, x E M9 ∧ ((E = "java/util/NoSuchElementException" ∧ k = 1)))) nX) X M 0 0 0 [some (.ref p), some (.ref out), none] []
  refine v_aload_n dL_failedCommand_0 rfl rfl ?_
  refine v_iconst (v := 0) dL_failedCommand_1 (by decide) ?_
  refine v_aload_n dL_failedCommand_2 rfl rfl ?_
  refine k_L_170 dL_failedCommand_3 rfl hM hp (Nat.le_refl _) (by omega) (by omega) (Nat.le_of_ble_eq_true rfl) (fun r3 M9 h9 => ?_) (fun E M9 h9 => ?_)
  obtain ⟨h0, ho9⟩ := ho _ _ h9
  refine v_i2l dL_failedCommand_6 ?_
  refine v_last dL_failedCommand_7 ho9 ?_
  refine v_goto (tgt := 14) dL_failedCommand_8 (by decide) ?_
  refine v_iconst (v := 0) dL_failedCommand_14 (by decide) ?_
  exact v_iret dL_failedCommand_15 rfl (Or.inl ⟨rfl, _, _, _, h9, rfl, rfl⟩) (by omega) (by omega)
  obtain rfl := hx E M9 h9
  refine VX.catch (own := "SledgePostLaw") (name := "java/util/NoSuchElementException") (pre := []) (suf := []) (x := ⟨0, 8, 11, 34⟩) rfl rfl (fun z hz => nomatch hz) (by decide) (by decide) (Ut_of (mt_4 111 rfl) rfl) (mt_3 217 rfl) (fun q9 => ?_)
  refine v_astore_2 dL_failedCommand_11 ?_
  refine v_iconst (v := 1) dL_failedCommand_12 (by decide) ?_
  exact v_iret dL_failedCommand_13 rfl (Or.inr ⟨_, h9, ⟨rfl, rfl⟩⟩) (by omega) (by omega)
abbrev K_L_undo (l : Launch) (g : Nat → Nat) (L mc ms : Nat) (av : List Value) (M : LH) (Po : Res → LH → Prop) : Prop := Ct l g yL_undo (.codeWith yL_undo cL_undo 3 (some .int) [(0, 8, 11, 34)]) L mc ms av M Po
theorem ck_L_undo : cOk yL_undo 2 := ⟨by decide +kernel, by decide +kernel, by decide +kernel⟩
theorem dL_undo_0 : decode cL_undo 0 = .ok (.aload_n 1, 1) := by decide +kernel
theorem dL_undo_1 : decode cL_undo 1 = .ok (.iconst 0, 1) := by decide +kernel
theorem dL_undo_2 : decode cL_undo 2 = .ok (.aload_n 0, 1) := by decide +kernel
theorem dL_undo_3 : decode cL_undo 3 = .ok (.invokevirtual 173, 3) := by decide +kernel
theorem dL_undo_6 : decode cL_undo 6 = .ok (.i2l, 1) := by decide +kernel
theorem dL_undo_7 : decode cL_undo 7 = .ok (.lastore, 1) := by decide +kernel
theorem dL_undo_8 : decode cL_undo 8 = .ok (.goto 6, 3) := by decide +kernel
theorem dL_undo_11 : decode cL_undo 11 = .ok (.astore_n 2, 1) := by decide +kernel
theorem dL_undo_12 : decode cL_undo 12 = .ok (.iconst 1, 1) := by decide +kernel
theorem dL_undo_13 : decode cL_undo 13 = .ok (.ireturn, 1) := by decide +kernel
theorem dL_undo_14 : decode cL_undo 14 = .ok (.iconst 0, 1) := by decide +kernel
theorem dL_undo_15 : decode cL_undo 15 = .ok (.ireturn, 1) := by decide +kernel
set_option maxRecDepth 100000 in
set_option maxHeartbeats 4000000 in
theorem w_L_undo {l : Launch} {g : Nat → Nat} {M : LH} (htr : l.stackTraces = false) {p out : Nat}  {fs : List Value} {L2 mc2 ms2 : Nat} {f : Int32 → LH → Prop} {x : String → LH → Prop} (hM : K_X11_undo l g L2 mc2 ms2 [.ref p] M (RI f x)) (hp : M p = some (ob 9 fs)) (ho : ∀ r M9, f r M9 → ∃ h, M9 out = some (la 1 h)) (hx : ∀ E M9, x E M9 → E = "java/util/NoSuchElementException") : K_L_undo l g (L2 + 1) mc2 ms2 [.ref p, .ref out] M (RI (fun k M9 => (k = 0 ∧ ∃ r M8 h, f r M8 ∧ h 0 = r.toInt64 ∧ M9 = hup M8 out (la 1 h)) ∨ (∃ E, x E M9 ∧ ((E = "java/util/NoSuchElementException" ∧ k = 1)))) nX) := by
  refine Ct.ofH (nL := 3) (by decide +kernel) (Nat.le_of_ble_eq_true rfl) (by simp [Value.category]) htr (fun X => ?_)
  show V l g yL_undo cL_undo ((some .int)) (tableOf [(0, 8, 11, 34)]) (L2 + 1) mc2 ms2 (RI (fun k M9 => (k = 0 ∧ ∃ r M8 h, f r M8 ∧ h 0 = r.toInt64 ∧ M9 = hup M8 out (la 1 h)) ∨ (∃ E, x E M9 ∧ ((E = "java/util/NoSuchElementException" ∧ k = 1)))) nX) X M 0 0 0 [some (.ref p), some (.ref out), none] []
  refine v_aload_n dL_undo_0 rfl rfl ?_
  refine v_iconst (v := 0) dL_undo_1 (by decide) ?_
  refine v_aload_n dL_undo_2 rfl rfl ?_
  refine k_L_173 dL_undo_3 rfl hM hp (Nat.le_refl _) (by omega) (by omega) (Nat.le_of_ble_eq_true rfl) (fun r3 M9 h9 => ?_) (fun E M9 h9 => ?_)
  obtain ⟨h0, ho9⟩ := ho _ _ h9
  refine v_i2l dL_undo_6 ?_
  refine v_last dL_undo_7 ho9 ?_
  refine v_goto (tgt := 14) dL_undo_8 (by decide) ?_
  refine v_iconst (v := 0) dL_undo_14 (by decide) ?_
  exact v_iret dL_undo_15 rfl (Or.inl ⟨rfl, _, _, _, h9, rfl, rfl⟩) (by omega) (by omega)
  obtain rfl := hx E M9 h9
  refine VX.catch (own := "SledgePostLaw") (name := "java/util/NoSuchElementException") (pre := []) (suf := []) (x := ⟨0, 8, 11, 34⟩) rfl rfl (fun z hz => nomatch hz) (by decide) (by decide) (Ut_of (mt_4 111 rfl) rfl) (mt_3 217 rfl) (fun q9 => ?_)
  refine v_astore_2 dL_undo_11 ?_
  refine v_iconst (v := 1) dL_undo_12 (by decide) ?_
  exact v_iret dL_undo_13 rfl (Or.inr ⟨_, h9, ⟨rfl, rfl⟩⟩) (by omega) (by omega)
abbrev K_L_restore (l : Launch) (g : Nat → Nat) (L mc ms : Nat) (av : List Value) (M : LH) (Po : Res → LH → Prop) : Prop := Ct l g yL_restore (.codeWith yL_restore cL_restore 3 (some .int) [(0, 8, 11, 13)]) L mc ms av M Po
theorem ck_L_restore : cOk yL_restore 2 := ⟨by decide +kernel, by decide +kernel, by decide +kernel⟩
theorem dL_restore_0 : decode cL_restore 0 = .ok (.aload_n 1, 1) := by decide +kernel
theorem dL_restore_1 : decode cL_restore 1 = .ok (.iconst 0, 1) := by decide +kernel
theorem dL_restore_2 : decode cL_restore 2 = .ok (.aload_n 0, 1) := by decide +kernel
theorem dL_restore_3 : decode cL_restore 3 = .ok (.invokevirtual 176, 3) := by decide +kernel
theorem dL_restore_6 : decode cL_restore 6 = .ok (.i2l, 1) := by decide +kernel
theorem dL_restore_7 : decode cL_restore 7 = .ok (.lastore, 1) := by decide +kernel
theorem dL_restore_8 : decode cL_restore 8 = .ok (.goto 6, 3) := by decide +kernel
theorem dL_restore_11 : decode cL_restore 11 = .ok (.astore_n 2, 1) := by decide +kernel
theorem dL_restore_12 : decode cL_restore 12 = .ok (.iconst 1, 1) := by decide +kernel
theorem dL_restore_13 : decode cL_restore 13 = .ok (.ireturn, 1) := by decide +kernel
theorem dL_restore_14 : decode cL_restore 14 = .ok (.iconst 0, 1) := by decide +kernel
theorem dL_restore_15 : decode cL_restore 15 = .ok (.ireturn, 1) := by decide +kernel
set_option maxRecDepth 100000 in
set_option maxHeartbeats 4000000 in
theorem w_L_restore {l : Launch} {g : Nat → Nat} {M : LH} (htr : l.stackTraces = false) {p out : Nat}  {fs : List Value} {L2 mc2 ms2 : Nat} {f : Int32 → LH → Prop} {x : String → LH → Prop} (hM : K_X11_restore l g L2 mc2 ms2 [.ref p] M (RI f x)) (hp : M p = some (ob 9 fs)) (ho : ∀ r M9, f r M9 → ∃ h, M9 out = some (la 1 h)) (hx : ∀ E M9, x E M9 → E = "java/lang/IllegalStateException") : K_L_restore l g (L2 + 1) mc2 ms2 [.ref p, .ref out] M (RI (fun k M9 => (k = 0 ∧ ∃ r M8 h, f r M8 ∧ h 0 = r.toInt64 ∧ M9 = hup M8 out (la 1 h)) ∨ (∃ E, x E M9 ∧ ((E = "java/lang/IllegalStateException" ∧ k = 1)))) nX) := by
  refine Ct.ofH (nL := 3) (by decide +kernel) (Nat.le_of_ble_eq_true rfl) (by simp [Value.category]) htr (fun X => ?_)
  show V l g yL_restore cL_restore ((some .int)) (tableOf [(0, 8, 11, 13)]) (L2 + 1) mc2 ms2 (RI (fun k M9 => (k = 0 ∧ ∃ r M8 h, f r M8 ∧ h 0 = r.toInt64 ∧ M9 = hup M8 out (la 1 h)) ∨ (∃ E, x E M9 ∧ ((E = "java/lang/IllegalStateException" ∧ k = 1)))) nX) X M 0 0 0 [some (.ref p), some (.ref out), none] []
  refine v_aload_n dL_restore_0 rfl rfl ?_
  refine v_iconst (v := 0) dL_restore_1 (by decide) ?_
  refine v_aload_n dL_restore_2 rfl rfl ?_
  refine k_L_176 dL_restore_3 rfl hM hp (Nat.le_refl _) (by omega) (by omega) (Nat.le_of_ble_eq_true rfl) (fun r3 M9 h9 => ?_) (fun E M9 h9 => ?_)
  obtain ⟨h0, ho9⟩ := ho _ _ h9
  refine v_i2l dL_restore_6 ?_
  refine v_last dL_restore_7 ho9 ?_
  refine v_goto (tgt := 14) dL_restore_8 (by decide) ?_
  refine v_iconst (v := 0) dL_restore_14 (by decide) ?_
  exact v_iret dL_restore_15 rfl (Or.inl ⟨rfl, _, _, _, h9, rfl, rfl⟩) (by omega) (by omega)
  obtain rfl := hx E M9 h9
  refine VX.catch (own := "SledgePostLaw") (name := "java/lang/IllegalStateException") (pre := []) (suf := []) (x := ⟨0, 8, 11, 13⟩) rfl rfl (fun z hz => nomatch hz) (by decide) (by decide) (Ut_of (mt_3 105 rfl) rfl) (mt_3 234 rfl) (fun q9 => ?_)
  refine v_astore_2 dL_restore_11 ?_
  refine v_iconst (v := 1) dL_restore_12 (by decide) ?_
  exact v_iret dL_restore_13 rfl (Or.inr ⟨_, h9, ⟨rfl, rfl⟩⟩) (by omega) (by omega)
