/-! ===== builders: signs are appended, read, dropped ===== -/
theorem narC {x : Int32} (h0 : 0 ≤ x) (h1 : x < 128) : narrow .char (.int x) = .int x := by
  have key : ∀ j, j < 128 → narrow .char (.int (nI j)) = .int (nI j) := by decide +kernel
  have hx : x.toNatClampNeg < 128 := by
    have a := tc_lt h0 h1
    have e : (128 : Int32).toNatClampNeg = 128 := rfl
    omega
  have q := key _ hx
  rwa [tc_nI h0] at q
theorem dJ1_canEncode_fc78d_0 : decode cJ1_canEncode_fc78d 0 = .ok (.iload_n 0, 1) := by decide +kernel
theorem dJ1_canEncode_fc78d_1 : decode cJ1_canEncode_fc78d 1 = .ok (.sipush 255, 3) := by decide +kernel
theorem dJ1_canEncode_fc78d_4 : decode cJ1_canEncode_fc78d 4 = .ok (.if_icmp .gt 7, 3) := by decide +kernel
theorem dJ1_canEncode_fc78d_7 : decode cJ1_canEncode_fc78d 7 = .ok (.iconst 1, 1) := by decide +kernel
theorem dJ1_canEncode_fc78d_8 : decode cJ1_canEncode_fc78d 8 = .ok (.goto 4, 3) := by decide +kernel
theorem dJ1_canEncode_fc78d_11 : decode cJ1_canEncode_fc78d 11 = .ok (.iconst 0, 1) := by decide +kernel
theorem dJ1_canEncode_fc78d_12 : decode cJ1_canEncode_fc78d 12 = .ok (.ireturn, 1) := by decide +kernel
set_option maxRecDepth 100000 in
set_option maxHeartbeats 4000000 in
theorem c_canEnc {l : Launch} {g : Nat → Nat} {M : LH} (htr : l.stackTraces = false) {x : Int32} (hx1 : x < 128) : K_J1_canEncode_fc78d l g 0 0 0 [.int x] M (RI (fun v M9 => v = 1 ∧ M9 = M) nX) := by
  refine Ko_J1_canEncode_fc78d htr (fun X => ?_)
  refine v_iload_n dJ1_canEncode_fc78d_0 rfl rfl ?_
  refine v_sipush (v := (255)) dJ1_canEncode_fc78d_1 (by decide) ?_
  refine v_icmp_gt (tgt := 11) dJ1_canEncode_fc78d_4 (by decide) (fun h4 => ?_) (fun h4 => ?_)
  · exact absurd h4 (by lia)
  · refine v_iconst (v := 1) dJ1_canEncode_fc78d_7 (by decide) ?_
    refine v_goto (tgt := 12) dJ1_canEncode_fc78d_8 (by decide) ?_
    exact v_zret dJ1_canEncode_fc78d_12 rfl (by first | rfl | assumption)  ⟨rfl, rfl⟩ (by omega) (by omega)
theorem dJ5_append_3fe6f_0 : decode cJ5_append_3fe6f 0 = .ok (.aload_n 0, 1) := by decide +kernel
theorem dJ5_append_3fe6f_1 : decode cJ5_append_3fe6f 1 = .ok (.aload_n 0, 1) := by decide +kernel
theorem dJ5_append_3fe6f_2 : decode cJ5_append_3fe6f 2 = .ok (.getfield 79, 3) := by decide +kernel
theorem dJ5_append_3fe6f_5 : decode cJ5_append_3fe6f 5 = .ok (.iconst 1, 1) := by decide +kernel
theorem dJ5_append_3fe6f_6 : decode cJ5_append_3fe6f 6 = .ok (.iadd, 1) := by decide +kernel
theorem dJ5_append_3fe6f_7 : decode cJ5_append_3fe6f 7 = .ok (.invokevirtual 100, 3) := by decide +kernel
theorem dJ5_append_3fe6f_10 : decode cJ5_append_3fe6f 10 = .ok (.aload_n 0, 1) := by decide +kernel
theorem dJ5_append_3fe6f_11 : decode cJ5_append_3fe6f 11 = .ok (.invokevirtual 83, 3) := by decide +kernel
theorem dJ5_append_3fe6f_14 : decode cJ5_append_3fe6f 14 = .ok (.ifCond .eq 31, 3) := by decide +kernel
theorem dJ5_append_3fe6f_17 : decode cJ5_append_3fe6f 17 = .ok (.iload_n 1, 1) := by decide +kernel
theorem dJ5_append_3fe6f_18 : decode cJ5_append_3fe6f 18 = .ok (.invokestatic 191, 3) := by decide +kernel
theorem dJ5_append_3fe6f_21 : decode cJ5_append_3fe6f 21 = .ok (.ifCond .eq 24, 3) := by decide +kernel
theorem dJ5_append_3fe6f_24 : decode cJ5_append_3fe6f 24 = .ok (.aload_n 0, 1) := by decide +kernel
theorem dJ5_append_3fe6f_25 : decode cJ5_append_3fe6f 25 = .ok (.getfield 15, 3) := by decide +kernel
theorem dJ5_append_3fe6f_28 : decode cJ5_append_3fe6f 28 = .ok (.aload_n 0, 1) := by decide +kernel
theorem dJ5_append_3fe6f_29 : decode cJ5_append_3fe6f 29 = .ok (.dup, 1) := by decide +kernel
theorem dJ5_append_3fe6f_30 : decode cJ5_append_3fe6f 30 = .ok (.getfield 79, 3) := by decide +kernel
theorem dJ5_append_3fe6f_33 : decode cJ5_append_3fe6f 33 = .ok (.dup_x1, 1) := by decide +kernel
theorem dJ5_append_3fe6f_34 : decode cJ5_append_3fe6f 34 = .ok (.iconst 1, 1) := by decide +kernel
theorem dJ5_append_3fe6f_35 : decode cJ5_append_3fe6f 35 = .ok (.iadd, 1) := by decide +kernel
theorem dJ5_append_3fe6f_36 : decode cJ5_append_3fe6f 36 = .ok (.putfield 79, 3) := by decide +kernel
theorem dJ5_append_3fe6f_39 : decode cJ5_append_3fe6f 39 = .ok (.iload_n 1, 1) := by decide +kernel
theorem dJ5_append_3fe6f_40 : decode cJ5_append_3fe6f 40 = .ok (.i2b, 1) := by decide +kernel
theorem dJ5_append_3fe6f_41 : decode cJ5_append_3fe6f 41 = .ok (.bastore, 1) := by decide +kernel
theorem dJ5_append_3fe6f_42 : decode cJ5_append_3fe6f 42 = .ok (.goto 33, 3) := by decide +kernel
theorem dJ5_append_3fe6f_45 : decode cJ5_append_3fe6f 45 = .ok (.aload_n 0, 1) := by decide +kernel
theorem dJ5_append_3fe6f_46 : decode cJ5_append_3fe6f 46 = .ok (.invokevirtual 83, 3) := by decide +kernel
theorem dJ5_append_3fe6f_49 : decode cJ5_append_3fe6f 49 = .ok (.ifCond .eq 7, 3) := by decide +kernel
theorem dJ5_append_3fe6f_52 : decode cJ5_append_3fe6f 52 = .ok (.aload_n 0, 1) := by decide +kernel
theorem dJ5_append_3fe6f_53 : decode cJ5_append_3fe6f 53 = .ok (.invokevirtual 195, 3) := by decide +kernel
theorem dJ5_append_3fe6f_56 : decode cJ5_append_3fe6f 56 = .ok (.aload_n 0, 1) := by decide +kernel
theorem dJ5_append_3fe6f_57 : decode cJ5_append_3fe6f 57 = .ok (.getfield 15, 3) := by decide +kernel
theorem dJ5_append_3fe6f_60 : decode cJ5_append_3fe6f 60 = .ok (.aload_n 0, 1) := by decide +kernel
theorem dJ5_append_3fe6f_61 : decode cJ5_append_3fe6f 61 = .ok (.dup, 1) := by decide +kernel
theorem dJ5_append_3fe6f_62 : decode cJ5_append_3fe6f 62 = .ok (.getfield 79, 3) := by decide +kernel
theorem dJ5_append_3fe6f_65 : decode cJ5_append_3fe6f 65 = .ok (.dup_x1, 1) := by decide +kernel
theorem dJ5_append_3fe6f_66 : decode cJ5_append_3fe6f 66 = .ok (.iconst 1, 1) := by decide +kernel
theorem dJ5_append_3fe6f_67 : decode cJ5_append_3fe6f 67 = .ok (.iadd, 1) := by decide +kernel
theorem dJ5_append_3fe6f_68 : decode cJ5_append_3fe6f 68 = .ok (.putfield 79, 3) := by decide +kernel
theorem dJ5_append_3fe6f_71 : decode cJ5_append_3fe6f 71 = .ok (.iload_n 1, 1) := by decide +kernel
theorem dJ5_append_3fe6f_72 : decode cJ5_append_3fe6f 72 = .ok (.invokestatic 197, 3) := by decide +kernel
theorem dJ5_append_3fe6f_75 : decode cJ5_append_3fe6f 75 = .ok (.aload_n 0, 1) := by decide +kernel
theorem dJ5_append_3fe6f_76 : decode cJ5_append_3fe6f 76 = .ok (.areturn, 1) := by decide +kernel
set_option maxRecDepth 100000 in
set_option maxHeartbeats 4000000 in
theorem c_appC5 {l : Launch} {g : Nat → Nat} {M : LH} (htr : l.stackTraces = false) {b v : Nat} {N n : Int32} {f : Int32 → Int32} (hS : Sb M b v N n f) {x : Int32} (hx0 : 0 ≤ x) (hx1 : x < 128) (hN4 : N ≤ 4000) : K_J5_append_3fe6f l g 3 (gc N (n + 1)) (gs N (n + 1)) [.ref b, .int x] M (RA (fun r M9 => r = b ∧ ∃ v' f', Sb M9 b v' (gN N (n + 1)) (n + 1) f' ∧ (∀ j, 0 ≤ j → j < n → f' j = f j) ∧ f' n = x ∧ FB b v M M9 ∧ (v' = v ∨ M v' = none)) nX) := by
  refine Ko_J5_append_3fe6f htr (fun X => ?_)
  have N0 : 0 ≤ N := Int32.le_trans hS.2.2.1 hS.2.2.2.1
  have hS0 := hS
  obtain ⟨⟨ml, hb9⟩, hv9, hn0, hnN, hN9, hf9⟩ := hS
  refine v_aload_n dJ5_append_3fe6f_0 rfl rfl ?_
  refine v_aload_n dJ5_append_3fe6f_1 rfl rfl ?_
  refine gf_J5_79 dJ5_append_3fe6f_2 rfl hb9 ?_
  refine v_iconst (v := 1) dJ5_append_3fe6f_5 (by decide) ?_
  refine v_iadd dJ5_append_3fe6f_6 ?_
  refine k_J5_100 dJ5_append_3fe6f_7 rfl (c_ensure htr hS0 (m := n + 1) (by lia) (by lia) hN4) hb9 (Nat.le_of_ble_eq_true rfl) (by omega) (by omega) (Nat.le_of_ble_eq_true rfl) (fun M9 h9 => ?_) (fun _ _ h9 => h9.elim)
  obtain ⟨v1, f1, hS1, hk1, hF1, hv1⟩ := h9
  have nv1 := hS1.ne
  have hS1c := hS1
  obtain ⟨⟨ml1, hb1⟩, hv91, hn01, hnN1, hN91, hf91⟩ := hS1
  have hn1 : n < gN N (n + 1) := by
    unfold gN
    split <;> lia
  obtain ⟨r1, r2, -, -⟩ := nar_b hx0 hx1
  refine v_aload_n dJ5_append_3fe6f_10 rfl rfl ?_
  refine k_J5_83 dJ5_append_3fe6f_11 rfl (c_isL5 htr hb1) hb1 (Nat.le_of_ble_eq_true rfl) (by omega) (by omega) (Nat.le_of_ble_eq_true rfl) (fun r11 M9 h9 => ?_) (fun _ _ h9 => h9.elim)
  obtain ⟨rfl, e9⟩ := h9
  subst M9
  refine v_if_eq (tgt := 45) dJ5_append_3fe6f_14 (by decide) (fun h14 => ?_) (fun h14 => ?_)
  · exact absurd (show (1 : Int32) = 0 from h14) (by decide)
  · refine v_iload_n dJ5_append_3fe6f_17 rfl rfl ?_
    refine k_J5_191 dJ5_append_3fe6f_18 rfl (c_canEnc htr hx1) (Nat.le_of_ble_eq_true rfl) (by omega) (by omega) (Nat.le_of_ble_eq_true rfl) (fun r18 M9 h9 => ?_) (fun _ _ h9 => h9.elim)
    obtain ⟨rfl, e9⟩ := h9
    subst M9
    refine v_if_eq (tgt := 45) dJ5_append_3fe6f_21 (by decide) (fun h21 => ?_) (fun h21 => ?_)
    · exact absurd (show (1 : Int32) = 0 from h21) (by decide)
    · refine v_aload_n dJ5_append_3fe6f_24 rfl rfl ?_
      refine gf_J5_15 dJ5_append_3fe6f_25 rfl hb1 ?_
      refine v_aload_n dJ5_append_3fe6f_28 rfl rfl ?_
      refine v_dup dJ5_append_3fe6f_29 rfl ?_
      refine gf_J5_79 dJ5_append_3fe6f_30 rfl hb1 ?_
      refine v_dup_x1 dJ5_append_3fe6f_33 rfl rfl ?_
      refine v_iconst (v := 1) dJ5_append_3fe6f_34 (by decide) ?_
      refine v_iadd dJ5_append_3fe6f_35 ?_
      refine pf_J5_79 dJ5_append_3fe6f_36 rfl hb1 ?_
      refine v_iload_n dJ5_append_3fe6f_39 rfl rfl ?_
      refine v_i2b dJ5_append_3fe6f_40 ?_
      rw [r2]
      refine v_bast dJ5_append_3fe6f_41 ((hup_n nv1).trans hv91) hn0 hn1 ?_
      rw [r1]
      have nbv : ¬ b = v1 := fun z => nv1 z.symm
      refine v_goto (tgt := 75) dJ5_append_3fe6f_42 (by decide) ?_
      refine v_aload_n dJ5_append_3fe6f_75 rfl rfl ?_
      exact v_aret dJ5_append_3fe6f_76 rfl ⟨rfl, v1, ui f1 n x, ⟨⟨ml1, (hup_n nbv).trans hup_s⟩, hup_s, by lia, by lia, hN91, fun j j0 j1 => by (by_cases z : j = n; rw [z, ui_s]; exact ⟨hx0, hx1⟩; rw [ui_n z]; exact hf91 j j0 j1)⟩, fun j j0 j1 => (ui_n (by lia)).trans (hk1 j j0 j1), ui_s, fun y e hy hb hn => (hup_n (fun z => by (rcases hv1 with w | w; exact hn (z.trans w); rw [z, w] at hy; simp at hy))).trans ((hup_n hb).trans (hF1 y e hy hb hn)), hv1⟩ (by omega) (by omega)
theorem dJ4_append_cf468_0 : decode cJ4_append_cf468 0 = .ok (.aload_n 0, 1) := by decide +kernel
theorem dJ4_append_cf468_1 : decode cJ4_append_cf468 1 = .ok (.iload_n 1, 1) := by decide +kernel
theorem dJ4_append_cf468_2 : decode cJ4_append_cf468 2 = .ok (.invokespecial 50, 3) := by decide +kernel
theorem dJ4_append_cf468_5 : decode cJ4_append_cf468 5 = .ok (.pop, 1) := by decide +kernel
theorem dJ4_append_cf468_6 : decode cJ4_append_cf468 6 = .ok (.aload_n 0, 1) := by decide +kernel
theorem dJ4_append_cf468_7 : decode cJ4_append_cf468 7 = .ok (.areturn, 1) := by decide +kernel
set_option maxRecDepth 100000 in
set_option maxHeartbeats 4000000 in
theorem c_appC {l : Launch} {g : Nat → Nat} {M : LH} (htr : l.stackTraces = false) {b v : Nat} {N n : Int32} {f : Int32 → Int32} (hS : Sb M b v N n f) {x : Int32} (hx0 : 0 ≤ x) (hx1 : x < 128) (hN4 : N ≤ 4000) : K_J4_append_cf468 l g 4 (gc N (n + 1)) (gs N (n + 1)) [.ref b, .int x] M (RA (fun r M9 => r = b ∧ ∃ v' f', Sb M9 b v' (gN N (n + 1)) (n + 1) f' ∧ (∀ j, 0 ≤ j → j < n → f' j = f j) ∧ f' n = x ∧ FB b v M M9 ∧ (v' = v ∨ M v' = none)) nX) := by
  refine Ko_J4_append_cf468 htr (fun X => ?_)
  have hS0 := hS
  obtain ⟨⟨ml, hb9⟩, hv9, hn0, hnN, hN9, hf9⟩ := hS
  refine v_aload_n dJ4_append_cf468_0 rfl rfl ?_
  refine v_iload_n dJ4_append_cf468_1 rfl rfl ?_
  refine k_J4_50 dJ4_append_cf468_2 rfl (c_appC5 htr hS0 hx0 hx1 hN4) hb9 (Nat.le_of_ble_eq_true rfl) (by omega) (by omega) (Nat.le_of_ble_eq_true rfl) (fun r2 M9 h9 => ?_) (fun _ _ h9 => h9.elim)
  obtain ⟨h91, h92⟩ := h9
  refine v_pop dJ4_append_cf468_5 rfl ?_
  refine v_aload_n dJ4_append_cf468_6 rfl rfl ?_
  exact v_aret dJ4_append_cf468_7 rfl ⟨rfl, h92⟩ (by omega) (by omega)
theorem g0 {N : Int32} (h : 0 ≤ N) : gN N 0 = N ∧ gc N 0 = 0 ∧ gs N 0 = 0 := ⟨if_pos h, if_pos h, if_pos h⟩
set_option maxRecDepth 100000 in
set_option maxHeartbeats 4000000 in
theorem c_ens0 {l : Launch} {g : Nat → Nat} {M : LH} (htr : l.stackTraces = false) {b v : Nat} {N n : Int32} {f : Int32 → Int32} (hS : Sb M b v N n f) : K_J5_ensureCapacityInternal_d00df l g 2 0 0 [.ref b, .int 0] M (RV (fun M9 => M9 = M) nX) := by
  refine Ko_J5_ensureCapacityInternal_d00df htr (fun X => ?_)
  have N0 : 0 ≤ N := Int32.le_trans hS.2.2.1 hS.2.2.2.1
  obtain ⟨⟨ml, hb9⟩, hv9, hn0, hnN, hN9, hf9⟩ := hS
  refine v_aload_n dJ5_ensureCapacityInternal_d00df_0 rfl rfl ?_
  refine gf_J5_15 dJ5_ensureCapacityInternal_d00df_1 rfl hb9 ?_
  refine v_balen dJ5_ensureCapacityInternal_d00df_4 hv9 ?_
  refine v_aload_n dJ5_ensureCapacityInternal_d00df_5 rfl rfl ?_
  refine gf_J5_22 dJ5_ensureCapacityInternal_d00df_6 rfl hb9 ?_
  refine v_ishr dJ5_ensureCapacityInternal_d00df_9 ?_
  rw [sr0]
  refine v_istore_2 dJ5_ensureCapacityInternal_d00df_10 ?_
  refine v_iload_n dJ5_ensureCapacityInternal_d00df_11 rfl rfl ?_
  refine v_iload_n dJ5_ensureCapacityInternal_d00df_12 rfl rfl ?_
  refine v_isub dJ5_ensureCapacityInternal_d00df_13 ?_
  refine v_if_le (tgt := 38) dJ5_ensureCapacityInternal_d00df_14 (by decide) (fun h14 => ?_) (fun h14 => ?_)
  · exact v_vret dJ5_ensureCapacityInternal_d00df_38 rfl rfl (by omega) (by omega)
  · exact absurd h14 (by lia)
theorem dJ5_setLength_d00df_0 : decode cJ5_setLength_d00df 0 = .ok (.iload_n 1, 1) := by decide +kernel
theorem dJ5_setLength_d00df_1 : decode cJ5_setLength_d00df 1 = .ok (.ifCond .ge 12, 3) := by decide +kernel
theorem dJ5_setLength_d00df_4 : decode cJ5_setLength_d00df 4 = .ok (.new 129, 3) := by decide +kernel
theorem dJ5_setLength_d00df_7 : decode cJ5_setLength_d00df 7 = .ok (.dup, 1) := by decide +kernel
theorem dJ5_setLength_d00df_8 : decode cJ5_setLength_d00df 8 = .ok (.iload_n 1, 1) := by decide +kernel
theorem dJ5_setLength_d00df_9 : decode cJ5_setLength_d00df 9 = .ok (.invokespecial 131, 3) := by decide +kernel
theorem dJ5_setLength_d00df_12 : decode cJ5_setLength_d00df 12 = .ok (.athrow, 1) := by decide +kernel
theorem dJ5_setLength_d00df_13 : decode cJ5_setLength_d00df 13 = .ok (.aload_n 0, 1) := by decide +kernel
theorem dJ5_setLength_d00df_14 : decode cJ5_setLength_d00df 14 = .ok (.iload_n 1, 1) := by decide +kernel
theorem dJ5_setLength_d00df_15 : decode cJ5_setLength_d00df 15 = .ok (.invokevirtual 100, 3) := by decide +kernel
theorem dJ5_setLength_d00df_18 : decode cJ5_setLength_d00df 18 = .ok (.aload_n 0, 1) := by decide +kernel
theorem dJ5_setLength_d00df_19 : decode cJ5_setLength_d00df 19 = .ok (.getfield 79, 3) := by decide +kernel
theorem dJ5_setLength_d00df_22 : decode cJ5_setLength_d00df 22 = .ok (.iload_n 1, 1) := by decide +kernel
theorem dJ5_setLength_d00df_23 : decode cJ5_setLength_d00df 23 = .ok (.if_icmp .ge 40, 3) := by decide +kernel
theorem dJ5_setLength_d00df_26 : decode cJ5_setLength_d00df 26 = .ok (.aload_n 0, 1) := by decide +kernel
theorem dJ5_setLength_d00df_27 : decode cJ5_setLength_d00df 27 = .ok (.invokevirtual 83, 3) := by decide +kernel
theorem dJ5_setLength_d00df_30 : decode cJ5_setLength_d00df 30 = .ok (.ifCond .eq 18, 3) := by decide +kernel
theorem dJ5_setLength_d00df_33 : decode cJ5_setLength_d00df 33 = .ok (.aload_n 0, 1) := by decide +kernel
theorem dJ5_setLength_d00df_34 : decode cJ5_setLength_d00df 34 = .ok (.getfield 15, 3) := by decide +kernel
theorem dJ5_setLength_d00df_37 : decode cJ5_setLength_d00df 37 = .ok (.aload_n 0, 1) := by decide +kernel
theorem dJ5_setLength_d00df_38 : decode cJ5_setLength_d00df 38 = .ok (.getfield 79, 3) := by decide +kernel
theorem dJ5_setLength_d00df_41 : decode cJ5_setLength_d00df 41 = .ok (.iload_n 1, 1) := by decide +kernel
theorem dJ5_setLength_d00df_42 : decode cJ5_setLength_d00df 42 = .ok (.invokestatic 133, 3) := by decide +kernel
theorem dJ5_setLength_d00df_45 : decode cJ5_setLength_d00df 45 = .ok (.goto 31, 3) := by decide +kernel
theorem dJ5_setLength_d00df_48 : decode cJ5_setLength_d00df 48 = .ok (.aload_n 0, 1) := by decide +kernel
theorem dJ5_setLength_d00df_49 : decode cJ5_setLength_d00df 49 = .ok (.getfield 15, 3) := by decide +kernel
theorem dJ5_setLength_d00df_52 : decode cJ5_setLength_d00df 52 = .ok (.aload_n 0, 1) := by decide +kernel
theorem dJ5_setLength_d00df_53 : decode cJ5_setLength_d00df 53 = .ok (.getfield 79, 3) := by decide +kernel
theorem dJ5_setLength_d00df_56 : decode cJ5_setLength_d00df 56 = .ok (.iload_n 1, 1) := by decide +kernel
theorem dJ5_setLength_d00df_57 : decode cJ5_setLength_d00df 57 = .ok (.invokestatic 137, 3) := by decide +kernel
theorem dJ5_setLength_d00df_60 : decode cJ5_setLength_d00df 60 = .ok (.goto 16, 3) := by decide +kernel
theorem dJ5_setLength_d00df_63 : decode cJ5_setLength_d00df 63 = .ok (.aload_n 0, 1) := by decide +kernel
theorem dJ5_setLength_d00df_64 : decode cJ5_setLength_d00df 64 = .ok (.getfield 79, 3) := by decide +kernel
theorem dJ5_setLength_d00df_67 : decode cJ5_setLength_d00df 67 = .ok (.iload_n 1, 1) := by decide +kernel
theorem dJ5_setLength_d00df_68 : decode cJ5_setLength_d00df 68 = .ok (.if_icmp .le 8, 3) := by decide +kernel
theorem dJ5_setLength_d00df_71 : decode cJ5_setLength_d00df 71 = .ok (.aload_n 0, 1) := by decide +kernel
theorem dJ5_setLength_d00df_72 : decode cJ5_setLength_d00df 72 = .ok (.iconst 1, 1) := by decide +kernel
theorem dJ5_setLength_d00df_73 : decode cJ5_setLength_d00df 73 = .ok (.putfield 73, 3) := by decide +kernel
theorem dJ5_setLength_d00df_76 : decode cJ5_setLength_d00df 76 = .ok (.aload_n 0, 1) := by decide +kernel
theorem dJ5_setLength_d00df_77 : decode cJ5_setLength_d00df 77 = .ok (.iload_n 1, 1) := by decide +kernel
theorem dJ5_setLength_d00df_78 : decode cJ5_setLength_d00df 78 = .ok (.putfield 79, 3) := by decide +kernel
theorem dJ5_setLength_d00df_81 : decode cJ5_setLength_d00df 81 = .ok (.return_, 1) := by decide +kernel
set_option maxRecDepth 100000 in
set_option maxHeartbeats 4000000 in
theorem c_setL5 {l : Launch} {g : Nat → Nat} {M : LH} (htr : l.stackTraces = false) {b v : Nat} {N n : Int32} {f : Int32 → Int32} (hS : Sb M b v N n f) : K_J5_setLength_d00df l g 3 0 0 [.ref b, .int 0] M (RV (fun M9 => Sb M9 b v N 0 f ∧ FB b v M M9) nX) := by
  refine Ko_J5_setLength_d00df htr (fun X => ?_)
  have N0 : 0 ≤ N := Int32.le_trans hS.2.2.1 hS.2.2.2.1
  have hS0 := hS
  obtain ⟨e1, e2, e3⟩ := g0 N0
  have hE := c_ens0 (g := g) htr hS
  obtain ⟨⟨ml, hb9⟩, hv9, hn0, hnN, hN9, hf9⟩ := hS
  refine v_iload_n dJ5_setLength_d00df_0 rfl rfl ?_
  refine v_if_ge (tgt := 13) dJ5_setLength_d00df_1 (by decide) (fun h1 => ?_) (fun h1 => ?_)
  · refine v_aload_n dJ5_setLength_d00df_13 rfl rfl ?_
    refine v_iload_n dJ5_setLength_d00df_14 rfl rfl ?_
    refine k_J5_100 dJ5_setLength_d00df_15 rfl hE hb9 (Nat.le_of_ble_eq_true rfl) (by omega) (by omega) (Nat.le_of_ble_eq_true rfl) (fun M9 h9 => ?_) (fun _ _ h9 => h9.elim)
    subst h9
    have nv := hS0.ne
    refine v_aload_n dJ5_setLength_d00df_18 rfl rfl ?_
    refine gf_J5_79 dJ5_setLength_d00df_19 rfl hb9 ?_
    refine v_iload_n dJ5_setLength_d00df_22 rfl rfl ?_
    refine v_icmp_ge (tgt := 63) dJ5_setLength_d00df_23 (by decide) (fun h23 => ?_) (fun h23 => ?_)
    · refine v_aload_n dJ5_setLength_d00df_63 rfl rfl ?_
      refine gf_J5_79 dJ5_setLength_d00df_64 rfl hb9 ?_
      refine v_iload_n dJ5_setLength_d00df_67 rfl rfl ?_
      refine v_icmp_le (tgt := 76) dJ5_setLength_d00df_68 (by decide) (fun h68 => ?_) (fun h68 => ?_)
      · refine v_aload_n dJ5_setLength_d00df_76 rfl rfl ?_
        refine v_iload_n dJ5_setLength_d00df_77 rfl rfl ?_
        refine pf_J5_79 dJ5_setLength_d00df_78 rfl (by first | exact hup_s | exact hb9) ?_
        first | rw [hup_hup] | skip
        exact v_vret dJ5_setLength_d00df_81 rfl ⟨⟨⟨_, hup_s⟩, (by first | exact (hup_n nv).trans hv9 | exact hv9), Int32.le_refl _, N0, hN9, hf9⟩, fun y e hy hb hn => (hup_n hb).trans hy⟩ (by omega) (by omega)
      · refine v_aload_n dJ5_setLength_d00df_71 rfl rfl ?_
        refine v_iconst (v := 1) dJ5_setLength_d00df_72 (by decide) ?_
        refine pf_J5_73 dJ5_setLength_d00df_73 rfl (by first | rfl | assumption) (by first | rfl | assumption) hb9 ?_
        refine v_aload_n dJ5_setLength_d00df_76 rfl rfl ?_
        refine v_iload_n dJ5_setLength_d00df_77 rfl rfl ?_
        refine pf_J5_79 dJ5_setLength_d00df_78 rfl (by first | exact hup_s | exact hb9) ?_
        first | rw [hup_hup] | skip
        exact v_vret dJ5_setLength_d00df_81 rfl ⟨⟨⟨_, hup_s⟩, (by first | exact (hup_n nv).trans hv9 | exact hv9), Int32.le_refl _, N0, hN9, hf9⟩, fun y e hy hb hn => (hup_n hb).trans hy⟩ (by omega) (by omega)
    · exact absurd hn0 h23
  · exact absurd (show (0 : Int32) ≤ 0 from Int32.le_refl _) h1
theorem dJ4_setLength_d00df_0 : decode cJ4_setLength_d00df 0 = .ok (.aload_n 0, 1) := by decide +kernel
theorem dJ4_setLength_d00df_1 : decode cJ4_setLength_d00df 1 = .ok (.iload_n 1, 1) := by decide +kernel
theorem dJ4_setLength_d00df_2 : decode cJ4_setLength_d00df 2 = .ok (.invokespecial 333, 3) := by decide +kernel
theorem dJ4_setLength_d00df_5 : decode cJ4_setLength_d00df 5 = .ok (.return_, 1) := by decide +kernel
set_option maxRecDepth 100000 in
set_option maxHeartbeats 4000000 in
theorem c_setL {l : Launch} {g : Nat → Nat} {M : LH} (htr : l.stackTraces = false) {b v : Nat} {N n : Int32} {f : Int32 → Int32} (hS : Sb M b v N n f) : K_J4_setLength_d00df l g 4 0 0 [.ref b, .int 0] M (RV (fun M9 => Sb M9 b v N 0 f ∧ FB b v M M9) nX) := by
  refine Ko_J4_setLength_d00df htr (fun X => ?_)
  have hS0 := hS
  obtain ⟨⟨ml, hb9⟩, hv9, hn0, hnN, hN9, hf9⟩ := hS
  refine v_aload_n dJ4_setLength_d00df_0 rfl rfl ?_
  refine v_iload_n dJ4_setLength_d00df_1 rfl rfl ?_
  refine k_J4_333 dJ4_setLength_d00df_2 rfl (c_setL5 htr hS0) hb9 (Nat.le_of_ble_eq_true rfl) (by omega) (by omega) (Nat.le_of_ble_eq_true rfl) (fun M9 h9 => ?_) (fun _ _ h9 => h9.elim)
  skip
  exact v_vret dJ4_setLength_d00df_5 rfl h9 (by omega) (by omega)
theorem dJ3_checkIndex_8e157_0 : decode cJ3_checkIndex_8e157 0 = .ok (.iload_n 0, 1) := by decide +kernel
theorem dJ3_checkIndex_8e157_1 : decode cJ3_checkIndex_8e157 1 = .ok (.ifCond .lt 8, 3) := by decide +kernel
theorem dJ3_checkIndex_8e157_4 : decode cJ3_checkIndex_8e157 4 = .ok (.iload_n 0, 1) := by decide +kernel
theorem dJ3_checkIndex_8e157_5 : decode cJ3_checkIndex_8e157 5 = .ok (.iload_n 1, 1) := by decide +kernel
theorem dJ3_checkIndex_8e157_6 : decode cJ3_checkIndex_8e157 6 = .ok (.if_icmp .lt 10, 3) := by decide +kernel
theorem dJ3_checkIndex_8e157_9 : decode cJ3_checkIndex_8e157 9 = .ok (.aload_n 2, 1) := by decide +kernel
theorem dJ3_checkIndex_8e157_10 : decode cJ3_checkIndex_8e157 10 = .ok (.iload_n 0, 1) := by decide +kernel
theorem dJ3_checkIndex_8e157_11 : decode cJ3_checkIndex_8e157 11 = .ok (.iload_n 1, 1) := by decide +kernel
theorem dJ3_checkIndex_8e157_12 : decode cJ3_checkIndex_8e157 12 = .ok (.invokestatic 95, 3) := by decide +kernel
theorem dJ3_checkIndex_8e157_15 : decode cJ3_checkIndex_8e157 15 = .ok (.athrow, 1) := by decide +kernel
theorem dJ3_checkIndex_8e157_16 : decode cJ3_checkIndex_8e157 16 = .ok (.iload_n 0, 1) := by decide +kernel
theorem dJ3_checkIndex_8e157_17 : decode cJ3_checkIndex_8e157 17 = .ok (.ireturn, 1) := by decide +kernel
theorem c_chk3 {l : Launch} {g : Nat → Nat} {M : LH} (htr : l.stackTraces = false) {i N : Int32} (h0 : 0 ≤ i) (h1 : i < N) (z : Option Nat) : K_J3_checkIndex_8e157 l g 0 0 0 [.int i, .int N, va_rf z] M (RI (fun v M9 => v = i ∧ M9 = M) nX) := by
  refine Ct.of (nL := 3) (by decide +kernel) (Nat.le_of_ble_eq_true rfl) (by cases z <;> simp [Value.category, va_rf]) htr (fun X => ?_)
  refine v_iload_n dJ3_checkIndex_8e157_0 rfl rfl ?_
  refine v_if_lt (tgt := 9) dJ3_checkIndex_8e157_1 (by decide) (fun h91 => ?_) (fun h91 => ?_)
  · exact absurd h91 (Int32.not_lt.mpr h0)
  · refine v_iload_n dJ3_checkIndex_8e157_4 rfl rfl ?_
    refine v_iload_n dJ3_checkIndex_8e157_5 rfl rfl ?_
    refine v_icmp_lt (tgt := 16) dJ3_checkIndex_8e157_6 (by decide) (fun h6 => ?_) (fun h6 => ?_)
    · refine v_iload_n dJ3_checkIndex_8e157_16 rfl rfl ?_
      exact v_iret dJ3_checkIndex_8e157_17 rfl ⟨rfl, rfl⟩ (by omega) (by omega)
    · exact absurd h1 h6
section VQ
variable {l : Launch} {g : Nat → Nat} {y : MethodName} {cc : ByteArray} {rt : Option FieldType} {tb : List ExceptionTableEntry} {L mc ms : Nat} {Po : Res → LH → Prop} {X : CX} {M : LH} {k n pc : Nat} {ls : List (Option Value)} {rest : List Value}
theorem kz_J0_1059 {b0 b1 : Int32} {z : Option Nat} {L2 mc2 ms2 : Nat} {f : Int32 → LH → Prop} {x : String → LH → Prop} (hd : decode cc pc = .ok (.invokestatic 1059, 3)) (ho : y.cls = "java/lang/String") (hM : K_J3_checkIndex_8e157 l g L2 mc2 ms2 [.int b0, .int b1, va_rf z] M (RI f x)) (hL : L2 + 1 ≤ L) (hk : k + mc2 ≤ mc) (hn : n + ms2 ≤ ms) (hrs : (rest.map fun v => v.category).sum ≤ 8) (kk : ∀ (r : Int32) (M9 : LH), f r M9 → V l g y cc rt tb L mc ms Po X (M9) (k + mc2) (n + ms2) (pc + 3) (ls) (.int r :: rest)) (kx : ∀ (E : String) (M9 : LH), x E M9 → VX l g y cc rt tb L mc ms Po X M9 (k + mc2) (n + ms2) pc ls rest E) : V l g y cc rt tb L mc ms Po X (M) (k) (n) (pc) (ls) (va_rf z :: .int b1 :: .int b0 :: rest) := v_callS (As := [.int b0, .int b1, va_rf z]) hd hM ho (Ut_of (mt_7 109 rfl) rfl) (Ut_of (mt_7 110 rfl) rfl) (Ut_of (mt_1 33 rfl) rfl) (Ut_of (mt_7 111 rfl) rfl) ck_J3_checkIndex_8e157 hL (Nat.le_of_ble_eq_true rfl) hk hn hrs (fun r M9 h => by obtain ⟨v, rfl, h2⟩ := RI_of h; exact kk v M9 h2) kx
end VQ
theorem dJ0_checkIndex_df160_0 : decode cJ0_checkIndex_df160 0 = .ok (.iload_n 0, 1) := by decide +kernel
theorem dJ0_checkIndex_df160_1 : decode cJ0_checkIndex_df160 1 = .ok (.iload_n 1, 1) := by decide +kernel
theorem dJ0_checkIndex_df160_2 : decode cJ0_checkIndex_df160 2 = .ok (.getstatic 1053, 3) := by decide +kernel
theorem dJ0_checkIndex_df160_5 : decode cJ0_checkIndex_df160 5 = .ok (.invokestatic 1059, 3) := by decide +kernel
theorem dJ0_checkIndex_df160_8 : decode cJ0_checkIndex_df160 8 = .ok (.pop, 1) := by decide +kernel
theorem dJ0_checkIndex_df160_9 : decode cJ0_checkIndex_df160 9 = .ok (.return_, 1) := by decide +kernel
set_option maxRecDepth 100000 in
set_option maxHeartbeats 4000000 in
theorem c_chk {l : Launch} {g : Nat → Nat} {M : LH} (htr : l.stackTraces = false) {i N : Int32} (h0 : 0 ≤ i) (h1 : i < N) : K_J0_checkIndex_df160 l g 1 0 0 [.int i, .int N] M (RV (fun M9 => M9 = M) nX) := by
  refine Ko_J0_checkIndex_df160 htr (fun X => ?_)
  refine v_iload_n dJ0_checkIndex_df160_0 rfl rfl ?_
  refine v_iload_n dJ0_checkIndex_df160_1 rfl rfl ?_
  refine gs_J0_1053 dJ0_checkIndex_df160_2 rfl (fun z => ?_)
  refine kz_J0_1059 dJ0_checkIndex_df160_5 rfl (c_chk3 htr h0 h1 z) (Nat.le_of_ble_eq_true rfl) (by omega) (by omega) (Nat.le_of_ble_eq_true rfl) (fun r9 M9 h9 => ?_) (fun _ _ h9 => h9.elim)
  obtain ⟨rfl, e9⟩ := h9
  subst M9
  refine v_pop dJ0_checkIndex_df160_8 rfl ?_
  exact v_vret dJ0_checkIndex_df160_9 rfl rfl (by omega) (by omega)
theorem dJ5_charAt_5068e_0 : decode cJ5_charAt_5068e 0 = .ok (.aload_n 0, 1) := by decide +kernel
theorem dJ5_charAt_5068e_1 : decode cJ5_charAt_5068e 1 = .ok (.getfield 22, 3) := by decide +kernel
theorem dJ5_charAt_5068e_4 : decode cJ5_charAt_5068e 4 = .ok (.istore_n 2, 1) := by decide +kernel
theorem dJ5_charAt_5068e_5 : decode cJ5_charAt_5068e 5 = .ok (.aload_n 0, 1) := by decide +kernel
theorem dJ5_charAt_5068e_6 : decode cJ5_charAt_5068e 6 = .ok (.getfield 15, 3) := by decide +kernel
theorem dJ5_charAt_5068e_9 : decode cJ5_charAt_5068e 9 = .ok (.astore_n 3, 1) := by decide +kernel
theorem dJ5_charAt_5068e_10 : decode cJ5_charAt_5068e 10 = .ok (.aload_n 0, 1) := by decide +kernel
theorem dJ5_charAt_5068e_11 : decode cJ5_charAt_5068e 11 = .ok (.getfield 79, 3) := by decide +kernel
theorem dJ5_charAt_5068e_14 : decode cJ5_charAt_5068e 14 = .ok (.aload_n 3, 1) := by decide +kernel
theorem dJ5_charAt_5068e_15 : decode cJ5_charAt_5068e 15 = .ok (.arraylength, 1) := by decide +kernel
theorem dJ5_charAt_5068e_16 : decode cJ5_charAt_5068e 16 = .ok (.iload_n 2, 1) := by decide +kernel
theorem dJ5_charAt_5068e_17 : decode cJ5_charAt_5068e 17 = .ok (.ishr, 1) := by decide +kernel
theorem dJ5_charAt_5068e_18 : decode cJ5_charAt_5068e 18 = .ok (.invokestatic 138, 3) := by decide +kernel
theorem dJ5_charAt_5068e_21 : decode cJ5_charAt_5068e 21 = .ok (.istore 4, 2) := by decide +kernel
theorem dJ5_charAt_5068e_23 : decode cJ5_charAt_5068e 23 = .ok (.iload_n 1, 1) := by decide +kernel
theorem dJ5_charAt_5068e_24 : decode cJ5_charAt_5068e 24 = .ok (.iload 4, 2) := by decide +kernel
theorem dJ5_charAt_5068e_26 : decode cJ5_charAt_5068e 26 = .ok (.invokestatic 144, 3) := by decide +kernel
theorem dJ5_charAt_5068e_29 : decode cJ5_charAt_5068e 29 = .ok (.iload_n 2, 1) := by decide +kernel
theorem dJ5_charAt_5068e_30 : decode cJ5_charAt_5068e 30 = .ok (.ifCond .ne 12, 3) := by decide +kernel
theorem dJ5_charAt_5068e_33 : decode cJ5_charAt_5068e 33 = .ok (.aload_n 3, 1) := by decide +kernel
theorem dJ5_charAt_5068e_34 : decode cJ5_charAt_5068e 34 = .ok (.iload_n 1, 1) := by decide +kernel
theorem dJ5_charAt_5068e_35 : decode cJ5_charAt_5068e 35 = .ok (.baload, 1) := by decide +kernel
theorem dJ5_charAt_5068e_36 : decode cJ5_charAt_5068e 36 = .ok (.sipush 255, 3) := by decide +kernel
theorem dJ5_charAt_5068e_39 : decode cJ5_charAt_5068e 39 = .ok (.iand, 1) := by decide +kernel
theorem dJ5_charAt_5068e_40 : decode cJ5_charAt_5068e 40 = .ok (.i2c, 1) := by decide +kernel
theorem dJ5_charAt_5068e_41 : decode cJ5_charAt_5068e 41 = .ok (.ireturn, 1) := by decide +kernel
theorem dJ5_charAt_5068e_42 : decode cJ5_charAt_5068e 42 = .ok (.aload_n 3, 1) := by decide +kernel
theorem dJ5_charAt_5068e_43 : decode cJ5_charAt_5068e 43 = .ok (.iload_n 1, 1) := by decide +kernel
theorem dJ5_charAt_5068e_44 : decode cJ5_charAt_5068e 44 = .ok (.invokestatic 148, 3) := by decide +kernel
theorem dJ5_charAt_5068e_47 : decode cJ5_charAt_5068e 47 = .ok (.ireturn, 1) := by decide +kernel
set_option maxRecDepth 100000 in
set_option maxHeartbeats 4000000 in
theorem c_charAt5 {l : Launch} {g : Nat → Nat} {M : LH} (htr : l.stackTraces = false) {b v : Nat} {N n : Int32} {f : Int32 → Int32} (hS : Sb M b v N n f) {i : Int32} (hi0 : 0 ≤ i) (hi1 : i < n) : K_J5_charAt_5068e l g 2 0 0 [.ref b, .int i] M (RI (fun v M9 => v = f i ∧ M9 = M) nX) := by
  refine Ko_J5_charAt_5068e htr (fun X => ?_)
  have hi2 : i < N := Int32.lt_of_lt_of_le hi1 hS.2.2.2.1
  have hS0 := hS
  obtain ⟨⟨ml, hb9⟩, hv9, hn0, hnN, hN9, hf9⟩ := hS
  obtain ⟨c0, c1⟩ := hf9 i hi0 hi2
  obtain ⟨-, -, r3, r4⟩ := nar_b c0 c1
  refine v_aload_n dJ5_charAt_5068e_0 rfl rfl ?_
  refine gf_J5_22 dJ5_charAt_5068e_1 rfl hb9 ?_
  refine v_istore_2 dJ5_charAt_5068e_4 ?_
  refine v_aload_n dJ5_charAt_5068e_5 rfl rfl ?_
  refine gf_J5_15 dJ5_charAt_5068e_6 rfl hb9 ?_
  refine v_astore_3 dJ5_charAt_5068e_9 ?_
  refine v_aload_n dJ5_charAt_5068e_10 rfl rfl ?_
  refine gf_J5_79 dJ5_charAt_5068e_11 rfl hb9 ?_
  refine v_aload_n dJ5_charAt_5068e_14 rfl rfl ?_
  refine v_balen dJ5_charAt_5068e_15 hv9 ?_
  refine v_iload_n dJ5_charAt_5068e_16 rfl rfl ?_
  refine v_ishr dJ5_charAt_5068e_17 ?_
  rw [sr0]
  refine mm_J5_138 dJ5_charAt_5068e_18 rfl (Nat.le_of_ble_eq_true rfl) (by omega) (by omega) ?_
  rw [if_neg (by lia : ¬ N < n)]
  refine v_istore_4 dJ5_charAt_5068e_21 ?_
  refine v_iload_n dJ5_charAt_5068e_23 rfl rfl ?_
  refine v_iload dJ5_charAt_5068e_24 rfl ?_
  refine k_J5_144 dJ5_charAt_5068e_26 rfl (c_chk htr hi0 hi1) (Nat.le_of_ble_eq_true rfl) (by omega) (by omega) (Nat.le_of_ble_eq_true rfl) (fun M9 h9 => ?_) (fun _ _ h9 => h9.elim)
  subst h9
  refine v_iload_n dJ5_charAt_5068e_29 rfl rfl ?_
  refine v_if_ne (tgt := 42) dJ5_charAt_5068e_30 (by decide) (fun h30 => ?_) (fun h30 => ?_)
  · exact absurd rfl h30
  · refine v_aload_n dJ5_charAt_5068e_33 rfl rfl ?_
    refine v_iload_n dJ5_charAt_5068e_34 rfl rfl ?_
    refine v_bald dJ5_charAt_5068e_35 hv9 hi0 hi2 ?_
    refine v_sipush (v := (255)) dJ5_charAt_5068e_36 (by decide) ?_
    refine v_iand dJ5_charAt_5068e_39 ?_
    rw [r4]
    refine v_i2c dJ5_charAt_5068e_40 ?_
    rw [r3]
    exact v_zret dJ5_charAt_5068e_41 rfl (narC c0 c1)  ⟨rfl, rfl⟩ (by omega) (by omega)
theorem dJ4_charAt_5068e_0 : decode cJ4_charAt_5068e 0 = .ok (.aload_n 0, 1) := by decide +kernel
theorem dJ4_charAt_5068e_1 : decode cJ4_charAt_5068e 1 = .ok (.iload_n 1, 1) := by decide +kernel
theorem dJ4_charAt_5068e_2 : decode cJ4_charAt_5068e 2 = .ok (.invokespecial 329, 3) := by decide +kernel
theorem dJ4_charAt_5068e_5 : decode cJ4_charAt_5068e 5 = .ok (.ireturn, 1) := by decide +kernel
set_option maxRecDepth 100000 in
set_option maxHeartbeats 4000000 in
theorem c_charAt {l : Launch} {g : Nat → Nat} {M : LH} (htr : l.stackTraces = false) {b v : Nat} {N n : Int32} {f : Int32 → Int32} (hS : Sb M b v N n f) {i : Int32} (hi0 : 0 ≤ i) (hi1 : i < n) : K_J4_charAt_5068e l g 3 0 0 [.ref b, .int i] M (RI (fun v M9 => v = f i ∧ M9 = M) nX) := by
  refine Ko_J4_charAt_5068e htr (fun X => ?_)
  have hS0 := hS
  have hi2 : i < N := Int32.lt_of_lt_of_le hi1 hS.2.2.2.1
  obtain ⟨⟨ml, hb9⟩, hv9, hn0, hnN, hN9, hf9⟩ := hS
  obtain ⟨c0, c1⟩ := hf9 i hi0 hi2
  refine v_aload_n dJ4_charAt_5068e_0 rfl rfl ?_
  refine v_iload_n dJ4_charAt_5068e_1 rfl rfl ?_
  refine k_J4_329 dJ4_charAt_5068e_2 rfl (c_charAt5 htr hS0 hi0 hi1) hb9 (Nat.le_of_ble_eq_true rfl) (by omega) (by omega) (Nat.le_of_ble_eq_true rfl) (fun r2 M9 h9 => ?_) (fun _ _ h9 => h9.elim)
  obtain ⟨rfl, e9⟩ := h9
  subst M9
  exact v_zret dJ4_charAt_5068e_5 rfl (narC c0 c1)  ⟨rfl, rfl⟩ (by omega) (by omega)
/-! ===== the forms of the commands ===== -/
theorem dJ0_coder_7d493_0 : decode cJ0_coder_7d493 0 = .ok (.getstatic 38, 3) := by decide +kernel
theorem dJ0_coder_7d493_3 : decode cJ0_coder_7d493 3 = .ok (.ifCond .eq 10, 3) := by decide +kernel
theorem dJ0_coder_7d493_6 : decode cJ0_coder_7d493 6 = .ok (.aload_n 0, 1) := by decide +kernel
theorem dJ0_coder_7d493_7 : decode cJ0_coder_7d493 7 = .ok (.getfield 15, 3) := by decide +kernel
theorem dJ0_coder_7d493_10 : decode cJ0_coder_7d493 10 = .ok (.goto 4, 3) := by decide +kernel
theorem dJ0_coder_7d493_13 : decode cJ0_coder_7d493 13 = .ok (.iconst 1, 1) := by decide +kernel
theorem dJ0_coder_7d493_14 : decode cJ0_coder_7d493 14 = .ok (.ireturn, 1) := by decide +kernel
set_option maxRecDepth 100000 in
set_option maxHeartbeats 4000000 in
theorem c_coder0 {l : Launch} {g : Nat → Nat} {M : LH} (htr : l.stackTraces = false) {i : Nat} (hi : i < 10) : K_J0_coder_7d493 l g 0 0 0 [.ref (g (20 + i))] M (RI (fun v M9 => v = 0 ∧ M9 = M) nX) := by
  refine Ko_J0_coder_7d493 htr (fun X => ?_)
  refine gs_J0_38 dJ0_coder_7d493_0 rfl ?_
  refine v_if_eq (tgt := 13) dJ0_coder_7d493_3 (by decide) (fun h3 => ?_) (fun h3 => ?_)
  · exact absurd (show (1 : Int32) = 0 from h3) (by decide)
  · refine v_aload_n dJ0_coder_7d493_6 rfl rfl ?_
    refine v_gC dJ0_coder_7d493_7 rfl (fun A U H h => h.c hi 4 rfl) (Ut_of (mt_7 49 rfl) rfl) ?_
    refine v_goto (tgt := 14) dJ0_coder_7d493_10 (by decide) ?_
    exact v_zret dJ0_coder_7d493_14 rfl (by first | rfl | assumption)  ⟨rfl, rfl⟩ (by omega) (by omega)
theorem dJ0_isLatin1_aae02_0 : decode cJ0_isLatin1_aae02 0 = .ok (.getstatic 38, 3) := by decide +kernel
theorem dJ0_isLatin1_aae02_3 : decode cJ0_isLatin1_aae02 3 = .ok (.ifCond .eq 14, 3) := by decide +kernel
theorem dJ0_isLatin1_aae02_6 : decode cJ0_isLatin1_aae02 6 = .ok (.aload_n 0, 1) := by decide +kernel
theorem dJ0_isLatin1_aae02_7 : decode cJ0_isLatin1_aae02 7 = .ok (.getfield 15, 3) := by decide +kernel
theorem dJ0_isLatin1_aae02_10 : decode cJ0_isLatin1_aae02 10 = .ok (.ifCond .ne 7, 3) := by decide +kernel
theorem dJ0_isLatin1_aae02_13 : decode cJ0_isLatin1_aae02 13 = .ok (.iconst 1, 1) := by decide +kernel
theorem dJ0_isLatin1_aae02_14 : decode cJ0_isLatin1_aae02 14 = .ok (.goto 4, 3) := by decide +kernel
theorem dJ0_isLatin1_aae02_17 : decode cJ0_isLatin1_aae02 17 = .ok (.iconst 0, 1) := by decide +kernel
theorem dJ0_isLatin1_aae02_18 : decode cJ0_isLatin1_aae02 18 = .ok (.ireturn, 1) := by decide +kernel
set_option maxRecDepth 100000 in
set_option maxHeartbeats 4000000 in
theorem c_isL0 {l : Launch} {g : Nat → Nat} {M : LH} (htr : l.stackTraces = false) {i : Nat} (hi : i < 10) : K_J0_isLatin1_aae02 l g 0 0 0 [.ref (g (20 + i))] M (RI (fun v M9 => v = 1 ∧ M9 = M) nX) := by
  refine Ko_J0_isLatin1_aae02 htr (fun X => ?_)
  refine gs_J0_38 dJ0_isLatin1_aae02_0 rfl ?_
  refine v_if_eq (tgt := 17) dJ0_isLatin1_aae02_3 (by decide) (fun h3 => ?_) (fun h3 => ?_)
  · exact absurd (show (1 : Int32) = 0 from h3) (by decide)
  · refine v_aload_n dJ0_isLatin1_aae02_6 rfl rfl ?_
    refine v_gC dJ0_isLatin1_aae02_7 rfl (fun A U H h => h.c hi 4 rfl) (Ut_of (mt_7 49 rfl) rfl) ?_
    refine v_if_ne (tgt := 17) dJ0_isLatin1_aae02_10 (by decide) (fun h10 => ?_) (fun h10 => ?_)
    · exact absurd (show (0 : Int32) = 0 from rfl) h10
    · refine v_iconst (v := 1) dJ0_isLatin1_aae02_13 (by decide) ?_
      refine v_goto (tgt := 18) dJ0_isLatin1_aae02_14 (by decide) ?_
      exact v_zret dJ0_isLatin1_aae02_18 rfl (by first | rfl | assumption) ⟨rfl, rfl⟩ (by omega) (by omega)
def fmI (i : Nat) (j : Int32) : Int32 := (fms.getD i []).getD j.toNatClampNeg 0
def fmL (i : Nat) : Int32 := Int32.ofNat (fms.getD i []).length
theorem fm_b : ∀ i, i < 10 → (fms.getD i []).length ≤ 14 ∧ ∀ j, j < 14 → 0 ≤ (fms.getD i []).getD j 0 ∧ (fms.getD i []).getD j 0 < 128 := by decide +kernel
theorem fm_l : ∀ i, i < 10 → 0 ≤ fmL i ∧ fmL i ≤ 14 ∧ (fmL i).toNatClampNeg = (fms.getD i []).length := by decide +kernel
theorem dJ0_length_8abf5_0 : decode cJ0_length_8abf5 0 = .ok (.aload_n 0, 1) := by decide +kernel
theorem dJ0_length_8abf5_1 : decode cJ0_length_8abf5 1 = .ok (.getfield 9, 3) := by decide +kernel
theorem dJ0_length_8abf5_4 : decode cJ0_length_8abf5 4 = .ok (.arraylength, 1) := by decide +kernel
theorem dJ0_length_8abf5_5 : decode cJ0_length_8abf5 5 = .ok (.aload_n 0, 1) := by decide +kernel
theorem dJ0_length_8abf5_6 : decode cJ0_length_8abf5 6 = .ok (.invokevirtual 335, 3) := by decide +kernel
theorem dJ0_length_8abf5_9 : decode cJ0_length_8abf5 9 = .ok (.ishr, 1) := by decide +kernel
theorem dJ0_length_8abf5_10 : decode cJ0_length_8abf5 10 = .ok (.ireturn, 1) := by decide +kernel
set_option maxRecDepth 100000 in
set_option maxHeartbeats 4000000 in
theorem c_len0 {l : Launch} {g : Nat → Nat} {M : LH} (htr : l.stackTraces = false) {i : Nat} (hi : i < 10) : K_J0_length_8abf5 l g 1 0 0 [.ref (g (20 + i))] M (RI (fun v M9 => v = fmL i ∧ M9 = M) nX) := by
  refine Ko_J0_length_8abf5 htr (fun X => ?_)
  refine v_aload_n dJ0_length_8abf5_0 rfl rfl ?_
  refine v_gC dJ0_length_8abf5_1 rfl (fun A U H h => h.c hi 5 rfl) (Ut_of (mt_7 48 rfl) rfl) ?_
  refine v_tL dJ0_length_8abf5_4 (fun A U H h => h.c hi 6 rfl) (v := fmL i) rfl ?_
  refine v_aload_n dJ0_length_8abf5_5 rfl rfl ?_
  refine k_J0_335 dJ0_length_8abf5_6 rfl (c_coder0 htr hi) (Rcv.co (fun A U H h => h.c hi 3 rfl)) (Nat.le_of_ble_eq_true rfl) (by omega) (by omega) (Nat.le_of_ble_eq_true rfl) (fun r6 M9 h9 => ?_) (fun _ _ h9 => h9.elim)
  obtain ⟨rfl, e9⟩ := h9
  subst M9
  refine v_ishr dJ0_length_8abf5_9 ?_
  rw [sr0]
  exact v_iret dJ0_length_8abf5_10 rfl ⟨rfl, rfl⟩ (by omega) (by omega)
theorem dJ1_charAt_3b067_0 : decode cJ1_charAt_3b067 0 = .ok (.iload_n 1, 1) := by decide +kernel
theorem dJ1_charAt_3b067_1 : decode cJ1_charAt_3b067 1 = .ok (.aload_n 0, 1) := by decide +kernel
theorem dJ1_charAt_3b067_2 : decode cJ1_charAt_3b067 2 = .ok (.arraylength, 1) := by decide +kernel
theorem dJ1_charAt_3b067_3 : decode cJ1_charAt_3b067 3 = .ok (.invokestatic 9, 3) := by decide +kernel
theorem dJ1_charAt_3b067_6 : decode cJ1_charAt_3b067 6 = .ok (.aload_n 0, 1) := by decide +kernel
theorem dJ1_charAt_3b067_7 : decode cJ1_charAt_3b067 7 = .ok (.iload_n 1, 1) := by decide +kernel
theorem dJ1_charAt_3b067_8 : decode cJ1_charAt_3b067 8 = .ok (.baload, 1) := by decide +kernel
theorem dJ1_charAt_3b067_9 : decode cJ1_charAt_3b067 9 = .ok (.sipush 255, 3) := by decide +kernel
theorem dJ1_charAt_3b067_12 : decode cJ1_charAt_3b067 12 = .ok (.iand, 1) := by decide +kernel
theorem dJ1_charAt_3b067_13 : decode cJ1_charAt_3b067 13 = .ok (.i2c, 1) := by decide +kernel
theorem dJ1_charAt_3b067_14 : decode cJ1_charAt_3b067 14 = .ok (.ireturn, 1) := by decide +kernel
set_option maxRecDepth 100000 in
set_option maxHeartbeats 4000000 in
theorem c_l1at {l : Launch} {g : Nat → Nat} {M : LH} (htr : l.stackTraces = false) {i : Nat} (hi : i < 10) {j : Int32} (hj0 : 0 ≤ j) (hj1 : j < fmL i) : K_J1_charAt_3b067 l g 2 0 0 [.ref (g (30 + i)), .int j] M (RI (fun v M9 => v = fmI i j ∧ M9 = M) nX) := by
  refine Ko_J1_charAt_3b067 htr (fun X => ?_)
  obtain ⟨l0, l1, l2⟩ := fm_l i hi
  have hj2 := tc_lt hj0 hj1
  obtain ⟨c0, c1⟩ := (fm_b i hi).2 j.toNatClampNeg (by have := (fm_b i hi).1; omega)
  obtain ⟨-, -, r3, r4⟩ := nar_b c0 c1
  refine v_iload_n dJ1_charAt_3b067_0 rfl rfl ?_
  refine v_aload_n dJ1_charAt_3b067_1 rfl rfl ?_
  refine v_tL dJ1_charAt_3b067_2 (fun A U H h => h.c hi 6 rfl) (v := fmL i) rfl ?_
  refine k_J1_9 dJ1_charAt_3b067_3 rfl (c_chk htr hj0 hj1) (Nat.le_of_ble_eq_true rfl) (by omega) (by omega) (Nat.le_of_ble_eq_true rfl) (fun M9 h9 => ?_) (fun _ _ h9 => h9.elim)
  subst h9
  refine v_aload_n dJ1_charAt_3b067_6 rfl rfl ?_
  refine v_iload_n dJ1_charAt_3b067_7 rfl rfl ?_
  refine v_tB dJ1_charAt_3b067_8 (fun A U H h => h.c hi 6 rfl) hj0 (by omega) (v := .int ((fms.getD i []).getD j.toNatClampNeg 0)) rfl ?_
  refine v_sipush (v := (255)) dJ1_charAt_3b067_9 (by decide) ?_
  refine v_iand dJ1_charAt_3b067_12 ?_
  rw [r4]
  refine v_i2c dJ1_charAt_3b067_13 ?_
  rw [r3]
  exact v_zret dJ1_charAt_3b067_14 rfl (narC c0 c1)  ⟨rfl, rfl⟩ (by omega) (by omega)
theorem dJ0_charAt_5068e_0 : decode cJ0_charAt_5068e 0 = .ok (.aload_n 0, 1) := by decide +kernel
theorem dJ0_charAt_5068e_1 : decode cJ0_charAt_5068e 1 = .ok (.invokevirtual 492, 3) := by decide +kernel
theorem dJ0_charAt_5068e_4 : decode cJ0_charAt_5068e 4 = .ok (.ifCond .eq 12, 3) := by decide +kernel
theorem dJ0_charAt_5068e_7 : decode cJ0_charAt_5068e 7 = .ok (.aload_n 0, 1) := by decide +kernel
theorem dJ0_charAt_5068e_8 : decode cJ0_charAt_5068e 8 = .ok (.getfield 9, 3) := by decide +kernel
theorem dJ0_charAt_5068e_11 : decode cJ0_charAt_5068e 11 = .ok (.iload_n 1, 1) := by decide +kernel
theorem dJ0_charAt_5068e_12 : decode cJ0_charAt_5068e 12 = .ok (.invokestatic 495, 3) := by decide +kernel
theorem dJ0_charAt_5068e_15 : decode cJ0_charAt_5068e 15 = .ok (.ireturn, 1) := by decide +kernel
theorem dJ0_charAt_5068e_16 : decode cJ0_charAt_5068e 16 = .ok (.aload_n 0, 1) := by decide +kernel
theorem dJ0_charAt_5068e_17 : decode cJ0_charAt_5068e 17 = .ok (.getfield 9, 3) := by decide +kernel
theorem dJ0_charAt_5068e_20 : decode cJ0_charAt_5068e 20 = .ok (.iload_n 1, 1) := by decide +kernel
theorem dJ0_charAt_5068e_21 : decode cJ0_charAt_5068e 21 = .ok (.invokestatic 498, 3) := by decide +kernel
theorem dJ0_charAt_5068e_24 : decode cJ0_charAt_5068e 24 = .ok (.ireturn, 1) := by decide +kernel
set_option maxRecDepth 100000 in
set_option maxHeartbeats 4000000 in
theorem c_charAt0 {l : Launch} {g : Nat → Nat} {M : LH} (htr : l.stackTraces = false) {i : Nat} (hi : i < 10) {j : Int32} (hj0 : 0 ≤ j) (hj1 : j < fmL i) : K_J0_charAt_5068e l g 3 0 0 [.ref (g (20 + i)), .int j] M (RI (fun v M9 => v = fmI i j ∧ M9 = M) nX) := by
  refine Ko_J0_charAt_5068e htr (fun X => ?_)
  obtain ⟨l0, l1, l2⟩ := fm_l i hi
  have hj2 := tc_lt hj0 hj1
  obtain ⟨c0, c1⟩ := (fm_b i hi).2 j.toNatClampNeg (by have := (fm_b i hi).1; omega)
  refine v_aload_n dJ0_charAt_5068e_0 rfl rfl ?_
  refine k_J0_492 dJ0_charAt_5068e_1 rfl (c_isL0 htr hi) (Rcv.co (fun A U H h => h.c hi 3 rfl)) (Nat.le_of_ble_eq_true rfl) (by omega) (by omega) (Nat.le_of_ble_eq_true rfl) (fun r1 M9 h9 => ?_) (fun _ _ h9 => h9.elim)
  obtain ⟨rfl, e9⟩ := h9
  subst M9
  refine v_if_eq (tgt := 16) dJ0_charAt_5068e_4 (by decide) (fun h4 => ?_) (fun h4 => ?_)
  · exact absurd (show (1 : Int32) = 0 from h4) (by decide)
  · refine v_aload_n dJ0_charAt_5068e_7 rfl rfl ?_
    refine v_gC dJ0_charAt_5068e_8 rfl (fun A U H h => h.c hi 5 rfl) (Ut_of (mt_7 48 rfl) rfl) ?_
    refine v_iload_n dJ0_charAt_5068e_11 rfl rfl ?_
    refine k_J0_495 dJ0_charAt_5068e_12 rfl (c_l1at htr hi hj0 hj1) (Nat.le_of_ble_eq_true rfl) (by omega) (by omega) (Nat.le_of_ble_eq_true rfl) (fun r12 M9 h9 => ?_) (fun _ _ h9 => h9.elim)
    obtain ⟨rfl, e9⟩ := h9
    subst M9
    exact v_zret dJ0_charAt_5068e_15 rfl (narC c0 c1)  ⟨rfl, rfl⟩ (by omega) (by omega)
