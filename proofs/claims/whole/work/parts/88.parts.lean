/-! ===== the reader: parts, forms, commands ===== -/
def spc : List Int32 → Nat
  | [] => 0
  | c :: cs => (if c = 35 ∨ c = 37 ∨ c = 126 ∨ c = 63 then 1 else 0) + spc cs
theorem stp_len {tx : Int32 → Int32} {en c a : Int32} : (stp tx en c a).2.2.length ≤ (if c = 35 ∨ c = 37 ∨ c = 126 ∨ c = 63 then 1 else 0) := by
  by_cases h1 : c = 35
  · rw [h1, stp_35, if_pos (Or.inl rfl)]
    exact Nat.le_refl _
  · by_cases h2 : c = 37
    · rw [h2, stp_37, if_pos (Or.inr (Or.inl rfl))]
      exact Nat.le_refl _
    · by_cases h3 : c = 126
      · rw [h3, stp_126, if_pos (Or.inr (Or.inr (Or.inl rfl)))]
        exact Nat.le_refl _
      · by_cases h4 : c = 63
        · rw [h4, if_pos (Or.inr (Or.inr (Or.inr rfl)))]
          by_cases q : sgN tx en a = 32
          · rw [stp_63y q]; exact Nat.le_refl _
          · rw [stp_63n q]; exact Nat.le_refl _
        · have hl : lit c := ⟨h1, h2, h3, h4⟩
          by_cases q : sgN tx en a = c
          · rw [stp_y hl q]; exact Nat.zero_le _
          · rw [stp_n hl q]; exact Nat.zero_le _
theorem stp_in {tx : Int32 → Int32} {en c a : Int32} (e60 : en ≤ 60) (a0 : 0 ≤ a) (a1 : a ≤ 60) (hc : ¬ c = -1) : 0 ≤ (stp tx en c a).2.1 ∧ (stp tx en c a).2.1 ≤ 60 := by
  have hs : ∀ d, sgN tx en a = d → ¬ d = -1 → 0 ≤ a + 1 ∧ a + 1 ≤ 60 := fun d h hd => by
    have q := sgN_in e60 h hd
    exact ⟨by lia, by lia⟩
  by_cases h1 : c = 35
  · rw [h1, stp_35]
    exact rdD_in e60 _ _ _ a0 a1
  · by_cases h2 : c = 37
    · rw [h2, stp_37]
      exact rdD_in e60 _ _ _ a0 a1
    · by_cases h3 : c = 126
      · rw [h3, stp_126]
        by_cases q : sgN tx en a = 45
        · simp only [if_pos q]
          exact rdD_in e60 _ _ _ (hs _ q (by decide)).1 (hs _ q (by decide)).2
        · simp only [if_neg q]
          exact rdD_in e60 _ _ _ a0 a1
      · by_cases h4 : c = 63
        · rw [h4]
          by_cases q : sgN tx en a = 32
          · rw [stp_63y q]; exact rdD_in e60 _ _ _ (hs _ q (by decide)).1 (hs _ q (by decide)).2
          · rw [stp_63n q]; exact ⟨a0, a1⟩
        · have hl : lit c := ⟨h1, h2, h3, h4⟩
          by_cases q : sgN tx en a = c
          · rw [stp_y hl q]; exact hs _ q hc
          · rw [stp_n hl q]; exact ⟨a0, a1⟩
theorem lk_off {c : Int32} (h : lit c) : Op.lookupswitch.offset [(35, 43), (37, 50), (63, 77), (126, 57)] 101 c.toInt = 101 := by
  obtain ⟨h1, h2, h3, h4⟩ := h
  rw [Op.lookupswitch.offset_cons, if_neg (fun z => h1 (Int32.toInt_inj.mp z.symm)), Op.lookupswitch.offset_cons, if_neg (fun z => h2 (Int32.toInt_inj.mp z.symm)), Op.lookupswitch.offset_cons, if_neg (fun z => h4 (Int32.toInt_inj.mp z.symm)), Op.lookupswitch.offset_cons, if_neg (fun z => h3 (Int32.toInt_inj.mp z.symm))]
  rfl
theorem nI_5 : ∀ n, n < 5 → 0 ≤ nI n ∧ nI n < 5 := by decide
theorem h01 {A B : Prop} {x : Int32} {P Q : Prop} {C : Prop} (h : ((A ∧ x = 0 ∧ P) ∨ (B ∧ x = 1 ∧ Q)) ∧ C) : narrow .boolean (.int x) = .int x := by
  rcases h with ⟨⟨-, rfl, -⟩ | ⟨-, rfl, -⟩, -⟩ <;> rfl
theorem h10 {A B : Prop} {x : Int32} {P Q : Prop} {C : Prop} (h : ((A ∧ x = 1 ∧ P) ∨ (B ∧ x = 0 ∧ Q)) ∧ C) : narrow .boolean (.int x) = .int x := by
  rcases h with ⟨⟨-, rfl, -⟩ | ⟨-, rfl, -⟩, -⟩ <;> rfl
theorem neg1 {x : Int32} : -1 * x = -x := by
  rw [Int32.neg_mul, Int32.one_mul]
theorem dX7_readPart_0 : decode cX7_readPart 0 = .ok (.iload_n 1, 1) := by decide +kernel
theorem dX7_readPart_1 : decode cX7_readPart 1 = .ok (.lookupswitch 101 #[(35, 43), (37, 50), (63, 77), (126, 57)], 43) := by decide +kernel
theorem dX7_readPart_44 : decode cX7_readPart 44 = .ok (.aload_n 0, 1) := by decide +kernel
theorem dX7_readPart_45 : decode cX7_readPart 45 = .ok (.iconst 1, 1) := by decide +kernel
theorem dX7_readPart_46 : decode cX7_readPart 46 = .ok (.iconst 1, 1) := by decide +kernel
theorem dX7_readPart_47 : decode cX7_readPart 47 = .ok (.invokevirtual 79, 3) := by decide +kernel
theorem dX7_readPart_50 : decode cX7_readPart 50 = .ok (.ireturn, 1) := by decide +kernel
theorem dX7_readPart_51 : decode cX7_readPart 51 = .ok (.aload_n 0, 1) := by decide +kernel
theorem dX7_readPart_52 : decode cX7_readPart 52 = .ok (.iconst 3, 1) := by decide +kernel
theorem dX7_readPart_53 : decode cX7_readPart 53 = .ok (.iconst 1, 1) := by decide +kernel
theorem dX7_readPart_54 : decode cX7_readPart 54 = .ok (.invokevirtual 79, 3) := by decide +kernel
theorem dX7_readPart_57 : decode cX7_readPart 57 = .ok (.ireturn, 1) := by decide +kernel
theorem dX7_readPart_58 : decode cX7_readPart 58 = .ok (.aload_n 0, 1) := by decide +kernel
theorem dX7_readPart_59 : decode cX7_readPart 59 = .ok (.iconst 3, 1) := by decide +kernel
theorem dX7_readPart_60 : decode cX7_readPart 60 = .ok (.aload_n 0, 1) := by decide +kernel
theorem dX7_readPart_61 : decode cX7_readPart 61 = .ok (.bipush 45, 2) := by decide +kernel
theorem dX7_readPart_63 : decode cX7_readPart 63 = .ok (.invokevirtual 83, 3) := by decide +kernel
theorem dX7_readPart_66 : decode cX7_readPart 66 = .ok (.ifCond .eq 7, 3) := by decide +kernel
theorem dX7_readPart_69 : decode cX7_readPart 69 = .ok (.iconst (-1), 1) := by decide +kernel
theorem dX7_readPart_70 : decode cX7_readPart 70 = .ok (.goto 4, 3) := by decide +kernel
theorem dX7_readPart_73 : decode cX7_readPart 73 = .ok (.iconst 1, 1) := by decide +kernel
theorem dX7_readPart_74 : decode cX7_readPart 74 = .ok (.invokevirtual 79, 3) := by decide +kernel
theorem dX7_readPart_77 : decode cX7_readPart 77 = .ok (.ireturn, 1) := by decide +kernel
theorem dX7_readPart_78 : decode cX7_readPart 78 = .ok (.aload_n 0, 1) := by decide +kernel
theorem dX7_readPart_79 : decode cX7_readPart 79 = .ok (.bipush 32, 2) := by decide +kernel
theorem dX7_readPart_81 : decode cX7_readPart 81 = .ok (.invokevirtual 83, 3) := by decide +kernel
theorem dX7_readPart_84 : decode cX7_readPart 84 = .ok (.ifCond .eq 12, 3) := by decide +kernel
theorem dX7_readPart_87 : decode cX7_readPart 87 = .ok (.aload_n 0, 1) := by decide +kernel
theorem dX7_readPart_88 : decode cX7_readPart 88 = .ok (.iconst 3, 1) := by decide +kernel
theorem dX7_readPart_89 : decode cX7_readPart 89 = .ok (.iconst 1, 1) := by decide +kernel
theorem dX7_readPart_90 : decode cX7_readPart 90 = .ok (.invokevirtual 79, 3) := by decide +kernel
theorem dX7_readPart_93 : decode cX7_readPart 93 = .ok (.goto 8, 3) := by decide +kernel
theorem dX7_readPart_96 : decode cX7_readPart 96 = .ok (.aload_n 0, 1) := by decide +kernel
theorem dX7_readPart_97 : decode cX7_readPart 97 = .ok (.iconst 1, 1) := by decide +kernel
theorem dX7_readPart_98 : decode cX7_readPart 98 = .ok (.invokevirtual 86, 3) := by decide +kernel
theorem dX7_readPart_101 : decode cX7_readPart 101 = .ok (.ireturn, 1) := by decide +kernel
theorem dX7_readPart_102 : decode cX7_readPart 102 = .ok (.aload_n 0, 1) := by decide +kernel
theorem dX7_readPart_103 : decode cX7_readPart 103 = .ok (.iload_n 1, 1) := by decide +kernel
theorem dX7_readPart_104 : decode cX7_readPart 104 = .ok (.invokevirtual 83, 3) := by decide +kernel
theorem dX7_readPart_107 : decode cX7_readPart 107 = .ok (.ireturn, 1) := by decide +kernel
set_option maxRecDepth 100000 in
set_option maxHeartbeats 4000000 in
theorem c_readPart {l : Launch} {g : Nat → Nat} {M : LH} (htr : l.stackTraces = false) {kd : Nat → Nat} {R a b v nb : Nat} {N en : Int32} {tx f : Int32 → Int32} {cm : Nat} {at9 : Int32} {NN : Int32 → Int32} {c : Int32} {ns : List Int32} (hC : Rr kd R M a b v nb N en tx f cm at9 (nI ns.length) NN) (a0 : 0 ≤ at9) (a1 : at9 ≤ 60) (c32 : 32 ≤ c) (hT : Tl NN ns) (hn : ns.length + (if c = 35 ∨ c = 37 ∨ c = 126 ∨ c = 63 then 1 else 0) ≤ 5) : K_X7_readPart l g 6 0 0 [.ref a, .int c] M (RI (fun x M9 => ∃ NN' nc', (((stp tx en c at9).1 = true ∧ x = 1 ∧ nc' = nI (ns ++ (stp tx en c at9).2.2).length ∧ Tl NN' (ns ++ (stp tx en c at9).2.2)) ∨ (¬ (stp tx en c at9).1 = true ∧ x = 0)) ∧ Rr kd R M9 a b v nb N en tx f cm (stp tx en c at9).2.1 nc' NN' ∧ Frm kd R M M9) nX) := by
  refine Ko_X7_readPart htr (fun X => ?_)
  obtain ⟨hA, hNB, hSB, hTX, e60, hkA, hkN, hkb, hkv⟩ := _root_.id hC
  obtain ⟨⟨ml, hBb⟩, hVv, en0, -, -, hfb⟩ := _root_.id hSB
  have hF : Frm kd R M M := Frm.rf
  by_cases hc35 : c = 35
  · subst hc35
    obtain ⟨n0, n5⟩ := nI_5 ns.length (by rw [if_pos (Or.inl rfl)] at hn; omega)
    refine v_iload_n dX7_readPart_0 rfl rfl ?_
    refine v_lookup (off := 43) (tgt := 44) dX7_readPart_1 (by decide) (by decide) (by decide) ?_
    refine v_aload_n dX7_readPart_44 rfl rfl ?_
    refine v_iconst (v := 1) dX7_readPart_45 (by decide) ?_
    refine v_iconst (v := 1) dX7_readPart_46 (by decide) ?_
    refine k_X7_79 dX7_readPart_47 rfl (c_readNumber htr hC (f0 := 1) (by decide) (fa := 1) a0 a1 n0 n5) hA (Nat.le_of_ble_eq_true rfl) (by omega) (by omega) (Nat.le_of_ble_eq_true rfl) (fun r47 M9 h9 => ?_) (fun _ _ h9 => h9.elim)
    exact v_zret dX7_readPart_50 rfl (h01 h9)  (by
      obtain ⟨h9, hF9⟩ := h9
      have hF := Frm.tr hF hF9
      rw [stp_35]
      rcases h9 with ⟨hd, rfl, hC⟩ | ⟨hd, rfl, hC⟩
      · exact ⟨_, _, Or.inr ⟨by simp [hd], rfl⟩, (by show Rr _ _ _ _ _ _ _ _ _ _ _ _ _ _ _; rw [hd]; exact hC), hF⟩
      · exact ⟨_, _, Or.inl ⟨by simp [hd], rfl, rfl, by rw [Int32.one_mul] at hC; exact hT.snoc (by omega)⟩, (by rw [Int32.one_mul, nI_1] at hC; rw [List.length_append]; exact hC), hF⟩) (by omega) (by omega)
  by_cases hc37 : c = 37
  · subst hc37
    obtain ⟨n0, n5⟩ := nI_5 ns.length (by rw [if_pos (Or.inr (Or.inl rfl))] at hn; omega)
    refine v_iload_n dX7_readPart_0 rfl rfl ?_
    refine v_lookup (off := 50) (tgt := 51) dX7_readPart_1 (by decide) (by decide) (by decide) ?_
    refine v_aload_n dX7_readPart_51 rfl rfl ?_
    refine v_iconst (v := 3) dX7_readPart_52 (by decide) ?_
    refine v_iconst (v := 1) dX7_readPart_53 (by decide) ?_
    refine k_X7_79 dX7_readPart_54 rfl (c_readNumber htr hC (f0 := 3) (by decide) (fa := 1) a0 a1 n0 n5) hA (Nat.le_of_ble_eq_true rfl) (by omega) (by omega) (Nat.le_of_ble_eq_true rfl) (fun r54 M9 h9 => ?_) (fun _ _ h9 => h9.elim)
    exact v_zret dX7_readPart_57 rfl (h01 h9)  (by
      obtain ⟨h9, hF9⟩ := h9
      have hF := Frm.tr hF hF9
      rw [stp_37]
      rcases h9 with ⟨hd, rfl, hC⟩ | ⟨hd, rfl, hC⟩
      · exact ⟨_, _, Or.inr ⟨by simp [hd], rfl⟩, (by show Rr _ _ _ _ _ _ _ _ _ _ _ _ _ _ _; rw [hd]; exact hC), hF⟩
      · exact ⟨_, _, Or.inl ⟨by simp [hd], rfl, rfl, by rw [Int32.one_mul] at hC; exact hT.snoc (by omega)⟩, (by rw [Int32.one_mul, nI_1] at hC; rw [List.length_append]; exact hC), hF⟩) (by omega) (by omega)
  by_cases hc126 : c = 126
  · subst hc126
    obtain ⟨n0, n5⟩ := nI_5 ns.length (by rw [if_pos (Or.inr (Or.inr (Or.inl rfl)))] at hn; omega)
    refine v_iload_n dX7_readPart_0 rfl rfl ?_
    refine v_lookup (off := 57) (tgt := 58) dX7_readPart_1 (by decide) (by decide) (by decide) ?_
    refine v_aload_n dX7_readPart_58 rfl rfl ?_
    refine v_iconst (v := 3) dX7_readPart_59 (by decide) ?_
    refine v_aload_n dX7_readPart_60 rfl rfl ?_
    refine v_bipush (v := (45)) dX7_readPart_61 (by decide) ?_
    refine k_X7_83 dX7_readPart_63 rfl (c_readSign htr hC a0 (c := 45) (by decide)) hA (Nat.le_of_ble_eq_true rfl) (by omega) (by omega) (Nat.le_of_ble_eq_true rfl) (fun r63 M9 h9 => ?_) (fun _ _ h9 => h9.elim)
    obtain ⟨h9, hF9⟩ := h9
    have hF := Frm.tr hF hF9
    rcases h9 with ⟨hs, rfl, hC⟩ | ⟨hs, rfl, hC⟩
    · obtain ⟨hA, hNB, hSB, hTX, e60, hkA, hkN, hkb, hkv⟩ := _root_.id hC
      obtain ⟨⟨ml, hBb⟩, hVv, en0, -, -, hfb⟩ := _root_.id hSB
      refine v_if_eq (tgt := 73) dX7_readPart_66 (by decide) (fun h66 => ?_) (fun h66 => ?_)
      · exact absurd h66 (by decide)
      · refine v_iconst (v := (-1)) dX7_readPart_69 (by decide) ?_
        refine v_goto (tgt := 74) dX7_readPart_70 (by decide) ?_
        refine k_X7_79 dX7_readPart_74 rfl (c_readNumber htr hC (f0 := 3) (by decide) (fa := (-1)) (by have q := sgN_in e60 hs (by decide); clear hC hF hA hNB hSB hTX hfb hVv hBb; lia) (by have q := sgN_in e60 hs (by decide); clear hC hF hA hNB hSB hTX hfb hVv hBb; lia) n0 n5) hA (Nat.le_of_ble_eq_true rfl) (by omega) (by omega) (Nat.le_of_ble_eq_true rfl) (fun r74 M9 h9 => ?_) (fun _ _ h9 => h9.elim)
        exact v_zret dX7_readPart_77 rfl (h01 h9)  (by
        obtain ⟨h9, hF9⟩ := h9
        have hF := Frm.tr hF hF9
        rw [stp_126, if_pos hs, if_pos hs]
        rcases h9 with ⟨hd, rfl, hC⟩ | ⟨hd, rfl, hC⟩
        · exact ⟨_, _, Or.inr ⟨by simp [hd], rfl⟩, (by show Rr _ _ _ _ _ _ _ _ _ _ _ _ _ _ _; rw [hd]; exact hC), hF⟩
        · exact ⟨_, _, Or.inl ⟨by simp [hd], rfl, rfl, by rw [neg1] at hC; exact hT.snoc (by omega)⟩, (by rw [neg1, nI_1] at hC; rw [List.length_append]; exact hC), hF⟩) (by omega) (by omega)
    · obtain ⟨hA, hNB, hSB, hTX, e60, hkA, hkN, hkb, hkv⟩ := _root_.id hC
      obtain ⟨⟨ml, hBb⟩, hVv, en0, -, -, hfb⟩ := _root_.id hSB
      refine v_if_eq (tgt := 73) dX7_readPart_66 (by decide) (fun h66 => ?_) (fun h66 => ?_)
      · refine v_iconst (v := 1) dX7_readPart_73 (by decide) ?_
        refine k_X7_79 dX7_readPart_74 rfl (c_readNumber htr hC (f0 := 3) (by decide) (fa := 1) a0 a1 n0 n5) hA (Nat.le_of_ble_eq_true rfl) (by omega) (by omega) (Nat.le_of_ble_eq_true rfl) (fun r74 M9 h9 => ?_) (fun _ _ h9 => h9.elim)
        exact v_zret dX7_readPart_77 rfl (h01 h9)  (by
        obtain ⟨h9, hF9⟩ := h9
        have hF := Frm.tr hF hF9
        rw [stp_126, if_neg hs, if_neg hs]
        rcases h9 with ⟨hd, rfl, hC⟩ | ⟨hd, rfl, hC⟩
        · exact ⟨_, _, Or.inr ⟨by simp [hd], rfl⟩, (by show Rr _ _ _ _ _ _ _ _ _ _ _ _ _ _ _; rw [hd]; exact hC), hF⟩
        · exact ⟨_, _, Or.inl ⟨by simp [hd], rfl, rfl, by rw [Int32.one_mul] at hC; exact hT.snoc (by omega)⟩, (by rw [Int32.one_mul, nI_1] at hC; rw [List.length_append]; exact hC), hF⟩) (by omega) (by omega)
      · exact absurd rfl h66
  by_cases hc63 : c = 63
  · subst hc63
    obtain ⟨n0, n5⟩ := nI_5 ns.length (by rw [if_pos (Or.inr (Or.inr (Or.inr rfl)))] at hn; omega)
    refine v_iload_n dX7_readPart_0 rfl rfl ?_
    refine v_lookup (off := 77) (tgt := 78) dX7_readPart_1 (by decide) (by decide) (by decide) ?_
    refine v_aload_n dX7_readPart_78 rfl rfl ?_
    refine v_bipush (v := (32)) dX7_readPart_79 (by decide) ?_
    refine k_X7_83 dX7_readPart_81 rfl (c_readSign htr hC a0 (c := 32) (by decide)) hA (Nat.le_of_ble_eq_true rfl) (by omega) (by omega) (Nat.le_of_ble_eq_true rfl) (fun r81 M9 h9 => ?_) (fun _ _ h9 => h9.elim)
    obtain ⟨h9, hF9⟩ := h9
    have hF := Frm.tr hF hF9
    rcases h9 with ⟨hs, rfl, hC⟩ | ⟨hs, rfl, hC⟩
    · obtain ⟨hA, hNB, hSB, hTX, e60, hkA, hkN, hkb, hkv⟩ := _root_.id hC
      obtain ⟨⟨ml, hBb⟩, hVv, en0, -, -, hfb⟩ := _root_.id hSB
      refine v_if_eq (tgt := 96) dX7_readPart_84 (by decide) (fun h84 => ?_) (fun h84 => ?_)
      · exact absurd h84 (by decide)
      · refine v_aload_n dX7_readPart_87 rfl rfl ?_
        refine v_iconst (v := 3) dX7_readPart_88 (by decide) ?_
        refine v_iconst (v := 1) dX7_readPart_89 (by decide) ?_
        refine k_X7_79 dX7_readPart_90 rfl (c_readNumber htr hC (f0 := 3) (by decide) (fa := 1) (by have q := sgN_in e60 hs (by decide); clear hC hF hA hNB hSB hTX hfb hVv hBb; lia) (by have q := sgN_in e60 hs (by decide); clear hC hF hA hNB hSB hTX hfb hVv hBb; lia) n0 n5) hA (Nat.le_of_ble_eq_true rfl) (by omega) (by omega) (Nat.le_of_ble_eq_true rfl) (fun r90 M9 h9 => ?_) (fun _ _ h9 => h9.elim)
        refine v_goto (tgt := 101) dX7_readPart_93 (by decide) ?_
        exact v_zret dX7_readPart_101 rfl (h01 h9)  (by
        obtain ⟨h9, hF9⟩ := h9
        have hF := Frm.tr hF hF9
        rw [stp_63y hs]
        rcases h9 with ⟨hd, rfl, hC⟩ | ⟨hd, rfl, hC⟩
        · exact ⟨_, _, Or.inr ⟨by simp [hd], rfl⟩, (by show Rr _ _ _ _ _ _ _ _ _ _ _ _ _ _ _; rw [hd]; exact hC), hF⟩
        · exact ⟨_, _, Or.inl ⟨by simp [hd], rfl, rfl, by rw [Int32.one_mul] at hC; exact hT.snoc (by omega)⟩, (by rw [Int32.one_mul, nI_1] at hC; rw [List.length_append]; exact hC), hF⟩) (by omega) (by omega)
    · obtain ⟨hA, hNB, hSB, hTX, e60, hkA, hkN, hkb, hkv⟩ := _root_.id hC
      obtain ⟨⟨ml, hBb⟩, hVv, en0, -, -, hfb⟩ := _root_.id hSB
      refine v_if_eq (tgt := 96) dX7_readPart_84 (by decide) (fun h84 => ?_) (fun h84 => ?_)
      · refine v_aload_n dX7_readPart_96 rfl rfl ?_
        refine v_iconst (v := 1) dX7_readPart_97 (by decide) ?_
        refine k_X7_86 dX7_readPart_98 rfl (c_take htr hC (z := 1) n0 n5) hA (Nat.le_of_ble_eq_true rfl) (by omega) (by omega) (Nat.le_of_ble_eq_true rfl) (fun r98 M9 h9 => ?_) (fun _ _ h9 => h9.elim)
        obtain ⟨rfl, hC, hF9⟩ := h9
        have hF := Frm.tr hF hF9
        exact v_zret dX7_readPart_101 rfl (by first | rfl | assumption) (by
        rw [stp_63n hs]
        exact ⟨_, _, Or.inl ⟨rfl, rfl, rfl, hT.snoc (by omega)⟩, (by rw [nI_1] at hC; rw [List.length_append]; exact hC), hF⟩) (by omega) (by omega)
      · exact absurd rfl h84
  have hl : lit c := ⟨hc35, hc37, hc126, hc63⟩
  refine v_iload_n dX7_readPart_0 rfl rfl ?_
  refine v_lookup (off := 101) (tgt := 102) dX7_readPart_1 (by decide) (lk_off hl) (by decide) ?_
  refine v_aload_n dX7_readPart_102 rfl rfl ?_
  refine v_iload_n dX7_readPart_103 rfl rfl ?_
  refine k_X7_83 dX7_readPart_104 rfl (c_readSign htr hC a0 c32) hA (Nat.le_of_ble_eq_true rfl) (by omega) (by omega) (Nat.le_of_ble_eq_true rfl) (fun r104 M9 h9 => ?_) (fun _ _ h9 => h9.elim)
  exact v_zret dX7_readPart_107 rfl (h10 h9)  (by
    obtain ⟨h9, hF9⟩ := h9
    have hF := Frm.tr hF hF9
    rcases h9 with ⟨hs, rfl, hC⟩ | ⟨hs, rfl, hC⟩
    · rw [stp_y hl hs]
      exact ⟨_, _, Or.inl ⟨rfl, rfl, by rw [List.append_nil], by rw [List.append_nil]; exact hT⟩, hC, hF⟩
    · rw [stp_n hl hs]
      exact ⟨_, _, Or.inr ⟨Bool.false_ne_true, rfl⟩, hC, hF⟩) (by omega) (by omega)
theorem fms_c : ∀ i, i < 10 → (fms.getD i []).length ≤ 14 ∧ spc (fms.getD i []) ≤ 5 ∧ ∀ j, j < (fms.getD i []).length → 32 ≤ (fms.getD i []).getD j 0 := by decide
theorem fmI_n {i j : Nat} (hj : j < 100) : fmI i (nI j) = (fms.getD i []).getD j 0 := by
  unfold fmI
  rw [nI_clamp (by omega)]
theorem drp {l : List Int32} {j : Nat} (h : j < l.length) : l.drop j = l.getD j 0 :: l.drop (j + 1) := by
  rw [List.drop_eq_getElem_cons h, List.getD_eq_getElem?_getD, List.getElem?_eq_getElem h]
  rfl
theorem dX7_readForm_0 : decode cX7_readForm 0 = .ok (.iconst 0, 1) := by decide +kernel
theorem dX7_readForm_1 : decode cX7_readForm 1 = .ok (.istore_n 2, 1) := by decide +kernel
theorem dX7_readForm_2 : decode cX7_readForm 2 = .ok (.iload_n 2, 1) := by decide +kernel
theorem dX7_readForm_3 : decode cX7_readForm 3 = .ok (.aload_n 1, 1) := by decide +kernel
theorem dX7_readForm_4 : decode cX7_readForm 4 = .ok (.invokevirtual 71, 3) := by decide +kernel
theorem dX7_readForm_7 : decode cX7_readForm 7 = .ok (.if_icmp .ge 23, 3) := by decide +kernel
theorem dX7_readForm_10 : decode cX7_readForm 10 = .ok (.aload_n 0, 1) := by decide +kernel
theorem dX7_readForm_11 : decode cX7_readForm 11 = .ok (.aload_n 1, 1) := by decide +kernel
theorem dX7_readForm_12 : decode cX7_readForm 12 = .ok (.iload_n 2, 1) := by decide +kernel
theorem dX7_readForm_13 : decode cX7_readForm 13 = .ok (.invokevirtual 74, 3) := by decide +kernel
theorem dX7_readForm_16 : decode cX7_readForm 16 = .ok (.invokevirtual 75, 3) := by decide +kernel
theorem dX7_readForm_19 : decode cX7_readForm 19 = .ok (.ifCond .ne 5, 3) := by decide +kernel
theorem dX7_readForm_22 : decode cX7_readForm 22 = .ok (.iconst 0, 1) := by decide +kernel
theorem dX7_readForm_23 : decode cX7_readForm 23 = .ok (.ireturn, 1) := by decide +kernel
theorem dX7_readForm_24 : decode cX7_readForm 24 = .ok (.iinc 2 1, 3) := by decide +kernel
theorem dX7_readForm_27 : decode cX7_readForm 27 = .ok (.goto (-25), 3) := by decide +kernel
theorem dX7_readForm_30 : decode cX7_readForm 30 = .ok (.iconst 1, 1) := by decide +kernel
theorem dX7_readForm_31 : decode cX7_readForm 31 = .ok (.ireturn, 1) := by decide +kernel
set_option maxRecDepth 100000 in
set_option maxHeartbeats 4000000 in
theorem c_readForm {l : Launch} {g : Nat → Nat} {M : LH} (htr : l.stackTraces = false) {kd : Nat → Nat} {R a b v nb : Nat} {N en : Int32} {tx f : Int32 → Int32} {cm : Nat} {at9 : Int32} {NN : Int32 → Int32} {i : Nat} (hi : i < 10) (hC : Rr kd R M a b v nb N en tx f cm at9 0 NN) (a0 : 0 ≤ at9) (a1 : at9 ≤ 60) : K_X7_readForm l g 7 0 0 [.ref a, .ref (g (20 + i))] M (RI (fun x M9 => ∃ NN' nc', (((frm tx en (fms.getD i []) at9 []).1 = true ∧ x = 1 ∧ Tl NN' (frm tx en (fms.getD i []) at9 []).2.2) ∨ (¬ (frm tx en (fms.getD i []) at9 []).1 = true ∧ x = 0)) ∧ Rr kd R M9 a b v nb N en tx f cm (frm tx en (fms.getD i []) at9 []).2.1 nc' NN' ∧ Frm kd R M M9) nX) := by
  refine Ko_X7_readForm htr (fun X => ?_)
  obtain ⟨hA, hNB, hSB, hTX, e60, hkA, hkN, hkb, hkv⟩ := _root_.id hC
  obtain ⟨⟨ml, hBb⟩, hVv, en0, -, -, hfb⟩ := _root_.id hSB
  have hF : Frm kd R M M := Frm.rf
  obtain ⟨hl14, hl5, hl32⟩ := fms_c i hi
  have key : ∀ fu j, j + fu = (fms.getD i []).length → ∀ (M1 : LH) (at1 : Int32) (ns1 : List Int32) (N1 : Int32 → Int32), frm tx en ((fms.getD i []).drop j) at1 ns1 = (frm tx en (fms.getD i []) at9 []) → 0 ≤ at1 → at1 ≤ 60 → Tl N1 ns1 → ns1.length + spc ((fms.getD i []).drop j) ≤ 5 → Rr kd R M1 a b v nb N en tx f cm at1 (nI ns1.length) N1 → Frm kd R M M1 → V l g yX7_readForm cX7_readForm ((some .boolean)) [] 7 0 0 (RI (fun x M9 => ∃ NN' nc', (((frm tx en (fms.getD i []) at9 []).1 = true ∧ x = 1 ∧ Tl NN' (frm tx en (fms.getD i []) at9 []).2.2) ∨ (¬ (frm tx en (fms.getD i []) at9 []).1 = true ∧ x = 0)) ∧ Rr kd R M9 a b v nb N en tx f cm (frm tx en (fms.getD i []) at9 []).2.1 nc' NN' ∧ Frm kd R M M9) nX) X M1 0 0 2 [some (.ref a), some (.ref (g (20 + i))), some (.int (nI j))] [] := by
    clear hC hA hNB hSB hTX hfb hVv hBb hF hkA hkN hkb hkv
    intro fu
    induction fu with
    | zero =>
      intro j hj M1 at1 ns1 N1 hR e0 e1 hT1 hs5 hC hF
      obtain ⟨hA, hNB, hSB, hTX, e60, hkA, hkN, hkb, hkv⟩ := _root_.id hC
      obtain ⟨⟨ml, hBb⟩, hVv, en0, -, -, hfb⟩ := _root_.id hSB
      refine v_iload_n dX7_readForm_2 rfl rfl ?_
      refine v_aload_n dX7_readForm_3 rfl rfl ?_
      refine k_X7_71 dX7_readForm_4 rfl (c_len0 htr hi) (Rcv.co (fun A U H h => h.c hi 3 rfl)) (Nat.le_of_ble_eq_true rfl) (by omega) (by omega) (Nat.le_of_ble_eq_true rfl) (fun r4 M9 h9 => ?_) (fun _ _ h9 => h9.elim)
      obtain ⟨rfl, e9⟩ := h9
      subst M9
      refine v_icmp_ge (tgt := 30) dX7_readForm_7 (by decide) (fun h7 => ?_) (fun h7 => ?_)
      · refine v_iconst (v := 1) dX7_readForm_30 (by decide) ?_
        exact v_zret dX7_readForm_31 rfl (by first | rfl | assumption) (by
        rw [show j = (fms.getD i []).length by omega, List.drop_length] at hR
        have hR2 : (true, at1, ns1) = (frm tx en (fms.getD i []) at9 []) := hR
        rw [← hR2]
        exact ⟨_, _, Or.inl ⟨rfl, rfl, hT1⟩, hC, hF⟩) (by omega) (by omega)
      · exact absurd (Int32.le_of_eq (by show nI (fms.getD i []).length = nI j; rw [show j = (fms.getD i []).length by omega])) h7
    | succ fu ih =>
      intro j hj M1 at1 ns1 N1 hR e0 e1 hT1 hs5 hC hF
      obtain ⟨hA, hNB, hSB, hTX, e60, hkA, hkN, hkb, hkv⟩ := _root_.id hC
      obtain ⟨⟨ml, hBb⟩, hVv, en0, -, -, hfb⟩ := _root_.id hSB
      have hjl : j < (fms.getD i []).length := by omega
      have hc32 := hl32 j hjl
      rw [drp hjl] at hR hs5
      have hs5b : ns1.length + ((if (fms.getD i []).getD j 0 = 35 ∨ (fms.getD i []).getD j 0 = 37 ∨ (fms.getD i []).getD j 0 = 126 ∨ (fms.getD i []).getD j 0 = 63 then 1 else 0) + spc ((fms.getD i []).drop (j + 1))) ≤ 5 := hs5
      refine v_iload_n dX7_readForm_2 rfl rfl ?_
      refine v_aload_n dX7_readForm_3 rfl rfl ?_
      refine k_X7_71 dX7_readForm_4 rfl (c_len0 htr hi) (Rcv.co (fun A U H h => h.c hi 3 rfl)) (Nat.le_of_ble_eq_true rfl) (by omega) (by omega) (Nat.le_of_ble_eq_true rfl) (fun r4 M9 h9 => ?_) (fun _ _ h9 => h9.elim)
      obtain ⟨rfl, e9⟩ := h9
      subst M9
      refine v_icmp_ge (tgt := 30) dX7_readForm_7 (by decide) (fun h7 => ?_) (fun h7 => ?_)
      · exact absurd h7 (nI_ge (by omega) (by omega))
      · refine v_aload_n dX7_readForm_10 rfl rfl ?_
        refine v_aload_n dX7_readForm_11 rfl rfl ?_
        refine v_iload_n dX7_readForm_12 rfl rfl ?_
        refine k_X7_74 dX7_readForm_13 rfl (c_charAt0 htr hi (nI_pos' (by omega)) (nI_lt (by omega) (by omega))) (Rcv.co (fun A U H h => h.c hi 3 rfl)) (Nat.le_of_ble_eq_true rfl) (by omega) (by omega) (Nat.le_of_ble_eq_true rfl) (fun r13 M9 h9 => ?_) (fun _ _ h9 => h9.elim)
        obtain ⟨rfl, e9⟩ := h9
        subst M9
        rw [fmI_n (by omega)]
        refine k_X7_75 dX7_readForm_16 rfl (c_readPart htr hC e0 e1 hc32 hT1 (by omega)) hA (Nat.le_of_ble_eq_true rfl) (by omega) (by omega) (Nat.le_of_ble_eq_true rfl) (fun r16 M9 h9 => ?_) (fun _ _ h9 => h9.elim)
        obtain ⟨N2, nc2, h9, hC, hF9⟩ := h9
        have hF := Frm.tr hF hF9
        obtain ⟨hA, hNB, hSB, hTX, e60, hkA, hkN, hkb, hkv⟩ := _root_.id hC
        obtain ⟨⟨ml, hBb⟩, hVv, en0, -, -, hfb⟩ := _root_.id hSB
        refine v_if_ne (tgt := 24) dX7_readForm_19 (by decide) (fun h19 => ?_) (fun h19 => ?_)
        · obtain ⟨s1, -, s3, s4⟩ := h9.resolve_right (fun z => h19 z.2)
          refine v_iinc_2 dX7_readForm_24 rfl ?_
          refine v_goto (tgt := 2) dX7_readForm_27 (by decide) ?_
          rw [show nI j + Int32.ofInt 1 = nI (j + 1) from nI_1 j]
          have hsl := stp_len (tx := tx) (en := en) (c := (fms.getD i []).getD j 0) (a := at1)
          obtain ⟨i0, i1⟩ := stp_in (tx := tx) e60 e0 e1 (fun z => by rw [z] at hc32; exact absurd hc32 (by decide) : ¬ (fms.getD i []).getD j 0 = -1)
          subst s3
          rw [frm_y s1] at hR
          exact ih (j + 1) (by omega) _ _ _ _ hR i0 i1 s4 (by rw [List.length_append]; omega) hC hF
        · have s1 := (h9.resolve_left (fun z => by rw [z.2.1] at h19; exact absurd h19 (by decide))).1
          refine v_iconst (v := 0) dX7_readForm_22 (by decide) ?_
          exact v_zret dX7_readForm_23 rfl (by first | rfl | assumption) (by
        rw [frm_n s1] at hR
        rw [← hR]
        exact ⟨_, _, Or.inr ⟨Bool.false_ne_true, rfl⟩, hC, hF⟩) (by omega) (by omega)
  refine v_iconst (v := 0) dX7_readForm_0 (by decide) ?_
  refine v_istore_2 dX7_readForm_1 ?_
  exact key (fms.getD i []).length 0 (by omega) M at9 [] NN rfl a0 a1 (fun j hj => absurd hj (Nat.not_lt_zero j)) (by show 0 + spc (fms.getD i []) ≤ 5; omega) hC hF
