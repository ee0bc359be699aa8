/-! ===== the desk's judgements of letters ===== -/
theorem find_in {σ : Int32 → Int32} {id : Int32} (h7 : 0 ≤ σ 7) (hf : ¬ find σ id = -1) : 0 ≤ find σ id ∧ find σ id < σ 7 ∧ lt σ (find σ id) 0 = id := by
  rcases fst_in (p := fun i => decide (lt σ i 0 = id)) h7 0 (Int32.le_refl _) h7 with q | ⟨q1, q2, q3⟩
  · exact absurd q hf
  · exact ⟨q1, q2, of_decide_eq_true q3⟩
def vdPutOn (σ : Int32 → Int32) (k id : Int32) : Nat := if ¬ hsl σ k then 1 else if find σ id = -1 then 3 else if 0 < sd σ k 2 ∨ ¬ lt σ (find σ id) 6 = sd σ k 1 then 4 else if lt σ (find σ id) 2 ≤ sd σ k 0 - loadOn σ k then 0 else 5
def vdTakeOff (σ : Int32 → Int32) (k id : Int32) : Nat := if ¬ hsl σ k then 1 else if find σ id = -1 then 3 else if ¬ 0 < sd σ k 2 ∧ lt σ (find σ id) 6 = 10 + k then 0 else 4
theorem dX3_judgePutOn_0 : decode cX3_judgePutOn 0 = .ok (.aload_n 0, 1) := by decide +kernel
theorem dX3_judgePutOn_1 : decode cX3_judgePutOn 1 = .ok (.getfield 12, 3) := by decide +kernel
theorem dX3_judgePutOn_4 : decode cX3_judgePutOn 4 = .ok (.iload_n 1, 1) := by decide +kernel
theorem dX3_judgePutOn_5 : decode cX3_judgePutOn 5 = .ok (.invokevirtual 126, 3) := by decide +kernel
theorem dX3_judgePutOn_8 : decode cX3_judgePutOn 8 = .ok (.ifCond .ne 7, 3) := by decide +kernel
theorem dX3_judgePutOn_11 : decode cX3_judgePutOn 11 = .ok (.getstatic 56, 3) := by decide +kernel
theorem dX3_judgePutOn_14 : decode cX3_judgePutOn 14 = .ok (.areturn, 1) := by decide +kernel
theorem dX3_judgePutOn_15 : decode cX3_judgePutOn 15 = .ok (.aload_n 0, 1) := by decide +kernel
theorem dX3_judgePutOn_16 : decode cX3_judgePutOn 16 = .ok (.getfield 12, 3) := by decide +kernel
theorem dX3_judgePutOn_19 : decode cX3_judgePutOn 19 = .ok (.iload_n 2, 1) := by decide +kernel
theorem dX3_judgePutOn_20 : decode cX3_judgePutOn 20 = .ok (.invokevirtual 129, 3) := by decide +kernel
theorem dX3_judgePutOn_23 : decode cX3_judgePutOn 23 = .ok (.astore_n 3, 1) := by decide +kernel
theorem dX3_judgePutOn_24 : decode cX3_judgePutOn 24 = .ok (.aload_n 3, 1) := by decide +kernel
theorem dX3_judgePutOn_25 : decode cX3_judgePutOn 25 = .ok (.ifnonnull 7, 3) := by decide +kernel
theorem dX3_judgePutOn_28 : decode cX3_judgePutOn 28 = .ok (.getstatic 133, 3) := by decide +kernel
theorem dX3_judgePutOn_31 : decode cX3_judgePutOn 31 = .ok (.areturn, 1) := by decide +kernel
theorem dX3_judgePutOn_32 : decode cX3_judgePutOn 32 = .ok (.aload_n 0, 1) := by decide +kernel
theorem dX3_judgePutOn_33 : decode cX3_judgePutOn 33 = .ok (.getfield 12, 3) := by decide +kernel
theorem dX3_judgePutOn_36 : decode cX3_judgePutOn 36 = .ok (.getfield 77, 3) := by decide +kernel
theorem dX3_judgePutOn_39 : decode cX3_judgePutOn 39 = .ok (.iload_n 1, 1) := by decide +kernel
theorem dX3_judgePutOn_40 : decode cX3_judgePutOn 40 = .ok (.aaload, 1) := by decide +kernel
theorem dX3_judgePutOn_41 : decode cX3_judgePutOn 41 = .ok (.astore 4, 2) := by decide +kernel
theorem dX3_judgePutOn_43 : decode cX3_judgePutOn 43 = .ok (.aload 4, 2) := by decide +kernel
theorem dX3_judgePutOn_45 : decode cX3_judgePutOn 45 = .ok (.invokevirtual 136, 3) := by decide +kernel
theorem dX3_judgePutOn_48 : decode cX3_judgePutOn 48 = .ok (.ifCond .ne 15, 3) := by decide +kernel
theorem dX3_judgePutOn_51 : decode cX3_judgePutOn 51 = .ok (.aload_n 3, 1) := by decide +kernel
theorem dX3_judgePutOn_52 : decode cX3_judgePutOn 52 = .ok (.aload 4, 2) := by decide +kernel
theorem dX3_judgePutOn_54 : decode cX3_judgePutOn 54 = .ok (.getfield 86, 3) := by decide +kernel
theorem dX3_judgePutOn_57 : decode cX3_judgePutOn 57 = .ok (.invokevirtual 140, 3) := by decide +kernel
theorem dX3_judgePutOn_60 : decode cX3_judgePutOn 60 = .ok (.ifCond .ne 7, 3) := by decide +kernel
theorem dX3_judgePutOn_63 : decode cX3_judgePutOn 63 = .ok (.getstatic 49, 3) := by decide +kernel
theorem dX3_judgePutOn_66 : decode cX3_judgePutOn 66 = .ok (.areturn, 1) := by decide +kernel
theorem dX3_judgePutOn_67 : decode cX3_judgePutOn 67 = .ok (.aload_n 3, 1) := by decide +kernel
theorem dX3_judgePutOn_68 : decode cX3_judgePutOn 68 = .ok (.getfield 110, 3) := by decide +kernel
theorem dX3_judgePutOn_71 : decode cX3_judgePutOn 71 = .ok (.aload_n 0, 1) := by decide +kernel
theorem dX3_judgePutOn_72 : decode cX3_judgePutOn 72 = .ok (.getfield 12, 3) := by decide +kernel
theorem dX3_judgePutOn_75 : decode cX3_judgePutOn 75 = .ok (.iload_n 1, 1) := by decide +kernel
theorem dX3_judgePutOn_76 : decode cX3_judgePutOn 76 = .ok (.invokevirtual 143, 3) := by decide +kernel
theorem dX3_judgePutOn_79 : decode cX3_judgePutOn 79 = .ok (.if_icmp .gt 9, 3) := by decide +kernel
theorem dX3_judgePutOn_82 : decode cX3_judgePutOn 82 = .ok (.getstatic 43, 3) := by decide +kernel
theorem dX3_judgePutOn_85 : decode cX3_judgePutOn 85 = .ok (.goto 6, 3) := by decide +kernel
theorem dX3_judgePutOn_88 : decode cX3_judgePutOn 88 = .ok (.getstatic 147, 3) := by decide +kernel
theorem dX3_judgePutOn_91 : decode cX3_judgePutOn 91 = .ok (.areturn, 1) := by decide +kernel
set_option maxRecDepth 100000 in
set_option maxHeartbeats 4000000 in
theorem c_judgePutOn {l : Launch} {g : Nat → Nat} {M : LH} (htr : l.stackTraces = false) {kd : Nat → Nat} {r a : Nat} {ad : Nat → Nat} {sl le : Int32 → Nat} {fg tp : Int32} {F : Nat → Int32 → Int32} {σ : Int32 → Int32} (hC : StR kd r M a ad sl le fg tp F σ) {q : Nat → Nat} {D : Nat} (hK : Dk kd D r M a q) (k id : Int32) : K_X3_judgePutOn l g 2 0 0 [.ref (q 0), .int k, .int id] M (RA (fun v M9 => v = g (vdPutOn σ k id) ∧ M9 = M) nX) := by
  refine Ko_X3_judgePutOn htr (fun X => ?_)
  have hC0 := hC
  have hK0 := hK
  obtain ⟨hSt, hRo, hSR, hLR, hSl, hLe, hkd, -, ⟨-, hRd, hSd, hLt⟩, hG⟩ := hC
  obtain ⟨hDk, hDs, ⟨f1, hB1⟩, ⟨f2, hB2⟩, hBl, ⟨f3, hB3⟩, hRt, ⟨f4, hB4⟩, hkD, hn34, hDr⟩ := hK
  have hG0 := hG
  obtain ⟨hg1, hg2, hg3, hg4, hg5, hg6, hg7, hg8, hgL, hgS, -⟩ := hG
  refine v_aload_n dX3_judgePutOn_0 rfl rfl ?_
  refine gf_X3_12 dX3_judgePutOn_1 rfl hDk ?_
  refine v_iload_n dX3_judgePutOn_4 rfl rfl ?_
  refine k_X3_126 dX3_judgePutOn_5 rfl (c_hasSledge htr hC0 k) hSt (Nat.le_of_ble_eq_true rfl) (by omega) (by omega) (Nat.le_of_ble_eq_true rfl) (fun r5 M9 h9 => ?_) (fun _ _ h9 => h9.elim)
  obtain ⟨rfl, e9⟩ := h9
  subst M9
  refine v_if_ne (tgt := 15) dX3_judgePutOn_8 (by decide) (fun h8 => ?_) (fun h8 => ?_)
  · have hk9 := b_t h8
    obtain ⟨k0, k1⟩ := hk9
    have k3 : k < 3 := by clear hgL hgS hRd hSd hLt hLe hSl; lia
    obtain ⟨y0, y1, y2⟩ := hSd k k0 k1
    obtain ⟨u0, u1, u2, u3, u4, u5, u6, u7⟩ := hgS k k0 k1
    have hSk := hSl k k0 k3
    refine v_aload_n dX3_judgePutOn_15 rfl rfl ?_
    refine gf_X3_12 dX3_judgePutOn_16 rfl hDk ?_
    refine v_iload_n dX3_judgePutOn_19 rfl rfl ?_
    refine kq_X3_129 dX3_judgePutOn_20 rfl (c_findLetter htr hC0 id) hSt (Nat.le_of_ble_eq_true rfl) (by omega) (by omega) (Nat.le_of_ble_eq_true rfl) (fun r20 M9 h9 => ?_) (fun _ _ h9 => h9.elim)
    obtain ⟨h9, e9⟩ := h9
    subst M9
    subst h9
    by_cases hf : find σ id = -1
    · rw [if_pos hf]
      refine v_aNstore_3 dX3_judgePutOn_23 ?_
      refine v_aload_nN dX3_judgePutOn_24 rfl rfl ?_
      refine v_ifnonnullN dX3_judgePutOn_25 ?_
      refine gs_X3_133 dX3_judgePutOn_28 rfl ?_
      exact v_aret dX3_judgePutOn_31 rfl ⟨(by unfold vdPutOn; rw [if_neg (fun z => z ⟨k0, k1⟩), if_pos hf]), rfl⟩ (by omega) (by omega)
    · rw [if_neg hf]
      obtain ⟨p0, p1, p2⟩ := find_in hg5 hf
      have p12 : find σ id < 12 := by clear hgL hgS hRd hSd hLt hLe hSl; lia
      obtain ⟨q0, q1, q2, q3, q4, q5, q6, q7⟩ := hLt _ p0 p1
      obtain ⟨z1, z2, z3, z4, z5, z6, z7, z8, z9, z10, z11, z12, z13, z14⟩ := hgL _ p0 p1
      have hLf := hLe _ p0 p12
      have hw9 : (F 6 (find σ id) = -1 ∧ F 7 (find σ id) = F 9 k) ↔ lt σ (find σ id) 6 = sd σ k 1 := by
        rw [y1]
        have : sd σ k 1 < 10 := by clear hgL hgS hRd hSd hLt hLe hSl; lia
        clear hgL hgS hRd hSd hLt hLe hSl hLf hSk hC0 hK0 hSt hRo hSR hLR hkd hDk hDs hB1 hB2 hBl hB3 hRt hB4 hkD hG0 hDr
        grind
      refine v_astore_3 dX3_judgePutOn_23 ?_
      refine v_aload_n dX3_judgePutOn_24 rfl rfl ?_
      refine v_ifnonnull (tgt := 32) dX3_judgePutOn_25 (by decide) ?_
      refine v_aload_n dX3_judgePutOn_32 rfl rfl ?_
      refine gf_X3_12 dX3_judgePutOn_33 rfl hDk ?_
      refine gf_X3_77 dX3_judgePutOn_36 rfl hSt ?_
      refine v_iload_n dX3_judgePutOn_39 rfl rfl ?_
      refine v_aald1 dX3_judgePutOn_40 hSR k0 k3 rfl ?_
      refine v_astore_4 dX3_judgePutOn_41 ?_
      refine v_aload dX3_judgePutOn_43 rfl ?_
      refine k_X3_136 dX3_judgePutOn_45 rfl (c_travels htr hSk) hSk (Nat.le_of_ble_eq_true rfl) (by omega) (by omega) (Nat.le_of_ble_eq_true rfl) (fun r45 M9 h9 => ?_) (fun _ _ h9 => h9.elim)
      obtain ⟨rfl, e9⟩ := h9
      subst M9
      refine v_if_ne (tgt := 63) dX3_judgePutOn_48 (by decide) (fun h48 => ?_) (fun h48 => ?_)
      · refine gs_X3_49 dX3_judgePutOn_63 rfl ?_
        exact v_aret dX3_judgePutOn_66 rfl ⟨(by unfold vdPutOn; rw [if_neg (fun z => z ⟨k0, k1⟩), if_neg hf]; clear hgL hgS hRd hSd hLt hLe hSl hLf hSk hC0 hK0 hSt hRo hSR hLR hkd hDk hDs hB1 hB2 hBl hB3 hRt hB4 hkD hG0 hDr; grind), rfl⟩ (by omega) (by omega)
      · refine v_aload_n dX3_judgePutOn_51 rfl rfl ?_
        refine v_aload dX3_judgePutOn_52 rfl ?_
        refine gf_X3_86 dX3_judgePutOn_54 rfl hSk ?_
        refine k_X3_140 dX3_judgePutOn_57 rfl (c_waitsAt htr hLf (F 9 k)) hLf (Nat.le_of_ble_eq_true rfl) (by omega) (by omega) (Nat.le_of_ble_eq_true rfl) (fun r57 M9 h9 => ?_) (fun _ _ h9 => h9.elim)
        obtain ⟨rfl, e9⟩ := h9
        subst M9
        refine v_if_ne (tgt := 67) dX3_judgePutOn_60 (by decide) (fun h60 => ?_) (fun h60 => ?_)
        · refine v_aload_n dX3_judgePutOn_67 rfl rfl ?_
          refine gf_X3_110 dX3_judgePutOn_68 rfl hLf ?_
          refine v_aload_n dX3_judgePutOn_71 rfl rfl ?_
          refine gf_X3_12 dX3_judgePutOn_72 rfl hDk ?_
          refine v_iload_n dX3_judgePutOn_75 rfl rfl ?_
          refine k_X3_143 dX3_judgePutOn_76 rfl (c_roomOn htr hC0 k0 k1) hSt (Nat.le_of_ble_eq_true rfl) (by omega) (by omega) (Nat.le_of_ble_eq_true rfl) (fun r76 M9 h9 => ?_) (fun _ _ h9 => h9.elim)
          obtain ⟨rfl, e9⟩ := h9
          subst M9
          refine v_icmp_gt (tgt := 88) dX3_judgePutOn_79 (by decide) (fun h79 => ?_) (fun h79 => ?_)
          · refine gs_X3_147 dX3_judgePutOn_88 rfl ?_
            exact v_aret dX3_judgePutOn_91 rfl ⟨(by unfold vdPutOn; rw [if_neg (fun z => z ⟨k0, k1⟩), if_neg hf]; clear hgL hgS hRd hSd hLt hLe hSl hLf hSk hC0 hK0 hSt hRo hSR hLR hkd hDk hDs hB1 hB2 hBl hB3 hRt hB4 hkD hG0 hDr; grind), rfl⟩ (by omega) (by omega)
          · refine gs_X3_43 dX3_judgePutOn_82 rfl ?_
            refine v_goto (tgt := 91) dX3_judgePutOn_85 (by decide) ?_
            exact v_aret dX3_judgePutOn_91 rfl ⟨(by unfold vdPutOn; rw [if_neg (fun z => z ⟨k0, k1⟩), if_neg hf]; clear hgL hgS hRd hSd hLt hLe hSl hLf hSk hC0 hK0 hSt hRo hSR hLR hkd hDk hDs hB1 hB2 hBl hB3 hRt hB4 hkD hG0 hDr; grind), rfl⟩ (by omega) (by omega)
        · refine gs_X3_49 dX3_judgePutOn_63 rfl ?_
          exact v_aret dX3_judgePutOn_66 rfl ⟨(by unfold vdPutOn; rw [if_neg (fun z => z ⟨k0, k1⟩), if_neg hf]; clear hgL hgS hRd hSd hLt hLe hSl hLf hSk hC0 hK0 hSt hRo hSR hLR hkd hDk hDs hB1 hB2 hBl hB3 hRt hB4 hkD hG0 hDr; grind), rfl⟩ (by omega) (by omega)
  · refine gs_X3_56 dX3_judgePutOn_11 rfl ?_
    exact v_aret dX3_judgePutOn_14 rfl ⟨(by unfold vdPutOn; rw [if_pos (b_f h8)]), rfl⟩ (by omega) (by omega)
theorem dX3_judgeTakeOff_0 : decode cX3_judgeTakeOff 0 = .ok (.aload_n 0, 1) := by decide +kernel
theorem dX3_judgeTakeOff_1 : decode cX3_judgeTakeOff 1 = .ok (.getfield 12, 3) := by decide +kernel
theorem dX3_judgeTakeOff_4 : decode cX3_judgeTakeOff 4 = .ok (.iload_n 1, 1) := by decide +kernel
theorem dX3_judgeTakeOff_5 : decode cX3_judgeTakeOff 5 = .ok (.invokevirtual 126, 3) := by decide +kernel
theorem dX3_judgeTakeOff_8 : decode cX3_judgeTakeOff 8 = .ok (.ifCond .ne 7, 3) := by decide +kernel
theorem dX3_judgeTakeOff_11 : decode cX3_judgeTakeOff 11 = .ok (.getstatic 56, 3) := by decide +kernel
theorem dX3_judgeTakeOff_14 : decode cX3_judgeTakeOff 14 = .ok (.areturn, 1) := by decide +kernel
theorem dX3_judgeTakeOff_15 : decode cX3_judgeTakeOff 15 = .ok (.aload_n 0, 1) := by decide +kernel
theorem dX3_judgeTakeOff_16 : decode cX3_judgeTakeOff 16 = .ok (.getfield 12, 3) := by decide +kernel
theorem dX3_judgeTakeOff_19 : decode cX3_judgeTakeOff 19 = .ok (.iload_n 2, 1) := by decide +kernel
theorem dX3_judgeTakeOff_20 : decode cX3_judgeTakeOff 20 = .ok (.invokevirtual 129, 3) := by decide +kernel
theorem dX3_judgeTakeOff_23 : decode cX3_judgeTakeOff 23 = .ok (.astore_n 3, 1) := by decide +kernel
theorem dX3_judgeTakeOff_24 : decode cX3_judgeTakeOff 24 = .ok (.aload_n 3, 1) := by decide +kernel
theorem dX3_judgeTakeOff_25 : decode cX3_judgeTakeOff 25 = .ok (.ifnonnull 7, 3) := by decide +kernel
theorem dX3_judgeTakeOff_28 : decode cX3_judgeTakeOff 28 = .ok (.getstatic 133, 3) := by decide +kernel
theorem dX3_judgeTakeOff_31 : decode cX3_judgeTakeOff 31 = .ok (.areturn, 1) := by decide +kernel
theorem dX3_judgeTakeOff_32 : decode cX3_judgeTakeOff 32 = .ok (.aload_n 0, 1) := by decide +kernel
theorem dX3_judgeTakeOff_33 : decode cX3_judgeTakeOff 33 = .ok (.getfield 12, 3) := by decide +kernel
theorem dX3_judgeTakeOff_36 : decode cX3_judgeTakeOff 36 = .ok (.getfield 77, 3) := by decide +kernel
theorem dX3_judgeTakeOff_39 : decode cX3_judgeTakeOff 39 = .ok (.iload_n 1, 1) := by decide +kernel
theorem dX3_judgeTakeOff_40 : decode cX3_judgeTakeOff 40 = .ok (.aaload, 1) := by decide +kernel
theorem dX3_judgeTakeOff_41 : decode cX3_judgeTakeOff 41 = .ok (.invokevirtual 136, 3) := by decide +kernel
theorem dX3_judgeTakeOff_44 : decode cX3_judgeTakeOff 44 = .ok (.ifCond .ne 15, 3) := by decide +kernel
theorem dX3_judgeTakeOff_47 : decode cX3_judgeTakeOff 47 = .ok (.aload_n 3, 1) := by decide +kernel
theorem dX3_judgeTakeOff_48 : decode cX3_judgeTakeOff 48 = .ok (.getfield 122, 3) := by decide +kernel
theorem dX3_judgeTakeOff_51 : decode cX3_judgeTakeOff 51 = .ok (.iload_n 1, 1) := by decide +kernel
theorem dX3_judgeTakeOff_52 : decode cX3_judgeTakeOff 52 = .ok (.if_icmp .ne 7, 3) := by decide +kernel
theorem dX3_judgeTakeOff_55 : decode cX3_judgeTakeOff 55 = .ok (.iconst 1, 1) := by decide +kernel
theorem dX3_judgeTakeOff_56 : decode cX3_judgeTakeOff 56 = .ok (.goto 4, 3) := by decide +kernel
theorem dX3_judgeTakeOff_59 : decode cX3_judgeTakeOff 59 = .ok (.iconst 0, 1) := by decide +kernel
theorem dX3_judgeTakeOff_60 : decode cX3_judgeTakeOff 60 = .ok (.istore 4, 2) := by decide +kernel
theorem dX3_judgeTakeOff_62 : decode cX3_judgeTakeOff 62 = .ok (.iload 4, 2) := by decide +kernel
theorem dX3_judgeTakeOff_64 : decode cX3_judgeTakeOff 64 = .ok (.ifCond .eq 9, 3) := by decide +kernel
theorem dX3_judgeTakeOff_67 : decode cX3_judgeTakeOff 67 = .ok (.getstatic 43, 3) := by decide +kernel
theorem dX3_judgeTakeOff_70 : decode cX3_judgeTakeOff 70 = .ok (.goto 6, 3) := by decide +kernel
theorem dX3_judgeTakeOff_73 : decode cX3_judgeTakeOff 73 = .ok (.getstatic 49, 3) := by decide +kernel
theorem dX3_judgeTakeOff_76 : decode cX3_judgeTakeOff 76 = .ok (.areturn, 1) := by decide +kernel
set_option maxRecDepth 100000 in
set_option maxHeartbeats 4000000 in
theorem c_judgeTakeOff {l : Launch} {g : Nat → Nat} {M : LH} (htr : l.stackTraces = false) {kd : Nat → Nat} {r a : Nat} {ad : Nat → Nat} {sl le : Int32 → Nat} {fg tp : Int32} {F : Nat → Int32 → Int32} {σ : Int32 → Int32} (hC : StR kd r M a ad sl le fg tp F σ) {q : Nat → Nat} {D : Nat} (hK : Dk kd D r M a q) (k id : Int32) : K_X3_judgeTakeOff l g 2 0 0 [.ref (q 0), .int k, .int id] M (RA (fun v M9 => v = g (vdTakeOff σ k id) ∧ M9 = M) nX) := by
  refine Ko_X3_judgeTakeOff htr (fun X => ?_)
  have hC0 := hC
  have hK0 := hK
  obtain ⟨hSt, hRo, hSR, hLR, hSl, hLe, hkd, -, ⟨-, hRd, hSd, hLt⟩, hG⟩ := hC
  obtain ⟨hDk, hDs, ⟨f1, hB1⟩, ⟨f2, hB2⟩, hBl, ⟨f3, hB3⟩, hRt, ⟨f4, hB4⟩, hkD, hn34, hDr⟩ := hK
  have hG0 := hG
  obtain ⟨hg1, hg2, hg3, hg4, hg5, hg6, hg7, hg8, hgL, hgS, -⟩ := hG
  refine v_aload_n dX3_judgeTakeOff_0 rfl rfl ?_
  refine gf_X3_12 dX3_judgeTakeOff_1 rfl hDk ?_
  refine v_iload_n dX3_judgeTakeOff_4 rfl rfl ?_
  refine k_X3_126 dX3_judgeTakeOff_5 rfl (c_hasSledge htr hC0 k) hSt (Nat.le_of_ble_eq_true rfl) (by omega) (by omega) (Nat.le_of_ble_eq_true rfl) (fun r5 M9 h9 => ?_) (fun _ _ h9 => h9.elim)
  obtain ⟨rfl, e9⟩ := h9
  subst M9
  refine v_if_ne (tgt := 15) dX3_judgeTakeOff_8 (by decide) (fun h8 => ?_) (fun h8 => ?_)
  · have hk9 := b_t h8
    obtain ⟨k0, k1⟩ := hk9
    have k3 : k < 3 := by clear hgL hgS hRd hSd hLt hLe hSl; lia
    obtain ⟨y0, y1, y2⟩ := hSd k k0 k1
    obtain ⟨u0, u1, u2, u3, u4, u5, u6, u7⟩ := hgS k k0 k1
    have hSk := hSl k k0 k3
    refine v_aload_n dX3_judgeTakeOff_15 rfl rfl ?_
    refine gf_X3_12 dX3_judgeTakeOff_16 rfl hDk ?_
    refine v_iload_n dX3_judgeTakeOff_19 rfl rfl ?_
    refine kq_X3_129 dX3_judgeTakeOff_20 rfl (c_findLetter htr hC0 id) hSt (Nat.le_of_ble_eq_true rfl) (by omega) (by omega) (Nat.le_of_ble_eq_true rfl) (fun r20 M9 h9 => ?_) (fun _ _ h9 => h9.elim)
    obtain ⟨h9, e9⟩ := h9
    subst M9
    subst h9
    by_cases hf : find σ id = -1
    · rw [if_pos hf]
      refine v_aNstore_3 dX3_judgeTakeOff_23 ?_
      refine v_aload_nN dX3_judgeTakeOff_24 rfl rfl ?_
      refine v_ifnonnullN dX3_judgeTakeOff_25 ?_
      refine gs_X3_133 dX3_judgeTakeOff_28 rfl ?_
      exact v_aret dX3_judgeTakeOff_31 rfl ⟨(by unfold vdTakeOff; rw [if_neg (fun z => z ⟨k0, k1⟩), if_pos hf]), rfl⟩ (by omega) (by omega)
    · rw [if_neg hf]
      obtain ⟨p0, p1, p2⟩ := find_in hg5 hf
      have p12 : find σ id < 12 := by clear hgL hgS hRd hSd hLt hLe hSl; lia
      obtain ⟨q0, q1, q2, q3, q4, q5, q6, q7⟩ := hLt _ p0 p1
      obtain ⟨z1, z2, z3, z4, z5, z6, z7, z8, z9, z10, z11, z12, z13, z14⟩ := hgL _ p0 p1
      have hLf := hLe _ p0 p12
      have hw9 : F 6 (find σ id) = k ↔ lt σ (find σ id) 6 = 10 + k := by
        clear hgL hgS hRd hSd hLt hLe hSl hLf hSk hC0 hK0 hSt hRo hSR hLR hkd hDk hDs hB1 hB2 hBl hB3 hRt hB4 hkD hG0 hDr
        grind
      refine v_astore_3 dX3_judgeTakeOff_23 ?_
      refine v_aload_n dX3_judgeTakeOff_24 rfl rfl ?_
      refine v_ifnonnull (tgt := 32) dX3_judgeTakeOff_25 (by decide) ?_
      refine v_aload_n dX3_judgeTakeOff_32 rfl rfl ?_
      refine gf_X3_12 dX3_judgeTakeOff_33 rfl hDk ?_
      refine gf_X3_77 dX3_judgeTakeOff_36 rfl hSt ?_
      refine v_iload_n dX3_judgeTakeOff_39 rfl rfl ?_
      refine v_aald1 dX3_judgeTakeOff_40 hSR k0 k3 rfl ?_
      refine k_X3_136 dX3_judgeTakeOff_41 rfl (c_travels htr hSk) hSk (Nat.le_of_ble_eq_true rfl) (by omega) (by omega) (Nat.le_of_ble_eq_true rfl) (fun r41 M9 h9 => ?_) (fun _ _ h9 => h9.elim)
      obtain ⟨rfl, e9⟩ := h9
      subst M9
      refine v_if_ne (tgt := 59) dX3_judgeTakeOff_44 (by decide) (fun h44 => ?_) (fun h44 => ?_)
      · refine v_iconst (v := 0) dX3_judgeTakeOff_59 (by decide) ?_
        refine v_istore_4 dX3_judgeTakeOff_60 ?_
        refine v_iload dX3_judgeTakeOff_62 rfl ?_
        refine v_if_eq (tgt := 73) dX3_judgeTakeOff_64 (by decide) (fun h64 => ?_) (fun h64 => ?_)
        · refine gs_X3_49 dX3_judgeTakeOff_73 rfl ?_
          exact v_aret dX3_judgeTakeOff_76 rfl ⟨(by unfold vdTakeOff; rw [if_neg (fun z => z ⟨k0, k1⟩), if_neg hf]; clear hgL hgS hRd hSd hLt hLe hSl hLf hSk hC0 hK0 hSt hRo hSR hLR hkd hDk hDs hB1 hB2 hBl hB3 hRt hB4 hkD hG0 hDr; grind), rfl⟩ (by omega) (by omega)
        · refine gs_X3_43 dX3_judgeTakeOff_67 rfl ?_
          refine v_goto (tgt := 76) dX3_judgeTakeOff_70 (by decide) ?_
          exact v_aret dX3_judgeTakeOff_76 rfl ⟨(by unfold vdTakeOff; rw [if_neg (fun z => z ⟨k0, k1⟩), if_neg hf]; clear hgL hgS hRd hSd hLt hLe hSl hLf hSk hC0 hK0 hSt hRo hSR hLR hkd hDk hDs hB1 hB2 hBl hB3 hRt hB4 hkD hG0 hDr; grind), rfl⟩ (by omega) (by omega)
      · refine v_aload_n dX3_judgeTakeOff_47 rfl rfl ?_
        refine gf_X3_122 dX3_judgeTakeOff_48 rfl hLf ?_
        refine v_iload_n dX3_judgeTakeOff_51 rfl rfl ?_
        refine v_icmp_ne (tgt := 59) dX3_judgeTakeOff_52 (by decide) (fun h52 => ?_) (fun h52 => ?_)
        · refine v_iconst (v := 0) dX3_judgeTakeOff_59 (by decide) ?_
          refine v_istore_4 dX3_judgeTakeOff_60 ?_
          refine v_iload dX3_judgeTakeOff_62 rfl ?_
          refine v_if_eq (tgt := 73) dX3_judgeTakeOff_64 (by decide) (fun h64 => ?_) (fun h64 => ?_)
          · refine gs_X3_49 dX3_judgeTakeOff_73 rfl ?_
            exact v_aret dX3_judgeTakeOff_76 rfl ⟨(by unfold vdTakeOff; rw [if_neg (fun z => z ⟨k0, k1⟩), if_neg hf]; clear hgL hgS hRd hSd hLt hLe hSl hLf hSk hC0 hK0 hSt hRo hSR hLR hkd hDk hDs hB1 hB2 hBl hB3 hRt hB4 hkD hG0 hDr; grind), rfl⟩ (by omega) (by omega)
          · refine gs_X3_43 dX3_judgeTakeOff_67 rfl ?_
            refine v_goto (tgt := 76) dX3_judgeTakeOff_70 (by decide) ?_
            exact v_aret dX3_judgeTakeOff_76 rfl ⟨(by unfold vdTakeOff; rw [if_neg (fun z => z ⟨k0, k1⟩), if_neg hf]; clear hgL hgS hRd hSd hLt hLe hSl hLf hSk hC0 hK0 hSt hRo hSR hLR hkd hDk hDs hB1 hB2 hBl hB3 hRt hB4 hkD hG0 hDr; grind), rfl⟩ (by omega) (by omega)
        · refine v_iconst (v := 1) dX3_judgeTakeOff_55 (by decide) ?_
          refine v_goto (tgt := 60) dX3_judgeTakeOff_56 (by decide) ?_
          refine v_istore_4 dX3_judgeTakeOff_60 ?_
          refine v_iload dX3_judgeTakeOff_62 rfl ?_
          refine v_if_eq (tgt := 73) dX3_judgeTakeOff_64 (by decide) (fun h64 => ?_) (fun h64 => ?_)
          · refine gs_X3_49 dX3_judgeTakeOff_73 rfl ?_
            exact v_aret dX3_judgeTakeOff_76 rfl ⟨(by unfold vdTakeOff; rw [if_neg (fun z => z ⟨k0, k1⟩), if_neg hf]; clear hgL hgS hRd hSd hLt hLe hSl hLf hSk hC0 hK0 hSt hRo hSR hLR hkd hDk hDs hB1 hB2 hBl hB3 hRt hB4 hkD hG0 hDr; grind), rfl⟩ (by omega) (by omega)
          · refine gs_X3_43 dX3_judgeTakeOff_67 rfl ?_
            refine v_goto (tgt := 76) dX3_judgeTakeOff_70 (by decide) ?_
            exact v_aret dX3_judgeTakeOff_76 rfl ⟨(by unfold vdTakeOff; rw [if_neg (fun z => z ⟨k0, k1⟩), if_neg hf]; clear hgL hgS hRd hSd hLt hLe hSl hLf hSk hC0 hK0 hSt hRo hSR hLR hkd hDk hDs hB1 hB2 hBl hB3 hRt hB4 hkD hG0 hDr; grind), rfl⟩ (by omega) (by omega)
  · refine gs_X3_56 dX3_judgeTakeOff_11 rfl ?_
    exact v_aret dX3_judgeTakeOff_14 rfl ⟨(by unfold vdTakeOff; rw [if_pos (b_f h8)]), rfl⟩ (by omega) (by omega)
