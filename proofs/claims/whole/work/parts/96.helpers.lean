/-! ===== the face: its helpers ===== -/
/-- the exception of a verdict -/
def exV : Nat → String
  | 1 => "java/lang/IndexOutOfBoundsException"
  | 2 => "java/lang/IllegalArgumentException"
  | 3 => "java/util/NoSuchElementException"
  | 4 => "java/lang/IllegalStateException"
  | 5 => "java/lang/UnsupportedOperationException"
  | _ => "java/lang/ArithmeticException"
section VI
variable {l : Launch} {g : Nat → Nat} {y : MethodName} {cc : ByteArray} {rt : Option FieldType} {tb : List ExceptionTableEntry} {L mc ms : Nat} {Po : Res → LH → Prop} {X : CX} {M : LH} {k n pc : Nat} {ls : List (Option Value)} {rest : List Value}
theorem V.inj (kk : (∀ i j, i < 6 → j < 6 → g i = g j → i = j) → V l g y cc rt tb L mc ms Po X (M) (k) (n) (pc) (ls) (rest)) : V l g y cc rt tb L mc ms Po X (M) (k) (n) (pc) (ls) (rest) := by
  obtain ⟨p, e, s, m, args, below, meth, c, A⟩ := X
  intro ok
  exact kk ok.2.2.2.2.2.2.1.2 ok
end VI
theorem dX11_demandFine_0 : decode cX11_demandFine 0 = .ok (.aload_n 0, 1) := by decide +kernel
theorem dX11_demandFine_1 : decode cX11_demandFine 1 = .ok (.getstatic 401, 3) := by decide +kernel
theorem dX11_demandFine_4 : decode cX11_demandFine 4 = .ok (.if_acmp .ne 14, 3) := by decide +kernel
theorem dX11_demandFine_7 : decode cX11_demandFine 7 = .ok (.new 348, 3) := by decide +kernel
theorem dX11_demandFine_10 : decode cX11_demandFine 10 = .ok (.dup, 1) := by decide +kernel
theorem dX11_demandFine_11 : decode cX11_demandFine 11 = .ok (.ldc_w 407, 3) := by decide +kernel
theorem dX11_demandFine_14 : decode cX11_demandFine 14 = .ok (.invokespecial 352, 3) := by decide +kernel
theorem dX11_demandFine_17 : decode cX11_demandFine 17 = .ok (.athrow, 1) := by decide +kernel
theorem dX11_demandFine_18 : decode cX11_demandFine 18 = .ok (.aload_n 0, 1) := by decide +kernel
theorem dX11_demandFine_19 : decode cX11_demandFine 19 = .ok (.getstatic 409, 3) := by decide +kernel
theorem dX11_demandFine_22 : decode cX11_demandFine 22 = .ok (.if_acmp .ne 14, 3) := by decide +kernel
theorem dX11_demandFine_25 : decode cX11_demandFine 25 = .ok (.new 285, 3) := by decide +kernel
theorem dX11_demandFine_28 : decode cX11_demandFine 28 = .ok (.dup, 1) := by decide +kernel
theorem dX11_demandFine_29 : decode cX11_demandFine 29 = .ok (.ldc_w 412, 3) := by decide +kernel
theorem dX11_demandFine_32 : decode cX11_demandFine 32 = .ok (.invokespecial 289, 3) := by decide +kernel
theorem dX11_demandFine_35 : decode cX11_demandFine 35 = .ok (.athrow, 1) := by decide +kernel
theorem dX11_demandFine_36 : decode cX11_demandFine 36 = .ok (.aload_n 0, 1) := by decide +kernel
theorem dX11_demandFine_37 : decode cX11_demandFine 37 = .ok (.getstatic 414, 3) := by decide +kernel
theorem dX11_demandFine_40 : decode cX11_demandFine 40 = .ok (.if_acmp .ne 14, 3) := by decide +kernel
theorem dX11_demandFine_43 : decode cX11_demandFine 43 = .ok (.new 224, 3) := by decide +kernel
theorem dX11_demandFine_46 : decode cX11_demandFine 46 = .ok (.dup, 1) := by decide +kernel
theorem dX11_demandFine_47 : decode cX11_demandFine 47 = .ok (.ldc_w 417, 3) := by decide +kernel
theorem dX11_demandFine_50 : decode cX11_demandFine 50 = .ok (.invokespecial 228, 3) := by decide +kernel
theorem dX11_demandFine_53 : decode cX11_demandFine 53 = .ok (.athrow, 1) := by decide +kernel
theorem dX11_demandFine_54 : decode cX11_demandFine 54 = .ok (.aload_n 0, 1) := by decide +kernel
theorem dX11_demandFine_55 : decode cX11_demandFine 55 = .ok (.getstatic 419, 3) := by decide +kernel
theorem dX11_demandFine_58 : decode cX11_demandFine 58 = .ok (.if_acmp .ne 14, 3) := by decide +kernel
theorem dX11_demandFine_61 : decode cX11_demandFine 61 = .ok (.new 362, 3) := by decide +kernel
theorem dX11_demandFine_64 : decode cX11_demandFine 64 = .ok (.dup, 1) := by decide +kernel
theorem dX11_demandFine_65 : decode cX11_demandFine 65 = .ok (.ldc_w 422, 3) := by decide +kernel
theorem dX11_demandFine_68 : decode cX11_demandFine 68 = .ok (.invokespecial 366, 3) := by decide +kernel
theorem dX11_demandFine_71 : decode cX11_demandFine 71 = .ok (.athrow, 1) := by decide +kernel
theorem dX11_demandFine_72 : decode cX11_demandFine 72 = .ok (.aload_n 0, 1) := by decide +kernel
theorem dX11_demandFine_73 : decode cX11_demandFine 73 = .ok (.getstatic 424, 3) := by decide +kernel
theorem dX11_demandFine_76 : decode cX11_demandFine 76 = .ok (.if_acmp .ne 14, 3) := by decide +kernel
theorem dX11_demandFine_79 : decode cX11_demandFine 79 = .ok (.new 427, 3) := by decide +kernel
theorem dX11_demandFine_82 : decode cX11_demandFine 82 = .ok (.dup, 1) := by decide +kernel
theorem dX11_demandFine_83 : decode cX11_demandFine 83 = .ok (.ldc_w 429, 3) := by decide +kernel
theorem dX11_demandFine_86 : decode cX11_demandFine 86 = .ok (.invokespecial 431, 3) := by decide +kernel
theorem dX11_demandFine_89 : decode cX11_demandFine 89 = .ok (.athrow, 1) := by decide +kernel
theorem dX11_demandFine_90 : decode cX11_demandFine 90 = .ok (.return_, 1) := by decide +kernel
set_option maxRecDepth 100000 in
set_option maxHeartbeats 4000000 in
theorem c_demandFine {l : Launch} {g : Nat → Nat} {M : LH} (htr : l.stackTraces = false) {n : Nat} (hn : n < 6) : K_X11_demandFine l g 0 1 6 [.ref (g n)] M (RV (fun M9 => n = 0 ∧ M9 = M) (fun E M9 => ¬ n = 0 ∧ E = exV n ∧ M9 = M)) := by
  refine Ko_X11_demandFine htr (fun X => ?_)
  refine V.inj (fun hj => ?_)
  refine v_aload_n dX11_demandFine_0 rfl rfl ?_
  refine gs_X11_401 dX11_demandFine_1 rfl ?_
  refine v_acmp_ne (tgt := 18) dX11_demandFine_4 (by decide) (fun h4 => ?_) (fun h4 => ?_)
  · have n1 : ¬ n = 1 := fun z => h4 (by rw [z])
    refine v_aload_n dX11_demandFine_18 rfl rfl ?_
    refine gs_X11_409 dX11_demandFine_19 rfl ?_
    refine v_acmp_ne (tgt := 36) dX11_demandFine_22 (by decide) (fun h22 => ?_) (fun h22 => ?_)
    · have n2 : ¬ n = 2 := fun z => h22 (by rw [z])
      refine v_aload_n dX11_demandFine_36 rfl rfl ?_
      refine gs_X11_414 dX11_demandFine_37 rfl ?_
      refine v_acmp_ne (tgt := 54) dX11_demandFine_40 (by decide) (fun h40 => ?_) (fun h40 => ?_)
      · have n3 : ¬ n = 3 := fun z => h40 (by rw [z])
        refine v_aload_n dX11_demandFine_54 rfl rfl ?_
        refine gs_X11_419 dX11_demandFine_55 rfl ?_
        refine v_acmp_ne (tgt := 72) dX11_demandFine_58 (by decide) (fun h58 => ?_) (fun h58 => ?_)
        · have n4 : ¬ n = 4 := fun z => h58 (by rw [z])
          refine v_aload_n dX11_demandFine_72 rfl rfl ?_
          refine gs_X11_424 dX11_demandFine_73 rfl ?_
          refine v_acmp_ne (tgt := 90) dX11_demandFine_76 (by decide) (fun h76 => ?_) (fun h76 => ?_)
          · have n5 : ¬ n = 5 := fun z => h76 (by rw [z])
            exact v_vret dX11_demandFine_90 rfl ⟨by omega, rfl⟩ (by omega) (by omega)
          · have e9 := hj n 5 hn (by decide) h76
            subst e9
            exact th_X11_427_429 dX11_demandFine_79 dX11_demandFine_82 dX11_demandFine_83 dX11_demandFine_86 dX11_demandFine_89 rfl (Nat.le_of_ble_eq_true rfl) ⟨by decide, rfl, rfl⟩ (by omega) (by omega)
        · have e9 := hj n 4 hn (by decide) h58
          subst e9
          exact th_X11_362_422 dX11_demandFine_61 dX11_demandFine_64 dX11_demandFine_65 dX11_demandFine_68 dX11_demandFine_71 rfl (Nat.le_of_ble_eq_true rfl) ⟨by decide, rfl, rfl⟩ (by omega) (by omega)
      · have e9 := hj n 3 hn (by decide) h40
        subst e9
        exact th_X11_224_417 dX11_demandFine_43 dX11_demandFine_46 dX11_demandFine_47 dX11_demandFine_50 dX11_demandFine_53 rfl (Nat.le_of_ble_eq_true rfl) ⟨by decide, rfl, rfl⟩ (by omega) (by omega)
    · have e9 := hj n 2 hn (by decide) h22
      subst e9
      exact th_X11_285_412 dX11_demandFine_25 dX11_demandFine_28 dX11_demandFine_29 dX11_demandFine_32 dX11_demandFine_35 rfl (Nat.le_of_ble_eq_true rfl) ⟨by decide, rfl, rfl⟩ (by omega) (by omega)
  · have e9 := hj n 1 hn (by decide) h4
    subst e9
    exact th_X11_348_407 dX11_demandFine_7 dX11_demandFine_10 dX11_demandFine_11 dX11_demandFine_14 dX11_demandFine_17 rfl (Nat.le_of_ble_eq_true rfl) ⟨by decide, rfl, rfl⟩ (by omega) (by omega)
theorem dX11_needStation_0 : decode cX11_needStation 0 = .ok (.aload_n 0, 1) := by decide +kernel
theorem dX11_needStation_1 : decode cX11_needStation 1 = .ok (.getfield 20, 3) := by decide +kernel
theorem dX11_needStation_4 : decode cX11_needStation 4 = .ok (.iload_n 1, 1) := by decide +kernel
theorem dX11_needStation_5 : decode cX11_needStation 5 = .ok (.invokevirtual 432, 3) := by decide +kernel
theorem dX11_needStation_8 : decode cX11_needStation 8 = .ok (.ifCond .ne 14, 3) := by decide +kernel
theorem dX11_needStation_11 : decode cX11_needStation 11 = .ok (.new 348, 3) := by decide +kernel
theorem dX11_needStation_14 : decode cX11_needStation 14 = .ok (.dup, 1) := by decide +kernel
theorem dX11_needStation_15 : decode cX11_needStation 15 = .ok (.ldc_w 435, 3) := by decide +kernel
theorem dX11_needStation_18 : decode cX11_needStation 18 = .ok (.invokespecial 352, 3) := by decide +kernel
theorem dX11_needStation_21 : decode cX11_needStation 21 = .ok (.athrow, 1) := by decide +kernel
theorem dX11_needStation_22 : decode cX11_needStation 22 = .ok (.return_, 1) := by decide +kernel
set_option maxRecDepth 100000 in
set_option maxHeartbeats 4000000 in
theorem c_needStation {l : Launch} {g : Nat → Nat} {M : LH} (htr : l.stackTraces = false) {kd : Nat → Nat} {p : Nat} {q a : Nat → Nat} {e8 : Int32 → Nat} {v : Int32 → Int32} {sv : Int32} {sa : Int32 → Int32} {ch : Int32} {pa tx : Int32 → Int32} {tn : Int32} {Ls : List Int32} {ea fl : Int32} (hP : Pg kd M p q a e8 v sv sa ch pa tx tn Ls ea fl) (z : Int32) : K_X11_needStation l g 1 1 6 [.ref p, .int z] M (RV (fun M9 => hst v z ∧ M9 = M) (fun E M9 => ¬ hst v z ∧ E = exV 1 ∧ M9 = M)) := by
  refine Ko_X11_needStation htr (fun X => ?_)
  obtain ⟨hs, old, hB, hR⟩ := _root_.id hP
  obtain ⟨hO, hE8, hkp, hk3, ⟨ad, sl, le, fg, tp, F, hC⟩, hK, hS2, hS3, hS8, hRO⟩ := _root_.id hB
  have hSt := hC.1
  refine v_aload_n dX11_needStation_0 rfl rfl ?_
  refine gf_X11_20 dX11_needStation_1 rfl hO ?_
  refine v_iload_n dX11_needStation_4 rfl rfl ?_
  refine k_X11_432 dX11_needStation_5 rfl (c_hasStation htr hC z) hSt (Nat.le_of_ble_eq_true rfl) (by omega) (by omega) (Nat.le_of_ble_eq_true rfl) (fun r5 M9 h9 => ?_) (fun _ _ h9 => h9.elim)
  obtain ⟨rfl, e9⟩ := h9
  subst M9
  refine v_if_ne (tgt := 22) dX11_needStation_8 (by decide) (fun h8 => ?_) (fun h8 => ?_)
  · exact v_vret dX11_needStation_22 rfl ⟨b_t h8, rfl⟩ (by omega) (by omega)
  · exact th_X11_348_435 dX11_needStation_11 dX11_needStation_14 dX11_needStation_15 dX11_needStation_18 dX11_needStation_21 rfl (Nat.le_of_ble_eq_true rfl) ⟨b_f (by first | assumption | exact Classical.not_not.mp (by assumption)), rfl, rfl⟩ (by omega) (by omega)
theorem dX11_needSledge_0 : decode cX11_needSledge 0 = .ok (.aload_n 0, 1) := by decide +kernel
theorem dX11_needSledge_1 : decode cX11_needSledge 1 = .ok (.getfield 20, 3) := by decide +kernel
theorem dX11_needSledge_4 : decode cX11_needSledge 4 = .ok (.iload_n 1, 1) := by decide +kernel
theorem dX11_needSledge_5 : decode cX11_needSledge 5 = .ok (.invokevirtual 437, 3) := by decide +kernel
theorem dX11_needSledge_8 : decode cX11_needSledge 8 = .ok (.ifCond .ne 14, 3) := by decide +kernel
theorem dX11_needSledge_11 : decode cX11_needSledge 11 = .ok (.new 348, 3) := by decide +kernel
theorem dX11_needSledge_14 : decode cX11_needSledge 14 = .ok (.dup, 1) := by decide +kernel
theorem dX11_needSledge_15 : decode cX11_needSledge 15 = .ok (.ldc_w 440, 3) := by decide +kernel
theorem dX11_needSledge_18 : decode cX11_needSledge 18 = .ok (.invokespecial 352, 3) := by decide +kernel
theorem dX11_needSledge_21 : decode cX11_needSledge 21 = .ok (.athrow, 1) := by decide +kernel
theorem dX11_needSledge_22 : decode cX11_needSledge 22 = .ok (.aload_n 0, 1) := by decide +kernel
theorem dX11_needSledge_23 : decode cX11_needSledge 23 = .ok (.getfield 20, 3) := by decide +kernel
theorem dX11_needSledge_26 : decode cX11_needSledge 26 = .ok (.getfield 442, 3) := by decide +kernel
theorem dX11_needSledge_29 : decode cX11_needSledge 29 = .ok (.iload_n 1, 1) := by decide +kernel
theorem dX11_needSledge_30 : decode cX11_needSledge 30 = .ok (.aaload, 1) := by decide +kernel
theorem dX11_needSledge_31 : decode cX11_needSledge 31 = .ok (.areturn, 1) := by decide +kernel
set_option maxRecDepth 100000 in
set_option maxHeartbeats 4000000 in
theorem c_needSledge {l : Launch} {g : Nat → Nat} {M : LH} (htr : l.stackTraces = false) {kd : Nat → Nat} {p : Nat} {q a : Nat → Nat} {hs old ch ea fl : Int32} (hO : M p = some (ob 9 [.ref (q 0), .ref (a 0), .ref (a 1), .int hs, .ref (a 3), .int old, .int ch, .ref (a 4), .ref (a 2), .int ea, .int fl, .ref (a 7)])) {ad : Nat → Nat} {sl le : Int32 → Nat} {fg tp : Int32} {F : Nat → Int32 → Int32} {v : Int32 → Int32} (hC : StR kd 1 M (a 0) ad sl le fg tp F v) (z : Int32) : K_X11_needSledge l g 1 1 6 [.ref p, .int z] M (RA (fun x M9 => hsl v z ∧ x = sl z ∧ M9 = M) (fun E M9 => ¬ hsl v z ∧ E = exV 1 ∧ M9 = M)) := by
  refine Ko_X11_needSledge htr (fun X => ?_)
  have hSt := hC.1
  have hSR := hC.2.2.1
  refine v_aload_n dX11_needSledge_0 rfl rfl ?_
  refine gf_X11_20 dX11_needSledge_1 rfl hO ?_
  refine v_iload_n dX11_needSledge_4 rfl rfl ?_
  refine k_X11_437 dX11_needSledge_5 rfl (c_hasSledge htr hC z) hSt (Nat.le_of_ble_eq_true rfl) (by omega) (by omega) (Nat.le_of_ble_eq_true rfl) (fun r5 M9 h9 => ?_) (fun _ _ h9 => h9.elim)
  obtain ⟨rfl, e9⟩ := h9
  subst M9
  refine v_if_ne (tgt := 22) dX11_needSledge_8 (by decide) (fun h8 => ?_) (fun h8 => ?_)
  · obtain ⟨z0, z1⟩ := b_t h8
    refine v_aload_n dX11_needSledge_22 rfl rfl ?_
    refine gf_X11_20 dX11_needSledge_23 rfl hO ?_
    refine gf_X11_442 dX11_needSledge_26 rfl hSt ?_
    refine v_iload_n dX11_needSledge_29 rfl rfl ?_
    refine v_aald1 dX11_needSledge_30 hSR z0 (Int32.lt_of_lt_of_le z1 hC.toG.2.2.2.1) rfl ?_
    exact v_aret dX11_needSledge_31 rfl ⟨⟨z0, z1⟩, rfl, rfl⟩ (by omega) (by omega)
  · exact th_X11_348_440 dX11_needSledge_11 dX11_needSledge_14 dX11_needSledge_15 dX11_needSledge_18 dX11_needSledge_21 rfl (Nat.le_of_ble_eq_true rfl) ⟨b_f (by first | assumption | exact Classical.not_not.mp (by assumption)), rfl, rfl⟩ (by omega) (by omega)
theorem dX11_needLetter_0 : decode cX11_needLetter 0 = .ok (.aload_n 0, 1) := by decide +kernel
theorem dX11_needLetter_1 : decode cX11_needLetter 1 = .ok (.getfield 20, 3) := by decide +kernel
theorem dX11_needLetter_4 : decode cX11_needLetter 4 = .ok (.iload_n 1, 1) := by decide +kernel
theorem dX11_needLetter_5 : decode cX11_needLetter 5 = .ok (.invokevirtual 446, 3) := by decide +kernel
theorem dX11_needLetter_8 : decode cX11_needLetter 8 = .ok (.astore_n 2, 1) := by decide +kernel
theorem dX11_needLetter_9 : decode cX11_needLetter 9 = .ok (.aload_n 2, 1) := by decide +kernel
theorem dX11_needLetter_10 : decode cX11_needLetter 10 = .ok (.ifnonnull 14, 3) := by decide +kernel
theorem dX11_needLetter_13 : decode cX11_needLetter 13 = .ok (.new 224, 3) := by decide +kernel
theorem dX11_needLetter_16 : decode cX11_needLetter 16 = .ok (.dup, 1) := by decide +kernel
theorem dX11_needLetter_17 : decode cX11_needLetter 17 = .ok (.ldc_w 449, 3) := by decide +kernel
theorem dX11_needLetter_20 : decode cX11_needLetter 20 = .ok (.invokespecial 228, 3) := by decide +kernel
theorem dX11_needLetter_23 : decode cX11_needLetter 23 = .ok (.athrow, 1) := by decide +kernel
theorem dX11_needLetter_24 : decode cX11_needLetter 24 = .ok (.aload_n 2, 1) := by decide +kernel
theorem dX11_needLetter_25 : decode cX11_needLetter 25 = .ok (.areturn, 1) := by decide +kernel
set_option maxRecDepth 100000 in
set_option maxHeartbeats 4000000 in
theorem c_needLetter {l : Launch} {g : Nat → Nat} {M : LH} (htr : l.stackTraces = false) {kd : Nat → Nat} {p : Nat} {q a : Nat → Nat} {hs old ch ea fl : Int32} (hO : M p = some (ob 9 [.ref (q 0), .ref (a 0), .ref (a 1), .int hs, .ref (a 3), .int old, .int ch, .ref (a 4), .ref (a 2), .int ea, .int fl, .ref (a 7)])) {ad : Nat → Nat} {sl le : Int32 → Nat} {fg tp : Int32} {F : Nat → Int32 → Int32} {v : Int32 → Int32} (hC : StR kd 1 M (a 0) ad sl le fg tp F v) (z : Int32) : K_X11_needLetter l g 1 1 6 [.ref p, .int z] M (RA (fun x M9 => ¬ find v z = -1 ∧ x = le (find v z) ∧ M9 = M) (fun E M9 => find v z = -1 ∧ E = exV 3 ∧ M9 = M)) := by
  refine Ko_X11_needLetter htr (fun X => ?_)
  have hSt := hC.1
  refine v_aload_n dX11_needLetter_0 rfl rfl ?_
  refine gf_X11_20 dX11_needLetter_1 rfl hO ?_
  refine v_iload_n dX11_needLetter_4 rfl rfl ?_
  refine kq_X11_446 dX11_needLetter_5 rfl (c_findLetter htr hC z) hSt (Nat.le_of_ble_eq_true rfl) (by omega) (by omega) (Nat.le_of_ble_eq_true rfl) (fun r5 M9 h9 => ?_) (fun _ _ h9 => h9.elim)
  obtain ⟨rfl, e9⟩ := h9
  subst M9
  by_cases hf : find v z = -1
  · rw [if_pos hf]
    refine v_aNstore_2 dX11_needLetter_8 ?_
    refine v_aload_nN dX11_needLetter_9 rfl rfl ?_
    refine v_ifnonnullN dX11_needLetter_10 ?_
    exact th_X11_224_449 dX11_needLetter_13 dX11_needLetter_16 dX11_needLetter_17 dX11_needLetter_20 dX11_needLetter_23 rfl (Nat.le_of_ble_eq_true rfl) ⟨hf, rfl, rfl⟩ (by omega) (by omega)
  · rw [if_neg hf]
    refine v_astore_2 dX11_needLetter_8 ?_
    refine v_aload_n dX11_needLetter_9 rfl rfl ?_
    refine v_ifnonnull (tgt := 24) dX11_needLetter_10 (by decide) ?_
    refine v_aload_n dX11_needLetter_24 rfl rfl ?_
    exact v_aret dX11_needLetter_25 rfl ⟨hf, rfl, rfl⟩ (by omega) (by omega)
theorem dX11_idOf_0 : decode cX11_idOf 0 = .ok (.aload_n 0, 1) := by decide +kernel
theorem dX11_idOf_1 : decode cX11_idOf 1 = .ok (.ifnonnull 14, 3) := by decide +kernel
theorem dX11_idOf_4 : decode cX11_idOf 4 = .ok (.new 224, 3) := by decide +kernel
theorem dX11_idOf_7 : decode cX11_idOf 7 = .ok (.dup, 1) := by decide +kernel
theorem dX11_idOf_8 : decode cX11_idOf 8 = .ok (.ldc_w 451, 3) := by decide +kernel
theorem dX11_idOf_11 : decode cX11_idOf 11 = .ok (.invokespecial 228, 3) := by decide +kernel
theorem dX11_idOf_14 : decode cX11_idOf 14 = .ok (.athrow, 1) := by decide +kernel
theorem dX11_idOf_15 : decode cX11_idOf 15 = .ok (.aload_n 0, 1) := by decide +kernel
theorem dX11_idOf_16 : decode cX11_idOf 16 = .ok (.getfield 235, 3) := by decide +kernel
theorem dX11_idOf_19 : decode cX11_idOf 19 = .ok (.ireturn, 1) := by decide +kernel
theorem c_idOfN {l : Launch} {g : Nat → Nat} {M : LH} (htr : l.stackTraces = false) : K_X11_idOf l g 0 1 6 [.null] M (RI (fun _ _ => False) (fun E M9 => E = exV 3 ∧ M9 = M)) := by
  refine Ct.of (nL := 1) (by decide +kernel) (Nat.le_of_ble_eq_true rfl) (by simp [Value.category]) htr (fun X => ?_)
  refine v_aload_nN dX11_idOf_0 rfl rfl ?_
  refine v_ifnonnullN dX11_idOf_1 ?_
  exact th_X11_224_451 dX11_idOf_4 dX11_idOf_7 dX11_idOf_8 dX11_idOf_11 dX11_idOf_14 rfl (Nat.le_of_ble_eq_true rfl) ⟨rfl, rfl⟩ (by omega) (by omega)
theorem c_idOf {l : Launch} {g : Nat → Nat} {M : LH} (htr : l.stackTraces = false) {b : Nat} {f0 f1 f2 f3 f4 f5 f6 f7 : Int32} (h : M b = some (ob 4 [.int f0, .int f1, .int f2, .int f3, .int f4, .int f5, .int f6, .int f7])) : K_X11_idOf l g 0 1 6 [.ref b] M (RI (fun x M9 => x = f0 ∧ M9 = M) nX) := by
  refine Ko_X11_idOf htr (fun X => ?_)
  refine v_aload_n dX11_idOf_0 rfl rfl ?_
  refine v_ifnonnull (tgt := 15) dX11_idOf_1 (by decide) ?_
  refine v_aload_n dX11_idOf_15 rfl rfl ?_
  refine gf_X11_235 dX11_idOf_16 rfl h ?_
  exact v_iret dX11_idOf_19 rfl ⟨rfl, rfl⟩ (by omega) (by omega)
section VN
variable {l : Launch} {g : Nat → Nat} {y : MethodName} {cc : ByteArray} {rt : Option FieldType} {tb : List ExceptionTableEntry} {L mc ms : Nat} {Po : Res → LH → Prop} {X : CX} {M : LH} {k n pc : Nat} {ls : List (Option Value)} {rest : List Value}
theorem kN_X11_202 {L2 mc2 ms2 : Nat} {f : Int32 → LH → Prop} {x : String → LH → Prop} (hd : decode cc pc = .ok (.invokestatic 202, 3)) (ho : y.cls = "SledgePost") (hM : K_X11_idOf l g L2 mc2 ms2 [.null] M (RI f x)) (hL : L2 + 1 ≤ L) (hk : k + mc2 ≤ mc) (hn : n + ms2 ≤ ms) (hrs : (rest.map fun v => v.category).sum ≤ 8) (kk : ∀ (r : Int32) (M9 : LH), f r M9 → V l g y cc rt tb L mc ms Po X (M9) (k + mc2) (n + ms2) (pc + 3) (ls) (.int r :: rest)) (kx : ∀ (E : String) (M9 : LH), x E M9 → VX l g y cc rt tb L mc ms Po X M9 (k + mc2) (n + ms2) pc ls rest E) : V l g y cc rt tb L mc ms Po X (M) (k) (n) (pc) (ls) (.null :: rest) := v_callS (As := [.null]) hd hM ho (Ut_of (mt_5 115 rfl) rfl) (Ut_of (mt_5 116 rfl) rfl) (Ut_of (mt_1 1 rfl) rfl) (Ut_of (mt_5 117 rfl) rfl) ck_X11_idOf hL (Nat.le_of_ble_eq_true rfl) hk hn hrs (fun r M9 h => by obtain ⟨v, rfl, h2⟩ := RI_of h; exact kk v M9 h2) kx
end VN
theorem dX11_needWay_0 : decode cX11_needWay 0 = .ok (.iload_n 0, 1) := by decide +kernel
theorem dX11_needWay_1 : decode cX11_needWay 1 = .ok (.ldc 157, 2) := by decide +kernel
theorem dX11_needWay_3 : decode cX11_needWay 3 = .ok (.if_icmp .lt 14, 3) := by decide +kernel
theorem dX11_needWay_6 : decode cX11_needWay 6 = .ok (.new 224, 3) := by decide +kernel
theorem dX11_needWay_9 : decode cX11_needWay 9 = .ok (.dup, 1) := by decide +kernel
theorem dX11_needWay_10 : decode cX11_needWay 10 = .ok (.ldc_w 453, 3) := by decide +kernel
theorem dX11_needWay_13 : decode cX11_needWay 13 = .ok (.invokespecial 228, 3) := by decide +kernel
theorem dX11_needWay_16 : decode cX11_needWay 16 = .ok (.athrow, 1) := by decide +kernel
theorem dX11_needWay_17 : decode cX11_needWay 17 = .ok (.iload_n 0, 1) := by decide +kernel
theorem dX11_needWay_18 : decode cX11_needWay 18 = .ok (.ireturn, 1) := by decide +kernel
set_option maxRecDepth 100000 in
set_option maxHeartbeats 4000000 in
theorem c_needWay {l : Launch} {g : Nat → Nat} {M : LH} (htr : l.stackTraces = false) {z : Int32} : K_X11_needWay l g 0 1 6 [.int z] M (RI (fun x M9 => z < 1000000 ∧ x = z ∧ M9 = M) (fun E M9 => 1000000 ≤ z ∧ E = exV 3 ∧ M9 = M)) := by
  refine Ko_X11_needWay htr (fun X => ?_)
  refine v_iload_n dX11_needWay_0 rfl rfl ?_
  refine lc_X11_157 dX11_needWay_1 rfl ?_
  refine v_icmp_lt (tgt := 17) dX11_needWay_3 (by decide) (fun h3 => ?_) (fun h3 => ?_)
  · refine v_iload_n dX11_needWay_17 rfl rfl ?_
    exact v_iret dX11_needWay_18 rfl ⟨h3, rfl, rfl⟩ (by omega) (by omega)
  · exact th_X11_224_453 dX11_needWay_6 dX11_needWay_9 dX11_needWay_10 dX11_needWay_13 dX11_needWay_16 rfl (Nat.le_of_ble_eq_true rfl) ⟨Int32.not_lt.mp h3, rfl, rfl⟩ (by omega) (by omega)
