/-! ===== the law: its loop ===== -/
theorem dL_law_28 : decode cL_law 28 = .ok (.iload 5, 2) := by decide +kernel
theorem dL_law_30 : decode cL_law 30 = .ok (.aload_n 0, 1) := by decide +kernel
theorem dL_law_31 : decode cL_law 31 = .ok (.arraylength, 1) := by decide +kernel
theorem dL_law_32 : decode cL_law 32 = .ok (.bipush 6, 2) := by decide +kernel
theorem dL_law_34 : decode cL_law 34 = .ok (.isub, 1) := by decide +kernel
theorem dL_law_35 : decode cL_law 35 = .ok (.if_icmp .gt 3291, 3) := by decide +kernel
theorem dL_law_38 : decode cL_law 38 = .ok (.aload_n 0, 1) := by decide +kernel
theorem dL_law_39 : decode cL_law 39 = .ok (.iload 5, 2) := by decide +kernel
theorem dL_law_41 : decode cL_law 41 = .ok (.iaload, 1) := by decide +kernel
theorem dL_law_42 : decode cL_law 42 = .ok (.bipush 63, 2) := by decide +kernel
theorem dL_law_44 : decode cL_law 44 = .ok (.iand, 1) := by decide +kernel
theorem dL_law_45 : decode cL_law 45 = .ok (.tableswitch 3275 0 58 #[251, 295, 375, 443, 547, 615, 683, 739, 807, 863, 919, 932, 1000, 1075, 1143, 1211, 1267, 1280, 1336, 1392, 1455, 1511, 1567, 1623, 1691, 1747, 1803, 1859, 1915, 1928, 1984, 2040, 2096, 2152, 2208, 2271, 2327, 2383, 2439, 2495, 2551, 2607, 2620, 2633, 2646, 2659, 2672, 2737, 2803, 2816, 2872, 2928, 2984, 3042, 3086, 3130, 3174, 3218, 3231], 251) := by decide +kernel
theorem dL_law_3320 : decode cL_law 3320 = .ok (.iinc 5 6, 3) := by decide +kernel
theorem dL_law_3323 : decode cL_law 3323 = .ok (.goto (-3295), 3) := by decide +kernel
theorem dL_law_3326 : decode cL_law 3326 = .ok (.iconst 1, 1) := by decide +kernel
theorem dL_law_3327 : decode cL_law 3327 = .ok (.ireturn, 1) := by decide +kernel
/-- where the cases begin -/
def OFL : List Nat := [296, 340, 420, 488, 592, 660, 728, 784, 852, 908, 964, 977, 1045, 1120, 1188, 1256, 1312, 1325, 1381, 1437, 1500, 1556, 1612, 1668, 1736, 1792, 1848, 1904, 1960, 1973, 2029, 2085, 2141, 2197, 2253, 2316, 2372, 2428, 2484, 2540, 2596, 2652, 2665, 2678, 2691, 2704, 2717, 2782, 2848, 2861, 2917, 2973, 3029, 3087, 3131, 3175, 3219, 3263, 3276]
set_option maxRecDepth 100000 in
theorem law_tab : ∀ j, j < 59 → (#[251, 295, 375, 443, 547, 615, 683, 739, 807, 863, 919, 932, 1000, 1075, 1143, 1211, 1267, 1280, 1336, 1392, 1455, 1511, 1567, 1623, 1691, 1747, 1803, 1859, 1915, 1928, 1984, 2040, 2096, 2152, 2208, 2271, 2327, 2383, 2439, 2495, 2551, 2607, 2620, 2633, 2646, 2659, 2672, 2737, 2803, 2816, 2872, 2928, 2984, 3042, 3086, 3130, 3174, 3218, 3231] : Array Int)[((nI j).toInt - 0).toNat]? = some (((OFL.getD j 0 : Nat) : Int) - 45) := by decide +kernel
theorem and_63 (x : Int32) : ∃ j : Nat, j < 64 ∧ x &&& 63 = nI j := by
  refine ⟨(x &&& 63).toBitVec.toNat, ?_, ?_⟩
  · have h : (x &&& 63).toBitVec.toNat = x.toBitVec.toNat &&& 63 := by
      show (x.toBitVec &&& 63#32).toNat = _
      rw [BitVec.toNat_and]
      rfl
    have h2 := Nat.and_le_right (n := x.toBitVec.toNat) (m := 63)
    omega
  · apply Int32.toBitVec_inj.mp
    show (x &&& 63).toBitVec = BitVec.ofNat 32 (x &&& 63).toBitVec.toNat
    rw [BitVec.ofNat_toNat, BitVec.setWidth_eq]
theorem ix_5 {N SN : Nat} (h : 6 * N + 6 ≤ SN) (hS : SN ≤ 3072) : ∀ j : Int32, 1 ≤ j → j ≤ 5 → 0 ≤ nI (6 * N) + j ∧ (nI (6 * N) + j).toNatClampNeg < SN := by
  intro j j1 j5
  have a := i_le.mp j1
  have b := i_le.mp j5
  rw [show ((1 : Int32).toInt) = 1 from rfl] at a
  rw [show ((5 : Int32).toInt) = 5 from rfl] at b
  have c : (nI (6 * N)).toInt = ((6 * N : Nat) : Int) := nI_toInt (by omega)
  have e : (nI (6 * N) + j).toInt = (nI (6 * N)).toInt + j.toInt := i_add (by omega) (by omega)
  refine ⟨i_le.mpr (by rw [i_0]; omega), ?_⟩
  show (nI (6 * N) + j).toInt.toNat < SN
  omega
theorem ix_6 {N : Nat} : nI (6 * N) + Int32.ofInt 6 = nI (6 * (N + 1)) := by
  show nI (6 * N) + nI 6 = nI (6 * N + 6)
  unfold nI
  exact (Int32.ofNat_add (6 * N) 6).symm
theorem LI.up {p m out outD N : Nat} {M : LH} (h : LI p m out outD N M) : LI p m out outD (N + 1) M := by
  obtain ⟨kd, q, a, e8, v, sv, sa, ch, pa, tx, tn, Ls, ea, fl, w, t, bf, he, en, wr, dg, b4, fr, th, bs, li, lf, to, hP, hM, hS, r⟩ := h
  exact ⟨kd, q, a, e8, v, sv, sa, ch, pa, tx, tn, Ls, ea, fl, w, t, bf, he, en, wr, dg, b4, fr, th, bs, li, lf, to, hP, hM, hS.up, r⟩
/-- every case -/
theorem law_all {l : Launch} {g : Nat → Nat} {nm ds : String} {tb : List ExceptionTableEntry} {L mc ms : Nat} {Po : Res → LH → Prop} {X : CX} {M : LH} {k0 n0 : Nat} (htr : l.stackTraces = false) {b SN : Nat} {xs : Nat → Int32} (hX : Sc b SN xs X) {kd : Nat → Nat} {p : Nat} {q a : Nat → Nat} {e8 : Int32 → Nat} {v : Int32 → Int32} {sv : Int32} {sa : Int32 → Int32} {ch : Int32} {pa tx : Int32 → Int32} {tn : Int32} {Ls : List Int32} {ea fl : Int32} {m : Nat} {w : Nat → Nat} {t bf he en wr dg : Int32} {b4 fr th bs li lf to : Int32 → Int32} {out outD : Nat} {N : Nat} (hP : Pg kd M p q a e8 v sv sa ch pa tx tn Ls ea fl) (hM : Md kd 30 M m w t ch ea fl sv bf tn he en (nI Ls.length) wr dg v b4 sa pa fr th bs tx li lf to) (hS : Lw N v sv sa ch pa tn Ls ea fl li) (hN : N ≤ 512) {h0 : Nat → Int64} (hO : M out = some (la 1 h0)) (ko : kd out = 31) {h2 : Nat → UInt64} (hO2 : M outD = some (da 1 h2)) (ko2 : kd outD = 31) {i : Int32} (hi : ∀ j : Int32, 1 ≤ j → j ≤ 5 → 0 ≤ i + j ∧ (i + j).toNatClampNeg < SN) (hL : 30 ≤ L) (hk : k0 + 8 ≤ mc) (hn : n0 + 600 ≤ ms) {z6 z7 z8 : Option Value} (kk : ∀ (M' : LH) (z6 z7 z8 : Option Value), LI p m out outD (N + 1) M' → V l g ⟨"SledgePostLaw", nm, ds⟩ cL_law (some .boolean) tb L mc ms Po X M' (k0 + 8) (n0 + 600) 3320 [some (.ref b), some (.ref p), some (.ref m), some (.ref out), some (.ref outD), some (.int i), z6, z7, z8] []) : ∀ j, j < 59 → V l g ⟨"SledgePostLaw", nm, ds⟩ cL_law (some .boolean) tb L mc ms Po X M k0 n0 (OFL.getD j 0) [some (.ref b), some (.ref p), some (.ref m), some (.ref out), some (.ref outD), some (.int i), z6, z7, z8] [] := by
  intro j hj
  match j, hj with
  | 0, _ => exact law_0 htr hX hP hM hS hN hO ko hO2 ko2 hi hL hk hn kk
  | 1, _ => exact law_1 htr hX hP hM hS hN hO ko hO2 ko2 hi hL hk hn kk
  | 2, _ => exact law_2 htr hX hP hM hS hN hO ko hO2 ko2 hi hL hk hn kk
  | 3, _ => exact law_3 htr hX hP hM hS hN hO ko hO2 ko2 hi hL hk hn kk
  | 4, _ => exact law_4 htr hX hP hM hS hN hO ko hO2 ko2 hi hL hk hn kk
  | 5, _ => exact law_5 htr hX hP hM hS hN hO ko hO2 ko2 hi hL hk hn kk
  | 6, _ => exact law_6 htr hX hP hM hS hN hO ko hO2 ko2 hi hL hk hn kk
  | 7, _ => exact law_7 htr hX hP hM hS hN hO ko hO2 ko2 hi hL hk hn kk
  | 8, _ => exact law_8 htr hX hP hM hS hN hO ko hO2 ko2 hi hL hk hn kk
  | 9, _ => exact law_9 htr hX hP hM hS hN hO ko hO2 ko2 hi hL hk hn kk
  | 10, _ => exact law_10 htr hX hP hM hS hN hO ko hO2 ko2 hi hL hk hn kk
  | 11, _ => exact law_11 htr hX hP hM hS hN hO ko hO2 ko2 hi hL hk hn kk
  | 12, _ => exact law_12 htr hX hP hM hS hN hO ko hO2 ko2 hi hL hk hn kk
  | 13, _ => exact law_13 htr hX hP hM hS hN hO ko hO2 ko2 hi hL hk hn kk
  | 14, _ => exact law_14 htr hX hP hM hS hN hO ko hO2 ko2 hi hL hk hn kk
  | 15, _ => exact law_15 htr hX hP hM hS hN hO ko hO2 ko2 hi hL hk hn kk
  | 16, _ => exact law_16 htr hX hP hM hS hN hO ko hO2 ko2 hi hL hk hn kk
  | 17, _ => exact law_17 htr hX hP hM hS hN hO ko hO2 ko2 hi hL hk hn kk
  | 18, _ => exact law_18 htr hX hP hM hS hN hO ko hO2 ko2 hi hL hk hn kk
  | 19, _ => exact law_19 htr hX hP hM hS hN hO ko hO2 ko2 hi hL hk hn kk
  | 20, _ => exact law_20 htr hX hP hM hS hN hO ko hO2 ko2 hi hL hk hn kk
  | 21, _ => exact law_21 htr hX hP hM hS hN hO ko hO2 ko2 hi hL hk hn kk
  | 22, _ => exact law_22 htr hX hP hM hS hN hO ko hO2 ko2 hi hL hk hn kk
  | 23, _ => exact law_23 htr hX hP hM hS hN hO ko hO2 ko2 hi hL hk hn kk
  | 24, _ => exact law_24 htr hX hP hM hS hN hO ko hO2 ko2 hi hL hk hn kk
  | 25, _ => exact law_25 htr hX hP hM hS hN hO ko hO2 ko2 hi hL hk hn kk
  | 26, _ => exact law_26 htr hX hP hM hS hN hO ko hO2 ko2 hi hL hk hn kk
  | 27, _ => exact law_27 htr hX hP hM hS hN hO ko hO2 ko2 hi hL hk hn kk
  | 28, _ => exact law_28 htr hX hP hM hS hN hO ko hO2 ko2 hi hL hk hn kk
  | 29, _ => exact law_29 htr hX hP hM hS hN hO ko hO2 ko2 hi hL hk hn kk
  | 30, _ => exact law_30 htr hX hP hM hS hN hO ko hO2 ko2 hi hL hk hn kk
  | 31, _ => exact law_31 htr hX hP hM hS hN hO ko hO2 ko2 hi hL hk hn kk
  | 32, _ => exact law_32 htr hX hP hM hS hN hO ko hO2 ko2 hi hL hk hn kk
  | 33, _ => exact law_33 htr hX hP hM hS hN hO ko hO2 ko2 hi hL hk hn kk
  | 34, _ => exact law_34 htr hX hP hM hS hN hO ko hO2 ko2 hi hL hk hn kk
  | 35, _ => exact law_35 htr hX hP hM hS hN hO ko hO2 ko2 hi hL hk hn kk
  | 36, _ => exact law_36 htr hX hP hM hS hN hO ko hO2 ko2 hi hL hk hn kk
  | 37, _ => exact law_37 htr hX hP hM hS hN hO ko hO2 ko2 hi hL hk hn kk
  | 38, _ => exact law_38 htr hX hP hM hS hN hO ko hO2 ko2 hi hL hk hn kk
  | 39, _ => exact law_39 htr hX hP hM hS hN hO ko hO2 ko2 hi hL hk hn kk
  | 40, _ => exact law_40 htr hX hP hM hS hN hO ko hO2 ko2 hi hL hk hn kk
  | 41, _ => exact law_41 htr hX hP hM hS hN hO ko hO2 ko2 hi hL hk hn kk
  | 42, _ => exact law_42 htr hX hP hM hS hN hO ko hO2 ko2 hi hL hk hn kk
  | 43, _ => exact law_43 htr hX hP hM hS hN hO ko hO2 ko2 hi hL hk hn kk
  | 44, _ => exact law_44 htr hX hP hM hS hN hO ko hO2 ko2 hi hL hk hn kk
  | 45, _ => exact law_45 htr hX hP hM hS hN hO ko hO2 ko2 hi hL hk hn kk
  | 46, _ => exact law_46 htr hX hP hM hS hN hO ko hO2 ko2 hi hL hk hn kk
  | 47, _ => exact law_47 htr hX hP hM hS hN hO ko hO2 ko2 hi hL hk hn kk
  | 48, _ => exact law_48 htr hX hP hM hS hN hO ko hO2 ko2 hi hL hk hn kk
  | 49, _ => exact law_49 htr hX hP hM hS hN hO ko hO2 ko2 hi hL hk hn kk
  | 50, _ => exact law_50 htr hX hP hM hS hN hO ko hO2 ko2 hi hL hk hn kk
  | 51, _ => exact law_51 htr hX hP hM hS hN hO ko hO2 ko2 hi hL hk hn kk
  | 52, _ => exact law_52 htr hX hP hM hS hN hO ko hO2 ko2 hi hL hk hn kk
  | 53, _ => exact law_53 htr hX hP hM hS hN hO ko hO2 ko2 hi hL hk hn kk
  | 54, _ => exact law_54 htr hX hP hM hS hN hO ko hO2 ko2 hi hL hk hn kk
  | 55, _ => exact law_55 htr hX hP hM hS hN hO ko hO2 ko2 hi hL hk hn kk
  | 56, _ => exact law_56 htr hX hP hM hS hN hO ko hO2 ko2 hi hL hk hn kk
  | 57, _ => exact law_57 htr hX hP hM hS hN hO ko hO2 ko2 hi hL hk hn kk
  | 58, _ => exact law_58 htr hX hP hM hS hN hO ko hO2 ko2 hi hL hk hn kk
  | j + 59, h => exact absurd h (by omega)
set_option maxRecDepth 100000 in
theorem law_round {l : Launch} {g : Nat → Nat} {nm ds : String} {tb : List ExceptionTableEntry} {L mc ms : Nat} {Po : Res → LH → Prop} {X : CX} (htr : l.stackTraces = false) {b SN : Nat} {xs : Nat → Int32} (hX : Sc b SN xs X) (hSN : SN ≤ 3072) {p m out outD : Nat} (hL : 30 ≤ L) {N : Nat} {M : LH} {k0 n0 : Nat} {z6 z7 z8 : Option Value} (h : LI p m out outD N M) (h6 : 6 * N + 6 ≤ SN) (hk : k0 + 8 ≤ mc) (hn : n0 + 600 ≤ ms) (kk : ∀ (M' : LH) (z6 z7 z8 : Option Value), LI p m out outD (N + 1) M' → V l g ⟨"SledgePostLaw", nm, ds⟩ cL_law (some .boolean) tb L mc ms Po X M' (k0 + 8) (n0 + 600) 3320 [some (.ref b), some (.ref p), some (.ref m), some (.ref out), some (.ref outD), some (.int (nI (6 * N))), z6, z7, z8] []) : V l g ⟨"SledgePostLaw", nm, ds⟩ cL_law (some .boolean) tb L mc ms Po X M k0 n0 38 [some (.ref b), some (.ref p), some (.ref m), some (.ref out), some (.ref outD), some (.int (nI (6 * N))), z6, z7, z8] [] := by
  have e : (nI (6 * N)).toInt = ((6 * N : Nat) : Int) := nI_toInt (by omega)
  refine v_aload_n dL_law_38 rfl rfl ?_
  refine v_iload dL_law_39 rfl ?_
  refine v_sld hX dL_law_41 (i_le.mpr (by rw [i_0]; omega)) (by show (nI (6 * N)).toInt.toNat < SN; omega) ?_
  refine v_bipush (v := 63) dL_law_42 (by decide) ?_
  refine v_iand dL_law_44 ?_
  obtain ⟨j, hj, ej⟩ := and_63 (xs (nI (6 * N)).toNatClampNeg)
  rw [ej]
  have ei : (nI j).toInt = (j : Int) := nI_toInt (by omega)
  by_cases h59 : j < 59
  · refine v_tableIn (tgt := OFL.getD j 0) dL_law_45 (by rw [ei]; omega) (by rw [ei]; omega) (law_tab j h59) (by omega) ?_
    obtain ⟨kd, q, a, e8, v, sv, sa, ch, pa, tx, tn, Ls, ea, fl, w, t, bf, he, en, wr, dg, b4, fr, th, bs, li, lf, to, hP, hM, hS, ⟨⟨h0, hO⟩, ko⟩, ⟨h2, hO2⟩, ko2⟩ := h
    exact law_all htr hX hP hM hS (by omega) hO ko hO2 ko2 (ix_5 h6 hSN) hL hk hn kk j h59
  · refine v_tableOut (tgt := 3320) dL_law_45 (Or.inr (by rw [ei]; omega)) (by decide) ?_
    exact V.wid (k' := k0 + 8) (n' := n0 + 600) (by omega) (by omega) (kk _ _ _ _ h.up)
set_option maxRecDepth 100000 in
theorem law_head {l : Launch} {g : Nat → Nat} {nm ds : String} {tb : List ExceptionTableEntry} {L mc ms : Nat} {Po : Res → LH → Prop} {X : CX} (htr : l.stackTraces = false) {b SN : Nat} {xs : Nat → Int32} (hX : Sc b SN xs X) (hSN : SN ≤ 3072) {p m out outD : Nat} (hL : 30 ≤ L) (hPo : ∀ M : LH, Po (.inl (some (.int 1))) M) {N : Nat} (hN : N ≤ 512) {M : LH} {k0 n0 : Nat} {z6 z7 z8 : Option Value} (hk : k0 ≤ mc) (hn : n0 ≤ ms) (go : 6 * N + 6 ≤ SN → V l g ⟨"SledgePostLaw", nm, ds⟩ cL_law (some .boolean) tb L mc ms Po X M k0 n0 38 [some (.ref b), some (.ref p), some (.ref m), some (.ref out), some (.ref outD), some (.int (nI (6 * N))), z6, z7, z8] []) : V l g ⟨"SledgePostLaw", nm, ds⟩ cL_law (some .boolean) tb L mc ms Po X M k0 n0 28 [some (.ref b), some (.ref p), some (.ref m), some (.ref out), some (.ref outD), some (.int (nI (6 * N))), z6, z7, z8] [] := by
  have e : (nI (6 * N)).toInt = ((6 * N : Nat) : Int) := nI_toInt (by omega)
  have e2 : (nI SN).toInt = (SN : Int) := nI_toInt (by omega)
  have e3 : ((6 : Int32).toInt) = 6 := rfl
  have e4 : (nI SN - 6).toInt = (nI SN).toInt - (6 : Int32).toInt := i_sub (by omega) (by omega)
  refine v_iload dL_law_28 rfl ?_
  refine v_aload_n dL_law_30 rfl rfl ?_
  refine v_slen hX dL_law_31 ?_
  refine v_bipush (v := 6) dL_law_32 (by decide) ?_
  refine v_isub dL_law_34 ?_
  refine v_icmp_gt (tgt := 3326) dL_law_35 (by decide) (fun h => ?_) (fun h => ?_)
  · refine v_iconst (v := 1) dL_law_3326 (by decide) ?_
    exact v_zret dL_law_3327 rfl rfl (hPo _) hk hn
  · refine go ?_
    have h2 := i_le.mp (Int32.not_lt.mp h)
    omega
set_option maxRecDepth 100000 in
theorem law_loop {l : Launch} {g : Nat → Nat} {nm ds : String} {tb : List ExceptionTableEntry} {L mc ms : Nat} {Po : Res → LH → Prop} {X : CX} (htr : l.stackTraces = false) {b SN : Nat} {xs : Nat → Int32} (hX : Sc b SN xs X) (hSN : SN ≤ 3072) {p m out outD : Nat} (hL : 30 ≤ L) (hPo : ∀ M : LH, Po (.inl (some (.int 1))) M) : ∀ (d N : Nat), N + d = 512 → ∀ (M : LH) (k0 n0 : Nat) (z6 z7 z8 : Option Value), LI p m out outD N M → k0 + 8 * d ≤ mc → n0 + 600 * d ≤ ms → V l g ⟨"SledgePostLaw", nm, ds⟩ cL_law (some .boolean) tb L mc ms Po X M k0 n0 28 [some (.ref b), some (.ref p), some (.ref m), some (.ref out), some (.ref outD), some (.int (nI (6 * N))), z6, z7, z8] [] := by
  intro d
  induction d with
  | zero =>
    intro N hN M k0 n0 z6 z7 z8 h hk hn
    exact law_head htr hX hSN hL hPo (p := p) (m := m) (out := out) (outD := outD) (by omega) (by omega) (by omega) (fun z => absurd z (by omega))
  | succ d ih =>
    intro N hN M k0 n0 z6 z7 z8 h hk hn
    refine law_head htr hX hSN hL hPo (p := p) (m := m) (out := out) (outD := outD) (by omega) (by omega) (by omega) (fun z => ?_)
    refine law_round htr hX hSN hL h z (by omega) (by omega) (fun M' z6 z7 z8 h2 => ?_)
    refine v_iinc_5 dL_law_3320 ix_6 ?_
    refine v_goto (tgt := 28) dL_law_3323 (by decide) ?_
    exact ih (N + 1) (by omega) M' _ _ _ _ _ h2 (by omega) (by omega)
