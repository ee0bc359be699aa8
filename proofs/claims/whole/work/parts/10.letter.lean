/-! ===== the state: words for it ===== -/
def lt (σ : Int32 → Int32) (i w : Int32) : Int32 := σ (66 + 7 * i + w)
def sd (σ : Int32 → Int32) (k w : Int32) : Int32 := σ (57 + 3 * k + w)
def rd (σ : Int32 → Int32) (a b : Int32) : Int32 := σ (8 + 7 * a + b)
/-- the sum of f 0 .. f (n - 1) -/
def sumN (f : Int32 → Int32) : Nat → Int32
  | 0 => 0
  | j + 1 => sumN f j + f (nI j)
def sumU (f : Int32 → Int32) (n : Int32) : Int32 := sumN f n.toNatClampNeg
theorem tc_0 : (0 : Int32).toNatClampNeg = 0 := rfl
theorem tc_1 {i n : Int32} (h0 : 0 ≤ i) (h1 : i < n) : (i + 1).toNatClampNeg = i.toNatClampNeg + 1 := by
  have a0 : (0 : Int) ≤ i.toInt := by simpa using Int32.le_iff_toInt_le.mp h0
  have a1 := Int32.lt_iff_toInt_lt.mp h1
  have a2 : n.toInt < 2 ^ 31 := Int32.toInt_lt n
  have a3 : i = nI i.toNatClampNeg := (tc_nI h0).symm
  have a4 : i.toNatClampNeg + 1 < 2 ^ 31 := by
    show i.toInt.toNat + 1 < 2 ^ 31
    omega
  rw [a3, nI_1, nI_clamp a4, nI_clamp (by omega)]
theorem sumU_0 (f : Int32 → Int32) : sumU f 0 = 0 := rfl
theorem sumU_1 {f : Int32 → Int32} {i n : Int32} (h0 : 0 ≤ i) (h1 : i < n) : sumU f (i + 1) = sumU f i + f i := by
  unfold sumU
  rw [tc_1 h0 h1]
  show sumN f i.toNatClampNeg + f (nI i.toNatClampNeg) = _
  rw [tc_nI h0]
/-- going up to n -/
theorem up_to {P : Int32 → Prop} (n : Int32) (he : P n) (hs : ∀ i, 0 ≤ i → i < n → P (i + 1) → P i) : ∀ i, 0 ≤ i → i ≤ n → P i := by
  have key : ∀ (d : Nat) (i : Int32), 0 ≤ i → i ≤ n → n.toNatClampNeg - i.toNatClampNeg = d → P i := by
    intro d
    induction d with
    | zero =>
      intro i h0 h1 hd
      have a0 : (0 : Int) ≤ i.toInt := by simpa using Int32.le_iff_toInt_le.mp h0
      have a1 := Int32.le_iff_toInt_le.mp h1
      have hd2 : n.toInt.toNat - i.toInt.toNat = 0 := hd
      have : i = n := Int32.toInt_inj.mp (by omega)
      rw [this]; exact he
    | succ d ih =>
      intro i h0 h1 hd
      have a0 : (0 : Int) ≤ i.toInt := by simpa using Int32.le_iff_toInt_le.mp h0
      have a1 := Int32.le_iff_toInt_le.mp h1
      have hd2 : n.toInt.toNat - i.toInt.toNat = d + 1 := hd
      have hlt : i < n := Int32.lt_iff_toInt_lt.mpr (by omega)
      refine hs i h0 hlt (ih (i + 1) (by lia) (by lia) ?_)
      rw [tc_1 h0 hlt]
      omega
  exact fun i h0 h1 => key _ i h0 h1 rfl
def loadOn (σ : Int32 → Int32) (k : Int32) : Int32 := sumU (fun i => if lt σ i 6 = 10 + k then lt σ i 2 else 0) (σ 7)

/-- a code, of an id and a destination -/
def codeN (i d : Int32) : Int32 := 100 * (10 * i + d) + 98 - (100 * (10 * i + d) - 100 * (10 * i + d) / 97 * 97)
theorem dX5_waits_0 : decode cX5_waits 0 = .ok (.aload_n 0, 1) := by decide +kernel
theorem dX5_waits_1 : decode cX5_waits 1 = .ok (.getfield 30, 3) := by decide +kernel
theorem dX5_waits_4 : decode cX5_waits 4 = .ok (.iconst (-1), 1) := by decide +kernel
theorem dX5_waits_5 : decode cX5_waits 5 = .ok (.if_icmp .ne 7, 3) := by decide +kernel
theorem dX5_waits_8 : decode cX5_waits 8 = .ok (.iconst 1, 1) := by decide +kernel
theorem dX5_waits_9 : decode cX5_waits 9 = .ok (.goto 4, 3) := by decide +kernel
theorem dX5_waits_12 : decode cX5_waits 12 = .ok (.iconst 0, 1) := by decide +kernel
theorem dX5_waits_13 : decode cX5_waits 13 = .ok (.ireturn, 1) := by decide +kernel
set_option maxRecDepth 100000 in
theorem c_waits {l : Launch} {g : Nat → Nat} {M : LH} (htr : l.stackTraces = false) {a : Nat} {f0 f1 f2 f3 f4 f5 f6 f7 : Int32} (h : M a = some (ob 4 [.int f0, .int f1, .int f2, .int f3, .int f4, .int f5, .int f6, .int f7])) : K_X5_waits l g 0 0 0 [.ref a] M (RI (fun v M9 => v = (if f6 = -1 then 1 else 0) ∧ M9 = M) nX) := by
  refine Ko_X5_waits htr (fun X => ?_)
  refine v_aload_n dX5_waits_0 rfl rfl ?_
  refine gf_X5_30 dX5_waits_1 rfl (by assumption) ?_
  refine v_iconst (v := (-1)) dX5_waits_4 (by decide) ?_
  refine v_icmp_ne (tgt := 12) dX5_waits_5 (by decide) (fun h5 => ?_) (fun h5 => ?_)
  · refine v_iconst (v := 0) dX5_waits_12 (by decide) ?_
    exact v_zret dX5_waits_13 rfl (by first | rfl | assumption) ⟨by grind, rfl⟩ (by omega) (by omega)
  · refine v_iconst (v := 1) dX5_waits_8 (by decide) ?_
    refine v_goto (tgt := 13) dX5_waits_9 (by decide) ?_
    exact v_zret dX5_waits_13 rfl (by first | rfl | assumption) ⟨by grind, rfl⟩ (by omega) (by omega)
theorem dX5_thawed_0 : decode cX5_thawed 0 = .ok (.aload_n 0, 1) := by decide +kernel
theorem dX5_thawed_1 : decode cX5_thawed 1 = .ok (.getfield 27, 3) := by decide +kernel
theorem dX5_thawed_4 : decode cX5_thawed 4 = .ok (.ifCond .ne 7, 3) := by decide +kernel
theorem dX5_thawed_7 : decode cX5_thawed 7 = .ok (.iconst 1, 1) := by decide +kernel
theorem dX5_thawed_8 : decode cX5_thawed 8 = .ok (.goto 4, 3) := by decide +kernel
theorem dX5_thawed_11 : decode cX5_thawed 11 = .ok (.iconst 0, 1) := by decide +kernel
theorem dX5_thawed_12 : decode cX5_thawed 12 = .ok (.ireturn, 1) := by decide +kernel
set_option maxRecDepth 100000 in
theorem c_thawed {l : Launch} {g : Nat → Nat} {M : LH} (htr : l.stackTraces = false) {a : Nat} {f0 f1 f2 f3 f4 f5 f6 f7 : Int32} (h : M a = some (ob 4 [.int f0, .int f1, .int f2, .int f3, .int f4, .int f5, .int f6, .int f7])) : K_X5_thawed l g 0 0 0 [.ref a] M (RI (fun v M9 => v = (if f5 = 0 then 1 else 0) ∧ M9 = M) nX) := by
  refine Ko_X5_thawed htr (fun X => ?_)
  refine v_aload_n dX5_thawed_0 rfl rfl ?_
  refine gf_X5_27 dX5_thawed_1 rfl (by assumption) ?_
  refine v_if_ne (tgt := 11) dX5_thawed_4 (by decide) (fun h4 => ?_) (fun h4 => ?_)
  · refine v_iconst (v := 0) dX5_thawed_11 (by decide) ?_
    exact v_zret dX5_thawed_12 rfl (by first | rfl | assumption) ⟨by grind, rfl⟩ (by omega) (by omega)
  · refine v_iconst (v := 1) dX5_thawed_7 (by decide) ?_
    refine v_goto (tgt := 12) dX5_thawed_8 (by decide) ?_
    exact v_zret dX5_thawed_12 rfl (by first | rfl | assumption) ⟨by grind, rfl⟩ (by omega) (by omega)
theorem dX5_waitsAt_0 : decode cX5_waitsAt 0 = .ok (.aload_n 0, 1) := by decide +kernel
theorem dX5_waitsAt_1 : decode cX5_waitsAt 1 = .ok (.invokevirtual 36, 3) := by decide +kernel
theorem dX5_waitsAt_4 : decode cX5_waitsAt 4 = .ok (.ifCond .eq 15, 3) := by decide +kernel
theorem dX5_waitsAt_7 : decode cX5_waitsAt 7 = .ok (.aload_n 0, 1) := by decide +kernel
theorem dX5_waitsAt_8 : decode cX5_waitsAt 8 = .ok (.getfield 33, 3) := by decide +kernel
theorem dX5_waitsAt_11 : decode cX5_waitsAt 11 = .ok (.iload_n 1, 1) := by decide +kernel
theorem dX5_waitsAt_12 : decode cX5_waitsAt 12 = .ok (.if_icmp .ne 7, 3) := by decide +kernel
theorem dX5_waitsAt_15 : decode cX5_waitsAt 15 = .ok (.iconst 1, 1) := by decide +kernel
theorem dX5_waitsAt_16 : decode cX5_waitsAt 16 = .ok (.goto 4, 3) := by decide +kernel
theorem dX5_waitsAt_19 : decode cX5_waitsAt 19 = .ok (.iconst 0, 1) := by decide +kernel
theorem dX5_waitsAt_20 : decode cX5_waitsAt 20 = .ok (.ireturn, 1) := by decide +kernel
set_option maxRecDepth 100000 in
theorem c_waitsAt {l : Launch} {g : Nat → Nat} {M : LH} (htr : l.stackTraces = false) {a : Nat} {f0 f1 f2 f3 f4 f5 f6 f7 : Int32} (h : M a = some (ob 4 [.int f0, .int f1, .int f2, .int f3, .int f4, .int f5, .int f6, .int f7])) (p : Int32) : K_X5_waitsAt l g 1 0 0 [.ref a, .int p] M (RI (fun v M9 => v = (if f6 = -1 ∧ f7 = p then 1 else 0) ∧ M9 = M) nX) := by
  refine Ko_X5_waitsAt htr (fun X => ?_)
  refine v_aload_n dX5_waitsAt_0 rfl rfl ?_
  refine k_X5_36 dX5_waitsAt_1 rfl (c_waits htr (by assumption)) (by assumption) (Nat.le_of_ble_eq_true rfl) (by omega) (by omega) (Nat.le_of_ble_eq_true rfl) (fun r1 M9 h9 => ?_) (fun _ _ h9 => h9.elim)
  obtain ⟨rfl, rfl⟩ := h9
  refine v_if_eq (tgt := 19) dX5_waitsAt_4 (by decide) (fun h4 => ?_) (fun h4 => ?_)
  · refine v_iconst (v := 0) dX5_waitsAt_19 (by decide) ?_
    exact v_zret dX5_waitsAt_20 rfl (by first | rfl | assumption) ⟨by grind, rfl⟩ (by omega) (by omega)
  · refine v_aload_n dX5_waitsAt_7 rfl rfl ?_
    refine gf_X5_33 dX5_waitsAt_8 rfl (by assumption) ?_
    refine v_iload_n dX5_waitsAt_11 rfl rfl ?_
    refine v_icmp_ne (tgt := 19) dX5_waitsAt_12 (by decide) (fun h12 => ?_) (fun h12 => ?_)
    · refine v_iconst (v := 0) dX5_waitsAt_19 (by decide) ?_
      exact v_zret dX5_waitsAt_20 rfl (by first | rfl | assumption) ⟨by grind, rfl⟩ (by omega) (by omega)
    · refine v_iconst (v := 1) dX5_waitsAt_15 (by decide) ?_
      refine v_goto (tgt := 20) dX5_waitsAt_16 (by decide) ?_
      exact v_zret dX5_waitsAt_20 rfl (by first | rfl | assumption) ⟨by grind, rfl⟩ (by omega) (by omega)
theorem dX5_code_0 : decode cX5_code 0 = .ok (.bipush 100, 2) := by decide +kernel
theorem dX5_code_2 : decode cX5_code 2 = .ok (.bipush 10, 2) := by decide +kernel
theorem dX5_code_4 : decode cX5_code 4 = .ok (.aload_n 0, 1) := by decide +kernel
theorem dX5_code_5 : decode cX5_code 5 = .ok (.getfield 9, 3) := by decide +kernel
theorem dX5_code_8 : decode cX5_code 8 = .ok (.imul, 1) := by decide +kernel
theorem dX5_code_9 : decode cX5_code 9 = .ok (.aload_n 0, 1) := by decide +kernel
theorem dX5_code_10 : decode cX5_code 10 = .ok (.getfield 15, 3) := by decide +kernel
theorem dX5_code_13 : decode cX5_code 13 = .ok (.iadd, 1) := by decide +kernel
theorem dX5_code_14 : decode cX5_code 14 = .ok (.imul, 1) := by decide +kernel
theorem dX5_code_15 : decode cX5_code 15 = .ok (.istore_n 1, 1) := by decide +kernel
theorem dX5_code_16 : decode cX5_code 16 = .ok (.iload_n 1, 1) := by decide +kernel
theorem dX5_code_17 : decode cX5_code 17 = .ok (.bipush 98, 2) := by decide +kernel
theorem dX5_code_19 : decode cX5_code 19 = .ok (.iadd, 1) := by decide +kernel
theorem dX5_code_20 : decode cX5_code 20 = .ok (.iload_n 1, 1) := by decide +kernel
theorem dX5_code_21 : decode cX5_code 21 = .ok (.bipush 97, 2) := by decide +kernel
theorem dX5_code_23 : decode cX5_code 23 = .ok (.irem, 1) := by decide +kernel
theorem dX5_code_24 : decode cX5_code 24 = .ok (.isub, 1) := by decide +kernel
theorem dX5_code_25 : decode cX5_code 25 = .ok (.ireturn, 1) := by decide +kernel
set_option maxRecDepth 100000 in
theorem c_code {l : Launch} {g : Nat → Nat} {M : LH} (htr : l.stackTraces = false) {a : Nat} {f0 f1 f2 f3 f4 f5 f6 f7 : Int32} (h : M a = some (ob 4 [.int f0, .int f1, .int f2, .int f3, .int f4, .int f5, .int f6, .int f7])) : K_X5_code l g 0 0 0 [.ref a] M (RI (fun v M9 => v = codeN f0 f1 ∧ M9 = M) nX) := by
  refine Ko_X5_code htr (fun X => ?_)
  refine v_bipush (v := (100)) dX5_code_0 (by decide) ?_
  refine v_bipush (v := (10)) dX5_code_2 (by decide) ?_
  refine v_aload_n dX5_code_4 rfl rfl ?_
  refine gf_X5_9 dX5_code_5 rfl (by assumption) ?_
  refine v_imul dX5_code_8 ?_
  refine v_aload_n dX5_code_9 rfl rfl ?_
  refine gf_X5_15 dX5_code_10 rfl (by assumption) ?_
  refine v_iadd dX5_code_13 ?_
  refine v_imul dX5_code_14 ?_
  refine v_istore_1 dX5_code_15 ?_
  refine v_iload_n dX5_code_16 rfl rfl ?_
  refine v_bipush (v := (98)) dX5_code_17 (by decide) ?_
  refine v_iadd dX5_code_19 ?_
  refine v_iload_n dX5_code_20 rfl rfl ?_
  refine v_bipush (v := (97)) dX5_code_21 (by decide) ?_
  refine v_irem dX5_code_23 (by decide) ?_
  refine v_isub dX5_code_24 ?_
  exact v_iret dX5_code_25 rfl ⟨rfl, rfl⟩ (by omega) (by omega)
theorem dX8_travels_0 : decode cX8_travels 0 = .ok (.aload_n 0, 1) := by decide +kernel
theorem dX8_travels_1 : decode cX8_travels 1 = .ok (.getfield 16, 3) := by decide +kernel
theorem dX8_travels_4 : decode cX8_travels 4 = .ok (.ifCond .le 7, 3) := by decide +kernel
theorem dX8_travels_7 : decode cX8_travels 7 = .ok (.iconst 1, 1) := by decide +kernel
theorem dX8_travels_8 : decode cX8_travels 8 = .ok (.goto 4, 3) := by decide +kernel
theorem dX8_travels_11 : decode cX8_travels 11 = .ok (.iconst 0, 1) := by decide +kernel
theorem dX8_travels_12 : decode cX8_travels 12 = .ok (.ireturn, 1) := by decide +kernel
set_option maxRecDepth 100000 in
theorem c_travels {l : Launch} {g : Nat → Nat} {M : LH} (htr : l.stackTraces = false) {a : Nat} {s0 s1 s2 : Int32} (h : M a = some (ob 7 [.int s0, .int s1, .int s2])) : K_X8_travels l g 0 0 0 [.ref a] M (RI (fun v M9 => v = (if 0 < s2 then 1 else 0) ∧ M9 = M) nX) := by
  refine Ko_X8_travels htr (fun X => ?_)
  refine v_aload_n dX8_travels_0 rfl rfl ?_
  refine gf_X8_16 dX8_travels_1 rfl (by assumption) ?_
  refine v_if_le (tgt := 11) dX8_travels_4 (by decide) (fun h4 => ?_) (fun h4 => ?_)
  · refine v_iconst (v := 0) dX8_travels_11 (by decide) ?_
    exact v_zret dX8_travels_12 rfl (by first | rfl | assumption) ⟨by grind, rfl⟩ (by omega) (by omega)
  · refine v_iconst (v := 1) dX8_travels_7 (by decide) ?_
    refine v_goto (tgt := 12) dX8_travels_8 (by decide) ?_
    exact v_zret dX8_travels_12 rfl (by first | rfl | assumption) ⟨by grind, rfl⟩ (by omega) (by omega)
theorem dX5_ranksBefore_0 : decode cX5_ranksBefore 0 = .ok (.aload_n 0, 1) := by decide +kernel
theorem dX5_ranksBefore_1 : decode cX5_ranksBefore 1 = .ok (.getfield 21, 3) := by decide +kernel
theorem dX5_ranksBefore_4 : decode cX5_ranksBefore 4 = .ok (.aload_n 1, 1) := by decide +kernel
theorem dX5_ranksBefore_5 : decode cX5_ranksBefore 5 = .ok (.getfield 21, 3) := by decide +kernel
theorem dX5_ranksBefore_8 : decode cX5_ranksBefore 8 = .ok (.if_icmp .eq 20, 3) := by decide +kernel
theorem dX5_ranksBefore_11 : decode cX5_ranksBefore 11 = .ok (.aload_n 0, 1) := by decide +kernel
theorem dX5_ranksBefore_12 : decode cX5_ranksBefore 12 = .ok (.getfield 21, 3) := by decide +kernel
theorem dX5_ranksBefore_15 : decode cX5_ranksBefore 15 = .ok (.aload_n 1, 1) := by decide +kernel
theorem dX5_ranksBefore_16 : decode cX5_ranksBefore 16 = .ok (.getfield 21, 3) := by decide +kernel
theorem dX5_ranksBefore_19 : decode cX5_ranksBefore 19 = .ok (.if_icmp .le 7, 3) := by decide +kernel
theorem dX5_ranksBefore_22 : decode cX5_ranksBefore 22 = .ok (.iconst 1, 1) := by decide +kernel
theorem dX5_ranksBefore_23 : decode cX5_ranksBefore 23 = .ok (.goto 4, 3) := by decide +kernel
theorem dX5_ranksBefore_26 : decode cX5_ranksBefore 26 = .ok (.iconst 0, 1) := by decide +kernel
theorem dX5_ranksBefore_27 : decode cX5_ranksBefore 27 = .ok (.ireturn, 1) := by decide +kernel
theorem dX5_ranksBefore_28 : decode cX5_ranksBefore 28 = .ok (.aload_n 0, 1) := by decide +kernel
theorem dX5_ranksBefore_29 : decode cX5_ranksBefore 29 = .ok (.getfield 18, 3) := by decide +kernel
theorem dX5_ranksBefore_32 : decode cX5_ranksBefore 32 = .ok (.aload_n 1, 1) := by decide +kernel
theorem dX5_ranksBefore_33 : decode cX5_ranksBefore 33 = .ok (.getfield 18, 3) := by decide +kernel
theorem dX5_ranksBefore_36 : decode cX5_ranksBefore 36 = .ok (.if_icmp .eq 20, 3) := by decide +kernel
theorem dX5_ranksBefore_39 : decode cX5_ranksBefore 39 = .ok (.aload_n 0, 1) := by decide +kernel
theorem dX5_ranksBefore_40 : decode cX5_ranksBefore 40 = .ok (.getfield 18, 3) := by decide +kernel
theorem dX5_ranksBefore_43 : decode cX5_ranksBefore 43 = .ok (.aload_n 1, 1) := by decide +kernel
theorem dX5_ranksBefore_44 : decode cX5_ranksBefore 44 = .ok (.getfield 18, 3) := by decide +kernel
theorem dX5_ranksBefore_47 : decode cX5_ranksBefore 47 = .ok (.if_icmp .ge 7, 3) := by decide +kernel
theorem dX5_ranksBefore_50 : decode cX5_ranksBefore 50 = .ok (.iconst 1, 1) := by decide +kernel
theorem dX5_ranksBefore_51 : decode cX5_ranksBefore 51 = .ok (.goto 4, 3) := by decide +kernel
theorem dX5_ranksBefore_54 : decode cX5_ranksBefore 54 = .ok (.iconst 0, 1) := by decide +kernel
theorem dX5_ranksBefore_55 : decode cX5_ranksBefore 55 = .ok (.ireturn, 1) := by decide +kernel
theorem dX5_ranksBefore_56 : decode cX5_ranksBefore 56 = .ok (.aload_n 0, 1) := by decide +kernel
theorem dX5_ranksBefore_57 : decode cX5_ranksBefore 57 = .ok (.getfield 9, 3) := by decide +kernel
theorem dX5_ranksBefore_60 : decode cX5_ranksBefore 60 = .ok (.aload_n 1, 1) := by decide +kernel
theorem dX5_ranksBefore_61 : decode cX5_ranksBefore 61 = .ok (.getfield 9, 3) := by decide +kernel
theorem dX5_ranksBefore_64 : decode cX5_ranksBefore 64 = .ok (.if_icmp .ge 7, 3) := by decide +kernel
theorem dX5_ranksBefore_67 : decode cX5_ranksBefore 67 = .ok (.iconst 1, 1) := by decide +kernel
theorem dX5_ranksBefore_68 : decode cX5_ranksBefore 68 = .ok (.goto 4, 3) := by decide +kernel
theorem dX5_ranksBefore_71 : decode cX5_ranksBefore 71 = .ok (.iconst 0, 1) := by decide +kernel
theorem dX5_ranksBefore_72 : decode cX5_ranksBefore 72 = .ok (.ireturn, 1) := by decide +kernel
set_option maxRecDepth 100000 in
theorem c_ranksBefore {l : Launch} {g : Nat → Nat} {M : LH} (htr : l.stackTraces = false) {a b : Nat} {f0 f1 f2 f3 f4 f5 f6 f7 : Int32} {e0 e1 e2 e3 e4 e5 e6 e7 : Int32} (h : M a = some (ob 4 [.int f0, .int f1, .int f2, .int f3, .int f4, .int f5, .int f6, .int f7])) (h2 : M b = some (ob 4 [.int e0, .int e1, .int e2, .int e3, .int e4, .int e5, .int e6, .int e7])) : K_X5_ranksBefore l g 0 0 0 [.ref a, .ref b] M (RI (fun v M9 => v = (if (if f3 = e3 then (if f2 = e2 then f0 < e0 else f2 < e2) else e3 < f3) then 1 else 0) ∧ M9 = M) nX) := by
  refine Ko_X5_ranksBefore htr (fun X => ?_)
  refine v_aload_n dX5_ranksBefore_0 rfl rfl ?_
  refine gf_X5_21 dX5_ranksBefore_1 rfl (by assumption) ?_
  refine v_aload_n dX5_ranksBefore_4 rfl rfl ?_
  refine gf_X5_21 dX5_ranksBefore_5 rfl (by assumption) ?_
  refine v_icmp_eq (tgt := 28) dX5_ranksBefore_8 (by decide) (fun h8 => ?_) (fun h8 => ?_)
  · refine v_aload_n dX5_ranksBefore_28 rfl rfl ?_
    refine gf_X5_18 dX5_ranksBefore_29 rfl (by assumption) ?_
    refine v_aload_n dX5_ranksBefore_32 rfl rfl ?_
    refine gf_X5_18 dX5_ranksBefore_33 rfl (by assumption) ?_
    refine v_icmp_eq (tgt := 56) dX5_ranksBefore_36 (by decide) (fun h36 => ?_) (fun h36 => ?_)
    · refine v_aload_n dX5_ranksBefore_56 rfl rfl ?_
      refine gf_X5_9 dX5_ranksBefore_57 rfl (by assumption) ?_
      refine v_aload_n dX5_ranksBefore_60 rfl rfl ?_
      refine gf_X5_9 dX5_ranksBefore_61 rfl (by assumption) ?_
      refine v_icmp_ge (tgt := 71) dX5_ranksBefore_64 (by decide) (fun h64 => ?_) (fun h64 => ?_)
      · refine v_iconst (v := 0) dX5_ranksBefore_71 (by decide) ?_
        exact v_zret dX5_ranksBefore_72 rfl (by first | rfl | assumption) ⟨by grind, rfl⟩ (by omega) (by omega)
      · refine v_iconst (v := 1) dX5_ranksBefore_67 (by decide) ?_
        refine v_goto (tgt := 72) dX5_ranksBefore_68 (by decide) ?_
        exact v_zret dX5_ranksBefore_72 rfl (by first | rfl | assumption) ⟨by grind, rfl⟩ (by omega) (by omega)
    · refine v_aload_n dX5_ranksBefore_39 rfl rfl ?_
      refine gf_X5_18 dX5_ranksBefore_40 rfl (by assumption) ?_
      refine v_aload_n dX5_ranksBefore_43 rfl rfl ?_
      refine gf_X5_18 dX5_ranksBefore_44 rfl (by assumption) ?_
      refine v_icmp_ge (tgt := 54) dX5_ranksBefore_47 (by decide) (fun h47 => ?_) (fun h47 => ?_)
      · refine v_iconst (v := 0) dX5_ranksBefore_54 (by decide) ?_
        exact v_zret dX5_ranksBefore_55 rfl (by first | rfl | assumption) ⟨by grind, rfl⟩ (by omega) (by omega)
      · refine v_iconst (v := 1) dX5_ranksBefore_50 (by decide) ?_
        refine v_goto (tgt := 55) dX5_ranksBefore_51 (by decide) ?_
        exact v_zret dX5_ranksBefore_55 rfl (by first | rfl | assumption) ⟨by grind, rfl⟩ (by omega) (by omega)
  · refine v_aload_n dX5_ranksBefore_11 rfl rfl ?_
    refine gf_X5_21 dX5_ranksBefore_12 rfl (by assumption) ?_
    refine v_aload_n dX5_ranksBefore_15 rfl rfl ?_
    refine gf_X5_21 dX5_ranksBefore_16 rfl (by assumption) ?_
    refine v_icmp_le (tgt := 26) dX5_ranksBefore_19 (by decide) (fun h19 => ?_) (fun h19 => ?_)
    · refine v_iconst (v := 0) dX5_ranksBefore_26 (by decide) ?_
      exact v_zret dX5_ranksBefore_27 rfl (by first | rfl | assumption) ⟨by grind, rfl⟩ (by omega) (by omega)
    · refine v_iconst (v := 1) dX5_ranksBefore_22 (by decide) ?_
      refine v_goto (tgt := 27) dX5_ranksBefore_23 (by decide) ?_
      exact v_zret dX5_ranksBefore_27 rfl (by first | rfl | assumption) ⟨by grind, rfl⟩ (by omega) (by omega)
