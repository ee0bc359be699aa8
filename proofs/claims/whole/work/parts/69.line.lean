/-! ===== the reference: a line is written ===== -/
/-- the last k decimal signs of n -/
def dgs (n : Nat) : Nat → List Int32
  | 0 => []
  | k + 1 => nI (48 + n / 10 ^ k % 10) :: dgs n k
theorem dgs_len {n : Nat} : ∀ k, (dgs n k).length = k := by
  intro k
  induction k with
  | zero => rfl
  | succ k ih => exact congrArg (· + 1) ih
/-- n has k decimal signs -/
def DL (n k : Nat) : Prop := n < 10 ^ k ∧ 1 ≤ k ∧ (k = 1 ∨ 10 ^ (k - 1) ≤ n)
theorem DL.uniq {n k l : Nat} (h : DL n k) (h2 : DL n l) : k = l := by
  have key : ∀ k l, DL n k → DL n l → ¬ k < l := by
    intro k l h h2 hlt
    obtain ⟨a1, a2, a3⟩ := h
    obtain ⟨b1, b2, b3⟩ := h2
    rcases b3 with b | b
    · omega
    · have := Nat.pow_le_pow_right (n := 10) (by decide) (show k ≤ l - 1 by omega)
      omega
  have a := key k l h h2
  have b := key l k h2 h
  omega
theorem nI_div {a b : Nat} (ha : a < 2147483648) (hb : b < 2147483648) : nI a / nI b = nI (a / b) := by
  have hd : a / b ≤ a := Nat.div_le_self a b
  refine Int32.toInt_inj.mp ?_
  rw [Int32.toInt_div, nI_toInt (by omega), nI_toInt (by omega), nI_toInt (by omega), ← Int.ofNat_tdiv]
  generalize a / b = q at *
  exact Int.bmod_eq_of_le (by omega) (by omega)
theorem nI_rem10 {a : Nat} (ha : a < 2147483648) : nI a - nI a / 10 * 10 = nI (a % 10) := by
  have e : nI a / 10 = nI (a / 10) := nI_div (b := 10) ha (by decide)
  rw [e]
  have e10 : (10 : Int32).toInt = 10 := rfl
  have t1 : (nI (a / 10)).toInt = ((a / 10 : Nat) : Int) := nI_toInt (by omega)
  have m : (nI (a / 10) * 10).toInt = ((a / 10 : Nat) : Int) * 10 := by
    rw [i_mul] <;> rw [t1, e10] <;> omega
  refine Int32.toInt_inj.mp ?_
  rw [i_sub] <;> rw [m, nI_toInt (by omega)]
  · rw [nI_toInt (by omega)]
    omega
  · omega
  · omega
theorem nJ_add {a b : Nat} (h : a + b < 2147483648) : nI a + nI b = nI (a + b) := by
  refine Int32.toInt_inj.mp ?_
  rw [i_add] <;> rw [nI_toInt (by omega), nI_toInt (by omega)]
  · rw [nI_toInt (by omega)]
    omega
  · omega
  · omega
theorem nJ_le {a b : Nat} (ha : a < 2147483648) (hb : b < 2147483648) : nI a ≤ nI b ↔ a ≤ b := by
  rw [i_le, nI_toInt (by omega), nI_toInt (by omega)]
  omega
theorem nJ_lt {a b : Nat} (ha : a < 2147483648) (hb : b < 2147483648) : nI a < nI b ↔ a < b := by
  rw [i_lt, nI_toInt (by omega), nI_toInt (by omega)]
  omega
def tenI : Nat → Int32
  | 0 => 0
  | q + 1 => nI (10 ^ q)
theorem ten_up : ∀ j, j < 6 → nI (10 ^ j) * 10 = nI (10 ^ (j + 1)) := by decide
theorem ten_dn : ∀ q, q < 7 → nI (10 ^ q) / 10 = tenI q := by decide
theorem ten_b : ∀ q, q < 7 → 10 ^ q < 2147483648 ∧ 0 < 10 ^ q := by decide
theorem ten_nz : ∀ q, q < 7 → ¬ nI (10 ^ q) = 0 := by decide
theorem ten_pos : ∀ q, q < 7 → ¬ nI (10 ^ q) ≤ 0 := by decide
theorem Tl.snoc {f : Int32 → Int32} {L : List Int32} {s : Int32} (h : Tl f L) (hl : L.length < 2147483648) : Tl (ui f (nI L.length) s) (L ++ [s]) := by
  intro j hj
  rw [List.length_append, show ([s] : List Int32).length = 1 from rfl] at hj
  by_cases e : j = L.length
  · rw [e, ui_s, List.getD_eq_getElem?_getD, List.getElem?_append_right (Nat.le_refl _), Nat.sub_self]
    rfl
  · have hj2 : j < L.length := by omega
    rw [ui_n (fun z => e (by
      have := congrArg Int32.toNatClampNeg z
      rwa [nI_clamp (by omega), nI_clamp (by omega)] at this)), h j hj2, List.getD_eq_getElem?_getD, List.getD_eq_getElem?_getD, List.getElem?_append_left hj2]
def dl6 (n : Nat) : Nat := if n < 10 then 1 else if n < 100 then 2 else if n < 1000 then 3 else if n < 10000 then 4 else if n < 100000 then 5 else 6
theorem dl6_DL {n : Nat} (h : n < 1000000) : DL n (dl6 n) := by
  unfold dl6 DL
  (repeat' split) <;> refine ⟨by omega, by omega, ?_⟩ <;> first | exact Or.inl rfl | (right; show _ ≤ n; omega)
theorem dl6_le {n : Nat} : dl6 n ≤ 6 := by
  unfold dl6
  (repeat' split) <;> omega
/-- the decimal signs of a number -/
def num (z : Int32) : List Int32 := dgs z.toNatClampNeg (dl6 z.toNatClampNeg)
theorem num_len (z : Int32) : (num z).length ≤ 6 := by
  unfold num
  rw [dgs_len]
  exact dl6_le
theorem num_nI {x k : Nat} (hx : x < 1000000) (h : DL x k) : dgs x k = num (nI x) := by
  unfold num
  rw [nI_clamp (by omega), DL.uniq h (dl6_DL hx)]
theorem tc_6 {z : Int32} (h0 : 0 ≤ z) (h : z < 1000000) : z.toNatClampNeg < 1000000 := by
  have a := tc_lt h0 h
  exact Nat.lt_of_lt_of_eq a rfl
theorem dX12_writes_0 : decode cX12_writes 0 = .ok (.aload_n 0, 1) := by decide +kernel
theorem dX12_writes_1 : decode cX12_writes 1 = .ok (.getfield 41, 3) := by decide +kernel
theorem dX12_writes_4 : decode cX12_writes 4 = .ok (.aload_n 0, 1) := by decide +kernel
theorem dX12_writes_5 : decode cX12_writes 5 = .ok (.getfield 186, 3) := by decide +kernel
theorem dX12_writes_8 : decode cX12_writes 8 = .ok (.iload_n 1, 1) := by decide +kernel
theorem dX12_writes_9 : decode cX12_writes 9 = .ok (.iastore, 1) := by decide +kernel
theorem dX12_writes_10 : decode cX12_writes 10 = .ok (.aload_n 0, 1) := by decide +kernel
theorem dX12_writes_11 : decode cX12_writes 11 = .ok (.dup, 1) := by decide +kernel
theorem dX12_writes_12 : decode cX12_writes 12 = .ok (.getfield 186, 3) := by decide +kernel
theorem dX12_writes_15 : decode cX12_writes 15 = .ok (.iconst 1, 1) := by decide +kernel
theorem dX12_writes_16 : decode cX12_writes 16 = .ok (.iadd, 1) := by decide +kernel
theorem dX12_writes_17 : decode cX12_writes 17 = .ok (.putfield 186, 3) := by decide +kernel
theorem dX12_writes_20 : decode cX12_writes 20 = .ok (.return_, 1) := by decide +kernel
set_option maxRecDepth 100000 in
set_option maxHeartbeats 4000000 in
theorem r_writes {l : Launch} {g : Nat → Nat} {M : LH} (htr : l.stackTraces = false) {kd : Nat → Nat} {r m : Nat} {w : Nat → Nat} {t ch ea fl sv bf tn he en ln wr dg : Int32} {v b4 sa pa fr th bs tx li lf to : Int32 → Int32} (hC : Md kd r M m w t ch ea fl sv bf tn he en ln wr dg v b4 sa pa fr th bs tx li lf to) {Ls : List Int32} (hT : Tl li Ls) (hln : ln = nI Ls.length) (hL : Ls.length < 120) (s : Int32) : K_X12_writes l g 0 0 0 [.ref m, .int s] M (RV (fun M9 => ∃ li', Tl li' (Ls ++ [s]) ∧ Md kd r M9 m w t ch ea fl sv bf tn he en (nI (Ls ++ [s]).length) wr dg v b4 sa pa fr th bs tx li' lf to ∧ Frm kd r M M9) nX) := by
  refine Ko_X12_writes htr (fun X => ?_)
  obtain ⟨hMo, hw5, hw6, hw7, hw8, hw9, hw10, hw11, hw13, hw14, hw15, hw16, hw17, hw18, -⟩ := _root_.id hC
  have hF : Frm kd r M M := Frm.rf
  subst hln
  refine v_aload_n dX12_writes_0 rfl rfl ?_
  refine gf_X12_41 dX12_writes_1 rfl hMo ?_
  refine v_aload_n dX12_writes_4 rfl rfl ?_
  refine gf_X12_186 dX12_writes_5 rfl hMo ?_
  refine v_iload_n dX12_writes_8 rfl rfl ?_
  refine v_iast dX12_writes_9 hw14 (by rw [i_le, nI_toInt (by omega), i_0]; omega) (by rw [i_lt, nI_toInt (by omega)]; show _ < (120 : Int); omega) ?_
  refine V.md (Md.r14 hC) (Frm.tr hF (Frm.up (hC.kd_r14))) (fun M1 hC hF => ?_)
  obtain ⟨hMo, hw5, hw6, hw7, hw8, hw9, hw10, hw11, hw13, hw14, hw15, hw16, hw17, hw18, -⟩ := _root_.id hC
  refine v_aload_n dX12_writes_10 rfl rfl ?_
  refine v_dup dX12_writes_11 rfl ?_
  refine gf_X12_186 dX12_writes_12 rfl hMo ?_
  refine v_iconst (v := 1) dX12_writes_15 (by decide) ?_
  refine v_iadd dX12_writes_16 ?_
  refine pf_X12_186 dX12_writes_17 rfl hMo ?_
  refine V.md (Md.sc hC) (Frm.tr hF (Frm.up (hC.kd_sc))) (fun M1 hC hF => ?_)
  obtain ⟨hMo, hw5, hw6, hw7, hw8, hw9, hw10, hw11, hw13, hw14, hw15, hw16, hw17, hw18, -⟩ := _root_.id hC
  exact v_vret dX12_writes_20 rfl ⟨_, hT.snoc (by omega), (by rw [List.length_append, show ([s] : List Int32).length = 1 from rfl, ← nI_1]; exact hC), hF⟩ (by omega) (by omega)
theorem dX12_writesNumber_0 : decode cX12_writesNumber 0 = .ok (.iconst 1, 1) := by decide +kernel
theorem dX12_writesNumber_1 : decode cX12_writesNumber 1 = .ok (.istore_n 2, 1) := by decide +kernel
theorem dX12_writesNumber_2 : decode cX12_writesNumber 2 = .ok (.iload_n 1, 1) := by decide +kernel
theorem dX12_writesNumber_3 : decode cX12_writesNumber 3 = .ok (.iload_n 2, 1) := by decide +kernel
theorem dX12_writesNumber_4 : decode cX12_writesNumber 4 = .ok (.idiv, 1) := by decide +kernel
theorem dX12_writesNumber_5 : decode cX12_writesNumber 5 = .ok (.bipush 10, 2) := by decide +kernel
theorem dX12_writesNumber_7 : decode cX12_writesNumber 7 = .ok (.if_icmp .lt 11, 3) := by decide +kernel
theorem dX12_writesNumber_10 : decode cX12_writesNumber 10 = .ok (.iload_n 2, 1) := by decide +kernel
theorem dX12_writesNumber_11 : decode cX12_writesNumber 11 = .ok (.bipush 10, 2) := by decide +kernel
theorem dX12_writesNumber_13 : decode cX12_writesNumber 13 = .ok (.imul, 1) := by decide +kernel
theorem dX12_writesNumber_14 : decode cX12_writesNumber 14 = .ok (.istore_n 2, 1) := by decide +kernel
theorem dX12_writesNumber_15 : decode cX12_writesNumber 15 = .ok (.goto (-13), 3) := by decide +kernel
theorem dX12_writesNumber_18 : decode cX12_writesNumber 18 = .ok (.iload_n 2, 1) := by decide +kernel
theorem dX12_writesNumber_19 : decode cX12_writesNumber 19 = .ok (.ifCond .le 24, 3) := by decide +kernel
theorem dX12_writesNumber_22 : decode cX12_writesNumber 22 = .ok (.aload_n 0, 1) := by decide +kernel
theorem dX12_writesNumber_23 : decode cX12_writesNumber 23 = .ok (.bipush 48, 2) := by decide +kernel
theorem dX12_writesNumber_25 : decode cX12_writesNumber 25 = .ok (.iload_n 1, 1) := by decide +kernel
theorem dX12_writesNumber_26 : decode cX12_writesNumber 26 = .ok (.iload_n 2, 1) := by decide +kernel
theorem dX12_writesNumber_27 : decode cX12_writesNumber 27 = .ok (.idiv, 1) := by decide +kernel
theorem dX12_writesNumber_28 : decode cX12_writesNumber 28 = .ok (.bipush 10, 2) := by decide +kernel
theorem dX12_writesNumber_30 : decode cX12_writesNumber 30 = .ok (.irem, 1) := by decide +kernel
theorem dX12_writesNumber_31 : decode cX12_writesNumber 31 = .ok (.iadd, 1) := by decide +kernel
theorem dX12_writesNumber_32 : decode cX12_writesNumber 32 = .ok (.invokevirtual 189, 3) := by decide +kernel
theorem dX12_writesNumber_35 : decode cX12_writesNumber 35 = .ok (.iload_n 2, 1) := by decide +kernel
theorem dX12_writesNumber_36 : decode cX12_writesNumber 36 = .ok (.bipush 10, 2) := by decide +kernel
theorem dX12_writesNumber_38 : decode cX12_writesNumber 38 = .ok (.idiv, 1) := by decide +kernel
theorem dX12_writesNumber_39 : decode cX12_writesNumber 39 = .ok (.istore_n 2, 1) := by decide +kernel
theorem dX12_writesNumber_40 : decode cX12_writesNumber 40 = .ok (.goto (-22), 3) := by decide +kernel
theorem dX12_writesNumber_43 : decode cX12_writesNumber 43 = .ok (.return_, 1) := by decide +kernel
set_option maxRecDepth 100000 in
set_option maxHeartbeats 4000000 in
theorem r_writesNumber {l : Launch} {g : Nat → Nat} {M : LH} (htr : l.stackTraces = false) {kd : Nat → Nat} {r m : Nat} {w : Nat → Nat} {t ch ea fl sv bf tn he en ln wr dg : Int32} {v b4 sa pa fr th bs tx li lf to : Int32 → Int32} (hC : Md kd r M m w t ch ea fl sv bf tn he en ln wr dg v b4 sa pa fr th bs tx li lf to) {Ls : List Int32} (hT : Tl li Ls) (hln : ln = nI Ls.length) {z : Int32} (z0 : 0 ≤ z) (z6 : z < 1000000) (hL : Ls.length + 7 < 120) : K_X12_writesNumber l g 1 0 0 [.ref m, .int z] M (RV (fun M9 => ∃ li', Tl li' (Ls ++ num z) ∧ Md kd r M9 m w t ch ea fl sv bf tn he en (nI (Ls ++ num z).length) wr dg v b4 sa pa fr th bs tx li' lf to ∧ Frm kd r M M9) nX) := by
  refine Ko_X12_writesNumber htr (fun X => ?_)
  obtain ⟨hMo, hw5, hw6, hw7, hw8, hw9, hw10, hw11, hw13, hw14, hw15, hw16, hw17, hw18, -⟩ := _root_.id hC
  have hF : Frm kd r M M := Frm.rf
  subst hln
  obtain ⟨x, rfl, hx6⟩ : ∃ x, z = nI x ∧ x < 1000000 := ⟨z.toNatClampNeg, (tc_nI z0).symm, tc_6 z0 z6⟩
  have key1 : ∀ e j, j + e = 6 → (j = 0 ∨ 10 ^ j ≤ x) → V l g yX12_writesNumber cX12_writesNumber (none) [] 1 0 0 (RV (fun M9 => ∃ li', Tl li' (Ls ++ num (nI x)) ∧ Md kd r M9 m w t ch ea fl sv bf tn he en (nI (Ls ++ num (nI x)).length) wr dg v b4 sa pa fr th bs tx li' lf to ∧ Frm kd r M M9) nX) X M 0 0 2 [some (.ref m), some (.int (nI x)), some (.int (nI (10 ^ j)))] [] := by
    intro e
    induction e with
    | zero =>
      intro j hj hx
      exfalso
      have h6 : j = 6 := by omega
      subst h6
      rcases hx with z | z
      · omega
      · exact absurd hx6 (by omega)
    | succ e ih =>
      intro j hj hx
      have hj7 : j < 7 := by omega
      obtain ⟨tb1, tb2⟩ := ten_b j hj7
      have hxq : x / 10 ^ j ≤ x := Nat.div_le_self _ _
      have hdv : nI x / nI (10 ^ j) = nI (x / 10 ^ j) := nI_div (by omega) tb1
      refine v_iload_n dX12_writesNumber_2 rfl rfl ?_
      refine v_iload_n dX12_writesNumber_3 rfl rfl ?_
      refine v_idiv dX12_writesNumber_4 (ten_nz j hj7) ?_
      refine v_bipush (v := (10)) dX12_writesNumber_5 (by decide) ?_
      refine v_icmp_lt (tgt := 18) dX12_writesNumber_7 (by decide) (fun h7 => ?_) (fun h7 => ?_)
      · rw [hdv] at h7
        have h8 : x / 10 ^ j < 10 := (nJ_lt (a := x / 10 ^ j) (b := 10) (by omega) (by omega)).mp h7
        have h9 : x < 10 ^ (j + 1) := by
          rw [Nat.pow_succ, Nat.mul_comm]
          exact (Nat.div_lt_iff_lt_mul tb2).mp h8
        have hdl : DL x (j + 1) := ⟨h9, by omega, hx.imp (fun z => by omega) (fun z => z)⟩
        have key2 : ∀ q, q ≤ 6 → ∀ (M1 : LH) (li1 : Int32 → Int32) (L1 : List Int32), Tl li1 L1 → L1.length + q < 120 → L1 ++ dgs x q = Ls ++ dgs x (j + 1) → Md kd r M1 m w t ch ea fl sv bf tn he en (nI L1.length) wr dg v b4 sa pa fr th bs tx li1 lf to → Frm kd r M M1 → V l g yX12_writesNumber cX12_writesNumber (none) [] 1 0 0 (RV (fun M9 => ∃ li', Tl li' (Ls ++ num (nI x)) ∧ Md kd r M9 m w t ch ea fl sv bf tn he en (nI (Ls ++ num (nI x)).length) wr dg v b4 sa pa fr th bs tx li' lf to ∧ Frm kd r M M9) nX) X M1 0 0 18 [some (.ref m), some (.int (nI x)), some (.int (tenI q))] [] := by
          intro q
          induction q with
          | zero =>
            intro _ M1 li1 L1 hT1 hl1 he hC hF
            rw [show dgs x 0 = [] from rfl, List.append_nil] at he
            obtain ⟨hMo, hw5, hw6, hw7, hw8, hw9, hw10, hw11, hw13, hw14, hw15, hw16, hw17, hw18, -⟩ := _root_.id hC
            refine v_iload_n dX12_writesNumber_18 rfl rfl ?_
            refine v_if_le (tgt := 43) dX12_writesNumber_19 (by decide) (fun h19 => ?_) (fun h19 => ?_)
            · exact v_vret dX12_writesNumber_43 rfl ⟨li1, (by rw [← num_nI hx6 hdl, ← he]; exact hT1), (by rw [← num_nI hx6 hdl, ← he]; exact hC), hF⟩ (by omega) (by omega)
            · exact absurd (Int32.le_refl _) h19
          | succ q ihq =>
            intro hq M1 li1 L1 hT1 hl1 he hC hF
            obtain ⟨hMo, hw5, hw6, hw7, hw8, hw9, hw10, hw11, hw13, hw14, hw15, hw16, hw17, hw18, -⟩ := _root_.id hC
            have hq6 : q < 7 := by omega
            obtain ⟨tb1, tb2⟩ := ten_b q hq6
            have hdv : nI x / nI (10 ^ q) = nI (x / 10 ^ q) := nI_div (by omega) tb1
            have hxq : x / 10 ^ q ≤ x := Nat.div_le_self _ _
            have hdg : (48 : Int32) + (nI x / nI (10 ^ q) - nI x / nI (10 ^ q) / 10 * 10) = nI (48 + x / 10 ^ q % 10) := by
              rw [hdv, nI_rem10 (by omega)]
              exact nJ_add (a := 48) (by omega)
            refine v_iload_n dX12_writesNumber_18 rfl rfl ?_
            refine v_if_le (tgt := 43) dX12_writesNumber_19 (by decide) (fun h19 => ?_) (fun h19 => ?_)
            · exact absurd h19 (ten_pos q hq6)
            · refine v_aload_n dX12_writesNumber_22 rfl rfl ?_
              refine v_bipush (v := (48)) dX12_writesNumber_23 (by decide) ?_
              refine v_iload_n dX12_writesNumber_25 rfl rfl ?_
              refine v_iload_n dX12_writesNumber_26 rfl rfl ?_
              refine v_idiv dX12_writesNumber_27 (ten_nz q hq6) ?_
              refine v_bipush (v := (10)) dX12_writesNumber_28 (by decide) ?_
              refine v_irem dX12_writesNumber_30 (by decide) ?_
              refine v_iadd dX12_writesNumber_31 ?_
              rw [show (48 : Int32) + (nI x / tenI (q + 1) - nI x / tenI (q + 1) / 10 * 10) = nI (48 + x / 10 ^ q % 10) from hdg]
              refine k_X12_189 dX12_writesNumber_32 rfl (r_writes htr hC hT1 rfl (by omega) _) hMo (Nat.le_of_ble_eq_true rfl) (by omega) (by omega) (Nat.le_of_ble_eq_true rfl) (fun M9 h9 => ?_) (fun _ _ h9 => h9.elim)
              obtain ⟨li2, hT2, hC, hF9⟩ := h9
              have hF := Frm.tr hF hF9
              obtain ⟨hMo, hw5, hw6, hw7, hw8, hw9, hw10, hw11, hw13, hw14, hw15, hw16, hw17, hw18, -⟩ := _root_.id hC
              refine v_iload_n dX12_writesNumber_35 rfl rfl ?_
              refine v_bipush (v := (10)) dX12_writesNumber_36 (by decide) ?_
              refine v_idiv dX12_writesNumber_38 (by decide) ?_
              rw [show tenI (q + 1) / 10 = tenI q from ten_dn q hq6]
              refine v_istore_2 dX12_writesNumber_39 ?_
              refine v_goto (tgt := 18) dX12_writesNumber_40 (by decide) ?_
              exact ihq (by omega) _ li2 (L1 ++ [nI (48 + x / 10 ^ q % 10)]) hT2 (by rw [List.length_append]; show L1.length + 1 + q < 120; omega) (by rw [← he, List.append_assoc]; rfl) hC hF
        exact key2 (j + 1) (by omega) M li Ls hT (by omega) rfl hC hF
      · rw [hdv] at h7
        have h8 : ¬ x / 10 ^ j < 10 := fun z => h7 ((nJ_lt (a := x / 10 ^ j) (b := 10) (by omega) (by omega)).mpr z)
        have h9 : 10 ^ (j + 1) ≤ x := by
          refine Nat.le_of_not_lt (fun z => h8 ?_)
          rw [Nat.pow_succ] at z
          exact (Nat.div_lt_iff_lt_mul tb2).mpr (by rw [Nat.mul_comm]; exact z)
        have hj6 : j < 6 := by omega
        refine v_iload_n dX12_writesNumber_10 rfl rfl ?_
        refine v_bipush (v := (10)) dX12_writesNumber_11 (by decide) ?_
        refine v_imul dX12_writesNumber_13 ?_
        rw [ten_up j hj6]
        refine v_istore_2 dX12_writesNumber_14 ?_
        refine v_goto (tgt := 2) dX12_writesNumber_15 (by decide) ?_
        exact ih (j + 1) (by omega) (Or.inr h9)
  refine v_iconst (v := 1) dX12_writesNumber_0 (by decide) ?_
  refine v_istore_2 dX12_writesNumber_1 ?_
  exact key1 6 0 rfl (Or.inl rfl)

theorem dX12_writesBehind_0 : decode cX12_writesBehind 0 = .ok (.aload_n 0, 1) := by decide +kernel
theorem dX12_writesBehind_1 : decode cX12_writesBehind 1 = .ok (.iload_n 1, 1) := by decide +kernel
theorem dX12_writesBehind_2 : decode cX12_writesBehind 2 = .ok (.invokevirtual 189, 3) := by decide +kernel
theorem dX12_writesBehind_5 : decode cX12_writesBehind 5 = .ok (.aload_n 0, 1) := by decide +kernel
theorem dX12_writesBehind_6 : decode cX12_writesBehind 6 = .ok (.iload_n 2, 1) := by decide +kernel
theorem dX12_writesBehind_7 : decode cX12_writesBehind 7 = .ok (.invokevirtual 192, 3) := by decide +kernel
theorem dX12_writesBehind_10 : decode cX12_writesBehind 10 = .ok (.return_, 1) := by decide +kernel
set_option maxRecDepth 100000 in
set_option maxHeartbeats 4000000 in
theorem r_writesBehind {l : Launch} {g : Nat → Nat} {M : LH} (htr : l.stackTraces = false) {kd : Nat → Nat} {r m : Nat} {w : Nat → Nat} {t ch ea fl sv bf tn he en ln wr dg : Int32} {v b4 sa pa fr th bs tx li lf to : Int32 → Int32} (hC : Md kd r M m w t ch ea fl sv bf tn he en ln wr dg v b4 sa pa fr th bs tx li lf to) {Ls : List Int32} (hT : Tl li Ls) (hln : ln = nI Ls.length) {z : Int32} (z0 : 0 ≤ z) (z6 : z < 1000000) (hL : Ls.length + 8 < 120) (s : Int32) : K_X12_writesBehind l g 2 0 0 [.ref m, .int s, .int z] M (RV (fun M9 => ∃ li', Tl li' (Ls ++ s :: num z) ∧ Md kd r M9 m w t ch ea fl sv bf tn he en (nI (Ls ++ s :: num z).length) wr dg v b4 sa pa fr th bs tx li' lf to ∧ Frm kd r M M9) nX) := by
  refine Ko_X12_writesBehind htr (fun X => ?_)
  obtain ⟨hMo, hw5, hw6, hw7, hw8, hw9, hw10, hw11, hw13, hw14, hw15, hw16, hw17, hw18, -⟩ := _root_.id hC
  have hF : Frm kd r M M := Frm.rf
  refine v_aload_n dX12_writesBehind_0 rfl rfl ?_
  refine v_iload_n dX12_writesBehind_1 rfl rfl ?_
  refine k_X12_189 dX12_writesBehind_2 rfl (r_writes htr hC hT hln (by omega) s) hMo (Nat.le_of_ble_eq_true rfl) (by omega) (by omega) (Nat.le_of_ble_eq_true rfl) (fun M9 h9 => ?_) (fun _ _ h9 => h9.elim)
  obtain ⟨li2, hT2, hC, hF9⟩ := h9
  have hF := Frm.tr hF hF9
  obtain ⟨hMo, hw5, hw6, hw7, hw8, hw9, hw10, hw11, hw13, hw14, hw15, hw16, hw17, hw18, -⟩ := _root_.id hC
  refine v_aload_n dX12_writesBehind_5 rfl rfl ?_
  refine v_iload_n dX12_writesBehind_6 rfl rfl ?_
  refine k_X12_192 dX12_writesBehind_7 rfl (r_writesNumber htr hC hT2 rfl z0 z6 (by rw [List.length_append]; show Ls.length + 1 + 7 < 120; omega)) hMo (Nat.le_of_ble_eq_true rfl) (by omega) (by omega) (Nat.le_of_ble_eq_true rfl) (fun M9 h9 => ?_) (fun _ _ h9 => h9.elim)
  obtain ⟨li3, hT3, hC, hF9⟩ := h9
  have hF := Frm.tr hF hF9
  rw [List.append_assoc] at hT3 hC
  exact v_vret dX12_writesBehind_10 rfl ⟨li3, hT3, hC, hF⟩ (by omega) (by omega)
