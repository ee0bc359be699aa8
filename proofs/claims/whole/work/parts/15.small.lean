theorem dX11_cell_0 : decode cX11_cell 0 = .ok (.iload_n 0, 1) := by decide +kernel
theorem dX11_cell_1 : decode cX11_cell 1 = .ok (.bipush 7, 2) := by decide +kernel
theorem dX11_cell_3 : decode cX11_cell 3 = .ok (.imul, 1) := by decide +kernel
theorem dX11_cell_4 : decode cX11_cell 4 = .ok (.iload_n 1, 1) := by decide +kernel
theorem dX11_cell_5 : decode cX11_cell 5 = .ok (.iadd, 1) := by decide +kernel
theorem dX11_cell_6 : decode cX11_cell 6 = .ok (.ireturn, 1) := by decide +kernel
set_option maxRecDepth 100000 in
set_option maxHeartbeats 4000000 in
theorem c_cell {l : Launch} {g : Nat → Nat} {M : LH} (htr : l.stackTraces = false) (i j : Int32) : K_X11_cell l g 0 0 0 [.int i, .int j] M (RI (fun v M9 => v = i * 7 + j ∧ M9 = M) nX) := by
  refine Ko_X11_cell htr (fun X => ?_)
  refine v_iload_n dX11_cell_0 rfl rfl ?_
  refine v_bipush (v := (7)) dX11_cell_1 (by decide) ?_
  refine v_imul dX11_cell_3 ?_
  refine v_iload_n dX11_cell_4 rfl rfl ?_
  refine v_iadd dX11_cell_5 ?_
  exact v_iret dX11_cell_6 rfl ⟨rfl, rfl⟩ (by omega) (by omega)
theorem dX11_isBetween_0 : decode cX11_isBetween 0 = .ok (.iload_n 0, 1) := by decide +kernel
theorem dX11_isBetween_1 : decode cX11_isBetween 1 = .ok (.iload_n 1, 1) := by decide +kernel
theorem dX11_isBetween_2 : decode cX11_isBetween 2 = .ok (.if_icmp .lt 12, 3) := by decide +kernel
theorem dX11_isBetween_5 : decode cX11_isBetween 5 = .ok (.iload_n 0, 1) := by decide +kernel
theorem dX11_isBetween_6 : decode cX11_isBetween 6 = .ok (.iload_n 2, 1) := by decide +kernel
theorem dX11_isBetween_7 : decode cX11_isBetween 7 = .ok (.if_icmp .gt 7, 3) := by decide +kernel
theorem dX11_isBetween_10 : decode cX11_isBetween 10 = .ok (.iconst 1, 1) := by decide +kernel
theorem dX11_isBetween_11 : decode cX11_isBetween 11 = .ok (.goto 4, 3) := by decide +kernel
theorem dX11_isBetween_14 : decode cX11_isBetween 14 = .ok (.iconst 0, 1) := by decide +kernel
theorem dX11_isBetween_15 : decode cX11_isBetween 15 = .ok (.ireturn, 1) := by decide +kernel
set_option maxRecDepth 100000 in
set_option maxHeartbeats 4000000 in
theorem c_isBetween {l : Launch} {g : Nat → Nat} {M : LH} (htr : l.stackTraces = false) (x p q : Int32) : K_X11_isBetween l g 0 0 0 [.int x, .int p, .int q] M (RI (fun v M9 => v = (if p ≤ x ∧ x ≤ q then 1 else 0) ∧ M9 = M) nX) := by
  refine Ko_X11_isBetween htr (fun X => ?_)
  refine v_iload_n dX11_isBetween_0 rfl rfl ?_
  refine v_iload_n dX11_isBetween_1 rfl rfl ?_
  refine v_icmp_lt (tgt := 14) dX11_isBetween_2 (by decide) (fun h2 => ?_) (fun h2 => ?_)
  · refine v_iconst (v := 0) dX11_isBetween_14 (by decide) ?_
    exact v_zret dX11_isBetween_15 rfl (by first | rfl | assumption) ⟨by grind, rfl⟩ (by omega) (by omega)
  · refine v_iload_n dX11_isBetween_5 rfl rfl ?_
    refine v_iload_n dX11_isBetween_6 rfl rfl ?_
    refine v_icmp_gt (tgt := 14) dX11_isBetween_7 (by decide) (fun h7 => ?_) (fun h7 => ?_)
    · refine v_iconst (v := 0) dX11_isBetween_14 (by decide) ?_
      exact v_zret dX11_isBetween_15 rfl (by first | rfl | assumption) ⟨by grind, rfl⟩ (by omega) (by omega)
    · refine v_iconst (v := 1) dX11_isBetween_10 (by decide) ?_
      refine v_goto (tgt := 15) dX11_isBetween_11 (by decide) ?_
      exact v_zret dX11_isBetween_15 rfl (by first | rfl | assumption) ⟨by grind, rfl⟩ (by omega) (by omega)
/-- a remainder as the machine has it -/
def rem (x z : Int32) : Int32 := x - x / z * z
def validC (x : Int32) : Prop := 0 ≤ x ∧ rem x 97 = 1
/-- bit i of a set -/
def bitI (m i : Int32) : Int32 := (m >>> (i &&& 31)) &&& 1
def sbit (i : Int32) : Int32 := 1 <<< (i &&& 31)
theorem dX11_isValidCode_0 : decode cX11_isValidCode 0 = .ok (.iload_n 0, 1) := by decide +kernel
theorem dX11_isValidCode_1 : decode cX11_isValidCode 1 = .ok (.ifCond .lt 15, 3) := by decide +kernel
theorem dX11_isValidCode_4 : decode cX11_isValidCode 4 = .ok (.iload_n 0, 1) := by decide +kernel
theorem dX11_isValidCode_5 : decode cX11_isValidCode 5 = .ok (.bipush 97, 2) := by decide +kernel
theorem dX11_isValidCode_7 : decode cX11_isValidCode 7 = .ok (.irem, 1) := by decide +kernel
theorem dX11_isValidCode_8 : decode cX11_isValidCode 8 = .ok (.iconst 1, 1) := by decide +kernel
theorem dX11_isValidCode_9 : decode cX11_isValidCode 9 = .ok (.if_icmp .ne 7, 3) := by decide +kernel
theorem dX11_isValidCode_12 : decode cX11_isValidCode 12 = .ok (.iconst 1, 1) := by decide +kernel
theorem dX11_isValidCode_13 : decode cX11_isValidCode 13 = .ok (.goto 4, 3) := by decide +kernel
theorem dX11_isValidCode_16 : decode cX11_isValidCode 16 = .ok (.iconst 0, 1) := by decide +kernel
theorem dX11_isValidCode_17 : decode cX11_isValidCode 17 = .ok (.ireturn, 1) := by decide +kernel
set_option maxRecDepth 100000 in
set_option maxHeartbeats 4000000 in
theorem c_isValidCode {l : Launch} {g : Nat → Nat} {M : LH} (htr : l.stackTraces = false) (x : Int32) : K_X11_isValidCode l g 0 0 0 [.int x] M (RI (fun v M9 => (v = 1 ∧ validC x ∨ v = 0 ∧ ¬ validC x) ∧ M9 = M) nX) := by
  refine Ko_X11_isValidCode htr (fun X => ?_)
  refine v_iload_n dX11_isValidCode_0 rfl rfl ?_
  refine v_if_lt (tgt := 16) dX11_isValidCode_1 (by decide) (fun h1 => ?_) (fun h1 => ?_)
  · refine v_iconst (v := 0) dX11_isValidCode_16 (by decide) ?_
    exact v_zret dX11_isValidCode_17 rfl (by first | rfl | assumption) ⟨by unfold validC rem; grind, rfl⟩ (by omega) (by omega)
  · refine v_iload_n dX11_isValidCode_4 rfl rfl ?_
    refine v_bipush (v := (97)) dX11_isValidCode_5 (by decide) ?_
    refine v_irem dX11_isValidCode_7 (by decide) ?_
    refine v_iconst (v := 1) dX11_isValidCode_8 (by decide) ?_
    refine v_icmp_ne (tgt := 16) dX11_isValidCode_9 (by decide) (fun h9 => ?_) (fun h9 => ?_)
    · refine v_iconst (v := 0) dX11_isValidCode_16 (by decide) ?_
      exact v_zret dX11_isValidCode_17 rfl (by first | rfl | assumption) ⟨by unfold validC rem; grind, rfl⟩ (by omega) (by omega)
    · refine v_iconst (v := 1) dX11_isValidCode_12 (by decide) ?_
      refine v_goto (tgt := 17) dX11_isValidCode_13 (by decide) ?_
      exact v_zret dX11_isValidCode_17 rfl (by first | rfl | assumption) ⟨by unfold validC rem; grind, rfl⟩ (by omega) (by omega)
theorem dX6_has_0 : decode cX6_has 0 = .ok (.iload_n 0, 1) := by decide +kernel
theorem dX6_has_1 : decode cX6_has 1 = .ok (.iload_n 1, 1) := by decide +kernel
theorem dX6_has_2 : decode cX6_has 2 = .ok (.ishr, 1) := by decide +kernel
theorem dX6_has_3 : decode cX6_has 3 = .ok (.iconst 1, 1) := by decide +kernel
theorem dX6_has_4 : decode cX6_has 4 = .ok (.iand, 1) := by decide +kernel
theorem dX6_has_5 : decode cX6_has 5 = .ok (.ifCond .eq 7, 3) := by decide +kernel
theorem dX6_has_8 : decode cX6_has 8 = .ok (.iconst 1, 1) := by decide +kernel
theorem dX6_has_9 : decode cX6_has 9 = .ok (.goto 4, 3) := by decide +kernel
theorem dX6_has_12 : decode cX6_has 12 = .ok (.iconst 0, 1) := by decide +kernel
theorem dX6_has_13 : decode cX6_has 13 = .ok (.ireturn, 1) := by decide +kernel
set_option maxRecDepth 100000 in
set_option maxHeartbeats 4000000 in
theorem c_has {l : Launch} {g : Nat → Nat} {M : LH} (htr : l.stackTraces = false) (m i : Int32) : K_X6_has l g 0 0 0 [.int m, .int i] M (RI (fun v M9 => v = (if bitI m i = 0 then 0 else 1) ∧ M9 = M) nX) := by
  refine Ko_X6_has htr (fun X => ?_)
  refine v_iload_n dX6_has_0 rfl rfl ?_
  refine v_iload_n dX6_has_1 rfl rfl ?_
  refine v_ishr dX6_has_2 ?_
  refine v_iconst (v := 1) dX6_has_3 (by decide) ?_
  refine v_iand dX6_has_4 ?_
  refine v_if_eq (tgt := 12) dX6_has_5 (by decide) (fun h5 => ?_) (fun h5 => ?_)
  · refine v_iconst (v := 0) dX6_has_12 (by decide) ?_
    exact v_zret dX6_has_13 rfl (by first | rfl | assumption) ⟨by first | exact (if_pos (by assumption)).symm | exact (if_neg (by assumption)).symm, rfl⟩ (by omega) (by omega)
  · refine v_iconst (v := 1) dX6_has_8 (by decide) ?_
    refine v_goto (tgt := 13) dX6_has_9 (by decide) ?_
    exact v_zret dX6_has_13 rfl (by first | rfl | assumption) ⟨by first | exact (if_pos (by assumption)).symm | exact (if_neg (by assumption)).symm, rfl⟩ (by omega) (by omega)
theorem dX1_bit_0 : decode cX1_bit 0 = .ok (.iconst 1, 1) := by decide +kernel
theorem dX1_bit_1 : decode cX1_bit 1 = .ok (.bipush 11, 2) := by decide +kernel
theorem dX1_bit_3 : decode cX1_bit 3 = .ok (.iload_n 0, 1) := by decide +kernel
theorem dX1_bit_4 : decode cX1_bit 4 = .ok (.isub, 1) := by decide +kernel
theorem dX1_bit_5 : decode cX1_bit 5 = .ok (.ishl, 1) := by decide +kernel
theorem dX1_bit_6 : decode cX1_bit 6 = .ok (.ireturn, 1) := by decide +kernel
set_option maxRecDepth 100000 in
set_option maxHeartbeats 4000000 in
theorem c_bit {l : Launch} {g : Nat → Nat} {M : LH} (htr : l.stackTraces = false) (i : Int32) : K_X1_bit l g 0 0 0 [.int i] M (RI (fun v M9 => v = sbit (11 - i) ∧ M9 = M) nX) := by
  refine Ko_X1_bit htr (fun X => ?_)
  refine v_iconst (v := 1) dX1_bit_0 (by decide) ?_
  refine v_bipush (v := (11)) dX1_bit_1 (by decide) ?_
  refine v_iload_n dX1_bit_3 rfl rfl ?_
  refine v_isub dX1_bit_4 ?_
  refine v_ishl dX1_bit_5 ?_
  exact v_iret dX1_bit_6 rfl ⟨rfl, rfl⟩ (by omega) (by omega)
theorem dX1_contains_0 : decode cX1_contains 0 = .ok (.iload_n 0, 1) := by decide +kernel
theorem dX1_contains_1 : decode cX1_contains 1 = .ok (.iload_n 1, 1) := by decide +kernel
theorem dX1_contains_2 : decode cX1_contains 2 = .ok (.invokestatic 59, 3) := by decide +kernel
theorem dX1_contains_5 : decode cX1_contains 5 = .ok (.iand, 1) := by decide +kernel
theorem dX1_contains_6 : decode cX1_contains 6 = .ok (.ifCond .eq 7, 3) := by decide +kernel
theorem dX1_contains_9 : decode cX1_contains 9 = .ok (.iconst 1, 1) := by decide +kernel
theorem dX1_contains_10 : decode cX1_contains 10 = .ok (.goto 4, 3) := by decide +kernel
theorem dX1_contains_13 : decode cX1_contains 13 = .ok (.iconst 0, 1) := by decide +kernel
theorem dX1_contains_14 : decode cX1_contains 14 = .ok (.ireturn, 1) := by decide +kernel
set_option maxRecDepth 100000 in
set_option maxHeartbeats 4000000 in
theorem c_contains {l : Launch} {g : Nat → Nat} {M : LH} (htr : l.stackTraces = false) (m i : Int32) : K_X1_contains l g 1 0 0 [.int m, .int i] M (RI (fun v M9 => v = (if m &&& sbit (11 - i) = 0 then 0 else 1) ∧ M9 = M) nX) := by
  refine Ko_X1_contains htr (fun X => ?_)
  refine v_iload_n dX1_contains_0 rfl rfl ?_
  refine v_iload_n dX1_contains_1 rfl rfl ?_
  refine k_X1_59 dX1_contains_2 rfl (c_bit htr i) (Nat.le_of_ble_eq_true rfl) (by omega) (by omega) (Nat.le_of_ble_eq_true rfl) (fun r2 M9 h9 => ?_) (fun _ _ h9 => h9.elim)
  obtain ⟨rfl, e9⟩ := h9
  subst M9
  refine v_iand dX1_contains_5 ?_
  refine v_if_eq (tgt := 13) dX1_contains_6 (by decide) (fun h6 => ?_) (fun h6 => ?_)
  · refine v_iconst (v := 0) dX1_contains_13 (by decide) ?_
    exact v_zret dX1_contains_14 rfl (by first | rfl | assumption) ⟨by first | exact (if_pos (by assumption)).symm | exact (if_neg (by assumption)).symm, rfl⟩ (by omega) (by omega)
  · refine v_iconst (v := 1) dX1_contains_9 (by decide) ?_
    refine v_goto (tgt := 14) dX1_contains_10 (by decide) ?_
    exact v_zret dX1_contains_14 rfl (by first | rfl | assumption) ⟨by first | exact (if_pos (by assumption)).symm | exact (if_neg (by assumption)).symm, rfl⟩ (by omega) (by omega)
/-- places behind a removal of place p of n -/
def prm (p n j : Int32) : Int32 := if p ≤ j ∧ j < n - 1 then j + 1 else if j = n - 1 then p else j
def prF (F : Nat → Int32 → Int32) (p n : Int32) : Nat → Int32 → Int32 := fun w j => if w < 8 then F w (prm p n j) else F w j
def shf (p i j : Int32) : Int32 := if p ≤ j ∧ j < i - 1 then j + 1 else j
theorem i_add {a b : Int32} (h : -2147483648 ≤ a.toInt + b.toInt) (h2 : a.toInt + b.toInt < 2147483648) : (a + b).toInt = a.toInt + b.toInt := by
  rw [Int32.toInt_add]
  exact Int.bmod_eq_of_le (by omega) (by omega)
theorem i_sub {a b : Int32} (h : -2147483648 ≤ a.toInt - b.toInt) (h2 : a.toInt - b.toInt < 2147483648) : (a - b).toInt = a.toInt - b.toInt := by
  rw [Int32.toInt_sub]
  exact Int.bmod_eq_of_le (by omega) (by omega)
theorem i_le {a b : Int32} : a ≤ b ↔ a.toInt ≤ b.toInt := Int32.le_iff_toInt_le
theorem i_lt {a b : Int32} : a < b ↔ a.toInt < b.toInt := Int32.lt_iff_toInt_lt
theorem i_eq {a b : Int32} : a = b ↔ a.toInt = b.toInt := Int32.toInt_inj.symm
theorem i_0 : (0 : Int32).toInt = 0 := rfl
theorem i_1 : (1 : Int32).toInt = 1 := rfl
theorem i_12 : (12 : Int32).toInt = 12 := rfl
theorem prm_toInt {p n j : Int32} (hp0 : 0 ≤ p) (hp : p < n) (h12 : n ≤ 12) (h0 : 0 ≤ j) (h1 : j < 12) : (prm p n j).toInt = if p.toInt ≤ j.toInt ∧ j.toInt < n.toInt - 1 then j.toInt + 1 else if j.toInt = n.toInt - 1 then p.toInt else j.toInt := by
  rw [i_le, i_0] at hp0 h0
  rw [i_lt] at hp h1
  rw [i_le, i_12] at h12
  rw [i_12] at h1
  have e1 : (n - 1).toInt = n.toInt - 1 := by rw [i_sub] <;> rw [i_1] <;> omega
  have e2 : (j + 1).toInt = j.toInt + 1 := by rw [i_add] <;> rw [i_1] <;> omega
  unfold prm
  by_cases q1 : p ≤ j ∧ j < n - 1
  · have r1 : p.toInt ≤ j.toInt ∧ j.toInt < n.toInt - 1 := by rw [i_le, i_lt, e1] at q1; exact q1
    rw [if_pos q1, if_pos r1, e2]
  · have r1 : ¬ (p.toInt ≤ j.toInt ∧ j.toInt < n.toInt - 1) := by rw [i_le, i_lt, e1] at q1; exact q1
    rw [if_neg q1, if_neg r1]
    by_cases q2 : j = n - 1
    · have r2 : j.toInt = n.toInt - 1 := by rw [i_eq, e1] at q2; exact q2
      rw [if_pos q2, if_pos r2]
    · have r2 : ¬ j.toInt = n.toInt - 1 := by rw [i_eq, e1] at q2; exact q2
      rw [if_neg q2, if_neg r2]
theorem prm_in {p n j : Int32} (hp0 : 0 ≤ p) (hp : p < n) (h12 : n ≤ 12) (h0 : 0 ≤ j) (h1 : j < 12) : 0 ≤ prm p n j ∧ prm p n j < 12 := by
  have e := prm_toInt hp0 hp h12 h0 h1
  rw [i_le, i_lt, e, i_0, i_12]
  rw [i_le, i_0] at hp0 h0
  rw [i_lt] at hp h1
  rw [i_le, i_12] at h12
  rw [i_12] at h1
  split
  · omega
  · split <;> omega
theorem prm_inj {p n i j : Int32} (hp0 : 0 ≤ p) (hp : p < n) (h12 : n ≤ 12) (h0 : 0 ≤ j) (h1 : j < 12) (g0 : 0 ≤ i) (g1 : i < 12) (h : prm p n i = prm p n j) : i = j := by
  rw [i_eq, prm_toInt hp0 hp h12 g0 g1, prm_toInt hp0 hp h12 h0 h1] at h
  rw [i_eq]
  rw [i_lt] at hp
  split at h <;> split at h <;> (try split at h) <;> (try split at h) <;> omega
theorem dX9_removeLetter_0 : decode cX9_removeLetter 0 = .ok (.aload_n 0, 1) := by decide +kernel
theorem dX9_removeLetter_1 : decode cX9_removeLetter 1 = .ok (.getfield 23, 3) := by decide +kernel
theorem dX9_removeLetter_4 : decode cX9_removeLetter 4 = .ok (.iload_n 1, 1) := by decide +kernel
theorem dX9_removeLetter_5 : decode cX9_removeLetter 5 = .ok (.aaload, 1) := by decide +kernel
theorem dX9_removeLetter_6 : decode cX9_removeLetter 6 = .ok (.astore_n 2, 1) := by decide +kernel
theorem dX9_removeLetter_7 : decode cX9_removeLetter 7 = .ok (.iload_n 1, 1) := by decide +kernel
theorem dX9_removeLetter_8 : decode cX9_removeLetter 8 = .ok (.iconst 1, 1) := by decide +kernel
theorem dX9_removeLetter_9 : decode cX9_removeLetter 9 = .ok (.iadd, 1) := by decide +kernel
theorem dX9_removeLetter_10 : decode cX9_removeLetter 10 = .ok (.istore_n 3, 1) := by decide +kernel
theorem dX9_removeLetter_11 : decode cX9_removeLetter 11 = .ok (.iload_n 3, 1) := by decide +kernel
theorem dX9_removeLetter_12 : decode cX9_removeLetter 12 = .ok (.aload_n 0, 1) := by decide +kernel
theorem dX9_removeLetter_13 : decode cX9_removeLetter 13 = .ok (.getfield 46, 3) := by decide +kernel
theorem dX9_removeLetter_16 : decode cX9_removeLetter 16 = .ok (.if_icmp .ge 23, 3) := by decide +kernel
theorem dX9_removeLetter_19 : decode cX9_removeLetter 19 = .ok (.aload_n 0, 1) := by decide +kernel
theorem dX9_removeLetter_20 : decode cX9_removeLetter 20 = .ok (.getfield 23, 3) := by decide +kernel
theorem dX9_removeLetter_23 : decode cX9_removeLetter 23 = .ok (.iload_n 3, 1) := by decide +kernel
theorem dX9_removeLetter_24 : decode cX9_removeLetter 24 = .ok (.iconst 1, 1) := by decide +kernel
theorem dX9_removeLetter_25 : decode cX9_removeLetter 25 = .ok (.isub, 1) := by decide +kernel
theorem dX9_removeLetter_26 : decode cX9_removeLetter 26 = .ok (.aload_n 0, 1) := by decide +kernel
theorem dX9_removeLetter_27 : decode cX9_removeLetter 27 = .ok (.getfield 23, 3) := by decide +kernel
theorem dX9_removeLetter_30 : decode cX9_removeLetter 30 = .ok (.iload_n 3, 1) := by decide +kernel
theorem dX9_removeLetter_31 : decode cX9_removeLetter 31 = .ok (.aaload, 1) := by decide +kernel
theorem dX9_removeLetter_32 : decode cX9_removeLetter 32 = .ok (.aastore, 1) := by decide +kernel
theorem dX9_removeLetter_33 : decode cX9_removeLetter 33 = .ok (.iinc 3 1, 3) := by decide +kernel
theorem dX9_removeLetter_36 : decode cX9_removeLetter 36 = .ok (.goto (-25), 3) := by decide +kernel
theorem dX9_removeLetter_39 : decode cX9_removeLetter 39 = .ok (.aload_n 0, 1) := by decide +kernel
theorem dX9_removeLetter_40 : decode cX9_removeLetter 40 = .ok (.dup, 1) := by decide +kernel
theorem dX9_removeLetter_41 : decode cX9_removeLetter 41 = .ok (.getfield 46, 3) := by decide +kernel
theorem dX9_removeLetter_44 : decode cX9_removeLetter 44 = .ok (.iconst 1, 1) := by decide +kernel
theorem dX9_removeLetter_45 : decode cX9_removeLetter 45 = .ok (.isub, 1) := by decide +kernel
theorem dX9_removeLetter_46 : decode cX9_removeLetter 46 = .ok (.putfield 46, 3) := by decide +kernel
theorem dX9_removeLetter_49 : decode cX9_removeLetter 49 = .ok (.aload_n 0, 1) := by decide +kernel
theorem dX9_removeLetter_50 : decode cX9_removeLetter 50 = .ok (.getfield 23, 3) := by decide +kernel
theorem dX9_removeLetter_53 : decode cX9_removeLetter 53 = .ok (.aload_n 0, 1) := by decide +kernel
theorem dX9_removeLetter_54 : decode cX9_removeLetter 54 = .ok (.getfield 46, 3) := by decide +kernel
theorem dX9_removeLetter_57 : decode cX9_removeLetter 57 = .ok (.aload_n 2, 1) := by decide +kernel
theorem dX9_removeLetter_58 : decode cX9_removeLetter 58 = .ok (.aastore, 1) := by decide +kernel
theorem dX9_removeLetter_59 : decode cX9_removeLetter 59 = .ok (.return_, 1) := by decide +kernel
set_option maxRecDepth 100000 in
set_option maxHeartbeats 4000000 in
theorem c_remove {l : Launch} {g : Nat → Nat} {M : LH} (htr : l.stackTraces = false) {kd : Nat → Nat} {r a : Nat} {ad : Nat → Nat} {sl le : Int32 → Nat} {c : Nat → Int32} {F : Nat → Int32 → Int32} (hC : StC kd r M a ad sl le c F) {p : Int32} (hp0 : 0 ≤ p) (hp : p < c 4) (h12 : c 4 ≤ 12) : K_X9_removeLetter l g 0 0 0 [.ref a, .int p] M (RV (fun M9 => StC kd r M9 a ad sl (fun j => le (prm p (c 4) j)) (cu c 4 (c 4 - 1)) (prF F p (c 4)) ∧ Frm kd r M M9) nX) := by
  refine Ko_X9_removeLetter htr (fun X => ?_)
  have hCx := hC
  obtain ⟨t1, t2, t3, t4, t5, t6, t7, t8⟩ := hCx
  have ha2 : ¬ a = ad 2 := ne_of_cell t1 t4 ob_ra
  have key : ∀ i, 0 ≤ i → i ≤ c 4 → p < i → V l g yX9_removeLetter cX9_removeLetter (none) [] 0 0 0 (RV (fun M9 => StC kd r M9 a ad sl (fun j => le (prm p (c 4) j)) (cu c 4 (c 4 - 1)) (prF F p (c 4)) ∧ Frm kd r M M9) nX) X (hup M (ad 2) (ra "SledgePost$Letter" 12 (fun j => some (le (shf p i j))))) 0 0 11 [some (.ref a), some (.int p), some (.ref (le p)), some (.int i)] [] := by
    refine up_ind _ (fun i h0 h1 ih hpi => ?_)
    have u1 := (hup_n (M := M) (e := ra "SledgePost$Letter" 12 (fun j => some (le (shf p i j)))) ha2).trans t1
    refine v_iload_n dX9_removeLetter_11 rfl rfl ?_
    refine v_aload_n dX9_removeLetter_12 rfl rfl ?_
    refine gf_X9_46 dX9_removeLetter_13 rfl u1 ?_
    refine v_icmp_ge (tgt := 39) dX9_removeLetter_16 (by decide) (fun h16 => ?_) (fun h16 => ?_)
    · have hi : i = c 4 := by lia
      subst hi
      refine v_aload_n dX9_removeLetter_39 rfl rfl ?_
      refine v_dup dX9_removeLetter_40 rfl ?_
      refine gf_X9_46 dX9_removeLetter_41 rfl u1 ?_
      refine v_iconst (v := 1) dX9_removeLetter_44 (by decide) ?_
      refine v_isub dX9_removeLetter_45 ?_
      refine pf_X9_46 dX9_removeLetter_46 rfl u1 ?_
      have hp12 : p < 12 := by lia
      have hne_pa : ¬ le p = a := ne_of_cell (t6 p hp0 hp12) t1 (ob_ob (by decide))
      refine v_aload_n dX9_removeLetter_49 rfl rfl ?_
      refine gf_X9_23 dX9_removeLetter_50 rfl hup_s ?_
      refine v_aload_n dX9_removeLetter_53 rfl rfl ?_
      refine gf_X9_46 dX9_removeLetter_54 rfl hup_s ?_
      refine v_aload_n dX9_removeLetter_57 rfl rfl ?_
      refine v_aast dX9_removeLetter_58 ((hup_n (fun z => ha2 z.symm)).trans hup_s) (by lia) (by lia) ((hup_n (hne_pa)).trans ((hup_n (ne_of_cell (t6 p hp0 hp12) t4 ob_ra)).trans (t6 p hp0 hp12))) rfl ?_
      have hdone : True := trivial
      exact v_vret dX9_removeLetter_59 rfl (by
  have hO := StC.obj hC (cu c 4 (c 4 - 1))
  refine ⟨?_, Frm.tr (Frm.tr (Frm.up (hC.2.2.2.2.2.2.1.2.2.2.1)) (Frm.up hC.2.2.2.2.2.2.1.1)) (Frm.up hC.2.2.2.2.2.2.1.2.2.2.1)⟩
  obtain ⟨v1, v2, v3, v4, v5, v6, v7, v8⟩ := hO
  have a20 := ne_of_cell t4 t2 ia_ra.symm
  have a21 : ¬ ad 2 = ad 1 := ne_of_cell t4 t3 (ra_ra (by decide))
  refine ⟨(hup_n ha2).trans hup_s, (hup_n (fun z => a20 z.symm)).trans ((hup_n (ne_of_cell t2 t1 ob_ia.symm)).trans ((hup_n (fun z => a20 z.symm)).trans t2)), (hup_n (fun z => a21 z.symm)).trans ((hup_n (ne_of_cell t3 t1 ob_ra.symm)).trans ((hup_n (fun z => a21 z.symm)).trans t3)), ?_, fun i x z => ?_, fun i x z => ?_, ?_, ?_⟩
  · rw [hup_s]
    congr 2
    funext j
    unfold ui shf prm
    dsimp only
    by_cases q1 : j = c 4 - 1
    · rw [if_pos q1, if_neg (by lia), if_pos q1]
    · rw [if_neg q1, if_neg q1]
  · refine (hup_n (ne_of_cell (t5 i x z) t4 ob_ra)).trans ((hup_n (ne_of_cell (t5 i x z) t1 (ob_ob (by decide)))).trans ((hup_n (ne_of_cell (t5 i x z) t4 ob_ra)).trans (t5 i x z)))
  · obtain ⟨w0, w1⟩ := prm_in hp0 hp h12 x z
    refine (hup_n (ne_of_cell (t6 _ w0 w1) t4 ob_ra)).trans ((hup_n (ne_of_cell (t6 _ w0 w1) t1 (ob_ob (by decide)))).trans ((hup_n (ne_of_cell (t6 _ w0 w1) t4 ob_ra)).trans (t6 _ w0 w1)))
  · refine ⟨t7.1, t7.2.1, t7.2.2.1, t7.2.2.2.1, t7.2.2.2.2.1, fun i x z => t7.2.2.2.2.2 _ ?_ ?_⟩
    · exact (prm_in hp0 hp h12 x z).1
    · exact (prm_in hp0 hp h12 x z).2
  · refine ⟨fun i j x z x' z' q => ?_, t8.2⟩
    obtain ⟨w0, w1⟩ := prm_in hp0 hp h12 x z
    obtain ⟨w2, w3⟩ := prm_in hp0 hp h12 x' z'
    exact prm_inj hp0 hp h12 x' z' x z (t8.1 _ _ w0 w1 w2 w3 q)) (by omega) (by omega)
    · have hi : i < c 4 := by lia
      have hi12 : i < 12 := by lia
      have hs9 : shf p i i = i := by unfold shf; rw [if_neg (by lia)]
      have u6 : (hup M (ad 2) (ra "SledgePost$Letter" 12 (fun j => some (le (shf p i j))))) (le (shf p i i)) = some (ob 4 [.int (F 0 i), .int (F 1 i), .int (F 2 i), .int (F 3 i), .int (F 4 i), .int (F 5 i), .int (F 6 i), .int (F 7 i)]) := by rw [hs9]; exact (hup_n (ne_of_cell (t6 i h0 hi12) t4 ob_ra)).trans (t6 i h0 hi12)
      refine v_aload_n dX9_removeLetter_19 rfl rfl ?_
      refine gf_X9_23 dX9_removeLetter_20 rfl u1 ?_
      refine v_iload_n dX9_removeLetter_23 rfl rfl ?_
      refine v_iconst (v := 1) dX9_removeLetter_24 (by decide) ?_
      refine v_isub dX9_removeLetter_25 ?_
      refine v_aload_n dX9_removeLetter_26 rfl rfl ?_
      refine gf_X9_23 dX9_removeLetter_27 rfl u1 ?_
      refine v_iload_n dX9_removeLetter_30 rfl rfl ?_
      refine v_aald1 dX9_removeLetter_31 hup_s h0 hi12 rfl ?_
      refine v_aast dX9_removeLetter_32 hup_s (by lia) (by lia) u6 rfl ?_
      refine v_iinc_3 dX9_removeLetter_33 rfl ?_
      refine v_goto (tgt := 11) dX9_removeLetter_36 (by decide) ?_
      rw [hup_hup]
      have e9 : ui (fun j => some (le (shf p i j))) (i - 1) (some (le (shf p i i))) = fun j => some (le (shf p (i + 1) j)) := by
        funext j
        unfold ui shf
        dsimp only
        by_cases q1 : j = i - 1
        · rw [if_pos q1, if_neg (by lia), if_pos (by lia), q1, show i - 1 + 1 = i by lia]
        · rw [if_neg q1]
          by_cases q2 : p ≤ j ∧ j < i - 1
          · rw [if_pos q2, if_pos (by lia)]
          · rw [if_neg q2, if_neg (by lia)]
      rw [e9]
      exact ih hi (by lia)
  have hp12 : p < 12 := by lia
  refine v_aload_n dX9_removeLetter_0 rfl rfl ?_
  refine gf_X9_23 dX9_removeLetter_1 rfl t1 ?_
  refine v_iload_n dX9_removeLetter_4 rfl rfl ?_
  refine v_aald1 dX9_removeLetter_5 t4 hp0 hp12 rfl ?_
  refine v_astore_2 dX9_removeLetter_6 ?_
  refine v_iload_n dX9_removeLetter_7 rfl rfl ?_
  refine v_iconst (v := 1) dX9_removeLetter_8 (by decide) ?_
  refine v_iadd dX9_removeLetter_9 ?_
  refine v_istore_3 dX9_removeLetter_10 ?_
  have e9 : (fun j => some (le (shf p (p + 1) j))) = fun j => some (le j) := by
    funext j
    unfold shf
    rw [if_neg (by lia)]
  have e8 := key (p + 1) (by lia) (by lia) (by lia)
  rw [e9, hup_id t4] at e8
  exact e8
