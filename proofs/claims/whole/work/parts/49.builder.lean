/-! ===== builders ===== -/
theorem sr0 (x : Int32) : x >>> ((0 : Int32) &&& 31) = x := by
  rw [show (0 : Int32) &&& 31 = 0 by decide]
  exact Int32.shiftRight_zero
theorem sl0 (x : Int32) : x <<< ((0 : Int32) &&& 31) = x := by
  rw [show (0 : Int32) &&& 31 = 0 by decide]
  exact Int32.shiftLeft_zero
theorem sl2 : (2 : Int32) <<< ((0 : Int32) &&& 31) = 2 := sl0 2
/-- a builder at b, its row at v, N long; n signs, told by f -/
def Sb (M : LH) (b v : Nat) (N n : Int32) (f : Int32 → Int32) : Prop := (∃ ml : Int32, M b = some (ob 0 [.ref v, .int 0, .int ml, .int n])) ∧ M v = some (ba N f) ∧ 0 ≤ n ∧ n ≤ N ∧ N ≤ 10000 ∧ ∀ j, 0 ≤ j → j < N → 0 ≤ f j ∧ f j < 128
/-- nothing else was written -/
def FB (b v : Nat) (M M' : LH) : Prop := ∀ x e, M x = some e → ¬ x = b → ¬ x = v → M' x = some e
theorem FB.rf {b v : Nat} {M : LH} : FB b v M M := fun _ _ h _ _ => h
theorem FB.tr {b v v1 : Nat} {M M1 M2 : LH} (h : FB b v M M1) (hv : v1 = v ∨ M v1 = none) (h2 : FB b v1 M1 M2) : FB b v M M2 := fun x e hx hb hn => by
  refine h2 x e (h x e hx hb hn) hb (fun z => ?_)
  rcases hv with q | q
  · exact hn (z.trans q)
  · rw [z, q] at hx
    exact absurd hx (by simp)
theorem FB.fr {b v v1 v2 : Nat} {M M1 : LH} (h : FB b v M M1) (hb : ¬ M b = none) (h1 : v1 = v ∨ M v1 = none) (h2 : v2 = v1 ∨ M1 v2 = none) (hM1b : ¬ M1 b = none) : v2 = v ∨ M v2 = none := by
  rcases h2 with q | q
  · rw [q]
    exact h1
  · by_cases e : v2 = v
    · exact Or.inl e
    · refine Or.inr ?_
      cases hx : M v2 with
      | none => rfl
      | some c =>
        have hb2 : ¬ v2 = b := fun z => hM1b (by rw [← z]; exact q)
        have := h v2 c hx hb2 e
        rw [q] at this
        exact absurd this (by simp)
theorem Sb.nb {M : LH} {b v : Nat} {N n : Int32} {f : Int32 → Int32} (h : Sb M b v N n f) : ¬ M b = none := by
  obtain ⟨⟨ml, h1⟩, -⟩ := h
  rw [h1]
  simp
theorem ob_ba {i : Nat} {f : List Value} {N : Int32} {F : Int32 → Int32} : ob i f ≠ ba N F := by
  intro h
  unfold ob ba at h
  cases h
theorem Sb.ne {M : LH} {b v : Nat} {N n : Int32} {f : Int32 → Int32} (h : Sb M b v N n f) : ¬ v = b := by
  obtain ⟨⟨ml, h1⟩, h2, -⟩ := h
  exact (ne_of_cell h1 h2 ob_ba) ∘ Eq.symm
def gN (N m : Int32) : Int32 := if m ≤ N then N else 2 * N + 2
def gc (N m : Int32) : Nat := if m ≤ N then 0 else 1
def gs (N m : Int32) : Nat := if m ≤ N then 0 else (2 * N + 2).toNatClampNeg
section VRA
variable {l : Launch} {g : Nat → Nat} {y : MethodName} {cc : ByteArray} {rt : Option FieldType} {tb : List ExceptionTableEntry} {L mc ms : Nat} {Po : Res → LH → Prop} {X : CX} {M : LH} {k n pc : Nat} {ls : List (Option Value)} {rest : List Value}
theorem v_aretA {a : Nat} {C : FieldType} (hd : decode cc pc = .ok (.areturn, 1)) (hr : rt = some (.array C))  (hq : Po (.inl (some (.ref a))) M) (hk : k ≤ mc) (hn : n ≤ ms) : V l g y cc rt tb L mc ms Po X M k n (pc) (ls) ([.ref a]) := by
  obtain ⟨p, e, s, m, args, below, meth, c, A⟩ := X
  intro ok H locs la hW hS hl
  have hr9 := ok.2.2.2.2.2.2.2.2.1
  have hlk := ok.2.2.2.2.2.2.2.1
  refine W.widen (k := mc) (n := ms) hk hn (vx_ret ?_)
  exact W.aret ok.1 ok.2.1 (hr9.trans hr) (Or.inr ⟨_, rfl⟩) (Or.inr ⟨_, rfl⟩) (fun t ht hW9 => ⟨⟨some (.ref a), M, rfl, hq, by rw [ht]; exact Wd.moved hW9.alike hW⟩, hS.F ht⟩) hS.2.2 hd (hlocks := hlk)
theorem V.wid {k' n' : Nat} (hk : k ≤ k') (hn : n ≤ n') (h : V l g y cc rt tb L mc ms Po X M k' n' pc ls rest) : V l g y cc rt tb L mc ms Po X M k n pc ls rest := by
  obtain ⟨p, e, s, m, args, below, meth, c, A⟩ := X
  intro ok H locs la hW hS hl
  exact W.widen hk hn (h ok H locs la hW hS hl)
end VRA
theorem dJ5_isLatin1_aae02_0 : decode cJ5_isLatin1_aae02 0 = .ok (.getstatic 18, 3) := by decide +kernel
theorem dJ5_isLatin1_aae02_3 : decode cJ5_isLatin1_aae02 3 = .ok (.ifCond .eq 14, 3) := by decide +kernel
theorem dJ5_isLatin1_aae02_6 : decode cJ5_isLatin1_aae02 6 = .ok (.aload_n 0, 1) := by decide +kernel
theorem dJ5_isLatin1_aae02_7 : decode cJ5_isLatin1_aae02 7 = .ok (.getfield 22, 3) := by decide +kernel
theorem dJ5_isLatin1_aae02_10 : decode cJ5_isLatin1_aae02 10 = .ok (.ifCond .ne 7, 3) := by decide +kernel
theorem dJ5_isLatin1_aae02_13 : decode cJ5_isLatin1_aae02 13 = .ok (.iconst 1, 1) := by decide +kernel
theorem dJ5_isLatin1_aae02_14 : decode cJ5_isLatin1_aae02 14 = .ok (.goto 4, 3) := by decide +kernel
theorem dJ5_isLatin1_aae02_17 : decode cJ5_isLatin1_aae02 17 = .ok (.iconst 0, 1) := by decide +kernel
theorem dJ5_isLatin1_aae02_18 : decode cJ5_isLatin1_aae02 18 = .ok (.ireturn, 1) := by decide +kernel
set_option maxRecDepth 100000 in
set_option maxHeartbeats 4000000 in
theorem c_isL5 {l : Launch} {g : Nat → Nat} {M : LH} (htr : l.stackTraces = false) {b : Nat} {x0 x2 x3 : Value} (hb9 : M b = some (ob 0 [x0, .int 0, x2, x3])) : K_J5_isLatin1_aae02 l g 0 0 0 [.ref b] M (RI (fun v M9 => v = 1 ∧ M9 = M) nX) := by
  refine Ko_J5_isLatin1_aae02 htr (fun X => ?_)
  refine gs_J5_18 dJ5_isLatin1_aae02_0 rfl ?_
  refine v_if_eq (tgt := 17) dJ5_isLatin1_aae02_3 (by decide) (fun h3 => ?_) (fun h3 => ?_)
  · exact absurd h3 (by decide)
  · refine v_aload_n dJ5_isLatin1_aae02_6 rfl rfl ?_
    refine gf_J5_22 dJ5_isLatin1_aae02_7 rfl hb9 ?_
    refine v_if_ne (tgt := 17) dJ5_isLatin1_aae02_10 (by decide) (fun h10 => ?_) (fun h10 => ?_)
    · exact absurd rfl h10
    · refine v_iconst (v := 1) dJ5_isLatin1_aae02_13 (by decide) ?_
      refine v_goto (tgt := 18) dJ5_isLatin1_aae02_14 (by decide) ?_
      exact v_zret dJ5_isLatin1_aae02_18 rfl (by first | rfl | assumption) ⟨rfl, rfl⟩ (by omega) (by omega)
theorem dJ5_length_8abf5_0 : decode cJ5_length_8abf5 0 = .ok (.aload_n 0, 1) := by decide +kernel
theorem dJ5_length_8abf5_1 : decode cJ5_length_8abf5 1 = .ok (.getfield 79, 3) := by decide +kernel
theorem dJ5_length_8abf5_4 : decode cJ5_length_8abf5 4 = .ok (.ireturn, 1) := by decide +kernel
set_option maxRecDepth 100000 in
set_option maxHeartbeats 4000000 in
theorem c_len5 {l : Launch} {g : Nat → Nat} {M : LH} (htr : l.stackTraces = false) {b v : Nat} {N n : Int32} {f : Int32 → Int32} (hS : Sb M b v N n f) : K_J5_length_8abf5 l g 0 0 0 [.ref b] M (RI (fun v M9 => v = n ∧ M9 = M) nX) := by
  refine Ko_J5_length_8abf5 htr (fun X => ?_)
  obtain ⟨⟨ml, hb9⟩, hv9, hn0, hnN, hN9, hf9⟩ := hS
  refine v_aload_n dJ5_length_8abf5_0 rfl rfl ?_
  refine gf_J5_79 dJ5_length_8abf5_1 rfl hb9 ?_
  exact v_iret dJ5_length_8abf5_4 rfl ⟨rfl, rfl⟩ (by omega) (by omega)
theorem dJ4_length_8abf5_0 : decode cJ4_length_8abf5 0 = .ok (.aload_n 0, 1) := by decide +kernel
theorem dJ4_length_8abf5_1 : decode cJ4_length_8abf5 1 = .ok (.invokespecial 343, 3) := by decide +kernel
theorem dJ4_length_8abf5_4 : decode cJ4_length_8abf5 4 = .ok (.ireturn, 1) := by decide +kernel
set_option maxRecDepth 100000 in
set_option maxHeartbeats 4000000 in
theorem c_len4 {l : Launch} {g : Nat → Nat} {M : LH} (htr : l.stackTraces = false) {b v : Nat} {N n : Int32} {f : Int32 → Int32} (hS : Sb M b v N n f) : K_J4_length_8abf5 l g 1 0 0 [.ref b] M (RI (fun v M9 => v = n ∧ M9 = M) nX) := by
  refine Ko_J4_length_8abf5 htr (fun X => ?_)
  have hS0 := hS
  obtain ⟨⟨ml, hb9⟩, hv9, hn0, hnN, hN9, hf9⟩ := hS
  refine v_aload_n dJ4_length_8abf5_0 rfl rfl ?_
  refine k_J4_343 dJ4_length_8abf5_1 rfl (c_len5 htr hS0) hb9 (Nat.le_of_ble_eq_true rfl) (by omega) (by omega) (Nat.le_of_ble_eq_true rfl) (fun r1 M9 h9 => ?_) (fun _ _ h9 => h9.elim)
  obtain ⟨rfl, e9⟩ := h9
  subst M9
  exact v_iret dJ4_length_8abf5_4 rfl ⟨rfl, rfl⟩ (by omega) (by omega)
theorem dJ8_newLength_cabcc_0 : decode cJ8_newLength_cabcc 0 = .ok (.iload_n 0, 1) := by decide +kernel
theorem dJ8_newLength_cabcc_1 : decode cJ8_newLength_cabcc 1 = .ok (.iload_n 1, 1) := by decide +kernel
theorem dJ8_newLength_cabcc_2 : decode cJ8_newLength_cabcc 2 = .ok (.iload_n 2, 1) := by decide +kernel
theorem dJ8_newLength_cabcc_3 : decode cJ8_newLength_cabcc 3 = .ok (.invokestatic 194, 3) := by decide +kernel
theorem dJ8_newLength_cabcc_6 : decode cJ8_newLength_cabcc 6 = .ok (.iadd, 1) := by decide +kernel
theorem dJ8_newLength_cabcc_7 : decode cJ8_newLength_cabcc 7 = .ok (.istore_n 3, 1) := by decide +kernel
theorem dJ8_newLength_cabcc_8 : decode cJ8_newLength_cabcc 8 = .ok (.iconst 0, 1) := by decide +kernel
theorem dJ8_newLength_cabcc_9 : decode cJ8_newLength_cabcc 9 = .ok (.iload_n 3, 1) := by decide +kernel
theorem dJ8_newLength_cabcc_10 : decode cJ8_newLength_cabcc 10 = .ok (.if_icmp .ge 11, 3) := by decide +kernel
theorem dJ8_newLength_cabcc_13 : decode cJ8_newLength_cabcc 13 = .ok (.iload_n 3, 1) := by decide +kernel
theorem dJ8_newLength_cabcc_14 : decode cJ8_newLength_cabcc 14 = .ok (.ldc 200, 2) := by decide +kernel
theorem dJ8_newLength_cabcc_16 : decode cJ8_newLength_cabcc 16 = .ok (.if_icmp .gt 5, 3) := by decide +kernel
theorem dJ8_newLength_cabcc_19 : decode cJ8_newLength_cabcc 19 = .ok (.iload_n 3, 1) := by decide +kernel
theorem dJ8_newLength_cabcc_20 : decode cJ8_newLength_cabcc 20 = .ok (.ireturn, 1) := by decide +kernel
theorem dJ8_newLength_cabcc_21 : decode cJ8_newLength_cabcc 21 = .ok (.iload_n 0, 1) := by decide +kernel
theorem dJ8_newLength_cabcc_22 : decode cJ8_newLength_cabcc 22 = .ok (.iload_n 1, 1) := by decide +kernel
theorem dJ8_newLength_cabcc_23 : decode cJ8_newLength_cabcc 23 = .ok (.invokestatic 201, 3) := by decide +kernel
theorem dJ8_newLength_cabcc_26 : decode cJ8_newLength_cabcc 26 = .ok (.ireturn, 1) := by decide +kernel
set_option maxRecDepth 100000 in
set_option maxHeartbeats 4000000 in
theorem c_newLength {l : Launch} {g : Nat → Nat} {M : LH} (htr : l.stackTraces = false) {p q s : Int32} (p0 : 0 ≤ p) (p1 : p ≤ 4000) (q0 : 0 ≤ q) (q1 : q ≤ 10000) (s0 : 1 ≤ s) (s1 : s ≤ 10000) : K_J8_newLength_cabcc l g 0 0 0 [.int p, .int q, .int s] M (RI (fun v M9 => v = p + (if q < s then s else q) ∧ M9 = M) nX) := by
  refine Ko_J8_newLength_cabcc htr (fun X => ?_)
  refine v_iload_n dJ8_newLength_cabcc_0 rfl rfl ?_
  refine v_iload_n dJ8_newLength_cabcc_1 rfl rfl ?_
  refine v_iload_n dJ8_newLength_cabcc_2 rfl rfl ?_
  refine mm_J8_194 dJ8_newLength_cabcc_3 rfl (Nat.le_of_ble_eq_true rfl) (by omega) (by omega) ?_
  refine v_iadd dJ8_newLength_cabcc_6 ?_
  refine v_istore_3 dJ8_newLength_cabcc_7 ?_
  refine v_iconst (v := 0) dJ8_newLength_cabcc_8 (by decide) ?_
  refine v_iload_n dJ8_newLength_cabcc_9 rfl rfl ?_
  refine v_icmp_ge (tgt := 21) dJ8_newLength_cabcc_10 (by decide) (fun h10 => ?_) (fun h10 => ?_)
  · exact absurd h10 (by split <;> lia)
  · refine v_iload_n dJ8_newLength_cabcc_13 rfl rfl ?_
    refine lc_J8_200 dJ8_newLength_cabcc_14 rfl ?_
    refine v_icmp_gt (tgt := 21) dJ8_newLength_cabcc_16 (by decide) (fun h16 => ?_) (fun h16 => ?_)
    · exact absurd h16 (by split <;> lia)
    · refine v_iload_n dJ8_newLength_cabcc_19 rfl rfl ?_
      exact v_iret dJ8_newLength_cabcc_20 rfl ⟨rfl, rfl⟩ (by omega) (by omega)
theorem dJ5_newCapacity_0f7a4_0 : decode cJ5_newCapacity_0f7a4 0 = .ok (.aload_n 0, 1) := by decide +kernel
theorem dJ5_newCapacity_0f7a4_1 : decode cJ5_newCapacity_0f7a4 1 = .ok (.getfield 15, 3) := by decide +kernel
theorem dJ5_newCapacity_0f7a4_4 : decode cJ5_newCapacity_0f7a4 4 = .ok (.arraylength, 1) := by decide +kernel
theorem dJ5_newCapacity_0f7a4_5 : decode cJ5_newCapacity_0f7a4 5 = .ok (.istore_n 2, 1) := by decide +kernel
theorem dJ5_newCapacity_0f7a4_6 : decode cJ5_newCapacity_0f7a4 6 = .ok (.iload_n 1, 1) := by decide +kernel
theorem dJ5_newCapacity_0f7a4_7 : decode cJ5_newCapacity_0f7a4 7 = .ok (.aload_n 0, 1) := by decide +kernel
theorem dJ5_newCapacity_0f7a4_8 : decode cJ5_newCapacity_0f7a4 8 = .ok (.getfield 22, 3) := by decide +kernel
theorem dJ5_newCapacity_0f7a4_11 : decode cJ5_newCapacity_0f7a4 11 = .ok (.ishl, 1) := by decide +kernel
theorem dJ5_newCapacity_0f7a4_12 : decode cJ5_newCapacity_0f7a4 12 = .ok (.istore_n 3, 1) := by decide +kernel
theorem dJ5_newCapacity_0f7a4_13 : decode cJ5_newCapacity_0f7a4 13 = .ok (.iload_n 3, 1) := by decide +kernel
theorem dJ5_newCapacity_0f7a4_14 : decode cJ5_newCapacity_0f7a4 14 = .ok (.iload_n 2, 1) := by decide +kernel
theorem dJ5_newCapacity_0f7a4_15 : decode cJ5_newCapacity_0f7a4 15 = .ok (.isub, 1) := by decide +kernel
theorem dJ5_newCapacity_0f7a4_16 : decode cJ5_newCapacity_0f7a4 16 = .ok (.istore 4, 2) := by decide +kernel
theorem dJ5_newCapacity_0f7a4_18 : decode cJ5_newCapacity_0f7a4 18 = .ok (.iload_n 2, 1) := by decide +kernel
theorem dJ5_newCapacity_0f7a4_19 : decode cJ5_newCapacity_0f7a4 19 = .ok (.iload 4, 2) := by decide +kernel
theorem dJ5_newCapacity_0f7a4_21 : decode cJ5_newCapacity_0f7a4 21 = .ok (.iload_n 2, 1) := by decide +kernel
theorem dJ5_newCapacity_0f7a4_22 : decode cJ5_newCapacity_0f7a4 22 = .ok (.iconst 2, 1) := by decide +kernel
theorem dJ5_newCapacity_0f7a4_23 : decode cJ5_newCapacity_0f7a4 23 = .ok (.aload_n 0, 1) := by decide +kernel
theorem dJ5_newCapacity_0f7a4_24 : decode cJ5_newCapacity_0f7a4 24 = .ok (.getfield 22, 3) := by decide +kernel
theorem dJ5_newCapacity_0f7a4_27 : decode cJ5_newCapacity_0f7a4 27 = .ok (.ishl, 1) := by decide +kernel
theorem dJ5_newCapacity_0f7a4_28 : decode cJ5_newCapacity_0f7a4 28 = .ok (.iadd, 1) := by decide +kernel
theorem dJ5_newCapacity_0f7a4_29 : decode cJ5_newCapacity_0f7a4 29 = .ok (.invokestatic 114, 3) := by decide +kernel
theorem dJ5_newCapacity_0f7a4_32 : decode cJ5_newCapacity_0f7a4 32 = .ok (.istore 5, 2) := by decide +kernel
theorem dJ5_newCapacity_0f7a4_34 : decode cJ5_newCapacity_0f7a4 34 = .ok (.iload 5, 2) := by decide +kernel
theorem dJ5_newCapacity_0f7a4_36 : decode cJ5_newCapacity_0f7a4 36 = .ok (.ldc 39, 2) := by decide +kernel
theorem dJ5_newCapacity_0f7a4_38 : decode cJ5_newCapacity_0f7a4 38 = .ok (.if_icmp .ne 13, 3) := by decide +kernel
theorem dJ5_newCapacity_0f7a4_41 : decode cJ5_newCapacity_0f7a4 41 = .ok (.new 120, 3) := by decide +kernel
theorem dJ5_newCapacity_0f7a4_44 : decode cJ5_newCapacity_0f7a4 44 = .ok (.dup, 1) := by decide +kernel
theorem dJ5_newCapacity_0f7a4_45 : decode cJ5_newCapacity_0f7a4 45 = .ok (.ldc 122, 2) := by decide +kernel
theorem dJ5_newCapacity_0f7a4_47 : decode cJ5_newCapacity_0f7a4 47 = .ok (.invokespecial 124, 3) := by decide +kernel
theorem dJ5_newCapacity_0f7a4_50 : decode cJ5_newCapacity_0f7a4 50 = .ok (.athrow, 1) := by decide +kernel
theorem dJ5_newCapacity_0f7a4_51 : decode cJ5_newCapacity_0f7a4 51 = .ok (.iload 5, 2) := by decide +kernel
theorem dJ5_newCapacity_0f7a4_53 : decode cJ5_newCapacity_0f7a4 53 = .ok (.aload_n 0, 1) := by decide +kernel
theorem dJ5_newCapacity_0f7a4_54 : decode cJ5_newCapacity_0f7a4 54 = .ok (.getfield 22, 3) := by decide +kernel
theorem dJ5_newCapacity_0f7a4_57 : decode cJ5_newCapacity_0f7a4 57 = .ok (.ishr, 1) := by decide +kernel
theorem dJ5_newCapacity_0f7a4_58 : decode cJ5_newCapacity_0f7a4 58 = .ok (.ireturn, 1) := by decide +kernel
set_option maxRecDepth 100000 in
set_option maxHeartbeats 4000000 in
theorem c_newCap {l : Launch} {g : Nat → Nat} {M : LH} (htr : l.stackTraces = false) {b v : Nat} {N n : Int32} {f : Int32 → Int32} (hS : Sb M b v N n f) {m : Int32} (m0 : N < m) (m1 : m ≤ 2 * N + 2) (hN4 : N ≤ 4000) : K_J5_newCapacity_0f7a4 l g 1 0 0 [.ref b, .int m] M (RI (fun r M9 => r = 2 * N + 2 ∧ M9 = M) nX) := by
  refine Ko_J5_newCapacity_0f7a4 htr (fun X => ?_)
  have N0 : 0 ≤ N := Int32.le_trans hS.2.2.1 hS.2.2.2.1
  obtain ⟨⟨ml, hb9⟩, hv9, hn0, hnN, hN9, hf9⟩ := hS
  refine v_aload_n dJ5_newCapacity_0f7a4_0 rfl rfl ?_
  refine gf_J5_15 dJ5_newCapacity_0f7a4_1 rfl hb9 ?_
  refine v_balen dJ5_newCapacity_0f7a4_4 hv9 ?_
  refine v_istore_2 dJ5_newCapacity_0f7a4_5 ?_
  refine v_iload_n dJ5_newCapacity_0f7a4_6 rfl rfl ?_
  refine v_aload_n dJ5_newCapacity_0f7a4_7 rfl rfl ?_
  refine gf_J5_22 dJ5_newCapacity_0f7a4_8 rfl hb9 ?_
  refine v_ishl dJ5_newCapacity_0f7a4_11 ?_
  rw [sl0]
  refine v_istore_3 dJ5_newCapacity_0f7a4_12 ?_
  refine v_iload_n dJ5_newCapacity_0f7a4_13 rfl rfl ?_
  refine v_iload_n dJ5_newCapacity_0f7a4_14 rfl rfl ?_
  refine v_isub dJ5_newCapacity_0f7a4_15 ?_
  refine v_istore_4 dJ5_newCapacity_0f7a4_16 ?_
  refine v_iload_n dJ5_newCapacity_0f7a4_18 rfl rfl ?_
  refine v_iload dJ5_newCapacity_0f7a4_19 rfl ?_
  refine v_iload_n dJ5_newCapacity_0f7a4_21 rfl rfl ?_
  refine v_iconst (v := 2) dJ5_newCapacity_0f7a4_22 (by decide) ?_
  refine v_aload_n dJ5_newCapacity_0f7a4_23 rfl rfl ?_
  refine gf_J5_22 dJ5_newCapacity_0f7a4_24 rfl hb9 ?_
  refine v_ishl dJ5_newCapacity_0f7a4_27 ?_
  rw [sl0]
  refine v_iadd dJ5_newCapacity_0f7a4_28 ?_
  refine k_J5_114 dJ5_newCapacity_0f7a4_29 rfl (c_newLength htr N0 hN4 (q := m - N) (by lia) (by lia) (s := N + 2) (by lia) (by lia)) (Nat.le_of_ble_eq_true rfl) (by omega) (by omega) (Nat.le_of_ble_eq_true rfl) (fun r29 M9 h9 => ?_) (fun _ _ h9 => h9.elim)
  obtain ⟨hr9, e9⟩ := h9
  subst M9
  obtain rfl : r29 = 2 * N + 2 := by (rw [hr9]; split <;> lia)
  refine v_istore_5 dJ5_newCapacity_0f7a4_32 ?_
  refine v_iload dJ5_newCapacity_0f7a4_34 rfl ?_
  refine lc_J5_39 dJ5_newCapacity_0f7a4_36 rfl ?_
  refine v_icmp_ne (tgt := 51) dJ5_newCapacity_0f7a4_38 (by decide) (fun h38 => ?_) (fun h38 => ?_)
  · refine v_iload dJ5_newCapacity_0f7a4_51 rfl ?_
    refine v_aload_n dJ5_newCapacity_0f7a4_53 rfl rfl ?_
    refine gf_J5_22 dJ5_newCapacity_0f7a4_54 rfl hb9 ?_
    refine v_ishr dJ5_newCapacity_0f7a4_57 ?_
    rw [sr0]
    exact v_iret dJ5_newCapacity_0f7a4_58 rfl ⟨rfl, rfl⟩ (by omega) (by omega)
  · exact absurd h38 (by lia)
theorem dJ7_copyOf_9075b_0 : decode cJ7_copyOf_9075b 0 = .ok (.iload_n 1, 1) := by decide +kernel
theorem dJ7_copyOf_9075b_1 : decode cJ7_copyOf_9075b 1 = .ok (.aload_n 0, 1) := by decide +kernel
theorem dJ7_copyOf_9075b_2 : decode cJ7_copyOf_9075b 2 = .ok (.arraylength, 1) := by decide +kernel
theorem dJ7_copyOf_9075b_3 : decode cJ7_copyOf_9075b 3 = .ok (.if_icmp .ne 11, 3) := by decide +kernel
theorem dJ7_copyOf_9075b_6 : decode cJ7_copyOf_9075b 6 = .ok (.aload_n 0, 1) := by decide +kernel
theorem dJ7_copyOf_9075b_7 : decode cJ7_copyOf_9075b 7 = .ok (.invokevirtual 310, 3) := by decide +kernel
theorem dJ7_copyOf_9075b_10 : decode cJ7_copyOf_9075b 10 = .ok (.checkcast 311, 3) := by decide +kernel
theorem dJ7_copyOf_9075b_13 : decode cJ7_copyOf_9075b 13 = .ok (.areturn, 1) := by decide +kernel
theorem dJ7_copyOf_9075b_14 : decode cJ7_copyOf_9075b 14 = .ok (.iload_n 1, 1) := by decide +kernel
theorem dJ7_copyOf_9075b_15 : decode cJ7_copyOf_9075b 15 = .ok (.newarray .byte, 2) := by decide +kernel
theorem dJ7_copyOf_9075b_17 : decode cJ7_copyOf_9075b 17 = .ok (.astore_n 2, 1) := by decide +kernel
theorem dJ7_copyOf_9075b_18 : decode cJ7_copyOf_9075b 18 = .ok (.aload_n 0, 1) := by decide +kernel
theorem dJ7_copyOf_9075b_19 : decode cJ7_copyOf_9075b 19 = .ok (.iconst 0, 1) := by decide +kernel
theorem dJ7_copyOf_9075b_20 : decode cJ7_copyOf_9075b 20 = .ok (.aload_n 2, 1) := by decide +kernel
theorem dJ7_copyOf_9075b_21 : decode cJ7_copyOf_9075b 21 = .ok (.iconst 0, 1) := by decide +kernel
theorem dJ7_copyOf_9075b_22 : decode cJ7_copyOf_9075b 22 = .ok (.aload_n 0, 1) := by decide +kernel
theorem dJ7_copyOf_9075b_23 : decode cJ7_copyOf_9075b 23 = .ok (.arraylength, 1) := by decide +kernel
theorem dJ7_copyOf_9075b_24 : decode cJ7_copyOf_9075b 24 = .ok (.iload_n 1, 1) := by decide +kernel
theorem dJ7_copyOf_9075b_25 : decode cJ7_copyOf_9075b 25 = .ok (.invokestatic 304, 3) := by decide +kernel
theorem dJ7_copyOf_9075b_28 : decode cJ7_copyOf_9075b 28 = .ok (.invokestatic 150, 3) := by decide +kernel
theorem dJ7_copyOf_9075b_31 : decode cJ7_copyOf_9075b 31 = .ok (.aload_n 2, 1) := by decide +kernel
theorem dJ7_copyOf_9075b_32 : decode cJ7_copyOf_9075b 32 = .ok (.areturn, 1) := by decide +kernel
set_option maxRecDepth 100000 in
set_option maxHeartbeats 4000000 in
theorem c_copyOf {l : Launch} {g : Nat → Nat} {M : LH} (htr : l.stackTraces = false) {v : Nat} {N m : Int32} {f : Int32 → Int32} (hv9 : M v = some (ba N f)) (N0 : 0 ≤ N) (hf9 : ∀ j, 0 ≤ j → j < N → 0 ≤ f j ∧ f j < 128) (m0 : N < m) (m1 : m ≤ 10000) : K_J7_copyOf_9075b l g 0 1 m.toNatClampNeg [.ref v, .int m] M (RA (fun r M9 => M r = none ∧ M9 = hup M r (ba m (fun j => if j < N then f j else 0))) nX) := by
  refine Ko_J7_copyOf_9075b htr (fun X => ?_)
  refine v_iload_n dJ7_copyOf_9075b_0 rfl rfl ?_
  refine v_aload_n dJ7_copyOf_9075b_1 rfl rfl ?_
  refine v_balen dJ7_copyOf_9075b_2 hv9 ?_
  refine v_icmp_ne (tgt := 14) dJ7_copyOf_9075b_3 (by decide) (fun h3 => ?_) (fun h3 => ?_)
  · refine v_iload_n dJ7_copyOf_9075b_14 rfl rfl ?_
    refine v_newa (ty := .byte) dJ7_copyOf_9075b_15 (Ut_of (mt_2 60 rfl) rfl) rfl rfl (by decide) (by lia) (by lia) (by omega) (by omega) (fun q hq => ?_)
    have nq : ¬ v = q := fun z => by rw [z, hq] at hv9; simp at hv9
    refine v_astore_2 dJ7_copyOf_9075b_17 ?_
    refine v_aload_n dJ7_copyOf_9075b_18 rfl rfl ?_
    refine v_iconst (v := 0) dJ7_copyOf_9075b_19 (by decide) ?_
    refine v_aload_n dJ7_copyOf_9075b_20 rfl rfl ?_
    refine v_iconst (v := 0) dJ7_copyOf_9075b_21 (by decide) ?_
    refine v_aload_n dJ7_copyOf_9075b_22 rfl rfl ?_
    refine v_balen dJ7_copyOf_9075b_23 ((hup_n nq).trans hv9) ?_
    refine v_iload_n dJ7_copyOf_9075b_24 rfl rfl ?_
    refine mm_J7_304 dJ7_copyOf_9075b_25 rfl (Nat.le_of_ble_eq_true rfl) (by omega) (by omega) ?_
    rw [if_neg (by lia : ¬ m < N)]
    refine ac_J7_150 dJ7_copyOf_9075b_28 rfl ((hup_n nq).trans hv9) (hup_s : _ = some (ba m (fun _ => 0))) (by lia) hf9 (Nat.le_of_ble_eq_true rfl) ?_
    rw [hup_hup]
    refine v_aload_n dJ7_copyOf_9075b_31 rfl rfl ?_
    exact v_aretA dJ7_copyOf_9075b_32 rfl ⟨hq, rfl⟩ (by omega) (by omega)
  · exact absurd m0 (by lia)
theorem dJ5_ensureCapacityInternal_d00df_0 : decode cJ5_ensureCapacityInternal_d00df 0 = .ok (.aload_n 0, 1) := by decide +kernel
theorem dJ5_ensureCapacityInternal_d00df_1 : decode cJ5_ensureCapacityInternal_d00df 1 = .ok (.getfield 15, 3) := by decide +kernel
theorem dJ5_ensureCapacityInternal_d00df_4 : decode cJ5_ensureCapacityInternal_d00df 4 = .ok (.arraylength, 1) := by decide +kernel
theorem dJ5_ensureCapacityInternal_d00df_5 : decode cJ5_ensureCapacityInternal_d00df 5 = .ok (.aload_n 0, 1) := by decide +kernel
theorem dJ5_ensureCapacityInternal_d00df_6 : decode cJ5_ensureCapacityInternal_d00df 6 = .ok (.getfield 22, 3) := by decide +kernel
theorem dJ5_ensureCapacityInternal_d00df_9 : decode cJ5_ensureCapacityInternal_d00df 9 = .ok (.ishr, 1) := by decide +kernel
theorem dJ5_ensureCapacityInternal_d00df_10 : decode cJ5_ensureCapacityInternal_d00df 10 = .ok (.istore_n 2, 1) := by decide +kernel
theorem dJ5_ensureCapacityInternal_d00df_11 : decode cJ5_ensureCapacityInternal_d00df 11 = .ok (.iload_n 1, 1) := by decide +kernel
theorem dJ5_ensureCapacityInternal_d00df_12 : decode cJ5_ensureCapacityInternal_d00df 12 = .ok (.iload_n 2, 1) := by decide +kernel
theorem dJ5_ensureCapacityInternal_d00df_13 : decode cJ5_ensureCapacityInternal_d00df 13 = .ok (.isub, 1) := by decide +kernel
theorem dJ5_ensureCapacityInternal_d00df_14 : decode cJ5_ensureCapacityInternal_d00df 14 = .ok (.ifCond .le 24, 3) := by decide +kernel
theorem dJ5_ensureCapacityInternal_d00df_17 : decode cJ5_ensureCapacityInternal_d00df 17 = .ok (.aload_n 0, 1) := by decide +kernel
theorem dJ5_ensureCapacityInternal_d00df_18 : decode cJ5_ensureCapacityInternal_d00df 18 = .ok (.aload_n 0, 1) := by decide +kernel
theorem dJ5_ensureCapacityInternal_d00df_19 : decode cJ5_ensureCapacityInternal_d00df 19 = .ok (.getfield 15, 3) := by decide +kernel
theorem dJ5_ensureCapacityInternal_d00df_22 : decode cJ5_ensureCapacityInternal_d00df 22 = .ok (.aload_n 0, 1) := by decide +kernel
theorem dJ5_ensureCapacityInternal_d00df_23 : decode cJ5_ensureCapacityInternal_d00df 23 = .ok (.iload_n 1, 1) := by decide +kernel
theorem dJ5_ensureCapacityInternal_d00df_24 : decode cJ5_ensureCapacityInternal_d00df 24 = .ok (.invokevirtual 104, 3) := by decide +kernel
theorem dJ5_ensureCapacityInternal_d00df_27 : decode cJ5_ensureCapacityInternal_d00df 27 = .ok (.aload_n 0, 1) := by decide +kernel
theorem dJ5_ensureCapacityInternal_d00df_28 : decode cJ5_ensureCapacityInternal_d00df 28 = .ok (.getfield 22, 3) := by decide +kernel
theorem dJ5_ensureCapacityInternal_d00df_31 : decode cJ5_ensureCapacityInternal_d00df 31 = .ok (.ishl, 1) := by decide +kernel
theorem dJ5_ensureCapacityInternal_d00df_32 : decode cJ5_ensureCapacityInternal_d00df 32 = .ok (.invokestatic 108, 3) := by decide +kernel
theorem dJ5_ensureCapacityInternal_d00df_35 : decode cJ5_ensureCapacityInternal_d00df 35 = .ok (.putfield 15, 3) := by decide +kernel
theorem dJ5_ensureCapacityInternal_d00df_38 : decode cJ5_ensureCapacityInternal_d00df 38 = .ok (.return_, 1) := by decide +kernel
set_option maxRecDepth 100000 in
set_option maxHeartbeats 4000000 in
theorem c_ensure {l : Launch} {g : Nat → Nat} {M : LH} (htr : l.stackTraces = false) {b v : Nat} {N n : Int32} {f : Int32 → Int32} (hS : Sb M b v N n f) {m : Int32} (m0 : 0 ≤ m) (m1 : m ≤ 2 * N + 2) (hN4 : N ≤ 4000) : K_J5_ensureCapacityInternal_d00df l g 2 (gc N m) (gs N m) [.ref b, .int m] M (RV (fun M9 => ∃ v' f', Sb M9 b v' (gN N m) n f' ∧ (∀ j, 0 ≤ j → j < n → f' j = f j) ∧ FB b v M M9 ∧ (v' = v ∨ M v' = none)) nX) := by
  refine Ko_J5_ensureCapacityInternal_d00df htr (fun X => ?_)
  have N0 : 0 ≤ N := Int32.le_trans hS.2.2.1 hS.2.2.2.1
  have hS0 := hS
  obtain ⟨⟨ml, hb9⟩, hv9, hn0, hnN, hN9, hf9⟩ := hS
  by_cases h : m ≤ N
  · rw [show gc N m = 0 from if_pos h, show gs N m = 0 from if_pos h, show gN N m = N from if_pos h]
    refine v_aload_n dJ5_ensureCapacityInternal_d00df_0 rfl rfl ?_
    refine gf_J5_15 dJ5_ensureCapacityInternal_d00df_1 rfl hb9 ?_
    refine v_balen dJ5_ensureCapacityInternal_d00df_4 hv9 ?_
    refine v_aload_n dJ5_ensureCapacityInternal_d00df_5 rfl rfl ?_
    refine gf_J5_22 dJ5_ensureCapacityInternal_d00df_6 rfl hb9 ?_
    refine v_ishr dJ5_ensureCapacityInternal_d00df_9 ?_
    rw [sr0]
    refine v_istore_2 dJ5_ensureCapacityInternal_d00df_10 ?_
    refine v_iload_n dJ5_ensureCapacityInternal_d00df_11 rfl rfl ?_
    refine v_iload_n dJ5_ensureCapacityInternal_d00df_12 rfl rfl ?_
    refine v_isub dJ5_ensureCapacityInternal_d00df_13 ?_
    refine v_if_le (tgt := 38) dJ5_ensureCapacityInternal_d00df_14 (by decide) (fun h14 => ?_) (fun h14 => ?_)
    · exact v_vret dJ5_ensureCapacityInternal_d00df_38 rfl ⟨v, f, hS0, fun _ _ _ => rfl, FB.rf, Or.inl rfl⟩ (by omega) (by omega)
    · exact absurd h14 (by lia)
  · have m2 : N < m := by lia
    rw [show gc N m = 1 from if_neg h, show gs N m = (2 * N + 2).toNatClampNeg from if_neg h, show gN N m = 2 * N + 2 from if_neg h]
    refine v_aload_n dJ5_ensureCapacityInternal_d00df_0 rfl rfl ?_
    refine gf_J5_15 dJ5_ensureCapacityInternal_d00df_1 rfl hb9 ?_
    refine v_balen dJ5_ensureCapacityInternal_d00df_4 hv9 ?_
    refine v_aload_n dJ5_ensureCapacityInternal_d00df_5 rfl rfl ?_
    refine gf_J5_22 dJ5_ensureCapacityInternal_d00df_6 rfl hb9 ?_
    refine v_ishr dJ5_ensureCapacityInternal_d00df_9 ?_
    rw [sr0]
    refine v_istore_2 dJ5_ensureCapacityInternal_d00df_10 ?_
    refine v_iload_n dJ5_ensureCapacityInternal_d00df_11 rfl rfl ?_
    refine v_iload_n dJ5_ensureCapacityInternal_d00df_12 rfl rfl ?_
    refine v_isub dJ5_ensureCapacityInternal_d00df_13 ?_
    refine v_if_le (tgt := 38) dJ5_ensureCapacityInternal_d00df_14 (by decide) (fun h14 => ?_) (fun h14 => ?_)
    · exact absurd h14 (by lia)
    · refine v_aload_n dJ5_ensureCapacityInternal_d00df_17 rfl rfl ?_
      refine v_aload_n dJ5_ensureCapacityInternal_d00df_18 rfl rfl ?_
      refine gf_J5_15 dJ5_ensureCapacityInternal_d00df_19 rfl hb9 ?_
      refine v_aload_n dJ5_ensureCapacityInternal_d00df_22 rfl rfl ?_
      refine v_iload_n dJ5_ensureCapacityInternal_d00df_23 rfl rfl ?_
      refine k_J5_104 dJ5_ensureCapacityInternal_d00df_24 rfl (c_newCap htr hS0 m2 m1 hN4) hb9 (Nat.le_of_ble_eq_true rfl) (by omega) (by omega) (Nat.le_of_ble_eq_true rfl) (fun r24 M9 h9 => ?_) (fun _ _ h9 => h9.elim)
      obtain ⟨rfl, e9⟩ := h9
      subst M9
      refine v_aload_n dJ5_ensureCapacityInternal_d00df_27 rfl rfl ?_
      refine gf_J5_22 dJ5_ensureCapacityInternal_d00df_28 rfl hb9 ?_
      refine v_ishl dJ5_ensureCapacityInternal_d00df_31 ?_
      rw [sl0]
      refine k_J5_108 dJ5_ensureCapacityInternal_d00df_32 rfl (c_copyOf htr hv9 N0 hf9 (m := 2 * N + 2) (by lia) (by lia)) (Nat.le_of_ble_eq_true rfl) (by omega) (by omega) (Nat.le_of_ble_eq_true rfl) (fun r32 M9 h9 => ?_) (fun _ _ h9 => h9.elim)
      obtain ⟨hq9, e9⟩ := h9
      subst M9
      generalize r32 = q9 at hq9 ⊢
      have nbq : ¬ b = q9 := fun z => by rw [z, hq9] at hb9; simp at hb9
      have nqb : ¬ q9 = b := fun z => nbq z.symm
      refine pf_J5_15 dJ5_ensureCapacityInternal_d00df_35 rfl ((hup_n nbq).trans hb9) ?_
      exact v_vret dJ5_ensureCapacityInternal_d00df_38 rfl ⟨q9, (fun j => if j < N then f j else 0), ⟨⟨ml, hup_s⟩, (hup_n nqb).trans hup_s, hn0, by lia, by lia, fun j j0 j1 => by (by_cases z : j < N <;> simp only [z, if_true, if_false]; exact hf9 j j0 z; exact ⟨by decide, by decide⟩)⟩, fun j j0 j1 => if_pos (by lia), fun x e hx hb hn => (hup_n hb).trans ((hup_n (fun z => by rw [z, hq9] at hx; simp at hx)).trans hx), Or.inr hq9⟩ (by omega) (by omega)
