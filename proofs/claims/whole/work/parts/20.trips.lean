/-! ===== the round trips ===== -/
theorem bit_rm : ∀ j, j < 128 → ∀ h, h < 7 → bitI (nI j) (nI h) = 1 → ∃ j', j' < j ∧ nI j &&& (sbit (nI h) ^^^ -1) = nI j' ∧ pcN (nI j') 7 + 1 = pcN (nI j) 7 := by decide +kernel
theorem pc_z : ∀ j, j < 128 → pcN (nI j) 7 = 0 → j = 0 := by decide +kernel
theorem nz_7 : ∀ j, j < 128 → (nI j = 0 ↔ j = 0) := by decide +kernel
theorem rm_of {j : Nat} (hj : j < 128) {h : Int32} (h0 : 0 ≤ h) (h1 : h < 7) (hb : ¬ bitI (nI j) h = 0) : ∃ j', j' < j ∧ nI j &&& (sbit h ^^^ -1) = nI j' ∧ pcN (nI j') 7 + 1 = pcN (nI j) 7 := by
  have b : bitI (nI j) h = 1 := by
    rcases bit01 hj h0 h1 with b | b
    · exact absurd b hb
    · exact b
  have q := bit_rm j hj _ (tc7 h0 h1) (by rw [tc_nI h0]; exact b)
  rwa [tc_nI h0] at q
theorem sub_rm {a b c : Int32} (h : a &&& b = 0) : (a &&& c) &&& b = 0 := by
  rw [Int32.and_assoc, Int32.and_comm c b, ← Int32.and_assoc, h, Int32.zero_and]
def mIx (x z : Int32) : Int32 := if z < x then z else x
/-- the least of f over the stations below k that are in m, far where there is none -/
def mnN (m : Int32) (f : Int32 → Int32) : Nat → Int32
  | 0 => 1000000
  | k + 1 => if bitI m (nI k) = 0 then mnN m f k else mIx (mnN m f k) (f (nI k))
theorem mnN_1 {m : Int32} {f : Int32 → Int32} {i : Int32} (h0 : 0 ≤ i) (h1 : i < 7) : mnN m f (i + 1).toNatClampNeg = if bitI m i = 0 then mnN m f i.toNatClampNeg else mIx (mnN m f i.toNatClampNeg) (f i) := by
  rw [(tc_i1 h0 h1).1]
  show (if bitI m (nI i.toNatClampNeg) = 0 then mnN m f i.toNatClampNeg else mIx (mnN m f i.toNatClampNeg) (f (nI i.toNatClampNeg))) = _
  rw [tc_nI h0]
theorem nI7 : ∀ k, k < 7 → 0 ≤ nI k ∧ nI k < 7 := by decide
theorem mnN_cg {m : Int32} {f g : Int32 → Int32} (h : ∀ i, 0 ≤ i → i < 7 → ¬ bitI m i = 0 → f i = g i) : ∀ k, k ≤ 7 → mnN m f k = mnN m g k := by
  intro k
  induction k with
  | zero => exact fun _ => rfl
  | succ k ih =>
    intro hk
    show (if bitI m (nI k) = 0 then mnN m f k else mIx (mnN m f k) (f (nI k))) = (if bitI m (nI k) = 0 then mnN m g k else mIx (mnN m g k) (g (nI k)))
    rw [ih (by omega)]
    by_cases e : bitI m (nI k) = 0
    · rw [if_pos e, if_pos e]
    · rw [if_neg e, if_neg e, h (nI k) (nI7 k (by omega)).1 (nI7 k (by omega)).2 e]
/-- the rest of a round trip from here through m to home -/
def rF (D : Int32 → Int32) (home : Int32) : Nat → Int32 → Int32 → Int32
  | 0, here, _ => D (here * 7 + home)
  | k + 1, here, m => if m = 0 then D (here * 7 + home) else mnN m (fun i => D (here * 7 + i) + rF D home k i (m &&& (sbit i ^^^ -1))) 7
/-- the way to last over the others, by the table f -/
def wy (D f : Int32 → Int32) (home m last : Int32) : Int32 := if m = 0 then D (home * 7 + last) else mnN m (fun i => f (m * 7 + i) + D (i * 7 + last)) 7
/-- the way from home through m that ends in last -/
def wF (D : Int32 → Int32) (home : Int32) : Nat → Int32 → Int32 → Int32
  | 0, _, _ => 0
  | k + 1, m, last => if m &&& (sbit last ^^^ -1) = 0 then D (home * 7 + last) else mnN (m &&& (sbit last ^^^ -1)) (fun i => wF D home k (m &&& (sbit last ^^^ -1)) i + D (i * 7 + last)) 7
theorem wy_cg {D f g : Int32 → Int32} {home m last : Int32} (h : ∀ i, 0 ≤ i → i < 7 → ¬ bitI m i = 0 → f (m * 7 + i) = g (m * 7 + i)) : wy D f home m last = wy D g home m last := by
  unfold wy
  by_cases e : m = 0
  · rw [if_pos e, if_pos e]
  · rw [if_neg e, if_neg e]
    exact mnN_cg (fun i i0 i1 hi => by rw [h i i0 i1 hi]) 7 (Nat.le_refl 7)
theorem set_inj {s x s' x' : Int32} (h0 : 0 ≤ s) (h1 : s < 128) (g0 : 0 ≤ x) (g1 : x < 7) (h0' : 0 ≤ s') (h1' : s' < 128) (g0' : 0 ≤ x') (g1' : x' < 7) (h : s * 7 + x = s' * 7 + x') : s = s' ∧ x = x' := by lia
theorem set_in {s x : Int32} (h0 : 0 ≤ s) (h1 : s < 128) (g0 : 0 ≤ x) (g1 : x < 7) : 0 ≤ s * 7 + x ∧ s * 7 + x < 896 := by lia
theorem nI_128 : ∀ j, j < 128 → 0 ≤ nI j ∧ nI j < 128 := by decide
theorem nI7_lt : ∀ j, j < 128 → ∀ j', j' < j → nI j' < nI j := by decide +kernel
theorem nI7_b : ∀ j, j < 129 → nI j < 128 → j < 128 := by decide +kernel
theorem nI7_n : ∀ j, j < 128 → nI j &&& (nI j ^^^ -1) = 0 := by decide +kernel
theorem nI_t {j : Nat} (h : j < 128) : (nI j).toNatClampNeg = j := by
  have : ∀ j, j < 128 → (nI j).toNatClampNeg = j := by decide
  exact this j h
theorem dX6_wayTo_0 : decode cX6_wayTo 0 = .ok (.iload_n 3, 1) := by decide +kernel
theorem dX6_wayTo_1 : decode cX6_wayTo 1 = .ok (.ifCond .ne 12, 3) := by decide +kernel
theorem dX6_wayTo_4 : decode cX6_wayTo 4 = .ok (.aload_n 1, 1) := by decide +kernel
theorem dX6_wayTo_5 : decode cX6_wayTo 5 = .ok (.iload_n 2, 1) := by decide +kernel
theorem dX6_wayTo_6 : decode cX6_wayTo 6 = .ok (.iload 4, 2) := by decide +kernel
theorem dX6_wayTo_8 : decode cX6_wayTo 8 = .ok (.invokestatic 24, 3) := by decide +kernel
theorem dX6_wayTo_11 : decode cX6_wayTo 11 = .ok (.iaload, 1) := by decide +kernel
theorem dX6_wayTo_12 : decode cX6_wayTo 12 = .ok (.ireturn, 1) := by decide +kernel
theorem dX6_wayTo_13 : decode cX6_wayTo 13 = .ok (.ldc 19, 2) := by decide +kernel
theorem dX6_wayTo_15 : decode cX6_wayTo 15 = .ok (.istore 5, 2) := by decide +kernel
theorem dX6_wayTo_17 : decode cX6_wayTo 17 = .ok (.iconst 0, 1) := by decide +kernel
theorem dX6_wayTo_18 : decode cX6_wayTo 18 = .ok (.istore 6, 2) := by decide +kernel
theorem dX6_wayTo_20 : decode cX6_wayTo 20 = .ok (.iload 6, 2) := by decide +kernel
theorem dX6_wayTo_22 : decode cX6_wayTo 22 = .ok (.bipush 7, 2) := by decide +kernel
theorem dX6_wayTo_24 : decode cX6_wayTo 24 = .ok (.if_icmp .ge 50, 3) := by decide +kernel
theorem dX6_wayTo_27 : decode cX6_wayTo 27 = .ok (.iload_n 3, 1) := by decide +kernel
theorem dX6_wayTo_28 : decode cX6_wayTo 28 = .ok (.iload 6, 2) := by decide +kernel
theorem dX6_wayTo_30 : decode cX6_wayTo 30 = .ok (.invokestatic 20, 3) := by decide +kernel
theorem dX6_wayTo_33 : decode cX6_wayTo 33 = .ok (.ifCond .eq 35, 3) := by decide +kernel
theorem dX6_wayTo_36 : decode cX6_wayTo 36 = .ok (.aload_n 0, 1) := by decide +kernel
theorem dX6_wayTo_37 : decode cX6_wayTo 37 = .ok (.getfield 11, 3) := by decide +kernel
theorem dX6_wayTo_40 : decode cX6_wayTo 40 = .ok (.iload_n 3, 1) := by decide +kernel
theorem dX6_wayTo_41 : decode cX6_wayTo 41 = .ok (.iload 6, 2) := by decide +kernel
theorem dX6_wayTo_43 : decode cX6_wayTo 43 = .ok (.invokestatic 24, 3) := by decide +kernel
theorem dX6_wayTo_46 : decode cX6_wayTo 46 = .ok (.iaload, 1) := by decide +kernel
theorem dX6_wayTo_47 : decode cX6_wayTo 47 = .ok (.aload_n 1, 1) := by decide +kernel
theorem dX6_wayTo_48 : decode cX6_wayTo 48 = .ok (.iload 6, 2) := by decide +kernel
theorem dX6_wayTo_50 : decode cX6_wayTo 50 = .ok (.iload 4, 2) := by decide +kernel
theorem dX6_wayTo_52 : decode cX6_wayTo 52 = .ok (.invokestatic 24, 3) := by decide +kernel
theorem dX6_wayTo_55 : decode cX6_wayTo 55 = .ok (.iaload, 1) := by decide +kernel
theorem dX6_wayTo_56 : decode cX6_wayTo 56 = .ok (.iadd, 1) := by decide +kernel
theorem dX6_wayTo_57 : decode cX6_wayTo 57 = .ok (.istore 7, 2) := by decide +kernel
theorem dX6_wayTo_59 : decode cX6_wayTo 59 = .ok (.iload 5, 2) := by decide +kernel
theorem dX6_wayTo_61 : decode cX6_wayTo 61 = .ok (.iload 7, 2) := by decide +kernel
theorem dX6_wayTo_63 : decode cX6_wayTo 63 = .ok (.invokestatic 28, 3) := by decide +kernel
theorem dX6_wayTo_66 : decode cX6_wayTo 66 = .ok (.istore 5, 2) := by decide +kernel
theorem dX6_wayTo_68 : decode cX6_wayTo 68 = .ok (.iinc 6 1, 3) := by decide +kernel
theorem dX6_wayTo_71 : decode cX6_wayTo 71 = .ok (.goto (-51), 3) := by decide +kernel
theorem dX6_wayTo_74 : decode cX6_wayTo 74 = .ok (.iload 5, 2) := by decide +kernel
theorem dX6_wayTo_76 : decode cX6_wayTo 76 = .ok (.ireturn, 1) := by decide +kernel
set_option maxRecDepth 100000 in
set_option maxHeartbeats 4000000 in
theorem c_wayTo {l : Launch} {g : Nat → Nat} {M : LH} (htr : l.stackTraces = false) {db : Nat} {D : Int32 → Int32} (hD : M db = some (ia 49 D)) {home : Int32} (hh0 : 0 ≤ home) (hh : home < 7) {x wb : Nat} (hX : M x = some (ob 5 [.ref wb])) {f : Int32 → Int32} (hT : M wb = some (ia 896 f)) {m last : Int32} (hm0 : 0 ≤ m) (hm1 : m < 128) (hl0 : 0 ≤ last) (hl : last < 7) : K_X6_wayTo l g 1 0 0 [.ref x, .ref db, .int home, .int m, .int last] M (RI (fun v M9 => v = wy D f home m last ∧ M9 = M) nX) := by
  refine Ko_X6_wayTo htr (fun X => ?_)
  obtain ⟨b0, b1⟩ := cell_in hh0 hh hl0 hl
  have key : ¬ m = 0 → ∀ i, 0 ≤ i → i ≤ 7 → ∀ (s : Int32) (z7 : Option Value), s = mnN m (fun i => f (m * 7 + i) + D (i * 7 + last)) i.toNatClampNeg → V l g yX6_wayTo cX6_wayTo ((some .int)) [] 1 0 0 (RI (fun v M9 => v = wy D f home m last ∧ M9 = M) nX) X M 0 0 20 [some (.ref x), some (.ref db), some (.int home), some (.int m), some (.int last), some (.int s), some (.int i), z7] [] := by
    intro hm
    refine up_ind _ (fun i h0 h1 ih s z7 hv => ?_)
    refine v_iload dX6_wayTo_20 rfl ?_
    refine v_bipush (v := (7)) dX6_wayTo_22 (by decide) ?_
    refine v_icmp_ge (tgt := 74) dX6_wayTo_24 (by decide) (fun h24 => ?_) (fun h24 => ?_)
    · have hi : i = 7 := by lia
      subst hi
      refine v_iload dX6_wayTo_74 rfl ?_
      exact v_iret dX6_wayTo_76 rfl ⟨by unfold wy; rw [if_neg hm, hv]; rfl, rfl⟩ (by omega) (by omega)
    · have hi : i < 7 := by lia
      obtain ⟨c0, c1⟩ := set_in hm0 hm1 h0 hi
      obtain ⟨e0, e1⟩ := cell_in h0 hi hl0 hl
      refine v_iload_n dX6_wayTo_27 rfl rfl ?_
      refine v_iload dX6_wayTo_28 rfl ?_
      refine k_X6_20 dX6_wayTo_30 rfl (c_has htr m i) (Nat.le_of_ble_eq_true rfl) (by omega) (by omega) (Nat.le_of_ble_eq_true rfl) (fun r30 M9 h9 => ?_) (fun _ _ h9 => h9.elim)
      obtain ⟨rfl, e9⟩ := h9
      subst M9
      refine v_if_eq (tgt := 68) dX6_wayTo_33 (by decide) (fun h33 => ?_) (fun h33 => ?_)
      · refine v_iinc_6 dX6_wayTo_68 rfl ?_
        refine v_goto (tgt := 20) dX6_wayTo_71 (by decide) ?_
        refine ih hi _ _ ?_
        rw [mnN_1 h0 hi, hv]
        by_cases z : bitI m i = 0
        · first
            | (rw [if_pos z] at h33; exfalso; revert h33; decide)
            | rw [if_pos z]
        · first
            | (rw [if_neg z] at h33; exfalso; revert h33; decide)
            | (rw [if_neg z]; rfl)
      · refine v_aload_n dX6_wayTo_36 rfl rfl ?_
        refine gf_X6_11 dX6_wayTo_37 rfl hX ?_
        refine v_iload_n dX6_wayTo_40 rfl rfl ?_
        refine v_iload dX6_wayTo_41 rfl ?_
        refine k_X6_24 dX6_wayTo_43 rfl (c_cell htr m i) (Nat.le_of_ble_eq_true rfl) (by omega) (by omega) (Nat.le_of_ble_eq_true rfl) (fun r43 M9 h9 => ?_) (fun _ _ h9 => h9.elim)
        obtain ⟨rfl, e9⟩ := h9
        subst M9
        refine v_iald dX6_wayTo_46 hT c0 c1 ?_
        refine v_aload_n dX6_wayTo_47 rfl rfl ?_
        refine v_iload dX6_wayTo_48 rfl ?_
        refine v_iload dX6_wayTo_50 rfl ?_
        refine k_X6_24 dX6_wayTo_52 rfl (c_cell htr i last) (Nat.le_of_ble_eq_true rfl) (by omega) (by omega) (Nat.le_of_ble_eq_true rfl) (fun r52 M9 h9 => ?_) (fun _ _ h9 => h9.elim)
        obtain ⟨rfl, e9⟩ := h9
        subst M9
        refine v_iald dX6_wayTo_55 hD e0 e1 ?_
        refine v_iadd dX6_wayTo_56 ?_
        refine v_istore_7 dX6_wayTo_57 ?_
        refine v_iload dX6_wayTo_59 rfl ?_
        refine v_iload dX6_wayTo_61 rfl ?_
        refine mm_X6_28 dX6_wayTo_63 rfl (Nat.le_of_ble_eq_true rfl) (by omega) (by omega) ?_
        refine v_istore_5 dX6_wayTo_66 ?_
        refine v_iinc_6 dX6_wayTo_68 rfl ?_
        refine v_goto (tgt := 20) dX6_wayTo_71 (by decide) ?_
        refine ih hi _ _ ?_
        rw [mnN_1 h0 hi, hv]
        by_cases z : bitI m i = 0
        · first
            | (rw [if_pos z] at h33; exfalso; revert h33; decide)
            | rw [if_pos z]
        · first
            | (rw [if_neg z] at h33; exfalso; revert h33; decide)
            | (rw [if_neg z]; rfl)
  refine v_iload_n dX6_wayTo_0 rfl rfl ?_
  refine v_if_ne (tgt := 13) dX6_wayTo_1 (by decide) (fun h1 => ?_) (fun h1 => ?_)
  · refine lc_X6_19 dX6_wayTo_13 rfl ?_
    refine v_istore_5 dX6_wayTo_15 ?_
    refine v_iconst (v := 0) dX6_wayTo_17 (by decide) ?_
    refine v_istore_6 dX6_wayTo_18 ?_
    exact key (by first | assumption | exact fun z => absurd z (by assumption)) 0 (by lia) (by lia) _ _ rfl
  · refine v_aload_n dX6_wayTo_4 rfl rfl ?_
    refine v_iload_n dX6_wayTo_5 rfl rfl ?_
    refine v_iload dX6_wayTo_6 rfl ?_
    refine k_X6_24 dX6_wayTo_8 rfl (c_cell htr home last) (Nat.le_of_ble_eq_true rfl) (by omega) (by omega) (Nat.le_of_ble_eq_true rfl) (fun r8 M9 h9 => ?_) (fun _ _ h9 => h9.elim)
    obtain ⟨rfl, e9⟩ := h9
    subst M9
    refine v_iald dX6_wayTo_11 hD b0 b1 ?_
    exact v_iret dX6_wayTo_12 rfl ⟨by unfold wy; rw [if_pos (by first | assumption | exact Classical.not_not.mp (by assumption))], rfl⟩ (by omega) (by omega)

theorem dX6_fillSet_0 : decode cX6_fillSet 0 = .ok (.iconst 0, 1) := by decide +kernel
theorem dX6_fillSet_1 : decode cX6_fillSet 1 = .ok (.istore 4, 2) := by decide +kernel
theorem dX6_fillSet_3 : decode cX6_fillSet 3 = .ok (.iload 4, 2) := by decide +kernel
theorem dX6_fillSet_5 : decode cX6_fillSet 5 = .ok (.bipush 7, 2) := by decide +kernel
theorem dX6_fillSet_7 : decode cX6_fillSet 7 = .ok (.if_icmp .ge 45, 3) := by decide +kernel
theorem dX6_fillSet_10 : decode cX6_fillSet 10 = .ok (.iload_n 3, 1) := by decide +kernel
theorem dX6_fillSet_11 : decode cX6_fillSet 11 = .ok (.iload 4, 2) := by decide +kernel
theorem dX6_fillSet_13 : decode cX6_fillSet 13 = .ok (.invokestatic 20, 3) := by decide +kernel
theorem dX6_fillSet_16 : decode cX6_fillSet 16 = .ok (.ifCond .eq 30, 3) := by decide +kernel
theorem dX6_fillSet_19 : decode cX6_fillSet 19 = .ok (.aload_n 0, 1) := by decide +kernel
theorem dX6_fillSet_20 : decode cX6_fillSet 20 = .ok (.getfield 11, 3) := by decide +kernel
theorem dX6_fillSet_23 : decode cX6_fillSet 23 = .ok (.iload_n 3, 1) := by decide +kernel
theorem dX6_fillSet_24 : decode cX6_fillSet 24 = .ok (.iload 4, 2) := by decide +kernel
theorem dX6_fillSet_26 : decode cX6_fillSet 26 = .ok (.invokestatic 24, 3) := by decide +kernel
theorem dX6_fillSet_29 : decode cX6_fillSet 29 = .ok (.aload_n 0, 1) := by decide +kernel
theorem dX6_fillSet_30 : decode cX6_fillSet 30 = .ok (.aload_n 1, 1) := by decide +kernel
theorem dX6_fillSet_31 : decode cX6_fillSet 31 = .ok (.iload_n 2, 1) := by decide +kernel
theorem dX6_fillSet_32 : decode cX6_fillSet 32 = .ok (.iload_n 3, 1) := by decide +kernel
theorem dX6_fillSet_33 : decode cX6_fillSet 33 = .ok (.iconst 1, 1) := by decide +kernel
theorem dX6_fillSet_34 : decode cX6_fillSet 34 = .ok (.iload 4, 2) := by decide +kernel
theorem dX6_fillSet_36 : decode cX6_fillSet 36 = .ok (.ishl, 1) := by decide +kernel
theorem dX6_fillSet_37 : decode cX6_fillSet 37 = .ok (.iconst (-1), 1) := by decide +kernel
theorem dX6_fillSet_38 : decode cX6_fillSet 38 = .ok (.ixor, 1) := by decide +kernel
theorem dX6_fillSet_39 : decode cX6_fillSet 39 = .ok (.iand, 1) := by decide +kernel
theorem dX6_fillSet_40 : decode cX6_fillSet 40 = .ok (.iload 4, 2) := by decide +kernel
theorem dX6_fillSet_42 : decode cX6_fillSet 42 = .ok (.invokevirtual 33, 3) := by decide +kernel
theorem dX6_fillSet_45 : decode cX6_fillSet 45 = .ok (.iastore, 1) := by decide +kernel
theorem dX6_fillSet_46 : decode cX6_fillSet 46 = .ok (.iinc 4 1, 3) := by decide +kernel
theorem dX6_fillSet_49 : decode cX6_fillSet 49 = .ok (.goto (-46), 3) := by decide +kernel
theorem dX6_fillSet_52 : decode cX6_fillSet 52 = .ok (.return_, 1) := by decide +kernel
set_option maxRecDepth 100000 in
set_option maxHeartbeats 4000000 in
theorem c_fillSet {l : Launch} {g : Nat → Nat} {M : LH} (htr : l.stackTraces = false) {db : Nat} {D : Int32 → Int32} (hD : M db = some (ia 49 D)) {home : Int32} (hh0 : 0 ≤ home) (hh : home < 7) {x wb : Nat} (hX : M x = some (ob 5 [.ref wb])) {f : Int32 → Int32} (hT : M wb = some (ia 896 f)) (nbB : ¬ db = wb) {j : Nat} (hj : j < 128) : K_X6_fillSet l g 2 0 0 [.ref x, .ref db, .int home, .int (nI j)] M (RV (fun M9 => ∃ f', (∀ y, (∀ z, 0 ≤ z → z < 7 → ¬ y = nI j * 7 + z) → f' y = f y) ∧ (∀ z, 0 ≤ z → z < 7 → ¬ bitI (nI j) z = 0 → f' (nI j * 7 + z) = wy D f home (nI j &&& (sbit z ^^^ -1)) z) ∧ M9 = hup M wb (ia 896 f')) nX) := by
  refine Ko_X6_fillSet htr (fun X => ?_)
  have nbX : ¬ x = wb := ne_of_cell hX hT ob_ia
  obtain ⟨j0, j1⟩ := nI_128 j hj
  have key : ∀ i, 0 ≤ i → i ≤ 7 → ∀ (f' : Int32 → Int32), (∀ y, (∀ z, 0 ≤ z → z < 7 → ¬ y = nI j * 7 + z) → f' y = f y) → (∀ z, 0 ≤ z → z < i → ¬ bitI (nI j) z = 0 → f' (nI j * 7 + z) = wy D f home (nI j &&& (sbit z ^^^ -1)) z) → V l g yX6_fillSet cX6_fillSet none [] 2 0 0 (RV (fun M9 => ∃ f', (∀ y, (∀ z, 0 ≤ z → z < 7 → ¬ y = nI j * 7 + z) → f' y = f y) ∧ (∀ z, 0 ≤ z → z < 7 → ¬ bitI (nI j) z = 0 → f' (nI j * 7 + z) = wy D f home (nI j &&& (sbit z ^^^ -1)) z) ∧ M9 = hup M wb (ia 896 f')) nX) X (hup M wb (ia 896 f')) 0 0 3 [some (.ref x), some (.ref db), some (.int home), some (.int (nI j)), some (.int i)] [] := by
    refine up_ind _ (fun i h0 h1 ih f' ho hv => ?_)
    refine v_iload dX6_fillSet_3 rfl ?_
    refine v_bipush (v := (7)) dX6_fillSet_5 (by decide) ?_
    refine v_icmp_ge (tgt := 52) dX6_fillSet_7 (by decide) (fun h7 => ?_) (fun h7 => ?_)
    · have hi : i = 7 := by lia
      subst hi
      exact v_vret dX6_fillSet_52 rfl ⟨f', ho, hv, rfl⟩ (by omega) (by omega)
    · have hi : i < 7 := by lia
      obtain ⟨c0, c1⟩ := set_in j0 j1 h0 hi
      refine v_iload_n dX6_fillSet_10 rfl rfl ?_
      refine v_iload dX6_fillSet_11 rfl ?_
      refine k_X6_20 dX6_fillSet_13 rfl (c_has htr (nI j) i) (Nat.le_of_ble_eq_true rfl) (by omega) (by omega) (Nat.le_of_ble_eq_true rfl) (fun r13 M9 h9 => ?_) (fun _ _ h9 => h9.elim)
      obtain ⟨rfl, e9⟩ := h9
      subst M9
      refine v_if_eq (tgt := 46) dX6_fillSet_16 (by decide) (fun h16 => ?_) (fun h16 => ?_)
      · refine v_iinc_4 dX6_fillSet_46 rfl ?_
        refine v_goto (tgt := 3) dX6_fillSet_49 (by decide) ?_
        first
          | (rw [hup_hup]
             refine ih hi _ (fun y hy => ?_) (fun z z0 z1 hz => ?_)
             · rw [ui_n (hy i h0 hi)]
               exact ho y hy
             · by_cases e : z = i
               · rw [e, ui_s]
               · rw [ui_n (fun q => e (set_inj j0 j1 z0 (by lia) j0 j1 h0 hi q).2)]
                 exact hv z z0 (by lia) hz)
          | (refine ih hi f' ho (fun z z0 z1 hz => ?_)
             by_cases e : z = i
             · exfalso
               rw [e] at hz
               rw [if_neg hz] at h16
               revert h16
               decide
             · exact hv z z0 (by lia) hz)
      · refine v_aload_n dX6_fillSet_19 rfl rfl ?_
        refine gf_X6_11 dX6_fillSet_20 rfl ((hup_n nbX).trans hX) ?_
        refine v_iload_n dX6_fillSet_23 rfl rfl ?_
        refine v_iload dX6_fillSet_24 rfl ?_
        refine k_X6_24 dX6_fillSet_26 rfl (c_cell htr (nI j) i) (Nat.le_of_ble_eq_true rfl) (by omega) (by omega) (Nat.le_of_ble_eq_true rfl) (fun r26 M9 h9 => ?_) (fun _ _ h9 => h9.elim)
        obtain ⟨rfl, e9⟩ := h9
        subst M9
        refine v_aload_n dX6_fillSet_29 rfl rfl ?_
        refine v_aload_n dX6_fillSet_30 rfl rfl ?_
        refine v_iload_n dX6_fillSet_31 rfl rfl ?_
        refine v_iload_n dX6_fillSet_32 rfl rfl ?_
        refine v_iconst (v := 1) dX6_fillSet_33 (by decide) ?_
        refine v_iload dX6_fillSet_34 rfl ?_
        refine v_ishl dX6_fillSet_36 ?_
        refine v_iconst (v := (-1)) dX6_fillSet_37 (by decide) ?_
        refine v_ixor dX6_fillSet_38 ?_
        refine v_iand dX6_fillSet_39 ?_
        have hz9 : ¬ bitI (nI j) i = 0 := fun z => by
          rw [if_pos z] at h16
          revert h16
          decide
        obtain ⟨j', k1, k2, k3⟩ := rm_of hj h0 hi hz9
        have e2 : nI j &&& (1 <<< (i &&& 31) ^^^ -1) = nI j' := k2
        rw [e2]
        obtain ⟨j0', j1'⟩ := nI_128 j' (by omega)
        have hc9 : wy D f' home (nI j') i = wy D f home (nI j') i := wy_cg (fun z z0 z1 _ => ho _ (fun z' z0' z1' e => by
          have q := (set_inj j0' j1' z0 z1 j0 j1 z0' z1' e).1
          have q2 := congrArg Int32.toNatClampNeg q
          rw [nI_t (by omega), nI_t hj] at q2
          omega))
        refine v_iload dX6_fillSet_40 rfl ?_
        refine k_X6_33 dX6_fillSet_42 rfl (c_wayTo htr ((hup_n nbB).trans hD) hh0 hh ((hup_n nbX).trans hX) hup_s j0' j1' h0 hi) ((hup_n nbX).trans hX) (Nat.le_of_ble_eq_true rfl) (by omega) (by omega) (Nat.le_of_ble_eq_true rfl) (fun r42 M9 h9 => ?_) (fun _ _ h9 => h9.elim)
        obtain ⟨rfl, e9⟩ := h9
        subst M9
        rw [hc9, ← k2]
        refine v_iast dX6_fillSet_45 hup_s c0 c1 ?_
        refine v_iinc_4 dX6_fillSet_46 rfl ?_
        refine v_goto (tgt := 3) dX6_fillSet_49 (by decide) ?_
        first
          | (rw [hup_hup]
             refine ih hi _ (fun y hy => ?_) (fun z z0 z1 hz => ?_)
             · rw [ui_n (hy i h0 hi)]
               exact ho y hy
             · by_cases e : z = i
               · rw [e, ui_s]
               · rw [ui_n (fun q => e (set_inj j0 j1 z0 (by lia) j0 j1 h0 hi q).2)]
                 exact hv z z0 (by lia) hz)
          | (refine ih hi f' ho (fun z z0 z1 hz => ?_)
             by_cases e : z = i
             · exfalso
               rw [e] at hz
               rw [if_neg hz] at h16
               revert h16
               decide
             · exact hv z z0 (by lia) hz)
  refine v_iconst (v := 0) dX6_fillSet_0 (by decide) ?_
  refine v_istore_4 dX6_fillSet_1 ?_
  have hk0 := key 0 (by lia) (by lia) f (fun _ _ => rfl) (fun z a b => absurd b (by lia))
  rw [hup_id hT] at hk0
  exact hk0

/-- the shortest round trip from home through m, by sets -/
def sT (D : Int32 → Int32) (home m : Int32) : Int32 := if m = 0 then 0 else mnN m (fun i => wF D home (pcN m 7) m i + D (i * 7 + home)) 7
/-- the table holds the ways of every set below n that lies in m -/
def WT (D f : Int32 → Int32) (home n m : Int32) : Prop := ∀ j, j < 128 → nI j < n → nI j &&& (m ^^^ -1) = 0 → ∀ z, 0 ≤ z → z < 7 → ¬ bitI (nI j) z = 0 → f (nI j * 7 + z) = wF D home (pcN (nI j) 7) (nI j) z
theorem WT.step {D f f2 : Int32 → Int32} {home m : Int32} {j : Nat} (hj : j < 128) (h : WT D f home (nI j) m) (hs : nI j &&& (m ^^^ -1) = 0)
    (ho : ∀ y, (∀ z, 0 ≤ z → z < 7 → ¬ y = nI j * 7 + z) → f2 y = f y) (hv : ∀ z, 0 ≤ z → z < 7 → ¬ bitI (nI j) z = 0 → f2 (nI j * 7 + z) = wy D f home (nI j &&& (sbit z ^^^ -1)) z) : WT D f2 home (nI j + 1) m := by
  intro i hi hlt hs2 z z0 z1 hz
  obtain ⟨j0, j1⟩ := nI_128 j hj
  obtain ⟨i0, i1⟩ := nI_128 i hi
  by_cases e : i = j
  · subst e
    rw [hv z z0 z1 hz]
    obtain ⟨j', k1, k2, k3⟩ := rm_of hj z0 z1 hz
    rw [← k3]
    show _ = (if nI i &&& (sbit z ^^^ -1) = 0 then D (home * 7 + z) else mnN (nI i &&& (sbit z ^^^ -1)) (fun y => wF D home (pcN (nI j') 7) (nI i &&& (sbit z ^^^ -1)) y + D (y * 7 + z)) 7)
    have hs3 := sub_rm (c := sbit z ^^^ -1) hs
    rw [k2] at hs3 ⊢
    unfold wy
    by_cases q : nI j' = 0
    · rw [if_pos q, if_pos q]
    · rw [if_neg q, if_neg q]
      exact mnN_cg (fun y y0 y1 hy => by rw [h j' (by omega) (nI7_lt i hj j' k1) hs3 y y0 y1 hy]) 7 (Nat.le_refl 7)
  · have ne : ¬ nI i = nI j := fun q => e (by
      have q2 := congrArg Int32.toNatClampNeg q
      rwa [nI_t hi, nI_t hj] at q2)
    rw [ho _ (fun z' z0' z1' q => ne (set_inj i0 i1 z0 z1 j0 j1 z0' z1' q).1)]
    exact h i hi (by clear h hv ho; lia) hs2 z z0 z1 hz
theorem WT.skip {D f : Int32 → Int32} {home m : Int32} {j : Nat} (hj : j < 128) (h : WT D f home (nI j) m) (hs : ¬ nI j &&& (m ^^^ -1) = 0) : WT D f home (nI j + 1) m := by
  intro i hi hlt hs2 z z0 z1 hz
  obtain ⟨j0, j1⟩ := nI_128 j hj
  obtain ⟨i0, i1⟩ := nI_128 i hi
  by_cases ne : nI i = nI j
  · rw [ne] at hs2
    exact absurd hs2 hs
  · exact h i hi (by clear h; lia) hs2 z z0 z1 hz
theorem WT.z {D f : Int32 → Int32} {home m : Int32} : WT D f home 1 m := by
  intro i hi hlt hs2 z z0 z1 hz
  obtain ⟨i0, i1⟩ := nI_128 i hi
  have e : nI i = 0 := by lia
  have e2 : i = 0 := (nz_7 i hi).mp e
  subst e2
  have q := bit_0 _ (tc7 z0 z1)
  rw [tc_nI z0] at q
  exact absurd q hz
theorem dX6_shortestBySets_0 : decode cX6_shortestBySets 0 = .ok (.iload_n 3, 1) := by decide +kernel
theorem dX6_shortestBySets_1 : decode cX6_shortestBySets 1 = .ok (.ifCond .ne 5, 3) := by decide +kernel
theorem dX6_shortestBySets_4 : decode cX6_shortestBySets 4 = .ok (.iconst 0, 1) := by decide +kernel
theorem dX6_shortestBySets_5 : decode cX6_shortestBySets 5 = .ok (.ireturn, 1) := by decide +kernel
theorem dX6_shortestBySets_6 : decode cX6_shortestBySets 6 = .ok (.iconst 1, 1) := by decide +kernel
theorem dX6_shortestBySets_7 : decode cX6_shortestBySets 7 = .ok (.istore 4, 2) := by decide +kernel
theorem dX6_shortestBySets_9 : decode cX6_shortestBySets 9 = .ok (.iload 4, 2) := by decide +kernel
theorem dX6_shortestBySets_11 : decode cX6_shortestBySets 11 = .ok (.iload_n 3, 1) := by decide +kernel
theorem dX6_shortestBySets_12 : decode cX6_shortestBySets 12 = .ok (.if_icmp .gt 34, 3) := by decide +kernel
theorem dX6_shortestBySets_15 : decode cX6_shortestBySets 15 = .ok (.iload 4, 2) := by decide +kernel
theorem dX6_shortestBySets_17 : decode cX6_shortestBySets 17 = .ok (.sipush 128, 3) := by decide +kernel
theorem dX6_shortestBySets_20 : decode cX6_shortestBySets 20 = .ok (.if_icmp .ge 26, 3) := by decide +kernel
theorem dX6_shortestBySets_23 : decode cX6_shortestBySets 23 = .ok (.iload 4, 2) := by decide +kernel
theorem dX6_shortestBySets_25 : decode cX6_shortestBySets 25 = .ok (.iload_n 3, 1) := by decide +kernel
theorem dX6_shortestBySets_26 : decode cX6_shortestBySets 26 = .ok (.iconst (-1), 1) := by decide +kernel
theorem dX6_shortestBySets_27 : decode cX6_shortestBySets 27 = .ok (.ixor, 1) := by decide +kernel
theorem dX6_shortestBySets_28 : decode cX6_shortestBySets 28 = .ok (.iand, 1) := by decide +kernel
theorem dX6_shortestBySets_29 : decode cX6_shortestBySets 29 = .ok (.ifCond .ne 11, 3) := by decide +kernel
theorem dX6_shortestBySets_32 : decode cX6_shortestBySets 32 = .ok (.aload_n 0, 1) := by decide +kernel
theorem dX6_shortestBySets_33 : decode cX6_shortestBySets 33 = .ok (.aload_n 1, 1) := by decide +kernel
theorem dX6_shortestBySets_34 : decode cX6_shortestBySets 34 = .ok (.iload_n 2, 1) := by decide +kernel
theorem dX6_shortestBySets_35 : decode cX6_shortestBySets 35 = .ok (.iload 4, 2) := by decide +kernel
theorem dX6_shortestBySets_37 : decode cX6_shortestBySets 37 = .ok (.invokevirtual 15, 3) := by decide +kernel
theorem dX6_shortestBySets_40 : decode cX6_shortestBySets 40 = .ok (.iinc 4 1, 3) := by decide +kernel
theorem dX6_shortestBySets_43 : decode cX6_shortestBySets 43 = .ok (.goto (-34), 3) := by decide +kernel
theorem dX6_shortestBySets_46 : decode cX6_shortestBySets 46 = .ok (.ldc 19, 2) := by decide +kernel
theorem dX6_shortestBySets_48 : decode cX6_shortestBySets 48 = .ok (.istore 4, 2) := by decide +kernel
theorem dX6_shortestBySets_50 : decode cX6_shortestBySets 50 = .ok (.iconst 0, 1) := by decide +kernel
theorem dX6_shortestBySets_51 : decode cX6_shortestBySets 51 = .ok (.istore 5, 2) := by decide +kernel
theorem dX6_shortestBySets_53 : decode cX6_shortestBySets 53 = .ok (.iload 5, 2) := by decide +kernel
theorem dX6_shortestBySets_55 : decode cX6_shortestBySets 55 = .ok (.bipush 7, 2) := by decide +kernel
theorem dX6_shortestBySets_57 : decode cX6_shortestBySets 57 = .ok (.if_icmp .ge 45, 3) := by decide +kernel
theorem dX6_shortestBySets_60 : decode cX6_shortestBySets 60 = .ok (.iload_n 3, 1) := by decide +kernel
theorem dX6_shortestBySets_61 : decode cX6_shortestBySets 61 = .ok (.iload 5, 2) := by decide +kernel
theorem dX6_shortestBySets_63 : decode cX6_shortestBySets 63 = .ok (.invokestatic 20, 3) := by decide +kernel
theorem dX6_shortestBySets_66 : decode cX6_shortestBySets 66 = .ok (.ifCond .eq 30, 3) := by decide +kernel
theorem dX6_shortestBySets_69 : decode cX6_shortestBySets 69 = .ok (.iload 4, 2) := by decide +kernel
theorem dX6_shortestBySets_71 : decode cX6_shortestBySets 71 = .ok (.aload_n 0, 1) := by decide +kernel
theorem dX6_shortestBySets_72 : decode cX6_shortestBySets 72 = .ok (.getfield 11, 3) := by decide +kernel
theorem dX6_shortestBySets_75 : decode cX6_shortestBySets 75 = .ok (.iload_n 3, 1) := by decide +kernel
theorem dX6_shortestBySets_76 : decode cX6_shortestBySets 76 = .ok (.iload 5, 2) := by decide +kernel
theorem dX6_shortestBySets_78 : decode cX6_shortestBySets 78 = .ok (.invokestatic 24, 3) := by decide +kernel
theorem dX6_shortestBySets_81 : decode cX6_shortestBySets 81 = .ok (.iaload, 1) := by decide +kernel
theorem dX6_shortestBySets_82 : decode cX6_shortestBySets 82 = .ok (.aload_n 1, 1) := by decide +kernel
theorem dX6_shortestBySets_83 : decode cX6_shortestBySets 83 = .ok (.iload 5, 2) := by decide +kernel
theorem dX6_shortestBySets_85 : decode cX6_shortestBySets 85 = .ok (.iload_n 2, 1) := by decide +kernel
theorem dX6_shortestBySets_86 : decode cX6_shortestBySets 86 = .ok (.invokestatic 24, 3) := by decide +kernel
theorem dX6_shortestBySets_89 : decode cX6_shortestBySets 89 = .ok (.iaload, 1) := by decide +kernel
theorem dX6_shortestBySets_90 : decode cX6_shortestBySets 90 = .ok (.iadd, 1) := by decide +kernel
theorem dX6_shortestBySets_91 : decode cX6_shortestBySets 91 = .ok (.invokestatic 28, 3) := by decide +kernel
theorem dX6_shortestBySets_94 : decode cX6_shortestBySets 94 = .ok (.istore 4, 2) := by decide +kernel
theorem dX6_shortestBySets_96 : decode cX6_shortestBySets 96 = .ok (.iinc 5 1, 3) := by decide +kernel
theorem dX6_shortestBySets_99 : decode cX6_shortestBySets 99 = .ok (.goto (-46), 3) := by decide +kernel
theorem dX6_shortestBySets_102 : decode cX6_shortestBySets 102 = .ok (.iload 4, 2) := by decide +kernel
theorem dX6_shortestBySets_104 : decode cX6_shortestBySets 104 = .ok (.ireturn, 1) := by decide +kernel
set_option maxRecDepth 100000 in
set_option maxHeartbeats 4000000 in
theorem c_shortestBySets {l : Launch} {g : Nat → Nat} {M : LH} (htr : l.stackTraces = false) {db : Nat} {D : Int32 → Int32} (hD : M db = some (ia 49 D)) {home : Int32} (hh0 : 0 ≤ home) (hh : home < 7) {x wb : Nat} (hX : M x = some (ob 5 [.ref wb])) {f : Int32 → Int32} (hT : M wb = some (ia 896 f)) (nbB : ¬ db = wb) {q : Nat} (hq : q < 128) : K_X6_shortestBySets l g 3 0 0 [.ref x, .ref db, .int home, .int (nI q)] M (RI (fun v M9 => v = sT D home (nI q) ∧ ∃ f', M9 = hup M wb (ia 896 f')) nX) := by
  refine Ko_X6_shortestBySets htr (fun X => ?_)
  have nbX : ¬ x = wb := ne_of_cell hX hT ob_ia
  obtain ⟨q0, q1⟩ := nI_128 q hq
  have key2 : ¬ nI q = 0 → ∀ (f' : Int32 → Int32), WT D f' home (nI q + 1) (nI q) → ∀ i, 0 ≤ i → i ≤ 7 → ∀ (s : Int32), s = mnN (nI q) (fun i => wF D home (pcN (nI q) 7) (nI q) i + D (i * 7 + home)) i.toNatClampNeg → V l g yX6_shortestBySets cX6_shortestBySets ((some .int)) [] 3 0 0 (RI (fun v M9 => v = sT D home (nI q) ∧ ∃ f', M9 = hup M wb (ia 896 f')) nX) X (hup M wb (ia 896 f')) 0 0 53 [some (.ref x), some (.ref db), some (.int home), some (.int (nI q)), some (.int s), some (.int i)] [] := by
    intro hm f' hw
    refine up_ind _ (fun i h0 h1 ih s hv => ?_)
    refine v_iload dX6_shortestBySets_53 rfl ?_
    refine v_bipush (v := (7)) dX6_shortestBySets_55 (by decide) ?_
    refine v_icmp_ge (tgt := 102) dX6_shortestBySets_57 (by decide) (fun h57 => ?_) (fun h57 => ?_)
    · have hi : i = 7 := by lia
      subst hi
      refine v_iload dX6_shortestBySets_102 rfl ?_
      exact v_iret dX6_shortestBySets_104 rfl ⟨by unfold sT; rw [if_neg hm, hv]; rfl, f', rfl⟩ (by omega) (by omega)
    · have hi : i < 7 := by lia
      obtain ⟨c0, c1⟩ := set_in q0 q1 h0 hi
      obtain ⟨e0, e1⟩ := cell_in h0 hi hh0 hh
      refine v_iload_n dX6_shortestBySets_60 rfl rfl ?_
      refine v_iload dX6_shortestBySets_61 rfl ?_
      refine k_X6_20 dX6_shortestBySets_63 rfl (c_has htr (nI q) i) (Nat.le_of_ble_eq_true rfl) (by omega) (by omega) (Nat.le_of_ble_eq_true rfl) (fun r63 M9 h9 => ?_) (fun _ _ h9 => h9.elim)
      obtain ⟨rfl, e9⟩ := h9
      subst M9
      refine v_if_eq (tgt := 96) dX6_shortestBySets_66 (by decide) (fun h66 => ?_) (fun h66 => ?_)
      · refine v_iinc_5 dX6_shortestBySets_96 rfl ?_
        refine v_goto (tgt := 53) dX6_shortestBySets_99 (by decide) ?_
        refine ih hi _ ?_
        rw [mnN_1 h0 hi, hv]
        by_cases z : bitI (nI q) i = 0
        · first
            | (rw [if_pos z] at h66; exfalso; revert h66; decide)
            | rw [if_pos z]
        · first
            | (rw [if_neg z] at h66; exfalso; revert h66; decide)
            | (rw [if_neg z, hw q hq (by lia) (nI7_n q hq) i h0 hi z]; rfl)
      · refine v_iload dX6_shortestBySets_69 rfl ?_
        refine v_aload_n dX6_shortestBySets_71 rfl rfl ?_
        refine gf_X6_11 dX6_shortestBySets_72 rfl ((hup_n nbX).trans hX) ?_
        refine v_iload_n dX6_shortestBySets_75 rfl rfl ?_
        refine v_iload dX6_shortestBySets_76 rfl ?_
        refine k_X6_24 dX6_shortestBySets_78 rfl (c_cell htr (nI q) i) (Nat.le_of_ble_eq_true rfl) (by omega) (by omega) (Nat.le_of_ble_eq_true rfl) (fun r78 M9 h9 => ?_) (fun _ _ h9 => h9.elim)
        obtain ⟨rfl, e9⟩ := h9
        subst M9
        refine v_iald dX6_shortestBySets_81 hup_s c0 c1 ?_
        refine v_aload_n dX6_shortestBySets_82 rfl rfl ?_
        refine v_iload dX6_shortestBySets_83 rfl ?_
        refine v_iload_n dX6_shortestBySets_85 rfl rfl ?_
        refine k_X6_24 dX6_shortestBySets_86 rfl (c_cell htr i home) (Nat.le_of_ble_eq_true rfl) (by omega) (by omega) (Nat.le_of_ble_eq_true rfl) (fun r86 M9 h9 => ?_) (fun _ _ h9 => h9.elim)
        obtain ⟨rfl, e9⟩ := h9
        subst M9
        refine v_iald dX6_shortestBySets_89 ((hup_n nbB).trans hD) e0 e1 ?_
        refine v_iadd dX6_shortestBySets_90 ?_
        refine mm_X6_28 dX6_shortestBySets_91 rfl (Nat.le_of_ble_eq_true rfl) (by omega) (by omega) ?_
        refine v_istore_4 dX6_shortestBySets_94 ?_
        refine v_iinc_5 dX6_shortestBySets_96 rfl ?_
        refine v_goto (tgt := 53) dX6_shortestBySets_99 (by decide) ?_
        refine ih hi _ ?_
        rw [mnN_1 h0 hi, hv]
        by_cases z : bitI (nI q) i = 0
        · first
            | (rw [if_pos z] at h66; exfalso; revert h66; decide)
            | rw [if_pos z]
        · first
            | (rw [if_neg z] at h66; exfalso; revert h66; decide)
            | (rw [if_neg z, hw q hq (by lia) (nI7_n q hq) i h0 hi z]; rfl)
  have key1 : ¬ nI q = 0 → ∀ i, 0 ≤ i → i ≤ nI q + 1 → 1 ≤ i → ∀ (f' : Int32 → Int32) (z5 : Option Value), WT D f' home i (nI q) → V l g yX6_shortestBySets cX6_shortestBySets ((some .int)) [] 3 0 0 (RI (fun v M9 => v = sT D home (nI q) ∧ ∃ f', M9 = hup M wb (ia 896 f')) nX) X (hup M wb (ia 896 f')) 0 0 9 [some (.ref x), some (.ref db), some (.int home), some (.int (nI q)), some (.int i), z5] [] := by
    intro hm
    refine up_ind _ (fun i h0 h1 ih hp f' z5 hv => ?_)
    obtain ⟨j, hj9, rfl⟩ : ∃ j : Nat, j < 129 ∧ nI j = i := ⟨i.toNatClampNeg, tc_lt h0 (by clear hv ih; lia : i < 129), tc_nI h0⟩
    refine v_iload dX6_shortestBySets_9 rfl ?_
    refine v_iload_n dX6_shortestBySets_11 rfl rfl ?_
    refine v_icmp_gt (tgt := 46) dX6_shortestBySets_12 (by decide) (fun h12 => ?_) (fun h12 => ?_)
    · refine lc_X6_19 dX6_shortestBySets_46 rfl ?_
      refine v_istore_4 dX6_shortestBySets_48 ?_
      refine v_iconst (v := 0) dX6_shortestBySets_50 (by decide) ?_
      refine v_istore_5 dX6_shortestBySets_51 ?_
      exact key2 hm f' (by rw [show nI q + 1 = nI j by clear ih hv key2; lia]; exact hv) 0 (by lia) (by lia) _ rfl
    · skip
      refine v_iload dX6_shortestBySets_15 rfl ?_
      refine v_sipush (v := (128)) dX6_shortestBySets_17 (by decide) ?_
      refine v_icmp_ge (tgt := 46) dX6_shortestBySets_20 (by decide) (fun h20 => ?_) (fun h20 => ?_)
      · refine lc_X6_19 dX6_shortestBySets_46 rfl ?_
        refine v_istore_4 dX6_shortestBySets_48 ?_
        refine v_iconst (v := 0) dX6_shortestBySets_50 (by decide) ?_
        refine v_istore_5 dX6_shortestBySets_51 ?_
        exact key2 hm f' (by rw [show nI q + 1 = nI j by clear ih hv key2; lia]; exact hv) 0 (by lia) (by lia) _ rfl
      · have hj : j < 128 := nI7_b j hj9 (by clear ih hv key2; lia)
        refine v_iload dX6_shortestBySets_23 rfl ?_
        refine v_iload_n dX6_shortestBySets_25 rfl rfl ?_
        refine v_iconst (v := (-1)) dX6_shortestBySets_26 (by decide) ?_
        refine v_ixor dX6_shortestBySets_27 ?_
        refine v_iand dX6_shortestBySets_28 ?_
        refine v_if_ne (tgt := 40) dX6_shortestBySets_29 (by decide) (fun h29 => ?_) (fun h29 => ?_)
        · refine v_iinc_4 dX6_shortestBySets_40 rfl ?_
          refine v_goto (tgt := 9) dX6_shortestBySets_43 (by decide) ?_
          first
            | exact ih (by clear ih hv key2; lia) (by clear ih hv key2; lia) f2 _ (hv.step hj (by first | assumption | exact Classical.not_not.mp (by assumption)) w1 w2)
            | exact ih (by clear ih hv key2; lia) (by clear ih hv key2; lia) f' _ (hv.skip hj (by assumption))
        · refine v_aload_n dX6_shortestBySets_32 rfl rfl ?_
          refine v_aload_n dX6_shortestBySets_33 rfl rfl ?_
          refine v_iload_n dX6_shortestBySets_34 rfl rfl ?_
          refine v_iload dX6_shortestBySets_35 rfl ?_
          refine k_X6_15 dX6_shortestBySets_37 rfl (c_fillSet htr ((hup_n nbB).trans hD) hh0 hh ((hup_n nbX).trans hX) hup_s nbB hj) ((hup_n nbX).trans hX) (Nat.le_of_ble_eq_true rfl) (by omega) (by omega) (Nat.le_of_ble_eq_true rfl) (fun M9 h9 => ?_) (fun _ _ h9 => h9.elim)
          obtain ⟨f2, w1, w2, e9⟩ := h9
          rw [hup_hup] at e9
          subst M9
          refine v_iinc_4 dX6_shortestBySets_40 rfl ?_
          refine v_goto (tgt := 9) dX6_shortestBySets_43 (by decide) ?_
          first
            | exact ih (by clear ih hv key2; lia) (by clear ih hv key2; lia) f2 _ (hv.step hj (by first | assumption | exact Classical.not_not.mp (by assumption)) w1 w2)
            | exact ih (by clear ih hv key2; lia) (by clear ih hv key2; lia) f' _ (hv.skip hj (by assumption))
  refine v_iload_n dX6_shortestBySets_0 rfl rfl ?_
  refine v_if_ne (tgt := 6) dX6_shortestBySets_1 (by decide) (fun h1 => ?_) (fun h1 => ?_)
  · refine v_iconst (v := 1) dX6_shortestBySets_6 (by decide) ?_
    refine v_istore_4 dX6_shortestBySets_7 ?_
    have hk0 := key1 (by first | assumption | exact fun z => absurd z (by assumption)) 1 (by lia) (by clear key1 key2; lia) (Int32.le_refl _) f none WT.z
    rw [hup_id hT] at hk0
    exact hk0
  · refine v_iconst (v := 0) dX6_shortestBySets_4 (by decide) ?_
    exact v_iret dX6_shortestBySets_5 rfl ⟨by unfold sT; rw [if_pos (by first | assumption | exact Classical.not_not.mp (by assumption))], f, (hup_id hT).symm⟩ (by omega) (by omega)

theorem dX6_restOfTrip_0 : decode cX6_restOfTrip 0 = .ok (.iload_n 3, 1) := by decide +kernel
theorem dX6_restOfTrip_1 : decode cX6_restOfTrip 1 = .ok (.ifCond .ne 11, 3) := by decide +kernel
theorem dX6_restOfTrip_4 : decode cX6_restOfTrip 4 = .ok (.aload_n 0, 1) := by decide +kernel
theorem dX6_restOfTrip_5 : decode cX6_restOfTrip 5 = .ok (.iload_n 2, 1) := by decide +kernel
theorem dX6_restOfTrip_6 : decode cX6_restOfTrip 6 = .ok (.iload_n 1, 1) := by decide +kernel
theorem dX6_restOfTrip_7 : decode cX6_restOfTrip 7 = .ok (.invokestatic 24, 3) := by decide +kernel
theorem dX6_restOfTrip_10 : decode cX6_restOfTrip 10 = .ok (.iaload, 1) := by decide +kernel
theorem dX6_restOfTrip_11 : decode cX6_restOfTrip 11 = .ok (.ireturn, 1) := by decide +kernel
theorem dX6_restOfTrip_12 : decode cX6_restOfTrip 12 = .ok (.ldc 19, 2) := by decide +kernel
theorem dX6_restOfTrip_14 : decode cX6_restOfTrip 14 = .ok (.istore 4, 2) := by decide +kernel
theorem dX6_restOfTrip_16 : decode cX6_restOfTrip 16 = .ok (.iconst 0, 1) := by decide +kernel
theorem dX6_restOfTrip_17 : decode cX6_restOfTrip 17 = .ok (.istore 5, 2) := by decide +kernel
theorem dX6_restOfTrip_19 : decode cX6_restOfTrip 19 = .ok (.iload 5, 2) := by decide +kernel
theorem dX6_restOfTrip_21 : decode cX6_restOfTrip 21 = .ok (.bipush 7, 2) := by decide +kernel
theorem dX6_restOfTrip_23 : decode cX6_restOfTrip 23 = .ok (.if_icmp .ge 53, 3) := by decide +kernel
theorem dX6_restOfTrip_26 : decode cX6_restOfTrip 26 = .ok (.iload_n 3, 1) := by decide +kernel
theorem dX6_restOfTrip_27 : decode cX6_restOfTrip 27 = .ok (.iload 5, 2) := by decide +kernel
theorem dX6_restOfTrip_29 : decode cX6_restOfTrip 29 = .ok (.invokestatic 20, 3) := by decide +kernel
theorem dX6_restOfTrip_32 : decode cX6_restOfTrip 32 = .ok (.ifCond .eq 38, 3) := by decide +kernel
theorem dX6_restOfTrip_35 : decode cX6_restOfTrip 35 = .ok (.aload_n 0, 1) := by decide +kernel
theorem dX6_restOfTrip_36 : decode cX6_restOfTrip 36 = .ok (.iload_n 1, 1) := by decide +kernel
theorem dX6_restOfTrip_37 : decode cX6_restOfTrip 37 = .ok (.iload 5, 2) := by decide +kernel
theorem dX6_restOfTrip_39 : decode cX6_restOfTrip 39 = .ok (.iload_n 3, 1) := by decide +kernel
theorem dX6_restOfTrip_40 : decode cX6_restOfTrip 40 = .ok (.iconst 1, 1) := by decide +kernel
theorem dX6_restOfTrip_41 : decode cX6_restOfTrip 41 = .ok (.iload 5, 2) := by decide +kernel
theorem dX6_restOfTrip_43 : decode cX6_restOfTrip 43 = .ok (.ishl, 1) := by decide +kernel
theorem dX6_restOfTrip_44 : decode cX6_restOfTrip 44 = .ok (.iconst (-1), 1) := by decide +kernel
theorem dX6_restOfTrip_45 : decode cX6_restOfTrip 45 = .ok (.ixor, 1) := by decide +kernel
theorem dX6_restOfTrip_46 : decode cX6_restOfTrip 46 = .ok (.iand, 1) := by decide +kernel
theorem dX6_restOfTrip_47 : decode cX6_restOfTrip 47 = .ok (.invokestatic 37, 3) := by decide +kernel
theorem dX6_restOfTrip_50 : decode cX6_restOfTrip 50 = .ok (.istore 6, 2) := by decide +kernel
theorem dX6_restOfTrip_52 : decode cX6_restOfTrip 52 = .ok (.iload 4, 2) := by decide +kernel
theorem dX6_restOfTrip_54 : decode cX6_restOfTrip 54 = .ok (.aload_n 0, 1) := by decide +kernel
theorem dX6_restOfTrip_55 : decode cX6_restOfTrip 55 = .ok (.iload_n 2, 1) := by decide +kernel
theorem dX6_restOfTrip_56 : decode cX6_restOfTrip 56 = .ok (.iload 5, 2) := by decide +kernel
theorem dX6_restOfTrip_58 : decode cX6_restOfTrip 58 = .ok (.invokestatic 24, 3) := by decide +kernel
theorem dX6_restOfTrip_61 : decode cX6_restOfTrip 61 = .ok (.iaload, 1) := by decide +kernel
theorem dX6_restOfTrip_62 : decode cX6_restOfTrip 62 = .ok (.iload 6, 2) := by decide +kernel
theorem dX6_restOfTrip_64 : decode cX6_restOfTrip 64 = .ok (.iadd, 1) := by decide +kernel
theorem dX6_restOfTrip_65 : decode cX6_restOfTrip 65 = .ok (.invokestatic 28, 3) := by decide +kernel
theorem dX6_restOfTrip_68 : decode cX6_restOfTrip 68 = .ok (.istore 4, 2) := by decide +kernel
theorem dX6_restOfTrip_70 : decode cX6_restOfTrip 70 = .ok (.iinc 5 1, 3) := by decide +kernel
theorem dX6_restOfTrip_73 : decode cX6_restOfTrip 73 = .ok (.goto (-54), 3) := by decide +kernel
theorem dX6_restOfTrip_76 : decode cX6_restOfTrip 76 = .ok (.iload 4, 2) := by decide +kernel
theorem dX6_restOfTrip_78 : decode cX6_restOfTrip 78 = .ok (.ireturn, 1) := by decide +kernel
set_option maxRecDepth 100000 in
set_option maxHeartbeats 4000000 in
theorem c_restOfTrip {l : Launch} {g : Nat → Nat} {M : LH} (htr : l.stackTraces = false) {db : Nat} {D : Int32 → Int32} (hD : M db = some (ia 49 D)) {home : Int32} (hh0 : 0 ≤ home) (hh : home < 7) : ∀ (k j : Nat), j < 128 → pcN (nI j) 7 ≤ k → ∀ here, 0 ≤ here → here < 7 → K_X6_restOfTrip l g (k + 1) 0 0 [.ref db, .int home, .int here, .int (nI j)] M (RI (fun v M9 => v = rF D home k here (nI j) ∧ M9 = M) nX) := by
  intro k
  induction k with
  | zero =>
    intro j hj hk here g0 g1
    have hz0 : nI j = 0 := (nz_7 j hj).mpr (pc_z j hj (by omega))
    obtain ⟨b0, b1⟩ := cell_in g0 g1 hh0 hh
    refine Ko_X6_restOfTrip htr (fun X => ?_)
    refine v_iload_n dX6_restOfTrip_0 rfl rfl ?_
    refine v_if_ne (tgt := 12) dX6_restOfTrip_1 (by decide) (fun h1 => ?_) (fun h1 => ?_)
    · exact absurd hz0 (by first | assumption | exact fun z => absurd z (by assumption))
    · skip
      refine v_aload_n dX6_restOfTrip_4 rfl rfl ?_
      refine v_iload_n dX6_restOfTrip_5 rfl rfl ?_
      refine v_iload_n dX6_restOfTrip_6 rfl rfl ?_
      refine k_X6_24 dX6_restOfTrip_7 rfl (c_cell htr here home) (by omega) (by omega) (by omega) (Nat.le_of_ble_eq_true rfl) (fun r7 M9 h9 => ?_) (fun _ _ h9 => h9.elim)
      obtain ⟨rfl, e9⟩ := h9
      subst M9
      refine v_iald dX6_restOfTrip_10 hD b0 b1 ?_
      exact v_iret dX6_restOfTrip_11 rfl ⟨rfl, rfl⟩ (by omega) (by omega)
  | succ k ih =>
    intro j hj hk here g0 g1
    obtain ⟨b0, b1⟩ := cell_in g0 g1 hh0 hh
    refine Ko_X6_restOfTrip htr (fun X => ?_)
    have key : ¬ nI j = 0 → ∀ i, 0 ≤ i → i ≤ 7 → ∀ (s : Int32) (z6 : Option Value), s = mnN (nI j) (fun i => D (here * 7 + i) + rF D home k i (nI j &&& (sbit i ^^^ -1))) i.toNatClampNeg → V l g yX6_restOfTrip cX6_restOfTrip ((some .int)) [] (k + 1 + 1) 0 0 (RI (fun v M9 => v = rF D home (k + 1) here (nI j) ∧ M9 = M) nX) X M 0 0 19 [some (.ref db), some (.int home), some (.int here), some (.int (nI j)), some (.int s), some (.int i), z6] [] := by
      intro hm
      refine up_ind _ (fun i h0 h1 jh s z6 hv => ?_)
      refine v_iload dX6_restOfTrip_19 rfl ?_
      refine v_bipush (v := (7)) dX6_restOfTrip_21 (by decide) ?_
      refine v_icmp_ge (tgt := 76) dX6_restOfTrip_23 (by decide) (fun h23 => ?_) (fun h23 => ?_)
      · have hi : i = 7 := by lia
        subst hi
        refine v_iload dX6_restOfTrip_76 rfl ?_
        exact v_iret dX6_restOfTrip_78 rfl ⟨by
        show _ = (if nI j = 0 then D (here * 7 + home) else mnN (nI j) (fun i => D (here * 7 + i) + rF D home k i (nI j &&& (sbit i ^^^ -1))) 7)
        rw [if_neg hm, hv]
        rfl, rfl⟩ (by omega) (by omega)
      · have hi : i < 7 := by lia
        obtain ⟨c0, c1⟩ := cell_in g0 g1 h0 hi
        refine v_iload_n dX6_restOfTrip_26 rfl rfl ?_
        refine v_iload dX6_restOfTrip_27 rfl ?_
        refine k_X6_20 dX6_restOfTrip_29 rfl (c_has htr (nI j) i) (by omega) (by omega) (by omega) (Nat.le_of_ble_eq_true rfl) (fun r29 M9 h9 => ?_) (fun _ _ h9 => h9.elim)
        obtain ⟨rfl, e9⟩ := h9
        subst M9
        refine v_if_eq (tgt := 70) dX6_restOfTrip_32 (by decide) (fun h32 => ?_) (fun h32 => ?_)
        · refine v_iinc_5 dX6_restOfTrip_70 rfl ?_
          refine v_goto (tgt := 19) dX6_restOfTrip_73 (by decide) ?_
          refine jh hi _ _ ?_
          rw [mnN_1 h0 hi, hv]
          by_cases z : bitI (nI j) i = 0
          · first
              | (rw [if_pos z] at h32; exfalso; revert h32; decide)
              | rw [if_pos z]
          · first
              | (rw [if_neg z] at h32; exfalso; revert h32; decide)
              | (rw [if_neg z, ← k2]; rfl)
        · refine v_aload_n dX6_restOfTrip_35 rfl rfl ?_
          refine v_iload_n dX6_restOfTrip_36 rfl rfl ?_
          refine v_iload dX6_restOfTrip_37 rfl ?_
          refine v_iload_n dX6_restOfTrip_39 rfl rfl ?_
          refine v_iconst (v := 1) dX6_restOfTrip_40 (by decide) ?_
          refine v_iload dX6_restOfTrip_41 rfl ?_
          refine v_ishl dX6_restOfTrip_43 ?_
          refine v_iconst (v := (-1)) dX6_restOfTrip_44 (by decide) ?_
          refine v_ixor dX6_restOfTrip_45 ?_
          refine v_iand dX6_restOfTrip_46 ?_
          have hz9 : ¬ bitI (nI j) i = 0 := fun z => by
            rw [if_pos z] at h32
            revert h32
            decide
          obtain ⟨j', k1, k2, k3⟩ := rm_of hj h0 hi hz9
          have e2 : nI j &&& (1 <<< (i &&& 31) ^^^ -1) = nI j' := k2
          rw [e2]
          refine k_X6_37 dX6_restOfTrip_47 rfl (ih j' (by omega) (by omega) i h0 hi) (Nat.le_refl _) (by omega) (by omega) (Nat.le_of_ble_eq_true rfl) (fun r47 M9 h9 => ?_) (fun _ _ h9 => h9.elim)
          obtain ⟨rfl, e9⟩ := h9
          subst M9
          refine v_istore_6 dX6_restOfTrip_50 ?_
          refine v_iload dX6_restOfTrip_52 rfl ?_
          refine v_aload_n dX6_restOfTrip_54 rfl rfl ?_
          refine v_iload_n dX6_restOfTrip_55 rfl rfl ?_
          refine v_iload dX6_restOfTrip_56 rfl ?_
          refine k_X6_24 dX6_restOfTrip_58 rfl (c_cell htr here i) (by omega) (by omega) (by omega) (Nat.le_of_ble_eq_true rfl) (fun r58 M9 h9 => ?_) (fun _ _ h9 => h9.elim)
          obtain ⟨rfl, e9⟩ := h9
          subst M9
          refine v_iald dX6_restOfTrip_61 hD c0 c1 ?_
          refine v_iload dX6_restOfTrip_62 rfl ?_
          refine v_iadd dX6_restOfTrip_64 ?_
          refine mm_X6_28 dX6_restOfTrip_65 rfl (Nat.le_of_ble_eq_true rfl) (by omega) (by omega) ?_
          refine v_istore_4 dX6_restOfTrip_68 ?_
          refine v_iinc_5 dX6_restOfTrip_70 rfl ?_
          refine v_goto (tgt := 19) dX6_restOfTrip_73 (by decide) ?_
          refine jh hi _ _ ?_
          rw [mnN_1 h0 hi, hv]
          by_cases z : bitI (nI j) i = 0
          · first
              | (rw [if_pos z] at h32; exfalso; revert h32; decide)
              | rw [if_pos z]
          · first
              | (rw [if_neg z] at h32; exfalso; revert h32; decide)
              | (rw [if_neg z, ← k2]; rfl)
    refine v_iload_n dX6_restOfTrip_0 rfl rfl ?_
    refine v_if_ne (tgt := 12) dX6_restOfTrip_1 (by decide) (fun h1 => ?_) (fun h1 => ?_)
    · refine lc_X6_19 dX6_restOfTrip_12 rfl ?_
      refine v_istore_4 dX6_restOfTrip_14 ?_
      refine v_iconst (v := 0) dX6_restOfTrip_16 (by decide) ?_
      refine v_istore_5 dX6_restOfTrip_17 ?_
      exact key (by first | assumption | exact fun z => absurd z (by assumption)) 0 (by lia) (by lia) _ _ rfl
    · refine v_aload_n dX6_restOfTrip_4 rfl rfl ?_
      refine v_iload_n dX6_restOfTrip_5 rfl rfl ?_
      refine v_iload_n dX6_restOfTrip_6 rfl rfl ?_
      refine k_X6_24 dX6_restOfTrip_7 rfl (c_cell htr here home) (by omega) (by omega) (by omega) (Nat.le_of_ble_eq_true rfl) (fun r7 M9 h9 => ?_) (fun _ _ h9 => h9.elim)
      obtain ⟨rfl, e9⟩ := h9
      subst M9
      refine v_iald dX6_restOfTrip_10 hD b0 b1 ?_
      exact v_iret dX6_restOfTrip_11 rfl ⟨by show _ = (if nI j = 0 then D (here * 7 + home) else mnN (nI j) (fun i => D (here * 7 + i) + rF D home k i (nI j &&& (sbit i ^^^ -1))) 7); rw [if_pos (by first | assumption | exact Classical.not_not.mp (by assumption))], rfl⟩ (by omega) (by omega)
theorem dX6_shortestByOrders_0 : decode cX6_shortestByOrders 0 = .ok (.aload_n 0, 1) := by decide +kernel
theorem dX6_shortestByOrders_1 : decode cX6_shortestByOrders 1 = .ok (.iload_n 1, 1) := by decide +kernel
theorem dX6_shortestByOrders_2 : decode cX6_shortestByOrders 2 = .ok (.iload_n 1, 1) := by decide +kernel
theorem dX6_shortestByOrders_3 : decode cX6_shortestByOrders 3 = .ok (.iload_n 2, 1) := by decide +kernel
theorem dX6_shortestByOrders_4 : decode cX6_shortestByOrders 4 = .ok (.invokestatic 37, 3) := by decide +kernel
theorem dX6_shortestByOrders_7 : decode cX6_shortestByOrders 7 = .ok (.ireturn, 1) := by decide +kernel
set_option maxRecDepth 100000 in
set_option maxHeartbeats 4000000 in
theorem c_shortestByOrders {l : Launch} {g : Nat → Nat} {M : LH} (htr : l.stackTraces = false) {db : Nat} {D : Int32 → Int32} (hD : M db = some (ia 49 D)) {home : Int32} (hh0 : 0 ≤ home) (hh : home < 7) {j : Nat} (hj : j < 128) : K_X6_shortestByOrders l g 9 0 0 [.ref db, .int home, .int (nI j)] M (RI (fun v M9 => v = rF D home 7 home (nI j) ∧ M9 = M) nX) := by
  refine Ko_X6_shortestByOrders htr (fun X => ?_)
  refine v_aload_n dX6_shortestByOrders_0 rfl rfl ?_
  refine v_iload_n dX6_shortestByOrders_1 rfl rfl ?_
  refine v_iload_n dX6_shortestByOrders_2 rfl rfl ?_
  refine v_iload_n dX6_shortestByOrders_3 rfl rfl ?_
  refine k_X6_37 dX6_shortestByOrders_4 rfl (c_restOfTrip htr hD hh0 hh 7 j hj (pcN_le _ 7) home hh0 hh) (Nat.le_of_ble_eq_true rfl) (by omega) (by omega) (Nat.le_of_ble_eq_true rfl) (fun r4 M9 h9 => ?_) (fun _ _ h9 => h9.elim)
  obtain ⟨rfl, e9⟩ := h9
  subst M9
  exact v_iret dX6_shortestByOrders_7 rfl ⟨rfl, rfl⟩ (by omega) (by omega)
