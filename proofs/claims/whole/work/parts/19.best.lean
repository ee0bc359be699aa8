/-! ===== the best load ===== -/
theorem tc_i {i : Int32} (h0 : 0 ≤ i) (h1 : i < 100) : (i + 1).toNatClampNeg = i.toNatClampNeg + 1 ∧ (i + 1).toInt = i.toInt + 1 := by
  have a := tc_Int h0
  have b : (i + 1).toInt = i.toInt + 1 := by
    have q1 := i_le.mp h0
    have q2 := i_lt.mp h1
    have q3 : (100 : Int32).toInt = 100 := rfl
    rw [i_0] at q1
    rw [i_add] <;> rw [i_1] <;> omega
  have c := tc_Int (i := i + 1) (by lia)
  exact ⟨by omega, b⟩
theorem ofm1 : Int32.ofInt (-1) = -1 := by decide
theorem dn_ind {P : Int32 → Prop} (h : ∀ i, 0 ≤ i → (0 < i → P (i + Int32.ofInt (-1))) → P i) : ∀ i, 0 ≤ i → P i := by
  have key : ∀ (n : Nat) (i : Int32), 0 ≤ i → i.toNatClampNeg = n → P i := by
    intro n
    induction n with
    | zero =>
      intro i h0 hn
      have a := tc_Int h0
      exact h i h0 (fun q => by have q1 := i_lt.mp q; rw [i_0] at q1; omega)
    | succ n ih =>
      intro i h0 hn
      have a := tc_Int h0
      refine h i h0 (fun q => ?_)
      rw [ofm1]
      have b : (i + -1).toInt = i.toInt - 1 := by
        have q1 := i_lt.mp q
        have q3 : (-1 : Int32).toInt = -1 := by decide
        have q4 := i.toInt_lt
        rw [i_0] at q1
        rw [i_add] <;> rw [q3] <;> omega
      have b0 : 0 ≤ i + -1 := by rw [i_le, b, i_0]; omega
      have c := tc_Int b0
      exact ih _ b0 (by omega)
  exact fun i h0 => key _ i h0 rfl
def rkI (σ : Int32 → Int32) (p : Int32) : Int32 := lt σ p 3 * 524288 - lt σ p 2 * 4096 + sbit (11 - p)
def mxI (x z : Int32) : Int32 := if x < z then z else x
def ofN (σ : Int32 → Int32) (p : Int32) (f : Int32 → Int32) (w : Int32) : Int32 := if lt σ p 2 ≤ w then mxI (f w) (f (w - lt σ p 2) + rkI σ p) else f w
/-- the best rank of the letters of station st below k, w of weight -/
def bI (σ : Int32 → Int32) (st : Int32) : Nat → Int32 → Int32
  | 0, _ => 0
  | k + 1, w => if lt σ (nI k) 6 = st then ofN σ (nI k) (bI σ st k) w else bI σ st k w
def feU (σ : Int32 → Int32) (m n : Int32) : Int32 := sumU (fun i => if m &&& sbit (11 - i) = 0 then 0 else lt σ i 3) n
/-- the most fees of k letters from pos on that wait in st, of room -/
def trI (σ : Int32 → Int32) (st : Int32) : Nat → Int32 → Int32 → Int32
  | 0, _, _ => 0
  | k + 1, pos, room => if lt σ pos 6 = st ∧ lt σ pos 2 ≤ room then mxI (trI σ st k (pos + 1) room) (lt σ pos 3 + trI σ st k (pos + 1) (room - lt σ pos 2)) else trI σ st k (pos + 1) room
theorem bI_1 {σ : Int32 → Int32} {st i w : Int32} (h0 : 0 ≤ i) (h1 : i < 100) : bI σ st (i + 1).toNatClampNeg w = if lt σ i 6 = st then ofN σ i (bI σ st i.toNatClampNeg) w else bI σ st i.toNatClampNeg w := by
  rw [(tc_i h0 h1).1]
  show (if lt σ (nI i.toNatClampNeg) 6 = st then _ else _) = _
  rw [tc_nI h0]
theorem of_end {σ f : Int32 → Int32} {p i w : Int32} (h : i < lt σ p 2) : (if i < w then ofN σ p f w else f w) = ofN σ p f w := by
  by_cases q : i < w
  · rw [if_pos q]
  · rw [if_neg q]
    unfold ofN
    rw [if_neg (by lia)]
theorem ofN_cg {σ f g : Int32 → Int32} {p w room : Int32} (hp : 1 ≤ lt σ p 2) (w0 : 0 ≤ w) (w1 : w ≤ room) (h : ∀ w, 0 ≤ w → w ≤ room → f w = g w) : ofN σ p f w = ofN σ p g w := by
  unfold ofN
  by_cases q : lt σ p 2 ≤ w
  · rw [if_pos q, if_pos q, h w w0 w1, h (w - lt σ p 2) (by lia) (by lia)]
  · rw [if_neg q, if_neg q, h w w0 w1]
theorem dX1_offer_0 : decode cX1_offer 0 = .ok (.aload_n 1, 1) := by decide +kernel
theorem dX1_offer_1 : decode cX1_offer 1 = .ok (.getfield 52, 3) := by decide +kernel
theorem dX1_offer_4 : decode cX1_offer 4 = .ok (.ldc 55, 2) := by decide +kernel
theorem dX1_offer_6 : decode cX1_offer 6 = .ok (.imul, 1) := by decide +kernel
theorem dX1_offer_7 : decode cX1_offer 7 = .ok (.aload_n 1, 1) := by decide +kernel
theorem dX1_offer_8 : decode cX1_offer 8 = .ok (.getfield 56, 3) := by decide +kernel
theorem dX1_offer_11 : decode cX1_offer 11 = .ok (.sipush 4096, 3) := by decide +kernel
theorem dX1_offer_14 : decode cX1_offer 14 = .ok (.imul, 1) := by decide +kernel
theorem dX1_offer_15 : decode cX1_offer 15 = .ok (.isub, 1) := by decide +kernel
theorem dX1_offer_16 : decode cX1_offer 16 = .ok (.iload_n 2, 1) := by decide +kernel
theorem dX1_offer_17 : decode cX1_offer 17 = .ok (.invokestatic 59, 3) := by decide +kernel
theorem dX1_offer_20 : decode cX1_offer 20 = .ok (.iadd, 1) := by decide +kernel
theorem dX1_offer_21 : decode cX1_offer 21 = .ok (.istore 4, 2) := by decide +kernel
theorem dX1_offer_23 : decode cX1_offer 23 = .ok (.iload_n 3, 1) := by decide +kernel
theorem dX1_offer_24 : decode cX1_offer 24 = .ok (.istore 5, 2) := by decide +kernel
theorem dX1_offer_26 : decode cX1_offer 26 = .ok (.iload 5, 2) := by decide +kernel
theorem dX1_offer_28 : decode cX1_offer 28 = .ok (.aload_n 1, 1) := by decide +kernel
theorem dX1_offer_29 : decode cX1_offer 29 = .ok (.getfield 56, 3) := by decide +kernel
theorem dX1_offer_32 : decode cX1_offer 32 = .ok (.if_icmp .lt 41, 3) := by decide +kernel
theorem dX1_offer_35 : decode cX1_offer 35 = .ok (.aload_n 0, 1) := by decide +kernel
theorem dX1_offer_36 : decode cX1_offer 36 = .ok (.getfield 11, 3) := by decide +kernel
theorem dX1_offer_39 : decode cX1_offer 39 = .ok (.iload 5, 2) := by decide +kernel
theorem dX1_offer_41 : decode cX1_offer 41 = .ok (.aload_n 0, 1) := by decide +kernel
theorem dX1_offer_42 : decode cX1_offer 42 = .ok (.getfield 11, 3) := by decide +kernel
theorem dX1_offer_45 : decode cX1_offer 45 = .ok (.iload 5, 2) := by decide +kernel
theorem dX1_offer_47 : decode cX1_offer 47 = .ok (.iaload, 1) := by decide +kernel
theorem dX1_offer_48 : decode cX1_offer 48 = .ok (.aload_n 0, 1) := by decide +kernel
theorem dX1_offer_49 : decode cX1_offer 49 = .ok (.getfield 11, 3) := by decide +kernel
theorem dX1_offer_52 : decode cX1_offer 52 = .ok (.iload 5, 2) := by decide +kernel
theorem dX1_offer_54 : decode cX1_offer 54 = .ok (.aload_n 1, 1) := by decide +kernel
theorem dX1_offer_55 : decode cX1_offer 55 = .ok (.getfield 56, 3) := by decide +kernel
theorem dX1_offer_58 : decode cX1_offer 58 = .ok (.isub, 1) := by decide +kernel
theorem dX1_offer_59 : decode cX1_offer 59 = .ok (.iaload, 1) := by decide +kernel
theorem dX1_offer_60 : decode cX1_offer 60 = .ok (.iload 4, 2) := by decide +kernel
theorem dX1_offer_62 : decode cX1_offer 62 = .ok (.iadd, 1) := by decide +kernel
theorem dX1_offer_63 : decode cX1_offer 63 = .ok (.invokestatic 62, 3) := by decide +kernel
theorem dX1_offer_66 : decode cX1_offer 66 = .ok (.iastore, 1) := by decide +kernel
theorem dX1_offer_67 : decode cX1_offer 67 = .ok (.iinc 5 (-1), 3) := by decide +kernel
theorem dX1_offer_70 : decode cX1_offer 70 = .ok (.goto (-44), 3) := by decide +kernel
theorem dX1_offer_73 : decode cX1_offer 73 = .ok (.return_, 1) := by decide +kernel
set_option maxRecDepth 100000 in
set_option maxHeartbeats 4000000 in
theorem c_offer {l : Launch} {g : Nat → Nat} {M : LH} (htr : l.stackTraces = false) {kd : Nat → Nat} {r a : Nat} {ad : Nat → Nat} {sl le : Int32 → Nat} {fg tp : Int32} {F : Nat → Int32 → Int32} {σ : Int32 → Int32} (hC : StR kd r M a ad sl le fg tp F σ) {x tb : Nat} (hX : M x = some (ob 1 [.ref tb])) {f : Int32 → Int32} (hT : M tb = some (ia 31 f)) (hkt : ¬ kd tb = r) {p room : Int32} (hp0 : 0 ≤ p) (hp : p < σ 7) (hr0 : 0 ≤ room) (hr : room ≤ 30) : K_X1_offer l g 1 0 0 [.ref x, .ref (le p), .int p, .int room] M (RV (fun M9 => ∃ f', (∀ w, 0 ≤ w → w ≤ room → f' w = ofN σ p f w) ∧ M9 = hup M tb (ia 31 f')) nX) := by
  refine Ko_X1_offer htr (fun X => ?_)
  have hC0 := hC
  obtain ⟨hSt, hRo, hSR, hLR, hSl, hLe, hkd, -, ⟨-, hRd, hSd, hLt⟩, hG⟩ := hC
  have hG0 := hG
  obtain ⟨hg1, hg2, hg3, hg4, hg5, hg6, hg7, hg8, hgL, hgS, -⟩ := hG
  have nbX : ¬ x = tb := ne_of_cell hX hT ob_ia
  have hp12 : p < 12 := by lia
  have hL := hLe p hp0 hp12
  obtain ⟨q0, q1, q2, q3, q4, q5, q6, q7⟩ := hLt p hp0 hp
  obtain ⟨z1, z2, z3, z4, -⟩ := hgL p hp0 hp
  have nbL : ¬ le p = tb := ne_of_cell hL hT ob_ia
  have key : ∀ i, 0 ≤ i → i ≤ room → ∀ (f' : Int32 → Int32), (∀ w, 0 ≤ w → w ≤ room → f' w = if i < w then ofN σ p f w else f w) → V l g yX1_offer cX1_offer none [] 1 0 0 (RV (fun M9 => ∃ f', (∀ w, 0 ≤ w → w ≤ room → f' w = ofN σ p f w) ∧ M9 = hup M tb (ia 31 f')) nX) X (hup M tb (ia 31 f')) 0 0 26 [some (.ref x), some (.ref (le p)), some (.int p), some (.int room), some (.int (rkI σ p)), some (.int i)] [] := by
    refine dn_ind (P := fun i => i ≤ room → ∀ (f' : Int32 → Int32), (∀ w, 0 ≤ w → w ≤ room → f' w = if i < w then ofN σ p f w else f w) → V l g yX1_offer cX1_offer none [] 1 0 0 (RV (fun M9 => ∃ f', (∀ w, 0 ≤ w → w ≤ room → f' w = ofN σ p f w) ∧ M9 = hup M tb (ia 31 f')) nX) X (hup M tb (ia 31 f')) 0 0 26 [some (.ref x), some (.ref (le p)), some (.int p), some (.int room), some (.int (rkI σ p)), some (.int i)] []) (fun i h0 ih h1 f' hv => ?_)
    refine v_iload dX1_offer_26 rfl ?_
    refine v_aload_n dX1_offer_28 rfl rfl ?_
    refine gf_X1_56 dX1_offer_29 rfl ((hup_n nbL).trans hL) ?_
    rw [q2]
    refine v_icmp_lt (tgt := 73) dX1_offer_32 (by decide) (fun h32 => ?_) (fun h32 => ?_)
    · exact v_vret dX1_offer_73 rfl ⟨f', fun w w0 w1 => (hv w w0 w1).trans (of_end h32), rfl⟩ (by omega) (by omega)
    · have hw1 : lt σ p 2 ≤ i := by lia
      have e1 : f' i = f i := by rw [hv i h0 h1, if_neg (by lia)]
      have e2 : f' (i - lt σ p 2) = f (i - lt σ p 2) := by rw [hv (i - lt σ p 2) (by lia) (by lia), if_neg (by lia)]
      refine v_aload_n dX1_offer_35 rfl rfl ?_
      refine gf_X1_11 dX1_offer_36 rfl ((hup_n nbX).trans hX) ?_
      refine v_iload dX1_offer_39 rfl ?_
      refine v_aload_n dX1_offer_41 rfl rfl ?_
      refine gf_X1_11 dX1_offer_42 rfl ((hup_n nbX).trans hX) ?_
      refine v_iload dX1_offer_45 rfl ?_
      refine v_iald dX1_offer_47 hup_s (by lia) (by lia) ?_
      rw [e1]
      refine v_aload_n dX1_offer_48 rfl rfl ?_
      refine gf_X1_11 dX1_offer_49 rfl ((hup_n nbX).trans hX) ?_
      refine v_iload dX1_offer_52 rfl ?_
      refine v_aload_n dX1_offer_54 rfl rfl ?_
      refine gf_X1_56 dX1_offer_55 rfl ((hup_n nbL).trans hL) ?_
      rw [q2]
      refine v_isub dX1_offer_58 ?_
      refine v_iald dX1_offer_59 hup_s (by lia) (by lia) ?_
      rw [e2]
      refine v_iload dX1_offer_60 rfl ?_
      refine v_iadd dX1_offer_62 ?_
      refine mm_X1_62 dX1_offer_63 rfl (Nat.le_of_ble_eq_true rfl) (by omega) (by omega) ?_
      refine v_iast dX1_offer_66 hup_s (by lia) (by lia) ?_
      refine v_iinc_5 dX1_offer_67 rfl ?_
      refine v_goto (tgt := 26) dX1_offer_70 (by decide) ?_
      rw [hup_hup]
      refine ih (by lia) (by rw [ofm1]; lia) _ (fun w w0 w1 => ?_)
      rw [ofm1]
      by_cases e : w = i
      · have g9 : i + -1 < i := by clear hv ih; lia
        rw [e, ui_s]
        refine Eq.trans ?_ (if_pos g9).symm
        unfold ofN
        rw [if_pos hw1]
        rfl
      · rw [ui_n e, hv w w0 w1]
        by_cases q : i < w
        · rw [if_pos q, if_pos (by lia)]
        · rw [if_neg q, if_neg (by lia)]
  refine v_aload_n dX1_offer_0 rfl rfl ?_
  refine gf_X1_52 dX1_offer_1 rfl hL ?_
  refine lc_X1_55 dX1_offer_4 rfl ?_
  refine v_imul dX1_offer_6 ?_
  refine v_aload_n dX1_offer_7 rfl rfl ?_
  refine gf_X1_56 dX1_offer_8 rfl hL ?_
  refine v_sipush (v := (4096)) dX1_offer_11 (by decide) ?_
  refine v_imul dX1_offer_14 ?_
  refine v_isub dX1_offer_15 ?_
  refine v_iload_n dX1_offer_16 rfl rfl ?_
  refine k_X1_59 dX1_offer_17 rfl (c_bit htr p) (Nat.le_of_ble_eq_true rfl) (by omega) (by omega) (Nat.le_of_ble_eq_true rfl) (fun r17 M9 h9 => ?_) (fun _ _ h9 => h9.elim)
  obtain ⟨rfl, e9⟩ := h9
  subst M9
  refine v_iadd dX1_offer_20 ?_
  refine v_istore_4 dX1_offer_21 ?_
  refine v_iload_n dX1_offer_23 rfl rfl ?_
  refine v_istore_5 dX1_offer_24 ?_
  rw [q3, q2, show lt σ p 3 * 524288 - lt σ p 2 * 4096 + sbit (11 - p) = rkI σ p from rfl]
  have hk0 := key room hr0 (Int32.le_refl _) f (fun w w0 w1 => (if_neg (by lia)).symm)
  rw [hup_id hT] at hk0
  exact hk0

theorem dX1_bestSet_0 : decode cX1_bestSet 0 = .ok (.aload_n 1, 1) := by decide +kernel
theorem dX1_bestSet_1 : decode cX1_bestSet 1 = .ok (.iload_n 2, 1) := by decide +kernel
theorem dX1_bestSet_2 : decode cX1_bestSet 2 = .ok (.invokevirtual 15, 3) := by decide +kernel
theorem dX1_bestSet_5 : decode cX1_bestSet 5 = .ok (.istore_n 3, 1) := by decide +kernel
theorem dX1_bestSet_6 : decode cX1_bestSet 6 = .ok (.aload_n 1, 1) := by decide +kernel
theorem dX1_bestSet_7 : decode cX1_bestSet 7 = .ok (.getfield 21, 3) := by decide +kernel
theorem dX1_bestSet_10 : decode cX1_bestSet 10 = .ok (.iload_n 2, 1) := by decide +kernel
theorem dX1_bestSet_11 : decode cX1_bestSet 11 = .ok (.aaload, 1) := by decide +kernel
theorem dX1_bestSet_12 : decode cX1_bestSet 12 = .ok (.getfield 25, 3) := by decide +kernel
theorem dX1_bestSet_15 : decode cX1_bestSet 15 = .ok (.istore 4, 2) := by decide +kernel
theorem dX1_bestSet_17 : decode cX1_bestSet 17 = .ok (.iload_n 3, 1) := by decide +kernel
theorem dX1_bestSet_18 : decode cX1_bestSet 18 = .ok (.iconst 0, 1) := by decide +kernel
theorem dX1_bestSet_19 : decode cX1_bestSet 19 = .ok (.bipush 30, 2) := by decide +kernel
theorem dX1_bestSet_21 : decode cX1_bestSet 21 = .ok (.invokestatic 31, 3) := by decide +kernel
theorem dX1_bestSet_24 : decode cX1_bestSet 24 = .ok (.ifCond .ne 5, 3) := by decide +kernel
theorem dX1_bestSet_27 : decode cX1_bestSet 27 = .ok (.iconst 0, 1) := by decide +kernel
theorem dX1_bestSet_28 : decode cX1_bestSet 28 = .ok (.ireturn, 1) := by decide +kernel
theorem dX1_bestSet_29 : decode cX1_bestSet 29 = .ok (.iconst 0, 1) := by decide +kernel
theorem dX1_bestSet_30 : decode cX1_bestSet 30 = .ok (.istore 5, 2) := by decide +kernel
theorem dX1_bestSet_32 : decode cX1_bestSet 32 = .ok (.iload 5, 2) := by decide +kernel
theorem dX1_bestSet_34 : decode cX1_bestSet 34 = .ok (.iload_n 3, 1) := by decide +kernel
theorem dX1_bestSet_35 : decode cX1_bestSet 35 = .ok (.if_icmp .gt 17, 3) := by decide +kernel
theorem dX1_bestSet_38 : decode cX1_bestSet 38 = .ok (.aload_n 0, 1) := by decide +kernel
theorem dX1_bestSet_39 : decode cX1_bestSet 39 = .ok (.getfield 11, 3) := by decide +kernel
theorem dX1_bestSet_42 : decode cX1_bestSet 42 = .ok (.iload 5, 2) := by decide +kernel
theorem dX1_bestSet_44 : decode cX1_bestSet 44 = .ok (.iconst 0, 1) := by decide +kernel
theorem dX1_bestSet_45 : decode cX1_bestSet 45 = .ok (.iastore, 1) := by decide +kernel
theorem dX1_bestSet_46 : decode cX1_bestSet 46 = .ok (.iinc 5 1, 3) := by decide +kernel
theorem dX1_bestSet_49 : decode cX1_bestSet 49 = .ok (.goto (-17), 3) := by decide +kernel
theorem dX1_bestSet_52 : decode cX1_bestSet 52 = .ok (.iconst 0, 1) := by decide +kernel
theorem dX1_bestSet_53 : decode cX1_bestSet 53 = .ok (.istore 5, 2) := by decide +kernel
theorem dX1_bestSet_55 : decode cX1_bestSet 55 = .ok (.iload 5, 2) := by decide +kernel
theorem dX1_bestSet_57 : decode cX1_bestSet 57 = .ok (.aload_n 1, 1) := by decide +kernel
theorem dX1_bestSet_58 : decode cX1_bestSet 58 = .ok (.getfield 35, 3) := by decide +kernel
theorem dX1_bestSet_61 : decode cX1_bestSet 61 = .ok (.if_icmp .ge 38, 3) := by decide +kernel
theorem dX1_bestSet_64 : decode cX1_bestSet 64 = .ok (.aload_n 1, 1) := by decide +kernel
theorem dX1_bestSet_65 : decode cX1_bestSet 65 = .ok (.getfield 38, 3) := by decide +kernel
theorem dX1_bestSet_68 : decode cX1_bestSet 68 = .ok (.iload 5, 2) := by decide +kernel
theorem dX1_bestSet_70 : decode cX1_bestSet 70 = .ok (.aaload, 1) := by decide +kernel
theorem dX1_bestSet_71 : decode cX1_bestSet 71 = .ok (.iload 4, 2) := by decide +kernel
theorem dX1_bestSet_73 : decode cX1_bestSet 73 = .ok (.invokevirtual 42, 3) := by decide +kernel
theorem dX1_bestSet_76 : decode cX1_bestSet 76 = .ok (.ifCond .eq 17, 3) := by decide +kernel
theorem dX1_bestSet_79 : decode cX1_bestSet 79 = .ok (.aload_n 0, 1) := by decide +kernel
theorem dX1_bestSet_80 : decode cX1_bestSet 80 = .ok (.aload_n 1, 1) := by decide +kernel
theorem dX1_bestSet_81 : decode cX1_bestSet 81 = .ok (.getfield 38, 3) := by decide +kernel
theorem dX1_bestSet_84 : decode cX1_bestSet 84 = .ok (.iload 5, 2) := by decide +kernel
theorem dX1_bestSet_86 : decode cX1_bestSet 86 = .ok (.aaload, 1) := by decide +kernel
theorem dX1_bestSet_87 : decode cX1_bestSet 87 = .ok (.iload 5, 2) := by decide +kernel
theorem dX1_bestSet_89 : decode cX1_bestSet 89 = .ok (.iload_n 3, 1) := by decide +kernel
theorem dX1_bestSet_90 : decode cX1_bestSet 90 = .ok (.invokevirtual 48, 3) := by decide +kernel
theorem dX1_bestSet_93 : decode cX1_bestSet 93 = .ok (.iinc 5 1, 3) := by decide +kernel
theorem dX1_bestSet_96 : decode cX1_bestSet 96 = .ok (.goto (-41), 3) := by decide +kernel
theorem dX1_bestSet_99 : decode cX1_bestSet 99 = .ok (.aload_n 0, 1) := by decide +kernel
theorem dX1_bestSet_100 : decode cX1_bestSet 100 = .ok (.getfield 11, 3) := by decide +kernel
theorem dX1_bestSet_103 : decode cX1_bestSet 103 = .ok (.iload_n 3, 1) := by decide +kernel
theorem dX1_bestSet_104 : decode cX1_bestSet 104 = .ok (.iaload, 1) := by decide +kernel
theorem dX1_bestSet_105 : decode cX1_bestSet 105 = .ok (.sipush 4095, 3) := by decide +kernel
theorem dX1_bestSet_108 : decode cX1_bestSet 108 = .ok (.iand, 1) := by decide +kernel
theorem dX1_bestSet_109 : decode cX1_bestSet 109 = .ok (.ireturn, 1) := by decide +kernel
set_option maxRecDepth 100000 in
set_option maxHeartbeats 4000000 in
theorem c_bestSet {l : Launch} {g : Nat → Nat} {M : LH} (htr : l.stackTraces = false) {kd : Nat → Nat} {r a : Nat} {ad : Nat → Nat} {sl le : Int32 → Nat} {fg tp : Int32} {F : Nat → Int32 → Int32} {σ : Int32 → Int32} (hC : StR kd r M a ad sl le fg tp F σ) {x tb : Nat} (hX : M x = some (ob 1 [.ref tb])) {f : Int32 → Int32} (hT : M tb = some (ia 31 f)) (hkt : ¬ kd tb = r) {k : Int32} (hk0 : 0 ≤ k) (hk : k < σ 6) : K_X1_bestSet l g 2 0 0 [.ref x, .ref a, .int k] M (RI (fun v M9 => v = bI σ (sd σ k 1) (σ 7).toNatClampNeg (sd σ k 0 - loadOn σ k) &&& 4095 ∧ ∃ f', M9 = hup M tb (ia 31 f')) nX) := by
  refine Ko_X1_bestSet htr (fun X => ?_)
  have hC0 := hC
  obtain ⟨hSt, hRo, hSR, hLR, hSl, hLe, hkd, -, ⟨-, hRd, hSd, hLt⟩, hG⟩ := hC
  have hG0 := hG
  obtain ⟨hg1, hg2, hg3, hg4, hg5, hg6, hg7, hg8, hgL, hgS, -⟩ := hG
  have nbX : ¬ x = tb := ne_of_cell hX hT ob_ia
  have nbS : ¬ a = tb := ne_of_cell hSt hT ob_ia
  have nbR : ¬ ad 2 = tb := fun z => hkt (by rw [← z]; exact hkd.2.2.2.1)
  obtain ⟨z0, z1, z2, z3, -, -, z6, z7⟩ := hgS k hk0 hk
  obtain ⟨p0, p1, p2⟩ := hSd k hk0 hk
  have hr0 : 0 ≤ (sd σ k 0 - loadOn σ k) := by clear hLt hgL hLe hSl hSd hgS hRd; lia
  have hr1 : (sd σ k 0 - loadOn σ k) ≤ 30 := by clear hLt hgL hLe hSl hSd hgS hRd; lia
  have key2 : ∀ i, 0 ≤ i → i ≤ σ 7 → ∀ (f' : Int32 → Int32), (∀ w, 0 ≤ w → w ≤ (sd σ k 0 - loadOn σ k) → f' w = bI σ (sd σ k 1) i.toNatClampNeg w) → V l g yX1_bestSet cX1_bestSet (some .int) [] 2 0 0 (RI (fun v M9 => v = bI σ (sd σ k 1) (σ 7).toNatClampNeg (sd σ k 0 - loadOn σ k) &&& 4095 ∧ ∃ f', M9 = hup M tb (ia 31 f')) nX) X (hup M tb (ia 31 f')) 0 0 55 [some (.ref x), some (.ref a), some (.int k), some (.int (sd σ k 0 - loadOn σ k)), some (.int (sd σ k 1)), some (.int i)] [] := by
    refine up_ind _ (fun i h0 h1 ih f' hv => ?_)
    have hC1 := StR.kept hC0 (fun z => hkt z.symm) (Frm.up (kd := kd) (M := M) (e := ia 31 f') (rfl : kd tb = kd tb))
    refine v_iload dX1_bestSet_55 rfl ?_
    refine v_aload_n dX1_bestSet_57 rfl rfl ?_
    refine gf_X1_35 dX1_bestSet_58 rfl ((hup_n nbS).trans hSt) ?_
    refine v_icmp_ge (tgt := 99) dX1_bestSet_61 (by decide) (fun h61 => ?_) (fun h61 => ?_)
    · have hi : i = σ 7 := by lia
      subst hi
      refine v_aload_n dX1_bestSet_99 rfl rfl ?_
      refine gf_X1_11 dX1_bestSet_100 rfl ((hup_n nbX).trans hX) ?_
      refine v_iload_n dX1_bestSet_103 rfl rfl ?_
      refine v_iald dX1_bestSet_104 hup_s hr0 (by clear hLt hgL hLe hSl hSd hgS hRd ih hv; lia) ?_
      refine v_sipush (v := (4095)) dX1_bestSet_105 (by decide) ?_
      refine v_iand dX1_bestSet_108 ?_
      exact v_iret dX1_bestSet_109 rfl ⟨by rw [hv _ hr0 (Int32.le_refl _)], f', rfl⟩ (by omega) (by omega)
    · have hi : i < σ 7 := by lia
      have hi12 : i < 12 := by lia
      have hLi := (hup_n (M := M) (e := ia 31 f') (ne_of_cell (hLe i h0 hi12) hT ob_ia)).trans (hLe i h0 hi12)
      obtain ⟨q0, q1, q2, q3, q4, q5, q6, q7⟩ := hLt i h0 hi
      obtain ⟨y1, y2, y3, y4, y5, y6, y7, y8, y9, y10, y11, y12, y13, y14⟩ := hgL i h0 hi
      have hw9 : (F 6 i = -1 ∧ F 7 i = sd σ k 1) ↔ lt σ i 6 = sd σ k 1 := by
        clear hLt hgL hLe hSl hSd hgS hRd ih hv hLi
        have : sd σ k 1 < 10 := by lia
        grind
      refine v_aload_n dX1_bestSet_64 rfl rfl ?_
      refine gf_X1_38 dX1_bestSet_65 rfl ((hup_n nbS).trans hSt) ?_
      refine v_iload dX1_bestSet_68 rfl ?_
      refine v_aald1 dX1_bestSet_70 ((hup_n nbR).trans hLR) h0 hi12 rfl ?_
      refine v_iload dX1_bestSet_71 rfl ?_
      refine k_X1_42 dX1_bestSet_73 rfl (c_waitsAt htr hLi (sd σ k 1)) hLi (Nat.le_of_ble_eq_true rfl) (by omega) (by omega) (Nat.le_of_ble_eq_true rfl) (fun r73 M9 h9 => ?_) (fun _ _ h9 => h9.elim)
      obtain ⟨rfl, e9⟩ := h9
      subst M9
      refine v_if_eq (tgt := 93) dX1_bestSet_76 (by decide) (fun h76 => ?_) (fun h76 => ?_)
      · refine v_iinc_5 dX1_bestSet_93 rfl ?_
        refine v_goto (tgt := 55) dX1_bestSet_96 (by decide) ?_
        first
          | (have z : F 6 i = -1 ∧ F 7 i = sd σ k 1 := Classical.byContradiction (fun q => by rw [if_neg q] at h76; revert h76; decide)
             refine ih hi f2 (fun w w0 w1 => ?_)
             rw [hq w w0 w1, bI_1 h0 (by lia), if_pos (hw9.mp z)]
             exact ofN_cg y3 w0 w1 hv)
          | (have z : ¬ (F 6 i = -1 ∧ F 7 i = sd σ k 1) := fun q => by rw [if_pos q] at h76; revert h76; decide
             refine ih hi f' (fun w w0 w1 => ?_)
             rw [hv w w0 w1, bI_1 h0 (by lia), if_neg (fun q => z (hw9.mpr q))])
      · refine v_aload_n dX1_bestSet_79 rfl rfl ?_
        refine v_aload_n dX1_bestSet_80 rfl rfl ?_
        refine gf_X1_38 dX1_bestSet_81 rfl ((hup_n nbS).trans hSt) ?_
        refine v_iload dX1_bestSet_84 rfl ?_
        refine v_aald1 dX1_bestSet_86 ((hup_n nbR).trans hLR) h0 hi12 rfl ?_
        refine v_iload dX1_bestSet_87 rfl ?_
        refine v_iload_n dX1_bestSet_89 rfl rfl ?_
        refine k_X1_48 dX1_bestSet_90 rfl (c_offer htr hC1 ((hup_n nbX).trans hX) hup_s hkt h0 hi hr0 hr1) ((hup_n nbX).trans hX) (Nat.le_of_ble_eq_true rfl) (by omega) (by omega) (Nat.le_of_ble_eq_true rfl) (fun M9 h9 => ?_) (fun _ _ h9 => h9.elim)
        obtain ⟨f2, hq, e9⟩ := h9
        rw [hup_hup] at e9
        subst M9
        refine v_iinc_5 dX1_bestSet_93 rfl ?_
        refine v_goto (tgt := 55) dX1_bestSet_96 (by decide) ?_
        first
          | (have z : F 6 i = -1 ∧ F 7 i = sd σ k 1 := Classical.byContradiction (fun q => by rw [if_neg q] at h76; revert h76; decide)
             refine ih hi f2 (fun w w0 w1 => ?_)
             rw [hq w w0 w1, bI_1 h0 (by lia), if_pos (hw9.mp z)]
             exact ofN_cg y3 w0 w1 hv)
          | (have z : ¬ (F 6 i = -1 ∧ F 7 i = sd σ k 1) := fun q => by rw [if_pos q] at h76; revert h76; decide
             refine ih hi f' (fun w w0 w1 => ?_)
             rw [hv w w0 w1, bI_1 h0 (by lia), if_neg (fun q => z (hw9.mpr q))])
  have key1 : ∀ i, 0 ≤ i → i ≤ (sd σ k 0 - loadOn σ k) + 1 → ∀ (f' : Int32 → Int32), (∀ w, 0 ≤ w → w < i → f' w = 0) → V l g yX1_bestSet cX1_bestSet (some .int) [] 2 0 0 (RI (fun v M9 => v = bI σ (sd σ k 1) (σ 7).toNatClampNeg (sd σ k 0 - loadOn σ k) &&& 4095 ∧ ∃ f', M9 = hup M tb (ia 31 f')) nX) X (hup M tb (ia 31 f')) 0 0 32 [some (.ref x), some (.ref a), some (.int k), some (.int (sd σ k 0 - loadOn σ k)), some (.int (sd σ k 1)), some (.int i)] [] := by
    refine up_ind _ (fun i h0 h1 ih f' hv => ?_)
    refine v_iload dX1_bestSet_32 rfl ?_
    refine v_iload_n dX1_bestSet_34 rfl rfl ?_
    refine v_icmp_gt (tgt := 52) dX1_bestSet_35 (by decide) (fun h35 => ?_) (fun h35 => ?_)
    · have hi : i = (sd σ k 0 - loadOn σ k) + 1 := by clear hLt hgL hLe hSl hSd hgS hRd ih hv key2; lia
      refine v_iconst (v := 0) dX1_bestSet_52 (by decide) ?_
      refine v_istore_5 dX1_bestSet_53 ?_
      exact key2 0 (by lia) hg5 f' (fun w w0 w1 => hv w w0 (by clear hLt hgL hLe hSl hSd hgS hRd ih hv key2; lia))
    · have hi : i < (sd σ k 0 - loadOn σ k) + 1 := by clear hLt hgL hLe hSl hSd hgS hRd ih hv key2; lia
      have hi31 : i < 31 := by clear hLt hgL hLe hSl hSd hgS hRd ih hv key2; lia
      refine v_aload_n dX1_bestSet_38 rfl rfl ?_
      refine gf_X1_11 dX1_bestSet_39 rfl ((hup_n nbX).trans hX) ?_
      refine v_iload dX1_bestSet_42 rfl ?_
      refine v_iconst (v := 0) dX1_bestSet_44 (by decide) ?_
      refine v_iast dX1_bestSet_45 hup_s h0 hi31 ?_
      refine v_iinc_5 dX1_bestSet_46 rfl ?_
      refine v_goto (tgt := 32) dX1_bestSet_49 (by decide) ?_
      rw [hup_hup]
      refine ih hi _ (fun w w0 w1 => ?_)
      by_cases e : w = i
      · rw [e, ui_s]
      · rw [ui_n e]
        exact hv w w0 (by clear hLt hgL hLe hSl hSd hgS hRd ih hv key2; lia)
  refine v_aload_n dX1_bestSet_0 rfl rfl ?_
  refine v_iload_n dX1_bestSet_1 rfl rfl ?_
  refine k_X1_15 dX1_bestSet_2 rfl (c_roomOn htr hC0 hk0 hk) (by assumption) (Nat.le_of_ble_eq_true rfl) (by omega) (by omega) (Nat.le_of_ble_eq_true rfl) (fun r2 M9 h9 => ?_) (fun _ _ h9 => h9.elim)
  obtain ⟨rfl, e9⟩ := h9
  subst M9
  refine v_istore_3 dX1_bestSet_5 ?_
  refine v_aload_n dX1_bestSet_6 rfl rfl ?_
  refine gf_X1_21 dX1_bestSet_7 rfl hSt ?_
  refine v_iload_n dX1_bestSet_10 rfl rfl ?_
  refine v_aald1 dX1_bestSet_11 hSR hk0 (by lia) rfl ?_
  refine gf_X1_25 dX1_bestSet_12 rfl (hSl k hk0 (by lia)) ?_
  rw [p1]
  refine v_istore_4 dX1_bestSet_15 ?_
  refine v_iload_n dX1_bestSet_17 rfl rfl ?_
  refine v_iconst (v := 0) dX1_bestSet_18 (by decide) ?_
  refine v_bipush (v := (30)) dX1_bestSet_19 (by decide) ?_
  refine k_X1_31 dX1_bestSet_21 rfl (c_isBetween htr (sd σ k 0 - loadOn σ k) 0 30) (Nat.le_of_ble_eq_true rfl) (by omega) (by omega) (Nat.le_of_ble_eq_true rfl) (fun r21 M9 h9 => ?_) (fun _ _ h9 => h9.elim)
  obtain ⟨rfl, e9⟩ := h9
  subst M9
  refine v_if_ne (tgt := 29) dX1_bestSet_24 (by decide) (fun h24 => ?_) (fun h24 => ?_)
  · refine v_iconst (v := 0) dX1_bestSet_29 (by decide) ?_
    refine v_istore_5 dX1_bestSet_30 ?_
    have hk0 := key1 0 (by lia) (by clear hLt hgL hLe hSl hSd hgS hRd key2 key1; lia) f (fun w w0 w1 => absurd w1 (by lia))
    rw [hup_id hT] at hk0
    exact hk0
  · exfalso
    rw [if_pos ⟨hr0, hr1⟩] at h24
    revert h24
    decide

theorem dX1_feesOfSet_0 : decode cX1_feesOfSet 0 = .ok (.iconst 0, 1) := by decide +kernel
theorem dX1_feesOfSet_1 : decode cX1_feesOfSet 1 = .ok (.istore_n 2, 1) := by decide +kernel
theorem dX1_feesOfSet_2 : decode cX1_feesOfSet 2 = .ok (.iconst 0, 1) := by decide +kernel
theorem dX1_feesOfSet_3 : decode cX1_feesOfSet 3 = .ok (.istore_n 3, 1) := by decide +kernel
theorem dX1_feesOfSet_4 : decode cX1_feesOfSet 4 = .ok (.iload_n 3, 1) := by decide +kernel
theorem dX1_feesOfSet_5 : decode cX1_feesOfSet 5 = .ok (.aload_n 0, 1) := by decide +kernel
theorem dX1_feesOfSet_6 : decode cX1_feesOfSet 6 = .ok (.getfield 35, 3) := by decide +kernel
theorem dX1_feesOfSet_9 : decode cX1_feesOfSet 9 = .ok (.if_icmp .ge 29, 3) := by decide +kernel
theorem dX1_feesOfSet_12 : decode cX1_feesOfSet 12 = .ok (.iload_n 1, 1) := by decide +kernel
theorem dX1_feesOfSet_13 : decode cX1_feesOfSet 13 = .ok (.iload_n 3, 1) := by decide +kernel
theorem dX1_feesOfSet_14 : decode cX1_feesOfSet 14 = .ok (.invokestatic 68, 3) := by decide +kernel
theorem dX1_feesOfSet_17 : decode cX1_feesOfSet 17 = .ok (.ifCond .eq 15, 3) := by decide +kernel
theorem dX1_feesOfSet_20 : decode cX1_feesOfSet 20 = .ok (.iload_n 2, 1) := by decide +kernel
theorem dX1_feesOfSet_21 : decode cX1_feesOfSet 21 = .ok (.aload_n 0, 1) := by decide +kernel
theorem dX1_feesOfSet_22 : decode cX1_feesOfSet 22 = .ok (.getfield 38, 3) := by decide +kernel
theorem dX1_feesOfSet_25 : decode cX1_feesOfSet 25 = .ok (.iload_n 3, 1) := by decide +kernel
theorem dX1_feesOfSet_26 : decode cX1_feesOfSet 26 = .ok (.aaload, 1) := by decide +kernel
theorem dX1_feesOfSet_27 : decode cX1_feesOfSet 27 = .ok (.getfield 52, 3) := by decide +kernel
theorem dX1_feesOfSet_30 : decode cX1_feesOfSet 30 = .ok (.iadd, 1) := by decide +kernel
theorem dX1_feesOfSet_31 : decode cX1_feesOfSet 31 = .ok (.istore_n 2, 1) := by decide +kernel
theorem dX1_feesOfSet_32 : decode cX1_feesOfSet 32 = .ok (.iinc 3 1, 3) := by decide +kernel
theorem dX1_feesOfSet_35 : decode cX1_feesOfSet 35 = .ok (.goto (-31), 3) := by decide +kernel
theorem dX1_feesOfSet_38 : decode cX1_feesOfSet 38 = .ok (.iload_n 2, 1) := by decide +kernel
theorem dX1_feesOfSet_39 : decode cX1_feesOfSet 39 = .ok (.ireturn, 1) := by decide +kernel
set_option maxRecDepth 100000 in
set_option maxHeartbeats 4000000 in
theorem c_feesOfSet {l : Launch} {g : Nat → Nat} {M : LH} (htr : l.stackTraces = false) {kd : Nat → Nat} {r a : Nat} {ad : Nat → Nat} {sl le : Int32 → Nat} {fg tp : Int32} {F : Nat → Int32 → Int32} {σ : Int32 → Int32} (hC : StR kd r M a ad sl le fg tp F σ) (m : Int32) : K_X1_feesOfSet l g 2 0 0 [.ref a, .int m] M (RI (fun v M9 => v = feU σ m (σ 7) ∧ M9 = M) nX) := by
  refine Ko_X1_feesOfSet htr (fun X => ?_)
  have hC0 := hC
  obtain ⟨hSt, hRo, hSR, hLR, hSl, hLe, hkd, -, ⟨-, hRd, hSd, hLt⟩, hG⟩ := hC
  have hG0 := hG
  obtain ⟨hg1, hg2, hg3, hg4, hg5, hg6, hg7, hg8, hgL, hgS, -⟩ := hG
  have key : ∀ i, 0 ≤ i → i ≤ σ 7 → ∀ (s : Int32), s = feU σ m i → V l g yX1_feesOfSet cX1_feesOfSet ((some .int)) [] 2 0 0 (RI (fun v M9 => v = feU σ m (σ 7) ∧ M9 = M) nX) X M 0 0 4 [some (.ref a), some (.int m), some (.int s), some (.int i)] [] := by
    refine up_ind _ (fun i h0 h1 ih s hv => ?_)
    refine v_iload_n dX1_feesOfSet_4 rfl rfl ?_
    refine v_aload_n dX1_feesOfSet_5 rfl rfl ?_
    refine gf_X1_35 dX1_feesOfSet_6 rfl hSt ?_
    refine v_icmp_ge (tgt := 38) dX1_feesOfSet_9 (by decide) (fun h9 => ?_) (fun h9 => ?_)
    · have hi : i = σ 7 := by lia
      subst hi
      refine v_iload_n dX1_feesOfSet_38 rfl rfl ?_
      exact v_iret dX1_feesOfSet_39 rfl ⟨hv, rfl⟩ (by omega) (by omega)
    · have hi : i < σ 7 := by lia
      have hi12 : i < 12 := by lia
      obtain ⟨q0, q1, q2, q3, q4, q5, q6, q7⟩ := hLt i h0 hi
      have e9 : feU σ m (i + 1) = feU σ m i + if m &&& sbit (11 - i) = 0 then 0 else lt σ i 3 := sumU_1 h0 hi
      refine v_iload_n dX1_feesOfSet_12 rfl rfl ?_
      refine v_iload_n dX1_feesOfSet_13 rfl rfl ?_
      refine k_X1_68 dX1_feesOfSet_14 rfl (c_contains htr m i) (Nat.le_of_ble_eq_true rfl) (by omega) (by omega) (Nat.le_of_ble_eq_true rfl) (fun r14 M9 h9 => ?_) (fun _ _ h9 => h9.elim)
      obtain ⟨rfl, e9⟩ := h9
      subst M9
      refine v_if_eq (tgt := 32) dX1_feesOfSet_17 (by decide) (fun h17 => ?_) (fun h17 => ?_)
      · refine v_iinc_3 dX1_feesOfSet_32 rfl ?_
        refine v_goto (tgt := 4) dX1_feesOfSet_35 (by decide) ?_
        refine ih hi _ ?_
        rw [e9, hv]
        by_cases z : m &&& sbit (11 - i) = 0
        · first
            | (rw [if_pos z] at h17; exfalso; revert h17; decide)
            | (rw [if_pos z, Int32.add_zero])
        · first
            | (rw [if_neg z] at h17; exfalso; revert h17; decide)
            | (rw [if_neg z, q3])
      · refine v_iload_n dX1_feesOfSet_20 rfl rfl ?_
        refine v_aload_n dX1_feesOfSet_21 rfl rfl ?_
        refine gf_X1_38 dX1_feesOfSet_22 rfl hSt ?_
        refine v_iload_n dX1_feesOfSet_25 rfl rfl ?_
        refine v_aald1 dX1_feesOfSet_26 hLR h0 hi12 rfl ?_
        refine gf_X1_52 dX1_feesOfSet_27 rfl (hLe i h0 hi12) ?_
        refine v_iadd dX1_feesOfSet_30 ?_
        refine v_istore_2 dX1_feesOfSet_31 ?_
        refine v_iinc_3 dX1_feesOfSet_32 rfl ?_
        refine v_goto (tgt := 4) dX1_feesOfSet_35 (by decide) ?_
        refine ih hi _ ?_
        rw [e9, hv]
        by_cases z : m &&& sbit (11 - i) = 0
        · first
            | (rw [if_pos z] at h17; exfalso; revert h17; decide)
            | (rw [if_pos z, Int32.add_zero])
        · first
            | (rw [if_neg z] at h17; exfalso; revert h17; decide)
            | (rw [if_neg z, q3])
  refine v_iconst (v := 0) dX1_feesOfSet_0 (by decide) ?_
  refine v_istore_2 dX1_feesOfSet_1 ?_
  refine v_iconst (v := 0) dX1_feesOfSet_2 (by decide) ?_
  refine v_istore_3 dX1_feesOfSet_3 ?_
  exact key 0 (by lia) hg5 0 rfl

theorem dX1_tryFrom_0 : decode cX1_tryFrom 0 = .ok (.iload_n 2, 1) := by decide +kernel
theorem dX1_tryFrom_1 : decode cX1_tryFrom 1 = .ok (.aload_n 0, 1) := by decide +kernel
theorem dX1_tryFrom_2 : decode cX1_tryFrom 2 = .ok (.getfield 35, 3) := by decide +kernel
theorem dX1_tryFrom_5 : decode cX1_tryFrom 5 = .ok (.if_icmp .lt 5, 3) := by decide +kernel
theorem dX1_tryFrom_8 : decode cX1_tryFrom 8 = .ok (.iconst 0, 1) := by decide +kernel
theorem dX1_tryFrom_9 : decode cX1_tryFrom 9 = .ok (.ireturn, 1) := by decide +kernel
theorem dX1_tryFrom_10 : decode cX1_tryFrom 10 = .ok (.aload_n 0, 1) := by decide +kernel
theorem dX1_tryFrom_11 : decode cX1_tryFrom 11 = .ok (.getfield 38, 3) := by decide +kernel
theorem dX1_tryFrom_14 : decode cX1_tryFrom 14 = .ok (.iload_n 2, 1) := by decide +kernel
theorem dX1_tryFrom_15 : decode cX1_tryFrom 15 = .ok (.aaload, 1) := by decide +kernel
theorem dX1_tryFrom_16 : decode cX1_tryFrom 16 = .ok (.astore 4, 2) := by decide +kernel
theorem dX1_tryFrom_18 : decode cX1_tryFrom 18 = .ok (.aload_n 0, 1) := by decide +kernel
theorem dX1_tryFrom_19 : decode cX1_tryFrom 19 = .ok (.iload_n 1, 1) := by decide +kernel
theorem dX1_tryFrom_20 : decode cX1_tryFrom 20 = .ok (.iload_n 2, 1) := by decide +kernel
theorem dX1_tryFrom_21 : decode cX1_tryFrom 21 = .ok (.iconst 1, 1) := by decide +kernel
theorem dX1_tryFrom_22 : decode cX1_tryFrom 22 = .ok (.iadd, 1) := by decide +kernel
theorem dX1_tryFrom_23 : decode cX1_tryFrom 23 = .ok (.iload_n 3, 1) := by decide +kernel
theorem dX1_tryFrom_24 : decode cX1_tryFrom 24 = .ok (.invokestatic 72, 3) := by decide +kernel
theorem dX1_tryFrom_27 : decode cX1_tryFrom 27 = .ok (.istore 5, 2) := by decide +kernel
theorem dX1_tryFrom_29 : decode cX1_tryFrom 29 = .ok (.aload 4, 2) := by decide +kernel
theorem dX1_tryFrom_31 : decode cX1_tryFrom 31 = .ok (.iload_n 1, 1) := by decide +kernel
theorem dX1_tryFrom_32 : decode cX1_tryFrom 32 = .ok (.invokevirtual 42, 3) := by decide +kernel
theorem dX1_tryFrom_35 : decode cX1_tryFrom 35 = .ok (.ifCond .eq 12, 3) := by decide +kernel
theorem dX1_tryFrom_38 : decode cX1_tryFrom 38 = .ok (.aload 4, 2) := by decide +kernel
theorem dX1_tryFrom_40 : decode cX1_tryFrom 40 = .ok (.getfield 56, 3) := by decide +kernel
theorem dX1_tryFrom_43 : decode cX1_tryFrom 43 = .ok (.iload_n 3, 1) := by decide +kernel
theorem dX1_tryFrom_44 : decode cX1_tryFrom 44 = .ok (.if_icmp .le 6, 3) := by decide +kernel
theorem dX1_tryFrom_47 : decode cX1_tryFrom 47 = .ok (.iload 5, 2) := by decide +kernel
theorem dX1_tryFrom_49 : decode cX1_tryFrom 49 = .ok (.ireturn, 1) := by decide +kernel
theorem dX1_tryFrom_50 : decode cX1_tryFrom 50 = .ok (.aload_n 0, 1) := by decide +kernel
theorem dX1_tryFrom_51 : decode cX1_tryFrom 51 = .ok (.iload_n 1, 1) := by decide +kernel
theorem dX1_tryFrom_52 : decode cX1_tryFrom 52 = .ok (.iload_n 2, 1) := by decide +kernel
theorem dX1_tryFrom_53 : decode cX1_tryFrom 53 = .ok (.iconst 1, 1) := by decide +kernel
theorem dX1_tryFrom_54 : decode cX1_tryFrom 54 = .ok (.iadd, 1) := by decide +kernel
theorem dX1_tryFrom_55 : decode cX1_tryFrom 55 = .ok (.iload_n 3, 1) := by decide +kernel
theorem dX1_tryFrom_56 : decode cX1_tryFrom 56 = .ok (.aload 4, 2) := by decide +kernel
theorem dX1_tryFrom_58 : decode cX1_tryFrom 58 = .ok (.getfield 56, 3) := by decide +kernel
theorem dX1_tryFrom_61 : decode cX1_tryFrom 61 = .ok (.isub, 1) := by decide +kernel
theorem dX1_tryFrom_62 : decode cX1_tryFrom 62 = .ok (.invokestatic 72, 3) := by decide +kernel
theorem dX1_tryFrom_65 : decode cX1_tryFrom 65 = .ok (.istore 6, 2) := by decide +kernel
theorem dX1_tryFrom_67 : decode cX1_tryFrom 67 = .ok (.iload 5, 2) := by decide +kernel
theorem dX1_tryFrom_69 : decode cX1_tryFrom 69 = .ok (.aload 4, 2) := by decide +kernel
theorem dX1_tryFrom_71 : decode cX1_tryFrom 71 = .ok (.getfield 52, 3) := by decide +kernel
theorem dX1_tryFrom_74 : decode cX1_tryFrom 74 = .ok (.iload 6, 2) := by decide +kernel
theorem dX1_tryFrom_76 : decode cX1_tryFrom 76 = .ok (.iadd, 1) := by decide +kernel
theorem dX1_tryFrom_77 : decode cX1_tryFrom 77 = .ok (.invokestatic 62, 3) := by decide +kernel
theorem dX1_tryFrom_80 : decode cX1_tryFrom 80 = .ok (.ireturn, 1) := by decide +kernel
set_option maxRecDepth 100000 in
set_option maxHeartbeats 4000000 in
theorem c_tryFrom {l : Launch} {g : Nat → Nat} {M : LH} (htr : l.stackTraces = false) {kd : Nat → Nat} {r a : Nat} {ad : Nat → Nat} {sl le : Int32 → Nat} {fg tp : Int32} {F : Nat → Int32 → Int32} {σ : Int32 → Int32} (hC : StR kd r M a ad sl le fg tp F σ) {st : Int32} (hst : st < 10) : ∀ (k : Nat) (pos : Int32), 0 ≤ pos → pos.toInt + k = (σ 7).toInt → ∀ room, K_X1_tryFrom l g (k + 2) 0 0 [.ref a, .int st, .int pos, .int room] M (RI (fun v M9 => v = trI σ st k pos room ∧ M9 = M) nX) := by
  have hC0 := hC
  obtain ⟨hSt, hRo, hSR, hLR, hSl, hLe, hkd, -, ⟨-, hRd, hSd, hLt⟩, hG⟩ := hC
  have hG0 := hG
  obtain ⟨hg1, hg2, hg3, hg4, hg5, hg6, hg7, hg8, hgL, hgS, -⟩ := hG
  intro k
  induction k with
  | zero =>
    intro pos h0 hk room
    refine Ko_X1_tryFrom htr (fun X => ?_)
    refine v_iload_n dX1_tryFrom_0 rfl rfl ?_
    refine v_aload_n dX1_tryFrom_1 rfl rfl ?_
    refine gf_X1_35 dX1_tryFrom_2 rfl hSt ?_
    refine v_icmp_lt (tgt := 10) dX1_tryFrom_5 (by decide) (fun h5 => ?_) (fun h5 => ?_)
    · exact absurd (i_lt.mp h5) (by omega)
    · skip
      refine v_iconst (v := 0) dX1_tryFrom_8 (by decide) ?_
      exact v_iret dX1_tryFrom_9 rfl ⟨rfl, rfl⟩ (by omega) (by omega)
  | succ k ih =>
    intro pos h0 hk room
    refine Ko_X1_tryFrom htr (fun X => ?_)
    refine v_iload_n dX1_tryFrom_0 rfl rfl ?_
    refine v_aload_n dX1_tryFrom_1 rfl rfl ?_
    refine gf_X1_35 dX1_tryFrom_2 rfl hSt ?_
    refine v_icmp_lt (tgt := 10) dX1_tryFrom_5 (by decide) (fun h5 => ?_) (fun h5 => ?_)
    · have hi : pos < σ 7 := h5
      have hi12 : pos < 12 := by lia
      obtain ⟨y1, y2⟩ := tc_i h0 (by lia : pos < 100)
      obtain ⟨q0, q1, q2, q3, q4, q5, q6, q7⟩ := hLt pos h0 hi
      obtain ⟨z1, z2, z3, z4, z5, z6, z7, z8, z9, z10, z11, z12, z13, z14⟩ := hgL pos h0 hi
      have hw9 : (F 6 pos = -1 ∧ F 7 pos = st) ↔ lt σ pos 6 = st := by
        clear hLt hgL hLe hSl hSd hgS hRd ih
        grind
      refine v_aload_n dX1_tryFrom_10 rfl rfl ?_
      refine gf_X1_38 dX1_tryFrom_11 rfl hSt ?_
      refine v_iload_n dX1_tryFrom_14 rfl rfl ?_
      refine v_aald1 dX1_tryFrom_15 hLR h0 hi12 rfl ?_
      refine v_astore_4 dX1_tryFrom_16 ?_
      refine v_aload_n dX1_tryFrom_18 rfl rfl ?_
      refine v_iload_n dX1_tryFrom_19 rfl rfl ?_
      refine v_iload_n dX1_tryFrom_20 rfl rfl ?_
      refine v_iconst (v := 1) dX1_tryFrom_21 (by decide) ?_
      refine v_iadd dX1_tryFrom_22 ?_
      refine v_iload_n dX1_tryFrom_23 rfl rfl ?_
      refine k_X1_72 dX1_tryFrom_24 rfl (ih (pos + 1) (by lia) (by omega) room) (by omega) (by omega) (by omega) (Nat.le_of_ble_eq_true rfl) (fun r24 M9 h9 => ?_) (fun _ _ h9 => h9.elim)
      obtain ⟨rfl, e9⟩ := h9
      subst M9
      refine v_istore_5 dX1_tryFrom_27 ?_
      refine v_aload dX1_tryFrom_29 rfl ?_
      refine v_iload_n dX1_tryFrom_31 rfl rfl ?_
      refine k_X1_42 dX1_tryFrom_32 rfl (c_waitsAt htr (hLe pos h0 hi12) st) (hLe pos h0 hi12) (by omega) (by omega) (by omega) (Nat.le_of_ble_eq_true rfl) (fun r32 M9 h9 => ?_) (fun _ _ h9 => h9.elim)
      obtain ⟨rfl, e9⟩ := h9
      subst M9
      refine v_if_eq (tgt := 47) dX1_tryFrom_35 (by decide) (fun h35 => ?_) (fun h35 => ?_)
      · refine v_iload dX1_tryFrom_47 rfl ?_
        exact v_iret dX1_tryFrom_49 rfl ⟨by
          show _ = (if lt σ pos 6 = st ∧ lt σ pos 2 ≤ room then mxI (trI σ st k (pos + 1) room) (lt σ pos 3 + trI σ st k (pos + 1) (room - lt σ pos 2)) else trI σ st k (pos + 1) room)
          rw [if_neg (fun z => ?_)]
          first
            | (rw [if_pos (hw9.mpr z.1)] at h35; exfalso; revert h35; decide)
            | (rw [q2] at h44; exact absurd z.2 (by first | exact Int32.not_le.mpr h44 | exact Int32.not_le.mpr (Int32.not_le.mp h44))), rfl⟩ (by omega) (by omega)
      · refine v_aload dX1_tryFrom_38 rfl ?_
        refine gf_X1_56 dX1_tryFrom_40 rfl (hLe pos h0 hi12) ?_
        refine v_iload_n dX1_tryFrom_43 rfl rfl ?_
        refine v_icmp_le (tgt := 50) dX1_tryFrom_44 (by decide) (fun h44 => ?_) (fun h44 => ?_)
        · refine v_aload_n dX1_tryFrom_50 rfl rfl ?_
          refine v_iload_n dX1_tryFrom_51 rfl rfl ?_
          refine v_iload_n dX1_tryFrom_52 rfl rfl ?_
          refine v_iconst (v := 1) dX1_tryFrom_53 (by decide) ?_
          refine v_iadd dX1_tryFrom_54 ?_
          refine v_iload_n dX1_tryFrom_55 rfl rfl ?_
          refine v_aload dX1_tryFrom_56 rfl ?_
          refine gf_X1_56 dX1_tryFrom_58 rfl (hLe pos h0 hi12) ?_
          rw [q2]
          refine v_isub dX1_tryFrom_61 ?_
          refine k_X1_72 dX1_tryFrom_62 rfl (ih (pos + 1) (by lia) (by omega) (room - lt σ pos 2)) (by omega) (by omega) (by omega) (Nat.le_of_ble_eq_true rfl) (fun r62 M9 h9 => ?_) (fun _ _ h9 => h9.elim)
          obtain ⟨rfl, e9⟩ := h9
          subst M9
          refine v_istore_6 dX1_tryFrom_65 ?_
          refine v_iload dX1_tryFrom_67 rfl ?_
          refine v_aload dX1_tryFrom_69 rfl ?_
          refine gf_X1_52 dX1_tryFrom_71 rfl (hLe pos h0 hi12) ?_
          refine v_iload dX1_tryFrom_74 rfl ?_
          refine v_iadd dX1_tryFrom_76 ?_
          refine mm_X1_62 dX1_tryFrom_77 rfl (Nat.le_of_ble_eq_true rfl) (by omega) (by omega) ?_
          exact v_iret dX1_tryFrom_80 rfl ⟨by
          show _ = (if lt σ pos 6 = st ∧ lt σ pos 2 ≤ room then mxI (trI σ st k (pos + 1) room) (lt σ pos 3 + trI σ st k (pos + 1) (room - lt σ pos 2)) else trI σ st k (pos + 1) room)
          refine Eq.trans ?_ (if_pos (And.intro ?_ ?_)).symm
          · rw [q3]
            rfl
          · exact hw9.mp (Classical.byContradiction (fun q => by rw [if_neg q] at h35; revert h35; decide))
          · rw [q2] at h44
            first | exact h44 | exact Int32.not_lt.mp h44, rfl⟩ (by omega) (by omega)
        · refine v_iload dX1_tryFrom_47 rfl ?_
          exact v_iret dX1_tryFrom_49 rfl ⟨by
          show _ = (if lt σ pos 6 = st ∧ lt σ pos 2 ≤ room then mxI (trI σ st k (pos + 1) room) (lt σ pos 3 + trI σ st k (pos + 1) (room - lt σ pos 2)) else trI σ st k (pos + 1) room)
          rw [if_neg (fun z => ?_)]
          first
            | (rw [if_pos (hw9.mpr z.1)] at h35; exfalso; revert h35; decide)
            | (rw [q2] at h44; exact absurd z.2 (by first | exact Int32.not_le.mpr h44 | exact Int32.not_le.mpr (Int32.not_le.mp h44))), rfl⟩ (by omega) (by omega)
    · exact absurd (i_lt.mpr (by omega)) h5
theorem dX1_feesByTrying_0 : decode cX1_feesByTrying 0 = .ok (.aload_n 0, 1) := by decide +kernel
theorem dX1_feesByTrying_1 : decode cX1_feesByTrying 1 = .ok (.aload_n 0, 1) := by decide +kernel
theorem dX1_feesByTrying_2 : decode cX1_feesByTrying 2 = .ok (.getfield 21, 3) := by decide +kernel
theorem dX1_feesByTrying_5 : decode cX1_feesByTrying 5 = .ok (.iload_n 1, 1) := by decide +kernel
theorem dX1_feesByTrying_6 : decode cX1_feesByTrying 6 = .ok (.aaload, 1) := by decide +kernel
theorem dX1_feesByTrying_7 : decode cX1_feesByTrying 7 = .ok (.getfield 25, 3) := by decide +kernel
theorem dX1_feesByTrying_10 : decode cX1_feesByTrying 10 = .ok (.iconst 0, 1) := by decide +kernel
theorem dX1_feesByTrying_11 : decode cX1_feesByTrying 11 = .ok (.aload_n 0, 1) := by decide +kernel
theorem dX1_feesByTrying_12 : decode cX1_feesByTrying 12 = .ok (.iload_n 1, 1) := by decide +kernel
theorem dX1_feesByTrying_13 : decode cX1_feesByTrying 13 = .ok (.invokevirtual 15, 3) := by decide +kernel
theorem dX1_feesByTrying_16 : decode cX1_feesByTrying 16 = .ok (.invokestatic 72, 3) := by decide +kernel
theorem dX1_feesByTrying_19 : decode cX1_feesByTrying 19 = .ok (.ireturn, 1) := by decide +kernel
set_option maxRecDepth 100000 in
set_option maxHeartbeats 4000000 in
theorem c_feesByTrying {l : Launch} {g : Nat → Nat} {M : LH} (htr : l.stackTraces = false) {kd : Nat → Nat} {r a : Nat} {ad : Nat → Nat} {sl le : Int32 → Nat} {fg tp : Int32} {F : Nat → Int32 → Int32} {σ : Int32 → Int32} (hC : StR kd r M a ad sl le fg tp F σ) {k : Int32} (hk0 : 0 ≤ k) (hk : k < σ 6) : K_X1_feesByTrying l g 15 0 0 [.ref a, .int k] M (RI (fun v M9 => v = trI σ (sd σ k 1) (σ 7).toNatClampNeg 0 (sd σ k 0 - loadOn σ k) ∧ M9 = M) nX) := by
  refine Ko_X1_feesByTrying htr (fun X => ?_)
  have hC0 := hC
  obtain ⟨hSt, hRo, hSR, hLR, hSl, hLe, hkd, -, ⟨-, hRd, hSd, hLt⟩, hG⟩ := hC
  have hG0 := hG
  obtain ⟨hg1, hg2, hg3, hg4, hg5, hg6, hg7, hg8, hgL, hgS, -⟩ := hG
  obtain ⟨z0, z1, z2, z3, -, -, z6, z7⟩ := hgS k hk0 hk
  obtain ⟨p0, p1, p2⟩ := hSd k hk0 hk
  have hn9 := tc_Int hg5
  have hn8 := tc_le hg6
  have hn7 : (12 : Int32).toNatClampNeg = 12 := rfl
  refine v_aload_n dX1_feesByTrying_0 rfl rfl ?_
  refine v_aload_n dX1_feesByTrying_1 rfl rfl ?_
  refine gf_X1_21 dX1_feesByTrying_2 rfl hSt ?_
  refine v_iload_n dX1_feesByTrying_5 rfl rfl ?_
  refine v_aald1 dX1_feesByTrying_6 hSR hk0 (by lia) rfl ?_
  refine gf_X1_25 dX1_feesByTrying_7 rfl (hSl k hk0 (by lia)) ?_
  rw [p1]
  refine v_iconst (v := 0) dX1_feesByTrying_10 (by decide) ?_
  refine v_aload_n dX1_feesByTrying_11 rfl rfl ?_
  refine v_iload_n dX1_feesByTrying_12 rfl rfl ?_
  refine k_X1_15 dX1_feesByTrying_13 rfl (c_roomOn htr hC0 hk0 hk) (by assumption) (Nat.le_of_ble_eq_true rfl) (by omega) (by omega) (Nat.le_of_ble_eq_true rfl) (fun r13 M9 h9 => ?_) (fun _ _ h9 => h9.elim)
  obtain ⟨rfl, e9⟩ := h9
  subst M9
  refine k_X1_72 dX1_feesByTrying_16 rfl (c_tryFrom htr hC0 (by lia : sd σ k 1 < 10) (σ 7).toNatClampNeg 0 (by lia) (by rw [i_0]; omega) (sd σ k 0 - loadOn σ k)) (by omega) (by omega) (by omega) (Nat.le_of_ble_eq_true rfl) (fun r16 M9 h9 => ?_) (fun _ _ h9 => h9.elim)
  obtain ⟨rfl, e9⟩ := h9
  subst M9
  exact v_iret dX1_feesByTrying_19 rfl ⟨rfl, rfl⟩ (by omega) (by omega)
