/-! ===== an hour: the walks ===== -/
def StE (kd : Nat → Nat) (r : Nat) (M : LH) (a : Nat) (ad : Nat → Nat) (sl : Int32 → Nat) (σ : Int32 → Int32) : Prop := ∃ le fg tp F, StR kd r M a ad sl le fg tp F σ
theorem pl_iff {x k s5 s6 : Int32} (h0 : 0 ≤ x) (h1 : x < s5 ∨ 10 ≤ x) (h2 : x < 10 + s6) (h5 : s5 ≤ 7) (h6 : s6 ≤ 3) (k0 : 0 ≤ k) (k3 : k < 3) : (if x < 10 then -1 else x - 10) = k ↔ x = 10 + k := by
  split <;> constructor <;> intro z <;> lia
theorem gvN_1 {σ : Int32 → Int32} {k : Int32} {n : Nat} : gvN σ k (n + 1) = gvN (if lt σ (nI n) 6 = 10 + k ∧ lt σ (nI n) 1 = sd σ k 1 then dlS σ (nI n) else σ) k n := rfl
theorem gv_no {σ : Int32 → Int32} {k : Int32} {n : Nat} (h : ¬ (lt σ (nI n) 6 = 10 + k ∧ lt σ (nI n) 1 = sd σ k 1)) : gvN σ k (n + 1) = gvN σ k n := by rw [gvN_1, if_neg h]
theorem gv_yes {σ : Int32 → Int32} {k : Int32} {n : Nat} (h : lt σ (nI n) 6 = 10 + k ∧ lt σ (nI n) 1 = sd σ k 1) : gvN σ k (n + 1) = gvN (dlS σ (nI n)) k n := by rw [gvN_1, if_pos h]
theorem dl_7 {τ : Int32 → Int32} {n : Nat} (h5 : 0 ≤ τ 7) (h6 : τ 7 ≤ 12) (hn : n + 1 ≤ (τ 7).toNatClampNeg) : n ≤ (dlS τ (nI n) 7).toNatClampNeg := by
  rw [dlS_7]
  have c := tc_Int h5
  have e12 : (12 : Int32).toInt = 12 := rfl
  have h6' := i_le.mp h6
  rw [e12] at h6'
  have b3 : (τ 7 - 1).toInt = (τ 7).toInt - 1 := by rw [i_sub] <;> rw [i_1] <;> omega
  have c2 := tc_Int (i := τ 7 - 1) (by rw [i_le, b3, i_0]; omega)
  omega
theorem nI_Int : ∀ n, n < 12 → (nI n).toInt = n := by decide
theorem m1_Int {n : Nat} (h : n < 12) : (nI n + Int32.ofInt (-1)).toInt = (n : Int) - 1 := by
  have e := nI_Int n h
  rw [ofm1]
  have q3 : (-1 : Int32).toInt = -1 := by decide
  rw [i_add] <;> rw [q3] <;> omega
theorem cS_dl {fg tp p : Int32} {σ : Int32 → Int32} (p0 : 0 ≤ p) (p2 : p < 12) : cu (cu (cu (cu (cS fg tp σ) 9 (σ 2 + gotN σ p)) 10 (fg + gotN σ p)) 12 (σ 3 + 1)) 4 (σ 7 - 1) = cS (fg + gotN σ p) tp (dlS σ p) := by
  funext j
  match j with
  | 0 => exact (dlS_lo p0 p2 (j := 5) (by decide) (by decide) (by decide) (by decide) (by decide)).symm
  | 1 => exact rfl
  | 2 => exact (dlS_lo p0 p2 (j := 6) (by decide) (by decide) (by decide) (by decide) (by decide)).symm
  | 3 => exact rfl
  | 4 => exact dlS_7.symm
  | 5 => exact rfl
  | 6 => exact (dlS_lo p0 p2 (j := 4) (by decide) (by decide) (by decide) (by decide) (by decide)).symm
  | 7 => exact (dlS_lo p0 p2 (j := 0) (by decide) (by decide) (by decide) (by decide) (by decide)).symm
  | 8 => exact (dlS_lo p0 p2 (j := 1) (by decide) (by decide) (by decide) (by decide) (by decide)).symm
  | 9 => exact (dlS_2 p0 p2).symm
  | 10 => exact rfl
  | 11 => exact rfl
  | 12 => exact dlS_3.symm
  | n + 13 => simp [cu, cS]
theorem dX3_deliverIfArrived_0 : decode cX3_deliverIfArrived 0 = .ok (.aload_n 0, 1) := by decide +kernel
theorem dX3_deliverIfArrived_1 : decode cX3_deliverIfArrived 1 = .ok (.getfield 12, 3) := by decide +kernel
theorem dX3_deliverIfArrived_4 : decode cX3_deliverIfArrived 4 = .ok (.getfield 77, 3) := by decide +kernel
theorem dX3_deliverIfArrived_7 : decode cX3_deliverIfArrived 7 = .ok (.iload_n 1, 1) := by decide +kernel
theorem dX3_deliverIfArrived_8 : decode cX3_deliverIfArrived 8 = .ok (.aaload, 1) := by decide +kernel
theorem dX3_deliverIfArrived_9 : decode cX3_deliverIfArrived 9 = .ok (.astore_n 2, 1) := by decide +kernel
theorem dX3_deliverIfArrived_10 : decode cX3_deliverIfArrived 10 = .ok (.aload_n 2, 1) := by decide +kernel
theorem dX3_deliverIfArrived_11 : decode cX3_deliverIfArrived 11 = .ok (.invokevirtual 136, 3) := by decide +kernel
theorem dX3_deliverIfArrived_14 : decode cX3_deliverIfArrived 14 = .ok (.ifCond .eq 4, 3) := by decide +kernel
theorem dX3_deliverIfArrived_17 : decode cX3_deliverIfArrived 17 = .ok (.return_, 1) := by decide +kernel
theorem dX3_deliverIfArrived_18 : decode cX3_deliverIfArrived 18 = .ok (.aload_n 0, 1) := by decide +kernel
theorem dX3_deliverIfArrived_19 : decode cX3_deliverIfArrived 19 = .ok (.getfield 12, 3) := by decide +kernel
theorem dX3_deliverIfArrived_22 : decode cX3_deliverIfArrived 22 = .ok (.getfield 92, 3) := by decide +kernel
theorem dX3_deliverIfArrived_25 : decode cX3_deliverIfArrived 25 = .ok (.iconst 1, 1) := by decide +kernel
theorem dX3_deliverIfArrived_26 : decode cX3_deliverIfArrived 26 = .ok (.isub, 1) := by decide +kernel
theorem dX3_deliverIfArrived_27 : decode cX3_deliverIfArrived 27 = .ok (.istore_n 3, 1) := by decide +kernel
theorem dX3_deliverIfArrived_28 : decode cX3_deliverIfArrived 28 = .ok (.iload_n 3, 1) := by decide +kernel
theorem dX3_deliverIfArrived_29 : decode cX3_deliverIfArrived 29 = .ok (.ifCond .lt 115, 3) := by decide +kernel
theorem dX3_deliverIfArrived_32 : decode cX3_deliverIfArrived 32 = .ok (.aload_n 0, 1) := by decide +kernel
theorem dX3_deliverIfArrived_33 : decode cX3_deliverIfArrived 33 = .ok (.getfield 12, 3) := by decide +kernel
theorem dX3_deliverIfArrived_36 : decode cX3_deliverIfArrived 36 = .ok (.getfield 95, 3) := by decide +kernel
theorem dX3_deliverIfArrived_39 : decode cX3_deliverIfArrived 39 = .ok (.iload_n 3, 1) := by decide +kernel
theorem dX3_deliverIfArrived_40 : decode cX3_deliverIfArrived 40 = .ok (.aaload, 1) := by decide +kernel
theorem dX3_deliverIfArrived_41 : decode cX3_deliverIfArrived 41 = .ok (.astore 4, 2) := by decide +kernel
theorem dX3_deliverIfArrived_43 : decode cX3_deliverIfArrived 43 = .ok (.aload 4, 2) := by decide +kernel
theorem dX3_deliverIfArrived_45 : decode cX3_deliverIfArrived 45 = .ok (.getfield 122, 3) := by decide +kernel
theorem dX3_deliverIfArrived_48 : decode cX3_deliverIfArrived 48 = .ok (.iload_n 1, 1) := by decide +kernel
theorem dX3_deliverIfArrived_49 : decode cX3_deliverIfArrived 49 = .ok (.if_icmp .ne 89, 3) := by decide +kernel
theorem dX3_deliverIfArrived_52 : decode cX3_deliverIfArrived 52 = .ok (.aload 4, 2) := by decide +kernel
theorem dX3_deliverIfArrived_54 : decode cX3_deliverIfArrived 54 = .ok (.getfield 107, 3) := by decide +kernel
theorem dX3_deliverIfArrived_57 : decode cX3_deliverIfArrived 57 = .ok (.aload_n 2, 1) := by decide +kernel
theorem dX3_deliverIfArrived_58 : decode cX3_deliverIfArrived 58 = .ok (.getfield 86, 3) := by decide +kernel
theorem dX3_deliverIfArrived_61 : decode cX3_deliverIfArrived 61 = .ok (.if_icmp .ne 77, 3) := by decide +kernel
theorem dX3_deliverIfArrived_64 : decode cX3_deliverIfArrived 64 = .ok (.aload 4, 2) := by decide +kernel
theorem dX3_deliverIfArrived_66 : decode cX3_deliverIfArrived 66 = .ok (.invokevirtual 195, 3) := by decide +kernel
theorem dX3_deliverIfArrived_69 : decode cX3_deliverIfArrived 69 = .ok (.ifCond .eq 13, 3) := by decide +kernel
theorem dX3_deliverIfArrived_72 : decode cX3_deliverIfArrived 72 = .ok (.aload 4, 2) := by decide +kernel
theorem dX3_deliverIfArrived_74 : decode cX3_deliverIfArrived 74 = .ok (.getfield 113, 3) := by decide +kernel
theorem dX3_deliverIfArrived_77 : decode cX3_deliverIfArrived 77 = .ok (.iconst 2, 1) := by decide +kernel
theorem dX3_deliverIfArrived_78 : decode cX3_deliverIfArrived 78 = .ok (.idiv, 1) := by decide +kernel
theorem dX3_deliverIfArrived_79 : decode cX3_deliverIfArrived 79 = .ok (.goto 8, 3) := by decide +kernel
theorem dX3_deliverIfArrived_82 : decode cX3_deliverIfArrived 82 = .ok (.aload 4, 2) := by decide +kernel
theorem dX3_deliverIfArrived_84 : decode cX3_deliverIfArrived 84 = .ok (.getfield 113, 3) := by decide +kernel
theorem dX3_deliverIfArrived_87 : decode cX3_deliverIfArrived 87 = .ok (.istore 5, 2) := by decide +kernel
theorem dX3_deliverIfArrived_89 : decode cX3_deliverIfArrived 89 = .ok (.aload_n 0, 1) := by decide +kernel
theorem dX3_deliverIfArrived_90 : decode cX3_deliverIfArrived 90 = .ok (.getfield 12, 3) := by decide +kernel
theorem dX3_deliverIfArrived_93 : decode cX3_deliverIfArrived 93 = .ok (.dup, 1) := by decide +kernel
theorem dX3_deliverIfArrived_94 : decode cX3_deliverIfArrived 94 = .ok (.getfield 172, 3) := by decide +kernel
theorem dX3_deliverIfArrived_97 : decode cX3_deliverIfArrived 97 = .ok (.iload 5, 2) := by decide +kernel
theorem dX3_deliverIfArrived_99 : decode cX3_deliverIfArrived 99 = .ok (.iadd, 1) := by decide +kernel
theorem dX3_deliverIfArrived_100 : decode cX3_deliverIfArrived 100 = .ok (.putfield 172, 3) := by decide +kernel
theorem dX3_deliverIfArrived_103 : decode cX3_deliverIfArrived 103 = .ok (.aload_n 0, 1) := by decide +kernel
theorem dX3_deliverIfArrived_104 : decode cX3_deliverIfArrived 104 = .ok (.getfield 12, 3) := by decide +kernel
theorem dX3_deliverIfArrived_107 : decode cX3_deliverIfArrived 107 = .ok (.dup, 1) := by decide +kernel
theorem dX3_deliverIfArrived_108 : decode cX3_deliverIfArrived 108 = .ok (.getfield 198, 3) := by decide +kernel
theorem dX3_deliverIfArrived_111 : decode cX3_deliverIfArrived 111 = .ok (.iload 5, 2) := by decide +kernel
theorem dX3_deliverIfArrived_113 : decode cX3_deliverIfArrived 113 = .ok (.iadd, 1) := by decide +kernel
theorem dX3_deliverIfArrived_114 : decode cX3_deliverIfArrived 114 = .ok (.putfield 198, 3) := by decide +kernel
theorem dX3_deliverIfArrived_117 : decode cX3_deliverIfArrived 117 = .ok (.aload_n 0, 1) := by decide +kernel
theorem dX3_deliverIfArrived_118 : decode cX3_deliverIfArrived 118 = .ok (.getfield 12, 3) := by decide +kernel
theorem dX3_deliverIfArrived_121 : decode cX3_deliverIfArrived 121 = .ok (.dup, 1) := by decide +kernel
theorem dX3_deliverIfArrived_122 : decode cX3_deliverIfArrived 122 = .ok (.getfield 181, 3) := by decide +kernel
theorem dX3_deliverIfArrived_125 : decode cX3_deliverIfArrived 125 = .ok (.iconst 1, 1) := by decide +kernel
theorem dX3_deliverIfArrived_126 : decode cX3_deliverIfArrived 126 = .ok (.iadd, 1) := by decide +kernel
theorem dX3_deliverIfArrived_127 : decode cX3_deliverIfArrived 127 = .ok (.putfield 181, 3) := by decide +kernel
theorem dX3_deliverIfArrived_130 : decode cX3_deliverIfArrived 130 = .ok (.aload_n 0, 1) := by decide +kernel
theorem dX3_deliverIfArrived_131 : decode cX3_deliverIfArrived 131 = .ok (.getfield 12, 3) := by decide +kernel
theorem dX3_deliverIfArrived_134 : decode cX3_deliverIfArrived 134 = .ok (.iload_n 3, 1) := by decide +kernel
theorem dX3_deliverIfArrived_135 : decode cX3_deliverIfArrived 135 = .ok (.invokevirtual 201, 3) := by decide +kernel
theorem dX3_deliverIfArrived_138 : decode cX3_deliverIfArrived 138 = .ok (.iinc 3 (-1), 3) := by decide +kernel
theorem dX3_deliverIfArrived_141 : decode cX3_deliverIfArrived 141 = .ok (.goto (-113), 3) := by decide +kernel
theorem dX3_deliverIfArrived_144 : decode cX3_deliverIfArrived 144 = .ok (.return_, 1) := by decide +kernel
set_option maxRecDepth 100000 in
set_option maxHeartbeats 4000000 in
theorem c_deliverIfArrived {l : Launch} {g : Nat → Nat} {M : LH} (htr : l.stackTraces = false) {kd : Nat → Nat} {r a : Nat} {ad : Nat → Nat} {sl le : Int32 → Nat} {fg tp : Int32} {F : Nat → Int32 → Int32} {σ : Int32 → Int32} (hC : StR kd r M a ad sl le fg tp F σ) {q : Nat → Nat} {D : Nat} (hK : Dk kd D r M a q) {k : Int32} (k0 : 0 ≤ k) (k1 : k < σ 6) : K_X3_deliverIfArrived l g 1 0 0 [.ref (q 0), .int k] M (RV (fun M9 => StE kd r M9 a ad sl (dvS σ k) ∧ Frm kd r M M9) nX) := by
  refine Ko_X3_deliverIfArrived htr (fun X => ?_)
  have hC0 := hC
  have hK0 := hK
  obtain ⟨hSt, hRo, hSR, hLR, hSl, hLe, hkd, -, ⟨-, hRd, hSd, hLt⟩, hG⟩ := hC
  obtain ⟨hDk, hDs, ⟨f1, hB1⟩, ⟨f2, hB2⟩, hBl, ⟨f3, hB3⟩, hRt, ⟨f4, hB4⟩, hkD, hn34, hDr⟩ := hK
  have hG0 := hG
  obtain ⟨hg1, hg2, hg3, hg4, hg5, hg6, hg7, hg8, hgL, hgS, -⟩ := hG
  have k3 : k < 3 := by clear hgL hgS hRd hSd hLt hLe hSl; lia
  obtain ⟨y0, y1, y2⟩ := hSd k k0 k1
  have hSk := hSl k k0 k3
  have hN12 : (σ 7).toNatClampNeg ≤ 12 := tc_le hg6
  have hNi := tc_Int hg5
  have hs6 : σ 6 ≤ 3 := hg4
  clear hgL hgS hRd hSd hLt hLe hSl
  have key : ∀ n : Nat, n ≤ 12 → ∀ (τ : Int32 → Int32) (x : Int32) (M1 : LH) (le1 : Int32 → Nat) (F1 : Nat → Int32 → Int32) (fg1 : Int32) (z4 z5 : Option Value), n ≤ (τ 7).toNatClampNeg → τ 6 = σ 6 → x.toInt = (n : Int) - 1 → StR kd r M1 a ad sl le1 fg1 tp F1 τ → Frm kd r M M1 → V l g yX3_deliverIfArrived cX3_deliverIfArrived (none) [] 1 0 0 (RV (fun M9 => StE kd r M9 a ad sl (gvN τ k n) ∧ Frm kd r M M9) nX) X M1 0 0 28 [some (.ref (q 0)), some (.int k), some (.ref (sl k)), some (.int x), z4, z5] [] := by
    intro n
    induction n with
    | zero =>
      intro _ τ x M1 le1 F1 fg1 z4 z5 _ e6 hx hC1 hF1
      refine v_iload_n dX3_deliverIfArrived_28 rfl rfl ?_
      refine v_if_lt (tgt := 144) dX3_deliverIfArrived_29 (by decide) (fun h29 => ?_) (fun h29 => ?_)
      · exact v_vret dX3_deliverIfArrived_144 rfl ⟨⟨le1, fg1, tp, F1, hC1⟩, hF1⟩ (by omega) (by omega)
      · exact absurd (i_lt.mpr (by rw [i_0, hx]; decide)) h29
    | succ n ih =>
      intro hn τ x M1 le1 F1 fg1 z4 z5 hn7 e6 hx hC1 hF1
      have hn12 : n < 12 := by omega
      have hn13 : n ≤ 12 := by omega
      have hnT : n < (τ 7).toNatClampNeg := by omega
      have hnT2 : n ≤ (τ 7).toNatClampNeg := by omega
      have hxn : x = nI n := by
        have e := nI_Int n (by omega)
        exact Int32.toInt_inj.mp (by rw [hx, e]; omega)
      clear hx
      subst hxn
      have hK1 := Dk.kept hK0 hDr hF1
      obtain ⟨p0, p1, p2⟩ := nI_below hC1.toG.2.2.2.2.2.1 hnT
      have hDk1 := hK1.1
      have hSt1 := hC1.1
      have hLR1 := hC1.2.2.2.1
      have hSk1 := hC1.2.2.2.2.1 k k0 k3
      have hLp1 := hC1.2.2.2.2.2.1 (nI n) p0 p2
      obtain ⟨d0, d1, d2⟩ := (StR.toR hC1).2.2.1 k k0 (by rw [e6]; exact k1)
      obtain ⟨q0, q1, q2, q3, q4, q5, q6, q7⟩ := (StR.toR hC1).2.2.2 (nI n) p0 p1
      have hpl : lt τ (nI n) 6 < 10 + τ 6 := (hC1.toG.2.2.2.2.2.2.2.2.1 (nI n) p0 p1).2.2.2.2.2.2.2.2.2.2.2.2.1
      have hpg : lt τ (nI n) 6 < τ 5 ∨ 10 ≤ lt τ (nI n) 6 := (hC1.toG.2.2.2.2.2.2.2.2.1 (nI n) p0 p1).2.2.2.2.2.2.2.2.2.2.2.1
      have hp0 : 0 ≤ lt τ (nI n) 6 := (hC1.toG.2.2.2.2.2.2.2.2.1 (nI n) p0 p1).2.2.2.2.2.2.2.2.2.2.1
      have h57 : τ 5 ≤ 7 := hC1.toG.2.1
      have hw9 : F1 6 (nI n) = k ↔ lt τ (nI n) 6 = 10 + k := by
        rw [q6]
        exact pl_iff hp0 hpg hpl h57 (by rw [e6]; exact hs6) k0 k3
      have hx1 := m1_Int hn12
      have nbK : ¬ q 0 = a := ne_of_cell hDk1 hSt1 (ob_ob (by decide))
      have nbL : ¬ le1 (nI n) = a := ne_of_cell hLp1 hSt1 (ob_ob (by decide))
      have no : ∀ (z4 z5 : Option Value), ¬ (lt τ (nI n) 6 = 10 + k ∧ lt τ (nI n) 1 = sd τ k 1) → V l g yX3_deliverIfArrived cX3_deliverIfArrived (none) [] 1 0 0 (RV (fun M9 => StE kd r M9 a ad sl (gvN τ k (n + 1)) ∧ Frm kd r M M9) nX) X M1 0 0 138 [some (.ref (q 0)), some (.int k), some (.ref (sl k)), some (.int (nI n)), z4, z5] [] := by
        intro z4 z5 hc
        have ih2 := ih hn13 τ _ M1 le1 F1 fg1 z4 z5 hnT2 e6 hx1 hC1 hF1
        rw [gv_no hc]
        refine v_iinc_3 dX3_deliverIfArrived_138 rfl ?_
        refine v_goto (tgt := 28) dX3_deliverIfArrived_141 (by decide) ?_
        exact ih2
      have yes : ∀ (z4 : Option Value), lt τ (nI n) 6 = 10 + k ∧ lt τ (nI n) 1 = sd τ k 1 → V l g yX3_deliverIfArrived cX3_deliverIfArrived (none) [] 1 0 0 (RV (fun M9 => StE kd r M9 a ad sl (gvN τ k (n + 1)) ∧ Frm kd r M M9) nX) X M1 0 0 89 [some (.ref (q 0)), some (.int k), some (.ref (sl k)), some (.int (nI n)), z4, some (.int (gotN τ (nI n)))] [] := by
        intro z4 hc
        have hC2 : StC kd r (hup M1 a (ob 8 [.int (τ 5), .ref (ad 0), .int (τ 6), .ref (ad 1), .int (τ 7), .ref (ad 2), .int (τ 4), .int (τ 0), .int (τ 1), .int (τ 2 + gotN τ (nI n)), .int (fg1 + gotN τ (nI n)), .int tp, .int (τ 3 + 1)])) a ad sl le1 (cu (cu (cu (cS fg1 tp τ) 9 (τ 2 + gotN τ (nI n))) 10 (fg1 + gotN τ (nI n))) 12 (τ 3 + 1)) F1 := StC.obj (StR.toC hC1) (cu (cu (cu (cS fg1 tp τ) 9 (τ 2 + gotN τ (nI n))) 10 (fg1 + gotN τ (nI n))) 12 (τ 3 + 1))
        have ih2 := fun (M9 : LH) (h9 : StR kd r M9 a ad sl (fun j => le1 (prm (nI n) (τ 7) j)) (fg1 + gotN τ (nI n)) tp (prF F1 (nI n) (τ 7)) (dlS τ (nI n))) (hF : Frm kd r M M9) => ih hn13 (dlS τ (nI n)) _ M9 _ _ _ z4 (some (.int (gotN τ (nI n)))) (dl_7 hC1.toG.2.2.2.2.1 hC1.toG.2.2.2.2.2.1 hn7) ((dlS_lo p0 p2 (j := 6) (by decide) (by decide) (by decide) (by decide) (by decide)).trans e6) hx1 h9 hF
        rw [gv_yes hc]
        refine v_aload_n dX3_deliverIfArrived_89 rfl rfl ?_
        refine gf_X3_12 dX3_deliverIfArrived_90 rfl hDk1 ?_
        refine v_dup dX3_deliverIfArrived_93 rfl ?_
        refine gf_X3_172 dX3_deliverIfArrived_94 rfl hSt1 ?_
        refine v_iload dX3_deliverIfArrived_97 rfl ?_
        refine v_iadd dX3_deliverIfArrived_99 ?_
        refine pf_X3_172 dX3_deliverIfArrived_100 rfl hSt1 ?_
        refine v_aload_n dX3_deliverIfArrived_103 rfl rfl ?_
        refine gf_X3_12 dX3_deliverIfArrived_104 rfl ((hup_n nbK).trans hDk1) ?_
        refine v_dup dX3_deliverIfArrived_107 rfl ?_
        refine gf_X3_198 dX3_deliverIfArrived_108 rfl hup_s ?_
        refine v_iload dX3_deliverIfArrived_111 rfl ?_
        refine v_iadd dX3_deliverIfArrived_113 ?_
        refine pf_X3_198 dX3_deliverIfArrived_114 rfl hup_s ?_
        rw [hup_hup]
        refine v_aload_n dX3_deliverIfArrived_117 rfl rfl ?_
        refine gf_X3_12 dX3_deliverIfArrived_118 rfl ((hup_n nbK).trans hDk1) ?_
        refine v_dup dX3_deliverIfArrived_121 rfl ?_
        refine gf_X3_181 dX3_deliverIfArrived_122 rfl hup_s ?_
        refine v_iconst (v := 1) dX3_deliverIfArrived_125 (by decide) ?_
        refine v_iadd dX3_deliverIfArrived_126 ?_
        refine pf_X3_181 dX3_deliverIfArrived_127 rfl hup_s ?_
        rw [hup_hup]
        refine v_aload_n dX3_deliverIfArrived_130 rfl rfl ?_
        refine gf_X3_12 dX3_deliverIfArrived_131 rfl ((hup_n nbK).trans hDk1) ?_
        refine v_iload_n dX3_deliverIfArrived_134 rfl rfl ?_
        refine k_X3_201 dX3_deliverIfArrived_135 rfl (c_remove htr hC2 p0 p1 hC1.toG.2.2.2.2.2.1) hup_s (Nat.le_of_ble_eq_true rfl) (by omega) (by omega) (Nat.le_of_ble_eq_true rfl) (fun M9 h9 => ?_) (fun _ _ h9 => h9.elim)
        obtain ⟨h91, h92⟩ := h9
        have h93 : StR kd r M9 a ad sl (fun j => le1 (prm (nI n) (τ 7) j)) (fg1 + gotN τ (nI n)) tp (prF F1 (nI n) (τ 7)) (dlS τ (nI n)) := StR.of ((cS_dl p0 p2) ▸ h91) (Rl_dlS (StR.toR hC1) hC1.toG p0 p1) (Good_dlS hC1.toG p0 p1)
        refine v_iinc_3 dX3_deliverIfArrived_138 rfl ?_
        refine v_goto (tgt := 28) dX3_deliverIfArrived_141 (by decide) ?_
        exact ih2 M9 h93 (Frm.tr hF1 (Frm.tr (Frm.up hkd.1) h92))
      refine v_iload_n dX3_deliverIfArrived_28 rfl rfl ?_
      refine v_if_lt (tgt := 144) dX3_deliverIfArrived_29 (by decide) (fun h29 => ?_) (fun h29 => ?_)
      · exact absurd h29 (Int32.not_lt.mpr p0)
      · refine v_aload_n dX3_deliverIfArrived_32 rfl rfl ?_
        refine gf_X3_12 dX3_deliverIfArrived_33 rfl hDk1 ?_
        refine gf_X3_95 dX3_deliverIfArrived_36 rfl hSt1 ?_
        refine v_iload_n dX3_deliverIfArrived_39 rfl rfl ?_
        refine v_aald1 dX3_deliverIfArrived_40 hLR1 p0 p2 rfl ?_
        refine v_astore_4 dX3_deliverIfArrived_41 ?_
        refine v_aload dX3_deliverIfArrived_43 rfl ?_
        refine gf_X3_122 dX3_deliverIfArrived_45 rfl hLp1 ?_
        refine v_iload_n dX3_deliverIfArrived_48 rfl rfl ?_
        refine v_icmp_ne (tgt := 138) dX3_deliverIfArrived_49 (by decide) (fun h49 => ?_) (fun h49 => ?_)
        · refine no _ _ (fun z => ?_)
          first
            | exact absurd (hw9.mpr z.1) (by assumption)
            | exact absurd (q1.trans (z.2.trans d1.symm)) (by assumption)
        · refine v_aload dX3_deliverIfArrived_52 rfl ?_
          refine gf_X3_107 dX3_deliverIfArrived_54 rfl hLp1 ?_
          refine v_aload_n dX3_deliverIfArrived_57 rfl rfl ?_
          refine gf_X3_86 dX3_deliverIfArrived_58 rfl hSk1 ?_
          refine v_icmp_ne (tgt := 138) dX3_deliverIfArrived_61 (by decide) (fun h61 => ?_) (fun h61 => ?_)
          · refine no _ _ (fun z => ?_)
            first
              | exact absurd (hw9.mpr z.1) (by assumption)
              | exact absurd (q1.trans (z.2.trans d1.symm)) (by assumption)
          · refine v_aload dX3_deliverIfArrived_64 rfl ?_
            refine k_X3_195 dX3_deliverIfArrived_66 rfl (c_thawed htr hLp1) hLp1 (Nat.le_of_ble_eq_true rfl) (by omega) (by omega) (Nat.le_of_ble_eq_true rfl) (fun r66 M9 h9 => ?_) (fun _ _ h9 => h9.elim)
            obtain ⟨rfl, e9⟩ := h9
            subst M9
            refine v_if_eq (tgt := 82) dX3_deliverIfArrived_69 (by decide) (fun h69 => ?_) (fun h69 => ?_)
            · refine v_aload dX3_deliverIfArrived_82 rfl ?_
              refine gf_X3_113 dX3_deliverIfArrived_84 rfl hLp1 ?_
              refine v_istore_5 dX3_deliverIfArrived_87 ?_
              have hc9 : lt τ (nI n) 6 = 10 + k ∧ lt τ (nI n) 1 = sd τ k 1 := ⟨hw9.mp (by first | assumption | exact Classical.not_not.mp (by assumption)), q1.symm.trans ((by first | assumption | exact Classical.not_not.mp (by assumption) : F1 1 (nI n) = F1 9 k).trans d1)⟩
              have hy9 := yes (some (.ref (le1 (nI n)))) hc9
              first
                | (rw [show gotN τ (nI n) = F1 3 (nI n) / 2 by unfold gotN; rw [if_pos (by rw [← q5]; exact Classical.byContradiction (fun z => by rw [if_neg z] at h69; exact h69 rfl)), q3]] at hy9
                   exact hy9)
                | (rw [show gotN τ (nI n) = F1 3 (nI n) by unfold gotN; rw [if_neg (by rw [← q5]; exact fun z => by rw [if_pos z] at h69; revert h69; decide), q3]] at hy9
                   exact hy9)
            · refine v_aload dX3_deliverIfArrived_72 rfl ?_
              refine gf_X3_113 dX3_deliverIfArrived_74 rfl hLp1 ?_
              refine v_iconst (v := 2) dX3_deliverIfArrived_77 (by decide) ?_
              refine v_idiv dX3_deliverIfArrived_78 (by decide) ?_
              refine v_goto (tgt := 87) dX3_deliverIfArrived_79 (by decide) ?_
              refine v_istore_5 dX3_deliverIfArrived_87 ?_
              have hc9 : lt τ (nI n) 6 = 10 + k ∧ lt τ (nI n) 1 = sd τ k 1 := ⟨hw9.mp (by first | assumption | exact Classical.not_not.mp (by assumption)), q1.symm.trans ((by first | assumption | exact Classical.not_not.mp (by assumption) : F1 1 (nI n) = F1 9 k).trans d1)⟩
              have hy9 := yes (some (.ref (le1 (nI n)))) hc9
              first
                | (rw [show gotN τ (nI n) = F1 3 (nI n) / 2 by unfold gotN; rw [if_pos (by rw [← q5]; exact Classical.byContradiction (fun z => by rw [if_neg z] at h69; exact h69 rfl)), q3]] at hy9
                   exact hy9)
                | (rw [show gotN τ (nI n) = F1 3 (nI n) by unfold gotN; rw [if_neg (by rw [← q5]; exact fun z => by rw [if_pos z] at h69; revert h69; decide), q3]] at hy9
                   exact hy9)
  refine v_aload_n dX3_deliverIfArrived_0 rfl rfl ?_
  refine gf_X3_12 dX3_deliverIfArrived_1 rfl hDk ?_
  refine gf_X3_77 dX3_deliverIfArrived_4 rfl hSt ?_
  refine v_iload_n dX3_deliverIfArrived_7 rfl rfl ?_
  refine v_aald1 dX3_deliverIfArrived_8 hSR k0 k3 rfl ?_
  refine v_astore_2 dX3_deliverIfArrived_9 ?_
  refine v_aload_n dX3_deliverIfArrived_10 rfl rfl ?_
  refine k_X3_136 dX3_deliverIfArrived_11 rfl (c_travels htr hSk) hSk (Nat.le_of_ble_eq_true rfl) (by omega) (by omega) (Nat.le_of_ble_eq_true rfl) (fun r11 M9 h9 => ?_) (fun _ _ h9 => h9.elim)
  obtain ⟨rfl, e9⟩ := h9
  subst M9
  refine v_if_eq (tgt := 18) dX3_deliverIfArrived_14 (by decide) (fun h14 => ?_) (fun h14 => ?_)
  · refine v_aload_n dX3_deliverIfArrived_18 rfl rfl ?_
    refine gf_X3_12 dX3_deliverIfArrived_19 rfl hDk ?_
    refine gf_X3_92 dX3_deliverIfArrived_22 rfl hSt ?_
    refine v_iconst (v := 1) dX3_deliverIfArrived_25 (by decide) ?_
    refine v_isub dX3_deliverIfArrived_26 ?_
    refine v_istore_3 dX3_deliverIfArrived_27 ?_
    have hk9 := key (σ 7).toNatClampNeg hN12 σ (σ 7 - 1) M le F fg none none (Nat.le_refl _) rfl (by
      have g6' := i_le.mp hg6
      have e12 : (12 : Int32).toInt = 12 := rfl
      have g5' := i_le.mp hg5
      rw [i_0] at g5'
      rw [e12] at g6'
      rw [i_sub] <;> rw [i_1] <;> omega) hC0 Frm.rf
    have hd9 : dvS σ k = gvN σ k (σ 7).toNatClampNeg := by
      unfold dvS
      rw [if_neg (fun z => by rw [y2, if_pos z] at h14; revert h14; decide)]
    rw [hd9]
    exact hk9
  · exact v_vret dX3_deliverIfArrived_17 rfl ⟨⟨le, fg, tp, F, (by have hd9 : dvS σ k = σ := (by unfold dvS; rw [if_pos (Classical.byContradiction (fun z => by rw [y2, if_neg z] at h14; exact h14 rfl))]); rw [hd9]; exact hC0)⟩, Frm.rf⟩ (by omega) (by omega)

