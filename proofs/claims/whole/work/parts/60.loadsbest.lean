/-! ===== the reference: the best load is laden ===== -/
theorem SQ_bits {σ : Int32 → Int32} {p : Int32} {N : Nat} {rm : Int32} {i : Nat} {b li : Int32} (hL : LB σ N) (r0 : 0 ≤ rm) (r30 : rm ≤ 30) (h : SQ σ p N rm (2 ^ wN σ p N) i b li) (j : Nat) (hj : j < N) : (bI σ p N rm &&& 4095) &&& sbit (11 - nI j) = 0 ↔ ¬ dS σ p i j = true := by
  obtain ⟨h1, h2, h3, h4, h5⟩ := h
  obtain ⟨⟨S, s1, s2, s3⟩, hb⟩ := bI_best (st := p) N hL rm r0 r30
  rw [i_le, h3] at h4
  have e1 := hb (dS σ p i) dS_ok h4
  obtain ⟨c1, c2, c3⟩ := S_cg (σ := σ) (S := dS σ p (eS σ p S N)) (S' := S) N (dS_eS s1)
  have e2 := h5 (eS σ p S N) (eS_lt N) (by rw [c1]; exact s2)
  rw [rS_cg (σ := σ) (S := dS σ p (eS σ p S N)) (S' := S) (dS_eS s1), ← s3] at e2
  exact bI_bits hL.1 (Int.le_antisymm e2 e1) hj
/-- those of S go aboard -/
def plB (σ : Int32 → Int32) (k : Int32) (S : Nat → Bool) : Nat → Int32 → Int32
  | 0 => σ
  | n + 1 => if S n = true then plS (plB σ k S n) (nI n) (10 + k) else plB σ k S n
def cnB (S : Nat → Bool) : Nat → Int32
  | 0 => 0
  | n + 1 => if S n = true then cnB S n + 1 else cnB S n
def plT (σ : Int32 → Int32) (k : Int32) (L : List Int32) (s : Nat) : Nat → Int32 → Int32
  | 0 => σ
  | l + 1 => if s.testBit l = true then plS (plT σ k L s l) (L.getD l 0) (10 + k) else plT σ k L s l
def cnT (s : Nat) : Nat → Int32
  | 0 => 0
  | l + 1 => if s.testBit l = true then cnT s l + 1 else cnT s l
theorem plT_1 {σ : Int32 → Int32} {k : Int32} {L : List Int32} {s l : Nat} : plT σ k L s (l + 1) = if s.testBit l = true then plS (plT σ k L s l) (L.getD l 0) (10 + k) else plT σ k L s l := rfl
theorem cnT_1 {s l : Nat} : cnT s (l + 1) = if s.testBit l = true then cnT s l + 1 else cnT s l := rfl
theorem plN_B {σ : Int32 → Int32} {k m : Int32} {S : Nat → Bool} {N : Nat} (h : ∀ j, j < N → (m &&& sbit (11 - nI j) = 0 ↔ ¬ S j = true)) : ∀ n, n ≤ N → plN σ k m n = plB σ k S n ∧ cnM m n = cnB S n := by
  intro n
  induction n with
  | zero => exact fun _ => ⟨rfl, rfl⟩
  | succ n ih =>
    intro hn
    obtain ⟨a, b⟩ := ih (by omega)
    show (if m &&& sbit (11 - nI n) = 0 then plN σ k m n else plS (plN σ k m n) (nI n) (10 + k)) = (if S n = true then _ else _) ∧ (if m &&& sbit (11 - nI n) = 0 then cnM m n else cnM m n + 1) = (if S n = true then _ else _)
    rw [a, b]
    by_cases q : S n = true
    · have q2 : ¬ m &&& sbit (11 - nI n) = 0 := fun z => (h n (by omega)).mp z q
      rw [if_pos q, if_neg q2, if_pos q, if_neg q2]
      exact ⟨rfl, rfl⟩
    · have q2 := (h n (by omega)).mpr q
      rw [if_neg q, if_pos q2, if_neg q, if_pos q2]
      exact ⟨rfl, rfl⟩
theorem plT_S {σ : Int32 → Int32} {p k : Int32} {s N : Nat} : ∀ n, n ≤ N → plT σ k (wL σ p N) s (wN σ p n) = plB σ k (dS σ p s) n ∧ cnT s (wN σ p n) = cnB (dS σ p s) n := by
  intro n
  induction n with
  | zero => exact fun _ => ⟨rfl, rfl⟩
  | succ n ih =>
    intro hn
    obtain ⟨e1, e2⟩ := ih (by omega)
    have hd : dS σ p s n = (decide (lt σ (nI n) 6 = p) && s.testBit (wN σ p n)) := rfl
    rw [wN_1]
    by_cases hp : lt σ (nI n) 6 = p
    · rw [if_pos hp]
      rw [decide_eq_true hp, Bool.true_and] at hd
      rw [plT_1, cnT_1]
      show _ = (if dS σ p s n = true then _ else _) ∧ _ = (if dS σ p s n = true then _ else _)
      rw [wL_get hp N (by omega), e1, e2, hd]
      exact ⟨rfl, rfl⟩
    · rw [if_neg hp, e1, e2]
      rw [decide_eq_false hp, Bool.false_and] at hd
      show _ = (if dS σ p s n = true then _ else _) ∧ _ = (if dS σ p s n = true then _ else _)
      rw [hd, if_neg (by decide), if_neg (by decide)]
      exact ⟨rfl, rfl⟩
theorem plT_hi {σ : Int32 → Int32} {k : Int32} {L : List Int32} {s w : Nat} (h : s < 2 ^ w) : ∀ d, plT σ k L s (w + d) = plT σ k L s w ∧ cnT s (w + d) = cnT s w := by
  intro d
  induction d with
  | zero => exact ⟨rfl, rfl⟩
  | succ d ih =>
    have q : ¬ s.testBit (w + d) = true := by
      rw [Nat.testBit_lt_two_pow (Nat.lt_of_lt_of_le h (Nat.pow_le_pow_right (by decide) (Nat.le_add_right w d)))]
      decide
    rw [show w + (d + 1) = w + d + 1 by omega, plT_1, cnT_1, if_neg q, if_neg q]
    exact ih
/-- the reference's set is the program's -/
theorem SQ_pl {σ : Int32 → Int32} {p k : Int32} {N : Nat} {rm : Int32} {i : Nat} {b li : Int32} (hL : LB σ N) (r0 : 0 ≤ rm) (r30 : rm ≤ 30) (h : SQ σ p N rm (2 ^ wN σ p N) i b li) : plT σ k (wL σ p N) i 12 = plN σ k (bI σ p N rm &&& 4095) N ∧ cnT i 12 = cnM (bI σ p N rm &&& 4095) N := by
  have hb := SQ_bits hL r0 r30 h
  obtain ⟨a, b⟩ := plN_B (σ := σ) (k := k) hb N (Nat.le_refl N)
  obtain ⟨c, d⟩ := plT_S (σ := σ) (p := p) (k := k) (s := i) (N := N) N (Nat.le_refl N)
  have hw : wN σ p N ≤ 12 := Nat.le_trans (wL_len N) hL.1
  obtain ⟨e, f⟩ := plT_hi (σ := σ) (k := k) (L := wL σ p N) h.1 (12 - wN σ p N)
  rw [show wN σ p N + (12 - wN σ p N) = 12 by omega] at e f
  exact ⟨e.trans (c.trans a.symm), f.trans (d.trans b.symm)⟩
theorem SQ_fee {σ : Int32 → Int32} {p n : Int32} {rm : Int32} {i : Nat} {b li : Int32} (hL : LB σ n.toNatClampNeg) (r0 : 0 ≤ rm) (r30 : rm ≤ 30) (h : SQ σ p n.toNatClampNeg rm (2 ^ wN σ p n.toNatClampNeg) i b li) : b = feU σ (bI σ p n.toNatClampNeg rm &&& 4095) n := by
  have hb := SQ_bits hL r0 r30 h
  exact Int32.toInt_inj.mp (h.2.1.trans (feU_S hL hb).symm)
theorem dX12_loadsBest_0 : decode cX12_loadsBest 0 = .ok (.aload_n 0, 1) := by decide +kernel
theorem dX12_loadsBest_1 : decode cX12_loadsBest 1 = .ok (.iload_n 1, 1) := by decide +kernel
theorem dX12_loadsBest_2 : decode cX12_loadsBest 2 = .ok (.invokevirtual 106, 3) := by decide +kernel
theorem dX12_loadsBest_5 : decode cX12_loadsBest 5 = .ok (.ifCond .ne 9, 3) := by decide +kernel
theorem dX12_loadsBest_8 : decode cX12_loadsBest 8 = .ok (.aload_n 0, 1) := by decide +kernel
theorem dX12_loadsBest_9 : decode cX12_loadsBest 9 = .ok (.iconst 1, 1) := by decide +kernel
theorem dX12_loadsBest_10 : decode cX12_loadsBest 10 = .ok (.invokevirtual 74, 3) := by decide +kernel
theorem dX12_loadsBest_13 : decode cX12_loadsBest 13 = .ok (.ireturn, 1) := by decide +kernel
theorem dX12_loadsBest_14 : decode cX12_loadsBest 14 = .ok (.aload_n 0, 1) := by decide +kernel
theorem dX12_loadsBest_15 : decode cX12_loadsBest 15 = .ok (.getfield 16, 3) := by decide +kernel
theorem dX12_loadsBest_18 : decode cX12_loadsBest 18 = .ok (.iload_n 1, 1) := by decide +kernel
theorem dX12_loadsBest_19 : decode cX12_loadsBest 19 = .ok (.iconst 2, 1) := by decide +kernel
theorem dX12_loadsBest_20 : decode cX12_loadsBest 20 = .ok (.invokestatic 96, 3) := by decide +kernel
theorem dX12_loadsBest_23 : decode cX12_loadsBest 23 = .ok (.iaload, 1) := by decide +kernel
theorem dX12_loadsBest_24 : decode cX12_loadsBest 24 = .ok (.ifCond .le 9, 3) := by decide +kernel
theorem dX12_loadsBest_27 : decode cX12_loadsBest 27 = .ok (.aload_n 0, 1) := by decide +kernel
theorem dX12_loadsBest_28 : decode cX12_loadsBest 28 = .ok (.iconst 2, 1) := by decide +kernel
theorem dX12_loadsBest_29 : decode cX12_loadsBest 29 = .ok (.invokevirtual 74, 3) := by decide +kernel
theorem dX12_loadsBest_32 : decode cX12_loadsBest 32 = .ok (.ireturn, 1) := by decide +kernel
theorem dX12_loadsBest_33 : decode cX12_loadsBest 33 = .ok (.aload_n 0, 1) := by decide +kernel
theorem dX12_loadsBest_34 : decode cX12_loadsBest 34 = .ok (.iload_n 1, 1) := by decide +kernel
theorem dX12_loadsBest_35 : decode cX12_loadsBest 35 = .ok (.invokevirtual 127, 3) := by decide +kernel
theorem dX12_loadsBest_38 : decode cX12_loadsBest 38 = .ok (.istore_n 2, 1) := by decide +kernel
theorem dX12_loadsBest_39 : decode cX12_loadsBest 39 = .ok (.iconst 0, 1) := by decide +kernel
theorem dX12_loadsBest_40 : decode cX12_loadsBest 40 = .ok (.istore_n 3, 1) := by decide +kernel
theorem dX12_loadsBest_41 : decode cX12_loadsBest 41 = .ok (.iconst 0, 1) := by decide +kernel
theorem dX12_loadsBest_42 : decode cX12_loadsBest 42 = .ok (.istore 4, 2) := by decide +kernel
theorem dX12_loadsBest_44 : decode cX12_loadsBest 44 = .ok (.iload 4, 2) := by decide +kernel
theorem dX12_loadsBest_46 : decode cX12_loadsBest 46 = .ok (.bipush 12, 2) := by decide +kernel
theorem dX12_loadsBest_48 : decode cX12_loadsBest 48 = .ok (.if_icmp .ge 45, 3) := by decide +kernel
theorem dX12_loadsBest_51 : decode cX12_loadsBest 51 = .ok (.iload_n 2, 1) := by decide +kernel
theorem dX12_loadsBest_52 : decode cX12_loadsBest 52 = .ok (.iload 4, 2) := by decide +kernel
theorem dX12_loadsBest_54 : decode cX12_loadsBest 54 = .ok (.ishr, 1) := by decide +kernel
theorem dX12_loadsBest_55 : decode cX12_loadsBest 55 = .ok (.iconst 1, 1) := by decide +kernel
theorem dX12_loadsBest_56 : decode cX12_loadsBest 56 = .ok (.iand, 1) := by decide +kernel
theorem dX12_loadsBest_57 : decode cX12_loadsBest 57 = .ok (.ifCond .ne 6, 3) := by decide +kernel
theorem dX12_loadsBest_60 : decode cX12_loadsBest 60 = .ok (.goto 27, 3) := by decide +kernel
theorem dX12_loadsBest_63 : decode cX12_loadsBest 63 = .ok (.aload_n 0, 1) := by decide +kernel
theorem dX12_loadsBest_64 : decode cX12_loadsBest 64 = .ok (.getfield 16, 3) := by decide +kernel
theorem dX12_loadsBest_67 : decode cX12_loadsBest 67 = .ok (.aload_n 0, 1) := by decide +kernel
theorem dX12_loadsBest_68 : decode cX12_loadsBest 68 = .ok (.getfield 32, 3) := by decide +kernel
theorem dX12_loadsBest_71 : decode cX12_loadsBest 71 = .ok (.iload 4, 2) := by decide +kernel
theorem dX12_loadsBest_73 : decode cX12_loadsBest 73 = .ok (.iaload, 1) := by decide +kernel
theorem dX12_loadsBest_74 : decode cX12_loadsBest 74 = .ok (.bipush 6, 2) := by decide +kernel
theorem dX12_loadsBest_76 : decode cX12_loadsBest 76 = .ok (.invokestatic 70, 3) := by decide +kernel
theorem dX12_loadsBest_79 : decode cX12_loadsBest 79 = .ok (.bipush 10, 2) := by decide +kernel
theorem dX12_loadsBest_81 : decode cX12_loadsBest 81 = .ok (.iload_n 1, 1) := by decide +kernel
theorem dX12_loadsBest_82 : decode cX12_loadsBest 82 = .ok (.iadd, 1) := by decide +kernel
theorem dX12_loadsBest_83 : decode cX12_loadsBest 83 = .ok (.iastore, 1) := by decide +kernel
theorem dX12_loadsBest_84 : decode cX12_loadsBest 84 = .ok (.iinc 3 1, 3) := by decide +kernel
theorem dX12_loadsBest_87 : decode cX12_loadsBest 87 = .ok (.iinc 4 1, 3) := by decide +kernel
theorem dX12_loadsBest_90 : decode cX12_loadsBest 90 = .ok (.goto (-46), 3) := by decide +kernel
theorem dX12_loadsBest_93 : decode cX12_loadsBest 93 = .ok (.iload_n 3, 1) := by decide +kernel
theorem dX12_loadsBest_94 : decode cX12_loadsBest 94 = .ok (.ireturn, 1) := by decide +kernel
set_option maxRecDepth 100000 in
set_option maxHeartbeats 4000000 in
theorem r_loadsBest {l : Launch} {g : Nat → Nat} {M : LH} (htr : l.stackTraces = false) {kd : Nat → Nat} {r m : Nat} {w : Nat → Nat} {t ch ea fl sv bf tn he en ln wr dg : Int32} {v b4 sa pa fr th bs tx li lf to : Int32 → Int32} (hC : Md kd r M m w t ch ea fl sv bf tn he en ln wr dg v b4 sa pa fr th bs tx li lf to) (hG : Good v) (k : Int32) : K_X12_loadsBest l g 3 0 0 [.ref m, .int k] M (RI (fun x M9 => ∃ (b' : Int32) (th' : Int32 → Int32), ((vdBest v k = 0 ∧ x = cnM (bI v (sd v k 1) (v 7).toNatClampNeg (sd v k 0 - loadOn v k) &&& 4095) (v 7).toNatClampNeg ∧ Md kd r M9 m w t ch ea fl sv b' tn he en ln wr dg (plN v k (bI v (sd v k 1) (v 7).toNatClampNeg (sd v k 0 - loadOn v k) &&& 4095) (v 7).toNatClampNeg) b4 sa pa fr th' bs tx li lf to) ∨ (¬ vdBest v k = 0 ∧ x = 0 ∧ Md kd r M9 m w (fcI 6 (vdBest v k)) ch ea fl sv bf tn he en ln wr dg v b4 sa pa fr th bs tx li lf to)) ∧ Frm kd r M M9) nX) := by
  refine Ko_X12_loadsBest htr (fun X => ?_)
  obtain ⟨hMo, hw5, hw6, hw7, hw8, hw9, hw10, hw11, hw13, hw14, hw15, hw16, hw17, hw18, -⟩ := _root_.id hC
  have hF : Frm kd r M M := Frm.rf
  obtain ⟨hg1, hg2, hg3, hg4, hg5, hg6, hg7, hg8, hgL, hgS, -⟩ := _root_.id hG
  refine v_aload_n dX12_loadsBest_0 rfl rfl ?_
  refine v_iload_n dX12_loadsBest_1 rfl rfl ?_
  refine k_X12_106 dX12_loadsBest_2 rfl (r_isSledge htr hC hG k) hMo (Nat.le_of_ble_eq_true rfl) (by omega) (by omega) (Nat.le_of_ble_eq_true rfl) (fun r2 M9 h9 => ?_) (fun _ _ h9 => h9.elim)
  obtain ⟨rfl, e9⟩ := h9
  subst M9
  refine v_if_ne (tgt := 14) dX12_loadsBest_5 (by decide) (fun hq5 => ?_) (fun hq5 => ?_)
  · obtain ⟨k0, k1⟩ := b_t hq5
    have k3 : k < 3 := by clear hgL hgS; lia
    obtain ⟨u0, u1, u2, u3, u4, u5, u6, u7⟩ := hgS k k0 k1
    have r0 : 0 ≤ (sd v k 0 - loadOn v k) := by clear hgL hgS; lia
    have r30 : (sd v k 0 - loadOn v k) ≤ 30 := by clear hgL hgS; lia
    clear hgS
    refine v_aload_n dX12_loadsBest_14 rfl rfl ?_
    refine gf_X12_16 dX12_loadsBest_15 rfl hMo ?_
    refine v_iload_n dX12_loadsBest_18 rfl rfl ?_
    refine v_iconst (v := 2) dX12_loadsBest_19 (by decide) ?_
    refine k_X12_96 dX12_loadsBest_20 rfl (r_in htr k 2) (Nat.le_of_ble_eq_true rfl) (by omega) (by omega) (Nat.le_of_ble_eq_true rfl) (fun r20 M9 h9 => ?_) (fun _ _ h9 => h9.elim)
    obtain ⟨rfl, e9⟩ := h9
    subst M9
    refine v_iald dX12_loadsBest_23 hw5 (by clear hgL; lia) (by clear hgL; lia) ?_
    refine v_if_le (tgt := 33) dX12_loadsBest_24 (by decide) (fun hq24 => ?_) (fun hq24 => ?_)
    · refine v_aload_n dX12_loadsBest_33 rfl rfl ?_
      refine v_iload_n dX12_loadsBest_34 rfl rfl ?_
      refine k_X12_127 dX12_loadsBest_35 rfl (r_loads htr hC hG k0 k1) hMo (Nat.le_of_ble_eq_true rfl) (by omega) (by omega) (Nat.le_of_ble_eq_true rfl) (fun r35 M9 h9 => ?_) (fun _ _ h9 => h9.elim)
      obtain ⟨s, b', li', th2, rfl, hSQ, hT, hC, hF9⟩ := h9
      have hF := Frm.tr hF hF9
      obtain ⟨hMo, hw5, hw6, hw7, hw8, hw9, hw10, hw11, hw13, hw14, hw15, hw16, hw17, hw18, -⟩ := _root_.id hC
      refine v_istore_2 dX12_loadsBest_38 ?_
      refine v_iconst (v := 0) dX12_loadsBest_39 (by decide) ?_
      refine v_istore_3 dX12_loadsBest_40 ?_
      refine v_iconst (v := 0) dX12_loadsBest_41 (by decide) ?_
      refine v_istore_4 dX12_loadsBest_42 ?_
      obtain ⟨w1, w2⟩ := SQ_pl (k := k) hG.LB r0 r30 hSQ
      have hW : wN v (sd v k 1) (v 7).toNatClampNeg ≤ 12 := Nat.le_trans (wL_len (v 7).toNatClampNeg) hG.LB.1
      have hWp := p12 hW
      have hs9 := hSQ.1
      clear hSQ
      have key : ∀ e lx, lx + e = 12 → ∀ M1 : LH, Md kd r M1 m w t ch ea fl sv b' tn he en ln wr dg (plT v k (wL v (sd v k 1) (v 7).toNatClampNeg) s lx) b4 sa pa fr th2 bs tx li lf to → Frm kd r M M1 → V l g yX12_loadsBest cX12_loadsBest ((some .int)) [] 3 0 0 (RI (fun x M9 => ∃ (b' : Int32) (th' : Int32 → Int32), ((vdBest v k = 0 ∧ x = cnM (bI v (sd v k 1) (v 7).toNatClampNeg (sd v k 0 - loadOn v k) &&& 4095) (v 7).toNatClampNeg ∧ Md kd r M9 m w t ch ea fl sv b' tn he en ln wr dg (plN v k (bI v (sd v k 1) (v 7).toNatClampNeg (sd v k 0 - loadOn v k) &&& 4095) (v 7).toNatClampNeg) b4 sa pa fr th' bs tx li lf to) ∨ (¬ vdBest v k = 0 ∧ x = 0 ∧ Md kd r M9 m w (fcI 6 (vdBest v k)) ch ea fl sv bf tn he en ln wr dg v b4 sa pa fr th bs tx li lf to)) ∧ Frm kd r M M9) nX) X M1 0 0 44 [some (.ref m), some (.int k), some (.int (nI s)), some (.int (cnT s lx)), some (.int (nI lx))] [] := by
        clear hC hF hMo hw5 hw6 hw7 hw8 hw9 hw10 hw11 hw13 hw14 hw15 hw16 hw17 hw18
        intro e
        induction e with
        | zero =>
          intro lx hl M1 hC hF
          obtain ⟨hMo, hw5, hw6, hw7, hw8, hw9, hw10, hw11, hw13, hw14, hw15, hw16, hw17, hw18, -⟩ := _root_.id hC
          have hl0 : lx = 12 := by omega
          subst hl0
          refine v_iload dX12_loadsBest_44 rfl ?_
          refine v_bipush (v := (12)) dX12_loadsBest_46 (by decide) ?_
          refine v_icmp_ge (tgt := 93) dX12_loadsBest_48 (by decide) (fun h48 => ?_) (fun h48 => ?_)
          · refine v_iload_n dX12_loadsBest_93 rfl rfl ?_
            exact v_iret dX12_loadsBest_94 rfl ⟨b', th2, Or.inl ⟨vdBest_z ⟨k0, k1⟩ (Int32.not_lt.mpr hq24), w2, (by rw [← w1]; exact hC)⟩, hF⟩ (by omega) (by omega)
          · exact absurd (by decide : (12 : Int32) ≤ nI 12) h48
        | succ e ihe =>
          intro lx hl M1 hC hF
          obtain ⟨hMo, hw5, hw6, hw7, hw8, hw9, hw10, hw11, hw13, hw14, hw15, hw16, hw17, hw18, -⟩ := _root_.id hC
          obtain ⟨b0, b1⟩ := nI12 lx (by omega)
          have hbit := shr12 (s := s) (l := lx) (by omega) (by omega)
          have hi := ihe (lx + 1) (by omega)
          rw [plT_1, cnT_1] at hi
          refine v_iload dX12_loadsBest_44 rfl ?_
          refine v_bipush (v := (12)) dX12_loadsBest_46 (by decide) ?_
          refine v_icmp_ge (tgt := 93) dX12_loadsBest_48 (by decide) (fun h48 => ?_) (fun h48 => ?_)
          · exact absurd h48 (Int32.not_le.mpr b1)
          · refine v_iload_n dX12_loadsBest_51 rfl rfl ?_
            refine v_iload dX12_loadsBest_52 rfl ?_
            refine v_ishr dX12_loadsBest_54 ?_
            refine v_iconst (v := 1) dX12_loadsBest_55 (by decide) ?_
            refine v_iand dX12_loadsBest_56 ?_
            refine v_if_ne (tgt := 63) dX12_loadsBest_57 (by decide) (fun h57 => ?_) (fun h57 => ?_)
            · have hb9 : s.testBit lx = true := by
                cases hz : s.testBit lx with
                | true => rfl
                | false => exact absurd (hbit.mpr hz) h57
              have hl9 : lx < wN v (sd v k 1) (v 7).toNatClampNeg := by
                refine Nat.lt_of_not_le (fun z => ?_)
                rw [Nat.testBit_lt_two_pow (Nat.lt_of_lt_of_le hs9 (Nat.pow_le_pow_right (by decide) z))] at hb9
                exact absurd hb9 (by decide)
              obtain ⟨j, j1, j2, j3⟩ := wL_at hl9
              have ht9 : th2 (nI lx) = nI j := (hT lx hl9).trans j2
              obtain ⟨j4, j5, j6⟩ := nI_below hg6 j1
              rw [if_pos hb9, if_pos hb9, j2] at hi
              refine v_aload_n dX12_loadsBest_63 rfl rfl ?_
              refine gf_X12_16 dX12_loadsBest_64 rfl hMo ?_
              refine v_aload_n dX12_loadsBest_67 rfl rfl ?_
              refine gf_X12_32 dX12_loadsBest_68 rfl hMo ?_
              refine v_iload dX12_loadsBest_71 rfl ?_
              refine v_iald dX12_loadsBest_73 hw10 b0 b1 ?_
              rw [ht9]
              refine v_bipush (v := (6)) dX12_loadsBest_74 (by decide) ?_
              refine k_X12_70 dX12_loadsBest_76 rfl (r_of htr (nI j) 6) (Nat.le_of_ble_eq_true rfl) (by omega) (by omega) (Nat.le_of_ble_eq_true rfl) (fun r76 M9 h9 => ?_) (fun _ _ h9 => h9.elim)
              obtain ⟨rfl, e9⟩ := h9
              subst M9
              refine v_bipush (v := (10)) dX12_loadsBest_79 (by decide) ?_
              refine v_iload_n dX12_loadsBest_81 rfl rfl ?_
              refine v_iadd dX12_loadsBest_82 ?_
              refine v_iast dX12_loadsBest_83 hw5 (by clear hi ihe hgL hT hbit hC hF; lia) (by clear hi ihe hgL hT hbit hC hF; lia) ?_
              refine V.md (Md.r5 hC) (Frm.tr hF (Frm.up (hC.kd_r5))) (fun M1 hC hF => ?_)
              obtain ⟨hMo, hw5, hw6, hw7, hw8, hw9, hw10, hw11, hw13, hw14, hw15, hw16, hw17, hw18, -⟩ := _root_.id hC
              refine v_iinc_3 dX12_loadsBest_84 rfl ?_
              refine v_iinc_4 dX12_loadsBest_87 rfl ?_
              refine v_goto (tgt := 44) dX12_loadsBest_90 (by decide) ?_
              rw [show nI lx + Int32.ofInt 1 = nI (lx + 1) from nI_1 lx]
              exact hi _ hC hF
            · have hb9 : ¬ s.testBit lx = true := by
                rw [hbit.mp (by first | exact h57 | exact Classical.not_not.mp h57)]
                decide
              rw [if_neg hb9, if_neg hb9] at hi
              refine v_goto (tgt := 87) dX12_loadsBest_60 (by decide) ?_
              refine v_iinc_4 dX12_loadsBest_87 rfl ?_
              refine v_goto (tgt := 44) dX12_loadsBest_90 (by decide) ?_
              rw [show nI lx + Int32.ofInt 1 = nI (lx + 1) from nI_1 lx]
              exact hi _ hC hF
      exact key 12 0 (by omega) _ hC hF
    · refine v_aload_n dX12_loadsBest_27 rfl rfl ?_
      refine v_iconst (v := 2) dX12_loadsBest_28 (by decide) ?_
      refine k_X12_74 dX12_loadsBest_29 rfl (r_fail htr hC 2) hMo (Nat.le_of_ble_eq_true rfl) (by omega) (by omega) (Nat.le_of_ble_eq_true rfl) (fun r29 M9 h9 => ?_) (fun _ _ h9 => h9.elim)
      obtain ⟨rfl, hC, hF9⟩ := h9
      have hF := Frm.tr hF hF9
      exact v_iret dX12_loadsBest_32 rfl ⟨bf, th, Or.inr ⟨(by rw [vdBest_4 ⟨k0, k1⟩ (Int32.not_le.mp hq24)]; decide), rfl, (by rw [vdBest_4 ⟨k0, k1⟩ (Int32.not_le.mp hq24)]; exact hC)⟩, hF⟩ (by omega) (by omega)
  · refine v_aload_n dX12_loadsBest_8 rfl rfl ?_
    refine v_iconst (v := 1) dX12_loadsBest_9 (by decide) ?_
    refine k_X12_74 dX12_loadsBest_10 rfl (r_fail htr hC 1) hMo (Nat.le_of_ble_eq_true rfl) (by omega) (by omega) (Nat.le_of_ble_eq_true rfl) (fun r10 M9 h9 => ?_) (fun _ _ h9 => h9.elim)
    obtain ⟨rfl, hC, hF9⟩ := h9
    have hF := Frm.tr hF hF9
    exact v_iret dX12_loadsBest_13 rfl ⟨bf, th, Or.inr ⟨(by rw [vdBest_1 (b_f hq5)]; decide), rfl, (by rw [vdBest_1 (b_f hq5)]; exact hC)⟩, hF⟩ (by omega) (by omega)
