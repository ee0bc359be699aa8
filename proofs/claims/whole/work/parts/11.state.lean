theorem up_ind {P : Int32 → Prop} (n : Int32) (h : ∀ i, 0 ≤ i → i ≤ n → (i < n → P (i + 1)) → P i) : ∀ i, 0 ≤ i → i ≤ n → P i := by
  intro i h0 h1
  have hn : 0 ≤ n := by lia
  exact up_to n (h n hn (by lia) (fun q => absurd q (by lia))) (fun j a b e => h j a (by lia) (fun _ => e)) i h0 h1
/-- the first place from i on, below n, that p takes; -1 where there is none -/
def fstN (p : Int32 → Bool) : Nat → Int32 → Int32
  | 0, _ => -1
  | d + 1, i => if p i = true then i else fstN p d (i + 1)
def fstU (p : Int32 → Bool) (n i : Int32) : Int32 := fstN p (n.toNatClampNeg - i.toNatClampNeg) i
theorem fstU_n (p : Int32 → Bool) (n : Int32) : fstU p n n = -1 := by
  unfold fstU
  rw [Nat.sub_self]
  rfl
theorem fstU_1 {p : Int32 → Bool} {n i : Int32} (h0 : 0 ≤ i) (h1 : i < n) : fstU p n i = if p i = true then i else fstU p n (i + 1) := by
  unfold fstU
  have h2 := tc_lt h0 h1
  rw [tc_1 h0 h1, show n.toNatClampNeg - i.toNatClampNeg = (n.toNatClampNeg - (i.toNatClampNeg + 1)) + 1 by omega]
  rfl
def Good (σ : Int32 → Int32) : Prop :=
  0 ≤ σ 5 ∧ σ 5 ≤ 7 ∧ 0 ≤ σ 6 ∧ σ 6 ≤ 3 ∧ 0 ≤ σ 7 ∧ σ 7 ≤ 12 ∧ -30 ≤ σ 1 ∧ σ 1 ≤ 10 ∧
  (∀ i, 0 ≤ i → i < σ 7 → 0 ≤ lt σ i 1 ∧ lt σ i 1 < σ 5 ∧ 1 ≤ lt σ i 2 ∧ lt σ i 2 ≤ 9 ∧ 0 ≤ lt σ i 3 ∧ lt σ i 3 ≤ 99 ∧ 1 ≤ lt σ i 4 ∧ lt σ i 4 ≤ 99 ∧ 0 ≤ lt σ i 5 ∧ lt σ i 5 ≤ lt σ i 4 ∧ 0 ≤ lt σ i 6 ∧ (lt σ i 6 < σ 5 ∨ 10 ≤ lt σ i 6) ∧ lt σ i 6 < 10 + σ 6 ∧ 0 ≤ lt σ i 0) ∧
  (∀ k, 0 ≤ k → k < σ 6 → 5 ≤ sd σ k 0 ∧ sd σ k 0 ≤ 30 ∧ 0 ≤ sd σ k 1 ∧ sd σ k 1 < σ 5 ∧ 0 ≤ sd σ k 2 ∧ sd σ k 2 ≤ 120 ∧ 0 ≤ loadOn σ k ∧ loadOn σ k ≤ sd σ k 0) ∧
  (∀ a b, 0 ≤ a → a < 7 → 0 ≤ b → b < 7 → 0 ≤ rd σ a b ∧ rd σ a b ≤ 20 ∧ (0 < rd σ a b → a < σ 5 ∧ b < σ 5 ∧ ¬ a = b)) ∧
  (∀ i j, 0 ≤ i → i < j → j < σ 7 → lt σ i 0 < lt σ j 0) ∧ (∀ i, 0 ≤ i → i < σ 7 → lt σ i 0 < σ 4) ∧ 0 ≤ σ 4
/-- a State at a over M, of region r, that holds σ: its rows (ad), its sledges (sl), its letters (le), what they hold (F) -/
def StR (kd : Nat → Nat) (r : Nat) (M : LH) (a : Nat) (ad : Nat → Nat) (sl le : Int32 → Nat) (fg tp : Int32) (F : Nat → Int32 → Int32) (σ : Int32 → Int32) : Prop :=
  M a = some (ob 8 [.int (σ 5), .ref (ad 0), .int (σ 6), .ref (ad 1), .int (σ 7), .ref (ad 2), .int (σ 4), .int (σ 0), .int (σ 1), .int (σ 2), .int fg, .int tp, .int (σ 3)]) ∧
  M (ad 0) = some (ia 49 (F 11)) ∧
  M (ad 1) = some (ra "SledgePost$Sledge" 3 (fun i => some (sl i))) ∧
  M (ad 2) = some (ra "SledgePost$Letter" 12 (fun i => some (le i))) ∧
  (∀ i, 0 ≤ i → i < 3 → M (sl i) = some (ob 7 [.int (F 8 i), .int (F 9 i), .int (F 10 i)])) ∧
  (∀ i, 0 ≤ i → i < 12 → M (le i) = some (ob 4 [.int (F 0 i), .int (F 1 i), .int (F 2 i), .int (F 3 i), .int (F 4 i), .int (F 5 i), .int (F 6 i), .int (F 7 i)])) ∧
  (kd a = r ∧ kd (ad 0) = r ∧ kd (ad 1) = r ∧ kd (ad 2) = r ∧ (∀ i, 0 ≤ i → i < 3 → kd (sl i) = r) ∧ ∀ i, 0 ≤ i → i < 12 → kd (le i) = r) ∧
  ((∀ i j, 0 ≤ i → i < 12 → 0 ≤ j → j < 12 → le i = le j → i = j) ∧ ∀ i j, 0 ≤ i → i < 3 → 0 ≤ j → j < 3 → sl i = sl j → i = j) ∧
  (fg - tp = σ 2 ∧ (∀ a b, 0 ≤ a → a < 7 → 0 ≤ b → b < 7 → F 11 (7 * a + b) = rd σ a b) ∧
    (∀ i, 0 ≤ i → i < σ 6 → F 8 i = sd σ i 0 ∧ F 9 i = sd σ i 1 ∧ F 10 i = sd σ i 2) ∧
    (∀ i, 0 ≤ i → i < σ 7 → F 0 i = lt σ i 0 ∧ F 1 i = lt σ i 1 ∧ F 2 i = lt σ i 2 ∧ F 3 i = lt σ i 3 ∧ F 4 i = lt σ i 4 ∧ F 5 i = lt σ i 5 ∧ F 6 i = (if lt σ i 6 < 10 then -1 else lt σ i 6 - 10) ∧ (lt σ i 6 < 10 → F 7 i = lt σ i 6))) ∧ Good σ
def find (σ : Int32 → Int32) (id : Int32) : Int32 := fstU (fun i => decide (lt σ i 0 = id)) (σ 7) 0
def findC (σ : Int32 → Int32) (cd : Int32) : Int32 := fstU (fun i => decide (codeN (lt σ i 0) (lt σ i 1) = cd)) (σ 7) 0
/-- letter o stands ahead of letter j by fee, weight, place -/
def bef (σ : Int32 → Int32) (o j : Int32) : Bool := if lt σ o 3 = lt σ j 3 then (if lt σ o 2 = lt σ j 2 then decide (o < j) else decide (lt σ o 2 < lt σ j 2)) else decide (lt σ j 3 < lt σ o 3)
def rankU (σ : Int32 → Int32) (j : Int32) : Int32 := sumU (fun o => if bef σ o j = true then 1 else 0) (σ 7)
def findR (σ : Int32 → Int32) (rk : Int32) : Int32 := fstU (fun i => decide (rankU σ i = rk)) (σ 7) 0
def cntU (σ : Int32 → Int32) (p n : Int32) : Int32 := sumU (fun i => if lt σ i 6 = p then 1 else 0) n
def findP (σ : Int32 → Int32) (k pl : Int32) : Int32 := fstU (fun i => decide (lt σ i 6 = 10 + k ∧ cntU σ (10 + k) i = pl)) (σ 7) 0
def thawN (σ : Int32 → Int32) : Int32 := sumU (fun i => if lt σ i 5 = 0 then 1 else 0) (σ 7)
def iceN (σ : Int32 → Int32) : Int32 := sumU (fun i => lt σ i 5) (σ 7)
theorem dX9_hasStation_0 : decode cX9_hasStation 0 = .ok (.iload_n 1, 1) := by decide +kernel
theorem dX9_hasStation_1 : decode cX9_hasStation 1 = .ok (.ifCond .lt 15, 3) := by decide +kernel
theorem dX9_hasStation_4 : decode cX9_hasStation 4 = .ok (.iload_n 1, 1) := by decide +kernel
theorem dX9_hasStation_5 : decode cX9_hasStation 5 = .ok (.aload_n 0, 1) := by decide +kernel
theorem dX9_hasStation_6 : decode cX9_hasStation 6 = .ok (.getfield 29, 3) := by decide +kernel
theorem dX9_hasStation_9 : decode cX9_hasStation 9 = .ok (.if_icmp .ge 7, 3) := by decide +kernel
theorem dX9_hasStation_12 : decode cX9_hasStation 12 = .ok (.iconst 1, 1) := by decide +kernel
theorem dX9_hasStation_13 : decode cX9_hasStation 13 = .ok (.goto 4, 3) := by decide +kernel
theorem dX9_hasStation_16 : decode cX9_hasStation 16 = .ok (.iconst 0, 1) := by decide +kernel
theorem dX9_hasStation_17 : decode cX9_hasStation 17 = .ok (.ireturn, 1) := by decide +kernel
set_option maxRecDepth 100000 in
theorem c_hasStation {l : Launch} {g : Nat → Nat} {M : LH} (htr : l.stackTraces = false) {kd : Nat → Nat} {r a : Nat} {ad : Nat → Nat} {sl le : Int32 → Nat} {fg tp : Int32} {F : Nat → Int32 → Int32} {σ : Int32 → Int32} (hC : StR kd r M a ad sl le fg tp F σ) (b : Int32) : K_X9_hasStation l g 0 0 0 [.ref a, .int b] M (RI (fun v M9 => v = (if 0 ≤ b ∧ b < σ 5 then 1 else 0) ∧ M9 = M) nX) := by
  refine Ko_X9_hasStation htr (fun X => ?_)
  obtain ⟨hSt, hRo, hSa, hLs, hSl, hLe, -, -, ⟨-, hRd, hSd, hLt⟩, hG⟩ := hC
  obtain ⟨hg1, hg2, hg3, hg4, hg5, hg6, hg7, hg8, hgL, hgS, hgR, hgI, hgN, hg0⟩ := hG
  refine v_iload_n dX9_hasStation_0 rfl rfl ?_
  refine v_if_lt (tgt := 16) dX9_hasStation_1 (by decide) (fun h1 => ?_) (fun h1 => ?_)
  · refine v_iconst (v := 0) dX9_hasStation_16 (by decide) ?_
    exact v_zret dX9_hasStation_17 rfl (by first | rfl | assumption) ⟨by grind, rfl⟩ (by omega) (by omega)
  · refine v_iload_n dX9_hasStation_4 rfl rfl ?_
    refine v_aload_n dX9_hasStation_5 rfl rfl ?_
    refine gf_X9_29 dX9_hasStation_6 rfl (by assumption) ?_
    refine v_icmp_ge (tgt := 16) dX9_hasStation_9 (by decide) (fun h9 => ?_) (fun h9 => ?_)
    · refine v_iconst (v := 0) dX9_hasStation_16 (by decide) ?_
      exact v_zret dX9_hasStation_17 rfl (by first | rfl | assumption) ⟨by grind, rfl⟩ (by omega) (by omega)
    · refine v_iconst (v := 1) dX9_hasStation_12 (by decide) ?_
      refine v_goto (tgt := 17) dX9_hasStation_13 (by decide) ?_
      exact v_zret dX9_hasStation_17 rfl (by first | rfl | assumption) ⟨by grind, rfl⟩ (by omega) (by omega)
theorem dX9_hasSledge_0 : decode cX9_hasSledge 0 = .ok (.iload_n 1, 1) := by decide +kernel
theorem dX9_hasSledge_1 : decode cX9_hasSledge 1 = .ok (.ifCond .lt 15, 3) := by decide +kernel
theorem dX9_hasSledge_4 : decode cX9_hasSledge 4 = .ok (.iload_n 1, 1) := by decide +kernel
theorem dX9_hasSledge_5 : decode cX9_hasSledge 5 = .ok (.aload_n 0, 1) := by decide +kernel
theorem dX9_hasSledge_6 : decode cX9_hasSledge 6 = .ok (.getfield 39, 3) := by decide +kernel
theorem dX9_hasSledge_9 : decode cX9_hasSledge 9 = .ok (.if_icmp .ge 7, 3) := by decide +kernel
theorem dX9_hasSledge_12 : decode cX9_hasSledge 12 = .ok (.iconst 1, 1) := by decide +kernel
theorem dX9_hasSledge_13 : decode cX9_hasSledge 13 = .ok (.goto 4, 3) := by decide +kernel
theorem dX9_hasSledge_16 : decode cX9_hasSledge 16 = .ok (.iconst 0, 1) := by decide +kernel
theorem dX9_hasSledge_17 : decode cX9_hasSledge 17 = .ok (.ireturn, 1) := by decide +kernel
set_option maxRecDepth 100000 in
theorem c_hasSledge {l : Launch} {g : Nat → Nat} {M : LH} (htr : l.stackTraces = false) {kd : Nat → Nat} {r a : Nat} {ad : Nat → Nat} {sl le : Int32 → Nat} {fg tp : Int32} {F : Nat → Int32 → Int32} {σ : Int32 → Int32} (hC : StR kd r M a ad sl le fg tp F σ) (b : Int32) : K_X9_hasSledge l g 0 0 0 [.ref a, .int b] M (RI (fun v M9 => v = (if 0 ≤ b ∧ b < σ 6 then 1 else 0) ∧ M9 = M) nX) := by
  refine Ko_X9_hasSledge htr (fun X => ?_)
  obtain ⟨hSt, hRo, hSa, hLs, hSl, hLe, -, -, ⟨-, hRd, hSd, hLt⟩, hG⟩ := hC
  obtain ⟨hg1, hg2, hg3, hg4, hg5, hg6, hg7, hg8, hgL, hgS, hgR, hgI, hgN, hg0⟩ := hG
  refine v_iload_n dX9_hasSledge_0 rfl rfl ?_
  refine v_if_lt (tgt := 16) dX9_hasSledge_1 (by decide) (fun h1 => ?_) (fun h1 => ?_)
  · refine v_iconst (v := 0) dX9_hasSledge_16 (by decide) ?_
    exact v_zret dX9_hasSledge_17 rfl (by first | rfl | assumption) ⟨by grind, rfl⟩ (by omega) (by omega)
  · refine v_iload_n dX9_hasSledge_4 rfl rfl ?_
    refine v_aload_n dX9_hasSledge_5 rfl rfl ?_
    refine gf_X9_39 dX9_hasSledge_6 rfl (by assumption) ?_
    refine v_icmp_ge (tgt := 16) dX9_hasSledge_9 (by decide) (fun h9 => ?_) (fun h9 => ?_)
    · refine v_iconst (v := 0) dX9_hasSledge_16 (by decide) ?_
      exact v_zret dX9_hasSledge_17 rfl (by first | rfl | assumption) ⟨by grind, rfl⟩ (by omega) (by omega)
    · refine v_iconst (v := 1) dX9_hasSledge_12 (by decide) ?_
      refine v_goto (tgt := 17) dX9_hasSledge_13 (by decide) ?_
      exact v_zret dX9_hasSledge_17 rfl (by first | rfl | assumption) ⟨by grind, rfl⟩ (by omega) (by omega)
theorem dX9_weightOn_0 : decode cX9_weightOn 0 = .ok (.iconst 0, 1) := by decide +kernel
theorem dX9_weightOn_1 : decode cX9_weightOn 1 = .ok (.istore_n 2, 1) := by decide +kernel
theorem dX9_weightOn_2 : decode cX9_weightOn 2 = .ok (.iconst 0, 1) := by decide +kernel
theorem dX9_weightOn_3 : decode cX9_weightOn 3 = .ok (.istore_n 3, 1) := by decide +kernel
theorem dX9_weightOn_4 : decode cX9_weightOn 4 = .ok (.iload_n 3, 1) := by decide +kernel
theorem dX9_weightOn_5 : decode cX9_weightOn 5 = .ok (.aload_n 0, 1) := by decide +kernel
theorem dX9_weightOn_6 : decode cX9_weightOn 6 = .ok (.getfield 46, 3) := by decide +kernel
theorem dX9_weightOn_9 : decode cX9_weightOn 9 = .ok (.if_icmp .ge 34, 3) := by decide +kernel
theorem dX9_weightOn_12 : decode cX9_weightOn 12 = .ok (.aload_n 0, 1) := by decide +kernel
theorem dX9_weightOn_13 : decode cX9_weightOn 13 = .ok (.getfield 23, 3) := by decide +kernel
theorem dX9_weightOn_16 : decode cX9_weightOn 16 = .ok (.iload_n 3, 1) := by decide +kernel
theorem dX9_weightOn_17 : decode cX9_weightOn 17 = .ok (.aaload, 1) := by decide +kernel
theorem dX9_weightOn_18 : decode cX9_weightOn 18 = .ok (.getfield 88, 3) := by decide +kernel
theorem dX9_weightOn_21 : decode cX9_weightOn 21 = .ok (.iload_n 1, 1) := by decide +kernel
theorem dX9_weightOn_22 : decode cX9_weightOn 22 = .ok (.if_icmp .ne 15, 3) := by decide +kernel
theorem dX9_weightOn_25 : decode cX9_weightOn 25 = .ok (.iload_n 2, 1) := by decide +kernel
theorem dX9_weightOn_26 : decode cX9_weightOn 26 = .ok (.aload_n 0, 1) := by decide +kernel
theorem dX9_weightOn_27 : decode cX9_weightOn 27 = .ok (.getfield 23, 3) := by decide +kernel
theorem dX9_weightOn_30 : decode cX9_weightOn 30 = .ok (.iload_n 3, 1) := by decide +kernel
theorem dX9_weightOn_31 : decode cX9_weightOn 31 = .ok (.aaload, 1) := by decide +kernel
theorem dX9_weightOn_32 : decode cX9_weightOn 32 = .ok (.getfield 91, 3) := by decide +kernel
theorem dX9_weightOn_35 : decode cX9_weightOn 35 = .ok (.iadd, 1) := by decide +kernel
theorem dX9_weightOn_36 : decode cX9_weightOn 36 = .ok (.istore_n 2, 1) := by decide +kernel
theorem dX9_weightOn_37 : decode cX9_weightOn 37 = .ok (.iinc 3 1, 3) := by decide +kernel
theorem dX9_weightOn_40 : decode cX9_weightOn 40 = .ok (.goto (-36), 3) := by decide +kernel
theorem dX9_weightOn_43 : decode cX9_weightOn 43 = .ok (.iload_n 2, 1) := by decide +kernel
theorem dX9_weightOn_44 : decode cX9_weightOn 44 = .ok (.ireturn, 1) := by decide +kernel
set_option maxRecDepth 100000 in
theorem c_weightOn {l : Launch} {g : Nat → Nat} {M : LH} (htr : l.stackTraces = false) {kd : Nat → Nat} {r a : Nat} {ad : Nat → Nat} {sl le : Int32 → Nat} {fg tp : Int32} {F : Nat → Int32 → Int32} {σ : Int32 → Int32} (hC : StR kd r M a ad sl le fg tp F σ) {k : Int32} (hk0 : 0 ≤ k) (hk1 : k < 100) : K_X9_weightOn l g 0 0 0 [.ref a, .int k] M (RI (fun v M9 => v = loadOn σ k ∧ M9 = M) nX) := by
  refine Ko_X9_weightOn htr (fun X => ?_)
  obtain ⟨hSt, hRo, hSa, hLs, hSl, hLe, -, -, ⟨-, hRd, hSd, hLt⟩, hG⟩ := hC
  obtain ⟨hg1, hg2, hg3, hg4, hg5, hg6, hg7, hg8, hgL, hgS, hgR, hgI, hgN, hg0⟩ := hG
  have key : ∀ i, 0 ≤ i → i ≤ σ 7 → ∀ s : Int32, s = sumU (fun i => if lt σ i 6 = 10 + k then lt σ i 2 else 0) i → V l g yX9_weightOn cX9_weightOn ((some .int)) [] 0 0 0 (RI (fun v M9 => v = loadOn σ k ∧ M9 = M) nX) X M 0 0 4 [some (.ref a), some (.int k), some (.int s), some (.int i)] [] := by
    refine up_ind _ (fun i h0 h1 ih s hs => ?_)
    refine v_iload_n dX9_weightOn_4 rfl rfl ?_
    refine v_aload_n dX9_weightOn_5 rfl rfl ?_
    refine gf_X9_46 dX9_weightOn_6 rfl (by assumption) ?_
    refine v_icmp_ge (tgt := 43) dX9_weightOn_9 (by decide) (fun h9 => ?_) (fun h9 => ?_)
    · have hi : i = σ 7 := by lia
      refine v_iload_n dX9_weightOn_43 rfl rfl ?_
      exact v_iret dX9_weightOn_44 rfl ⟨by rw [hs, hi]; rfl, rfl⟩ (by omega) (by omega)
    · have hi : i < σ 7 := by lia
      obtain ⟨q0, q1, q2, q3, q4, q5, q6, q7⟩ := hLt i h0 hi
      obtain ⟨z1, z2, z3, z4, z5, z6, z7, z8, z9, z10, z11, z12, z13, z14⟩ := hgL i h0 hi
      refine v_aload_n dX9_weightOn_12 rfl rfl ?_
      refine gf_X9_23 dX9_weightOn_13 rfl (by assumption) ?_
      refine v_iload_n dX9_weightOn_16 rfl rfl ?_
      refine v_aald1 dX9_weightOn_17 (by assumption) (by lia) (by lia) rfl ?_
      refine gf_X9_88 dX9_weightOn_18 rfl (hLe _ (by lia) (by lia)) ?_
      refine v_iload_n dX9_weightOn_21 rfl rfl ?_
      refine v_icmp_ne (tgt := 37) dX9_weightOn_22 (by decide) (fun h22 => ?_) (fun h22 => ?_)
      · refine v_iinc_3 dX9_weightOn_37 rfl ?_
        refine v_goto (tgt := 4) dX9_weightOn_40 (by decide) ?_
        exact ih hi _ (by rw [sumU_1 h0 hi]; grind)
      · refine v_iload_n dX9_weightOn_25 rfl rfl ?_
        refine v_aload_n dX9_weightOn_26 rfl rfl ?_
        refine gf_X9_23 dX9_weightOn_27 rfl (by assumption) ?_
        refine v_iload_n dX9_weightOn_30 rfl rfl ?_
        refine v_aald1 dX9_weightOn_31 (by assumption) (by lia) (by lia) rfl ?_
        refine gf_X9_91 dX9_weightOn_32 rfl (hLe _ (by lia) (by lia)) ?_
        refine v_iadd dX9_weightOn_35 ?_
        refine v_istore_2 dX9_weightOn_36 ?_
        refine v_iinc_3 dX9_weightOn_37 rfl ?_
        refine v_goto (tgt := 4) dX9_weightOn_40 (by decide) ?_
        exact ih hi _ (by rw [sumU_1 h0 hi]; grind)
  refine v_iconst (v := 0) dX9_weightOn_0 (by decide) ?_
  refine v_istore_2 dX9_weightOn_1 ?_
  refine v_iconst (v := 0) dX9_weightOn_2 (by decide) ?_
  refine v_istore_3 dX9_weightOn_3 ?_
  exact key 0 (by lia) (by lia) 0 rfl
theorem dX9_countOn_0 : decode cX9_countOn 0 = .ok (.iconst 0, 1) := by decide +kernel
theorem dX9_countOn_1 : decode cX9_countOn 1 = .ok (.istore_n 2, 1) := by decide +kernel
theorem dX9_countOn_2 : decode cX9_countOn 2 = .ok (.iconst 0, 1) := by decide +kernel
theorem dX9_countOn_3 : decode cX9_countOn 3 = .ok (.istore_n 3, 1) := by decide +kernel
theorem dX9_countOn_4 : decode cX9_countOn 4 = .ok (.iload_n 3, 1) := by decide +kernel
theorem dX9_countOn_5 : decode cX9_countOn 5 = .ok (.aload_n 0, 1) := by decide +kernel
theorem dX9_countOn_6 : decode cX9_countOn 6 = .ok (.getfield 46, 3) := by decide +kernel
theorem dX9_countOn_9 : decode cX9_countOn 9 = .ok (.if_icmp .ge 25, 3) := by decide +kernel
theorem dX9_countOn_12 : decode cX9_countOn 12 = .ok (.aload_n 0, 1) := by decide +kernel
theorem dX9_countOn_13 : decode cX9_countOn 13 = .ok (.getfield 23, 3) := by decide +kernel
theorem dX9_countOn_16 : decode cX9_countOn 16 = .ok (.iload_n 3, 1) := by decide +kernel
theorem dX9_countOn_17 : decode cX9_countOn 17 = .ok (.aaload, 1) := by decide +kernel
theorem dX9_countOn_18 : decode cX9_countOn 18 = .ok (.getfield 88, 3) := by decide +kernel
theorem dX9_countOn_21 : decode cX9_countOn 21 = .ok (.iload_n 1, 1) := by decide +kernel
theorem dX9_countOn_22 : decode cX9_countOn 22 = .ok (.if_icmp .ne 6, 3) := by decide +kernel
theorem dX9_countOn_25 : decode cX9_countOn 25 = .ok (.iinc 2 1, 3) := by decide +kernel
theorem dX9_countOn_28 : decode cX9_countOn 28 = .ok (.iinc 3 1, 3) := by decide +kernel
theorem dX9_countOn_31 : decode cX9_countOn 31 = .ok (.goto (-27), 3) := by decide +kernel
theorem dX9_countOn_34 : decode cX9_countOn 34 = .ok (.iload_n 2, 1) := by decide +kernel
theorem dX9_countOn_35 : decode cX9_countOn 35 = .ok (.ireturn, 1) := by decide +kernel
set_option maxRecDepth 100000 in
theorem c_countOn {l : Launch} {g : Nat → Nat} {M : LH} (htr : l.stackTraces = false) {kd : Nat → Nat} {r a : Nat} {ad : Nat → Nat} {sl le : Int32 → Nat} {fg tp : Int32} {F : Nat → Int32 → Int32} {σ : Int32 → Int32} (hC : StR kd r M a ad sl le fg tp F σ) {k : Int32} (hk0 : 0 ≤ k) (hk1 : k < 100) : K_X9_countOn l g 0 0 0 [.ref a, .int k] M (RI (fun v M9 => v = cntU σ (10 + k) (σ 7) ∧ M9 = M) nX) := by
  refine Ko_X9_countOn htr (fun X => ?_)
  obtain ⟨hSt, hRo, hSa, hLs, hSl, hLe, -, -, ⟨-, hRd, hSd, hLt⟩, hG⟩ := hC
  obtain ⟨hg1, hg2, hg3, hg4, hg5, hg6, hg7, hg8, hgL, hgS, hgR, hgI, hgN, hg0⟩ := hG
  have key : ∀ i, 0 ≤ i → i ≤ σ 7 → ∀ s : Int32, s = sumU (fun i => if lt σ i 6 = 10 + k then 1 else 0) i → V l g yX9_countOn cX9_countOn ((some .int)) [] 0 0 0 (RI (fun v M9 => v = cntU σ (10 + k) (σ 7) ∧ M9 = M) nX) X M 0 0 4 [some (.ref a), some (.int k), some (.int s), some (.int i)] [] := by
    refine up_ind _ (fun i h0 h1 ih s hs => ?_)
    refine v_iload_n dX9_countOn_4 rfl rfl ?_
    refine v_aload_n dX9_countOn_5 rfl rfl ?_
    refine gf_X9_46 dX9_countOn_6 rfl (by assumption) ?_
    refine v_icmp_ge (tgt := 34) dX9_countOn_9 (by decide) (fun h9 => ?_) (fun h9 => ?_)
    · have hi : i = σ 7 := by lia
      refine v_iload_n dX9_countOn_34 rfl rfl ?_
      exact v_iret dX9_countOn_35 rfl ⟨by rw [hs, hi]; rfl, rfl⟩ (by omega) (by omega)
    · have hi : i < σ 7 := by lia
      obtain ⟨q0, q1, q2, q3, q4, q5, q6, q7⟩ := hLt i h0 hi
      obtain ⟨z1, z2, z3, z4, z5, z6, z7, z8, z9, z10, z11, z12, z13, z14⟩ := hgL i h0 hi
      refine v_aload_n dX9_countOn_12 rfl rfl ?_
      refine gf_X9_23 dX9_countOn_13 rfl (by assumption) ?_
      refine v_iload_n dX9_countOn_16 rfl rfl ?_
      refine v_aald1 dX9_countOn_17 (by assumption) (by lia) (by lia) rfl ?_
      refine gf_X9_88 dX9_countOn_18 rfl (hLe _ (by lia) (by lia)) ?_
      refine v_iload_n dX9_countOn_21 rfl rfl ?_
      refine v_icmp_ne (tgt := 28) dX9_countOn_22 (by decide) (fun h22 => ?_) (fun h22 => ?_)
      · refine v_iinc_3 dX9_countOn_28 rfl ?_
        refine v_goto (tgt := 4) dX9_countOn_31 (by decide) ?_
        exact ih hi _ (by rw [sumU_1 h0 hi]; grind)
      · refine v_iinc_2 dX9_countOn_25 rfl ?_
        refine v_iinc_3 dX9_countOn_28 rfl ?_
        refine v_goto (tgt := 4) dX9_countOn_31 (by decide) ?_
        exact ih hi _ (by rw [sumU_1 h0 hi]; grind)
  refine v_iconst (v := 0) dX9_countOn_0 (by decide) ?_
  refine v_istore_2 dX9_countOn_1 ?_
  refine v_iconst (v := 0) dX9_countOn_2 (by decide) ?_
  refine v_istore_3 dX9_countOn_3 ?_
  exact key 0 (by lia) (by lia) 0 rfl
theorem dX9_countIn_0 : decode cX9_countIn 0 = .ok (.iconst 0, 1) := by decide +kernel
theorem dX9_countIn_1 : decode cX9_countIn 1 = .ok (.istore_n 2, 1) := by decide +kernel
theorem dX9_countIn_2 : decode cX9_countIn 2 = .ok (.iconst 0, 1) := by decide +kernel
theorem dX9_countIn_3 : decode cX9_countIn 3 = .ok (.istore_n 3, 1) := by decide +kernel
theorem dX9_countIn_4 : decode cX9_countIn 4 = .ok (.iload_n 3, 1) := by decide +kernel
theorem dX9_countIn_5 : decode cX9_countIn 5 = .ok (.aload_n 0, 1) := by decide +kernel
theorem dX9_countIn_6 : decode cX9_countIn 6 = .ok (.getfield 46, 3) := by decide +kernel
theorem dX9_countIn_9 : decode cX9_countIn 9 = .ok (.if_icmp .ge 25, 3) := by decide +kernel
theorem dX9_countIn_12 : decode cX9_countIn 12 = .ok (.aload_n 0, 1) := by decide +kernel
theorem dX9_countIn_13 : decode cX9_countIn 13 = .ok (.getfield 23, 3) := by decide +kernel
theorem dX9_countIn_16 : decode cX9_countIn 16 = .ok (.iload_n 3, 1) := by decide +kernel
theorem dX9_countIn_17 : decode cX9_countIn 17 = .ok (.aaload, 1) := by decide +kernel
theorem dX9_countIn_18 : decode cX9_countIn 18 = .ok (.iload_n 1, 1) := by decide +kernel
theorem dX9_countIn_19 : decode cX9_countIn 19 = .ok (.invokevirtual 101, 3) := by decide +kernel
theorem dX9_countIn_22 : decode cX9_countIn 22 = .ok (.ifCond .eq 6, 3) := by decide +kernel
theorem dX9_countIn_25 : decode cX9_countIn 25 = .ok (.iinc 2 1, 3) := by decide +kernel
theorem dX9_countIn_28 : decode cX9_countIn 28 = .ok (.iinc 3 1, 3) := by decide +kernel
theorem dX9_countIn_31 : decode cX9_countIn 31 = .ok (.goto (-27), 3) := by decide +kernel
theorem dX9_countIn_34 : decode cX9_countIn 34 = .ok (.iload_n 2, 1) := by decide +kernel
theorem dX9_countIn_35 : decode cX9_countIn 35 = .ok (.ireturn, 1) := by decide +kernel
set_option maxRecDepth 100000 in
theorem c_countIn {l : Launch} {g : Nat → Nat} {M : LH} (htr : l.stackTraces = false) {kd : Nat → Nat} {r a : Nat} {ad : Nat → Nat} {sl le : Int32 → Nat} {fg tp : Int32} {F : Nat → Int32 → Int32} {σ : Int32 → Int32} (hC : StR kd r M a ad sl le fg tp F σ) {k : Int32} (hk0 : 0 ≤ k) (hk1 : k < 10) : K_X9_countIn l g 2 0 0 [.ref a, .int k] M (RI (fun v M9 => v = cntU σ k (σ 7) ∧ M9 = M) nX) := by
  refine Ko_X9_countIn htr (fun X => ?_)
  obtain ⟨hSt, hRo, hSa, hLs, hSl, hLe, -, -, ⟨-, hRd, hSd, hLt⟩, hG⟩ := hC
  obtain ⟨hg1, hg2, hg3, hg4, hg5, hg6, hg7, hg8, hgL, hgS, hgR, hgI, hgN, hg0⟩ := hG
  have key : ∀ i, 0 ≤ i → i ≤ σ 7 → ∀ s : Int32, s = sumU (fun i => if lt σ i 6 = k then 1 else 0) i → V l g yX9_countIn cX9_countIn ((some .int)) [] 2 0 0 (RI (fun v M9 => v = cntU σ k (σ 7) ∧ M9 = M) nX) X M 0 0 4 [some (.ref a), some (.int k), some (.int s), some (.int i)] [] := by
    refine up_ind _ (fun i h0 h1 ih s hs => ?_)
    refine v_iload_n dX9_countIn_4 rfl rfl ?_
    refine v_aload_n dX9_countIn_5 rfl rfl ?_
    refine gf_X9_46 dX9_countIn_6 rfl (by assumption) ?_
    refine v_icmp_ge (tgt := 34) dX9_countIn_9 (by decide) (fun h9 => ?_) (fun h9 => ?_)
    · have hi : i = σ 7 := by lia
      refine v_iload_n dX9_countIn_34 rfl rfl ?_
      exact v_iret dX9_countIn_35 rfl ⟨by rw [hs, hi]; rfl, rfl⟩ (by omega) (by omega)
    · have hi : i < σ 7 := by lia
      obtain ⟨q0, q1, q2, q3, q4, q5, q6, q7⟩ := hLt i h0 hi
      obtain ⟨z1, z2, z3, z4, z5, z6, z7, z8, z9, z10, z11, z12, z13, z14⟩ := hgL i h0 hi
      refine v_aload_n dX9_countIn_12 rfl rfl ?_
      refine gf_X9_23 dX9_countIn_13 rfl (by assumption) ?_
      refine v_iload_n dX9_countIn_16 rfl rfl ?_
      refine v_aald1 dX9_countIn_17 (by assumption) (by lia) (by lia) rfl ?_
      refine v_iload_n dX9_countIn_18 rfl rfl ?_
      refine k_X9_101 dX9_countIn_19 rfl (c_waitsAt htr (hLe i (by lia) (by lia)) k) (hLe i (by lia) (by lia)) (Nat.le_of_ble_eq_true rfl) (by omega) (by omega) (Nat.le_of_ble_eq_true rfl) (fun r19 M9 h9 => ?_) (fun _ _ h9 => h9.elim)
      obtain ⟨rfl, rfl⟩ := h9
      refine v_if_eq (tgt := 28) dX9_countIn_22 (by decide) (fun h22 => ?_) (fun h22 => ?_)
      · refine v_iinc_3 dX9_countIn_28 rfl ?_
        refine v_goto (tgt := 4) dX9_countIn_31 (by decide) ?_
        exact ih hi _ (by rw [sumU_1 h0 hi]; grind)
      · refine v_iinc_2 dX9_countIn_25 rfl ?_
        refine v_iinc_3 dX9_countIn_28 rfl ?_
        refine v_goto (tgt := 4) dX9_countIn_31 (by decide) ?_
        exact ih hi _ (by rw [sumU_1 h0 hi]; grind)
  refine v_iconst (v := 0) dX9_countIn_0 (by decide) ?_
  refine v_istore_2 dX9_countIn_1 ?_
  refine v_iconst (v := 0) dX9_countIn_2 (by decide) ?_
  refine v_istore_3 dX9_countIn_3 ?_
  exact key 0 (by lia) (by lia) 0 rfl
theorem dX9_countThawed_0 : decode cX9_countThawed 0 = .ok (.iconst 0, 1) := by decide +kernel
theorem dX9_countThawed_1 : decode cX9_countThawed 1 = .ok (.istore_n 1, 1) := by decide +kernel
theorem dX9_countThawed_2 : decode cX9_countThawed 2 = .ok (.iconst 0, 1) := by decide +kernel
theorem dX9_countThawed_3 : decode cX9_countThawed 3 = .ok (.istore_n 2, 1) := by decide +kernel
theorem dX9_countThawed_4 : decode cX9_countThawed 4 = .ok (.iload_n 2, 1) := by decide +kernel
theorem dX9_countThawed_5 : decode cX9_countThawed 5 = .ok (.aload_n 0, 1) := by decide +kernel
theorem dX9_countThawed_6 : decode cX9_countThawed 6 = .ok (.getfield 46, 3) := by decide +kernel
theorem dX9_countThawed_9 : decode cX9_countThawed 9 = .ok (.if_icmp .ge 24, 3) := by decide +kernel
theorem dX9_countThawed_12 : decode cX9_countThawed 12 = .ok (.aload_n 0, 1) := by decide +kernel
theorem dX9_countThawed_13 : decode cX9_countThawed 13 = .ok (.getfield 23, 3) := by decide +kernel
theorem dX9_countThawed_16 : decode cX9_countThawed 16 = .ok (.iload_n 2, 1) := by decide +kernel
theorem dX9_countThawed_17 : decode cX9_countThawed 17 = .ok (.aaload, 1) := by decide +kernel
theorem dX9_countThawed_18 : decode cX9_countThawed 18 = .ok (.invokevirtual 105, 3) := by decide +kernel
theorem dX9_countThawed_21 : decode cX9_countThawed 21 = .ok (.ifCond .eq 6, 3) := by decide +kernel
theorem dX9_countThawed_24 : decode cX9_countThawed 24 = .ok (.iinc 1 1, 3) := by decide +kernel
theorem dX9_countThawed_27 : decode cX9_countThawed 27 = .ok (.iinc 2 1, 3) := by decide +kernel
theorem dX9_countThawed_30 : decode cX9_countThawed 30 = .ok (.goto (-26), 3) := by decide +kernel
theorem dX9_countThawed_33 : decode cX9_countThawed 33 = .ok (.iload_n 1, 1) := by decide +kernel
theorem dX9_countThawed_34 : decode cX9_countThawed 34 = .ok (.ireturn, 1) := by decide +kernel
set_option maxRecDepth 100000 in
theorem c_countThawed {l : Launch} {g : Nat → Nat} {M : LH} (htr : l.stackTraces = false) {kd : Nat → Nat} {r a : Nat} {ad : Nat → Nat} {sl le : Int32 → Nat} {fg tp : Int32} {F : Nat → Int32 → Int32} {σ : Int32 → Int32} (hC : StR kd r M a ad sl le fg tp F σ)  : K_X9_countThawed l g 1 0 0 [.ref a] M (RI (fun v M9 => v = thawN σ ∧ M9 = M) nX) := by
  refine Ko_X9_countThawed htr (fun X => ?_)
  obtain ⟨hSt, hRo, hSa, hLs, hSl, hLe, -, -, ⟨-, hRd, hSd, hLt⟩, hG⟩ := hC
  obtain ⟨hg1, hg2, hg3, hg4, hg5, hg6, hg7, hg8, hgL, hgS, hgR, hgI, hgN, hg0⟩ := hG
  have key : ∀ i, 0 ≤ i → i ≤ σ 7 → ∀ s : Int32, s = sumU (fun i => if lt σ i 5 = 0 then 1 else 0) i → V l g yX9_countThawed cX9_countThawed ((some .int)) [] 1 0 0 (RI (fun v M9 => v = thawN σ ∧ M9 = M) nX) X M 0 0 4 [some (.ref a), some (.int s), some (.int i)] [] := by
    refine up_ind _ (fun i h0 h1 ih s hs => ?_)
    refine v_iload_n dX9_countThawed_4 rfl rfl ?_
    refine v_aload_n dX9_countThawed_5 rfl rfl ?_
    refine gf_X9_46 dX9_countThawed_6 rfl (by assumption) ?_
    refine v_icmp_ge (tgt := 33) dX9_countThawed_9 (by decide) (fun h9 => ?_) (fun h9 => ?_)
    · have hi : i = σ 7 := by lia
      refine v_iload_n dX9_countThawed_33 rfl rfl ?_
      exact v_iret dX9_countThawed_34 rfl ⟨by rw [hs, hi]; rfl, rfl⟩ (by omega) (by omega)
    · have hi : i < σ 7 := by lia
      obtain ⟨q0, q1, q2, q3, q4, q5, q6, q7⟩ := hLt i h0 hi
      obtain ⟨z1, z2, z3, z4, z5, z6, z7, z8, z9, z10, z11, z12, z13, z14⟩ := hgL i h0 hi
      refine v_aload_n dX9_countThawed_12 rfl rfl ?_
      refine gf_X9_23 dX9_countThawed_13 rfl (by assumption) ?_
      refine v_iload_n dX9_countThawed_16 rfl rfl ?_
      refine v_aald1 dX9_countThawed_17 (by assumption) (by lia) (by lia) rfl ?_
      refine k_X9_105 dX9_countThawed_18 rfl (c_thawed htr (hLe i (by lia) (by lia))) (hLe i (by lia) (by lia)) (Nat.le_of_ble_eq_true rfl) (by omega) (by omega) (Nat.le_of_ble_eq_true rfl) (fun r18 M9 h9 => ?_) (fun _ _ h9 => h9.elim)
      obtain ⟨rfl, rfl⟩ := h9
      refine v_if_eq (tgt := 27) dX9_countThawed_21 (by decide) (fun h21 => ?_) (fun h21 => ?_)
      · refine v_iinc_2 dX9_countThawed_27 rfl ?_
        refine v_goto (tgt := 4) dX9_countThawed_30 (by decide) ?_
        exact ih hi _ (by rw [sumU_1 h0 hi]; grind)
      · refine v_iinc_1 dX9_countThawed_24 rfl ?_
        refine v_iinc_2 dX9_countThawed_27 rfl ?_
        refine v_goto (tgt := 4) dX9_countThawed_30 (by decide) ?_
        exact ih hi _ (by rw [sumU_1 h0 hi]; grind)
  refine v_iconst (v := 0) dX9_countThawed_0 (by decide) ?_
  refine v_istore_1 dX9_countThawed_1 ?_
  refine v_iconst (v := 0) dX9_countThawed_2 (by decide) ?_
  refine v_istore_2 dX9_countThawed_3 ?_
  exact key 0 (by lia) (by lia) 0 rfl
theorem dX9_iceOfAll_0 : decode cX9_iceOfAll 0 = .ok (.iconst 0, 1) := by decide +kernel
theorem dX9_iceOfAll_1 : decode cX9_iceOfAll 1 = .ok (.istore_n 1, 1) := by decide +kernel
theorem dX9_iceOfAll_2 : decode cX9_iceOfAll 2 = .ok (.iconst 0, 1) := by decide +kernel
theorem dX9_iceOfAll_3 : decode cX9_iceOfAll 3 = .ok (.istore_n 2, 1) := by decide +kernel
theorem dX9_iceOfAll_4 : decode cX9_iceOfAll 4 = .ok (.iload_n 2, 1) := by decide +kernel
theorem dX9_iceOfAll_5 : decode cX9_iceOfAll 5 = .ok (.aload_n 0, 1) := by decide +kernel
theorem dX9_iceOfAll_6 : decode cX9_iceOfAll 6 = .ok (.getfield 46, 3) := by decide +kernel
theorem dX9_iceOfAll_9 : decode cX9_iceOfAll 9 = .ok (.if_icmp .ge 21, 3) := by decide +kernel
theorem dX9_iceOfAll_12 : decode cX9_iceOfAll 12 = .ok (.iload_n 1, 1) := by decide +kernel
theorem dX9_iceOfAll_13 : decode cX9_iceOfAll 13 = .ok (.aload_n 0, 1) := by decide +kernel
theorem dX9_iceOfAll_14 : decode cX9_iceOfAll 14 = .ok (.getfield 23, 3) := by decide +kernel
theorem dX9_iceOfAll_17 : decode cX9_iceOfAll 17 = .ok (.iload_n 2, 1) := by decide +kernel
theorem dX9_iceOfAll_18 : decode cX9_iceOfAll 18 = .ok (.aaload, 1) := by decide +kernel
theorem dX9_iceOfAll_19 : decode cX9_iceOfAll 19 = .ok (.getfield 109, 3) := by decide +kernel
theorem dX9_iceOfAll_22 : decode cX9_iceOfAll 22 = .ok (.iadd, 1) := by decide +kernel
theorem dX9_iceOfAll_23 : decode cX9_iceOfAll 23 = .ok (.istore_n 1, 1) := by decide +kernel
theorem dX9_iceOfAll_24 : decode cX9_iceOfAll 24 = .ok (.iinc 2 1, 3) := by decide +kernel
theorem dX9_iceOfAll_27 : decode cX9_iceOfAll 27 = .ok (.goto (-23), 3) := by decide +kernel
theorem dX9_iceOfAll_30 : decode cX9_iceOfAll 30 = .ok (.iload_n 1, 1) := by decide +kernel
theorem dX9_iceOfAll_31 : decode cX9_iceOfAll 31 = .ok (.ireturn, 1) := by decide +kernel
set_option maxRecDepth 100000 in
theorem c_iceOfAll {l : Launch} {g : Nat → Nat} {M : LH} (htr : l.stackTraces = false) {kd : Nat → Nat} {r a : Nat} {ad : Nat → Nat} {sl le : Int32 → Nat} {fg tp : Int32} {F : Nat → Int32 → Int32} {σ : Int32 → Int32} (hC : StR kd r M a ad sl le fg tp F σ)  : K_X9_iceOfAll l g 0 0 0 [.ref a] M (RI (fun v M9 => v = iceN σ ∧ M9 = M) nX) := by
  refine Ko_X9_iceOfAll htr (fun X => ?_)
  obtain ⟨hSt, hRo, hSa, hLs, hSl, hLe, -, -, ⟨-, hRd, hSd, hLt⟩, hG⟩ := hC
  obtain ⟨hg1, hg2, hg3, hg4, hg5, hg6, hg7, hg8, hgL, hgS, hgR, hgI, hgN, hg0⟩ := hG
  have key : ∀ i, 0 ≤ i → i ≤ σ 7 → ∀ s : Int32, s = sumU (fun i => lt σ i 5) i → V l g yX9_iceOfAll cX9_iceOfAll ((some .int)) [] 0 0 0 (RI (fun v M9 => v = iceN σ ∧ M9 = M) nX) X M 0 0 4 [some (.ref a), some (.int s), some (.int i)] [] := by
    refine up_ind _ (fun i h0 h1 ih s hs => ?_)
    refine v_iload_n dX9_iceOfAll_4 rfl rfl ?_
    refine v_aload_n dX9_iceOfAll_5 rfl rfl ?_
    refine gf_X9_46 dX9_iceOfAll_6 rfl (by assumption) ?_
    refine v_icmp_ge (tgt := 30) dX9_iceOfAll_9 (by decide) (fun h9 => ?_) (fun h9 => ?_)
    · have hi : i = σ 7 := by lia
      refine v_iload_n dX9_iceOfAll_30 rfl rfl ?_
      exact v_iret dX9_iceOfAll_31 rfl ⟨by rw [hs, hi]; rfl, rfl⟩ (by omega) (by omega)
    · have hi : i < σ 7 := by lia
      obtain ⟨q0, q1, q2, q3, q4, q5, q6, q7⟩ := hLt i h0 hi
      obtain ⟨z1, z2, z3, z4, z5, z6, z7, z8, z9, z10, z11, z12, z13, z14⟩ := hgL i h0 hi
      refine v_iload_n dX9_iceOfAll_12 rfl rfl ?_
      refine v_aload_n dX9_iceOfAll_13 rfl rfl ?_
      refine gf_X9_23 dX9_iceOfAll_14 rfl (by assumption) ?_
      refine v_iload_n dX9_iceOfAll_17 rfl rfl ?_
      refine v_aald1 dX9_iceOfAll_18 (by assumption) (by lia) (by lia) rfl ?_
      refine gf_X9_109 dX9_iceOfAll_19 rfl (hLe _ (by lia) (by lia)) ?_
      refine v_iadd dX9_iceOfAll_22 ?_
      refine v_istore_1 dX9_iceOfAll_23 ?_
      refine v_iinc_2 dX9_iceOfAll_24 rfl ?_
      refine v_goto (tgt := 4) dX9_iceOfAll_27 (by decide) ?_
      exact ih hi _ (by rw [sumU_1 h0 hi]; grind)
  refine v_iconst (v := 0) dX9_iceOfAll_0 (by decide) ?_
  refine v_istore_1 dX9_iceOfAll_1 ?_
  refine v_iconst (v := 0) dX9_iceOfAll_2 (by decide) ?_
  refine v_istore_2 dX9_iceOfAll_3 ?_
  exact key 0 (by lia) (by lia) 0 rfl
