section VA
variable {l : Launch} {g : Nat → Nat} {y : MethodName} {cc : ByteArray} {rt : Option FieldType} {tb : List ExceptionTableEntry} {L mc ms : Nat} {Po : Res → LH → Prop} {X : CX} {M : LH} {k n pc : Nat} {ls : List (Option Value)} {rest : List Value}
theorem v_copyi {a b index : Nat} {own : String} {N : Int32} {F G : Int32 → Int32} (hd : decode cc pc = .ok (.invokestatic index, 3)) (ho : y.cls = own) (w1 : Cond.methodLink own index arraycopyName ∈ Ut) (w2 : Cond.native arraycopyName ∈ Ut) (w3 : Cond.static arraycopyName ∈ Ut) (w4 : Cond.initialized "java/lang/System" ∈ Ut) (hb9 : M b = some (ia N F)) (ha9 : M a = some (ia N G)) (hrs : (rest.map fun v => v.category).sum ≤ 8)
    (kk : V l g y cc rt tb L mc ms Po X (hup M a (ia N F)) (k) (n) (pc + 3) (ls) (rest)) : V l g y cc rt tb L mc ms Po X (M) (k) (n) (pc) (ls) (.int N :: .int 0 :: .ref a :: .int 0 :: .ref b :: rest) := by
  obtain ⟨p, e, s, m, args, below, meth, c, A⟩ := X
  intro ok H locs la hW hS hl
  obtain ⟨D, ws, tys, hP, hK, hD, hL⟩ := hW
  obtain ⟨q0, ve, hq, cA, j, f, rfl, hj, hN, hf⟩ := hL b _ hb9
  obtain ⟨q1, ve1, hq1, cA1, j1, f1, rfl, hj1, -, hf1⟩ := hL a _ ha9
  subst ho
  have hts := ok.2.2.2.2.1
  refine va_copyi ok.1 ok.2.1 (v_maxL ok hl) ok.2.2.2.1 (hts _ w1) (hts _ w2) (hts _ w3) (hts _ w4) hK hP hD hS q0 q1 j j1 hq hq1 hj hj1 rfl (by decide) (by decide) (Int32.not_lt.mpr hN) (by show 0 + _ ≤ _; omega) (by show 0 + _ ≤ _; omega) (fun _ _ => rfl) (by show 1 ≤ 10 + L; omega) (by show _ + (5 + 2 + 11) ≤ 120 + 40 * L; omega) hd (fun H1 locs1 hP1 hD1 hS1 => kk ok H1 locs1 la ⟨D, _, tys, hP1, hK, hD1, Lk_set hL hq1 ⟨cA1, j1, _, rfl, hj1, hN, fun i hi => ?_⟩⟩ hS1 hl)
  rw [pk_cpy_in (by show 0 ≤ i; omega) (by show i < 0 + _; omega)]
  show f (0 + (i - 0)) = _
  rw [Nat.sub_zero, Nat.zero_add]
  exact hf i hi
theorem ac_X9_33 {a b : Nat} {N : Int32} {F G : Int32 → Int32} (hd : decode cc pc = .ok (.invokestatic 33, 3)) (ho : y.cls = "SledgePost$State") (hb9 : M b = some (ia N F)) (ha9 : M a = some (ia N G)) (hrs : (rest.map fun v => v.category).sum ≤ 8) (kk : V l g y cc rt tb L mc ms Po X (hup M a (ia N F)) (k) (n) (pc + 3) (ls) (rest)) : V l g y cc rt tb L mc ms Po X (M) (k) (n) (pc) (ls) (.int N :: .int 0 :: .ref a :: .int 0 :: .ref b :: rest) := v_copyi hd ho (Ut_of (mt_3 91 rfl) rfl) (Ut_of (mt_3 93 rfl) rfl) (Ut_of (mt_3 92 rfl) rfl) (Ut_of (mt_1 26 rfl) rfl) hb9 ha9 hrs kk
end VA
theorem ne_of_cell {M : LH} {x z : Nat} {e e' : Ec} (h : M x = some e) (h' : M z = some e') (hne : e ≠ e') : ¬ x = z := fun q => by
  subst q
  exact hne (Option.some.inj (h.symm.trans h'))
theorem ob_ob {i j : Nat} {f f' : List Value} (h : i ≠ j) : ob i f ≠ ob j f' := by
  unfold ob
  simp [h]
theorem ob_ia {i : Nat} {f : List Value} {N : Int32} {F : Int32 → Int32} : ob i f ≠ ia N F := by
  unfold ob ia
  simp
theorem ob_ra {i : Nat} {f : List Value} {C : String} {N : Int32} {G : Int32 → Option Nat} : ob i f ≠ ra C N G := by
  unfold ob ra
  simp
theorem ia_ra {C : String} {N N' : Int32} {F : Int32 → Int32} {G : Int32 → Option Nat} : ia N F ≠ ra C N' G := by
  unfold ia ra
  simp
theorem ra_ra {C C' : String} {N N' : Int32} {G G' : Int32 → Option Nat} (h : C ≠ C') : ra C N G ≠ ra C' N' G' := by
  unfold ra
  simp [h]
/-- a State's cells, whatever it holds: its own fields c, its rows' and objects' F -/
def StC (kd : Nat → Nat) (r : Nat) (M : LH) (a : Nat) (ad : Nat → Nat) (sl le : Int32 → Nat) (c : Nat → Int32) (F : Nat → Int32 → Int32) : Prop :=
  M a = some (ob 8 [.int (c 0), .ref (ad 0), .int (c 2), .ref (ad 1), .int (c 4), .ref (ad 2), .int (c 6), .int (c 7), .int (c 8), .int (c 9), .int (c 10), .int (c 11), .int (c 12)]) ∧
  M (ad 0) = some (ia 49 (F 11)) ∧
  M (ad 1) = some (ra "SledgePost$Sledge" 3 (fun i => some (sl i))) ∧
  M (ad 2) = some (ra "SledgePost$Letter" 12 (fun i => some (le i))) ∧
  (∀ i, 0 ≤ i → i < 3 → M (sl i) = some (ob 7 [.int (F 8 i), .int (F 9 i), .int (F 10 i)])) ∧
  (∀ i, 0 ≤ i → i < 12 → M (le i) = some (ob 4 [.int (F 0 i), .int (F 1 i), .int (F 2 i), .int (F 3 i), .int (F 4 i), .int (F 5 i), .int (F 6 i), .int (F 7 i)])) ∧
  (kd a = r ∧ kd (ad 0) = r ∧ kd (ad 1) = r ∧ kd (ad 2) = r ∧ (∀ i, 0 ≤ i → i < 3 → kd (sl i) = r) ∧ ∀ i, 0 ≤ i → i < 12 → kd (le i) = r) ∧
  ((∀ i j, 0 ≤ i → i < 12 → 0 ≤ j → j < 12 → le i = le j → i = j) ∧ ∀ i j, 0 ≤ i → i < 3 → 0 ≤ j → j < 3 → sl i = sl j → i = j)
def cS (fg tp : Int32) (σ : Int32 → Int32) : Nat → Int32
  | 0 => σ 5 | 2 => σ 6 | 4 => σ 7 | 6 => σ 4 | 7 => σ 0 | 8 => σ 1 | 9 => σ 2 | 10 => fg | 11 => tp | 12 => σ 3 | _ => 0
/-- what the rows and objects hold, against σ -/
def Rl (fg tp : Int32) (F : Nat → Int32 → Int32) (σ : Int32 → Int32) : Prop :=
  fg - tp = σ 2 ∧ (∀ a b, 0 ≤ a → a < 7 → 0 ≤ b → b < 7 → F 11 (7 * a + b) = rd σ a b) ∧
    (∀ i, 0 ≤ i → i < σ 6 → F 8 i = sd σ i 0 ∧ F 9 i = sd σ i 1 ∧ F 10 i = sd σ i 2) ∧
    (∀ i, 0 ≤ i → i < σ 7 → F 0 i = lt σ i 0 ∧ F 1 i = lt σ i 1 ∧ F 2 i = lt σ i 2 ∧ F 3 i = lt σ i 3 ∧ F 4 i = lt σ i 4 ∧ F 5 i = lt σ i 5 ∧ F 6 i = (if lt σ i 6 < 10 then -1 else lt σ i 6 - 10) ∧ (lt σ i 6 < 10 → F 7 i = lt σ i 6))
section ST
variable {kd : Nat → Nat} {r : Nat} {M : LH} {a : Nat} {ad : Nat → Nat} {sl le : Int32 → Nat} {c : Nat → Int32} {F : Nat → Int32 → Int32} {fg tp : Int32} {σ : Int32 → Int32}
theorem StR.toC (h : StR kd r M a ad sl le fg tp F σ) : StC kd r M a ad sl le (cS fg tp σ) F := by
  obtain ⟨h1, h2, h3, h4, h5, h6, h7, h8, -, -⟩ := h
  exact ⟨h1, h2, h3, h4, h5, h6, h7, h8⟩
theorem StR.toR (h : StR kd r M a ad sl le fg tp F σ) : Rl fg tp F σ := h.2.2.2.2.2.2.2.2.1
theorem StR.toG (h : StR kd r M a ad sl le fg tp F σ) : Good σ := h.2.2.2.2.2.2.2.2.2
theorem StR.of (h : StC kd r M a ad sl le (cS fg tp σ) F) (h2 : Rl fg tp F σ) (h3 : Good σ) : StR kd r M a ad sl le fg tp F σ := by
  obtain ⟨q1, q2, q3, q4, q5, q6, q7, q8⟩ := h
  exact ⟨q1, q2, q3, q4, q5, q6, q7, q8, h2, h3⟩
/-- outside the region nothing was written -/
def Frm (kd : Nat → Nat) (r : Nat) (M M' : LH) : Prop := ∀ q, ¬ kd q = r → M' q = M q
theorem Frm.rf : Frm kd r M M := fun _ _ => rfl
theorem Frm.tr {M' M'' : LH} (h : Frm kd r M M') (h2 : Frm kd r M' M'') : Frm kd r M M'' := fun q hq => (h2 q hq).trans (h q hq)
theorem Frm.up {x : Nat} {e : Ec} (h : kd x = r) : Frm kd r M (hup M x e) := fun q hq => hup_n (fun z => hq (by rw [z]; exact h))
theorem StC.kept {M' : LH} (h : StC kd r M a ad sl le c F) {r' : Nat} (hr : ¬ r = r') (hf : Frm kd r' M M') : StC kd r M' a ad sl le c F := by
  obtain ⟨h1, h2, h3, h4, h5, h6, ⟨k1, k2, k3, k4, k5, k6⟩, h8⟩ := h
  have f : ∀ x, kd x = r → M' x = M x := fun x hx => hf x (by rw [hx]; exact hr)
  exact ⟨(f _ k1).trans h1, (f _ k2).trans h2, (f _ k3).trans h3, (f _ k4).trans h4, fun i a b => (f _ (k5 i a b)).trans (h5 i a b), fun i a b => (f _ (k6 i a b)).trans (h6 i a b), ⟨k1, k2, k3, k4, k5, k6⟩, h8⟩
theorem StR.kept {M' : LH} (h : StR kd r M a ad sl le fg tp F σ) {r' : Nat} (hr : ¬ r = r') (hf : Frm kd r' M M') : StR kd r M' a ad sl le fg tp F σ := StR.of (StC.kept (StR.toC h) hr hf) (StR.toR h) (StR.toG h)
theorem StC.obj (h : StC kd r M a ad sl le c F) (c' : Nat → Int32) : StC kd r (hup M a (ob 8 [.int (c' 0), .ref (ad 0), .int (c' 2), .ref (ad 1), .int (c' 4), .ref (ad 2), .int (c' 6), .int (c' 7), .int (c' 8), .int (c' 9), .int (c' 10), .int (c' 11), .int (c' 12)])) a ad sl le c' F := by
  obtain ⟨h1, h2, h3, h4, h5, h6, h7, h8⟩ := h
  exact ⟨hup_s, (hup_n (ne_of_cell h2 h1 ob_ia.symm)).trans h2, (hup_n (ne_of_cell h3 h1 ob_ra.symm)).trans h3, (hup_n (ne_of_cell h4 h1 ob_ra.symm)).trans h4, fun i a b => (hup_n (ne_of_cell (h5 i a b) h1 (ob_ob (by decide)))).trans (h5 i a b), fun i a b => (hup_n (ne_of_cell (h6 i a b) h1 (ob_ob (by decide)))).trans (h6 i a b), h7, h8⟩
/-- F with other values at place i of the columns from lo to hi -/
def upF (F : Nat → Int32 → Int32) (lo hi : Nat) (i : Int32) (x : Nat → Int32) : Nat → Int32 → Int32 := fun w j => if lo ≤ w ∧ w < hi ∧ j = i then x w else F w j
theorem StC.let (h : StC kd r M a ad sl le c F) {i : Int32} (h0 : 0 ≤ i) (h1 : i < 12) (x : Nat → Int32) : StC kd r (hup M (le i) (ob 4 [.int (x 0), .int (x 1), .int (x 2), .int (x 3), .int (x 4), .int (x 5), .int (x 6), .int (x 7)])) a ad sl le c (upF F 0 8 i x) := by
  obtain ⟨g1, g2, g3, g4, g5, g6, g7, g8⟩ := h
  have gi := g6 i h0 h1
  refine ⟨(hup_n (ne_of_cell g1 gi (ob_ob (by decide)))).trans g1, (hup_n (ne_of_cell g2 gi ob_ia.symm)).trans (by rw [g2]; rfl), (hup_n (ne_of_cell g3 gi ob_ra.symm)).trans g3, (hup_n (ne_of_cell g4 gi ob_ra.symm)).trans g4, fun j a b => (hup_n (ne_of_cell (g5 j a b) gi (ob_ob (by decide)))).trans (by rw [g5 j a b]; simp [upF]), fun j a b => ?_, g7, g8⟩
  by_cases hj : j = i
  · subst hj
    rw [hup_s]
    simp [upF]
  · rw [hup_n (fun z => hj (g8.1 j i a b h0 h1 z)), g6 j a b]
    simp [upF, hj]
theorem StC.sle (h : StC kd r M a ad sl le c F) {i : Int32} (h0 : 0 ≤ i) (h1 : i < 3) (x : Nat → Int32) : StC kd r (hup M (sl i) (ob 7 [.int (x 8), .int (x 9), .int (x 10)])) a ad sl le c (upF F 8 11 i x) := by
  obtain ⟨g1, g2, g3, g4, g5, g6, g7, g8⟩ := h
  have gi := g5 i h0 h1
  refine ⟨(hup_n (ne_of_cell g1 gi (ob_ob (by decide)))).trans g1, (hup_n (ne_of_cell g2 gi ob_ia.symm)).trans (by rw [g2]; rfl), (hup_n (ne_of_cell g3 gi ob_ra.symm)).trans g3, (hup_n (ne_of_cell g4 gi ob_ra.symm)).trans g4, fun j a b => ?_, fun j a b => (hup_n (ne_of_cell (g6 j a b) gi (ob_ob (by decide)))).trans (by rw [g6 j a b]; simp [upF]), g7, g8⟩
  by_cases hj : j = i
  · subst hj
    rw [hup_s]
    simp [upF]
  · rw [hup_n (fun z => hj (g8.2 j i a b h0 h1 z)), g5 j a b]
    simp [upF, hj]
/-- .. another row of roads -/
def upR (F : Nat → Int32 → Int32) (R : Int32 → Int32) : Nat → Int32 → Int32 := fun w => if w = 11 then R else F w
theorem StC.roa (h : StC kd r M a ad sl le c F) (R : Int32 → Int32) : StC kd r (hup M (ad 0) (ia 49 R)) a ad sl le c (upR F R) := by
  obtain ⟨g1, g2, g3, g4, g5, g6, g7, g8⟩ := h
  exact ⟨(hup_n (ne_of_cell g1 g2 ob_ia)).trans g1, hup_s, (hup_n (ne_of_cell g3 g2 ia_ra.symm)).trans g3, (hup_n (ne_of_cell g4 g2 ia_ra.symm)).trans g4, fun i a b => (hup_n (ne_of_cell (g5 i a b) g2 ob_ia)).trans (g5 i a b), fun i a b => (hup_n (ne_of_cell (g6 i a b) g2 ob_ia)).trans (g6 i a b), g7, g8⟩
end ST
theorem dX5_copyFrom_0 : decode cX5_copyFrom 0 = .ok (.aload_n 0, 1) := by decide +kernel
theorem dX5_copyFrom_1 : decode cX5_copyFrom 1 = .ok (.aload_n 1, 1) := by decide +kernel
theorem dX5_copyFrom_2 : decode cX5_copyFrom 2 = .ok (.getfield 9, 3) := by decide +kernel
theorem dX5_copyFrom_5 : decode cX5_copyFrom 5 = .ok (.putfield 9, 3) := by decide +kernel
theorem dX5_copyFrom_8 : decode cX5_copyFrom 8 = .ok (.aload_n 0, 1) := by decide +kernel
theorem dX5_copyFrom_9 : decode cX5_copyFrom 9 = .ok (.aload_n 1, 1) := by decide +kernel
theorem dX5_copyFrom_10 : decode cX5_copyFrom 10 = .ok (.getfield 15, 3) := by decide +kernel
theorem dX5_copyFrom_13 : decode cX5_copyFrom 13 = .ok (.putfield 15, 3) := by decide +kernel
theorem dX5_copyFrom_16 : decode cX5_copyFrom 16 = .ok (.aload_n 0, 1) := by decide +kernel
theorem dX5_copyFrom_17 : decode cX5_copyFrom 17 = .ok (.aload_n 1, 1) := by decide +kernel
theorem dX5_copyFrom_18 : decode cX5_copyFrom 18 = .ok (.getfield 18, 3) := by decide +kernel
theorem dX5_copyFrom_21 : decode cX5_copyFrom 21 = .ok (.putfield 18, 3) := by decide +kernel
theorem dX5_copyFrom_24 : decode cX5_copyFrom 24 = .ok (.aload_n 0, 1) := by decide +kernel
theorem dX5_copyFrom_25 : decode cX5_copyFrom 25 = .ok (.aload_n 1, 1) := by decide +kernel
theorem dX5_copyFrom_26 : decode cX5_copyFrom 26 = .ok (.getfield 21, 3) := by decide +kernel
theorem dX5_copyFrom_29 : decode cX5_copyFrom 29 = .ok (.putfield 21, 3) := by decide +kernel
theorem dX5_copyFrom_32 : decode cX5_copyFrom 32 = .ok (.aload_n 0, 1) := by decide +kernel
theorem dX5_copyFrom_33 : decode cX5_copyFrom 33 = .ok (.aload_n 1, 1) := by decide +kernel
theorem dX5_copyFrom_34 : decode cX5_copyFrom 34 = .ok (.getfield 24, 3) := by decide +kernel
theorem dX5_copyFrom_37 : decode cX5_copyFrom 37 = .ok (.putfield 24, 3) := by decide +kernel
theorem dX5_copyFrom_40 : decode cX5_copyFrom 40 = .ok (.aload_n 0, 1) := by decide +kernel
theorem dX5_copyFrom_41 : decode cX5_copyFrom 41 = .ok (.aload_n 1, 1) := by decide +kernel
theorem dX5_copyFrom_42 : decode cX5_copyFrom 42 = .ok (.getfield 27, 3) := by decide +kernel
theorem dX5_copyFrom_45 : decode cX5_copyFrom 45 = .ok (.putfield 27, 3) := by decide +kernel
theorem dX5_copyFrom_48 : decode cX5_copyFrom 48 = .ok (.aload_n 0, 1) := by decide +kernel
theorem dX5_copyFrom_49 : decode cX5_copyFrom 49 = .ok (.aload_n 1, 1) := by decide +kernel
theorem dX5_copyFrom_50 : decode cX5_copyFrom 50 = .ok (.getfield 30, 3) := by decide +kernel
theorem dX5_copyFrom_53 : decode cX5_copyFrom 53 = .ok (.putfield 30, 3) := by decide +kernel
theorem dX5_copyFrom_56 : decode cX5_copyFrom 56 = .ok (.aload_n 0, 1) := by decide +kernel
theorem dX5_copyFrom_57 : decode cX5_copyFrom 57 = .ok (.aload_n 1, 1) := by decide +kernel
theorem dX5_copyFrom_58 : decode cX5_copyFrom 58 = .ok (.getfield 33, 3) := by decide +kernel
theorem dX5_copyFrom_61 : decode cX5_copyFrom 61 = .ok (.putfield 33, 3) := by decide +kernel
theorem dX5_copyFrom_64 : decode cX5_copyFrom 64 = .ok (.return_, 1) := by decide +kernel
set_option maxRecDepth 100000 in
theorem c_copyL {l : Launch} {g : Nat → Nat} {M : LH} (htr : l.stackTraces = false) {a b : Nat} {f0 e0 f1 e1 f2 e2 f3 e3 f4 e4 f5 e5 f6 e6 f7 e7 : Int32} (h : M a = some (ob 4 [.int f0, .int f1, .int f2, .int f3, .int f4, .int f5, .int f6, .int f7])) (h2 : M b = some (ob 4 [.int e0, .int e1, .int e2, .int e3, .int e4, .int e5, .int e6, .int e7])) (hba : ¬ b = a) : K_X5_copyFrom l g 0 0 0 [.ref a, .ref b] M (RV (fun M9 => M9 = hup M a (ob 4 [.int e0, .int e1, .int e2, .int e3, .int e4, .int e5, .int e6, .int e7])) nX) := by
  refine Ko_X5_copyFrom htr (fun X => ?_)
  refine v_aload_n dX5_copyFrom_0 rfl rfl ?_
  refine v_aload_n dX5_copyFrom_1 rfl rfl ?_
  refine gf_X5_9 dX5_copyFrom_2 rfl h2 ?_
  refine pf_X5_9 dX5_copyFrom_5 rfl h ?_
  refine v_aload_n dX5_copyFrom_8 rfl rfl ?_
  refine v_aload_n dX5_copyFrom_9 rfl rfl ?_
  refine gf_X5_15 dX5_copyFrom_10 rfl ((hup_n hba).trans h2) ?_
  refine pf_X5_15 dX5_copyFrom_13 rfl hup_s ?_
  rw [hup_hup]
  refine v_aload_n dX5_copyFrom_16 rfl rfl ?_
  refine v_aload_n dX5_copyFrom_17 rfl rfl ?_
  refine gf_X5_18 dX5_copyFrom_18 rfl ((hup_n hba).trans h2) ?_
  refine pf_X5_18 dX5_copyFrom_21 rfl hup_s ?_
  rw [hup_hup]
  refine v_aload_n dX5_copyFrom_24 rfl rfl ?_
  refine v_aload_n dX5_copyFrom_25 rfl rfl ?_
  refine gf_X5_21 dX5_copyFrom_26 rfl ((hup_n hba).trans h2) ?_
  refine pf_X5_21 dX5_copyFrom_29 rfl hup_s ?_
  rw [hup_hup]
  refine v_aload_n dX5_copyFrom_32 rfl rfl ?_
  refine v_aload_n dX5_copyFrom_33 rfl rfl ?_
  refine gf_X5_24 dX5_copyFrom_34 rfl ((hup_n hba).trans h2) ?_
  refine pf_X5_24 dX5_copyFrom_37 rfl hup_s ?_
  rw [hup_hup]
  refine v_aload_n dX5_copyFrom_40 rfl rfl ?_
  refine v_aload_n dX5_copyFrom_41 rfl rfl ?_
  refine gf_X5_27 dX5_copyFrom_42 rfl ((hup_n hba).trans h2) ?_
  refine pf_X5_27 dX5_copyFrom_45 rfl hup_s ?_
  rw [hup_hup]
  refine v_aload_n dX5_copyFrom_48 rfl rfl ?_
  refine v_aload_n dX5_copyFrom_49 rfl rfl ?_
  refine gf_X5_30 dX5_copyFrom_50 rfl ((hup_n hba).trans h2) ?_
  refine pf_X5_30 dX5_copyFrom_53 rfl hup_s ?_
  rw [hup_hup]
  refine v_aload_n dX5_copyFrom_56 rfl rfl ?_
  refine v_aload_n dX5_copyFrom_57 rfl rfl ?_
  refine gf_X5_33 dX5_copyFrom_58 rfl ((hup_n hba).trans h2) ?_
  refine pf_X5_33 dX5_copyFrom_61 rfl hup_s ?_
  rw [hup_hup]
  exact v_vret dX5_copyFrom_64 rfl rfl (by omega) (by omega)
theorem dX8_copyFrom_0 : decode cX8_copyFrom 0 = .ok (.aload_n 0, 1) := by decide +kernel
theorem dX8_copyFrom_1 : decode cX8_copyFrom 1 = .ok (.aload_n 1, 1) := by decide +kernel
theorem dX8_copyFrom_2 : decode cX8_copyFrom 2 = .ok (.getfield 7, 3) := by decide +kernel
theorem dX8_copyFrom_5 : decode cX8_copyFrom 5 = .ok (.putfield 7, 3) := by decide +kernel
theorem dX8_copyFrom_8 : decode cX8_copyFrom 8 = .ok (.aload_n 0, 1) := by decide +kernel
theorem dX8_copyFrom_9 : decode cX8_copyFrom 9 = .ok (.aload_n 1, 1) := by decide +kernel
theorem dX8_copyFrom_10 : decode cX8_copyFrom 10 = .ok (.getfield 13, 3) := by decide +kernel
theorem dX8_copyFrom_13 : decode cX8_copyFrom 13 = .ok (.putfield 13, 3) := by decide +kernel
theorem dX8_copyFrom_16 : decode cX8_copyFrom 16 = .ok (.aload_n 0, 1) := by decide +kernel
theorem dX8_copyFrom_17 : decode cX8_copyFrom 17 = .ok (.aload_n 1, 1) := by decide +kernel
theorem dX8_copyFrom_18 : decode cX8_copyFrom 18 = .ok (.getfield 16, 3) := by decide +kernel
theorem dX8_copyFrom_21 : decode cX8_copyFrom 21 = .ok (.putfield 16, 3) := by decide +kernel
theorem dX8_copyFrom_24 : decode cX8_copyFrom 24 = .ok (.return_, 1) := by decide +kernel
set_option maxRecDepth 100000 in
theorem c_copyS {l : Launch} {g : Nat → Nat} {M : LH} (htr : l.stackTraces = false) {a b : Nat} {f0 e0 f1 e1 f2 e2 : Int32} (h : M a = some (ob 7 [.int f0, .int f1, .int f2])) (h2 : M b = some (ob 7 [.int e0, .int e1, .int e2])) (hba : ¬ b = a) : K_X8_copyFrom l g 0 0 0 [.ref a, .ref b] M (RV (fun M9 => M9 = hup M a (ob 7 [.int e0, .int e1, .int e2])) nX) := by
  refine Ko_X8_copyFrom htr (fun X => ?_)
  refine v_aload_n dX8_copyFrom_0 rfl rfl ?_
  refine v_aload_n dX8_copyFrom_1 rfl rfl ?_
  refine gf_X8_7 dX8_copyFrom_2 rfl h2 ?_
  refine pf_X8_7 dX8_copyFrom_5 rfl h ?_
  refine v_aload_n dX8_copyFrom_8 rfl rfl ?_
  refine v_aload_n dX8_copyFrom_9 rfl rfl ?_
  refine gf_X8_13 dX8_copyFrom_10 rfl ((hup_n hba).trans h2) ?_
  refine pf_X8_13 dX8_copyFrom_13 rfl hup_s ?_
  rw [hup_hup]
  refine v_aload_n dX8_copyFrom_16 rfl rfl ?_
  refine v_aload_n dX8_copyFrom_17 rfl rfl ?_
  refine gf_X8_16 dX8_copyFrom_18 rfl ((hup_n hba).trans h2) ?_
  refine pf_X8_16 dX8_copyFrom_21 rfl hup_s ?_
  rw [hup_hup]
  exact v_vret dX8_copyFrom_24 rfl rfl (by omega) (by omega)
/-- the ice after an hour at d degrees -/
def iceF (d st ic : Int32) : Int32 := if 0 < d then (if 0 < ic - d then ic - d else 0) else if d < 0 ∧ ¬ ic = 0 then (if ic + 1 < st then ic + 1 else st) else ic
theorem dX5_feel_0 : decode cX5_feel 0 = .ok (.iload_n 1, 1) := by decide +kernel
theorem dX5_feel_1 : decode cX5_feel 1 = .ok (.ifCond .le 20, 3) := by decide +kernel
theorem dX5_feel_4 : decode cX5_feel 4 = .ok (.aload_n 0, 1) := by decide +kernel
theorem dX5_feel_5 : decode cX5_feel 5 = .ok (.iconst 0, 1) := by decide +kernel
theorem dX5_feel_6 : decode cX5_feel 6 = .ok (.aload_n 0, 1) := by decide +kernel
theorem dX5_feel_7 : decode cX5_feel 7 = .ok (.getfield 27, 3) := by decide +kernel
theorem dX5_feel_10 : decode cX5_feel 10 = .ok (.iload_n 1, 1) := by decide +kernel
theorem dX5_feel_11 : decode cX5_feel 11 = .ok (.isub, 1) := by decide +kernel
theorem dX5_feel_12 : decode cX5_feel 12 = .ok (.invokestatic 40, 3) := by decide +kernel
theorem dX5_feel_15 : decode cX5_feel 15 = .ok (.putfield 27, 3) := by decide +kernel
theorem dX5_feel_18 : decode cX5_feel 18 = .ok (.goto 31, 3) := by decide +kernel
theorem dX5_feel_21 : decode cX5_feel 21 = .ok (.iload_n 1, 1) := by decide +kernel
theorem dX5_feel_22 : decode cX5_feel 22 = .ok (.ifCond .ge 27, 3) := by decide +kernel
theorem dX5_feel_25 : decode cX5_feel 25 = .ok (.aload_n 0, 1) := by decide +kernel
theorem dX5_feel_26 : decode cX5_feel 26 = .ok (.invokevirtual 46, 3) := by decide +kernel
theorem dX5_feel_29 : decode cX5_feel 29 = .ok (.ifCond .ne 20, 3) := by decide +kernel
theorem dX5_feel_32 : decode cX5_feel 32 = .ok (.aload_n 0, 1) := by decide +kernel
theorem dX5_feel_33 : decode cX5_feel 33 = .ok (.aload_n 0, 1) := by decide +kernel
theorem dX5_feel_34 : decode cX5_feel 34 = .ok (.getfield 24, 3) := by decide +kernel
theorem dX5_feel_37 : decode cX5_feel 37 = .ok (.aload_n 0, 1) := by decide +kernel
theorem dX5_feel_38 : decode cX5_feel 38 = .ok (.getfield 27, 3) := by decide +kernel
theorem dX5_feel_41 : decode cX5_feel 41 = .ok (.iconst 1, 1) := by decide +kernel
theorem dX5_feel_42 : decode cX5_feel 42 = .ok (.iadd, 1) := by decide +kernel
theorem dX5_feel_43 : decode cX5_feel 43 = .ok (.invokestatic 49, 3) := by decide +kernel
theorem dX5_feel_46 : decode cX5_feel 46 = .ok (.putfield 27, 3) := by decide +kernel
theorem dX5_feel_49 : decode cX5_feel 49 = .ok (.return_, 1) := by decide +kernel
set_option maxRecDepth 100000 in
theorem c_feel {l : Launch} {g : Nat → Nat} {M : LH} (htr : l.stackTraces = false) {a : Nat} {f0 f1 f2 f3 f4 f5 f6 f7 : Int32} (h : M a = some (ob 4 [.int f0, .int f1, .int f2, .int f3, .int f4, .int f5, .int f6, .int f7])) (d : Int32) : K_X5_feel l g 1 0 0 [.ref a, .int d] M (RV (fun M9 => M9 = hup M a (ob 4 [.int f0, .int f1, .int f2, .int f3, .int f4, .int (iceF d f4 f5), .int f6, .int f7])) nX) := by
  refine Ko_X5_feel htr (fun X => ?_)
  refine v_iload_n dX5_feel_0 rfl rfl ?_
  refine v_if_le (tgt := 21) dX5_feel_1 (by decide) (fun h1 => ?_) (fun h1 => ?_)
  · refine v_iload_n dX5_feel_21 rfl rfl ?_
    refine v_if_ge (tgt := 49) dX5_feel_22 (by decide) (fun h22 => ?_) (fun h22 => ?_)
    · exact v_vret dX5_feel_49 rfl (by first | (show hup M a _ = hup M a _; congr 3; unfold iceF; grind) | (show M = hup M a _; rw [show iceF d f4 f5 = f5 by unfold iceF; grind]; exact (hup_id h).symm)) (by omega) (by omega)
    · refine v_aload_n dX5_feel_25 rfl rfl ?_
      refine k_X5_46 dX5_feel_26 rfl (c_thawed htr h) (by assumption) (Nat.le_of_ble_eq_true rfl) (by omega) (by omega) (Nat.le_of_ble_eq_true rfl) (fun r26 M9 h9 => ?_) (fun _ _ h9 => h9.elim)
      obtain ⟨rfl, e9⟩ := h9
      subst M9
      refine v_if_ne (tgt := 49) dX5_feel_29 (by decide) (fun h29 => ?_) (fun h29 => ?_)
      · exact v_vret dX5_feel_49 rfl (by first | (show hup M a _ = hup M a _; congr 3; unfold iceF; grind) | (show M = hup M a _; rw [show iceF d f4 f5 = f5 by unfold iceF; grind]; exact (hup_id h).symm)) (by omega) (by omega)
      · refine v_aload_n dX5_feel_32 rfl rfl ?_
        refine v_aload_n dX5_feel_33 rfl rfl ?_
        refine gf_X5_24 dX5_feel_34 rfl (by assumption) ?_
        refine v_aload_n dX5_feel_37 rfl rfl ?_
        refine gf_X5_27 dX5_feel_38 rfl (by assumption) ?_
        refine v_iconst (v := 1) dX5_feel_41 (by decide) ?_
        refine v_iadd dX5_feel_42 ?_
        refine mm_X5_49 dX5_feel_43 rfl (Nat.le_of_ble_eq_true rfl) (by omega) (by omega) ?_
        refine pf_X5_27 dX5_feel_46 rfl (by assumption) ?_
        exact v_vret dX5_feel_49 rfl (by first | (show hup M a _ = hup M a _; congr 3; unfold iceF; grind) | (show M = hup M a _; rw [show iceF d f4 f5 = f5 by unfold iceF; grind]; exact (hup_id h).symm)) (by omega) (by omega)
  · refine v_aload_n dX5_feel_4 rfl rfl ?_
    refine v_iconst (v := 0) dX5_feel_5 (by decide) ?_
    refine v_aload_n dX5_feel_6 rfl rfl ?_
    refine gf_X5_27 dX5_feel_7 rfl (by assumption) ?_
    refine v_iload_n dX5_feel_10 rfl rfl ?_
    refine v_isub dX5_feel_11 ?_
    refine mm_X5_40 dX5_feel_12 rfl (Nat.le_of_ble_eq_true rfl) (by omega) (by omega) ?_
    refine pf_X5_27 dX5_feel_15 rfl (by assumption) ?_
    refine v_goto (tgt := 49) dX5_feel_18 (by decide) ?_
    exact v_vret dX5_feel_49 rfl (by first | (show hup M a _ = hup M a _; congr 3; unfold iceF; grind) | (show M = hup M a _; rw [show iceF d f4 f5 = f5 by unfold iceF; grind]; exact (hup_id h).symm)) (by omega) (by omega)
