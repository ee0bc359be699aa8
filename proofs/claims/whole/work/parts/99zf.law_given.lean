/-! ===== what the Statement gives of the start ===== -/
/-- its parts, one behind another -/
def gvL : List Cond := flatC (Cond.and given_1 narrow_1)
theorem gv_at {args : Array Value} {s : State} (h : (Cond.and given_1 narrow_1).before args s = true) (i : Nat) {c : Cond} (hc : gvL[i]? = some c) : c.before args s = true := flat_of_before _ h c (List.mem_of_getElem? hc)
def gci (i : Nat) : Nat := [5, 281, 291, 302, 314, 327, 341, 356, 372, 389].getD i 0
def gbi (i : Nat) : Nat := [1402, 1413, 1426, 1440, 1457, 1469, 1483, 1493, 1502, 1512].getD i 0
def gvi (i : Nat) : Nat := [8, 15, 22, 28, 11, 35].getD i 0
def gsx (i : Nat) : Nat := [58, 64, 67, 70, 73, 76, 79, 82, 85, 88].getD i 0
def gtC (i : Nat) : Term := .static "SledgePost$Command" (cnm.getD i "") "LSledgePost$Command;"
def gtV (i : Nat) : Term := .static "SledgePost$Verdict" (vnm.getD i "") "LSledgePost$Verdict;"
def gtS (i : Nat) : Term := .string "SledgePost$Command" (gsx i)
def gtB (i : Nat) : Term := .field (gtS i) "java/lang/String" "value" "[B"
theorem gvC : ∀ i, i < 10 → gvL[gci i]? = some (.exactly (gtC i) "SledgePost$Command") ∧ gvL[gci i + 1]? = some (.eq (.field (gtC i) "java/lang/Enum" "ordinal" "I") (.int (nI i))) ∧ gvL[gci i + 2]? = some (.eq (.field (gtC i) "SledgePost$Command" "form" "Ljava/lang/String;") (gtS i)) ∧ gvL[258 + i]? = some (.eq (.elem (Term.static "SledgePost" "COMMANDS" "[LSledgePost$Command;") (.int (Int32.ofNat i))) (gtC i)) ∧ gvL[271 + i]? = some (.eq (.elem (Term.static "SledgePost$1" "$SwitchMap$SledgePost$Command" "[I") (.int (Int32.ofNat i))) (.int (if i = 9 then 0 else nI (i + 1)))) := by decide +kernel
theorem gvS : ∀ i, i < 10 → gvL[gbi i]? = some (.exactly (gtS i) "java/lang/String") ∧ gvL[gbi i + 1]? = some (.eq (.field (gtS i) "java/lang/String" "coder" "B") (.int 0)) ∧ gvL[gbi i + 2]? = some (.arrayOf (gtB i) .byte) ∧ gvL[gbi i + 3]? = some (.eq (.length (gtB i)) (.int (Int32.ofNat (fms.getD i []).length))) ∧ ∀ j, j < (fms.getD i []).length → gvL[gbi i + 4 + j]? = some (.eq (.elem (gtB i) (.int (Int32.ofNat j))) (.int ((fms.getD i []).getD j 0))) := by decide +kernel
theorem gvD : ∀ j, j < 100 → gvL[50 + j]? = some (.eq (.elem (Term.static "java/lang/Integer" "DigitOnes" "[B") (.int (Int32.ofNat j))) (.int (nI (48 + j % 10)))) ∧ gvL[153 + j]? = some (.eq (.elem (Term.static "java/lang/Integer" "DigitTens" "[B") (.int (Int32.ofNat j))) (.int (nI (48 + j / 10)))) := by decide +kernel
theorem gv1 : gvL[4]? = some (.eq (.static "java/lang/String" "COMPACT_STRINGS" "Z") (.int 1)) ∧ gvL[20]? = some (.isRef (.static "java/lang/Throwable" "UNASSIGNED_STACK" "[Ljava/lang/StackTraceElement;")) ∧ gvL[21]? = some (.isRef (.static "java/lang/Throwable" "SUPPRESSED_SENTINEL" "Ljava/util/List;")) ∧ gvL[43]? = some (.isRef (.static "jdk/internal/util/Preconditions" "SIOOBE_FORMATTER" "Ljava/util/function/BiFunction;")) ∧
  gvL[48]? = some (.arrayOf (Term.static "java/lang/Integer" "DigitOnes" "[B") .byte) ∧ gvL[49]? = some (.eq (.length (Term.static "java/lang/Integer" "DigitOnes" "[B")) (.int (Int32.ofNat 100))) ∧ gvL[151]? = some (.arrayOf (Term.static "java/lang/Integer" "DigitTens" "[B") .byte) ∧ gvL[152]? = some (.eq (.length (Term.static "java/lang/Integer" "DigitTens" "[B")) (.int (Int32.ofNat 100))) ∧
  gvL[255]? = some (.arrayOf (Term.static "SledgePost" "COMMANDS" "[LSledgePost$Command;") (.object "SledgePost$Command")) ∧ gvL[256]? = some (.eq (.length (Term.static "SledgePost" "COMMANDS" "[LSledgePost$Command;")) (.int (Int32.ofNat 10))) ∧ gvL[269]? = some (.arrayOf (Term.static "SledgePost$1" "$SwitchMap$SledgePost$Command" "[I") .int) ∧ gvL[270]? = some (.eq (.length (Term.static "SledgePost$1" "$SwitchMap$SledgePost$Command" "[I")) (.int (Int32.ofNat 10))) := by decide +kernel
theorem gvV : ∀ i, i < 6 → gvL[gvi i]? = some (.exactly (gtV i) "SledgePost$Verdict") := by decide +kernel
theorem gvNe : ∀ i, i < 6 → ∀ j, j < 6 → i ≠ j → Cond.not (.eq (gtV i) (gtV j)) ∈ gvL ∨ Cond.not (.eq (gtV j) (gtV i)) ∈ gvL := by decide +kernel
theorem nc_in : ∀ q ∈ ncL, Cond.not (.castable q.1 q.2) ∈ gvL := by decide +kernel
theorem str_in : ∀ q ∈ strL, Cond.stringRef q.1 q.2.1 q.2.2 ∈ lw_tbl := by
  have h : ∀ q ∈ strL, Cond.stringRef q.1 q.2.1 q.2.2 ∈ tables_1 := by decide +kernel
  exact fun q hq => List.mem_append_right _ (h q hq)
theorem ao_in : ∀ C ∈ aoL, Cond.arrayOver (.object C) ∈ lw_tbl := by
  have h : ∀ C ∈ aoL, Cond.arrayOver (.object C) ∈ tables_1 := by decide +kernel
  exact fun q hq => List.mem_append_right _ (h q hq)
theorem lsV : ∀ i, i < 6 → Cond.laysStatic "SledgePost$Verdict" (vnm.getD i "") "LSledgePost$Verdict;" ∈ lw_tbl := by
  intro i hi
  match i, hi with
  | 0, _ => exact mt_3 115 rfl
  | 1, _ => exact mt_3 122 rfl
  | 2, _ => exact mt_3 196 rfl
  | 3, _ => exact mt_3 214 rfl
  | 4, _ => exact mt_3 117 rfl
  | 5, _ => exact mt_4 9 rfl
  | i + 6, h => exact absurd h (by omega)
theorem sk_ex {P : Nat → Nat → Prop} {n : Nat} (h : ∀ i, i < n → ∃ a, P i a) : ∃ f : Nat → Nat, ∀ i, i < n → P i (f i) := by
  have h2 : ∀ i : Nat, ∃ a : Nat, i < n → P i a := fun i => by
    by_cases hi : i < n
    · obtain ⟨a, ha⟩ := h i hi
      exact ⟨a, fun _ => ha⟩
    · exact ⟨0, fun z => absurd z hi⟩
  exact Classical.axiomOfChoice h2
theorem g_ex (v c f b : Nat → Nat) (t0 t1 t2 t3 : Nat) : ∃ g : Nat → Nat, (∀ i, i < 6 → g i = v i) ∧ (∀ i, i < 10 → g (10 + i) = c i) ∧ (∀ i, i < 10 → g (20 + i) = f i) ∧ (∀ i, i < 10 → g (30 + i) = b i) ∧ g 40 = t0 ∧ g 41 = t1 ∧ g 42 = t2 ∧ g 43 = t3 := by
  refine ⟨fun k => if k < 10 then v k else if k < 20 then c (k - 10) else if k < 30 then f (k - 20) else if k < 40 then b (k - 30) else if k = 40 then t0 else if k = 41 then t1 else if k = 42 then t2 else t3, fun i hi => ?_, fun i hi => ?_, fun i hi => ?_, fun i hi => ?_, rfl, rfl, rfl, rfl⟩
  · dsimp only
    rw [if_pos (by omega)]
  · dsimp only
    rw [if_neg (by omega), if_pos (by omega), Nat.add_sub_cancel_left]
  · dsimp only
    rw [if_neg (by omega), if_neg (by omega), if_pos (by omega), Nat.add_sub_cancel_left]
  · dsimp only
    rw [if_neg (by omega), if_neg (by omega), if_neg (by omega), if_pos (by omega), Nat.add_sub_cancel_left]
theorem va_T.cg {ty : FieldType} {t N : Nat} {f f2 : Nat → Value} {A : Nat → Prop} {U : State} {H : Heap} (h : va_T ty t N f A U H) (e : ∀ j, j < N → f j = f2 j) : va_T ty t N f2 A U H := by
  obtain ⟨cell, h1, h2, h3, h4, h5, h6, h7⟩ := h
  exact ⟨cell, h1, h2, h3, h4, h5, fun j hj => by rw [← e j hj]; exact h6 j hj, h7⟩
section ST
variable {args : Array Value} {s : State} {A : Nat → Prop}
theorem Stc_0 (hg : (Cond.and given_1 narrow_1).before args s = true) (hts : ∀ w ∈ lw_tbl, w.before args s = true) (hA : ∀ a : Nat, a < s.heap.size → ¬ A a) : ∃ g : Nat → Nat, Stc g A s s.heap := by
  obtain ⟨gV, hVE, hVt⟩ := va_Enof2 (args := args) (s := s) (E := "SledgePost$Verdict") (d := "LSledgePost$Verdict;") (nm := vnm) (F := []) (A := A) (fun i hi => hts _ (lsV i hi)) (hts _ (mt_1 17 rfl)) (fun i hi => gv_at hg _ (gvV i hi)) (fun q hq => nomatch hq) (fun i j hi hj hij => (gvNe i hi j hj hij).imp (fun z => flat_of_before _ hg _ z) (fun z => flat_of_before _ hg _ z)) hA
  obtain ⟨gC, hC⟩ := sk_ex (P := fun i a => (gtC i).eval args s none [] s = some (.ref a)) (n := 10) (fun i hi => by
    obtain ⟨a, c, cell, k, q1, -⟩ := Cond.exactly_spec (gv_at hg _ (gvC i hi).1)
    exact ⟨a, q1⟩)
  obtain ⟨gS, hS⟩ := sk_ex (P := fun i a => (gtS i).eval args s none [] s = some (.ref a)) (n := 10) (fun i hi => by
    obtain ⟨a, c, cell, k, q1, -⟩ := Cond.exactly_spec (gv_at hg _ (gvS i hi).1)
    exact ⟨a, q1⟩)
  obtain ⟨gB, hB⟩ := sk_ex (P := fun i t => (gtB i).eval args s none [] s = some (.ref t) ∧ va_T .byte t (fms.getD i []).length (fun j => .int ((fms.getD i []).getD j 0)) A s s.heap) (n := 10) (fun i hi => va_Tof (by
    have h : ∀ i, i < 10 → (fms.getD i []).length < 2 ^ 31 := by decide
    exact h i hi) (gv_at hg _ (gvS i hi).2.2.1) (va_eqt (gv_at hg _ (gvS i hi).2.2.2.1)) (fun j hj => va_eqt (gv_at hg _ ((gvS i hi).2.2.2.2 j hj))) hA)
  obtain ⟨k4, k20, k21, k43, k48, k49, k151, k152, k255, k256, k269, k270⟩ := gv1
  obtain ⟨tc, hc1, hc2⟩ := va_Tof (tm := (Term.static "SledgePost" "COMMANDS" "[LSledgePost$Command;")) (ty := .object "SledgePost$Command") (N := 10) (f := fun j => .ref (gC j)) (A := A) (by decide) (gv_at hg _ k255) (va_eqt (gv_at hg _ k256)) (fun j hj => va_eqv (gv_at hg _ (gvC j hj).2.2.2.1) (hC j hj)) hA
  obtain ⟨tw, hw1, hw2⟩ := va_Tof (tm := (Term.static "SledgePost$1" "$SwitchMap$SledgePost$Command" "[I")) (ty := .int) (N := 10) (f := fun j => .int (if j = 9 then 0 else nI (j + 1))) (A := A) (by decide) (gv_at hg _ k269) (va_eqt (gv_at hg _ k270)) (fun j hj => va_eqt (gv_at hg _ (gvC j hj).2.2.2.2)) hA
  obtain ⟨t1, h11, h12⟩ := va_Tof (tm := (Term.static "java/lang/Integer" "DigitOnes" "[B")) (ty := .byte) (N := 100) (f := fun j => .int (nI (48 + j % 10))) (A := A) (by decide) (gv_at hg _ k48) (va_eqt (gv_at hg _ k49)) (fun j hj => va_eqt (gv_at hg _ (gvD j hj).1)) hA
  obtain ⟨t2, h21, h22⟩ := va_Tof (tm := (Term.static "java/lang/Integer" "DigitTens" "[B")) (ty := .byte) (N := 100) (f := fun j => .int (nI (48 + j / 10))) (A := A) (by decide) (gv_at hg _ k151) (va_eqt (gv_at hg _ k152)) (fun j hj => va_eqt (gv_at hg _ (gvD j hj).2)) hA
  obtain ⟨g, eV, eC, eS, eB, e40, e41, e42, e43⟩ := g_ex gV gC gS gB tc tw t1 t2
  have e10 : g 10 = gC 0 := eC 0 (by decide)
  refine ⟨g, fun f hf => ?_, fun i j hi hj e => ?_⟩
  · rcases List.mem_append.mp hf with h | h
    · simp only [stO, List.mem_cons, List.not_mem_nil, or_false] at h
      rcases h with rfl | rfl | rfl | rfl | rfl | rfl | rfl | rfl | rfl | rfl | rfl | rfl | rfl
      · exact vx_Zqof (hts _ (mt_3 150 rfl)) (hts _ (mt_1 18 rfl)) (gv_at hg _ k20) hA
      · exact vx_Zqof (hts _ (mt_3 152 rfl)) (hts _ (mt_1 18 rfl)) (gv_at hg _ k21) hA
      · rw [e10]
        exact va_Zof (hts _ (mt_2 62 rfl)) (hts _ (mt_1 15 rfl)) (hC 0 (by decide)) hA
      · rw [e40]
        exact va_Zof (hts _ (mt_7 163 rfl)) (hts _ (mt_1 1 rfl)) hc1 hA
      · rw [e40]
        exact hc2.cg (fun j hj => by rw [eC j hj])
      · rw [e41]
        exact va_Zof (hts _ (mt_7 223 rfl)) (hts _ (mt_1 37 rfl)) hw1 hA
      · rw [e41]
        exact hw2
      · exact va_Zof (hts _ (mt_2 38 rfl)) (hts _ (mt_1 12 rfl)) (va_eqt (gv_at hg _ k4)) hA
      · rw [e42]
        exact va_Zof (hts _ (mt_6 221 rfl)) (hts _ (mt_1 36 rfl)) h11 hA
      · rw [e43]
        exact va_Zof (hts _ (mt_6 223 rfl)) (hts _ (mt_1 36 rfl)) h21 hA
      · rw [e42]
        exact h12
      · rw [e43]
        exact h22
      · exact vx_Zqof (hts _ (mt_6 151 rfl)) (hts _ (mt_1 33 rfl)) (gv_at hg _ k43) hA
    · rcases List.mem_append.mp h with h | h
      · obtain ⟨i, hi, h⟩ := List.mem_flatMap.mp h
        have hi := List.mem_range.mp hi
        simp only [stV, List.mem_cons, List.not_mem_nil, or_false] at h
        rw [h, eV i hi]
        exact (hVE.1 i hi).1
      · obtain ⟨i, hi, h⟩ := List.mem_flatMap.mp h
        have hi := List.mem_range.mp hi
        simp only [stC, List.mem_cons, List.not_mem_nil, or_false] at h
        rw [eC i hi, eS i hi, eB i hi] at h
        rcases h with rfl | rfl | rfl | rfl | rfl | rfl | rfl
        · exact va_Oof (gv_at hg _ (gvC i hi).1) (hC i hi) hA
        · exact vk_OFof (hC i hi) (va_eqt (gv_at hg _ (gvC i hi).2.1)) hA
        · exact vk_OFof (hC i hi) (va_eqv (gv_at hg _ (gvC i hi).2.2.1) (hS i hi)) hA
        · exact va_Oof (gv_at hg _ (gvS i hi).1) (hS i hi) hA
        · exact vk_OFof (hS i hi) (va_eqt (gv_at hg _ (gvS i hi).2.1)) hA
        · exact vk_OFof (hS i hi) (hB i hi).1 hA
        · exact (hB i hi).2
  · rw [eV i hi, eV j hj] at e
    exact hVE.2 i j hi hj e
theorem Wn_0 (hg : (Cond.and given_1 narrow_1).before args s = true) (hts : ∀ w ∈ lw_tbl, w.before args s = true) : Wn s := by
  refine ⟨fun w hw => va_Nw.of (unw_tab (List.mem_filter.mp hw).2) (hts w (List.mem_filter.mp hw).1), fun q hq => va_Nc.of (flat_of_before _ hg _ (nc_in q hq)), fun q hq => ?_, fun C hC => va_AO.of (hts _ (ao_in C hC))⟩
  have h1 := hts _ (str_in q hq)
  have hcur : ∃ cur, s.vm.findClass q.1 = some cur := by
    have h2 := h1
    simp only [Cond.before, Cond.holds, Cond.value] at h2
    cases hc : s.vm.findClass q.1 with
    | none => simp [hc] at h2
    | some cur => exact ⟨cur, rfl⟩
  obtain ⟨cur, hcur⟩ := hcur
  obtain ⟨k, cf, i, a, -, -, -, -, -, h9⟩ := Cond.stringRef_spec hcur h1
  exact ⟨a, vk_R.of h1 h9⟩
theorem Ut_0 (hts : ∀ w ∈ lw_tbl, w.before args s = true) : ∀ w ∈ Ut, w.before args s = true := by
  intro w hw
  rcases List.mem_append.mp hw with h | h
  · simp only [xtra, List.mem_cons, List.not_mem_nil, or_false] at h
    rcases h with rfl | rfl
    · exact selP (C := "java/lang/StringBuilder") (y := ⟨"java/lang/AbstractStringBuilder", "ensureCapacityInternal", "(I)V"⟩) (x0 := ⟨"java/lang/AbstractStringBuilder", "isLatin1", "()Z"⟩) ⟨by decide +kernel, by decide +kernel⟩ (hts _ (mt_2 29 rfl)) (hts _ (mt_6 105 rfl)) (hts _ (mt_6 106 rfl)) (hts _ (mt_6 136 rfl)) rfl
    · exact selP (C := "java/lang/StringBuilder") (y := ⟨"java/lang/AbstractStringBuilder", "newCapacity", "(I)I"⟩) (x0 := ⟨"java/lang/AbstractStringBuilder", "isLatin1", "()Z"⟩) ⟨by decide +kernel, by decide +kernel⟩ (hts _ (mt_2 29 rfl)) (hts _ (mt_6 109 rfl)) (hts _ (mt_6 110 rfl)) (hts _ (mt_6 136 rfl)) rfl
  · exact hts w (List.mem_filter.mp h).1
end ST
