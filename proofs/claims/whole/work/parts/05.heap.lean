section VH
variable {l : Launch} {g : Nat → Nat} {y : MethodName} {cc : ByteArray} {rt : Option FieldType} {tb : List ExceptionTableEntry} {L mc ms : Nat} {Po : Res → LH → Prop} {X : CX} {M : LH} {k n pc : Nat} {ls : List (Option Value)} {rest : List Value}
theorem tc_lt {i N : Int32} (h0 : 0 ≤ i) (h1 : i < N) : i.toNatClampNeg < N.toNatClampNeg := by
  have a0 : (0 : Int) ≤ i.toInt := by simpa using Int32.le_iff_toInt_le.mp h0
  have a1 := Int32.lt_iff_toInt_lt.mp h1
  show i.toInt.toNat < N.toInt.toNat
  omega
theorem tc_in {i N : Int32} (h0 : 0 ≤ i) (h1 : i < N) : vp_in i N.toNatClampNeg := by
  rintro (h | h)
  · exact absurd h (Int32.not_lt.mpr h0)
  · have := tc_lt h0 h1
    omega
theorem tc_nI {i : Int32} (h0 : 0 ≤ i) : nI i.toNatClampNeg = i := by
  have a0 : (0 : Int) ≤ i.toInt := by simpa using Int32.le_iff_toInt_le.mp h0
  have a1 : i.toInt < 2 ^ 31 := Int32.toInt_lt i
  have h2 : i.toNatClampNeg < 2 ^ 31 := by
    show i.toInt.toNat < 2 ^ 31
    omega
  apply Int32.toInt_inj.mp
  rw [nI_toInt h2]
  show ((i.toInt.toNat : Nat) : Int) = i.toInt
  omega
theorem tc_bd (N : Int32) : N.toNatClampNeg < 2 ^ 31 := by
  have a1 : N.toInt < 2 ^ 31 := Int32.toInt_lt N
  show N.toInt.toNat < 2 ^ 31
  omega
/-- a function of ints, changed at one place -/
def ui {α : Type} (F : Int32 → α) (i : Int32) (x : α) : Int32 → α := fun j => if j = i then x else F j
theorem ui_s {α : Type} {F : Int32 → α} {i : Int32} {x : α} : ui F i x i = x := if_pos rfl
theorem ui_n {α : Type} {F : Int32 → α} {i j : Int32} {x : α} (h : ¬ j = i) : ui F i x j = F j := if_neg h
theorem ui_up {α : Type} {F : Int32 → α} {f f' : Nat → α} {i N : Int32} {x : α} (h0 : 0 ≤ i) (hf : ∀ j : Nat, j < N.toNatClampNeg → f j = F (nI j)) (hs : f' i.toNatClampNeg = x) (hn : ∀ j : Nat, j ≠ i.toNatClampNeg → f' j = f j) : ∀ j : Nat, j < N.toNatClampNeg → f' j = ui F i x (nI j) := by
  intro j hj
  have hb := tc_bd N
  by_cases hji : j = i.toNatClampNeg
  · subst hji
    rw [hs, tc_nI h0, ui_s]
  · rw [hn j hji, hf j hj, ui_n]
    intro h
    exact hji (by rw [← h, nI_clamp (by omega)])
theorem v_getf {a ci kk0 N index : Nat} {own ref C : String} {T : u_T} {v : Value} {fs : List Value} (hd : decode cc pc = .ok (.getfield index, 3)) (ho : y.cls = own) (hc : vcl[ci]? = some (C, T, N)) (hin : ∀ w ∈ u_ws C T N, w ∈ Ut) (hk : kk0 < N) (hw : Cond.fieldLink own index ref (T kk0).2.1 (T kk0).2.2.1 ∈ Ut) (href : ref = (T kk0).1) (hM : M a = some (ob ci fs)) (hv : fs[kk0]? = some v)
    (kk : V l g y cc rt tb L mc ms Po X M k n (pc + 3) ls (v :: rest)) : V l g y cc rt tb L mc ms Po X M k n pc ls (.ref a :: rest) := by
  obtain ⟨p, e, s, m, args, below, meth, c, A⟩ := X
  intro ok H locs la hW hS hl
  have hcopy := hW
  obtain ⟨D, ws, tys, hP, hK, hD, hL⟩ := hcopy
  obtain ⟨q0, ve, hq, hr⟩ := hL a _ hM
  obtain rfl : ve = .inr (ci, fs) := hr
  subst ho
  subst href
  exact va_get ok.1 ok.2.1 ok.2.2.2.2.1 hin ok.2.2.2.1 hK hP q0 hq hc kk0 hk (ok.2.2.2.2.1 _ hw) (fun _ h => h) hv hd (kk ok H locs la hW hS hl)
/-- .. by a nest mate's link -/
theorem v_getfN {a ci kk0 N index : Nat} {own ref C host : String} {T : u_T} {v : Value} {fs : List Value} (hd : decode cc pc = .ok (.getfield index, 3)) (ho : y.cls = own) (hc : vcl[ci]? = some (C, T, N)) (hin : ∀ w ∈ u_ws C T N, w ∈ Ut) (hk : kk0 < N) (hw : Cond.fieldLinkNest own index ref (T kk0).2.1 (T kk0).2.2.1 host ∈ Ut) (href : ref = (T kk0).1) (hM : M a = some (ob ci fs)) (hv : fs[kk0]? = some v)
    (kk : V l g y cc rt tb L mc ms Po X M k n (pc + 3) ls (v :: rest)) : V l g y cc rt tb L mc ms Po X M k n pc ls (.ref a :: rest) := by
  obtain ⟨p, e, s, m, args, below, meth, c, A⟩ := X
  intro ok H locs la hW hS hl
  have hcopy := hW
  obtain ⟨D, ws, tys, hP, hK, hD, hL⟩ := hcopy
  obtain ⟨q0, ve, hq, hr⟩ := hL a _ hM
  obtain rfl : ve = .inr (ci, fs) := hr
  subst ho
  subst href
  exact va_getN ok.1 ok.2.1 ok.2.2.2.2.1 hin ok.2.2.2.1 hK hP q0 hq hc kk0 hk (ok.2.2.2.2.1 _ hw) (fun _ h => h) hv hd (kk ok H locs la hW hS hl)
theorem v_putf {a ci kk0 N index : Nat} {own ref C : String} {T : u_T} {v : Value} {fs fs' : List Value} {ty : FieldType} {ty0 : Nat → FieldType} (hd : decode cc pc = .ok (.putfield index, 3)) (ho : y.cls = own) (hc : vcl[ci]? = some (C, T, N)) (hin : ∀ w ∈ u_ws C T N, w ∈ Ut) (hk : kk0 < N) (hw : Cond.fieldLink own index ref (T kk0).2.1 (T kk0).2.2.1 ∈ Ut) (href : ref = (T kk0).1)
    (hty : ∀ k, k < N → parseFieldDescriptor (T k).2.2.1 = some (ty0 k)) (hnm : ∀ a, a < N → ∀ b, b < N → a ≠ b → (T a).2.1 ≠ (T b).2.1) (hfin : (T kk0).2.2.2 = false) (hds : parseFieldDescriptor (T kk0).2.2.1 = some ty) (hn9 : narrow ty v = v) (hft : fits ty v = true) (hM : M a = some (ob ci fs)) (hv : kk0 < fs.length) (hfs : fs.set kk0 v = fs')
    (kk : V l g y cc rt tb L mc ms Po X (hup M a (ob ci fs')) k n (pc + 3) ls rest) : V l g y cc rt tb L mc ms Po X M k n pc ls (v :: .ref a :: rest) := by
  obtain ⟨p, e, s, m, args, below, meth, c, A⟩ := X
  intro ok H locs la hW hS hl
  obtain ⟨D, ws, tys, hP, hK, hD, hL⟩ := hW
  obtain ⟨q0, ve, hq, hr⟩ := hL a _ hM
  obtain rfl : ve = .inr (ci, fs) := hr
  subst ho
  subst href
  subst hfs
  exact va_put ok.1 ok.2.1 ok.2.2.2.2.1 hin ty0 hty hnm ok.2.2.2.1 hK hP hD hS q0 hq hc kk0 hk (ok.2.2.2.2.1 _ hw) (fun _ h => h) hfin hds hn9 hft hv hd (fun H1 locs1 hP1 hD1 hS1 => kk ok H1 locs1 la ⟨D, _, tys, hP1, hK, hD1, Lk_set hL hq rfl⟩ hS1 hl)
/-- a final field, in the constructor -/
theorem v_putF {a ci kk0 N index : Nat} {own ref C : String} {T : u_T} {v : Value} {fs fs' : List Value} {ty : FieldType} {ty0 : Nat → FieldType} (hd : decode cc pc = .ok (.putfield index, 3)) (ho : y.cls = own) (hi : y.name = "<init>") (hc : vcl[ci]? = some (C, T, N)) (hin : ∀ w ∈ u_ws C T N, w ∈ Ut) (hk : kk0 < N) (hw : Cond.fieldLink own index ref (T kk0).2.1 (T kk0).2.2.1 ∈ Ut) (href : ref = (T kk0).1) (hdc : (T kk0).1 = own)
    (hty : ∀ k, k < N → parseFieldDescriptor (T k).2.2.1 = some (ty0 k)) (hnm : ∀ a, a < N → ∀ b, b < N → a ≠ b → (T a).2.1 ≠ (T b).2.1) (hfin : (T kk0).2.2.2 = true) (hds : parseFieldDescriptor (T kk0).2.2.1 = some ty) (hn9 : narrow ty v = v) (hft : fits ty v = true) (hM : M a = some (ob ci fs)) (hv : kk0 < fs.length) (hfs : fs.set kk0 v = fs')
    (kk : V l g y cc rt tb L mc ms Po X (hup M a (ob ci fs')) k n (pc + 3) ls rest) : V l g y cc rt tb L mc ms Po X M k n pc ls (v :: .ref a :: rest) := by
  obtain ⟨p, e, s, m, args, below, meth, c, A⟩ := X
  intro ok H locs la hW hS hl
  obtain ⟨D, ws, tys, hP, hK, hD, hL⟩ := hW
  obtain ⟨q0, ve, hq, hr⟩ := hL a _ hM
  obtain rfl : ve = .inr (ci, fs) := hr
  subst ho
  subst href
  subst hfs
  exact va_putF ok.1 ok.2.1 ok.2.2.2.2.1 hin ty0 hty hnm ok.2.2.2.1 hK hP hD hS q0 hq hc kk0 hk (ok.2.2.2.2.1 _ hw) (fun _ h => h) hfin (ok.2.2.2.2.2.2.2.2.2.2.1.trans hi) hdc hds hn9 hft hv hd (fun H1 locs1 hP1 hD1 hS1 => kk ok H1 locs1 la ⟨D, _, tys, hP1, hK, hD1, Lk_set hL hq rfl⟩ hS1 hl)
theorem v_iald {a : Nat} {N i : Int32} {F : Int32 → Int32} (hd : decode cc pc = .ok (.iaload, 1)) (hM : M a = some (ia N F)) (h0 : 0 ≤ i) (h1 : i < N)
    (kk : V l g y cc rt tb L mc ms Po X M k n (pc + 1) ls (.int (F i) :: rest)) : V l g y cc rt tb L mc ms Po X M k n pc ls (.int i :: .ref a :: rest) := by
  obtain ⟨p, e, s, m, args, below, meth, c, A⟩ := X
  intro ok H locs la hW hS hl
  have hcopy := hW
  obtain ⟨D, ws, tys, hP, hK, hD, hL⟩ := hcopy
  obtain ⟨q0, ve, hq, cA, j, f, rfl, hj, hN, hf⟩ := hL a _ hM
  refine va_iald ok.1 ok.2.1 hK hP q0 j hq hj (tc_in h0 h1) hd ?_
  rw [hf _ (tc_lt h0 h1), tc_nI h0]
  exact kk ok H locs la hW hS hl
theorem v_bald {a : Nat} {N i : Int32} {F : Int32 → Int32} (hd : decode cc pc = .ok (.baload, 1)) (hM : M a = some (ba N F)) (h0 : 0 ≤ i) (h1 : i < N)
    (kk : V l g y cc rt tb L mc ms Po X M k n (pc + 1) ls (.int (F i) :: rest)) : V l g y cc rt tb L mc ms Po X M k n pc ls (.int i :: .ref a :: rest) := by
  obtain ⟨p, e, s, m, args, below, meth, c, A⟩ := X
  intro ok H locs la hW hS hl
  have hcopy := hW
  obtain ⟨D, ws, tys, hP, hK, hD, hL⟩ := hcopy
  obtain ⟨q0, ve, hq, cA, j, f, rfl, hj, hN, hf⟩ := hL a _ hM
  refine va_bald ok.1 ok.2.1 hK hP q0 j hq hj (tc_in h0 h1) hd ?_
  rw [hf _ (tc_lt h0 h1), tc_nI h0]
  exact kk ok H locs la hW hS hl
theorem v_iast {a : Nat} {N i x : Int32} {F : Int32 → Int32} (hd : decode cc pc = .ok (.iastore, 1)) (hM : M a = some (ia N F)) (h0 : 0 ≤ i) (h1 : i < N)
    (kk : V l g y cc rt tb L mc ms Po X (hup M a (ia N (ui F i x))) k n (pc + 1) ls rest) : V l g y cc rt tb L mc ms Po X M k n pc ls (.int x :: .int i :: .ref a :: rest) := by
  obtain ⟨p, e, s, m, args, below, meth, c, A⟩ := X
  intro ok H locs la hW hS hl
  obtain ⟨D, ws, tys, hP, hK, hD, hL⟩ := hW
  obtain ⟨q0, ve, hq, cA, j, f, rfl, hj, hN, hf⟩ := hL a _ hM
  exact va_iast ok.1 ok.2.1 hK hP hD hS q0 j hq hj (tc_in h0 h1) hd (fun H1 locs1 hP1 hD1 hS1 => kk ok H1 locs1 la ⟨D, _, tys, hP1, hK, hD1, Lk_set hL hq ⟨cA, j, _, rfl, hj, hN, ui_up h0 hf pk_us (fun _ h => pk_un h)⟩⟩ hS1 hl)
theorem v_bast {a : Nat} {N i x : Int32} {F : Int32 → Int32} (hd : decode cc pc = .ok (.bastore, 1)) (hM : M a = some (ba N F)) (h0 : 0 ≤ i) (h1 : i < N)
    (kk : V l g y cc rt tb L mc ms Po X (hup M a (ba N (ui F i (vp_nar .byte x)))) k n (pc + 1) ls rest) : V l g y cc rt tb L mc ms Po X M k n pc ls (.int x :: .int i :: .ref a :: rest) := by
  obtain ⟨p, e, s, m, args, below, meth, c, A⟩ := X
  intro ok H locs la hW hS hl
  obtain ⟨D, ws, tys, hP, hK, hD, hL⟩ := hW
  obtain ⟨q0, ve, hq, cA, j, f, rfl, hj, hN, hf⟩ := hL a _ hM
  exact va_bast ok.1 ok.2.1 hK hP hD hS q0 j hq hj (tc_in h0 h1) hd (fun H1 locs1 hP1 hD1 hS1 => kk ok H1 locs1 la ⟨D, _, tys, hP1, hK, hD1, Lk_set hL hq ⟨cA, j, _, rfl, hj, hN, ui_up h0 hf pk_us (fun _ h => pk_un h)⟩⟩ hS1 hl)
theorem v_aald {a : Nat} {N i : Int32} {C : String} {G : Int32 → Option Nat} {r : Option Nat} (hd : decode cc pc = .ok (.aaload, 1)) (hM : M a = some (ra C N G)) (h0 : 0 ≤ i) (h1 : i < N) (hr9 : G i = r)
    (kk : V l g y cc rt tb L mc ms Po X M k n (pc + 1) ls (va_rf r :: rest)) : V l g y cc rt tb L mc ms Po X M k n pc ls (.int i :: .ref a :: rest) := by
  obtain ⟨p, e, s, m, args, below, meth, c, A⟩ := X
  intro ok H locs la hW hS hl
  have hcopy := hW
  obtain ⟨D, ws, tys, hP, hK, hD, hL⟩ := hcopy
  obtain ⟨q0, ve, hq, cA, j, f, rfl, hj, hN, hf⟩ := hL a _ hM
  refine va_aldq ok.1 ok.2.1 hK hP q0 j hq hj (tc_in h0 h1) hd ?_
  rw [hf _ (tc_lt h0 h1), tc_nI h0, hr9]
  exact kk ok H locs la hW hS hl
theorem v_aald1 {a b : Nat} {N i : Int32} {C : String} {G : Int32 → Option Nat} (hd : decode cc pc = .ok (.aaload, 1)) (hM : M a = some (ra C N G)) (h0 : 0 ≤ i) (h1 : i < N) (hr9 : G i = some b)
    (kk : V l g y cc rt tb L mc ms Po X M k n (pc + 1) ls (.ref b :: rest)) : V l g y cc rt tb L mc ms Po X M k n pc ls (.int i :: .ref a :: rest) := v_aald hd hM h0 h1 hr9 kk
theorem v_aast {a b ci : Nat} {N i : Int32} {C : String} {T : u_T} {N9 : Nat} {fs : List Value} {G : Int32 → Option Nat} (hd : decode cc pc = .ok (.aastore, 1)) (hM : M a = some (ra C N G)) (h0 : 0 ≤ i) (h1 : i < N) (hb9 : M b = some (ob ci fs)) (hc : vcl[ci]? = some (C, T, N9))
    (kk : V l g y cc rt tb L mc ms Po X (hup M a (ra C N (ui G i (some b)))) k n (pc + 1) ls rest) : V l g y cc rt tb L mc ms Po X M k n pc ls (.ref b :: .int i :: .ref a :: rest) := by
  obtain ⟨p, e, s, m, args, below, meth, c, A⟩ := X
  intro ok H locs la hW hS hl
  obtain ⟨D, ws, tys, hP, hK, hD, hL⟩ := hW
  obtain ⟨q0, ve, hq, cA, j, f, rfl, hj, hN, hf⟩ := hL a _ hM
  obtain ⟨qk, ve2, hqk, hr2⟩ := hL b _ hb9
  obtain rfl : ve2 = .inr (ci, fs) := hr2
  have us : ∀ (f : Nat → Option Nat) (i : Nat) (x : Option Nat), va_up f i x i = x := fun f i x => if_pos rfl
  have un : ∀ (f : Nat → Option Nat) (i j : Nat) (x : Option Nat), j ≠ i → va_up f i x j = f j := fun f i j x h => if_neg h
  exact va_astq ok.1 ok.2.1 hK hP hD hS q0 j qk ci hq hj hqk hc (tc_in h0 h1) hd (fun H1 locs1 hP1 hD1 hS1 => kk ok H1 locs1 la ⟨D, _, tys, hP1, hK, hD1, Lk_set hL hq ⟨cA, j, _, rfl, hj, hN, ui_up h0 hf (us _ _ _) (fun _ h => un _ _ _ _ h)⟩⟩ hS1 hl)
theorem v_ialen {a : Nat} {N : Int32} {F : Int32 → Int32} (hd : decode cc pc = .ok (.arraylength, 1)) (hM : M a = some (ia N F))
    (kk : V l g y cc rt tb L mc ms Po X M k n (pc + 1) ls (.int N :: rest)) : V l g y cc rt tb L mc ms Po X M k n pc ls (.ref a :: rest) := by
  obtain ⟨p, e, s, m, args, below, meth, c, A⟩ := X
  intro ok H locs la hW hS hl
  have hcopy := hW
  obtain ⟨D, ws, tys, hP, hK, hD, hL⟩ := hcopy
  obtain ⟨q0, ve, hq, cA, j, f, rfl, hj, hN, hf⟩ := hL a _ hM
  exact va_alen ok.1 ok.2.1 hK hP q0 j hq hj (tc_nI hN) hd (kk ok H locs la hW hS hl)
theorem v_balen {a : Nat} {N : Int32} {F : Int32 → Int32} (hd : decode cc pc = .ok (.arraylength, 1)) (hM : M a = some (ba N F))
    (kk : V l g y cc rt tb L mc ms Po X M k n (pc + 1) ls (.int N :: rest)) : V l g y cc rt tb L mc ms Po X M k n pc ls (.ref a :: rest) := by
  obtain ⟨p, e, s, m, args, below, meth, c, A⟩ := X
  intro ok H locs la hW hS hl
  have hcopy := hW
  obtain ⟨D, ws, tys, hP, hK, hD, hL⟩ := hcopy
  obtain ⟨q0, ve, hq, cA, j, f, rfl, hj, hN, hf⟩ := hL a _ hM
  exact va_alen ok.1 ok.2.1 hK hP q0 j hq hj (tc_nI hN) hd (kk ok H locs la hW hS hl)
theorem v_gets {own ref C nm d : String} {index : Nat} {v : Value} (hd : decode cc pc = .ok (.getstatic index, 3)) (ho : y.cls = own) (hw : Cond.fieldLink own index C nm d ∈ Ut) (hz : ∀ (A : Nat → Prop) (U : State) (H : Heap), Stc g A U H → va_Z C nm d v A U H)
    (kk : V l g y cc rt tb L mc ms Po X M k n (pc + 3) ls (v :: rest)) : V l g y cc rt tb L mc ms Po X M k n pc ls rest := by
  obtain ⟨p, e, s, m, args, below, meth, c, A⟩ := X
  intro ok H locs la hW hS hl
  subst ho
  exact va_gets ok.1 ok.2.1 (hz _ _ _ ok.2.2.2.2.2.2.1) hS ok.2.2.2.1 (ok.2.2.2.2.1 _ hw) (fun _ h => h) hd (kk ok H locs la hW hS hl)
end VH
