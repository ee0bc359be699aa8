/-! ===== the law: rows of its arrays and handlers ===== -/
section VLW
variable {l : Launch} {g : Nat → Nat} {y : MethodName} {cc : ByteArray} {rt : Option FieldType} {tb : List ExceptionTableEntry} {L mc ms : Nat} {Po : Res → LH → Prop} {X : CX} {M : LH} {k n pc : Nat} {ls : List (Option Value)} {rest : List Value}
theorem v_last {a N : Nat} {f : Nat → Int64} {x : Int64} (hd : decode cc pc = .ok (.lastore, 1)) (hM : M a = some (la (N + 1) f)) (kk : V l g y cc rt tb L mc ms Po X (hup M a (la (N + 1) (vp_updL f 0 x))) (k) (n) (pc + 1) (ls) (rest)) : V l g y cc rt tb L mc ms Po X (M) (k) (n) (pc) (ls) (.long x :: .int 0 :: .ref a :: rest) := by
  obtain ⟨p, e, s, m, args, below, meth, c, A⟩ := X
  intro ok H locs la' hW hS hl
  obtain ⟨D, ws, tys, hP, hK, hD, hL⟩ := hW
  obtain ⟨q0, ve, hq, cA, j, rfl, hj⟩ := hL a _ hM
  exact va_last ok.1 ok.2.1 hK hP hD hS q0 j hq hj (i := 0) (show ¬ ((0 : Int32) < 0 ∨ N + 1 ≤ (0 : Int32).toNatClampNeg) from fun z => z.elim (by decide) (fun w => by have e : (0 : Int32).toNatClampNeg = 0 := rfl; omega)) hd (fun H1 locs1 hP1 hD1 hS1 => kk ok H1 locs1 la' ⟨D, _, tys, hP1, hK, hD1, Lk_set hL hq ⟨cA, j, rfl, hj⟩⟩ hS1 hl)
theorem v_dast {a N : Nat} {f : Nat → UInt64} {x : UInt64} (hd : decode cc pc = .ok (.dastore, 1)) (hM : M a = some (da (N + 1) f)) (kk : V l g y cc rt tb L mc ms Po X (hup M a (da (N + 1) (vf_upd f 0 x))) (k) (n) (pc + 1) (ls) (rest)) : V l g y cc rt tb L mc ms Po X (M) (k) (n) (pc) (ls) (.double x :: .int 0 :: .ref a :: rest) := by
  obtain ⟨p, e, s, m, args, below, meth, c, A⟩ := X
  intro ok H locs la' hW hS hl
  obtain ⟨D, ws, tys, hP, hK, hD, hL⟩ := hW
  obtain ⟨q0, ve, hq, cA, j, rfl, hj⟩ := hL a _ hM
  exact va_dast ok.1 ok.2.1 hK hP hD hS q0 j hq hj (i := 0) (show ¬ ((0 : Int32) < 0 ∨ N + 1 ≤ (0 : Int32).toNatClampNeg) from fun z => z.elim (by decide) (fun w => by have e : (0 : Int32).toNatClampNeg = 0 := rfl; omega)) hd (fun H1 locs1 hP1 hD1 hS1 => kk ok H1 locs1 la' ⟨D, _, tys, hP1, hK, hD1, Lk_set hL hq ⟨cA, j, rfl, hj⟩⟩ hS1 hl)
theorem v_lald {a N : Nat} {f : Nat → Int64} (hd : decode cc pc = .ok (.laload, 1)) (hM : M a = some (la (N + 1) f)) (kk : V l g y cc rt tb L mc ms Po X (M) (k) (n) (pc + 1) (ls) (.long (f 0) :: rest)) : V l g y cc rt tb L mc ms Po X (M) (k) (n) (pc) (ls) (.int 0 :: .ref a :: rest) := by
  obtain ⟨p, e, s, m, args, below, meth, c, A⟩ := X
  intro ok H locs la' hW hS hl
  obtain ⟨D, ws, tys, hP, hK, hD, hL⟩ := _root_.id hW
  obtain ⟨q0, ve, hq, cA, j, rfl, hj⟩ := hL a _ hM
  exact va_lald ok.1 ok.2.1 hK hP q0 j hq hj (i := 0) (show ¬ ((0 : Int32) < 0 ∨ N + 1 ≤ (0 : Int32).toNatClampNeg) from fun z => z.elim (by decide) (fun w => by have e : (0 : Int32).toNatClampNeg = 0 := rfl; omega)) hd (kk ok H locs la' hW hS hl)
theorem v_dald {a N : Nat} {f : Nat → UInt64} (hd : decode cc pc = .ok (.daload, 1)) (hM : M a = some (da (N + 1) f)) (kk : V l g y cc rt tb L mc ms Po X (M) (k) (n) (pc + 1) (ls) (.double (f 0) :: rest)) : V l g y cc rt tb L mc ms Po X (M) (k) (n) (pc) (ls) (.int 0 :: .ref a :: rest) := by
  obtain ⟨p, e, s, m, args, below, meth, c, A⟩ := X
  intro ok H locs la' hW hS hl
  obtain ⟨D, ws, tys, hP, hK, hD, hL⟩ := _root_.id hW
  obtain ⟨q0, ve, hq, cA, j, rfl, hj⟩ := hL a _ hM
  exact va_dald ok.1 ok.2.1 hK hP q0 j hq hj (i := 0) (show ¬ ((0 : Int32) < 0 ∨ N + 1 ≤ (0 : Int32).toNatClampNeg) from fun z => z.elim (by decide) (fun w => by have e : (0 : Int32).toNatClampNeg = 0 := rfl; omega)) hd (kk ok H locs la' hW hS hl)
/-- an exception is caught by the row x of the table; the rows ahead don't take it -/
theorem VX.catch {own name E : String} {pre suf : List ExceptionTableEntry} {x : ExceptionTableEntry} (htb : tb = pre ++ x :: suf) (ho : y.cls = own) (hpre : ∀ z ∈ pre, z.catchType ≠ 0 ∧ ∃ nm : String, Cond.classLink own z.catchType nm ∈ Ut ∧ (E, nm) ∈ ncL) (hx : covers x pc = true) (h0 : x.catchType ≠ 0) (hlink : Cond.classLink own x.catchType name ∈ Ut) (hcast : Cond.castable E name ∈ lw_tbl)
    (kk : ∀ q : Nat, V l g y cc rt tb L mc ms Po X (M) (k) (n) (x.handlerPc) (ls) ([.ref q])) : VX l g y cc rt tb L mc ms Po X M k n pc ls rest E := by
  obtain ⟨p, e, s, m, args, below, meth, c, A⟩ := X
  intro ok H locs la' q ce hW hS hl hq hv hcl
  subst ho
  have hts := ok.2.2.2.2.1
  have hwn := ok.2.2.2.2.2.2.2.2.2.2.2.2
  have htb2 : c.exceptionTable.toList = tb := ok.2.2.2.2.2.2.2.2.2.1
  exact vx_catch ok.2.2.2.1 pre x suf (htb2.trans htb) (fun z hz => by
    obtain ⟨h1, nm, h2, h3⟩ := hpre z hz
    exact Or.inr ⟨h1, nm, hts _ h2, hwn.2.1 _ h3⟩) hx h0 (hts _ hlink) (hwn.at hcast rfl) hq hv hcl (kk q ok H locs la' hW hS hl)
/-- a static method with handlers -/
theorem v_callSH {y2 : MethodName} {cc2 : ByteArray} {rt2 : Option FieldType} {hh : List (Nat × Nat × Nat × Nat)} {nL2 L2 mc2 ms2 index : Nat} {own : String} {As : List Value} {Po2 : Res → LH → Prop}
    (hd : decode cc pc = .ok (.invokestatic index, 3)) (hM : Ct l g y2 (.codeWith y2 cc2 nL2 rt2 hh) L2 mc2 ms2 As M Po2) (ho : y.cls = own)
    (w1 : Cond.methodLink own index y2 ∈ Ut) (w2 : Cond.static y2 ∈ Ut) (w4 : Cond.initialized y2.cls ∈ Ut) (w5 : Cond.codeWith y2 cc2 nL2 rt2 hh ∈ Ut) (w6 : cOk y2 As.length)
    (hL : L2 + 1 ≤ L) (hnL : nL2 ≤ 21) (hk : k + mc2 ≤ mc) (hn : n + ms2 ≤ ms) (hrs : (rest.map fun v => v.category).sum ≤ 8)
    (kk : ∀ (r : Option Value) (M' : LH), Po2 (.inl r) M' → V l g y cc rt tb L mc ms Po X (M') (k + mc2) (n + ms2) (pc + 3) (ls) (r.toList ++ rest))
    (kx : ∀ (E : String) (M' : LH), Po2 (.inr E) M' → VX l g y cc rt tb L mc ms Po X M' (k + mc2) (n + ms2) pc ls rest E) : V l g y cc rt tb L mc ms Po X (M) (k) (n) (pc) (ls) (As.reverse ++ rest) := by
  obtain ⟨p, e, s, m, args, below, meth, c, A⟩ := X
  intro ok H locs la hW hS hl
  subst ho
  have hts := ok.2.2.2.2.1
  have cb := vx_cwSW (R := rmL L mc ms) (mc := mc2) (ms := ms2) (rm := rmL L2 mc2 ms2) (own := y.cls) (index := index) (ws := Cond.codeWith y2 cc2 nL2 rt2 hh :: Ut) As.length hts (fun w hw => by
    unfold va_wsS at hw
    rcases List.mem_append.mp hw with h | h
    · simp only [List.mem_cons, List.not_mem_nil, or_false] at h
      rcases h with rfl | rfl | rfl
      · exact Ut_good w1
      · exact Ut_good w2
      · exact Ut_good w4
    · exact Ut_in w5 w h) rfl rfl rfl w6 (v_room hL hnL)
  refine v_ran (y2 := y2) (cw := .codeWith y2 cc2 nL2 rt2 hh) (L2 := L2) (vx_runSX ⟨ok.1, ok.2.1, ok.2.2.1, ok.2.2.2.1, hts⟩ (hM A) cb ⟨Pw_blind, v_pre ok hW hS⟩ rfl rfl hl.1 rfl (lv_room hrs) hd ⟨hk, hn⟩) ok hS hl kk kx
end VLW
