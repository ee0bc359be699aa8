/-! ===== rows: new rows and objects; calls of constructors, of the class above, of private methods above ===== -/
theorem selP {C : String} {y x0 : MethodName} {s : State} {args : Array Value} {n : Nat} (hy : y.cls ≠ "java/lang/invoke/MethodHandle" ∧ y.cls ≠ "java/lang/invoke/VarHandle") (hins : (Cond.instantiable C n).before args s = true) (hpriv : (Cond.privateMethod y).before args s = true) (hinst : (Cond.instanceMethod y).before args s = true) (hsel0 : (Cond.selects C x0 x0).before args s = true) (hx0 : x0.cls = y.cls) : (Cond.selects C y y).before args s = true := by
  obtain ⟨c, k, hc, hk, -, -, -, -⟩ := Cond.instantiable_spec hins
  obtain ⟨mk, methM, hnamed, hmethM, -, -⟩ := Cond.instanceMethod_spec hinst
  have hfound : s.methodFound? y.cls y.name y.desc = some mk := State.methodFound?_of_named hnamed hy
  obtain ⟨c2, r2, m2, q1, q2, q3, q4, kP, hkP, hkPi⟩ := Cond.selects_spec hsel0
  have hcls : m2.cls = mk.cls := by
    have e1 := findClass_of_methodNamed q3
    have e2 := findClass_of_methodNamed hnamed
    rw [hx0] at e1
    exact Option.some.inj (e1.symm.trans e2)
  rw [hcls] at hkP
  have hsel : selectMethod {} s.vm c mk = .method mk := selectMethod_private hmethM (Cond.privateMethod_at hpriv mk methM hnamed hmethM)
  simp only [Cond.before, Cond.holds, Cond.value, hc, hfound, hnamed, hsel, hkP]
  simp
  exact hkPi
section VN
variable {l : Launch} {g : Nat → Nat} {y : MethodName} {cc : ByteArray} {rt : Option FieldType} {tb : List ExceptionTableEntry} {L mc ms : Nat} {Po : Res → LH → Prop} {X : CX} {M : LH} {k n pc : Nat} {ls : List (Option Value)} {rest : List Value}
/-- a new row of ints or bytes -/
theorem v_newa {atype : ArrayType} {ty : FieldType} {x : Int32} (hd : decode cc pc = .ok (.newarray atype, 2)) (harr : Cond.arrayClass (newarray.typeOf atype) ∈ Ut) (hty : newarray.typeOf atype = ty) (hz : defaultValue ty = .int 0) (hcb : componentBytes ty ≤ 4) (h0 : 0 ≤ x) (h1 : x ≤ 100000) (hk : k + 1 ≤ mc) (hn : n + x.toNatClampNeg ≤ ms)
    (kk : ∀ q : Nat, M q = none → V l g y cc rt tb L mc ms Po X (hup M q (.inl (ty, x, fun _ => 0))) (k + 1) (n + x.toNatClampNeg) (pc + 2) ls (.ref q :: rest)) : V l g y cc rt tb L mc ms Po X M k n pc ls (.int x :: rest) := by
  obtain ⟨p, e, s, m, args, below, meth, c, A⟩ := X
  intro ok H locs la hW hS hl
  obtain ⟨D, ws, tys, hP, hK, hD, hL⟩ := hW
  have hts := ok.2.2.2.2.1
  have hx : x.toNatClampNeg ≤ 100000 := by
    have a := i_le.mp h1
    have b : (100000 : Int32).toInt = 100000 := rfl
    rw [b] at a
    show x.toInt.toNat ≤ 100000
    omega
  refine va_newa ok.1 ok.2.1 (hts _ harr) hty hK hP hD hS ok.2.2.2.2.2.1 (a0 := (x.toNatClampNeg, .inl (fun _ => 0))) (N' := x.toNatClampNeg) (fun cA => by rw [hz]; rfl) (Int32.not_lt.mpr h0) rfl (Nat.le_trans (Nat.mul_le_mul hx hcb) (by decide)) hk hn hd (fun q cA H1 hK1 hP1 hD1 hS1 => ?_)
  have hq : M q = none := by
    cases h : M q with
    | none => rfl
    | some e9 =>
      obtain ⟨k9, ve, hk9, -⟩ := hL q e9 h
      have hlt := (List.getElem?_eq_some_iff.mp hk9).1
      have := hD1.1 k9 ws.length (q, ve) (q, .inl (cA, (x.toNatClampNeg, .inl (fun _ => 0)))) (by rw [List.getElem?_append_left hlt]; exact hk9) (by simp) rfl
      omega
  exact kk q hq ok H1 locs la ⟨D, _, _, hP1, hK1, hD1, Lk_push hL ⟨cA, tys.length, fun _ => 0, rfl, by simp, h0, fun _ _ => rfl⟩⟩ hS1 hl
/-- a new row of references -/
theorem v_newq {own C : String} {index : Nat} {x : Int32} (hd : decode cc pc = .ok (.anewarray index, 3)) (ho : y.cls = own) (hw : Cond.classLink own index C ∈ Ut) (hC : C ∈ aoL) (h0 : 0 ≤ x) (h1 : x ≤ 100000) (hk : k + 1 ≤ mc) (hn : n + x.toNatClampNeg ≤ ms)
    (kk : ∀ q : Nat, M q = none → V l g y cc rt tb L mc ms Po X (hup M q (ra C x (fun _ => none))) (k + 1) (n + x.toNatClampNeg) (pc + 3) ls (.ref q :: rest)) : V l g y cc rt tb L mc ms Po X M k n pc ls (.int x :: rest) := by
  obtain ⟨p, e, s, m, args, below, meth, c, A⟩ := X
  intro ok H locs la hW hS hl
  obtain ⟨D, ws, tys, hP, hK, hD, hL⟩ := hW
  subst ho
  have hts := ok.2.2.2.2.1
  have hwn := ok.2.2.2.2.2.2.2.2.2.2.2.2
  have hx : x.toNatClampNeg ≤ 100000 := by
    have a := i_le.mp h1
    have b : (100000 : Int32).toInt = 100000 := rfl
    rw [b] at a
    show x.toInt.toNat ≤ 100000
    omega
  refine va_newq ok.1 ok.2.1 ok.2.2.2.1 (hts _ hw) (hwn.2.2.2 C hC) hK hP hD hS ok.2.2.2.2.2.1 (N' := x.toNatClampNeg) (Int32.not_lt.mpr h0) rfl (by omega) hk hn hd (fun q cA H1 hK1 hP1 hD1 hS1 => ?_)
  have hq : M q = none := by
    cases h : M q with
    | none => rfl
    | some e9 =>
      obtain ⟨k9, ve, hk9, -⟩ := hL q e9 h
      have hlt := (List.getElem?_eq_some_iff.mp hk9).1
      have := hD1.1 k9 ws.length (q, ve) (q, .inl (cA, x.toNatClampNeg, .inr (.inr (.inr (.inr (fun _ => none)))))) (by rw [List.getElem?_append_left hlt]; exact hk9) (by simp) rfl
      omega
  exact kk q hq ok H1 locs la ⟨D, _, _, hP1, hK1, hD1, Lk_push hL ⟨cA, tys.length, fun _ => none, rfl, by simp, h0, fun _ _ => rfl⟩⟩ hS1 hl
/-- a new object, its fields as they are born -/
theorem v_new {own C : String} {T : u_T} {N ci index : Nat} {fs : List Value} (hd : decode cc pc = .ok (.new index, 3)) (ho : y.cls = own) (hc : vcl[ci]? = some (C, T, N)) (hin : ∀ w ∈ u_ws C T N, w ∈ Ut) (ty : Nat → FieldType) (hty : ∀ k, k < N → parseFieldDescriptor (T k).2.2.1 = some (ty k)) (hcl : Cond.classLink own index C ∈ Ut) (hinst : Cond.instantiable C N ∈ Ut) (hini : Cond.initialized C ∈ Ut) (hfs : ∀ j, j < N → defaultValue (ty j) = vp_V fs j) (hk : k + 1 ≤ mc) (hn : n + N ≤ ms)
    (kk : ∀ q : Nat, M q = none → V l g y cc rt tb L mc ms Po X (hup M q (ob ci fs)) (k + 1) (n + N) (pc + 3) ls (.ref q :: rest)) : V l g y cc rt tb L mc ms Po X M k n pc ls rest := by
  obtain ⟨p, e, s, m, args, below, meth, c, A⟩ := X
  intro ok H locs la hW hS hl
  obtain ⟨D, ws, tys, hP, hK, hD, hL⟩ := hW
  subst ho
  have hts := ok.2.2.2.2.1
  refine va_new ok.1 ok.2.1 hts hin ty hty ok.2.2.2.1 (hts _ hcl) (hts _ hinst) (hts _ hini) hK hP hD hS ok.2.2.2.2.2.1 hc hfs hk hn hd (fun q H1 hP1 hD1 hS1 => ?_)
  have hq : M q = none := by
    cases h : M q with
    | none => rfl
    | some e9 =>
      obtain ⟨k9, ve, hk9, -⟩ := hL q e9 h
      have hlt := (List.getElem?_eq_some_iff.mp hk9).1
      have := hD1.1 k9 ws.length (q, ve) (q, .inr (ci, fs)) (by rw [List.getElem?_append_left hlt]; exact hk9) (by simp) rfl
      omega
  have hpush := Lk_push (tys' := []) hL (show Rp (tys ++ []) (ob ci fs) (.inr (ci, fs)) from rfl) (a := q)
  rw [List.append_nil] at hpush
  exact kk q hq ok H1 locs la ⟨D, _, tys, hP1, hK, hD1, hpush⟩ hS1 hl
/-- a constructor -/
theorem v_callI {y2 : MethodName} {cc2 : ByteArray} {nL2 L2 mc2 ms2 index : Nat} {own : String} {a : Nat} {As : List Value} {Po2 : Res → LH → Prop}
    (hd : decode cc pc = .ok (.invokespecial index, 3)) (hM : Ct l g y2 (.code y2 cc2 nL2 none) L2 mc2 ms2 (.ref a :: As) M Po2) (ho : y.cls = own)
    (w1 : Cond.methodLink own index y2 ∈ Ut) (w2 : Cond.instanceMethod y2 ∈ Ut) (w4 : Cond.initialized y2.cls ∈ Ut) (w5 : Cond.code y2 cc2 nL2 none ∈ Ut) (w6 : cOk y2 As.length) (w7 : y2.name = "<init>")
    (hL : L2 + 1 ≤ L) (hnL : nL2 ≤ 21) (hk : k + mc2 ≤ mc) (hn : n + ms2 ≤ ms) (hrs : (rest.map fun v => v.category).sum ≤ 8)
    (kk : ∀ (r : Option Value) (M' : LH), Po2 (.inl r) M' → V l g y cc rt tb L mc ms Po X M' (k + mc2) (n + ms2) (pc + 3) ls (r.toList ++ rest))
    (kx : ∀ (E : String) (M' : LH), Po2 (.inr E) M' → VX l g y cc rt tb L mc ms Po X M' (k + mc2) (n + ms2) pc ls rest E) : V l g y cc rt tb L mc ms Po X M k n pc ls (As.reverse ++ .ref a :: rest) := by
  obtain ⟨p, e, s, m, args, below, meth, c, A⟩ := X
  intro ok H locs la hW hS hl
  subst ho
  have hts := ok.2.2.2.2.1
  have cb := callB_of (R := rmL L mc ms) (mc := mc2) (ms := ms2) As.length hts (Ut_in w5) (rfl : Cond.code y2 cc2 nL2 none :: Ut = Cond.code y2 cc2 nL2 none :: Ut) (rm := rmL L2 mc2 ms2) rfl rfl (hts _ w4) (hts _ w1) w6 (v_room hL hnL)
  refine v_ran (y2 := y2) (cw := .code y2 cc2 nL2 none) (L2 := L2) (vx_runI ⟨ok.1, ok.2.1, ok.2.2.1, ok.2.2.2.1, hts⟩ (hM A) ⟨cb, w7, hts _ w2⟩ ⟨Pw_blind, v_pre ok hW hS⟩ rfl rfl hl.1 rfl (lv_room hrs) hd ⟨hk, hn⟩) ok hS hl kk kx
/-- a private constructor of a nest mate -/
theorem v_callIN {y2 : MethodName} {cc2 : ByteArray} {nL2 L2 mc2 ms2 index : Nat} {own host : String} {a : Nat} {As : List Value} {Po2 : Res → LH → Prop}
    (hd : decode cc pc = .ok (.invokespecial index, 3)) (hM : Ct l g y2 (.code y2 cc2 nL2 none) L2 mc2 ms2 (.ref a :: As) M Po2) (ho : y.cls = own)
    (w1 : Cond.methodLinkNest own index y2 host ∈ lw_tbl) (w2 : Cond.instanceMethod y2 ∈ Ut) (w4 : Cond.initialized y2.cls ∈ Ut) (w5 : Cond.code y2 cc2 nL2 none ∈ Ut) (w6 : cOk y2 As.length) (w7 : y2.name = "<init>")
    (hL : L2 + 1 ≤ L) (hnL : nL2 ≤ 21) (hk : k + mc2 ≤ mc) (hn : n + ms2 ≤ ms) (hrs : (rest.map fun v => v.category).sum ≤ 8)
    (kk : ∀ (r : Option Value) (M' : LH), Po2 (.inl r) M' → V l g y cc rt tb L mc ms Po X M' (k + mc2) (n + ms2) (pc + 3) ls (r.toList ++ rest))
    (kx : ∀ (E : String) (M' : LH), Po2 (.inr E) M' → VX l g y cc rt tb L mc ms Po X M' (k + mc2) (n + ms2) pc ls rest E) : V l g y cc rt tb L mc ms Po X M k n pc ls (As.reverse ++ .ref a :: rest) := by
  obtain ⟨p, e, s, m, args, below, meth, c, A⟩ := X
  intro ok H locs la hW hS hl
  subst ho
  have hts := ok.2.2.2.2.1
  have hwn := ok.2.2.2.2.2.2.2.2.2.2.2.2
  have cb := va_cnB (R := rmL L mc ms) (mc := mc2) (ms := ms2) As.length hts (Ut_in w5) (rfl : Cond.code y2 cc2 nL2 none :: Ut = Cond.code y2 cc2 nL2 none :: Ut) (rm := rmL L2 mc2 ms2) rfl rfl (hwn.1 _ (List.mem_filter.mpr ⟨w1, rfl⟩)) (hts _ w4) w6 (v_room hL hnL)
  refine v_ran (y2 := y2) (cw := .code y2 cc2 nL2 none) (L2 := L2) (vx_runIN ⟨ok.1, ok.2.1, ok.2.2.1, ok.2.2.2.1, hts⟩ (hM A) ⟨cb, w7, hts _ w2⟩ ⟨Pw_blind, v_pre ok hW hS⟩ rfl rfl hl.1 rfl (lv_room hrs) hd ⟨hk, hn⟩) ok hS hl kk kx
/-- super.m(..) -/
theorem v_callSU {y2 : MethodName} {cc2 : ByteArray} {rt2 : Option FieldType} {nL2 L2 mc2 ms2 index ci N : Nat} {own C : String} {T : u_T} {a : Nat} {As fs : List Value} {Po2 : Res → LH → Prop}
    (hd : decode cc pc = .ok (.invokespecial index, 3)) (hM : Ct l g y2 (.code y2 cc2 nL2 rt2) L2 mc2 ms2 (.ref a :: As) M Po2) (ho : y.cls = own)
    (w1 : Cond.methodLink own index y2 ∈ Ut) (w0 : Cond.sameMethod y2.cls y2.cls y2.name y2.desc ∈ Ut) (w3 : Cond.superclass own y2.cls ∈ Ut) (w2 : Cond.instanceMethod y2 ∈ Ut) (w4 : Cond.initialized y2.cls ∈ Ut) (w5 : Cond.code y2 cc2 nL2 rt2 ∈ Ut) (w6 : y2.name ≠ "<init>" ∧ (parseMethodDescriptor y2.desc).map (fun d => d.parameters.length) = some As.length)
    (hrc : M a = some (ob ci fs)) (hc : vcl[ci]? = some (C, T, N)) (hL : L2 + 1 ≤ L) (hnL : nL2 ≤ 21) (hk : k + mc2 ≤ mc) (hn : n + ms2 ≤ ms) (hrs : (rest.map fun v => v.category).sum ≤ 8)
    (kk : ∀ (r : Option Value) (M' : LH), Po2 (.inl r) M' → V l g y cc rt tb L mc ms Po X M' (k + mc2) (n + ms2) (pc + 3) ls (r.toList ++ rest))
    (kx : ∀ (E : String) (M' : LH), Po2 (.inr E) M' → VX l g y cc rt tb L mc ms Po X M' (k + mc2) (n + ms2) pc ls rest E) : V l g y cc rt tb L mc ms Po X M k n pc ls (As.reverse ++ .ref a :: rest) := by
  obtain ⟨p, e, s, m, args, below, meth, c, A⟩ := X
  intro ok H locs la hW hS hl
  subst ho
  have hts := ok.2.2.2.2.1
  have hat : ∃ cC : ClassId, ClassAt s C cC := by
    obtain ⟨D, ws, tys, -, hK, -, -⟩ := hW
    exact ⟨_, (hK.1 ci _ hc).2⟩
  obtain ⟨cC, hat⟩ := hat
  have cb : va_CS (rmL L mc ms) s args y.cls index y2 cc2 nL2 rt2 (Cond.code y2 cc2 nL2 rt2 :: Ut) (rmL L2 mc2 ms2) mc2 ms2 As.length := va_cwSU As.length hts (fun w hw => by
    unfold va_wsSU at hw
    rcases List.mem_append.mp hw with h | h
    · simp only [List.mem_cons, List.not_mem_nil, or_false] at h
      rcases h with rfl | rfl | rfl | rfl | rfl
      · exact Ut_good w1
      · exact Ut_good w0
      · exact Ut_good w3
      · exact Ut_good w2
      · exact Ut_good w4
    · exact Ut_in w5 w h) (rfl : Cond.code y2 cc2 nL2 rt2 :: Ut = Cond.code y2 cc2 nL2 rt2 :: Ut) rfl rfl w6 (v_room hL hnL)
  refine v_ran (y2 := y2) (cw := .code y2 cc2 nL2 rt2) (L2 := L2) (vx_runSU hat ⟨ok.1, ok.2.1, ok.2.2.1, ok.2.2.2.1, hts⟩ (hM A) cb ⟨Pw_blind, v_rcv hW hrc hc, v_pre ok hW hS⟩ rfl rfl hl.1 rfl (lv_room hrs) hd ⟨hk, hn⟩) ok hS hl kk kx
/-- a method of the class above, selected by an object of class C -/
theorem v_callRC {y2 : MethodName} {cc2 : ByteArray} {rt2 : Option FieldType} {nL2 L2 mc2 ms2 index : Nat} {own C : String} {a : Nat} {As : List Value} {Po2 : Res → LH → Prop}
    (hd : decode cc pc = .ok (.invokevirtual index, 3)) (hM : Ct l g y2 (.code y2 cc2 nL2 rt2) L2 mc2 ms2 (.ref a :: As) M Po2) (ho : y.cls = own)
    (w1 : Cond.methodLink own index y2 ∈ Ut) (w2 : Cond.instanceMethod y2 ∈ Ut) (w3 : ∀ (args : Array Value) (s : State), (∀ w ∈ Ut, w.before args s = true) → (Cond.selects C y2 y2).before args s = true) (w4 : Cond.initialized y2.cls ∈ Ut) (w5 : Cond.code y2 cc2 nL2 rt2 ∈ Ut) (w6 : cOk y2 As.length)
    (hrc : Rcv g M C a) (hL : L2 + 1 ≤ L) (hnL : nL2 ≤ 21) (hk : k + mc2 ≤ mc) (hn : n + ms2 ≤ ms) (hrs : (rest.map fun v => v.category).sum ≤ 8)
    (kk : ∀ (r : Option Value) (M' : LH), Po2 (.inl r) M' → V l g y cc rt tb L mc ms Po X M' (k + mc2) (n + ms2) (pc + 3) ls (r.toList ++ rest))
    (kx : ∀ (E : String) (M' : LH), Po2 (.inr E) M' → VX l g y cc rt tb L mc ms Po X M' (k + mc2) (n + ms2) pc ls rest E) : V l g y cc rt tb L mc ms Po X M k n pc ls (As.reverse ++ .ref a :: rest) := by
  obtain ⟨p, e, s, m, args, below, meth, c, A⟩ := X
  intro ok H locs la hW hS hl
  subst ho
  have hts := ok.2.2.2.2.1
  have hSt := ok.2.2.2.2.2.2.1
  have cb := callB_of (R := rmL L mc ms) (mc := mc2) (ms := ms2) As.length hts (Ut_in w5) (rfl : Cond.code y2 cc2 nL2 rt2 :: Ut = Cond.code y2 cc2 nL2 rt2 :: Ut) (rm := rmL L2 mc2 ms2) rfl rfl (hts _ w4) (hts _ w1) w6 (v_room hL hnL)
  refine v_ran (y2 := y2) (cw := .code y2 cc2 nL2 rt2) (L2 := L2) (vx_runV (C := C) ⟨ok.1, ok.2.1, ok.2.2.1, ok.2.2.2.1, hts⟩ (hM A) ⟨cb, hts _ w2, w3 args s hts⟩ ⟨Pw_blind, hrc A s H locs hW hSt hS, v_pre ok hW hS⟩ rfl rfl hl.1 rfl (lv_room hrs) hd ⟨hk, hn⟩) ok hS hl kk kx
/-- a static of a nest mate; a static that is only carried -/
theorem v_getsN {own ref C nm d host : String} {index : Nat} {v : Value} (hd : decode cc pc = .ok (.getstatic index, 3)) (ho : y.cls = own) (hw : Cond.fieldLinkNest own index C nm d host ∈ lw_tbl) (hz : ∀ (A : Nat → Prop) (U : State) (H : Heap), Stc g A U H → va_Z C nm d v A U H)
    (kk : V l g y cc rt tb L mc ms Po X M k n (pc + 3) ls (v :: rest)) : V l g y cc rt tb L mc ms Po X M k n pc ls rest := by
  obtain ⟨p, e, s, m, args, below, meth, c, A⟩ := X
  intro ok H locs la hW hS hl
  subst ho
  have hwn := ok.2.2.2.2.2.2.2.2.2.2.2.2
  exact va_getsN ok.1 ok.2.1 (hz _ _ _ ok.2.2.2.2.2.2.1) hS ok.2.2.2.1 (hwn.at hw rfl) (fun _ h => h) hd (kk ok H locs la hW hS hl)
theorem v_getsQ {own ref C nm d : String} {index : Nat} (hd : decode cc pc = .ok (.getstatic index, 3)) (ho : y.cls = own) (hw : Cond.fieldLink own index C nm d ∈ Ut) (hz : ∀ (A : Nat → Prop) (U : State) (H : Heap), Stc g A U H → vx_Zq C nm d A U H)
    (kk : ∀ o : Option Nat, V l g y cc rt tb L mc ms Po X M k n (pc + 3) ls (va_rf o :: rest)) : V l g y cc rt tb L mc ms Po X M k n pc ls rest := by
  obtain ⟨p, e, s, m, args, below, meth, c, A⟩ := X
  intro ok H locs la hW hS hl
  subst ho
  rcases (hz _ _ _ ok.2.2.2.2.2.2.1).1 with h | ⟨t, h⟩
  · exact va_gets ok.1 ok.2.1 h hS ok.2.2.2.1 (ok.2.2.2.2.1 _ hw) (fun _ h => h) hd (kk none ok H locs la hW hS hl)
  · exact va_gets ok.1 ok.2.1 h hS ok.2.2.2.1 (ok.2.2.2.2.1 _ hw) (fun _ h => h) hd (kk (some t) ok H locs la hW hS hl)
end VN
