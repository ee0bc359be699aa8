section VC
variable {l : Launch} {g : Nat → Nat} {y : MethodName} {cc : ByteArray} {rt : Option FieldType} {tb : List ExceptionTableEntry} {L mc ms : Nat} {Po : Res → LH → Prop} {X : CX} {M : LH} {k n pc : Nat} {ls : List (Option Value)} {rest : List Value}
/-- the locals at a method's entry: its arguments (of one place each), then nothing -/
def ent (nL : Nat) (av : List Value) : List (Option Value) := av.map some ++ List.replicate (nL - av.length) none
theorem lok_ent {nL : Nat} {av : List Value} (hn : av.length ≤ nL) (hc : ∀ v ∈ av, v.category = 1) : lok ((av.map Slot.val ++ List.replicate (nL - av.length) Slot.unset).toArray) (ent nL av) := by
  have hsl : ∀ (vs : List Value), (∀ v ∈ vs, v.category = 1) → lg_sl vs = vs.map Slot.val := by
    intro vs h
    induction vs with
    | nil => rfl
    | cons v t ih =>
      have h1 := h v List.mem_cons_self
      have h2 := ih (fun w hw => h w (List.mem_cons_of_mem _ hw))
      simp [lg_sl, h1] at h2 ⊢
      exact h2
  have e := lv_entry av (n := nL) (by rw [hsl av hc, List.length_map]; exact hn)
  rw [hsl av hc, List.length_map] at e
  refine ⟨by simp [ent], e.2.1, fun i v hv => ?_⟩
  have hi : i < av.length := by
    rcases Nat.lt_or_ge i av.length with h | h
    · exact h
    · unfold ent at hv
      rw [List.getElem?_append_right (by rw [List.length_map]; exact h), List.getElem?_replicate] at hv
      split at hv <;> cases hv
  unfold ent at hv
  rw [List.getElem?_append_left (by rw [List.length_map]; exact hi), List.getElem?_map] at hv
  cases hq : av[i]? with
  | none => rw [hq] at hv; cases hv
  | some w =>
    rw [hq] at hv
    cases hv
    refine ⟨?_, hc _ (List.mem_of_getElem? hq)⟩
    rw [List.getElem?_toArray, List.getElem?_append_left (by rw [List.length_map]; exact hi), List.getElem?_map, hq]
    rfl
/-- a contract out of one walk of the body -/
theorem Ct.of {nL : Nat} {av : List Value} (hy : plainName y.cls = true) (hn : av.length ≤ nL) (hc : ∀ v ∈ av, v.category = 1) (htr : l.stackTraces = false) (body : ∀ X : CX, V l g y cc rt [] L mc ms Po X M 0 0 0 (ent nL av) []) : Ct l g y (.code y cc nL rt) L mc ms av M Po := by
  intro A
  refine vx_ofW (cc := cc) (maxL := nL) (ret := rt) (ws' := Ut) hy rfl ?_
  intro p e s m args below meth c s₁ B hml hex hv
  obtain ⟨rfl, hA, hW, hS0, hWn⟩ := hv
  have hts : ∀ w ∈ (Cond.code y cc nL rt :: Ut), w.before av.toArray s = true := atoms_spec (ws := Cond.code y cc nL rt :: Ut) B.pre
  have hlen : (ent nL av).length = nL := by simp [ent]; omega
  have hok : Ok l g y cc rt [] (ent nL av).length (p, e, s, m, av.toArray, below, meth, c, A) := by
    refine ⟨B.exec, B.bytes, by rw [hlen]; exact hml, findClass_of_methodNamed B.named, fun w hw => hts w (List.mem_cons_of_mem _ hw), hA, hS0, B.notSynchronized, B.returns, ?_, (name_of_methodNamed B.named B.method).1, htr, hWn⟩
    cases hq : c.exceptionTable.toList with
    | nil => rfl
    | cons x t => exact absurd (hex x (by rw [hq]; exact List.mem_cons_self)) (fun h => h)
  have h := body (p, e, s, m, av.toArray, below, meth, c, A) hok s.heap [] _ hW va_S.rf (lok_ent hn hc)
  rw [entry_eq m av hc nL]
  exact h
/-- .. of a method with a table -/
theorem Ct.ofH {nL : Nat} {hh : List (Nat × Nat × Nat × Nat)} {av : List Value} (hy : plainName y.cls = true) (hn : av.length ≤ nL) (hc : ∀ v ∈ av, v.category = 1) (htr : l.stackTraces = false) (body : ∀ X : CX, V l g y cc rt (tableOf hh) L mc ms Po X M 0 0 0 (ent nL av) []) : Ct l g y (.codeWith y cc nL rt hh) L mc ms av M Po := by
  intro A
  refine vx_ofWH (cc := cc) (maxL := nL) (ret := rt) (ws' := Ut) hy rfl ?_
  intro p e s m args below meth c s₁ B hml hv
  obtain ⟨rfl, hA, hW, hS0, hWn⟩ := hv
  have hts : ∀ w ∈ (Cond.codeWith y cc nL rt hh :: Ut), w.before av.toArray s = true := atoms_spec (ws := Cond.codeWith y cc nL rt hh :: Ut) B.pre
  have hlen : (ent nL av).length = nL := by simp [ent]; omega
  have hok : Ok l g y cc rt (tableOf hh) (ent nL av).length (p, e, s, m, av.toArray, below, meth, c, A) :=
    ⟨B.exec, B.bytes, by rw [hlen]; exact hml, findClass_of_methodNamed B.named, fun w hw => hts w (List.mem_cons_of_mem _ hw), hA, hS0, B.notSynchronized, B.returns, vx_table (x := y) B (hts _ List.mem_cons_self), (name_of_methodNamed B.named B.method).1, htr, hWn⟩
  have h := body (p, e, s, m, av.toArray, below, meth, c, A) hok s.heap [] _ hW va_S.rf (lok_ent hn hc)
  rw [entry_eq m av hc nL]
  exact h
/-- what a row of a call leaves to show, both ways -/
theorem v_ran {y2 : MethodName} {cw : Cond} {L2 mc2 ms2 : Nat} {av st0 : List Value} {Po2 : Res → LH → Prop} {p : Program} {e : Env} {s : State} {m : MethodId} {args : Array Value} {below : List Frame} {meth : Method} {c : Code} {A : Nat → Prop} {H : Heap} {locs : List Loc} {la : Array Slot}
    (hr : vx_Run p l e (rmL L mc ms) s m args below meth c H locs k n mc2 ms2 (F0 m pc la st0) rest (Qw A Po2 av.toArray) (Xw A Po2) A)
    (hok : Ok l g y cc rt tb ls.length (p, e, s, m, args, below, meth, c, A)) (hS : va_S A s.heap H locs) (hl : lok la ls)
    (kk : ∀ (r : Option Value) (M' : LH), Po2 (.inl r) M' → V l g y cc rt tb L mc ms Po (p, e, s, m, args, below, meth, c, A) M' (k + mc2) (n + ms2) (pc + 3) ls (r.toList ++ rest))
    (kx : ∀ (E : String) (M' : LH), Po2 (.inr E) M' → VX l g y cc rt tb L mc ms Po (p, e, s, m, args, below, meth, c, A) M' (k + mc2) (n + ms2) pc ls rest E) :
    W p l e (rmL L mc ms) s m args below meth c H locs k n (vx_MQ below (Qw A Po) (Xw A Po) args s mc ms A) (F0 m pc la st0) := by
  intro T hT X
  rcases hr T hT X with ⟨v, st₀, t, T', L9, h0, X', hL, e1, e2, ⟨⟨r, M', hv, hp, hW'⟩, hF⟩, st⟩ | ⟨q, st₀, t, T', L9, E, ce, h0, X', hL, e1, e2, ⟨⟨M', hp, hW'⟩, hF⟩, hce, hcv, hcl, st⟩
  · cases hv
    obtain ⟨k1, k2, k3⟩ := vx_keep h0 e1 hS (fun _ _ h => h) (fun _ h => h) hL hF
    have hal : t.vm.Alike s.vm := by rw [← e2]; exact X'.warmed.alike.symm
    have hW9 : Wd A M' s T'.heap := by rw [e1]; exact Wd.moved hal hW'
    obtain ⟨t2, a1, b1⟩ := kk _ M' hp hok T'.heap (locs ++ L9) la hW9 k3 hl T' rfl X'
    exact ⟨t2, st t2 a1, b1⟩
  · obtain ⟨k1, k2, k3⟩ := vx_keep h0 e1 hS (fun _ _ h => h) (fun _ h => h) hL hF
    have hal : t.vm.Alike s.vm := by rw [← e2]; exact X'.warmed.alike.symm
    have hW9 : Wd A M' s T'.heap := by rw [e1]; exact Wd.moved hal hW'
    obtain ⟨t2, a1, b1⟩ := kx E M' hp hok T'.heap (locs ++ L9) la q ce hW9 k3 hl (by rw [e1]; exact hce) hcv hcl T' rfl X'
    exact ⟨t2, st.trans a1, b1⟩
theorem v_pre {av : List Value} {p : Program} {e : Env} {s : State} {m : MethodId} {args : Array Value} {below : List Frame} {meth : Method} {c : Code} {A : Nat → Prop} {H : Heap} {locs : List Loc}
    (hok : Ok l g y cc rt tb ls.length (p, e, s, m, args, below, meth, c, A)) (hW : Wd A M s H) (hS : va_S A s.heap H locs) : ∀ U : State, U.heap = H → s.WarmedH U.vm → Pw g A av M av.toArray U := by
  intro U hU hW9
  obtain ⟨-, -, -, -, -, hA, hSt, -, -, -, -, -, hWn⟩ := hok
  refine ⟨rfl, fun q hq => hA q (by rw [hU] at hq; exact Nat.le_trans hS.1 hq), by rw [hU]; exact Wd.moved hW9.alike hW, ?_, Wn.warm hW9 hWn⟩
  rw [hU]
  exact Stc.moved hW9.alike (hSt.kept hS.2.1)
/-- the receiver's class -/
theorem v_rcv {A : Nat → Prop} {s : State} {H : Heap} {a ci N : Nat} {fs : List Value} {C : String} {T : u_T} (hW : Wd A M s H) (hM : M a = some (ob ci fs)) (hc : vcl[ci]? = some (C, T, N)) : ∃ cellB : Cell, H[a]? = some cellB ∧ cellB.vm.isStatics = false ∧ s.vm.findClass C = some cellB.cls := by
  obtain ⟨D, ws, tys, hP, hK, hD, hL⟩ := hW
  obtain ⟨q0, ve, hq, hr⟩ := hL a _ hM
  obtain rfl : ve = .inr (ci, fs) := hr
  exact va_recv hK hP (ci := ci) (q0 := q0) hc hq
/-- a method's own words: how it is called -/
def cOk (y2 : MethodName) (na : Nat) : Prop := y2.cls ≠ "java/lang/invoke/MethodHandle" ∧ y2.cls ≠ "java/lang/invoke/VarHandle" ∧ (parseMethodDescriptor y2.desc).map (fun d => d.parameters.length) = some na
theorem v_room {L2 nL2 mc2 ms2 : Nat} (h : L2 + 1 ≤ L) (h2 : nL2 ≤ 21) : (rmL L2 mc2 ms2).frames + 1 ≤ (rmL L mc ms).frames ∧ 8 + (nL2 + 11) + (rmL L2 mc2 ms2).locals ≤ (rmL L mc ms).locals := by
  show 10 + L2 + 1 ≤ 10 + L ∧ 8 + (nL2 + 11) + (120 + 40 * L2) ≤ 120 + 40 * L
  omega
theorem v_callV {y2 : MethodName} {cc2 : ByteArray} {rt2 : Option FieldType} {nL2 L2 mc2 ms2 index ci N : Nat} {own : String} {a : Nat} {As fs : List Value} {T : u_T} {Po2 : Res → LH → Prop}
    (hd : decode cc pc = .ok (.invokevirtual index, 3)) (hM : Ct l g y2 (.code y2 cc2 nL2 rt2) L2 mc2 ms2 (.ref a :: As) M Po2) (ho : y.cls = own)
    (w1 : Cond.methodLink own index y2 ∈ Ut) (w2 : Cond.instanceMethod y2 ∈ Ut) (w3 : Cond.selects y2.cls y2 y2 ∈ Ut) (w4 : Cond.initialized y2.cls ∈ Ut) (w5 : Cond.code y2 cc2 nL2 rt2 ∈ Ut) (w6 : cOk y2 As.length)
    (hrc : M a = some (ob ci fs)) (hc : vcl[ci]? = some (y2.cls, T, N)) (hL : L2 + 1 ≤ L) (hnL : nL2 ≤ 21) (hk : k + mc2 ≤ mc) (hn : n + ms2 ≤ ms) (hrs : (rest.map fun v => v.category).sum ≤ 8)
    (kk : ∀ (r : Option Value) (M' : LH), Po2 (.inl r) M' → V l g y cc rt tb L mc ms Po X M' (k + mc2) (n + ms2) (pc + 3) ls (r.toList ++ rest))
    (kx : ∀ (E : String) (M' : LH), Po2 (.inr E) M' → VX l g y cc rt tb L mc ms Po X M' (k + mc2) (n + ms2) pc ls rest E) : V l g y cc rt tb L mc ms Po X M k n pc ls (As.reverse ++ .ref a :: rest) := by
  obtain ⟨p, e, s, m, args, below, meth, c, A⟩ := X
  intro ok H locs la hW hS hl
  subst ho
  have hts := ok.2.2.2.2.1
  have cb := callB_of (R := rmL L mc ms) (mc := mc2) (ms := ms2) As.length hts (Ut_in w5) (rfl : Cond.code y2 cc2 nL2 rt2 :: Ut = Cond.code y2 cc2 nL2 rt2 :: Ut) (rm := rmL L2 mc2 ms2) rfl rfl (hts _ w4) (hts _ w1) w6 (v_room hL hnL)
  refine v_ran (y2 := y2) (cw := .code y2 cc2 nL2 rt2) (L2 := L2) (vx_runV ⟨ok.1, ok.2.1, ok.2.2.1, ok.2.2.2.1, hts⟩ (hM A) ⟨cb, hts _ w2, hts _ w3⟩ ⟨Pw_blind, v_rcv hW hrc hc, v_pre ok hW hS⟩ rfl rfl hl.1 rfl (lv_room hrs) hd ⟨hk, hn⟩) ok hS hl kk kx
/-- a private method of a nest mate -/
theorem v_callVN {y2 : MethodName} {cc2 : ByteArray} {rt2 : Option FieldType} {nL2 L2 mc2 ms2 index ci N : Nat} {own host : String} {a : Nat} {As fs : List Value} {T : u_T} {Po2 : Res → LH → Prop}
    (hd : decode cc pc = .ok (.invokevirtual index, 3)) (hM : Ct l g y2 (.code y2 cc2 nL2 rt2) L2 mc2 ms2 (.ref a :: As) M Po2) (ho : y.cls = own)
    (w1 : Cond.methodLinkNest own index y2 host ∈ lw_tbl) (w2 : Cond.instanceMethod y2 ∈ Ut) (w3 : Cond.selects y2.cls y2 y2 ∈ Ut) (w4 : Cond.initialized y2.cls ∈ Ut) (w5 : Cond.code y2 cc2 nL2 rt2 ∈ Ut) (w6 : cOk y2 As.length)
    (hrc : M a = some (ob ci fs)) (hc : vcl[ci]? = some (y2.cls, T, N)) (hL : L2 + 1 ≤ L) (hnL : nL2 ≤ 21) (hk : k + mc2 ≤ mc) (hn : n + ms2 ≤ ms) (hrs : (rest.map fun v => v.category).sum ≤ 8)
    (kk : ∀ (r : Option Value) (M' : LH), Po2 (.inl r) M' → V l g y cc rt tb L mc ms Po X M' (k + mc2) (n + ms2) (pc + 3) ls (r.toList ++ rest))
    (kx : ∀ (E : String) (M' : LH), Po2 (.inr E) M' → VX l g y cc rt tb L mc ms Po X M' (k + mc2) (n + ms2) pc ls rest E) : V l g y cc rt tb L mc ms Po X M k n pc ls (As.reverse ++ .ref a :: rest) := by
  obtain ⟨p, e, s, m, args, below, meth, c, A⟩ := X
  intro ok H locs la hW hS hl
  subst ho
  have hts := ok.2.2.2.2.1
  have hwn := ok.2.2.2.2.2.2.2.2.2.2.2.2
  have cb := va_cnB (R := rmL L mc ms) (mc := mc2) (ms := ms2) As.length hts (Ut_in w5) (rfl : Cond.code y2 cc2 nL2 rt2 :: Ut = Cond.code y2 cc2 nL2 rt2 :: Ut) (rm := rmL L2 mc2 ms2) rfl rfl (hwn.1 _ (List.mem_filter.mpr ⟨w1, rfl⟩)) (hts _ w4) w6 (v_room hL hnL)
  refine v_ran (y2 := y2) (cw := .code y2 cc2 nL2 rt2) (L2 := L2) (vx_runVN ⟨ok.1, ok.2.1, ok.2.2.1, ok.2.2.2.1, hts⟩ (hM A) ⟨cb, hts _ w2, hts _ w3⟩ ⟨Pw_blind, v_rcv hW hrc hc, v_pre ok hW hS⟩ rfl rfl hl.1 rfl (lv_room hrs) hd ⟨hk, hn⟩) ok hS hl kk kx
theorem v_callS {y2 : MethodName} {cc2 : ByteArray} {rt2 : Option FieldType} {nL2 L2 mc2 ms2 index : Nat} {own : String} {As : List Value} {Po2 : Res → LH → Prop}
    (hd : decode cc pc = .ok (.invokestatic index, 3)) (hM : Ct l g y2 (.code y2 cc2 nL2 rt2) L2 mc2 ms2 As M Po2) (ho : y.cls = own)
    (w1 : Cond.methodLink own index y2 ∈ Ut) (w2 : Cond.static y2 ∈ Ut) (w4 : Cond.initialized y2.cls ∈ Ut) (w5 : Cond.code y2 cc2 nL2 rt2 ∈ Ut) (w6 : cOk y2 As.length)
    (hL : L2 + 1 ≤ L) (hnL : nL2 ≤ 21) (hk : k + mc2 ≤ mc) (hn : n + ms2 ≤ ms) (hrs : (rest.map fun v => v.category).sum ≤ 8)
    (kk : ∀ (r : Option Value) (M' : LH), Po2 (.inl r) M' → V l g y cc rt tb L mc ms Po X M' (k + mc2) (n + ms2) (pc + 3) ls (r.toList ++ rest))
    (kx : ∀ (E : String) (M' : LH), Po2 (.inr E) M' → VX l g y cc rt tb L mc ms Po X M' (k + mc2) (n + ms2) pc ls rest E) : V l g y cc rt tb L mc ms Po X M k n pc ls (As.reverse ++ rest) := by
  obtain ⟨p, e, s, m, args, below, meth, c, A⟩ := X
  intro ok H locs la hW hS hl
  subst ho
  have hts := ok.2.2.2.2.1
  have cb := callB_of (R := rmL L mc ms) (mc := mc2) (ms := ms2) As.length hts (Ut_in w5) (rfl : Cond.code y2 cc2 nL2 rt2 :: Ut = Cond.code y2 cc2 nL2 rt2 :: Ut) (rm := rmL L2 mc2 ms2) rfl rfl (hts _ w4) (hts _ w1) w6 (v_room hL hnL)
  refine v_ran (y2 := y2) (cw := .code y2 cc2 nL2 rt2) (L2 := L2) (vx_runS ⟨ok.1, ok.2.1, ok.2.2.1, ok.2.2.2.1, hts⟩ (hM A) ⟨cb, hts _ w2⟩ ⟨Pw_blind, v_pre ok hW hS⟩ rfl rfl hl.1 rfl (lv_room hrs) hd ⟨hk, hn⟩) ok hS hl kk kx
theorem v_callSN {y2 : MethodName} {cc2 : ByteArray} {rt2 : Option FieldType} {nL2 L2 mc2 ms2 index : Nat} {own host : String} {As : List Value} {Po2 : Res → LH → Prop}
    (hd : decode cc pc = .ok (.invokestatic index, 3)) (hM : Ct l g y2 (.code y2 cc2 nL2 rt2) L2 mc2 ms2 As M Po2) (ho : y.cls = own)
    (w1 : Cond.methodLinkNest own index y2 host ∈ lw_tbl) (w2 : Cond.static y2 ∈ Ut) (w4 : Cond.initialized y2.cls ∈ Ut) (w5 : Cond.code y2 cc2 nL2 rt2 ∈ Ut) (w6 : cOk y2 As.length)
    (hL : L2 + 1 ≤ L) (hnL : nL2 ≤ 21) (hk : k + mc2 ≤ mc) (hn : n + ms2 ≤ ms) (hrs : (rest.map fun v => v.category).sum ≤ 8)
    (kk : ∀ (r : Option Value) (M' : LH), Po2 (.inl r) M' → V l g y cc rt tb L mc ms Po X M' (k + mc2) (n + ms2) (pc + 3) ls (r.toList ++ rest))
    (kx : ∀ (E : String) (M' : LH), Po2 (.inr E) M' → VX l g y cc rt tb L mc ms Po X M' (k + mc2) (n + ms2) pc ls rest E) : V l g y cc rt tb L mc ms Po X M k n pc ls (As.reverse ++ rest) := by
  obtain ⟨p, e, s, m, args, below, meth, c, A⟩ := X
  intro ok H locs la hW hS hl
  subst ho
  have hts := ok.2.2.2.2.1
  have hwn := ok.2.2.2.2.2.2.2.2.2.2.2.2
  have cb := va_cnB (R := rmL L mc ms) (mc := mc2) (ms := ms2) As.length hts (Ut_in w5) (rfl : Cond.code y2 cc2 nL2 rt2 :: Ut = Cond.code y2 cc2 nL2 rt2 :: Ut) (rm := rmL L2 mc2 ms2) rfl rfl (hwn.1 _ (List.mem_filter.mpr ⟨w1, rfl⟩)) (hts _ w4) w6 (v_room hL hnL)
  refine v_ran (y2 := y2) (cw := .code y2 cc2 nL2 rt2) (L2 := L2) (vx_runSN ⟨ok.1, ok.2.1, ok.2.2.1, ok.2.2.2.1, hts⟩ (hM A) ⟨cb, hts _ w2, trivial⟩ ⟨Pw_blind, v_pre ok hW hS⟩ rfl rfl hl.1 rfl (lv_room hrs) hd ⟨hk, hn⟩) ok hS hl kk kx
/-- an exception goes on out of a method without handlers -/
theorem VX.out {E : String} (hp : Po (.inr E) M) (hk : k ≤ mc) (hn : n ≤ ms) : VX l g y cc rt [] L mc ms Po X M k n pc ls rest E := by
  obtain ⟨p, e, s, m, args, below, meth, c, A⟩ := X
  intro ok H locs la q ce hW hS hl hq hv hcl
  have htb : c.exceptionTable.toList = [] := ok.2.2.2.2.2.2.2.2.2.1
  exact vx_out (by rw [htb]; exact fun x hx => nomatch hx) ok.2.2.2.2.2.2.2.1 hq hv hcl (fun t ht hal => ⟨⟨M, hp, by rw [ht]; exact Wd.moved hal hW⟩, hS.F ht⟩) hS.2.2 hk hn
theorem v_maxL {la : Array Slot} {p : Program} {e : Env} {s : State} {m : MethodId} {args : Array Value} {below : List Frame} {meth : Method} {c : Code} {A : Nat → Prop} (hok : Ok l g y cc rt tb ls.length (p, e, s, m, args, below, meth, c, A)) (hl : lok la ls) : c.maxLocals = la.size := hok.2.2.1.trans hl.1.symm
theorem v_max {index : Nat} {own : String} {x z : Int32} (hd : decode cc pc = .ok (.invokestatic index, 3)) (ho : y.cls = own) (w1 : Cond.methodLink own index Lib.Math.max.name ∈ Ut) (w2 : Cond.static Lib.Math.max.name ∈ Ut) (w3 : Cond.initialized "java/lang/Math" ∈ Ut) (w4 : Cond.code Lib.Math.max.name Lib.Math.max.code 2 (some .int) ∈ Ut) (hrs : (rest.map fun v => v.category).sum ≤ 8) (hk : k ≤ mc) (hn : n ≤ ms)
    (kk : V l g y cc rt tb L mc ms Po X M k n (pc + 3) ls (.int (if x < z then z else x) :: rest)) : V l g y cc rt tb L mc ms Po X M k n pc ls (.int z :: .int x :: rest) := by
  obtain ⟨p, e, s, m, args, below, meth, c, A⟩ := X
  intro ok H locs la hW hS hl
  subst ho
  have hts := ok.2.2.2.2.1
  exact va_mmax ok.1 ok.2.1 (v_maxL ok hl) ok.2.2.2.1 (hts _ w1) (hts _ w2) (hts _ w3) (hts _ w4) (by show 1 ≤ 10 + L; omega) (by show _ + 13 ≤ 120 + 40 * L; omega) hk hn hd (kk ok H locs la hW hS hl)
theorem v_min {index : Nat} {own : String} {x z : Int32} (hd : decode cc pc = .ok (.invokestatic index, 3)) (ho : y.cls = own) (w1 : Cond.methodLink own index Lib.Math.min.name ∈ Ut) (w2 : Cond.static Lib.Math.min.name ∈ Ut) (w3 : Cond.initialized "java/lang/Math" ∈ Ut) (w4 : Cond.code Lib.Math.min.name Lib.Math.min.code 2 (some .int) ∈ Ut) (hrs : (rest.map fun v => v.category).sum ≤ 8) (hk : k ≤ mc) (hn : n ≤ ms)
    (kk : V l g y cc rt tb L mc ms Po X M k n (pc + 3) ls (.int (if z < x then z else x) :: rest)) : V l g y cc rt tb L mc ms Po X M k n pc ls (.int z :: .int x :: rest) := by
  obtain ⟨p, e, s, m, args, below, meth, c, A⟩ := X
  intro ok H locs la hW hS hl
  subst ho
  have hts := ok.2.2.2.2.1
  refine va_mmin ok.1 ok.2.1 (v_maxL ok hl) ok.2.2.2.1 (hts _ w1) (hts _ w2) (hts _ w3) (hts _ w4) (by show 1 ≤ 10 + L; omega) (by show _ + 13 ≤ 120 + 40 * L; omega) hk hn hd ?_
  exact kk ok H locs la hW hS hl
end VC
