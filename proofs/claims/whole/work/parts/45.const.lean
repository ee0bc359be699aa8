/-! ===== calls by a receiver whose class is known: of the world, or a constant; inherited methods; tables and fields of constants ===== -/
def Rcv (g : Nat → Nat) (M : LH) (C : String) (a : Nat) : Prop := ∀ (A : Nat → Prop) (s : State) (H : Heap) (locs : List Loc), Wd A M s H → Stc g A s s.heap → va_S A s.heap H locs → ∃ cellB : Cell, H[a]? = some cellB ∧ cellB.vm.isStatics = false ∧ s.vm.findClass C = some cellB.cls
theorem Rcv.ob {g : Nat → Nat} {M : LH} {a ci N : Nat} {fs : List Value} {C : String} {T : u_T} (hM : M a = some (ob ci fs)) (hc : vcl[ci]? = some (C, T, N)) : Rcv g M C a := fun _ _ _ _ hW _ _ => v_rcv hW hM hc
theorem Rcv.co {g : Nat → Nat} {M : LH} {a : Nat} {C : String} (h : ∀ (A : Nat → Prop) (U : State) (H : Heap), Stc g A U H → va_O C a A U H) : Rcv g M C a := fun A s _ _ _ hSt hS => va_Orecv (h A s s.heap hSt) hS
section VU
variable {l : Launch} {g : Nat → Nat} {y : MethodName} {cc : ByteArray} {rt : Option FieldType} {tb : List ExceptionTableEntry} {L mc ms : Nat} {Po : Res → LH → Prop} {X : CX} {M : LH} {k n pc : Nat} {ls : List (Option Value)} {rest : List Value}
theorem v_callR {y2 : MethodName} {cc2 : ByteArray} {rt2 : Option FieldType} {nL2 L2 mc2 ms2 index : Nat} {own : String} {a : Nat} {As : List Value} {Po2 : Res → LH → Prop}
    (hd : decode cc pc = .ok (.invokevirtual index, 3)) (hM : Ct l g y2 (.code y2 cc2 nL2 rt2) L2 mc2 ms2 (.ref a :: As) M Po2) (ho : y.cls = own)
    (w1 : Cond.methodLink own index y2 ∈ Ut) (w2 : Cond.instanceMethod y2 ∈ Ut) (w3 : Cond.selects y2.cls y2 y2 ∈ Ut) (w4 : Cond.initialized y2.cls ∈ Ut) (w5 : Cond.code y2 cc2 nL2 rt2 ∈ Ut) (w6 : cOk y2 As.length)
    (hrc : Rcv g M y2.cls a) (hL : L2 + 1 ≤ L) (hnL : nL2 ≤ 21) (hk : k + mc2 ≤ mc) (hn : n + ms2 ≤ ms) (hrs : (rest.map fun v => v.category).sum ≤ 8)
    (kk : ∀ (r : Option Value) (M' : LH), Po2 (.inl r) M' → V l g y cc rt tb L mc ms Po X M' (k + mc2) (n + ms2) (pc + 3) ls (r.toList ++ rest))
    (kx : ∀ (E : String) (M' : LH), Po2 (.inr E) M' → VX l g y cc rt tb L mc ms Po X M' (k + mc2) (n + ms2) pc ls rest E) : V l g y cc rt tb L mc ms Po X M k n pc ls (As.reverse ++ .ref a :: rest) := by
  obtain ⟨p, e, s, m, args, below, meth, c, A⟩ := X
  intro ok H locs la hW hS hl
  subst ho
  have hts := ok.2.2.2.2.1
  have hSt := ok.2.2.2.2.2.2.1
  have cb := callB_of (R := rmL L mc ms) (mc := mc2) (ms := ms2) As.length hts (Ut_in w5) (rfl : Cond.code y2 cc2 nL2 rt2 :: Ut = Cond.code y2 cc2 nL2 rt2 :: Ut) (rm := rmL L2 mc2 ms2) rfl rfl (hts _ w4) (hts _ w1) w6 (v_room hL hnL)
  refine v_ran (y2 := y2) (cw := .code y2 cc2 nL2 rt2) (L2 := L2) (vx_runV ⟨ok.1, ok.2.1, ok.2.2.1, ok.2.2.2.1, hts⟩ (hM A) ⟨cb, hts _ w2, hts _ w3⟩ ⟨Pw_blind, hrc A s H locs hW hSt hS, v_pre ok hW hS⟩ rfl rfl hl.1 rfl (lv_room hrs) hd ⟨hk, hn⟩) ok hS hl kk kx
/-- the reference names x2, which the receiver's class C has from owner -/
theorem v_callU {x2 y2 : MethodName} {cc2 : ByteArray} {rt2 : Option FieldType} {nL2 L2 mc2 ms2 index : Nat} {own owner C : String} {a : Nat} {As : List Value} {Po2 : Res → LH → Prop}
    (hd : decode cc pc = .ok (.invokevirtual index, 3)) (hM : Ct l g y2 (.code y2 cc2 nL2 rt2) L2 mc2 ms2 (.ref a :: As) M Po2) (ho : y.cls = own)
    (w1 : Cond.methodLink own index x2 ∈ Ut) (w0 : Cond.sameMethod x2.cls owner x2.name x2.desc ∈ Ut) (w3 : Cond.selects C x2 y2 ∈ Ut) (w2 : Cond.instanceMethod y2 ∈ Ut) (w4 : Cond.initialized y2.cls ∈ Ut) (w5 : Cond.code y2 cc2 nL2 rt2 ∈ Ut) (hyx : y2 = ⟨owner, x2.name, x2.desc⟩)
    (w6 : owner ≠ "java/lang/invoke/MethodHandle" ∧ owner ≠ "java/lang/invoke/VarHandle" ∧ (parseMethodDescriptor x2.desc).map (fun d => d.parameters.length) = some As.length)
    (hrc : Rcv g M C a) (hL : L2 + 1 ≤ L) (hnL : nL2 ≤ 21) (hk : k + mc2 ≤ mc) (hn : n + ms2 ≤ ms) (hrs : (rest.map fun v => v.category).sum ≤ 8)
    (kk : ∀ (r : Option Value) (M' : LH), Po2 (.inl r) M' → V l g y cc rt tb L mc ms Po X M' (k + mc2) (n + ms2) (pc + 3) ls (r.toList ++ rest))
    (kx : ∀ (E : String) (M' : LH), Po2 (.inr E) M' → VX l g y cc rt tb L mc ms Po X M' (k + mc2) (n + ms2) pc ls rest E) : V l g y cc rt tb L mc ms Po X M k n pc ls (As.reverse ++ .ref a :: rest) := by
  obtain ⟨p, e, s, m, args, below, meth, c, A⟩ := X
  intro ok H locs la hW hS hl
  subst ho
  have hts := ok.2.2.2.2.1
  have hSt := ok.2.2.2.2.2.2.1
  have cb : va_CU (rmL L mc ms) s args y.cls C owner index x2 y2 cc2 nL2 rt2 (Cond.code y2 cc2 nL2 rt2 :: Ut) (rmL L2 mc2 ms2) mc2 ms2 As.length := va_cwU As.length hts (fun w hw => by
    unfold va_wsU at hw
    rcases List.mem_append.mp hw with h | h
    · simp only [List.mem_cons, List.not_mem_nil, or_false] at h
      rcases h with rfl | rfl | rfl | rfl | rfl
      · exact Ut_good w1
      · exact Ut_good w0
      · exact Ut_good w3
      · exact Ut_good w2
      · exact Ut_good w4
    · exact Ut_in w5 w h) (rfl : Cond.code y2 cc2 nL2 rt2 :: Ut = Cond.code y2 cc2 nL2 rt2 :: Ut) rfl rfl hyx w6 (v_room hL hnL)
  refine v_ran (y2 := y2) (cw := .code y2 cc2 nL2 rt2) (L2 := L2) (vx_runU ⟨ok.1, ok.2.1, ok.2.2.1, ok.2.2.2.1, hts⟩ (hM A) cb ⟨Pw_blind, hrc A s H locs hW hSt hS, v_pre ok hW hS⟩ rfl rfl hl.1 rfl (lv_room hrs) hd ⟨hk, hn⟩) ok hS hl kk kx
theorem vp_of {i : Int32} {N : Nat} (h0 : 0 ≤ i) (h1 : i.toNatClampNeg < N) : vp_in i N := fun q => q.elim (fun z => absurd z (Int32.not_lt.mpr h0)) (fun z => absurd h1 (by omega))
/-- tables that nobody writes -/
theorem v_tI {t N : Nat} {f : Nat → Value} {i : Int32} (hd : decode cc pc = .ok (.iaload, 1)) (hT : ∀ (A : Nat → Prop) (U : State) (H : Heap), Stc g A U H → va_T .int t N f A U H) (h0 : 0 ≤ i) (h1 : i.toNatClampNeg < N) {v : Value} (hv : f i.toNatClampNeg = v)
    (kk : V l g y cc rt tb L mc ms Po X M k n (pc + 1) ls (v :: rest)) : V l g y cc rt tb L mc ms Po X M k n pc ls (.int i :: .ref t :: rest) := by
  obtain ⟨p, e, s, m, args, below, meth, c, A⟩ := X
  intro ok H locs la hW hS hl
  exact va_ti ok.1 ok.2.1 (hT A s s.heap ok.2.2.2.2.2.2.1) hS (vp_of h0 h1) hv hd (kk ok H locs la hW hS hl)
theorem v_tB {t N : Nat} {f : Nat → Value} {i : Int32} (hd : decode cc pc = .ok (.baload, 1)) (hT : ∀ (A : Nat → Prop) (U : State) (H : Heap), Stc g A U H → va_T .byte t N f A U H) (h0 : 0 ≤ i) (h1 : i.toNatClampNeg < N) {v : Value} (hv : f i.toNatClampNeg = v)
    (kk : V l g y cc rt tb L mc ms Po X M k n (pc + 1) ls (v :: rest)) : V l g y cc rt tb L mc ms Po X M k n pc ls (.int i :: .ref t :: rest) := by
  obtain ⟨p, e, s, m, args, below, meth, c, A⟩ := X
  intro ok H locs la hW hS hl
  exact va_tb ok.1 ok.2.1 (hT A s s.heap ok.2.2.2.2.2.2.1) hS (vp_of h0 h1) hv hd (kk ok H locs la hW hS hl)
theorem v_tA {t N : Nat} {C : String} {f : Nat → Value} {i : Int32} (hd : decode cc pc = .ok (.aaload, 1)) (hT : ∀ (A : Nat → Prop) (U : State) (H : Heap), Stc g A U H → va_T (.object C) t N f A U H) (h0 : 0 ≤ i) (h1 : i.toNatClampNeg < N) {v : Value} (hv : f i.toNatClampNeg = v)
    (kk : V l g y cc rt tb L mc ms Po X M k n (pc + 1) ls (v :: rest)) : V l g y cc rt tb L mc ms Po X M k n pc ls (.int i :: .ref t :: rest) := by
  obtain ⟨p, e, s, m, args, below, meth, c, A⟩ := X
  intro ok H locs la hW hS hl
  exact vb_tq ok.1 ok.2.1 (hT A s s.heap ok.2.2.2.2.2.2.1) hS (vp_of h0 h1) hv hd (kk ok H locs la hW hS hl)
theorem v_tL {t N : Nat} {ty : FieldType} {f : Nat → Value} (hd : decode cc pc = .ok (.arraylength, 1)) (hT : ∀ (A : Nat → Prop) (U : State) (H : Heap), Stc g A U H → va_T ty t N f A U H) {v : Int32} (hv : Int32.ofNat N = v)
    (kk : V l g y cc rt tb L mc ms Po X M k n (pc + 1) ls (.int v :: rest)) : V l g y cc rt tb L mc ms Po X M k n pc ls (.ref t :: rest) := by
  obtain ⟨p, e, s, m, args, below, meth, c, A⟩ := X
  intro ok H locs la hW hS hl
  exact va_tlen ok.1 ok.2.1 (hT A s s.heap ok.2.2.2.2.2.2.1) hS hv hd (kk ok H locs la hW hS hl)
/-- a field of a constant -/
theorem v_gC {o n0 d own : String} {index q : Nat} {v : Value} (hd : decode cc pc = .ok (.getfield index, 3)) (ho : y.cls = own) (hT : ∀ (A : Nat → Prop) (U : State) (H : Heap), Stc g A U H → va_OF o n0 d v q A U H) (hw : Cond.fieldLink own index o n0 d ∈ Ut)
    (kk : V l g y cc rt tb L mc ms Po X M k n (pc + 3) ls (v :: rest)) : V l g y cc rt tb L mc ms Po X M k n pc ls (.ref q :: rest) := by
  obtain ⟨p, e, s, m, args, below, meth, c, A⟩ := X
  intro ok H locs la hW hS hl
  subst ho
  exact vk_getf ok.1 ok.2.1 (hT A s s.heap ok.2.2.2.2.2.2.1) hS ok.2.2.2.1 (ok.2.2.2.2.1 _ hw) (fun _ h => h) hd (kk ok H locs la hW hS hl)
end VU
