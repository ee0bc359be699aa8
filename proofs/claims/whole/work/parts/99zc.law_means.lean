/-! ===== the law: the means (a double among the locals) ===== -/
/-- V, with a double held in the locals at 7 -/
def VP (d9 : UInt64) (l : Launch) (g : Nat → Nat) (y : MethodName) (cc : ByteArray) (rt : Option FieldType) (tb : List ExceptionTableEntry) (L mc ms : Nat) (Po : Res → LH → Prop) (X : CX) (M : LH) (k n pc : Nat) (ls : List (Option Value)) (st : List Value) : Prop := match X with
  | (p, e, s, m, args, below, meth, c, A) => Ok l g y cc rt tb ls.length (p, e, s, m, args, below, meth, c, A) → ∀ (H : Heap) (locs : List Loc) (la : Array Slot), Wd A M s H → va_S A s.heap H locs → lok la ls → la[7]? = some (.val (.double d9)) → W p l e (rmL L mc ms) s m args below meth c H locs k n (vx_MQ below (Qw A Po) (Xw A Po) args s mc ms A) (F0 m pc la st)
section VPS
variable {l : Launch} {g : Nat → Nat} {y : MethodName} {cc : ByteArray} {rt : Option FieldType} {tb : List ExceptionTableEntry} {L mc ms : Nat} {Po : Res → LH → Prop} {X : CX} {M : LH} {k n pc : Nat} {ls : List (Option Value)} {rest : List Value} {d9 : UInt64}
theorem VP.of (h : V l g y cc rt tb L mc ms Po X M (k) (n) (pc) (ls) (rest)) : VP d9 l g y cc rt tb L mc ms Po X M (k) (n) (pc) (ls) (rest) := by
  obtain ⟨p, e, s, m, args, below, meth, c, A⟩ := X
  intro ok H locs la hW hS hl h7
  exact h ok H locs la hW hS hl
theorem p_iconst {i : Int} {v : Int32} (hd : decode cc pc = .ok (.iconst i, 1)) (hv : Int32.ofInt i = v) (kk : VP d9 l g y cc rt tb L mc ms Po X M (k) (n) (pc + 1) (ls) (.int v :: rest)) : VP d9 l g y cc rt tb L mc ms Po X M (k) (n) (pc) (ls) (rest) := by
  obtain ⟨p, e, s, m, args, below, meth, c, A⟩ := X
  intro ok H locs la hW hS hl h7
  exact lv_iconst ok.1 ok.2.1 hd hv (kk ok H locs la hW hS hl h7)
theorem p_aload_n {q : Fin 4} {i : Nat} {x : Nat} (hd : decode cc pc = .ok (.aload_n q, 1)) (hi : (q : Nat) = i) (hl0 : ls[i]? = some (some (.ref x))) (kk : VP d9 l g y cc rt tb L mc ms Po X M (k) (n) (pc + 1) (ls) (.ref x :: rest)) : VP d9 l g y cc rt tb L mc ms Po X M (k) (n) (pc) (ls) (rest) := by
  obtain ⟨p, e, s, m, args, below, meth, c, A⟩ := X
  intro ok H locs la hW hS hl h7
  exact lv_aload_n ok.1 ok.2.1 hd hi (hl.2.2 i _ hl0).1 (kk ok H locs la hW hS hl h7)
theorem p_iload {i : Nat} {x : Int32} (hd : decode cc pc = .ok (.iload i, 2)) (hl0 : ls[i]? = some (some (.int x))) (kk : VP d9 l g y cc rt tb L mc ms Po X M (k) (n) (pc + 2) (ls) (.int x :: rest)) : VP d9 l g y cc rt tb L mc ms Po X M (k) (n) (pc) (ls) (rest) := by
  obtain ⟨p, e, s, m, args, below, meth, c, A⟩ := X
  intro ok H locs la hW hS hl h7
  exact lv_iload ok.1 ok.2.1 hd (hl.2.2 i _ hl0).1 (kk ok H locs la hW hS hl h7)
theorem p_aload {i : Nat} {x : Nat} (hd : decode cc pc = .ok (.aload i, 2)) (hl0 : ls[i]? = some (some (.ref x))) (kk : VP d9 l g y cc rt tb L mc ms Po X M (k) (n) (pc + 2) (ls) (.ref x :: rest)) : VP d9 l g y cc rt tb L mc ms Po X M (k) (n) (pc) (ls) (rest) := by
  obtain ⟨p, e, s, m, args, below, meth, c, A⟩ := X
  intro ok H locs la hW hS hl h7
  exact lv_aload ok.1 ok.2.1 hd (hl.2.2 i _ hl0).1 (kk ok H locs la hW hS hl h7)
theorem p_if_ne {x : Int32} {off : Int} {tgt : Nat} (hd : decode cc pc = .ok (.ifCond .ne off, 3)) (ht : (pc : Int) + off = (tgt : Int)) (kt : ¬ x = 0 → VP d9 l g y cc rt tb L mc ms Po X M (k) (n) (tgt) (ls) (rest)) (kf : x = 0 → VP d9 l g y cc rt tb L mc ms Po X M (k) (n) (pc + 3) (ls) (rest)) : VP d9 l g y cc rt tb L mc ms Po X M (k) (n) (pc) (ls) (.int x :: rest) := by
  obtain ⟨p, e, s, m, args, below, meth, c, A⟩ := X
  intro ok H locs la hW hS hl h7
  exact lv_if_ne ok.1 ok.2.1 hd ht (fun h => kt h ok H locs la hW hS hl h7) (fun h => kf h ok H locs la hW hS hl h7)
theorem p_icmp_eq {x z : Int32} {off : Int} {tgt : Nat} (hd : decode cc pc = .ok (.if_icmp .eq off, 3)) (ht : (pc : Int) + off = (tgt : Int)) (kt : x = z → VP d9 l g y cc rt tb L mc ms Po X M (k) (n) (tgt) (ls) (rest)) (kf : ¬ x = z → VP d9 l g y cc rt tb L mc ms Po X M (k) (n) (pc + 3) (ls) (rest)) : VP d9 l g y cc rt tb L mc ms Po X M (k) (n) (pc) (ls) (.int z :: .int x :: rest) := by
  obtain ⟨p, e, s, m, args, below, meth, c, A⟩ := X
  intro ok H locs la hW hS hl h7
  exact lv_icmp_eq ok.1 ok.2.1 hd ht (fun h => kt h ok H locs la hW hS hl h7) (fun h => kf h ok H locs la hW hS hl h7)
theorem p_dald {a N : Nat} {f : Nat → UInt64} (hd : decode cc pc = .ok (.daload, 1)) (hM : M a = some (da (N + 1) f)) (kk : VP d9 l g y cc rt tb L mc ms Po X M (k) (n) (pc + 1) (ls) (.double (f 0) :: rest)) : VP d9 l g y cc rt tb L mc ms Po X M (k) (n) (pc) (ls) (.int 0 :: .ref a :: rest) := by
  obtain ⟨p, e, s, m, args, below, meth, c, A⟩ := X
  intro ok H locs la' hW hS hl h7
  obtain ⟨D, ws, tys, hP, hK, hD, hL⟩ := _root_.id hW
  obtain ⟨q0, ve, hq, cA, j, rfl, hj⟩ := hL a _ hM
  exact va_dald ok.1 ok.2.1 hK hP q0 j hq hj (i := 0) (show ¬ ((0 : Int32) < 0 ∨ N + 1 ≤ (0 : Int32).toNatClampNeg) from fun z => z.elim (by decide) (fun w => by have e : (0 : Int32).toNatClampNeg = 0 := rfl; omega)) hd (kk ok H locs la' hW hS hl h7)
/-- the double is asked for: back to V -/
theorem p_dload (hd : decode cc pc = .ok (.dload 7, 2)) (kk : V l g y cc rt tb L mc ms Po X M (k) (n) (pc + 2) (ls) (.double d9 :: rest)) : VP d9 l g y cc rt tb L mc ms Po X M (k) (n) (pc) (ls) (rest) := by
  obtain ⟨p, e, s, m, args, below, meth, c, A⟩ := X
  intro ok H locs la hW hS hl h7
  exact lv_dload ok.1 ok.2.1 hd h7 (kk ok H locs la hW hS hl)
/-- the double is kept -/
theorem p_dstore7 {b p1 m1 o1 o2 : Nat} {i6 k6 : Int32} {z7 z8 : Option Value} (hd : decode cc pc = .ok (.dstore 7, 2)) (kk : VP d9 l g y cc rt tb L mc ms Po X M (k) (n) (pc + 2) ([some (.ref b), some (.ref p1), some (.ref m1), some (.ref o1), some (.ref o2), some (.int i6), some (.int k6), none, none]) (rest)) : V l g y cc rt tb L mc ms Po X M (k) (n) (pc) ([some (.ref b), some (.ref p1), some (.ref m1), some (.ref o1), some (.ref o2), some (.int i6), some (.int k6), z7, z8]) (.double d9 :: rest) := by
  obtain ⟨p, e, s, m, args, below, meth, c, A⟩ := X
  intro ok H locs la hW hS hl
  have hv : lv_has la 9 [(0, .ref b), (1, .ref p1), (2, .ref m1), (3, .ref o1), (4, .ref o2), (5, .int i6), (6, .int k6)] := by
    refine ⟨hl.1, hl.2.1, fun q hq => ?_⟩
    simp only [List.mem_cons, List.not_mem_nil, or_false] at hq
    rcases hq with rfl | rfl | rfl | rfl | rfl | rfl | rfl
    · exact (hl.2.2 0 _ rfl).1
    · exact (hl.2.2 1 _ rfl).1
    · exact (hl.2.2 2 _ rfl).1
    · exact (hl.2.2 3 _ rfl).1
    · exact (hl.2.2 4 _ rfl).1
    · exact (hl.2.2 5 _ rfl).1
    · exact (hl.2.2 6 _ rfl).1
  refine lv_dstore ok.1 ok.2.1 hd hv (by decide) (lv' := [(7, .double d9), (0, .ref b), (1, .ref p1), (2, .ref m1), (3, .ref o1), (4, .ref o2), (5, .int i6), (6, .int k6)]) rfl (fun la2 h2 => ?_)
  refine kk ok H locs la2 hW hS ⟨h2.1, h2.2.1, fun i v hi => ?_⟩ (h2.2.2 (7, .double d9) List.mem_cons_self)
  have h3 : ∀ (j : Nat) (w : Value), (j, w) ∈ ([(7, .double d9), (0, .ref b), (1, .ref p1), (2, .ref m1), (3, .ref o1), (4, .ref o2), (5, .int i6), (6, .int k6)] : List (Nat × Value)) → la2[j]? = some (.val w) := fun j w hw => h2.2.2 (j, w) hw
  match i, hi with
  | 0, hi => cases hi; exact ⟨h3 _ _ (by simp), rfl⟩
  | 1, hi => cases hi; exact ⟨h3 _ _ (by simp), rfl⟩
  | 2, hi => cases hi; exact ⟨h3 _ _ (by simp), rfl⟩
  | 3, hi => cases hi; exact ⟨h3 _ _ (by simp), rfl⟩
  | 4, hi => cases hi; exact ⟨h3 _ _ (by simp), rfl⟩
  | 5, hi => cases hi; exact ⟨h3 _ _ (by simp), rfl⟩
  | 6, hi => cases hi; exact ⟨h3 _ _ (by simp), rfl⟩
  | 7, hi => cases hi
  | 8, hi => cases hi
  | i + 9, hi => cases hi
/-- what a row of a call leaves to show -/
theorem p_ran {y2 : MethodName} {cw : Cond} {L2 mc2 ms2 : Nat} {av st0 : List Value} {Po2 : Res → LH → Prop} {p : Program} {e : Env} {s : State} {m : MethodId} {args : Array Value} {below : List Frame} {meth : Method} {c : Code} {A : Nat → Prop} {H : Heap} {locs : List Loc} {la : Array Slot}
    (hr : vx_Run p l e (rmL L mc ms) s m args below meth c H locs k n mc2 ms2 (F0 m pc la st0) rest (Qw A Po2 av.toArray) (Xw A Po2) A)
    (hok : Ok l g y cc rt tb ls.length (p, e, s, m, args, below, meth, c, A)) (hS : va_S A s.heap H locs) (hl : lok la ls) (h7 : la[7]? = some (.val (.double d9)))
    (kk : ∀ (r : Option Value) (M' : LH), Po2 (.inl r) M' → VP d9 l g y cc rt tb L mc ms Po (p, e, s, m, args, below, meth, c, A) M' (k + mc2) (n + ms2) (pc + 3) ls (r.toList ++ rest))
    (kx : ∀ (E : String) (M' : LH), Po2 (.inr E) M' → VX l g y cc rt tb L mc ms Po (p, e, s, m, args, below, meth, c, A) M' (k + mc2) (n + ms2) pc ls rest E) :
    W p l e (rmL L mc ms) s m args below meth c H locs k n (vx_MQ below (Qw A Po) (Xw A Po) args s mc ms A) (F0 m pc la st0) := by
  intro T hT X
  rcases hr T hT X with ⟨v, st₀, t, T', L9, h0, X', hL, e1, e2, ⟨⟨r, M', hv, hp, hW'⟩, hF⟩, st⟩ | ⟨q, st₀, t, T', L9, E, ce, h0, X', hL, e1, e2, ⟨⟨M', hp, hW'⟩, hF⟩, hce, hcv, hcl, st⟩
  · cases hv
    obtain ⟨k1, k2, k3⟩ := vx_keep h0 e1 hS (fun _ _ h => h) (fun _ h => h) hL hF
    have hal : t.vm.Alike s.vm := by rw [← e2]; exact X'.warmed.alike.symm
    have hW9 : Wd A M' s T'.heap := by rw [e1]; exact Wd.moved hal hW'
    obtain ⟨t2, a1, b1⟩ := kk _ M' hp hok T'.heap (locs ++ L9) la hW9 k3 hl h7 T' rfl X'
    exact ⟨t2, st t2 a1, b1⟩
  · obtain ⟨k1, k2, k3⟩ := vx_keep h0 e1 hS (fun _ _ h => h) (fun _ h => h) hL hF
    have hal : t.vm.Alike s.vm := by rw [← e2]; exact X'.warmed.alike.symm
    have hW9 : Wd A M' s T'.heap := by rw [e1]; exact Wd.moved hal hW'
    obtain ⟨t2, a1, b1⟩ := kx E M' hp hok T'.heap (locs ++ L9) la q ce hW9 k3 hl (by rw [e1]; exact hce) hcv hcl T' rfl X'
    exact ⟨t2, st.trans a1, b1⟩
theorem p_callV {y2 : MethodName} {cc2 : ByteArray} {rt2 : Option FieldType} {nL2 L2 mc2 ms2 index ci N : Nat} {own : String} {a : Nat} {As fs : List Value} {T : u_T} {Po2 : Res → LH → Prop}
    (hd : decode cc pc = .ok (.invokevirtual index, 3)) (hM : Ct l g y2 (.code y2 cc2 nL2 rt2) L2 mc2 ms2 (.ref a :: As) M Po2) (ho : y.cls = own)
    (w1 : Cond.methodLink own index y2 ∈ Ut) (w2 : Cond.instanceMethod y2 ∈ Ut) (w3 : Cond.selects y2.cls y2 y2 ∈ Ut) (w4 : Cond.initialized y2.cls ∈ Ut) (w5 : Cond.code y2 cc2 nL2 rt2 ∈ Ut) (w6 : cOk y2 As.length)
    (hrc : M a = some (ob ci fs)) (hc : vcl[ci]? = some (y2.cls, T, N)) (hL : L2 + 1 ≤ L) (hnL : nL2 ≤ 21) (hk : k + mc2 ≤ mc) (hn : n + ms2 ≤ ms) (hrs : (rest.map fun v => v.category).sum ≤ 8)
    (kk : ∀ (r : Option Value) (M' : LH), Po2 (.inl r) M' → VP d9 l g y cc rt tb L mc ms Po X M' (k + mc2) (n + ms2) (pc + 3) ls (r.toList ++ rest))
    (kx : ∀ (E : String) (M' : LH), Po2 (.inr E) M' → VX l g y cc rt tb L mc ms Po X M' (k + mc2) (n + ms2) pc ls rest E) : VP d9 l g y cc rt tb L mc ms Po X M k n pc ls (As.reverse ++ .ref a :: rest) := by
  obtain ⟨p, e, s, m, args, below, meth, c, A⟩ := X
  intro ok H locs la hW hS hl h7
  subst ho
  have hts := ok.2.2.2.2.1
  have cb := callB_of (R := rmL L mc ms) (mc := mc2) (ms := ms2) As.length hts (Ut_in w5) (rfl : Cond.code y2 cc2 nL2 rt2 :: Ut = Cond.code y2 cc2 nL2 rt2 :: Ut) (rm := rmL L2 mc2 ms2) rfl rfl (hts _ w4) (hts _ w1) w6 (v_room hL hnL)
  refine p_ran (y2 := y2) (cw := .code y2 cc2 nL2 rt2) (L2 := L2) (vx_runV ⟨ok.1, ok.2.1, ok.2.2.1, ok.2.2.2.1, hts⟩ (hM A) ⟨cb, hts _ w2, hts _ w3⟩ ⟨Pw_blind, v_rcv hW hrc hc, v_pre ok hW hS⟩ rfl rfl hl.1 rfl (lv_room hrs) hd ⟨hk, hn⟩) ok hS hl h7 kk kx
theorem p_189 {a : Nat}  {fs : List Value} {L2 mc2 ms2 : Nat} {f : Int32 → LH → Prop} {x : String → LH → Prop} (hd : decode cc pc = .ok (.invokevirtual 189, 3)) (ho : y.cls = "SledgePostLaw") (hM : K_X12_thrown l g L2 mc2 ms2 [.ref a] M (RI f x)) (hrc : M a = some (ob 10 fs)) (hL : L2 + 1 ≤ L) (hk : k + mc2 ≤ mc) (hn : n + ms2 ≤ ms) (hrs : (rest.map fun v => v.category).sum ≤ 8) (kk : ∀ (r : Int32) (M9 : LH), f r M9 → VP d9 l g y cc rt tb L mc ms Po X (M9) (k + mc2) (n + ms2) (pc + 3) (ls) (.int r :: rest)) (kx : ∀ (E : String) (M9 : LH), x E M9 → VX l g y cc rt tb L mc ms Po X M9 (k + mc2) (n + ms2) pc ls rest E) : VP d9 l g y cc rt tb L mc ms Po X (M) (k) (n) (pc) (ls) (.ref a :: rest) := p_callV (As := []) hd hM ho (Ut_of (mt_8 130 rfl) rfl) (Ut_of (mt_8 131 rfl) rfl) (Ut_of (mt_8 132 rfl) rfl) (Ut_of (mt_1 16 rfl) rfl) (Ut_of (mt_8 133 rfl) rfl) ck_X12_thrown hrc (rfl : vcl[10]? = some (RX12, TX12, 25)) hL (Nat.le_of_ble_eq_true rfl) hk hn hrs (fun r M9 h => by obtain ⟨v, rfl, h2⟩ := RI_of h; exact kk v M9 h2) kx
end VPS
theorem la_da {n n2 : Nat} {f : Nat → Int64} {f2 : Nat → UInt64} : la n f ≠ da n2 f2 := fun z => nomatch z
theorem sumN_99 {f : Int32 → Int32} : ∀ n : Nat, n ≤ 12 → (∀ i : Nat, i < n → 0 ≤ f (nI i) ∧ f (nI i) ≤ 99) → 0 ≤ (sumN f n).toInt ∧ (sumN f n).toInt ≤ 99 * n := by
  intro n
  induction n with
  | zero => exact fun _ _ => ⟨Int.le_refl 0, Int.le_refl 0⟩
  | succ n ih =>
    intro hn h
    obtain ⟨a1, a2⟩ := ih (by omega) (fun i hi => h i (by omega))
    obtain ⟨b1, b2⟩ := h n (by omega)
    have b3 := i_le.mp b1
    have b4 := i_le.mp b2
    have b5 : (99 : Int32).toInt = 99 := rfl
    rw [i_0] at b3
    rw [b5] at b4
    show 0 ≤ (sumN f n + f (nI n)).toInt ∧ (sumN f n + f (nI n)).toInt ≤ 99 * ((n + 1 : Nat) : Int)
    rw [i_add (by omega) (by omega)]
    omega
set_option maxRecDepth 100000 in
theorem mean_d : ∀ a, a < 1189 → ∀ b, b < 13 → (b = 0 ∨ ((FP.ddiv (FP.i2d (nI a)) (FP.i2d (nI b))) &&& 0x7fffffffffffffff ≤ 0x7ff0000000000000 ∧ Op.cmpValue (FP.dcmp (FP.ddiv (FP.i2d (nI a)) (FP.i2d (nI b))) (FP.ddiv (FP.i2d (nI a)) (FP.i2d (nI b)))) .l = 0)) := by
  decide +kernel
set_option maxRecDepth 100000 in
theorem mean_f : ∀ a, a < 109 → ∀ b, b < 13 → (b = 0 ∨ ((FP.fdiv (FP.i2f (nI a)) (FP.i2f (nI b))) &&& 0x7fffffff ≤ 0x7f800000 ∧ (FP.f2d (FP.fdiv (FP.i2f (nI a)) (FP.i2f (nI b)))) &&& 0x7fffffffffffffff ≤ 0x7ff0000000000000 ∧ Op.cmpValue (FP.dcmp (FP.f2d (FP.fdiv (FP.i2f (nI a)) (FP.i2f (nI b)))) (FP.f2d (FP.fdiv (FP.i2f (nI a)) (FP.i2f (nI b))))) .l = 0)) := by
  decide +kernel
theorem seven {v : Int32 → Int32} (hG : Good v) (h7 : ¬ v 7 = 0) : v 7 = nI (v 7).toNatClampNeg ∧ (v 7).toNatClampNeg < 13 ∧ ¬ (v 7).toNatClampNeg = 0 := by
  obtain ⟨-, -, -, -, g5, g6, -⟩ := hG
  have h : (v 7).toNatClampNeg ≤ 12 := tc_le g6
  refine ⟨(tc_nI g5).symm, by omega, fun z => h7 ?_⟩
  rw [← tc_nI g5, z]
  rfl
theorem mean_dok {v : Int32 → Int32} (hG : Good v) (h7 : ¬ v 7 = 0) : vf_n64 (FP.ddiv (FP.i2d (iceN v)) (FP.i2d (v 7))) ∧ True ∧ Op.cmpValue (FP.dcmp (FP.ddiv (FP.i2d (iceN v)) (FP.i2d (v 7))) (FP.ddiv (FP.i2d (iceN v)) (FP.i2d (v 7)))) .l = 0 := by
  obtain ⟨e, h13, h0⟩ := seven hG h7
  obtain ⟨-, -, -, -, g5, g6, -, -, gl, -⟩ := hG
  have hb := sumN_99 (f := fun i => lt v i 5) (v 7).toNatClampNeg (by omega) (fun i hi => by
    obtain ⟨i0, i1, -⟩ := nI_low g6 hi
    obtain ⟨-, -, -, -, -, -, -, q2, q3, q4, -⟩ := gl (nI i) i0 i1
    exact ⟨q3, Int32.le_trans q4 q2⟩)
  have hi : iceN v = nI (iceN v).toNatClampNeg := (tc_nI (i_le.mpr (by rw [i_0]; exact hb.1))).symm
  have h2 : (iceN v).toNatClampNeg < 1189 := by
    have q := hb.2
    show (sumN (fun i => lt v i 5) (v 7).toNatClampNeg).toInt.toNat < 1189
    omega
  rcases mean_d _ h2 _ h13 with z | z
  · exact absurd z h0
  · rw [hi, e]
    exact ⟨z.1, trivial, z.2⟩
theorem mean_fok {v : Int32 → Int32} (hG : Good v) (h7 : ¬ v 7 = 0) : vf_n32 (FP.fdiv (FP.i2f (thawN v)) (FP.i2f (v 7))) ∧ vf_n64 (FP.f2d (FP.fdiv (FP.i2f (thawN v)) (FP.i2f (v 7)))) ∧ Op.cmpValue (FP.dcmp (FP.f2d (FP.fdiv (FP.i2f (thawN v)) (FP.i2f (v 7)))) (FP.f2d (FP.fdiv (FP.i2f (thawN v)) (FP.i2f (v 7))))) .l = 0 := by
  obtain ⟨e, h13, h0⟩ := seven hG h7
  have hb := sumN_nn (f := fun i => if lt v i 5 = 0 then 1 else 0) (v 7).toNatClampNeg (by omega) (fun i hi => by
    split <;> exact ⟨by decide, by decide⟩)
  obtain ⟨-, -, -, -, g5, g6, -, -, gl, -⟩ := hG
  have hi : thawN v = nI (thawN v).toNatClampNeg := (tc_nI (i_le.mpr (by rw [i_0]; exact hb.1))).symm
  have h2 : (thawN v).toNatClampNeg < 109 := by
    have q := hb.2
    show (sumN (fun i => if lt v i 5 = 0 then 1 else 0) (v 7).toNatClampNeg).toInt.toNat < 109
    omega
  rcases mean_f _ h2 _ h13 with z | z
  · exact absurd z h0
  · rw [hi, e]
    exact z
theorem dL_law_2717 : decode cL_law 2717 = .ok (.aload_n 1, 1) := by decide +kernel
theorem dL_law_2718 : decode cL_law 2718 = .ok (.aload 4, 2) := by decide +kernel
theorem dL_law_2720 : decode cL_law 2720 = .ok (.invokestatic 339, 3) := by decide +kernel
theorem dL_law_2723 : decode cL_law 2723 = .ok (.istore 6, 2) := by decide +kernel
theorem dL_law_2725 : decode cL_law 2725 = .ok (.aload_n 2, 1) := by decide +kernel
theorem dL_law_2726 : decode cL_law 2726 = .ok (.invokevirtual 342, 3) := by decide +kernel
theorem dL_law_2729 : decode cL_law 2729 = .ok (.dstore 7, 2) := by decide +kernel
theorem dL_law_2731 : decode cL_law 2731 = .ok (.aload_n 2, 1) := by decide +kernel
theorem dL_law_2732 : decode cL_law 2732 = .ok (.invokevirtual 189, 3) := by decide +kernel
theorem dL_law_2735 : decode cL_law 2735 = .ok (.iload 6, 2) := by decide +kernel
theorem dL_law_2737 : decode cL_law 2737 = .ok (.if_icmp .eq 5, 3) := by decide +kernel
theorem dL_law_2740 : decode cL_law 2740 = .ok (.iconst 0, 1) := by decide +kernel
theorem dL_law_2741 : decode cL_law 2741 = .ok (.ireturn, 1) := by decide +kernel
theorem dL_law_2742 : decode cL_law 2742 = .ok (.iload 6, 2) := by decide +kernel
theorem dL_law_2744 : decode cL_law 2744 = .ok (.ifCond .ne 35, 3) := by decide +kernel
theorem dL_law_2747 : decode cL_law 2747 = .ok (.aload 4, 2) := by decide +kernel
theorem dL_law_2749 : decode cL_law 2749 = .ok (.iconst 0, 1) := by decide +kernel
theorem dL_law_2750 : decode cL_law 2750 = .ok (.daload, 1) := by decide +kernel
theorem dL_law_2751 : decode cL_law 2751 = .ok (.dload 7, 2) := by decide +kernel
theorem dL_law_2753 : decode cL_law 2753 = .ok (.dcmp .l, 1) := by decide +kernel
theorem dL_law_2754 : decode cL_law 2754 = .ok (.ifCond .eq 25, 3) := by decide +kernel
theorem dL_law_2757 : decode cL_law 2757 = .ok (.aload 4, 2) := by decide +kernel
theorem dL_law_2759 : decode cL_law 2759 = .ok (.iconst 0, 1) := by decide +kernel
theorem dL_law_2760 : decode cL_law 2760 = .ok (.daload, 1) := by decide +kernel
theorem dL_law_2761 : decode cL_law 2761 = .ok (.aload 4, 2) := by decide +kernel
theorem dL_law_2763 : decode cL_law 2763 = .ok (.iconst 0, 1) := by decide +kernel
theorem dL_law_2764 : decode cL_law 2764 = .ok (.daload, 1) := by decide +kernel
theorem dL_law_2765 : decode cL_law 2765 = .ok (.dcmp .l, 1) := by decide +kernel
theorem dL_law_2766 : decode cL_law 2766 = .ok (.ifCond .eq 11, 3) := by decide +kernel
theorem dL_law_2769 : decode cL_law 2769 = .ok (.dload 7, 2) := by decide +kernel
theorem dL_law_2771 : decode cL_law 2771 = .ok (.dload 7, 2) := by decide +kernel
theorem dL_law_2773 : decode cL_law 2773 = .ok (.dcmp .l, 1) := by decide +kernel
theorem dL_law_2774 : decode cL_law 2774 = .ok (.ifCond .ne 5, 3) := by decide +kernel
theorem dL_law_2777 : decode cL_law 2777 = .ok (.iconst 0, 1) := by decide +kernel
theorem dL_law_2778 : decode cL_law 2778 = .ok (.ireturn, 1) := by decide +kernel
theorem dL_law_2779 : decode cL_law 2779 = .ok (.goto 541, 3) := by decide +kernel
set_option maxRecDepth 100000 in
set_option maxHeartbeats 4000000 in
theorem law_46 {l : Launch} {g : Nat → Nat} {nm ds : String} {tb : List ExceptionTableEntry} {L mc ms : Nat} {Po : Res → LH → Prop} {X : CX} {M : LH} {k0 n0 : Nat} (htr : l.stackTraces = false) {b SN : Nat} {xs : Nat → Int32} (hX : Sc b SN xs X) {kd : Nat → Nat} {p : Nat} {q a : Nat → Nat} {e8 : Int32 → Nat} {v : Int32 → Int32} {sv : Int32} {sa : Int32 → Int32} {ch : Int32} {pa tx : Int32 → Int32} {tn : Int32} {Ls : List Int32} {ea fl : Int32} {m : Nat} {w : Nat → Nat} {t bf he en wr dg : Int32} {b4 fr th bs li lf to : Int32 → Int32} {out outD : Nat} {N : Nat} (hP : Pg kd M p q a e8 v sv sa ch pa tx tn Ls ea fl) (hM : Md kd 30 M m w t ch ea fl sv bf tn he en (nI Ls.length) wr dg v b4 sa pa fr th bs tx li lf to) (hS : Lw N v sv sa ch pa tn Ls ea fl li) (hN : N ≤ 512) {h0 : Nat → Int64} (hO : M out = some (la 1 h0)) (ko : kd out = 31) {h2 : Nat → UInt64} (hO2 : M outD = some (da 1 h2)) (ko2 : kd outD = 31) {i : Int32} (hi : ∀ j : Int32, 1 ≤ j → j ≤ 5 → 0 ≤ i + j ∧ (i + j).toNatClampNeg < SN) (hL : 30 ≤ L) (hk : k0 + 8 ≤ mc) (hn : n0 + 600 ≤ ms) {z6 z7 z8 : Option Value} (kk : ∀ (M' : LH) (z6 z7 z8 : Option Value), LI p m out outD (N + 1) M' → V l g ⟨"SledgePostLaw", nm, ds⟩ cL_law (some .boolean) tb L mc ms Po X M' (k0 + 8) (n0 + 600) 3320 [some (.ref b), some (.ref p), some (.ref m), some (.ref out), some (.ref outD), some (.int i), z6, z7, z8] []) : V l g ⟨"SledgePostLaw", nm, ds⟩ cL_law (some .boolean) tb L mc ms Po X M k0 n0 2717 [some (.ref b), some (.ref p), some (.ref m), some (.ref out), some (.ref outD), some (.int i), z6, z7, z8] [] := by
  obtain ⟨hG, hSy, hv4⟩ := hS.1
  obtain ⟨-, -, -, -, ⟨tn0, tn60⟩, ⟨ea1, fl1⟩, ⟨hTl, hLs⟩, c0, c8⟩ := _root_.id hS
  obtain ⟨h461, h46⟩ := hS.1.r hN
  obtain ⟨hs0, old0, ⟨hpO, -⟩, -⟩ := _root_.id hP
  have okm := fun z => mean_dok hG z
  refine v_aload_n dL_law_2717 rfl rfl ?_
  refine v_aload dL_law_2718 rfl ?_
  refine kl_339 dL_law_2720 rfl (w_L_meanIce htr (f_meanIce htr hP (fun z => (okm z).1)) hpO (fun r M9 h9 => ⟨_, (h9.2.2.2 outD (by rw [ko2]; decide)).trans hO2⟩) (fun E M9 h9 => h9.2.1)) (by omega) (by omega) (by omega) (Nat.le_of_ble_eq_true rfl) (fun r9 M9 h9 => ?_) (fun _ _ h9 => h9.elim)
  rcases h9 with ⟨rfl, r, M8, h8, ⟨hc, rfl, hP8, hF8⟩, hh, rfl⟩ | ⟨E, ⟨hc, hE0, hP8, hF8⟩, hE⟩
  · skip
    have f31 : Fs kd (fun r => r = 31) M8 (hup M8 outD (da 1 h8)) := fun x hx => hup_n (fun z => hx (by rw [z]; exact ko2))
    have hP9 := hP8.fs f31 (fun r h => by omega)
    have hM9 := (hM.tp (hF8.t 30 (Nat.le_refl _))).tp (f31.tp (by decide))
    have hO9 := up_k (e' := da 1 h8) ((hF8 out (by rw [ko]; decide)).trans hO) ((hF8 outD (by rw [ko2]; decide)).trans hO2) la_da
    refine v_istore_6 dL_law_2723 ?_
    refine v_aload_n dL_law_2725 rfl rfl ?_
    refine k_L_342 dL_law_2726 rfl (r_meanIce htr hM9 hG (fun z => (okm z).1)) hM9.1 (by omega) (by omega) (by omega) (Nat.le_of_ble_eq_true rfl) (fun r2726 M9 h9 => ?_) (fun _ _ h9 => h9.elim)
    obtain ⟨h9, hF9⟩ := h9
    rcases h9 with ⟨-, rfl, hC⟩ | ⟨hn, -⟩
    rotate_left
    · exact absurd hn hc
    have hOD := LR1 (kd := kd) hup_s ko2 hF9
    have hOA := LR1 hO9 ko hF9
    refine p_dstore7 dL_law_2729 ?_
    refine p_aload_n dL_law_2731 rfl rfl ?_
    refine p_189 dL_law_2732 rfl (r_thrown htr hC) hC.1 (by omega) (by omega) (by omega) (Nat.le_of_ble_eq_true rfl) (fun r2732 M9 h9 => ?_) (fun _ _ h9 => h9.elim)
    obtain ⟨rfl, e9⟩ := h9
    subst M9
    refine p_iload dL_law_2735 rfl ?_
    refine p_icmp_eq (tgt := 2742) dL_law_2737 (by decide) (fun h2737 => ?_) (fun h2737 => ?_)
    rotate_left
    · exact absurd rfl h2737
    refine p_iload dL_law_2742 rfl ?_
    refine p_if_ne (tgt := 2779) dL_law_2744 (by decide) (fun h2744 => ?_) (fun h2744 => ?_)
    · exact absurd rfl h2744
    refine p_aload dL_law_2747 rfl ?_
    refine p_iconst (v := 0) dL_law_2749 (by decide) ?_
    refine p_dald dL_law_2750 hOD ?_
    refine p_dload dL_law_2751 ?_
    refine v_dcmp dL_law_2753 ?_
    rw [hh, (okm hc).2.2]
    refine v_if_eq (tgt := 2779) dL_law_2754 (by decide) (fun h2754 => ?_) (fun h2754 => ?_)
    rotate_left
    · exact absurd rfl h2754
    refine v_goto (tgt := 3320) dL_law_2779 (by decide) ?_
    refine V.wid (k' := k0 + 8) (n' := n0 + 600) (by omega) (by omega) (kk _ _ _ _ ?_)
    exact ⟨kd, q, a, e8, v, _, sa, _, pa, tx, tn, Ls, _, _, w, _, _, _, _, _, _, _, _, _, _, _, _, _, (hP9.fs (Frm.fs (S := fun r => r = 30) hF9 rfl) (fun r h => by omega)), hC, hS.up, ⟨⟨_, hOA⟩, ko⟩, ⟨_, hOD⟩, ko2⟩
  · skip
    have hM9 := hM.tp (hF8.t 30 (Nat.le_refl _))
    have hO8 := (hF8 out (by rw [ko]; decide)).trans hO
    have hO9 := (hF8 outD (by rw [ko2]; decide)).trans hO2
    obtain ⟨-, rfl⟩ := hE
    refine v_istore_6 dL_law_2723 ?_
    refine v_aload_n dL_law_2725 rfl rfl ?_
    refine k_L_342 dL_law_2726 rfl (r_meanIce htr hM9 hG (fun z => (okm z).1)) hM9.1 (by omega) (by omega) (by omega) (Nat.le_of_ble_eq_true rfl) (fun r2726 M9 h9 => ?_) (fun _ _ h9 => h9.elim)
    obtain ⟨h9, hF9⟩ := h9
    rcases h9 with ⟨hn, -⟩ | ⟨-, rfl, hC⟩
    · exact absurd hc hn
    have hOA := LR1 hO8 ko hF9
    have hOD := LR1 hO9 ko2 hF9
    refine p_dstore7 dL_law_2729 ?_
    refine VP.of ?_
    refine v_aload_n dL_law_2731 rfl rfl ?_
    refine k_L_189 dL_law_2732 rfl (r_thrown htr hC) hC.1 (by omega) (by omega) (by omega) (Nat.le_of_ble_eq_true rfl) (fun r2732 M9 h9 => ?_) (fun _ _ h9 => h9.elim)
    obtain ⟨rfl, e9⟩ := h9
    subst M9
    refine v_iload dL_law_2735 rfl ?_
    refine v_icmp_eq (tgt := 2742) dL_law_2737 (by decide) (fun h2737 => ?_) (fun h2737 => ?_)
    · refine v_iload dL_law_2742 rfl ?_
      refine v_if_ne (tgt := 2779) dL_law_2744 (by decide) (fun h2744 => ?_) (fun h2744 => ?_)
      · refine v_goto (tgt := 3320) dL_law_2779 (by decide) ?_
        refine V.wid (k' := k0 + 8) (n' := n0 + 600) (by omega) (by omega) (kk _ _ _ _ ?_)
        exact ⟨kd, q, a, e8, v, _, sa, _, pa, tx, tn, Ls, _, _, w, _, _, _, _, _, _, _, _, _, _, _, _, _, (hP8.fs (Frm.fs (S := fun r => r = 30) hF9 rfl) (fun r h => by omega)), hC, hS.up, ⟨⟨_, hOA⟩, ko⟩, ⟨_, hOD⟩, ko2⟩
      · exact absurd h2744 (by decide)
    · exact absurd rfl h2737
theorem dL_law_2782 : decode cL_law 2782 = .ok (.aload_n 1, 1) := by decide +kernel
theorem dL_law_2783 : decode cL_law 2783 = .ok (.aload 4, 2) := by decide +kernel
theorem dL_law_2785 : decode cL_law 2785 = .ok (.invokestatic 343, 3) := by decide +kernel
theorem dL_law_2788 : decode cL_law 2788 = .ok (.istore 6, 2) := by decide +kernel
theorem dL_law_2790 : decode cL_law 2790 = .ok (.aload_n 2, 1) := by decide +kernel
theorem dL_law_2791 : decode cL_law 2791 = .ok (.invokevirtual 345, 3) := by decide +kernel
theorem dL_law_2794 : decode cL_law 2794 = .ok (.fstore 7, 2) := by decide +kernel
theorem dL_law_2796 : decode cL_law 2796 = .ok (.aload_n 2, 1) := by decide +kernel
theorem dL_law_2797 : decode cL_law 2797 = .ok (.invokevirtual 189, 3) := by decide +kernel
theorem dL_law_2800 : decode cL_law 2800 = .ok (.iload 6, 2) := by decide +kernel
theorem dL_law_2802 : decode cL_law 2802 = .ok (.if_icmp .eq 5, 3) := by decide +kernel
theorem dL_law_2805 : decode cL_law 2805 = .ok (.iconst 0, 1) := by decide +kernel
theorem dL_law_2806 : decode cL_law 2806 = .ok (.ireturn, 1) := by decide +kernel
theorem dL_law_2807 : decode cL_law 2807 = .ok (.iload 6, 2) := by decide +kernel
theorem dL_law_2809 : decode cL_law 2809 = .ok (.ifCond .ne 36, 3) := by decide +kernel
theorem dL_law_2812 : decode cL_law 2812 = .ok (.aload 4, 2) := by decide +kernel
theorem dL_law_2814 : decode cL_law 2814 = .ok (.iconst 0, 1) := by decide +kernel
theorem dL_law_2815 : decode cL_law 2815 = .ok (.daload, 1) := by decide +kernel
theorem dL_law_2816 : decode cL_law 2816 = .ok (.fload 7, 2) := by decide +kernel
theorem dL_law_2818 : decode cL_law 2818 = .ok (.f2d, 1) := by decide +kernel
theorem dL_law_2819 : decode cL_law 2819 = .ok (.dcmp .l, 1) := by decide +kernel
theorem dL_law_2820 : decode cL_law 2820 = .ok (.ifCond .eq 25, 3) := by decide +kernel
theorem dL_law_2823 : decode cL_law 2823 = .ok (.aload 4, 2) := by decide +kernel
theorem dL_law_2825 : decode cL_law 2825 = .ok (.iconst 0, 1) := by decide +kernel
theorem dL_law_2826 : decode cL_law 2826 = .ok (.daload, 1) := by decide +kernel
theorem dL_law_2827 : decode cL_law 2827 = .ok (.aload 4, 2) := by decide +kernel
theorem dL_law_2829 : decode cL_law 2829 = .ok (.iconst 0, 1) := by decide +kernel
theorem dL_law_2830 : decode cL_law 2830 = .ok (.daload, 1) := by decide +kernel
theorem dL_law_2831 : decode cL_law 2831 = .ok (.dcmp .l, 1) := by decide +kernel
theorem dL_law_2832 : decode cL_law 2832 = .ok (.ifCond .eq 11, 3) := by decide +kernel
theorem dL_law_2835 : decode cL_law 2835 = .ok (.fload 7, 2) := by decide +kernel
theorem dL_law_2837 : decode cL_law 2837 = .ok (.fload 7, 2) := by decide +kernel
theorem dL_law_2839 : decode cL_law 2839 = .ok (.fcmp .l, 1) := by decide +kernel
theorem dL_law_2840 : decode cL_law 2840 = .ok (.ifCond .ne 5, 3) := by decide +kernel
theorem dL_law_2843 : decode cL_law 2843 = .ok (.iconst 0, 1) := by decide +kernel
theorem dL_law_2844 : decode cL_law 2844 = .ok (.ireturn, 1) := by decide +kernel
theorem dL_law_2845 : decode cL_law 2845 = .ok (.goto 475, 3) := by decide +kernel
set_option maxRecDepth 100000 in
set_option maxHeartbeats 4000000 in
theorem law_47 {l : Launch} {g : Nat → Nat} {nm ds : String} {tb : List ExceptionTableEntry} {L mc ms : Nat} {Po : Res → LH → Prop} {X : CX} {M : LH} {k0 n0 : Nat} (htr : l.stackTraces = false) {b SN : Nat} {xs : Nat → Int32} (hX : Sc b SN xs X) {kd : Nat → Nat} {p : Nat} {q a : Nat → Nat} {e8 : Int32 → Nat} {v : Int32 → Int32} {sv : Int32} {sa : Int32 → Int32} {ch : Int32} {pa tx : Int32 → Int32} {tn : Int32} {Ls : List Int32} {ea fl : Int32} {m : Nat} {w : Nat → Nat} {t bf he en wr dg : Int32} {b4 fr th bs li lf to : Int32 → Int32} {out outD : Nat} {N : Nat} (hP : Pg kd M p q a e8 v sv sa ch pa tx tn Ls ea fl) (hM : Md kd 30 M m w t ch ea fl sv bf tn he en (nI Ls.length) wr dg v b4 sa pa fr th bs tx li lf to) (hS : Lw N v sv sa ch pa tn Ls ea fl li) (hN : N ≤ 512) {h0 : Nat → Int64} (hO : M out = some (la 1 h0)) (ko : kd out = 31) {h2 : Nat → UInt64} (hO2 : M outD = some (da 1 h2)) (ko2 : kd outD = 31) {i : Int32} (hi : ∀ j : Int32, 1 ≤ j → j ≤ 5 → 0 ≤ i + j ∧ (i + j).toNatClampNeg < SN) (hL : 30 ≤ L) (hk : k0 + 8 ≤ mc) (hn : n0 + 600 ≤ ms) {z6 z7 z8 : Option Value} (kk : ∀ (M' : LH) (z6 z7 z8 : Option Value), LI p m out outD (N + 1) M' → V l g ⟨"SledgePostLaw", nm, ds⟩ cL_law (some .boolean) tb L mc ms Po X M' (k0 + 8) (n0 + 600) 3320 [some (.ref b), some (.ref p), some (.ref m), some (.ref out), some (.ref outD), some (.int i), z6, z7, z8] []) : V l g ⟨"SledgePostLaw", nm, ds⟩ cL_law (some .boolean) tb L mc ms Po X M k0 n0 2782 [some (.ref b), some (.ref p), some (.ref m), some (.ref out), some (.ref outD), some (.int i), z6, z7, z8] [] := by
  obtain ⟨hG, hSy, hv4⟩ := hS.1
  obtain ⟨-, -, -, -, ⟨tn0, tn60⟩, ⟨ea1, fl1⟩, ⟨hTl, hLs⟩, c0, c8⟩ := _root_.id hS
  obtain ⟨h461, h46⟩ := hS.1.r hN
  obtain ⟨hs0, old0, ⟨hpO, -⟩, -⟩ := _root_.id hP
  have okm := fun z => mean_fok hG z
  refine v_aload_n dL_law_2782 rfl rfl ?_
  refine v_aload dL_law_2783 rfl ?_
  refine kl_343 dL_law_2785 rfl (w_L_openShare htr (f_openShare htr hP (fun z => (okm z).1)) hpO (fun r M9 h9 => ⟨_, (h9.2.2.2 outD (by rw [ko2]; decide)).trans hO2⟩) (fun r M9 h9 => by rw [h9.2.1]; exact (okm h9.1).2.1) (fun E M9 h9 => h9.2.1)) (by omega) (by omega) (by omega) (Nat.le_of_ble_eq_true rfl) (fun r9 M9 h9 => ?_) (fun _ _ h9 => h9.elim)
  rcases h9 with ⟨rfl, r, M8, h8, ⟨hc, rfl, hP8, hF8⟩, hh, rfl⟩ | ⟨E, ⟨hc, hE0, hP8, hF8⟩, hE⟩
  · skip
    have f31 : Fs kd (fun r => r = 31) M8 (hup M8 outD (da 1 h8)) := fun x hx => hup_n (fun z => hx (by rw [z]; exact ko2))
    have hP9 := hP8.fs f31 (fun r h => by omega)
    have hM9 := (hM.tp (hF8.t 30 (Nat.le_refl _))).tp (f31.tp (by decide))
    have hO9 := up_k (e' := da 1 h8) ((hF8 out (by rw [ko]; decide)).trans hO) ((hF8 outD (by rw [ko2]; decide)).trans hO2) la_da
    refine v_istore_6 dL_law_2788 ?_
    refine v_aload_n dL_law_2790 rfl rfl ?_
    refine k_L_345 dL_law_2791 rfl (r_openShare htr hM9 hG (fun z => (okm z).1)) hM9.1 (by omega) (by omega) (by omega) (Nat.le_of_ble_eq_true rfl) (fun r2791 M9 h9 => ?_) (fun _ _ h9 => h9.elim)
    obtain ⟨h9, hF9⟩ := h9
    rcases h9 with ⟨-, rfl, hC⟩ | ⟨hn, -⟩
    rotate_left
    · exact absurd hn hc
    have hOD := LR1 (kd := kd) hup_s ko2 hF9
    have hOA := LR1 hO9 ko hF9
    refine v_fstore_7 dL_law_2794 ?_
    refine v_aload_n dL_law_2796 rfl rfl ?_
    refine k_L_189 dL_law_2797 rfl (r_thrown htr hC) hC.1 (by omega) (by omega) (by omega) (Nat.le_of_ble_eq_true rfl) (fun r2797 M9 h9 => ?_) (fun _ _ h9 => h9.elim)
    obtain ⟨rfl, e9⟩ := h9
    subst M9
    refine v_iload dL_law_2800 rfl ?_
    refine v_icmp_eq (tgt := 2807) dL_law_2802 (by decide) (fun h2802 => ?_) (fun h2802 => ?_)
    · refine v_iload dL_law_2807 rfl ?_
      refine v_if_ne (tgt := 2845) dL_law_2809 (by decide) (fun h2809 => ?_) (fun h2809 => ?_)
      · exact absurd rfl h2809
      · refine v_aload dL_law_2812 rfl ?_
        refine v_iconst (v := 0) dL_law_2814 (by decide) ?_
        refine v_dald dL_law_2815 hOD ?_
        refine v_fload dL_law_2816 rfl ?_
        refine v_f2d dL_law_2818 (okm hc).2.1 ?_
        refine v_dcmp dL_law_2819 ?_
        rw [hh, (okm hc).2.2]
        refine v_if_eq (tgt := 2845) dL_law_2820 (by decide) (fun h2820 => ?_) (fun h2820 => ?_)
        · refine v_goto (tgt := 3320) dL_law_2845 (by decide) ?_
          refine V.wid (k' := k0 + 8) (n' := n0 + 600) (by omega) (by omega) (kk _ _ _ _ ?_)
          exact ⟨kd, q, a, e8, v, _, sa, _, pa, tx, tn, Ls, _, _, w, _, _, _, _, _, _, _, _, _, _, _, _, _, (hP9.fs (Frm.fs (S := fun r => r = 30) hF9 rfl) (fun r h => by omega)), hC, hS.up, ⟨⟨_, hOA⟩, ko⟩, ⟨_, hOD⟩, ko2⟩
        · exact absurd rfl h2820
    · exact absurd rfl h2802
  · skip
    have hM9 := hM.tp (hF8.t 30 (Nat.le_refl _))
    have hO8 := (hF8 out (by rw [ko]; decide)).trans hO
    have hO9 := (hF8 outD (by rw [ko2]; decide)).trans hO2
    obtain ⟨-, rfl⟩ := hE
    refine v_istore_6 dL_law_2788 ?_
    refine v_aload_n dL_law_2790 rfl rfl ?_
    refine k_L_345 dL_law_2791 rfl (r_openShare htr hM9 hG (fun z => (okm z).1)) hM9.1 (by omega) (by omega) (by omega) (Nat.le_of_ble_eq_true rfl) (fun r2791 M9 h9 => ?_) (fun _ _ h9 => h9.elim)
    obtain ⟨h9, hF9⟩ := h9
    rcases h9 with ⟨hn, -⟩ | ⟨-, rfl, hC⟩
    · exact absurd hc hn
    have hOA := LR1 hO8 ko hF9
    have hOD := LR1 hO9 ko2 hF9
    refine v_fstore_7 dL_law_2794 ?_
    refine v_aload_n dL_law_2796 rfl rfl ?_
    refine k_L_189 dL_law_2797 rfl (r_thrown htr hC) hC.1 (by omega) (by omega) (by omega) (Nat.le_of_ble_eq_true rfl) (fun r2797 M9 h9 => ?_) (fun _ _ h9 => h9.elim)
    obtain ⟨rfl, e9⟩ := h9
    subst M9
    refine v_iload dL_law_2800 rfl ?_
    refine v_icmp_eq (tgt := 2807) dL_law_2802 (by decide) (fun h2802 => ?_) (fun h2802 => ?_)
    · refine v_iload dL_law_2807 rfl ?_
      refine v_if_ne (tgt := 2845) dL_law_2809 (by decide) (fun h2809 => ?_) (fun h2809 => ?_)
      · refine v_goto (tgt := 3320) dL_law_2845 (by decide) ?_
        refine V.wid (k' := k0 + 8) (n' := n0 + 600) (by omega) (by omega) (kk _ _ _ _ ?_)
        exact ⟨kd, q, a, e8, v, _, sa, _, pa, tx, tn, Ls, _, _, w, _, _, _, _, _, _, _, _, _, _, _, _, _, (hP8.fs (Frm.fs (S := fun r => r = 30) hF9 rfl) (fun r h => by omega)), hC, hS.up, ⟨⟨_, hOA⟩, ko⟩, ⟨_, hOD⟩, ko2⟩
      · exact absurd h2809 (by decide)
    · exact absurd rfl h2802
