/-! ===== what lies outside the world and is never written: statics, constants ===== -/
abbrev SF : Type := (Nat → Prop) → State → Heap → Prop
def Clo (f : SF) : Prop := (∀ (A : Nat → Prop) (u U : State) (H : Heap), u.vm.Alike U.vm → f A u H → f A U H) ∧ (∀ (A : Nat → Prop) (U : State) (H H1 : Heap), f A U H → (∀ a : Nat, a < H.size → ¬ A a → H1[a]? = H[a]?) → f A U H1) ∧ (∀ (A B : Nat → Prop) (U : State) (H : Heap), f A U H → (∀ q, B q → A q) → f B U H)
theorem Clo.z (C n d : String) (v : Value) : Clo (va_Z C n d v) := ⟨fun _ _ _ _ h x => va_Z.moved h x, fun _ _ _ _ x h => va_Z.kept x h, fun _ _ _ _ x h => va_Z.narrow x h⟩
theorem Clo.t (ty : FieldType) (t N : Nat) (f : Nat → Value) : Clo (va_T ty t N f) := ⟨fun _ _ _ _ h x => va_T.moved h x, fun _ _ _ _ x h => va_T.kept x h, fun _ _ _ _ x h => va_T.narrow x h⟩
theorem Clo.o (E : String) (t : Nat) : Clo (va_O E t) := ⟨fun _ _ _ _ h x => va_O.moved h x, fun _ _ _ _ x h => va_O.kept x h, fun _ _ _ _ x h => va_O.narrow x h⟩
theorem Clo.f (o n d : String) (v : Value) (t : Nat) : Clo (va_OF o n d v t) := ⟨fun _ _ _ _ h x => va_OF.moved h x, fun _ _ _ _ x h => va_OF.kept x h, fun _ _ _ _ x h => va_OF.narrow x h⟩
theorem Clo.q (C n d : String) : Clo (vx_Zq C n d) := ⟨fun _ _ _ _ h x => vx_Zq.moved h x, fun _ _ _ _ x h => vx_Zq.kept x h, fun _ _ _ _ x h => vx_Zq.narrow x h⟩
/-- the constants' addresses: g 0..5 the verdicts, g 10..19 the commands, g 20..29 their forms, g 30..39 the forms' bytes, g 40 the commands' row, g 41 the switch's row, g 42, 43 the digits -/
def fms : List (List Int32) := [[115, 116, 97, 116, 105, 111, 110], [114, 111, 97, 100, 32, 35, 35, 32, 37], [115, 108, 101, 100, 103, 101, 32, 35, 32, 37], [112, 111, 115, 116, 32, 35, 35, 32, 37, 32, 37, 32, 37], [108, 111, 97, 100, 32, 35, 32, 37], [117, 110, 108, 111, 97, 100, 32, 35, 32, 37], [98, 101, 115, 116, 32, 35], [103, 111, 32, 35, 35], [104, 101, 97, 116, 32, 126], [119, 97, 105, 116, 63]]
def cnm : List String := ["STATION", "ROAD", "SLEDGE", "POST", "LOAD", "UNLOAD", "BEST", "GO", "HEAT", "WAIT"]
def vnm : List String := ["FINE", "NO_INDEX", "BAD_ARGUMENT", "NO_ELEMENT", "BAD_STATE", "UNSUPPORTED"]
def stC (g : Nat → Nat) (i : Nat) : List SF := [va_O "SledgePost$Command" (g (10 + i)), va_OF "java/lang/Enum" "ordinal" "I" (.int (nI i)) (g (10 + i)), va_OF "SledgePost$Command" "form" "Ljava/lang/String;" (.ref (g (20 + i))) (g (10 + i)), va_O "java/lang/String" (g (20 + i)), va_OF "java/lang/String" "coder" "B" (.int 0) (g (20 + i)), va_OF "java/lang/String" "value" "[B" (.ref (g (30 + i))) (g (20 + i)), va_T .byte (g (30 + i)) (fms.getD i []).length (fun j => .int ((fms.getD i []).getD j 0))]
def stV (g : Nat → Nat) (i : Nat) : List SF := [va_Z "SledgePost$Verdict" (vnm.getD i "") "LSledgePost$Verdict;" (.ref (g i))]
def stO (g : Nat → Nat) : List SF := [vx_Zq Bundle.tN "UNASSIGNED_STACK" Bundle.steD, vx_Zq Bundle.tN "SUPPRESSED_SENTINEL" Bundle.listD, va_Z "SledgePost$Command" "STATION" "LSledgePost$Command;" (.ref (g 10)), va_Z "SledgePost" "COMMANDS" "[LSledgePost$Command;" (.ref (g 40)), va_T (.object "SledgePost$Command") (g 40) 10 (fun j => .ref (g (10 + j))), va_Z "SledgePost$1" "$SwitchMap$SledgePost$Command" "[I" (.ref (g 41)), va_T .int (g 41) 10 (fun j => .int (if j = 9 then 0 else nI (j + 1))), va_Z "java/lang/String" "COMPACT_STRINGS" "Z" (.int 1), va_Z "java/lang/Integer" "DigitOnes" "[B" (.ref (g 42)), va_Z "java/lang/Integer" "DigitTens" "[B" (.ref (g 43)), va_T .byte (g 42) 100 (fun j => .int (nI (48 + j % 10))), va_T .byte (g 43) 100 (fun j => .int (nI (48 + j / 10))), vx_Zq "jdk/internal/util/Preconditions" "SIOOBE_FORMATTER" "Ljava/util/function/BiFunction;"]
def stcL (g : Nat → Nat) : List SF := stO g ++ ((List.range 6).flatMap (stV g) ++ (List.range 10).flatMap (stC g))
theorem stcL_clo (g : Nat → Nat) : ∀ f ∈ stcL g, Clo f := by
  intro f hf
  rcases List.mem_append.mp hf with h | h
  · simp only [stO, List.mem_cons, List.not_mem_nil, or_false] at h
    rcases h with rfl | rfl | rfl | rfl | rfl | rfl | rfl | rfl | rfl | rfl | rfl | rfl | rfl
    · exact Clo.q _ _ _
    · exact Clo.q _ _ _
    · exact Clo.z _ _ _ _
    · exact Clo.z _ _ _ _
    · exact Clo.t _ _ _ _
    · exact Clo.z _ _ _ _
    · exact Clo.t _ _ _ _
    · exact Clo.z _ _ _ _
    · exact Clo.z _ _ _ _
    · exact Clo.z _ _ _ _
    · exact Clo.t _ _ _ _
    · exact Clo.t _ _ _ _
    · exact Clo.q _ _ _
  · rcases List.mem_append.mp h with h | h
    · obtain ⟨i, -, h⟩ := List.mem_flatMap.mp h
      simp only [stV, List.mem_cons, List.not_mem_nil, or_false] at h
      rw [h]
      exact Clo.z _ _ _ _
    · obtain ⟨i, -, h⟩ := List.mem_flatMap.mp h
      simp only [stC, List.mem_cons, List.not_mem_nil, or_false] at h
      rcases h with rfl | rfl | rfl | rfl | rfl | rfl | rfl
      · exact Clo.o _ _
      · exact Clo.f _ _ _ _ _
      · exact Clo.f _ _ _ _ _
      · exact Clo.o _ _
      · exact Clo.f _ _ _ _ _
      · exact Clo.f _ _ _ _ _
      · exact Clo.t _ _ _ _
def Stc (g : Nat → Nat) (A : Nat → Prop) (U : State) (H : Heap) : Prop := (∀ f ∈ stcL g, f A U H) ∧ (∀ i j, i < 6 → j < 6 → g i = g j → i = j)
theorem Stc.moved {g : Nat → Nat} {A : Nat → Prop} {u U : State} {H : Heap} (hvm : u.vm.Alike U.vm) (h : Stc g A u H) : Stc g A U H := ⟨fun f hf => (stcL_clo g f hf).1 A u U H hvm (h.1 f hf), h.2⟩
theorem Stc.kept {g : Nat → Nat} {A : Nat → Prop} {U : State} {H H1 : Heap} (h : Stc g A U H) (hq : ∀ a : Nat, a < H.size → ¬ A a → H1[a]? = H[a]?) : Stc g A U H1 := ⟨fun f hf => (stcL_clo g f hf).2.1 A U H H1 (h.1 f hf) hq, h.2⟩
theorem Stc.o {g : Nat → Nat} {A : Nat → Prop} {U : State} {H : Heap} (h : Stc g A U H) (i : Nat) {f : SF} (hi : (stO g)[i]? = some f) : f A U H := h.1 f (List.mem_append_left _ (List.mem_of_getElem? hi))
theorem Stc.v {g : Nat → Nat} {A : Nat → Prop} {U : State} {H : Heap} (h : Stc g A U H) {i : Nat} (hi : i < 6) : va_Z "SledgePost$Verdict" (vnm.getD i "") "LSledgePost$Verdict;" (.ref (g i)) A U H := h.1 _ (List.mem_append_right _ (List.mem_append_left _ (List.mem_flatMap.mpr ⟨i, List.mem_range.mpr hi, List.mem_cons_self⟩)))
theorem Stc.c {g : Nat → Nat} {A : Nat → Prop} {U : State} {H : Heap} (h : Stc g A U H) {i : Nat} (hi : i < 10) (k : Nat) {f : SF} (hk : (stC g i)[k]? = some f) : f A U H := h.1 _ (List.mem_append_right _ (List.mem_append_right _ (List.mem_flatMap.mpr ⟨i, List.mem_range.mpr hi, List.mem_of_getElem? hk⟩)))
/-! ===== the words: one list for all ===== -/
/-- .. and which private methods of the class above a builder's call selects -/
def xtra : List Cond := [.selects "java/lang/StringBuilder" ⟨"java/lang/AbstractStringBuilder", "ensureCapacityInternal", "(I)V"⟩ ⟨"java/lang/AbstractStringBuilder", "ensureCapacityInternal", "(I)V"⟩, .selects "java/lang/StringBuilder" ⟨"java/lang/AbstractStringBuilder", "newCapacity", "(I)I"⟩ ⟨"java/lang/AbstractStringBuilder", "newCapacity", "(I)I"⟩]
def Ut : List Cond := xtra ++ lw_tbl.filter goodWord
theorem Ut_of {w : Cond} (h : w ∈ lw_tbl) (hg : goodWord w = true) : w ∈ Ut := List.mem_append_right _ (List.mem_filter.mpr ⟨h, hg⟩)
theorem Ut_x {w : Cond} (i : Nat) (h : xtra[i]? = some w) : w ∈ Ut := List.mem_append_left _ (List.mem_of_getElem? h)
theorem Ut_gw {w : Cond} (h : w ∈ Ut) : goodWord w = true := by
  rcases List.mem_append.mp h with q | q
  · simp only [xtra, List.mem_cons, List.not_mem_nil, or_false] at q
    rcases q with rfl | rfl <;> rfl
  · exact (List.mem_filter.mp q).2
theorem Ut_good {w : Cond} (h : w ∈ Ut) : w ∈ Ut ∧ ((w.onTables && w.keeps) = true ∨ ∃ ty, w = .arrayClass ty) := ⟨h, good_of_word (Ut_gw h)⟩
theorem Ut_in {c : Cond} (h : c ∈ Ut) : GoodIn Ut (c :: Ut) := fun _ hw => (List.mem_cons.mp hw).elim (fun e => by rw [e]; exact Ut_good h) Ut_good
/-! ===== words that hold on, though they aren't good: nest mates' links, casts, declarations, strings ===== -/
def unw : Cond → Bool
  | .methodLinkNest .. => true
  | .fieldLinkNest .. => true
  | .castable .. => true
  | .declares .. => true
  | _ => false
def UnL : List Cond := lw_tbl.filter unw
def exN : List String := ["java/lang/IndexOutOfBoundsException", "java/lang/IllegalArgumentException", "java/lang/IllegalStateException", "java/util/NoSuchElementException", "java/lang/UnsupportedOperationException", "java/lang/ArithmeticException"]
def ncL : List (String × String) := exN.flatMap (fun a => (exN.filter (fun b => b != a)).map (fun b => (a, b)))
def strL : List (String × Nat × String) := [("SledgePost", 407, "no such station or sledge"), ("SledgePost", 412, "an argument is outside its limits"), ("SledgePost", 417, "no such letter or way"), ("SledgePost", 422, "not possible as things stand"), ("SledgePost", 429, "capacity exceeded, or no way"), ("SledgePost", 435, "no such station"), ("SledgePost", 453, "the stations are not connected"), ("SledgePost", 440, "no such sledge"), ("SledgePost", 451, "no such letter"), ("SledgePost", 226, "no such position"), ("SledgePost", 449, "no such letter in the post"), ("SledgePost", 262, "the letter waits in a station"), ("SledgePost", 267, "the letter is on a sledge"), ("SledgePost", 273, "the seal does not thaw"), ("SledgePost", 287, "not a valid code"), ("SledgePost", 308, "no letters in the post"), ("java/lang/StringIndexOutOfBoundsException", 13, "String index out of range: "), ("java/util/Arrays", 337, " > "), ("java/util/Arrays", 48, "fromIndex("), ("java/util/Arrays", 57, ") > toIndex("), ("java/util/Arrays", 59, ")"), ("java/lang/ArrayIndexOutOfBoundsException", 13, "Array index out of range: "), ("SledgePost", 350, "no such index in the output text"), ("SledgePost", 357, "not a character of a script"), ("SledgePost", 364, "the script buffer is full"), ("SledgePost", 370, "the script does not have the required form"), ("SledgePost", 381, "a command of the script failed"), ("SledgePost", 383, "no script had a wrong form"), ("SledgePost", 385, "no script had a failed command"), ("SledgePost", 390, "nothing to undo"), ("SledgePost", 399, "no snapshot"), ("SledgePost$Command", 58, "station"), ("SledgePost$Command", 64, "road ## %"), ("SledgePost$Command", 67, "sledge # %"), ("SledgePost$Command", 70, "post ## % % %"), ("SledgePost$Command", 73, "load # %"), ("SledgePost$Command", 76, "unload # %"), ("SledgePost$Command", 79, "best #"), ("SledgePost$Command", 82, "go ##"), ("SledgePost$Command", 85, "heat ~"), ("SledgePost$Command", 88, "wait?")]
def aoL : List String := ["SledgePost$Sledge", "SledgePost$Letter", "SledgePost$State"]
def Wn (U : State) : Prop := (∀ w ∈ UnL, va_Nw w U) ∧ (∀ q ∈ ncL, va_Nc q.1 q.2 U) ∧ (∀ q ∈ strL, ∃ a, vk_R q.1 q.2.1 q.2.2 a U) ∧ ∀ C ∈ aoL, va_AO C U
theorem unw_warm {w : Cond} (h : unw w = true) {s U : State} (hW : s.WarmedH U.vm) (hZ : va_Nw w s) : va_Nw w U := by
  match w, h with
  | .methodLinkNest .., _ => exact va_Nw.warmM hW hZ
  | .fieldLinkNest .., _ => exact va_Nw.warmF hW hZ
  | .castable .., _ => exact va_Nw.warmC hW hZ
  | .declares _, _ => exact va_Nw.warmD hW hZ
theorem unw_tab {w : Cond} (h : unw w = true) : w.onTables = true := by
  match w, h with
  | .methodLinkNest .., _ => rfl
  | .fieldLinkNest .., _ => rfl
  | .castable .., _ => rfl
  | .declares _, _ => rfl
theorem Wn.warm {s U : State} (hW : s.WarmedH U.vm) (h : Wn s) : Wn U := ⟨fun w hw => unw_warm (List.mem_filter.mp hw).2 hW (h.1 w hw), fun q hq => va_Nc.moved hW.alike (h.2.1 q hq), fun q hq => by obtain ⟨a, ha⟩ := h.2.2.1 q hq; exact ⟨a, vk_R.warm hW ha⟩, fun C hC => va_AO.moved hW.alike (h.2.2.2 C hC)⟩
theorem Wn.same {u U : State} (hv : u.vm = U.vm) (h : Wn u) : Wn U := ⟨fun w hw => va_Nw.same (unw_tab (List.mem_filter.mp hw).2) hv (h.1 w hw), fun q hq => va_Nc.moved (by rw [hv]; exact Vm.Alike.refl _) (h.2.1 q hq), fun q hq => by obtain ⟨a, ha⟩ := h.2.2.1 q hq; exact ⟨a, vk_R.same hv.symm ha⟩, fun C hC => va_AO.moved (by rw [hv]; exact Vm.Alike.refl _) (h.2.2.2 C hC)⟩
theorem Wn.at {U : State} (h : Wn U) {w : Cond} (hw : w ∈ lw_tbl) (hu : unw w = true) {A : Array Value} : w.before A U = true := va_Nw.use (unw_tab hu) (h.1 w (List.mem_filter.mpr ⟨hw, hu⟩))
/-! ===== the abstract heap ===== -/
abbrev Ec : Type := (FieldType × Int32 × (Int32 → Int32)) ⊕ ((String × Int32 × (Int32 → Option Nat)) ⊕ ((Nat × (Nat → Int64)) ⊕ ((Nat × (Nat → UInt64)) ⊕ (Nat × List Value))))
/-- a row of ints; of bytes; of references; of longs; of doubles; an object -/
def ia (N : Int32) (F : Int32 → Int32) : Ec := .inl (.int, N, F)
def ba (N : Int32) (F : Int32 → Int32) : Ec := .inl (.byte, N, F)
def ra (C : String) (N : Int32) (G : Int32 → Option Nat) : Ec := .inr (.inl (C, N, G))
def la (n : Nat) (f : Nat → Int64) : Ec := .inr (.inr (.inl (n, f)))
def da (n : Nat) (f : Nat → UInt64) : Ec := .inr (.inr (.inr (.inl (n, f))))
def ob (ci : Nat) (fs : List Value) : Ec := .inr (.inr (.inr (.inr (ci, fs))))
abbrev LH : Type := Nat → Option Ec
def hup (M : LH) (a : Nat) (e : Ec) : LH := fun q => if q = a then some e else M q
theorem hup_s {M : LH} {a : Nat} {e : Ec} : hup M a e a = some e := if_pos rfl
theorem hup_n {M : LH} {a b : Nat} {e : Ec} (h : b ≠ a) : hup M a e b = M b := if_neg h
theorem hup_hup {M : LH} {a : Nat} {e e' : Ec} : hup (hup M a e) a e' = hup M a e' := by
  funext q
  unfold hup
  split <;> rfl
theorem hup_id {M : LH} {a : Nat} {e : Ec} (h : M a = some e) : hup M a e = M := by
  funext q
  unfold hup
  split
  · next hq => rw [hq, h]
  · rfl
def Rp (tys : List (ClassId × FieldType)) (e : Ec) (ve : va_E) : Prop := match e with
  | .inl (ty, N, F) => ∃ (cA : ClassId) (j : Nat) (f : Nat → Int32), ve = .inl (cA, N.toNatClampNeg, .inl f) ∧ tys[j]? = some (cA, ty) ∧ 0 ≤ N ∧ ∀ i : Nat, i < N.toNatClampNeg → f i = F (nI i)
  | .inr (.inl (C, N, G)) => ∃ (cA : ClassId) (j : Nat) (f : Nat → Option Nat), ve = .inl (cA, N.toNatClampNeg, .inr (.inr (.inr (.inr f)))) ∧ tys[j]? = some (cA, .object C) ∧ 0 ≤ N ∧ ∀ i : Nat, i < N.toNatClampNeg → f i = G (nI i)
  | .inr (.inr (.inl (n, f))) => ∃ (cA : ClassId) (j : Nat), ve = .inl (cA, n, .inr (.inl f)) ∧ tys[j]? = some (cA, .long)
  | .inr (.inr (.inr (.inl (n, f)))) => ∃ (cA : ClassId) (j : Nat), ve = .inl (cA, n, .inr (.inr (.inr (.inl f)))) ∧ tys[j]? = some (cA, .double)
  | .inr (.inr (.inr (.inr o))) => ve = .inr o
theorem Rp.mono {tys t' : List (ClassId × FieldType)} {e : Ec} {ve : va_E} (h : Rp tys e ve) : Rp (tys ++ t') e ve := by
  have app : ∀ {k : Nat} {x : ClassId × FieldType}, tys[k]? = some x → (tys ++ t')[k]? = some x := fun {k x} h => by
    rw [List.getElem?_append_left (List.getElem?_eq_some_iff.mp h).1]; exact h
  match e, h with
  | .inl (ty, N, F), ⟨cA, j, f, h1, h2, h3⟩ => exact ⟨cA, j, f, h1, app h2, h3⟩
  | .inr (.inl (C, N, G)), ⟨cA, j, f, h1, h2, h3⟩ => exact ⟨cA, j, f, h1, app h2, h3⟩
  | .inr (.inr (.inl (n, f))), ⟨cA, j, h1, h2⟩ => exact ⟨cA, j, h1, app h2⟩
  | .inr (.inr (.inr (.inl (n, f)))), ⟨cA, j, h1, h2⟩ => exact ⟨cA, j, h1, app h2⟩
  | .inr (.inr (.inr (.inr o))), h => exact h
def Lk (ws : va_W) (tys : List (ClassId × FieldType)) (a : Nat) (e : Ec) : Prop := ∃ (k : Nat) (ve : va_E), ws[k]? = some (a, ve) ∧ Rp tys e ve
abbrev vcl : List vw_C := [(RJ4, TJ4, 4), (RX1, TX1, 1), (RX3, TX3, 4), (RX4, TX4, 2), (RX5, TX5, 8), (RX6, TX6, 1), (RX7, TX7, 5), (RX8, TX8, 3), (RX9, TX9, 13), (RX11, TX11, 12), (RX12, TX12, 25)]
def Wd (A : Nat → Prop) (M : LH) (U : State) (H : Heap) : Prop := ∃ (D : va_G) (ws : va_W) (tys : List (ClassId × FieldType)), va_P D vcl ws H ∧ va_K D vcl tys U ∧ va_D A ws ∧ ∀ (a : Nat) (e : Ec), M a = some e → Lk ws tys a e
theorem Wd.moved {A : Nat → Prop} {M : LH} {u U : State} {H : Heap} (hvm : u.vm.Alike U.vm) (h : Wd A M u H) : Wd A M U H := by
  obtain ⟨D, ws, tys, h1, h2, h3, h4⟩ := h
  exact ⟨D, ws, tys, h1, va_K.moved hvm h2, h3, h4⟩
theorem Lk_set {ws : va_W} {tys : List (ClassId × FieldType)} {M : LH} {a q0 : Nat} {e0 ev : va_E} {e : Ec} (hL : ∀ (b : Nat) (e : Ec), M b = some e → Lk ws tys b e) (hq : ws[q0]? = some (a, e0)) (hnew : Rp tys e ev) : ∀ (b : Nat) (e' : Ec), hup M a e b = some e' → Lk (ws.set q0 (a, ev)) tys b e' := by
  intro b e' hb
  by_cases hba : b = a
  · subst hba
    rw [hup_s] at hb
    cases hb
    exact ⟨q0, ev, List.getElem?_set_self (List.getElem?_eq_some_iff.mp hq).1, hnew⟩
  · rw [hup_n hba] at hb
    obtain ⟨k, ve, hk, hr⟩ := hL b e' hb
    have hne : q0 ≠ k := fun z => by subst z; rw [hq] at hk; cases hk; exact hba rfl
    exact ⟨k, ve, by rw [List.getElem?_set_ne hne]; exact hk, hr⟩
theorem Lk_push {ws : va_W} {tys tys' : List (ClassId × FieldType)} {M : LH} {a : Nat} {ev : va_E} {e : Ec} (hL : ∀ (b : Nat) (e : Ec), M b = some e → Lk ws tys b e) (hnew : Rp (tys ++ tys') e ev) : ∀ (b : Nat) (e' : Ec), hup M a e b = some e' → Lk (ws ++ [(a, ev)]) (tys ++ tys') b e' := by
  intro b e' hb
  by_cases hba : b = a
  · subst hba
    rw [hup_s] at hb
    cases hb
    exact ⟨ws.length, ev, by simp, hnew⟩
  · rw [hup_n hba] at hb
    obtain ⟨k, ve, hk, hr⟩ := hL b e' hb
    exact ⟨k, ve, by rw [List.getElem?_append_left (List.getElem?_eq_some_iff.mp hk).1]; exact hk, hr.mono⟩
/-! ===== locals ===== -/
def lok (la : Array Slot) (ls : List (Option Value)) : Prop := la.size = ls.length ∧ lv_wf la ∧ ∀ (i : Nat) (v : Value), ls[i]? = some (some v) → la[i]? = some (.val v) ∧ v.category = 1
theorem lok.store {la : Array Slot} {ls : List (Option Value)} {i : Nat} {v : Value} (h : lok la ls) (hi : i < ls.length) (hc : v.category = 1) : ∃ la', storeLocals la i v = some la' ∧ lok la' (ls.set i (some v)) := by
  have h1 : ∀ (j : Nat) (w : Value), j ≠ i → ls[j]? = some (some w) → ∃ la', storeLocals la i v = some la' ∧ la'[j]? = some (.val w) := by
    intro j w hj hw
    obtain ⟨e1, e2⟩ := h.2.2 j w hw
    obtain ⟨la', a1, a2⟩ := lv_store1 (ls := la) (nL := ls.length) (l := [(j, w)]) (i := i) (v := v) ⟨h.1, h.2.1, fun q hq => by rw [List.mem_singleton.mp hq]; exact e1⟩ hi hc
    refine ⟨la', a1, a2.2.2 (j, w) ?_⟩
    refine List.mem_cons_of_mem _ (List.mem_filter.mpr ⟨List.mem_cons_self, ?_⟩)
    have b1 : (j == i) = false := by simpa using hj
    have b2 : (w.category == 2) = false := by rw [e2]; rfl
    simp [b1, b2]
  obtain ⟨la', a1, a2, a3, a4⟩ := lv_store1 (ls := la) (nL := ls.length) (l := []) (i := i) (v := v) ⟨h.1, h.2.1, fun q hq => nomatch hq⟩ hi hc
  refine ⟨la', a1, by rw [List.length_set]; exact a2, a3, fun j w hw => ?_⟩
  by_cases hj : j = i
  · subst hj
    rw [List.getElem?_set_self hi] at hw
    cases hw
    exact ⟨a4 (j, v) List.mem_cons_self, hc⟩
  · rw [List.getElem?_set_ne (Ne.symm hj)] at hw
    obtain ⟨la2, b1, b2⟩ := h1 j w hj hw
    cases a1.symm.trans b1
    exact ⟨b2, (h.2.2 j w hw).2⟩
/-! ===== contracts ===== -/
abbrev Res : Type := Option Value ⊕ String
abbrev rmL (L mc ms : Nat) : Room := { frames := 10 + L, cells := mc, slots := ms, locals := 120 + 40 * L }
def Pw (g : Nat → Nat) (A : Nat → Prop) (av : List Value) (M : LH) : Array Value → State → Prop := fun v U => v = av.toArray ∧ (∀ q, U.heap.size ≤ q → A q) ∧ Wd A M U U.heap ∧ Stc g A U U.heap ∧ Wn U
def Qw (A : Nat → Prop) (Po : Res → LH → Prop) : Array Value → State → Outcome → State → Prop := fun _ st o t => (∃ (r : Option Value) (M' : LH), o = .returned r ∧ Po (.inl r) M' ∧ Wd A M' t t.heap) ∧ va_F A st t
def Xw (A : Nat → Prop) (Po : Res → LH → Prop) : String → State → State → Prop := fun E st t => (∃ M' : LH, Po (.inr E) M' ∧ Wd A M' t t.heap) ∧ va_F A st t
/-- y, called with av over M, returns or throws as Po says (cw: its code's word; L: how deep it calls; mc, ms: how much it makes) -/
def Ct (l : Launch) (g : Nat → Nat) (y : MethodName) (cw : Cond) (L mc ms : Nat) (av : List Value) (M : LH) (Po : Res → LH → Prop) : Prop := ∀ A : Nat → Prop, vx_Met l y (cw :: Ut) (rmL L mc ms) (Pw g A av M) (Qw A Po) (Xw A Po) mc ms A
theorem Pw_blind {g : Nat → Nat} {A : Nat → Prop} {av : List Value} {M : LH} : FrameBlind (Pw g A av M) := by
  intro a U j mk ⟨h1, h2, h3, h4, h5⟩
  exact ⟨h1, h2, Wd.moved (u := U) (U := U.calling j mk a) (Vm.Alike.refl U.vm) h3, Stc.moved (u := U) (U := U.calling j mk a) (Vm.Alike.refl U.vm) h4, Wn.same (u := U) (U := U.calling j mk a) rfl h5⟩
abbrev CX : Type := Program × Env × State × MethodId × Array Value × List Frame × Method × Code × (Nat → Prop)
def Ok (l : Launch) (g : Nat → Nat) (y : MethodName) (cc : ByteArray) (rt : Option FieldType) (tb : List ExceptionTableEntry) (nL : Nat) : CX → Prop := fun (p, _, s, m, args, _, meth, c, A) => p.tables.exec = Jvm.exec ∧ c.code = cc ∧ c.maxLocals = nL ∧ s.vm.findClass y.cls = some m.cls ∧ (∀ w ∈ Ut, w.before args s = true) ∧ (∀ q, s.heap.size ≤ q → A q) ∧ Stc g A s s.heap ∧ meth.locks = false ∧ meth.sig.returnType = rt ∧ c.exceptionTable.toList = tb ∧ meth.name = y.name ∧ l.stackTraces = false ∧ Wn s
/-- THE JUDGEMENT: from pc, with these locals and this stack over M, the method comes to an end as Po says -/
def V (l : Launch) (g : Nat → Nat) (y : MethodName) (cc : ByteArray) (rt : Option FieldType) (tb : List ExceptionTableEntry) (L mc ms : Nat) (Po : Res → LH → Prop) (X : CX) (M : LH) (k n pc : Nat) (ls : List (Option Value)) (st : List Value) : Prop := match X with
  | (p, e, s, m, args, below, meth, c, A) => Ok l g y cc rt tb ls.length (p, e, s, m, args, below, meth, c, A) → ∀ (H : Heap) (locs : List Loc) (la : Array Slot), Wd A M s H → va_S A s.heap H locs → lok la ls → W p l e (rmL L mc ms) s m args below meth c H locs k n (vx_MQ below (Qw A Po) (Xw A Po) args s mc ms A) (F0 m pc la st)
/-- the same, with something of class E thrown over the frame -/
def VX (l : Launch) (g : Nat → Nat) (y : MethodName) (cc : ByteArray) (rt : Option FieldType) (tb : List ExceptionTableEntry) (L mc ms : Nat) (Po : Res → LH → Prop) (X : CX) (M : LH) (k n pc : Nat) (ls : List (Option Value)) (rest : List Value) (E : String) : Prop := match X with
  | (p, e, s, m, args, below, meth, c, A) => Ok l g y cc rt tb ls.length (p, e, s, m, args, below, meth, c, A) → ∀ (H : Heap) (locs : List Loc) (la : Array Slot) (q : Nat) (ce : Cell), Wd A M s H → va_S A s.heap H locs → lok la ls → H[q]? = some ce → ce.vm = .none → s.vm.findClass E = some ce.cls → vx_W p l e (rmL L mc ms) s m args below meth c H locs k n (vx_MQ below (Qw A Po) (Xw A Po) args s mc ms A) (F0 m pc la rest) q
