/-! ===== the reference: the word of a command ===== -/
/-- the words -/
def wrd : Nat → List Int32
  | 0 => [115, 116, 97, 116, 105, 111, 110]
  | 1 => [114, 111, 97, 100, 32]
  | 2 => [115, 108, 101, 100, 103, 101, 32]
  | 3 => [112, 111, 115, 116, 32]
  | 4 => [108, 111, 97, 100, 32]
  | 5 => [117, 110, 108, 111, 97, 100, 32]
  | 6 => [98, 101, 115, 116, 32]
  | 7 => [103, 111, 32]
  | 8 => [104, 101, 97, 116, 32]
  | 9 => [119, 97, 105, 116]
  | _ => []
def wat (w : Nat) : Nat := ([0, 7, 12, 19, 24, 29, 36, 41, 44, 49, 53] : List Nat).getD w 0
theorem wat_S : ∀ w, w < 10 → wat (w + 1) = wat w + (wrd w).length := by decide
theorem wat_53 : ∀ w, w < 10 → wat w + (wrd w).length ≤ 53 := by decide
theorem waI_n : ∀ w, w < 11 → waI (nI w) = nI (wat w) := by decide
theorem wdI_n : ∀ w, w < 10 → ∀ j, j < (wrd w).length → wdI (nI (wat w + j)) = (wrd w).getD j 0 := by decide
theorem wrd_7 : ∀ w, w < 10 → (wrd w).length ≤ 7 := by decide
theorem wrd_0 : ∀ w, w < 10 → 0 < (wrd w).length := by decide
theorem nI_10 : ∀ w, w < 10 → 0 ≤ nI w ∧ nI w < 10 ∧ 0 ≤ nI w + 1 ∧ nI w + 1 < 11 ∧ nI w < 11 := by decide
theorem nI_plus (a b : Nat) : nI a + nI b = nI (a + b) := by
  induction b with
  | zero => exact Int32.add_zero _
  | succ b ih => rw [← nI_1 b, ← Int32.add_assoc, ih, nI_1, Nat.add_assoc]
/-- word w goes n signs on -/
abbrev mtW (S : Nat → Int32) (w n : Nat) : Prop := n ≤ (wrd w).length ∧ ∀ j, j < n → (wrd w).getD j 0 = S j
section MT
variable {S : Nat → Int32} {w n : Nat}
theorem mtW_0 : mtW S w 0 := ⟨Nat.zero_le _, fun j h => absurd h (Nat.not_lt_zero j)⟩
theorem mtW_1 : mtW S w (n + 1) ↔ mtW S w n ∧ n < (wrd w).length ∧ (wrd w).getD n 0 = S n := by
  constructor
  · rintro ⟨a, b⟩
    exact ⟨⟨by omega, fun j h => b j (by omega)⟩, a, b n (by omega)⟩
  · rintro ⟨⟨a, b⟩, c, d⟩
    refine ⟨c, fun j h => ?_⟩
    by_cases e : j = n
    · rw [e]; exact d
    · exact b j (by omega)
theorem ltr_and {x b : Int32} (hx : x = if mtW S w n then 1 else 0) (hb : b = if n < (wrd w).length ∧ (wrd w).getD n 0 = S n then 1 else 0) : x &&& b = if mtW S w (n + 1) then 1 else 0 := by
  by_cases p : mtW S w n
  · by_cases q : n < (wrd w).length ∧ (wrd w).getD n 0 = S n
    · rw [hx, hb, if_pos p, if_pos q, if_pos (mtW_1.mpr ⟨p, q⟩)]; decide
    · rw [hx, hb, if_pos p, if_neg q, if_neg (fun z => q (mtW_1.mp z).2)]; decide
  · rw [hx, if_neg p, if_neg (fun z => p (mtW_1.mp z).1)]
    exact Int32.zero_and
theorem mt_7' (h : mtW S w n) (hw : w < 10) : n ≤ 7 := Nat.le_trans h.1 (wrd_7 w hw)
end MT
/-- one of the words below j goes n signs on -/
def Mor (S : Nat → Int32) (n j : Nat) (x : Int32) : Prop := (x = 1 ∧ ∃ w, w < j ∧ mtW S w n) ∨ (x = 0 ∧ ∀ w, w < j → ¬ mtW S w n)
/-- the last of the words below j that is whole after n signs -/
def Cmp (S : Nat → Int32) (n j : Nat) (x : Int32) : Prop := (x = -1 ∧ ∀ w, w < j → ¬ (mtW S w n ∧ (wrd w).length = n)) ∨ ∃ w, w < j ∧ x = nI w ∧ mtW S w n ∧ (wrd w).length = n
section MC
variable {S : Nat → Int32} {n j : Nat} {x : Int32}
theorem Mor.z : Mor S n 0 0 := Or.inr ⟨rfl, fun w h => absurd h (Nat.not_lt_zero w)⟩
theorem Mor.y (h : Mor S n j x) (q : mtW S j n) : Mor S n (j + 1) (x ||| 1) := by
  rcases h with ⟨rfl, -⟩ | ⟨rfl, -⟩
  · exact Or.inl ⟨by decide, j, by omega, q⟩
  · exact Or.inl ⟨by decide, j, by omega, q⟩
theorem Mor.no (h : Mor S n j x) (q : ¬ mtW S j n) : Mor S n (j + 1) (x ||| 0) := by
  rcases h with ⟨rfl, w, w1, w2⟩ | ⟨rfl, h⟩
  · exact Or.inl ⟨by decide, w, by omega, w2⟩
  · refine Or.inr ⟨by decide, fun w hw => ?_⟩
    by_cases e : w = j
    · rw [e]; exact q
    · exact h w (by omega)
theorem Cmp.z : Cmp S n 0 (-1) := Or.inl ⟨rfl, fun w h => absurd h (Nat.not_lt_zero w)⟩
theorem Cmp.y (q : mtW S j n) (q2 : (wrd j).length = n) : Cmp S n (j + 1) (nI j) := Or.inr ⟨j, by omega, rfl, q, q2⟩
theorem Cmp.no (h : Cmp S n j x) (q : ¬ (mtW S j n ∧ (wrd j).length = n)) : Cmp S n (j + 1) x := by
  rcases h with ⟨e, h⟩ | ⟨w, w1, w2⟩
  · refine Or.inl ⟨e, fun w hw => ?_⟩
    by_cases e : w = j
    · rw [e]; exact q
    · exact h w (by omega)
  · exact Or.inr ⟨w, by omega, w2⟩
end MC
/-- the signs of the text from a place on -/
def sgS (tx : Int32 → Int32) (en he : Int32) (j : Nat) : Int32 := sgN tx en (he + nI j)
theorem nI_11b : ∀ w, w < 11 → (10 ≤ nI w ↔ w = 10) := by decide
theorem dX12_word_0 : decode cX12_word 0 = .ok (.iconst 0, 1) := by decide +kernel
theorem dX12_word_1 : decode cX12_word 1 = .ok (.istore_n 1, 1) := by decide +kernel
theorem dX12_word_2 : decode cX12_word 2 = .ok (.iload_n 1, 1) := by decide +kernel
theorem dX12_word_3 : decode cX12_word 3 = .ok (.bipush 10, 2) := by decide +kernel
theorem dX12_word_5 : decode cX12_word 5 = .ok (.if_icmp .ge 16, 3) := by decide +kernel
theorem dX12_word_8 : decode cX12_word 8 = .ok (.aload_n 0, 1) := by decide +kernel
theorem dX12_word_9 : decode cX12_word 9 = .ok (.getfield 44, 3) := by decide +kernel
theorem dX12_word_12 : decode cX12_word 12 = .ok (.iload_n 1, 1) := by decide +kernel
theorem dX12_word_13 : decode cX12_word 13 = .ok (.iconst 1, 1) := by decide +kernel
theorem dX12_word_14 : decode cX12_word 14 = .ok (.iastore, 1) := by decide +kernel
theorem dX12_word_15 : decode cX12_word 15 = .ok (.iinc 1 1, 3) := by decide +kernel
theorem dX12_word_18 : decode cX12_word 18 = .ok (.goto (-16), 3) := by decide +kernel
theorem dX12_word_21 : decode cX12_word 21 = .ok (.iconst 0, 1) := by decide +kernel
theorem dX12_word_22 : decode cX12_word 22 = .ok (.istore_n 1, 1) := by decide +kernel
theorem dX12_word_23 : decode cX12_word 23 = .ok (.iconst (-1), 1) := by decide +kernel
theorem dX12_word_24 : decode cX12_word 24 = .ok (.istore_n 2, 1) := by decide +kernel
theorem dX12_word_25 : decode cX12_word 25 = .ok (.iload_n 2, 1) := by decide +kernel
theorem dX12_word_26 : decode cX12_word 26 = .ok (.ifCond .ge 196, 3) := by decide +kernel
theorem dX12_word_29 : decode cX12_word 29 = .ok (.aload_n 0, 1) := by decide +kernel
theorem dX12_word_30 : decode cX12_word 30 = .ok (.getfield 208, 3) := by decide +kernel
theorem dX12_word_33 : decode cX12_word 33 = .ok (.ifCond .ne 189, 3) := by decide +kernel
theorem dX12_word_36 : decode cX12_word 36 = .ok (.iconst 0, 1) := by decide +kernel
theorem dX12_word_37 : decode cX12_word 37 = .ok (.istore_n 3, 1) := by decide +kernel
theorem dX12_word_38 : decode cX12_word 38 = .ok (.iconst 0, 1) := by decide +kernel
theorem dX12_word_39 : decode cX12_word 39 = .ok (.istore 4, 2) := by decide +kernel
theorem dX12_word_41 : decode cX12_word 41 = .ok (.iload 4, 2) := by decide +kernel
theorem dX12_word_43 : decode cX12_word 43 = .ok (.bipush 10, 2) := by decide +kernel
theorem dX12_word_45 : decode cX12_word 45 = .ok (.if_icmp .ge 85, 3) := by decide +kernel
theorem dX12_word_48 : decode cX12_word 48 = .ok (.aload_n 0, 1) := by decide +kernel
theorem dX12_word_49 : decode cX12_word 49 = .ok (.getfield 44, 3) := by decide +kernel
theorem dX12_word_52 : decode cX12_word 52 = .ok (.iload 4, 2) := by decide +kernel
theorem dX12_word_54 : decode cX12_word 54 = .ok (.dup2, 1) := by decide +kernel
theorem dX12_word_55 : decode cX12_word 55 = .ok (.iaload, 1) := by decide +kernel
theorem dX12_word_56 : decode cX12_word 56 = .ok (.aload_n 0, 1) := by decide +kernel
theorem dX12_word_57 : decode cX12_word 57 = .ok (.getfield 53, 3) := by decide +kernel
theorem dX12_word_60 : decode cX12_word 60 = .ok (.iload 4, 2) := by decide +kernel
theorem dX12_word_62 : decode cX12_word 62 = .ok (.iaload, 1) := by decide +kernel
theorem dX12_word_63 : decode cX12_word 63 = .ok (.iload_n 1, 1) := by decide +kernel
theorem dX12_word_64 : decode cX12_word 64 = .ok (.iadd, 1) := by decide +kernel
theorem dX12_word_65 : decode cX12_word 65 = .ok (.aload_n 0, 1) := by decide +kernel
theorem dX12_word_66 : decode cX12_word 66 = .ok (.getfield 53, 3) := by decide +kernel
theorem dX12_word_69 : decode cX12_word 69 = .ok (.iload 4, 2) := by decide +kernel
theorem dX12_word_71 : decode cX12_word 71 = .ok (.iconst 1, 1) := by decide +kernel
theorem dX12_word_72 : decode cX12_word 72 = .ok (.iadd, 1) := by decide +kernel
theorem dX12_word_73 : decode cX12_word 73 = .ok (.iaload, 1) := by decide +kernel
theorem dX12_word_74 : decode cX12_word 74 = .ok (.if_icmp .ge 28, 3) := by decide +kernel
theorem dX12_word_77 : decode cX12_word 77 = .ok (.aload_n 0, 1) := by decide +kernel
theorem dX12_word_78 : decode cX12_word 78 = .ok (.getfield 50, 3) := by decide +kernel
theorem dX12_word_81 : decode cX12_word 81 = .ok (.aload_n 0, 1) := by decide +kernel
theorem dX12_word_82 : decode cX12_word 82 = .ok (.getfield 53, 3) := by decide +kernel
theorem dX12_word_85 : decode cX12_word 85 = .ok (.iload 4, 2) := by decide +kernel
theorem dX12_word_87 : decode cX12_word 87 = .ok (.iaload, 1) := by decide +kernel
theorem dX12_word_88 : decode cX12_word 88 = .ok (.iload_n 1, 1) := by decide +kernel
theorem dX12_word_89 : decode cX12_word 89 = .ok (.iadd, 1) := by decide +kernel
theorem dX12_word_90 : decode cX12_word 90 = .ok (.iaload, 1) := by decide +kernel
theorem dX12_word_91 : decode cX12_word 91 = .ok (.aload_n 0, 1) := by decide +kernel
theorem dX12_word_92 : decode cX12_word 92 = .ok (.invokevirtual 212, 3) := by decide +kernel
theorem dX12_word_95 : decode cX12_word 95 = .ok (.if_icmp .ne 7, 3) := by decide +kernel
theorem dX12_word_98 : decode cX12_word 98 = .ok (.iconst 1, 1) := by decide +kernel
theorem dX12_word_99 : decode cX12_word 99 = .ok (.goto 4, 3) := by decide +kernel
theorem dX12_word_102 : decode cX12_word 102 = .ok (.iconst 0, 1) := by decide +kernel
theorem dX12_word_103 : decode cX12_word 103 = .ok (.iand, 1) := by decide +kernel
theorem dX12_word_104 : decode cX12_word 104 = .ok (.iastore, 1) := by decide +kernel
theorem dX12_word_105 : decode cX12_word 105 = .ok (.iload_n 3, 1) := by decide +kernel
theorem dX12_word_106 : decode cX12_word 106 = .ok (.aload_n 0, 1) := by decide +kernel
theorem dX12_word_107 : decode cX12_word 107 = .ok (.getfield 44, 3) := by decide +kernel
theorem dX12_word_110 : decode cX12_word 110 = .ok (.iload 4, 2) := by decide +kernel
theorem dX12_word_112 : decode cX12_word 112 = .ok (.iaload, 1) := by decide +kernel
theorem dX12_word_113 : decode cX12_word 113 = .ok (.iconst 1, 1) := by decide +kernel
theorem dX12_word_114 : decode cX12_word 114 = .ok (.if_icmp .ne 7, 3) := by decide +kernel
theorem dX12_word_117 : decode cX12_word 117 = .ok (.iconst 1, 1) := by decide +kernel
theorem dX12_word_118 : decode cX12_word 118 = .ok (.goto 4, 3) := by decide +kernel
theorem dX12_word_121 : decode cX12_word 121 = .ok (.iconst 0, 1) := by decide +kernel
theorem dX12_word_122 : decode cX12_word 122 = .ok (.ior, 1) := by decide +kernel
theorem dX12_word_123 : decode cX12_word 123 = .ok (.istore_n 3, 1) := by decide +kernel
theorem dX12_word_124 : decode cX12_word 124 = .ok (.iinc 4 1, 3) := by decide +kernel
theorem dX12_word_127 : decode cX12_word 127 = .ok (.goto (-86), 3) := by decide +kernel
theorem dX12_word_130 : decode cX12_word 130 = .ok (.aload_n 0, 1) := by decide +kernel
theorem dX12_word_131 : decode cX12_word 131 = .ok (.iload_n 3, 1) := by decide +kernel
theorem dX12_word_132 : decode cX12_word 132 = .ok (.ifCond .ne 7, 3) := by decide +kernel
theorem dX12_word_135 : decode cX12_word 135 = .ok (.iconst 1, 1) := by decide +kernel
theorem dX12_word_136 : decode cX12_word 136 = .ok (.goto 4, 3) := by decide +kernel
theorem dX12_word_139 : decode cX12_word 139 = .ok (.iconst 0, 1) := by decide +kernel
theorem dX12_word_140 : decode cX12_word 140 = .ok (.putfield 208, 3) := by decide +kernel
theorem dX12_word_143 : decode cX12_word 143 = .ok (.aload_n 0, 1) := by decide +kernel
theorem dX12_word_144 : decode cX12_word 144 = .ok (.dup, 1) := by decide +kernel
theorem dX12_word_145 : decode cX12_word 145 = .ok (.getfield 202, 3) := by decide +kernel
theorem dX12_word_148 : decode cX12_word 148 = .ok (.iload_n 3, 1) := by decide +kernel
theorem dX12_word_149 : decode cX12_word 149 = .ok (.ifCond .eq 7, 3) := by decide +kernel
theorem dX12_word_152 : decode cX12_word 152 = .ok (.iconst 1, 1) := by decide +kernel
theorem dX12_word_153 : decode cX12_word 153 = .ok (.goto 4, 3) := by decide +kernel
theorem dX12_word_156 : decode cX12_word 156 = .ok (.iconst 0, 1) := by decide +kernel
theorem dX12_word_157 : decode cX12_word 157 = .ok (.iadd, 1) := by decide +kernel
theorem dX12_word_158 : decode cX12_word 158 = .ok (.putfield 202, 3) := by decide +kernel
theorem dX12_word_161 : decode cX12_word 161 = .ok (.iinc 1 1, 3) := by decide +kernel
theorem dX12_word_164 : decode cX12_word 164 = .ok (.iconst 0, 1) := by decide +kernel
theorem dX12_word_165 : decode cX12_word 165 = .ok (.istore 4, 2) := by decide +kernel
theorem dX12_word_167 : decode cX12_word 167 = .ok (.iload 4, 2) := by decide +kernel
theorem dX12_word_169 : decode cX12_word 169 = .ok (.bipush 10, 2) := by decide +kernel
theorem dX12_word_171 : decode cX12_word 171 = .ok (.if_icmp .ge 48, 3) := by decide +kernel
theorem dX12_word_174 : decode cX12_word 174 = .ok (.aload_n 0, 1) := by decide +kernel
theorem dX12_word_175 : decode cX12_word 175 = .ok (.getfield 44, 3) := by decide +kernel
theorem dX12_word_178 : decode cX12_word 178 = .ok (.iload 4, 2) := by decide +kernel
theorem dX12_word_180 : decode cX12_word 180 = .ok (.iaload, 1) := by decide +kernel
theorem dX12_word_181 : decode cX12_word 181 = .ok (.iconst 1, 1) := by decide +kernel
theorem dX12_word_182 : decode cX12_word 182 = .ok (.if_icmp .ne 29, 3) := by decide +kernel
theorem dX12_word_185 : decode cX12_word 185 = .ok (.aload_n 0, 1) := by decide +kernel
theorem dX12_word_186 : decode cX12_word 186 = .ok (.getfield 53, 3) := by decide +kernel
theorem dX12_word_189 : decode cX12_word 189 = .ok (.iload 4, 2) := by decide +kernel
theorem dX12_word_191 : decode cX12_word 191 = .ok (.iaload, 1) := by decide +kernel
theorem dX12_word_192 : decode cX12_word 192 = .ok (.iload_n 1, 1) := by decide +kernel
theorem dX12_word_193 : decode cX12_word 193 = .ok (.iadd, 1) := by decide +kernel
theorem dX12_word_194 : decode cX12_word 194 = .ok (.aload_n 0, 1) := by decide +kernel
theorem dX12_word_195 : decode cX12_word 195 = .ok (.getfield 53, 3) := by decide +kernel
theorem dX12_word_198 : decode cX12_word 198 = .ok (.iload 4, 2) := by decide +kernel
theorem dX12_word_200 : decode cX12_word 200 = .ok (.iconst 1, 1) := by decide +kernel
theorem dX12_word_201 : decode cX12_word 201 = .ok (.iadd, 1) := by decide +kernel
theorem dX12_word_202 : decode cX12_word 202 = .ok (.iaload, 1) := by decide +kernel
theorem dX12_word_203 : decode cX12_word 203 = .ok (.if_icmp .ne 8, 3) := by decide +kernel
theorem dX12_word_206 : decode cX12_word 206 = .ok (.iload 4, 2) := by decide +kernel
theorem dX12_word_208 : decode cX12_word 208 = .ok (.goto 4, 3) := by decide +kernel
theorem dX12_word_211 : decode cX12_word 211 = .ok (.iload_n 2, 1) := by decide +kernel
theorem dX12_word_212 : decode cX12_word 212 = .ok (.istore_n 2, 1) := by decide +kernel
theorem dX12_word_213 : decode cX12_word 213 = .ok (.iinc 4 1, 3) := by decide +kernel
theorem dX12_word_216 : decode cX12_word 216 = .ok (.goto (-49), 3) := by decide +kernel
theorem dX12_word_219 : decode cX12_word 219 = .ok (.goto (-194), 3) := by decide +kernel
theorem dX12_word_222 : decode cX12_word 222 = .ok (.iload_n 2, 1) := by decide +kernel
theorem dX12_word_223 : decode cX12_word 223 = .ok (.ireturn, 1) := by decide +kernel
set_option maxRecDepth 100000 in
set_option maxHeartbeats 4000000 in
theorem r_word {l : Launch} {g : Nat → Nat} {M : LH} (htr : l.stackTraces = false) {kd : Nat → Nat} {r m : Nat} {w : Nat → Nat} {t ch ea fl sv bf tn he en ln wr dg : Int32} {v b4 sa pa fr th bs tx li lf to : Int32 → Int32} (hC : Md kd r M m w t ch ea fl sv bf tn he en ln wr dg v b4 sa pa fr th bs tx li lf to) (e0 : 0 ≤ he) (e61 : he ≤ 60) (e60 : en ≤ 60) (hw0 : wr = 0) : K_X12_word l g 1 0 0 [.ref m] M (RI (fun x M9 => ∃ lf', ((∃ i, i < 10 ∧ mtW (sgS tx en he) i (wrd i).length ∧ x = nI i ∧ Md kd r M9 m w t ch ea fl sv bf tn (he + nI (wrd i).length) en ln 0 dg v b4 sa pa fr th bs tx li lf' to) ∨ (x = -1 ∧ ∃ n, (∃ i, i < 10 ∧ mtW (sgS tx en he) i n) ∧ (∀ i, i < 10 → ¬ (mtW (sgS tx en he) i n ∧ (wrd i).length = n)) ∧ (∀ i, i < 10 → ¬ mtW (sgS tx en he) i (n + 1)) ∧ Md kd r M9 m w t ch ea fl sv bf tn (he + nI n) en ln 1 dg v b4 sa pa fr th bs tx li lf' to)) ∧ Frm kd r M M9) nX) := by
  subst hw0
  refine Ko_X12_word htr (fun X => ?_)
  obtain ⟨hMo, hw5, hw6, hw7, hw8, hw9, hw10, hw11, hw13, hw14, hw15, hw16, hw17, hw18, -⟩ := _root_.id hC
  have hF : Frm kd r M M := Frm.rf
  have key : ∀ e n, n + e = 8 → ∀ (M1 : LH) (lf1 : Int32 → Int32) (p3 p4 : Option Value) (hdm : True), (∃ i, i < 10 ∧ mtW (sgS tx en he) i n) → (∀ i, i < 10 → ¬ (mtW (sgS tx en he) i n ∧ (wrd i).length = n)) → (∀ i, i < 10 → lf1 (nI i) = if mtW (sgS tx en he) i n then 1 else 0) → Md kd r M1 m w t ch ea fl sv bf tn (he + nI n) en ln 0 dg v b4 sa pa fr th bs tx li lf1 to → Frm kd r M M1 → V l g yX12_word cX12_word ((some .int)) [] 1 0 0 (RI (fun x M9 => ∃ lf', ((∃ i, i < 10 ∧ mtW (sgS tx en he) i (wrd i).length ∧ x = nI i ∧ Md kd r M9 m w t ch ea fl sv bf tn (he + nI (wrd i).length) en ln 0 dg v b4 sa pa fr th bs tx li lf' to) ∨ (x = -1 ∧ ∃ n, (∃ i, i < 10 ∧ mtW (sgS tx en he) i n) ∧ (∀ i, i < 10 → ¬ (mtW (sgS tx en he) i n ∧ (wrd i).length = n)) ∧ (∀ i, i < 10 → ¬ mtW (sgS tx en he) i (n + 1)) ∧ Md kd r M9 m w t ch ea fl sv bf tn (he + nI n) en ln 1 dg v b4 sa pa fr th bs tx li lf' to)) ∧ Frm kd r M M9) nX) X M1 0 0 25 [some (.ref m), some (.int (nI n)), some (.int (-1)), p3, p4] [] := by
    clear hC hF hMo hw5 hw6 hw7 hw8 hw9 hw10 hw11 hw13 hw14 hw15 hw16 hw17 hw18
    intro e
    induction e with
    | zero =>
      intro n hn M1 lf1 p3 p4 _ hex hnc hlf hC hF
      obtain ⟨i, hi, hm⟩ := hex
      exact absurd (mt_7' hm hi) (by omega)
    | succ e ih =>
      intro n hn M1 lf1 p3 p4 _ hex hnc hlf hC hF
      obtain ⟨hMo, hw5, hw6, hw7, hw8, hw9, hw10, hw11, hw13, hw14, hw15, hw16, hw17, hw18, -⟩ := _root_.id hC
      replace ih := fun n h M1 lf1 p3 p4 => ih n h M1 lf1 p3 p4 trivial
      have hn7 : n ≤ 7 := by obtain ⟨i, hi, hm⟩ := hex; exact mt_7' hm hi
      have h0n : 0 ≤ he + nI n := by
        have q : ∀ n, n ≤ 7 → 0 ≤ nI n ∧ nI n ≤ 7 := by decide
        obtain ⟨q1, q2⟩ := q n hn7
        clear hC hF hMo hlf ih
        lia
      have keyB : ∀ (M1 : LH) (he1 wr1 mr : Int32) (lf1 : Int32 → Int32), Md kd r M1 m w t ch ea fl sv bf tn he1 en ln wr1 dg v b4 sa pa fr th bs tx li lf1 to → Frm kd r M M1 → (∀ i, i < 10 → lf1 (nI i) = if mtW (sgS tx en he) i (n + 1) then 1 else 0) → ((wr1 = 0 ∧ he1 = he + nI (n + 1) ∧ ∃ i, i < 10 ∧ mtW (sgS tx en he) i (n + 1)) ∨ (wr1 = 1 ∧ he1 = he + nI n ∧ (∃ i, i < 10 ∧ mtW (sgS tx en he) i n) ∧ ∀ i, i < 10 → ¬ mtW (sgS tx en he) i (n + 1))) → ∀ f j, j + f = 10 → ∀ is, Cmp (sgS tx en he) (n + 1) j is → V l g yX12_word cX12_word ((some .int)) [] 1 0 0 (RI (fun x M9 => ∃ lf', ((∃ i, i < 10 ∧ mtW (sgS tx en he) i (wrd i).length ∧ x = nI i ∧ Md kd r M9 m w t ch ea fl sv bf tn (he + nI (wrd i).length) en ln 0 dg v b4 sa pa fr th bs tx li lf' to) ∨ (x = -1 ∧ ∃ n, (∃ i, i < 10 ∧ mtW (sgS tx en he) i n) ∧ (∀ i, i < 10 → ¬ (mtW (sgS tx en he) i n ∧ (wrd i).length = n)) ∧ (∀ i, i < 10 → ¬ mtW (sgS tx en he) i (n + 1)) ∧ Md kd r M9 m w t ch ea fl sv bf tn (he + nI n) en ln 1 dg v b4 sa pa fr th bs tx li lf' to)) ∧ Frm kd r M M9) nX) X M1 0 0 167 [some (.ref m), some (.int (nI (n + 1))), some (.int is), some (.int mr), some (.int (nI j))] [] := by
        clear hC hF hMo hw5 hw6 hw7 hw8 hw9 hw10 hw11 hw13 hw14 hw15 hw16 hw17 hw18 hlf
        intro M1 he1 wr1 mr lf1 hC hF hlf hq f
        obtain ⟨hMo, hw5, hw6, hw7, hw8, hw9, hw10, hw11, hw13, hw14, hw15, hw16, hw17, hw18, -⟩ := _root_.id hC
        induction f with
        | zero =>
          intro j hj is hCp
          obtain rfl : j = 10 := by omega
          refine v_iload dX12_word_167 rfl ?_
          refine v_bipush (v := (10)) dX12_word_169 (by decide) ?_
          refine v_icmp_ge (tgt := 219) dX12_word_171 (by decide) (fun h171 => ?_) (fun h171 => ?_)
          · refine v_goto (tgt := 25) dX12_word_219 (by decide) ?_
            rcases hCp with ⟨rfl, hno⟩ | ⟨i, hi, rfl, hmt, hlen⟩
            · rcases hq with ⟨rfl, rfl, hq2⟩ | ⟨rfl, rfl, hq2, hq3⟩
              · refine ih (n + 1) (by omega) M1 lf1 _ _ hq2 (fun i hi z => hno i hi z) hlf hC hF
              · refine v_iload_n dX12_word_25 rfl rfl ?_
                refine v_if_ge (tgt := 222) dX12_word_26 (by decide) (fun h26 => ?_) (fun h26 => ?_)
                · exact absurd h26 (by decide)
                · refine v_aload_n dX12_word_29 rfl rfl ?_
                  refine gf_X12_208 dX12_word_30 rfl hMo ?_
                  refine v_if_ne (tgt := 222) dX12_word_33 (by decide) (fun h33 => ?_) (fun h33 => ?_)
                  · refine v_iload_n dX12_word_222 rfl rfl ?_
                    exact v_iret dX12_word_223 rfl ⟨lf1, Or.inr ⟨rfl, n, hq2, hnc, hq3, hC⟩, hF⟩ (by omega) (by omega)
                  · exact absurd h33 (by decide)
            · have hq1 : wr1 = 0 ∧ he1 = he + nI (n + 1) := by
                rcases hq with ⟨a, b, -⟩ | ⟨-, -, -, c⟩
                · exact ⟨a, b⟩
                · exact absurd hmt (c i hi)
              obtain ⟨rfl, rfl⟩ := hq1
              refine v_iload_n dX12_word_25 rfl rfl ?_
              refine v_if_ge (tgt := 222) dX12_word_26 (by decide) (fun h26 => ?_) (fun h26 => ?_)
              · refine v_iload_n dX12_word_222 rfl rfl ?_
                exact v_iret dX12_word_223 rfl ⟨lf1, Or.inl ⟨i, hi, by rw [hlen]; exact hmt, rfl, by rw [hlen]; exact hC⟩, hF⟩ (by omega) (by omega)
              · exact absurd (nI_10 i hi).1 h26
          · exact absurd (by decide) h171
        | succ f ihB =>
          intro j hj is hCp
          have hj10 : j < 10 := by omega
          obtain ⟨j0, j1, j2, j3, j4⟩ := nI_10 j hj10
          have hl9 := hlf j hj10
          have ew : waI (nI j) + nI (n + 1) = nI (wat j + (n + 1)) := by rw [waI_n j (by omega), nI_plus]
          have ew1 : waI (nI j + 1) = nI (wat j + (wrd j).length) := by rw [nI_1, waI_n _ (by omega), wat_S j hj10]
          have h53 := wat_53 j hj10
          refine v_iload dX12_word_167 rfl ?_
          refine v_bipush (v := (10)) dX12_word_169 (by decide) ?_
          refine v_icmp_ge (tgt := 219) dX12_word_171 (by decide) (fun h171 => ?_) (fun h171 => ?_)
          · exact absurd ((nI_11b j (by omega)).mp h171) (by omega)
          · refine v_aload_n dX12_word_174 rfl rfl ?_
            refine gf_X12_44 dX12_word_175 rfl hMo ?_
            refine v_iload dX12_word_178 rfl ?_
            refine v_iald dX12_word_180 hw15 j0 j1 ?_
            refine v_iconst (v := 1) dX12_word_181 (by decide) ?_
            rw [hl9]
            refine v_icmp_ne (tgt := 211) dX12_word_182 (by decide) (fun h182 => ?_) (fun h182 => ?_)
            · have hno : ¬ (mtW (sgS tx en he) j (n + 1) ∧ (wrd j).length = n + 1) := fun z => h182 (if_pos z.1)
              refine v_iload_n dX12_word_211 rfl rfl ?_
              refine v_istore_2 dX12_word_212 ?_
              refine v_iinc_4 dX12_word_213 rfl ?_
              refine v_goto (tgt := 167) dX12_word_216 (by decide) ?_
              rw [show nI j + Int32.ofInt 1 = nI (j + 1) from nI_1 j]
              first
                | exact ihB (j + 1) (by omega) _ (Cmp.y hmt hlen)
                | exact ihB (j + 1) (by omega) _ (hCp.no hno)
            · have hmt : mtW (sgS tx en he) j (n + 1) := Classical.byContradiction (fun z => by rw [if_neg z] at h182; exact absurd h182 (by decide))
              refine v_aload_n dX12_word_185 rfl rfl ?_
              refine gf_X12_53 dX12_word_186 rfl hMo ?_
              refine v_iload dX12_word_189 rfl ?_
              refine v_iald dX12_word_191 hw18 j0 j4 ?_
              refine v_iload_n dX12_word_192 rfl rfl ?_
              refine v_iadd dX12_word_193 ?_
              refine v_aload_n dX12_word_194 rfl rfl ?_
              refine gf_X12_53 dX12_word_195 rfl hMo ?_
              refine v_iload dX12_word_198 rfl ?_
              refine v_iconst (v := 1) dX12_word_200 (by decide) ?_
              refine v_iadd dX12_word_201 ?_
              refine v_iald dX12_word_202 hw18 j2 j3 ?_
              rw [ew, ew1]
              refine v_icmp_ne (tgt := 211) dX12_word_203 (by decide) (fun h203 => ?_) (fun h203 => ?_)
              · have hno : ¬ (mtW (sgS tx en he) j (n + 1) ∧ (wrd j).length = n + 1) := fun z => h203 (by rw [z.2])
                refine v_iload_n dX12_word_211 rfl rfl ?_
                refine v_istore_2 dX12_word_212 ?_
                refine v_iinc_4 dX12_word_213 rfl ?_
                refine v_goto (tgt := 167) dX12_word_216 (by decide) ?_
                rw [show nI j + Int32.ofInt 1 = nI (j + 1) from nI_1 j]
                first
                  | exact ihB (j + 1) (by omega) _ (Cmp.y hmt hlen)
                  | exact ihB (j + 1) (by omega) _ (hCp.no hno)
              · have hlen : (wrd j).length = n + 1 := by
                  have q := congrArg Int32.toNatClampNeg h203
                  rw [nI_clamp (by omega), nI_clamp (by omega)] at q
                  omega
                refine v_iload dX12_word_206 rfl ?_
                refine v_goto (tgt := 212) dX12_word_208 (by decide) ?_
                refine v_istore_2 dX12_word_212 ?_
                refine v_iinc_4 dX12_word_213 rfl ?_
                refine v_goto (tgt := 167) dX12_word_216 (by decide) ?_
                rw [show nI j + Int32.ofInt 1 = nI (j + 1) from nI_1 j]
                first
                  | exact ihB (j + 1) (by omega) _ (Cmp.y hmt hlen)
                  | exact ihB (j + 1) (by omega) _ (hCp.no hno)
      have keyA : ∀ f j, j + f = 10 → ∀ (M1 : LH) (mr : Int32) (lf1 : Int32 → Int32), Md kd r M1 m w t ch ea fl sv bf tn (he + nI n) en ln 0 dg v b4 sa pa fr th bs tx li lf1 to → Frm kd r M M1 → (∀ i, i < 10 → lf1 (nI i) = if i < j then (if mtW (sgS tx en he) i (n + 1) then 1 else 0) else (if mtW (sgS tx en he) i n then 1 else 0)) → Mor (sgS tx en he) (n + 1) j mr → V l g yX12_word cX12_word ((some .int)) [] 1 0 0 (RI (fun x M9 => ∃ lf', ((∃ i, i < 10 ∧ mtW (sgS tx en he) i (wrd i).length ∧ x = nI i ∧ Md kd r M9 m w t ch ea fl sv bf tn (he + nI (wrd i).length) en ln 0 dg v b4 sa pa fr th bs tx li lf' to) ∨ (x = -1 ∧ ∃ n, (∃ i, i < 10 ∧ mtW (sgS tx en he) i n) ∧ (∀ i, i < 10 → ¬ (mtW (sgS tx en he) i n ∧ (wrd i).length = n)) ∧ (∀ i, i < 10 → ¬ mtW (sgS tx en he) i (n + 1)) ∧ Md kd r M9 m w t ch ea fl sv bf tn (he + nI n) en ln 1 dg v b4 sa pa fr th bs tx li lf' to)) ∧ Frm kd r M M9) nX) X M1 0 0 41 [some (.ref m), some (.int (nI n)), some (.int (-1)), some (.int mr), some (.int (nI j))] [] := by
        clear hC hF hMo hw5 hw6 hw7 hw8 hw9 hw10 hw11 hw13 hw14 hw15 hw16 hw17 hw18 hlf
        intro f
        induction f with
        | zero =>
          intro j hj M1 mr lf1 hC hF hA hMr
          obtain ⟨hMo, hw5, hw6, hw7, hw8, hw9, hw10, hw11, hw13, hw14, hw15, hw16, hw17, hw18, -⟩ := _root_.id hC
          obtain rfl : j = 10 := by omega
          refine v_iload dX12_word_41 rfl ?_
          refine v_bipush (v := (10)) dX12_word_43 (by decide) ?_
          refine v_icmp_ge (tgt := 130) dX12_word_45 (by decide) (fun h45 => ?_) (fun h45 => ?_)
          · have hlA : (∀ i, i < 10 → lf1 (nI i) = if mtW (sgS tx en he) i (n + 1) then 1 else 0) := fun i hi => (hA i hi).trans (if_pos hi)
            rcases hMr with ⟨rfl, hmr⟩ | ⟨rfl, hmr⟩
            · skip
              refine v_aload_n dX12_word_130 rfl rfl ?_
              refine v_iload_n dX12_word_131 rfl rfl ?_
              refine v_if_ne (tgt := 139) dX12_word_132 (by decide) (fun h132 => ?_) (fun h132 => ?_)
              · refine v_iconst (v := 0) dX12_word_139 (by decide) ?_
                refine pf_X12_208 dX12_word_140 rfl (by first | rfl | assumption) (by first | rfl | assumption) hMo ?_
                refine V.md (Md.sc hC) (Frm.tr hF (Frm.up (hC.kd_sc))) (fun M1 hC hF => ?_)
                obtain ⟨hMo, hw5, hw6, hw7, hw8, hw9, hw10, hw11, hw13, hw14, hw15, hw16, hw17, hw18, -⟩ := _root_.id hC
                refine v_aload_n dX12_word_143 rfl rfl ?_
                refine v_dup dX12_word_144 rfl ?_
                refine gf_X12_202 dX12_word_145 rfl hMo ?_
                refine v_iload_n dX12_word_148 rfl rfl ?_
                refine v_if_eq (tgt := 156) dX12_word_149 (by decide) (fun h149 => ?_) (fun h149 => ?_)
                · exact absurd h149 (by decide)
                · refine v_iconst (v := 1) dX12_word_152 (by decide) ?_
                  refine v_goto (tgt := 157) dX12_word_153 (by decide) ?_
                  refine v_iadd dX12_word_157 ?_
                  refine pf_X12_202 dX12_word_158 rfl hMo ?_
                  refine V.md (Md.sc hC) (Frm.tr hF (Frm.up (hC.kd_sc))) (fun M1 hC hF => ?_)
                  obtain ⟨hMo, hw5, hw6, hw7, hw8, hw9, hw10, hw11, hw13, hw14, hw15, hw16, hw17, hw18, -⟩ := _root_.id hC
                  refine v_iinc_1 dX12_word_161 rfl ?_
                  refine v_iconst (v := 0) dX12_word_164 (by decide) ?_
                  refine v_istore_4 dX12_word_165 ?_
                  rw [show nI n + Int32.ofInt 1 = nI (n + 1) from nI_1 n]
                  exact keyB _ _ _ _ _ hC hF hlA (Or.inl ⟨rfl, by rw [Int32.add_assoc, nI_1], hmr⟩) 10 0 rfl _ Cmp.z
              · exact absurd h132 (by decide)
            · skip
              refine v_aload_n dX12_word_130 rfl rfl ?_
              refine v_iload_n dX12_word_131 rfl rfl ?_
              refine v_if_ne (tgt := 139) dX12_word_132 (by decide) (fun h132 => ?_) (fun h132 => ?_)
              · exact absurd rfl h132
              · refine v_iconst (v := 1) dX12_word_135 (by decide) ?_
                refine v_goto (tgt := 140) dX12_word_136 (by decide) ?_
                refine pf_X12_208 dX12_word_140 rfl (by first | rfl | assumption) (by first | rfl | assumption) hMo ?_
                refine V.md (Md.sc hC) (Frm.tr hF (Frm.up (hC.kd_sc))) (fun M1 hC hF => ?_)
                obtain ⟨hMo, hw5, hw6, hw7, hw8, hw9, hw10, hw11, hw13, hw14, hw15, hw16, hw17, hw18, -⟩ := _root_.id hC
                refine v_aload_n dX12_word_143 rfl rfl ?_
                refine v_dup dX12_word_144 rfl ?_
                refine gf_X12_202 dX12_word_145 rfl hMo ?_
                refine v_iload_n dX12_word_148 rfl rfl ?_
                refine v_if_eq (tgt := 156) dX12_word_149 (by decide) (fun h149 => ?_) (fun h149 => ?_)
                · refine v_iconst (v := 0) dX12_word_156 (by decide) ?_
                  refine v_iadd dX12_word_157 ?_
                  refine pf_X12_202 dX12_word_158 rfl hMo ?_
                  refine V.md (Md.sc hC) (Frm.tr hF (Frm.up (hC.kd_sc))) (fun M1 hC hF => ?_)
                  obtain ⟨hMo, hw5, hw6, hw7, hw8, hw9, hw10, hw11, hw13, hw14, hw15, hw16, hw17, hw18, -⟩ := _root_.id hC
                  refine v_iinc_1 dX12_word_161 rfl ?_
                  refine v_iconst (v := 0) dX12_word_164 (by decide) ?_
                  refine v_istore_4 dX12_word_165 ?_
                  rw [show nI n + Int32.ofInt 1 = nI (n + 1) from nI_1 n]
                  exact keyB _ _ _ _ _ hC hF hlA (Or.inr ⟨rfl, Int32.add_zero _, hex, hmr⟩) 10 0 rfl _ Cmp.z
                · exact absurd rfl h149
          · exact absurd (by decide) h45
        | succ f ihA =>
          intro j hj M1 mr lf1 hC hF hA hMr
          obtain ⟨hMo, hw5, hw6, hw7, hw8, hw9, hw10, hw11, hw13, hw14, hw15, hw16, hw17, hw18, -⟩ := _root_.id hC
          have hj10 : j < 10 := by omega
          obtain ⟨j0, j1, j2, j3, j4⟩ := nI_10 j hj10
          have hl9 := (hA j hj10).trans (if_neg (Nat.lt_irrefl j))
          have ew : waI (nI j) + nI n = nI (wat j + n) := by rw [waI_n j (by omega), nI_plus]
          have ew1 : waI (nI j + 1) = nI (wat j + (wrd j).length) := by rw [nI_1, waI_n _ (by omega), wat_S j hj10]
          have h53 := wat_53 j hj10
          refine v_iload dX12_word_41 rfl ?_
          refine v_bipush (v := (10)) dX12_word_43 (by decide) ?_
          refine v_icmp_ge (tgt := 130) dX12_word_45 (by decide) (fun h45 => ?_) (fun h45 => ?_)
          · exact absurd ((nI_11b j (by omega)).mp h45) (by omega)
          · refine v_aload_n dX12_word_48 rfl rfl ?_
            refine gf_X12_44 dX12_word_49 rfl hMo ?_
            refine v_iload dX12_word_52 rfl ?_
            refine v_dup2 dX12_word_54 rfl rfl ?_
            refine v_iald dX12_word_55 hw15 j0 j1 ?_
            refine v_aload_n dX12_word_56 rfl rfl ?_
            refine gf_X12_53 dX12_word_57 rfl hMo ?_
            refine v_iload dX12_word_60 rfl ?_
            refine v_iald dX12_word_62 hw18 j0 j4 ?_
            refine v_iload_n dX12_word_63 rfl rfl ?_
            refine v_iadd dX12_word_64 ?_
            refine v_aload_n dX12_word_65 rfl rfl ?_
            refine gf_X12_53 dX12_word_66 rfl hMo ?_
            refine v_iload dX12_word_69 rfl ?_
            refine v_iconst (v := 1) dX12_word_71 (by decide) ?_
            refine v_iadd dX12_word_72 ?_
            refine v_iald dX12_word_73 hw18 j2 j3 ?_
            rw [ew, ew1]
            refine v_icmp_ge (tgt := 102) dX12_word_74 (by decide) (fun h74 => ?_) (fun h74 => ?_)
            · have h74n : ¬ n < (wrd j).length := fun z => absurd h74 (Int32.not_le.mpr (nI_lt (by omega) (by omega)))
              refine v_iconst (v := 0) dX12_word_102 (by decide) ?_
              refine v_iand dX12_word_103 ?_
              first
                | rw [ltr_and hl9 (b := 0) (if_neg (fun z => h74n z.1)).symm]
                | rw [ltr_and hl9 (b := 0) (if_neg (fun z => h95n z.2)).symm]
                | rw [ltr_and hl9 (b := 1) (if_pos ⟨h74y, h95y⟩).symm]
              have hA2 : ∀ i, i < 10 → ui lf1 (nI j) (if mtW (sgS tx en he) j (n + 1) then 1 else 0) (nI i) = if i < j + 1 then (if mtW (sgS tx en he) i (n + 1) then 1 else 0) else (if mtW (sgS tx en he) i n then 1 else 0) := fun i hi => by
                by_cases e : i = j
                · rw [e, ui_s, if_pos (show j < j + 1 by omega)]
                · rw [ui_n (nI_ne i (by omega) j (by omega) e), hA i hi]
                  by_cases q : i < j
                  · rw [if_pos q, if_pos (show i < j + 1 by omega)]
                  · rw [if_neg q, if_neg (show ¬ i < j + 1 by omega)]
              refine v_iast dX12_word_104 hw15 j0 j1 ?_
              refine V.md (Md.r15 hC) (Frm.tr hF (Frm.up (hC.kd_r15))) (fun M1 hC hF => ?_)
              obtain ⟨hMo, hw5, hw6, hw7, hw8, hw9, hw10, hw11, hw13, hw14, hw15, hw16, hw17, hw18, -⟩ := _root_.id hC
              refine v_iload_n dX12_word_105 rfl rfl ?_
              refine v_aload_n dX12_word_106 rfl rfl ?_
              refine gf_X12_44 dX12_word_107 rfl hMo ?_
              refine v_iload dX12_word_110 rfl ?_
              refine v_iald dX12_word_112 hw15 j0 j1 ?_
              refine v_iconst (v := 1) dX12_word_113 (by decide) ?_
              rw [ui_s]
              refine v_icmp_ne (tgt := 121) dX12_word_114 (by decide) (fun h114 => ?_) (fun h114 => ?_)
              · have hmt : ¬ mtW (sgS tx en he) j (n + 1) := fun z => h114 (if_pos z)
                refine v_iconst (v := 0) dX12_word_121 (by decide) ?_
                refine v_ior dX12_word_122 ?_
                refine v_istore_3 dX12_word_123 ?_
                refine v_iinc_4 dX12_word_124 rfl ?_
                refine v_goto (tgt := 41) dX12_word_127 (by decide) ?_
                rw [show nI j + Int32.ofInt 1 = nI (j + 1) from nI_1 j]
                first
                  | exact ihA (j + 1) (by omega) M1 _ _ hC hF hA2 (hMr.y hmt)
                  | exact ihA (j + 1) (by omega) M1 _ _ hC hF hA2 (hMr.no hmt)
              · have hmt : mtW (sgS tx en he) j (n + 1) := Classical.byContradiction (fun z => by rw [if_neg z] at h114; exact absurd h114 (by decide))
                refine v_iconst (v := 1) dX12_word_117 (by decide) ?_
                refine v_goto (tgt := 122) dX12_word_118 (by decide) ?_
                refine v_ior dX12_word_122 ?_
                refine v_istore_3 dX12_word_123 ?_
                refine v_iinc_4 dX12_word_124 rfl ?_
                refine v_goto (tgt := 41) dX12_word_127 (by decide) ?_
                rw [show nI j + Int32.ofInt 1 = nI (j + 1) from nI_1 j]
                first
                  | exact ihA (j + 1) (by omega) M1 _ _ hC hF hA2 (hMr.y hmt)
                  | exact ihA (j + 1) (by omega) M1 _ _ hC hF hA2 (hMr.no hmt)
            · have h74y : n < (wrd j).length := Classical.byContradiction (fun z => h74 (nI_le (by omega) (by omega)))
              refine v_aload_n dX12_word_77 rfl rfl ?_
              refine gf_X12_50 dX12_word_78 rfl hMo ?_
              refine v_aload_n dX12_word_81 rfl rfl ?_
              refine gf_X12_53 dX12_word_82 rfl hMo ?_
              refine v_iload dX12_word_85 rfl ?_
              refine v_iald dX12_word_87 hw18 j0 j4 ?_
              refine v_iload_n dX12_word_88 rfl rfl ?_
              refine v_iadd dX12_word_89 ?_
              refine v_iald dX12_word_90 hw17 (by rw [ew]; exact nI_pos' (by omega)) (by rw [ew]; exact nI_lt (b := 53) (by omega) (by decide)) ?_
              refine v_aload_n dX12_word_91 rfl rfl ?_
              refine k_X12_212 dX12_word_92 rfl (r_sign htr hC h0n e60) hMo (Nat.le_of_ble_eq_true rfl) (by omega) (by omega) (Nat.le_of_ble_eq_true rfl) (fun r92 M9 h9 => ?_) (fun _ _ h9 => h9.elim)
              obtain ⟨rfl, e9⟩ := h9
              subst M9
              rw [ew, wdI_n j hj10 n h74y, show sgN tx en (he + nI n) = (sgS tx en he) n from rfl]
              refine v_icmp_ne (tgt := 102) dX12_word_95 (by decide) (fun h95 => ?_) (fun h95 => ?_)
              · have h95n := h95
                refine v_iconst (v := 0) dX12_word_102 (by decide) ?_
                refine v_iand dX12_word_103 ?_
                first
                  | rw [ltr_and hl9 (b := 0) (if_neg (fun z => h74n z.1)).symm]
                  | rw [ltr_and hl9 (b := 0) (if_neg (fun z => h95n z.2)).symm]
                  | rw [ltr_and hl9 (b := 1) (if_pos ⟨h74y, h95y⟩).symm]
                have hA2 : ∀ i, i < 10 → ui lf1 (nI j) (if mtW (sgS tx en he) j (n + 1) then 1 else 0) (nI i) = if i < j + 1 then (if mtW (sgS tx en he) i (n + 1) then 1 else 0) else (if mtW (sgS tx en he) i n then 1 else 0) := fun i hi => by
                  by_cases e : i = j
                  · rw [e, ui_s, if_pos (show j < j + 1 by omega)]
                  · rw [ui_n (nI_ne i (by omega) j (by omega) e), hA i hi]
                    by_cases q : i < j
                    · rw [if_pos q, if_pos (show i < j + 1 by omega)]
                    · rw [if_neg q, if_neg (show ¬ i < j + 1 by omega)]
                refine v_iast dX12_word_104 hw15 j0 j1 ?_
                refine V.md (Md.r15 hC) (Frm.tr hF (Frm.up (hC.kd_r15))) (fun M1 hC hF => ?_)
                obtain ⟨hMo, hw5, hw6, hw7, hw8, hw9, hw10, hw11, hw13, hw14, hw15, hw16, hw17, hw18, -⟩ := _root_.id hC
                refine v_iload_n dX12_word_105 rfl rfl ?_
                refine v_aload_n dX12_word_106 rfl rfl ?_
                refine gf_X12_44 dX12_word_107 rfl hMo ?_
                refine v_iload dX12_word_110 rfl ?_
                refine v_iald dX12_word_112 hw15 j0 j1 ?_
                refine v_iconst (v := 1) dX12_word_113 (by decide) ?_
                rw [ui_s]
                refine v_icmp_ne (tgt := 121) dX12_word_114 (by decide) (fun h114 => ?_) (fun h114 => ?_)
                · have hmt : ¬ mtW (sgS tx en he) j (n + 1) := fun z => h114 (if_pos z)
                  refine v_iconst (v := 0) dX12_word_121 (by decide) ?_
                  refine v_ior dX12_word_122 ?_
                  refine v_istore_3 dX12_word_123 ?_
                  refine v_iinc_4 dX12_word_124 rfl ?_
                  refine v_goto (tgt := 41) dX12_word_127 (by decide) ?_
                  rw [show nI j + Int32.ofInt 1 = nI (j + 1) from nI_1 j]
                  first
                    | exact ihA (j + 1) (by omega) M1 _ _ hC hF hA2 (hMr.y hmt)
                    | exact ihA (j + 1) (by omega) M1 _ _ hC hF hA2 (hMr.no hmt)
                · have hmt : mtW (sgS tx en he) j (n + 1) := Classical.byContradiction (fun z => by rw [if_neg z] at h114; exact absurd h114 (by decide))
                  refine v_iconst (v := 1) dX12_word_117 (by decide) ?_
                  refine v_goto (tgt := 122) dX12_word_118 (by decide) ?_
                  refine v_ior dX12_word_122 ?_
                  refine v_istore_3 dX12_word_123 ?_
                  refine v_iinc_4 dX12_word_124 rfl ?_
                  refine v_goto (tgt := 41) dX12_word_127 (by decide) ?_
                  rw [show nI j + Int32.ofInt 1 = nI (j + 1) from nI_1 j]
                  first
                    | exact ihA (j + 1) (by omega) M1 _ _ hC hF hA2 (hMr.y hmt)
                    | exact ihA (j + 1) (by omega) M1 _ _ hC hF hA2 (hMr.no hmt)
              · have h95y := h95
                refine v_iconst (v := 1) dX12_word_98 (by decide) ?_
                refine v_goto (tgt := 103) dX12_word_99 (by decide) ?_
                refine v_iand dX12_word_103 ?_
                first
                  | rw [ltr_and hl9 (b := 0) (if_neg (fun z => h74n z.1)).symm]
                  | rw [ltr_and hl9 (b := 0) (if_neg (fun z => h95n z.2)).symm]
                  | rw [ltr_and hl9 (b := 1) (if_pos ⟨h74y, h95y⟩).symm]
                have hA2 : ∀ i, i < 10 → ui lf1 (nI j) (if mtW (sgS tx en he) j (n + 1) then 1 else 0) (nI i) = if i < j + 1 then (if mtW (sgS tx en he) i (n + 1) then 1 else 0) else (if mtW (sgS tx en he) i n then 1 else 0) := fun i hi => by
                  by_cases e : i = j
                  · rw [e, ui_s, if_pos (show j < j + 1 by omega)]
                  · rw [ui_n (nI_ne i (by omega) j (by omega) e), hA i hi]
                    by_cases q : i < j
                    · rw [if_pos q, if_pos (show i < j + 1 by omega)]
                    · rw [if_neg q, if_neg (show ¬ i < j + 1 by omega)]
                refine v_iast dX12_word_104 hw15 j0 j1 ?_
                refine V.md (Md.r15 hC) (Frm.tr hF (Frm.up (hC.kd_r15))) (fun M1 hC hF => ?_)
                obtain ⟨hMo, hw5, hw6, hw7, hw8, hw9, hw10, hw11, hw13, hw14, hw15, hw16, hw17, hw18, -⟩ := _root_.id hC
                refine v_iload_n dX12_word_105 rfl rfl ?_
                refine v_aload_n dX12_word_106 rfl rfl ?_
                refine gf_X12_44 dX12_word_107 rfl hMo ?_
                refine v_iload dX12_word_110 rfl ?_
                refine v_iald dX12_word_112 hw15 j0 j1 ?_
                refine v_iconst (v := 1) dX12_word_113 (by decide) ?_
                rw [ui_s]
                refine v_icmp_ne (tgt := 121) dX12_word_114 (by decide) (fun h114 => ?_) (fun h114 => ?_)
                · have hmt : ¬ mtW (sgS tx en he) j (n + 1) := fun z => h114 (if_pos z)
                  refine v_iconst (v := 0) dX12_word_121 (by decide) ?_
                  refine v_ior dX12_word_122 ?_
                  refine v_istore_3 dX12_word_123 ?_
                  refine v_iinc_4 dX12_word_124 rfl ?_
                  refine v_goto (tgt := 41) dX12_word_127 (by decide) ?_
                  rw [show nI j + Int32.ofInt 1 = nI (j + 1) from nI_1 j]
                  first
                    | exact ihA (j + 1) (by omega) M1 _ _ hC hF hA2 (hMr.y hmt)
                    | exact ihA (j + 1) (by omega) M1 _ _ hC hF hA2 (hMr.no hmt)
                · have hmt : mtW (sgS tx en he) j (n + 1) := Classical.byContradiction (fun z => by rw [if_neg z] at h114; exact absurd h114 (by decide))
                  refine v_iconst (v := 1) dX12_word_117 (by decide) ?_
                  refine v_goto (tgt := 122) dX12_word_118 (by decide) ?_
                  refine v_ior dX12_word_122 ?_
                  refine v_istore_3 dX12_word_123 ?_
                  refine v_iinc_4 dX12_word_124 rfl ?_
                  refine v_goto (tgt := 41) dX12_word_127 (by decide) ?_
                  rw [show nI j + Int32.ofInt 1 = nI (j + 1) from nI_1 j]
                  first
                    | exact ihA (j + 1) (by omega) M1 _ _ hC hF hA2 (hMr.y hmt)
                    | exact ihA (j + 1) (by omega) M1 _ _ hC hF hA2 (hMr.no hmt)
      refine v_iload_n dX12_word_25 rfl rfl ?_
      refine v_if_ge (tgt := 222) dX12_word_26 (by decide) (fun h26 => ?_) (fun h26 => ?_)
      · exact absurd h26 (by decide)
      · refine v_aload_n dX12_word_29 rfl rfl ?_
        refine gf_X12_208 dX12_word_30 rfl hMo ?_
        refine v_if_ne (tgt := 222) dX12_word_33 (by decide) (fun h33 => ?_) (fun h33 => ?_)
        · exact absurd rfl h33
        · refine v_iconst (v := 0) dX12_word_36 (by decide) ?_
          refine v_istore_3 dX12_word_37 ?_
          refine v_iconst (v := 0) dX12_word_38 (by decide) ?_
          refine v_istore_4 dX12_word_39 ?_
          exact keyA 10 0 rfl M1 0 lf1 hC hF (fun i hi => (hlf i hi).trans (if_neg (Nat.not_lt_zero i)).symm) Mor.z
  have key0 : ∀ f j, j + f = 10 → ∀ (M1 : LH) (lf1 : Int32 → Int32) (p2 p3 p4 : Option Value), Md kd r M1 m w t ch ea fl sv bf tn he en ln 0 dg v b4 sa pa fr th bs tx li lf1 to → Frm kd r M M1 → (∀ i, i < j → lf1 (nI i) = 1) → V l g yX12_word cX12_word ((some .int)) [] 1 0 0 (RI (fun x M9 => ∃ lf', ((∃ i, i < 10 ∧ mtW (sgS tx en he) i (wrd i).length ∧ x = nI i ∧ Md kd r M9 m w t ch ea fl sv bf tn (he + nI (wrd i).length) en ln 0 dg v b4 sa pa fr th bs tx li lf' to) ∨ (x = -1 ∧ ∃ n, (∃ i, i < 10 ∧ mtW (sgS tx en he) i n) ∧ (∀ i, i < 10 → ¬ (mtW (sgS tx en he) i n ∧ (wrd i).length = n)) ∧ (∀ i, i < 10 → ¬ mtW (sgS tx en he) i (n + 1)) ∧ Md kd r M9 m w t ch ea fl sv bf tn (he + nI n) en ln 1 dg v b4 sa pa fr th bs tx li lf' to)) ∧ Frm kd r M M9) nX) X M1 0 0 2 [some (.ref m), some (.int (nI j)), p2, p3, p4] [] := by
    clear hC hF hMo hw5 hw6 hw7 hw8 hw9 hw10 hw11 hw13 hw14 hw15 hw16 hw17 hw18
    intro f
    induction f with
    | zero =>
      intro j hj M1 lf1 p2 p3 p4 hC hF h1
      obtain ⟨hMo, hw5, hw6, hw7, hw8, hw9, hw10, hw11, hw13, hw14, hw15, hw16, hw17, hw18, -⟩ := _root_.id hC
      obtain rfl : j = 10 := by omega
      refine v_iload_n dX12_word_2 rfl rfl ?_
      refine v_bipush (v := (10)) dX12_word_3 (by decide) ?_
      refine v_icmp_ge (tgt := 21) dX12_word_5 (by decide) (fun h5 => ?_) (fun h5 => ?_)
      · refine v_iconst (v := 0) dX12_word_21 (by decide) ?_
        refine v_istore_1 dX12_word_22 ?_
        refine v_iconst (v := (-1)) dX12_word_23 (by decide) ?_
        refine v_istore_2 dX12_word_24 ?_
        exact key 8 0 rfl M1 lf1 _ _ trivial ⟨0, by decide, mtW_0⟩ (fun i hi z => absurd z.2 (Nat.ne_of_gt (wrd_0 i hi))) (fun i hi => (h1 i hi).trans (if_pos mtW_0).symm) (by rw [show he + nI 0 = he from Int32.add_zero he]; exact hC) hF
      · exact absurd (by decide) h5
    | succ f ih =>
      intro j hj M1 lf1 p2 p3 p4 hC hF h1
      obtain ⟨hMo, hw5, hw6, hw7, hw8, hw9, hw10, hw11, hw13, hw14, hw15, hw16, hw17, hw18, -⟩ := _root_.id hC
      have hj10 : j < 10 := by omega
      obtain ⟨j0, j1, -⟩ := nI_10 j hj10
      refine v_iload_n dX12_word_2 rfl rfl ?_
      refine v_bipush (v := (10)) dX12_word_3 (by decide) ?_
      refine v_icmp_ge (tgt := 21) dX12_word_5 (by decide) (fun h5 => ?_) (fun h5 => ?_)
      · exact absurd ((nI_11b j (by omega)).mp h5) (by omega)
      · refine v_aload_n dX12_word_8 rfl rfl ?_
        refine gf_X12_44 dX12_word_9 rfl hMo ?_
        refine v_iload_n dX12_word_12 rfl rfl ?_
        refine v_iconst (v := 1) dX12_word_13 (by decide) ?_
        refine v_iast dX12_word_14 hw15 j0 j1 ?_
        refine V.md (Md.r15 hC) (Frm.tr hF (Frm.up (hC.kd_r15))) (fun M1 hC hF => ?_)
        obtain ⟨hMo, hw5, hw6, hw7, hw8, hw9, hw10, hw11, hw13, hw14, hw15, hw16, hw17, hw18, -⟩ := _root_.id hC
        refine v_iinc_1 dX12_word_15 rfl ?_
        refine v_goto (tgt := 2) dX12_word_18 (by decide) ?_
        rw [show nI j + Int32.ofInt 1 = nI (j + 1) from nI_1 j]
        refine ih (j + 1) (by omega) M1 _ _ _ _ hC hF (fun i hi => ?_)
        by_cases e : i = j
        · rw [e, ui_s]
        · rw [ui_n (nI_ne i (by omega) j (by omega) e)]
          exact h1 i (by omega)
  refine v_iconst (v := 0) dX12_word_0 (by decide) ?_
  refine v_istore_1 dX12_word_1 ?_
  exact key0 10 0 rfl M lf _ _ _ hC hF (fun i hi => absurd hi (Nat.not_lt_zero i))

