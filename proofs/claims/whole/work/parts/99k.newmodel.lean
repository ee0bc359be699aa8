/-! ===== constructors: SledgePostModel ===== -/
/-- new rows of the object m -/
def Rw (M0 M : LH) (m : Nat) (ws : List (Nat × Ec)) : Prop := (∀ p ∈ ws, M p.1 = some p.2 ∧ (∃ N F, p.2 = ia N F) ∧ M0 p.1 = none) ∧ (ws.map Prod.fst).Nodup ∧ Gw m M0 M
section RW
variable {M0 M : LH} {m q : Nat} {ws : List (Nat × Ec)}
theorem Rw.nil {e : Ec} (h : M m = some e) : Rw M M m [] := ⟨(fun p h => nomatch h), List.nodup_nil, Gw.rf h⟩
theorem Rw.new {N : Int32} {F : Int32 → Int32} (h : Rw M0 M m ws) (hq : M q = none) : Rw M0 (hup M q (ia N F)) m ((q, ia N F) :: ws) := by
  refine ⟨fun p hp => ?_, ?_, h.2.2.new hq⟩
  · rcases List.mem_cons.mp hp with e | hp
    · rw [e]
      exact ⟨hup_s, ⟨_, _, rfl⟩, h.2.2.fr hq⟩
    · obtain ⟨a, b, c⟩ := h.1 p hp
      exact ⟨up_f a hq, b, c⟩
  · rw [List.map_cons, List.nodup_cons]
    refine ⟨fun z => ?_, h.2.1⟩
    obtain ⟨p, hp, e⟩ := List.mem_map.mp z
    have y := (h.1 p hp).1
    rw [e] at y
    exact nn y hq
theorem Rw.at {fs fs' : List Value} (h : Rw M0 M m ws) (hm : M m = some (ob 10 fs)) : Rw M0 (hup M m (ob 10 fs')) m ws := by
  refine ⟨fun p hp => ?_, h.2.1, h.2.2.at⟩
  obtain ⟨a, ⟨N, F, b⟩, c⟩ := h.1 p hp
  refine ⟨up_k a hm (by rw [b]; exact ob_ia.symm), ⟨N, F, b⟩, c⟩
end RW
/-- where the i-th row stands in the list of all of them -/
def ndp (i : Nat) : Nat := ([0, 0, 0, 0, 0, 13, 12, 11, 10, 9, 8, 7, 0, 6, 5, 4, 3, 2, 1] : List Nat).getD i 0
theorem nd_inj {a0 a1 a2 a3 a4 a5 a6 a7 a8 a9 a10 a11 a12 a13 : Nat} (h : ([a0, a1, a2, a3, a4, a5, a6, a7, a8, a9, a10, a11, a12, a13] : List Nat).Nodup) : ∀ i j, 5 ≤ i → i < 19 → 5 ≤ j → j < 19 → (fun n => ([0, 0, 0, 0, 0, a13, a12, a11, a10, a9, a8, a7, a0, a6, a5, a4, a3, a2, a1] : List Nat).getD n 0) i = (fun n => ([0, 0, 0, 0, 0, a13, a12, a11, a10, a9, a8, a7, a0, a6, a5, a4, a3, a2, a1] : List Nat).getD n 0) j → i = j := by
  have g : ∀ i, 5 ≤ i → i < 19 → [a0, a1, a2, a3, a4, a5, a6, a7, a8, a9, a10, a11, a12, a13][ndp i]? = some ((fun n => ([0, 0, 0, 0, 0, a13, a12, a11, a10, a9, a8, a7, a0, a6, a5, a4, a3, a2, a1] : List Nat).getD n 0) i) := by
    intro i h0 h1
    match i, h0, h1 with
    | 0, h0, _ => exact absurd h0 (by decide)
    | 1, h0, _ => exact absurd h0 (by decide)
    | 2, h0, _ => exact absurd h0 (by decide)
    | 3, h0, _ => exact absurd h0 (by decide)
    | 4, h0, _ => exact absurd h0 (by decide)
    | 5, _, _ => rfl
    | 6, _, _ => rfl
    | 7, _, _ => rfl
    | 8, _, _ => rfl
    | 9, _, _ => rfl
    | 10, _, _ => rfl
    | 11, _, _ => rfl
    | 12, _, _ => rfl
    | 13, _, _ => rfl
    | 14, _, _ => rfl
    | 15, _, _ => rfl
    | 16, _, _ => rfl
    | 17, _, _ => rfl
    | 18, _, _ => rfl
    | n + 19, _, h1 => exact absurd h1 (by omega)
  have inj : ∀ i, i < 19 → ∀ j, j < 19 → 5 ≤ i → 5 ≤ j → ndp i = ndp j → i = j := by decide
  intro i j i0 i1 j0 j1 e
  refine inj i i1 j j1 i0 j0 ?_
  have gi := g i i0 i1
  have gj := g j j0 j1
  rw [e] at gi
  have li := (List.getElem?_eq_some_iff.mp gi).1
  exact (List.getElem?_inj li h).mp (gi.trans gj.symm)
theorem dX12_init_0 : decode cX12_init 0 = .ok (.aload_n 0, 1) := by decide +kernel
theorem dX12_init_1 : decode cX12_init 1 = .ok (.invokespecial 1, 3) := by decide +kernel
theorem dX12_init_4 : decode cX12_init 4 = .ok (.aload_n 0, 1) := by decide +kernel
theorem dX12_init_5 : decode cX12_init 5 = .ok (.iconst (-1), 1) := by decide +kernel
theorem dX12_init_6 : decode cX12_init 6 = .ok (.putfield 7, 3) := by decide +kernel
theorem dX12_init_9 : decode cX12_init 9 = .ok (.aload_n 0, 1) := by decide +kernel
theorem dX12_init_10 : decode cX12_init 10 = .ok (.iconst (-1), 1) := by decide +kernel
theorem dX12_init_11 : decode cX12_init 11 = .ok (.putfield 13, 3) := by decide +kernel
theorem dX12_init_14 : decode cX12_init 14 = .ok (.aload_n 0, 1) := by decide +kernel
theorem dX12_init_15 : decode cX12_init 15 = .ok (.sipush 150, 3) := by decide +kernel
theorem dX12_init_18 : decode cX12_init 18 = .ok (.newarray .int, 2) := by decide +kernel
theorem dX12_init_20 : decode cX12_init 20 = .ok (.putfield 16, 3) := by decide +kernel
theorem dX12_init_23 : decode cX12_init 23 = .ok (.aload_n 0, 1) := by decide +kernel
theorem dX12_init_24 : decode cX12_init 24 = .ok (.sipush 150, 3) := by decide +kernel
theorem dX12_init_27 : decode cX12_init 27 = .ok (.newarray .int, 2) := by decide +kernel
theorem dX12_init_29 : decode cX12_init 29 = .ok (.putfield 20, 3) := by decide +kernel
theorem dX12_init_32 : decode cX12_init 32 = .ok (.aload_n 0, 1) := by decide +kernel
theorem dX12_init_33 : decode cX12_init 33 = .ok (.sipush 150, 3) := by decide +kernel
theorem dX12_init_36 : decode cX12_init 36 = .ok (.newarray .int, 2) := by decide +kernel
theorem dX12_init_38 : decode cX12_init 38 = .ok (.putfield 23, 3) := by decide +kernel
theorem dX12_init_41 : decode cX12_init 41 = .ok (.aload_n 0, 1) := by decide +kernel
theorem dX12_init_42 : decode cX12_init 42 = .ok (.sipush 1200, 3) := by decide +kernel
theorem dX12_init_45 : decode cX12_init 45 = .ok (.newarray .int, 2) := by decide +kernel
theorem dX12_init_47 : decode cX12_init 47 = .ok (.putfield 26, 3) := by decide +kernel
theorem dX12_init_50 : decode cX12_init 50 = .ok (.aload_n 0, 1) := by decide +kernel
theorem dX12_init_51 : decode cX12_init 51 = .ok (.bipush 49, 2) := by decide +kernel
theorem dX12_init_53 : decode cX12_init 53 = .ok (.newarray .int, 2) := by decide +kernel
theorem dX12_init_55 : decode cX12_init 55 = .ok (.putfield 29, 3) := by decide +kernel
theorem dX12_init_58 : decode cX12_init 58 = .ok (.aload_n 0, 1) := by decide +kernel
theorem dX12_init_59 : decode cX12_init 59 = .ok (.bipush 12, 2) := by decide +kernel
theorem dX12_init_61 : decode cX12_init 61 = .ok (.newarray .int, 2) := by decide +kernel
theorem dX12_init_63 : decode cX12_init 63 = .ok (.putfield 32, 3) := by decide +kernel
theorem dX12_init_66 : decode cX12_init 66 = .ok (.aload_n 0, 1) := by decide +kernel
theorem dX12_init_67 : decode cX12_init 67 = .ok (.sipush 896, 3) := by decide +kernel
theorem dX12_init_70 : decode cX12_init 70 = .ok (.newarray .int, 2) := by decide +kernel
theorem dX12_init_72 : decode cX12_init 72 = .ok (.putfield 35, 3) := by decide +kernel
theorem dX12_init_75 : decode cX12_init 75 = .ok (.aload_n 0, 1) := by decide +kernel
theorem dX12_init_76 : decode cX12_init 76 = .ok (.bipush 60, 2) := by decide +kernel
theorem dX12_init_78 : decode cX12_init 78 = .ok (.newarray .int, 2) := by decide +kernel
theorem dX12_init_80 : decode cX12_init 80 = .ok (.putfield 38, 3) := by decide +kernel
theorem dX12_init_83 : decode cX12_init 83 = .ok (.aload_n 0, 1) := by decide +kernel
theorem dX12_init_84 : decode cX12_init 84 = .ok (.bipush 120, 2) := by decide +kernel
theorem dX12_init_86 : decode cX12_init 86 = .ok (.newarray .int, 2) := by decide +kernel
theorem dX12_init_88 : decode cX12_init 88 = .ok (.putfield 41, 3) := by decide +kernel
theorem dX12_init_91 : decode cX12_init 91 = .ok (.aload_n 0, 1) := by decide +kernel
theorem dX12_init_92 : decode cX12_init 92 = .ok (.bipush 10, 2) := by decide +kernel
theorem dX12_init_94 : decode cX12_init 94 = .ok (.newarray .int, 2) := by decide +kernel
theorem dX12_init_96 : decode cX12_init 96 = .ok (.putfield 44, 3) := by decide +kernel
theorem dX12_init_99 : decode cX12_init 99 = .ok (.aload_n 0, 1) := by decide +kernel
theorem dX12_init_100 : decode cX12_init 100 = .ok (.bipush 6, 2) := by decide +kernel
theorem dX12_init_102 : decode cX12_init 102 = .ok (.newarray .int, 2) := by decide +kernel
theorem dX12_init_104 : decode cX12_init 104 = .ok (.putfield 47, 3) := by decide +kernel
theorem dX12_init_107 : decode cX12_init 107 = .ok (.aload_n 0, 1) := by decide +kernel
theorem dX12_init_108 : decode cX12_init 108 = .ok (.bipush 53, 2) := by decide +kernel
theorem dX12_init_110 : decode cX12_init 110 = .ok (.newarray .int, 2) := by decide +kernel
theorem dX12_init_112 : decode cX12_init 112 = .ok (.dup, 1) := by decide +kernel
theorem dX12_init_113 : decode cX12_init 113 = .ok (.iconst 0, 1) := by decide +kernel
theorem dX12_init_114 : decode cX12_init 114 = .ok (.bipush 115, 2) := by decide +kernel
theorem dX12_init_116 : decode cX12_init 116 = .ok (.iastore, 1) := by decide +kernel
theorem dX12_init_117 : decode cX12_init 117 = .ok (.dup, 1) := by decide +kernel
theorem dX12_init_118 : decode cX12_init 118 = .ok (.iconst 1, 1) := by decide +kernel
theorem dX12_init_119 : decode cX12_init 119 = .ok (.bipush 116, 2) := by decide +kernel
theorem dX12_init_121 : decode cX12_init 121 = .ok (.iastore, 1) := by decide +kernel
theorem dX12_init_122 : decode cX12_init 122 = .ok (.dup, 1) := by decide +kernel
theorem dX12_init_123 : decode cX12_init 123 = .ok (.iconst 2, 1) := by decide +kernel
theorem dX12_init_124 : decode cX12_init 124 = .ok (.bipush 97, 2) := by decide +kernel
theorem dX12_init_126 : decode cX12_init 126 = .ok (.iastore, 1) := by decide +kernel
theorem dX12_init_127 : decode cX12_init 127 = .ok (.dup, 1) := by decide +kernel
theorem dX12_init_128 : decode cX12_init 128 = .ok (.iconst 3, 1) := by decide +kernel
theorem dX12_init_129 : decode cX12_init 129 = .ok (.bipush 116, 2) := by decide +kernel
theorem dX12_init_131 : decode cX12_init 131 = .ok (.iastore, 1) := by decide +kernel
theorem dX12_init_132 : decode cX12_init 132 = .ok (.dup, 1) := by decide +kernel
theorem dX12_init_133 : decode cX12_init 133 = .ok (.iconst 4, 1) := by decide +kernel
theorem dX12_init_134 : decode cX12_init 134 = .ok (.bipush 105, 2) := by decide +kernel
theorem dX12_init_136 : decode cX12_init 136 = .ok (.iastore, 1) := by decide +kernel
theorem dX12_init_137 : decode cX12_init 137 = .ok (.dup, 1) := by decide +kernel
theorem dX12_init_138 : decode cX12_init 138 = .ok (.iconst 5, 1) := by decide +kernel
theorem dX12_init_139 : decode cX12_init 139 = .ok (.bipush 111, 2) := by decide +kernel
theorem dX12_init_141 : decode cX12_init 141 = .ok (.iastore, 1) := by decide +kernel
theorem dX12_init_142 : decode cX12_init 142 = .ok (.dup, 1) := by decide +kernel
theorem dX12_init_143 : decode cX12_init 143 = .ok (.bipush 6, 2) := by decide +kernel
theorem dX12_init_145 : decode cX12_init 145 = .ok (.bipush 110, 2) := by decide +kernel
theorem dX12_init_147 : decode cX12_init 147 = .ok (.iastore, 1) := by decide +kernel
theorem dX12_init_148 : decode cX12_init 148 = .ok (.dup, 1) := by decide +kernel
theorem dX12_init_149 : decode cX12_init 149 = .ok (.bipush 7, 2) := by decide +kernel
theorem dX12_init_151 : decode cX12_init 151 = .ok (.bipush 114, 2) := by decide +kernel
theorem dX12_init_153 : decode cX12_init 153 = .ok (.iastore, 1) := by decide +kernel
theorem dX12_init_154 : decode cX12_init 154 = .ok (.dup, 1) := by decide +kernel
theorem dX12_init_155 : decode cX12_init 155 = .ok (.bipush 8, 2) := by decide +kernel
theorem dX12_init_157 : decode cX12_init 157 = .ok (.bipush 111, 2) := by decide +kernel
theorem dX12_init_159 : decode cX12_init 159 = .ok (.iastore, 1) := by decide +kernel
theorem dX12_init_160 : decode cX12_init 160 = .ok (.dup, 1) := by decide +kernel
theorem dX12_init_161 : decode cX12_init 161 = .ok (.bipush 9, 2) := by decide +kernel
theorem dX12_init_163 : decode cX12_init 163 = .ok (.bipush 97, 2) := by decide +kernel
theorem dX12_init_165 : decode cX12_init 165 = .ok (.iastore, 1) := by decide +kernel
theorem dX12_init_166 : decode cX12_init 166 = .ok (.dup, 1) := by decide +kernel
theorem dX12_init_167 : decode cX12_init 167 = .ok (.bipush 10, 2) := by decide +kernel
theorem dX12_init_169 : decode cX12_init 169 = .ok (.bipush 100, 2) := by decide +kernel
theorem dX12_init_171 : decode cX12_init 171 = .ok (.iastore, 1) := by decide +kernel
theorem dX12_init_172 : decode cX12_init 172 = .ok (.dup, 1) := by decide +kernel
theorem dX12_init_173 : decode cX12_init 173 = .ok (.bipush 11, 2) := by decide +kernel
theorem dX12_init_175 : decode cX12_init 175 = .ok (.bipush 32, 2) := by decide +kernel
theorem dX12_init_177 : decode cX12_init 177 = .ok (.iastore, 1) := by decide +kernel
theorem dX12_init_178 : decode cX12_init 178 = .ok (.dup, 1) := by decide +kernel
theorem dX12_init_179 : decode cX12_init 179 = .ok (.bipush 12, 2) := by decide +kernel
theorem dX12_init_181 : decode cX12_init 181 = .ok (.bipush 115, 2) := by decide +kernel
theorem dX12_init_183 : decode cX12_init 183 = .ok (.iastore, 1) := by decide +kernel
theorem dX12_init_184 : decode cX12_init 184 = .ok (.dup, 1) := by decide +kernel
theorem dX12_init_185 : decode cX12_init 185 = .ok (.bipush 13, 2) := by decide +kernel
theorem dX12_init_187 : decode cX12_init 187 = .ok (.bipush 108, 2) := by decide +kernel
theorem dX12_init_189 : decode cX12_init 189 = .ok (.iastore, 1) := by decide +kernel
theorem dX12_init_190 : decode cX12_init 190 = .ok (.dup, 1) := by decide +kernel
theorem dX12_init_191 : decode cX12_init 191 = .ok (.bipush 14, 2) := by decide +kernel
theorem dX12_init_193 : decode cX12_init 193 = .ok (.bipush 101, 2) := by decide +kernel
theorem dX12_init_195 : decode cX12_init 195 = .ok (.iastore, 1) := by decide +kernel
theorem dX12_init_196 : decode cX12_init 196 = .ok (.dup, 1) := by decide +kernel
theorem dX12_init_197 : decode cX12_init 197 = .ok (.bipush 15, 2) := by decide +kernel
theorem dX12_init_199 : decode cX12_init 199 = .ok (.bipush 100, 2) := by decide +kernel
theorem dX12_init_201 : decode cX12_init 201 = .ok (.iastore, 1) := by decide +kernel
theorem dX12_init_202 : decode cX12_init 202 = .ok (.dup, 1) := by decide +kernel
theorem dX12_init_203 : decode cX12_init 203 = .ok (.bipush 16, 2) := by decide +kernel
theorem dX12_init_205 : decode cX12_init 205 = .ok (.bipush 103, 2) := by decide +kernel
theorem dX12_init_207 : decode cX12_init 207 = .ok (.iastore, 1) := by decide +kernel
theorem dX12_init_208 : decode cX12_init 208 = .ok (.dup, 1) := by decide +kernel
theorem dX12_init_209 : decode cX12_init 209 = .ok (.bipush 17, 2) := by decide +kernel
theorem dX12_init_211 : decode cX12_init 211 = .ok (.bipush 101, 2) := by decide +kernel
theorem dX12_init_213 : decode cX12_init 213 = .ok (.iastore, 1) := by decide +kernel
theorem dX12_init_214 : decode cX12_init 214 = .ok (.dup, 1) := by decide +kernel
theorem dX12_init_215 : decode cX12_init 215 = .ok (.bipush 18, 2) := by decide +kernel
theorem dX12_init_217 : decode cX12_init 217 = .ok (.bipush 32, 2) := by decide +kernel
theorem dX12_init_219 : decode cX12_init 219 = .ok (.iastore, 1) := by decide +kernel
theorem dX12_init_220 : decode cX12_init 220 = .ok (.dup, 1) := by decide +kernel
theorem dX12_init_221 : decode cX12_init 221 = .ok (.bipush 19, 2) := by decide +kernel
theorem dX12_init_223 : decode cX12_init 223 = .ok (.bipush 112, 2) := by decide +kernel
theorem dX12_init_225 : decode cX12_init 225 = .ok (.iastore, 1) := by decide +kernel
theorem dX12_init_226 : decode cX12_init 226 = .ok (.dup, 1) := by decide +kernel
theorem dX12_init_227 : decode cX12_init 227 = .ok (.bipush 20, 2) := by decide +kernel
theorem dX12_init_229 : decode cX12_init 229 = .ok (.bipush 111, 2) := by decide +kernel
theorem dX12_init_231 : decode cX12_init 231 = .ok (.iastore, 1) := by decide +kernel
theorem dX12_init_232 : decode cX12_init 232 = .ok (.dup, 1) := by decide +kernel
theorem dX12_init_233 : decode cX12_init 233 = .ok (.bipush 21, 2) := by decide +kernel
theorem dX12_init_235 : decode cX12_init 235 = .ok (.bipush 115, 2) := by decide +kernel
theorem dX12_init_237 : decode cX12_init 237 = .ok (.iastore, 1) := by decide +kernel
theorem dX12_init_238 : decode cX12_init 238 = .ok (.dup, 1) := by decide +kernel
theorem dX12_init_239 : decode cX12_init 239 = .ok (.bipush 22, 2) := by decide +kernel
theorem dX12_init_241 : decode cX12_init 241 = .ok (.bipush 116, 2) := by decide +kernel
theorem dX12_init_243 : decode cX12_init 243 = .ok (.iastore, 1) := by decide +kernel
theorem dX12_init_244 : decode cX12_init 244 = .ok (.dup, 1) := by decide +kernel
theorem dX12_init_245 : decode cX12_init 245 = .ok (.bipush 23, 2) := by decide +kernel
theorem dX12_init_247 : decode cX12_init 247 = .ok (.bipush 32, 2) := by decide +kernel
theorem dX12_init_249 : decode cX12_init 249 = .ok (.iastore, 1) := by decide +kernel
theorem dX12_init_250 : decode cX12_init 250 = .ok (.dup, 1) := by decide +kernel
theorem dX12_init_251 : decode cX12_init 251 = .ok (.bipush 24, 2) := by decide +kernel
theorem dX12_init_253 : decode cX12_init 253 = .ok (.bipush 108, 2) := by decide +kernel
theorem dX12_init_255 : decode cX12_init 255 = .ok (.iastore, 1) := by decide +kernel
theorem dX12_init_256 : decode cX12_init 256 = .ok (.dup, 1) := by decide +kernel
theorem dX12_init_257 : decode cX12_init 257 = .ok (.bipush 25, 2) := by decide +kernel
theorem dX12_init_259 : decode cX12_init 259 = .ok (.bipush 111, 2) := by decide +kernel
theorem dX12_init_261 : decode cX12_init 261 = .ok (.iastore, 1) := by decide +kernel
theorem dX12_init_262 : decode cX12_init 262 = .ok (.dup, 1) := by decide +kernel
theorem dX12_init_263 : decode cX12_init 263 = .ok (.bipush 26, 2) := by decide +kernel
theorem dX12_init_265 : decode cX12_init 265 = .ok (.bipush 97, 2) := by decide +kernel
theorem dX12_init_267 : decode cX12_init 267 = .ok (.iastore, 1) := by decide +kernel
theorem dX12_init_268 : decode cX12_init 268 = .ok (.dup, 1) := by decide +kernel
theorem dX12_init_269 : decode cX12_init 269 = .ok (.bipush 27, 2) := by decide +kernel
theorem dX12_init_271 : decode cX12_init 271 = .ok (.bipush 100, 2) := by decide +kernel
theorem dX12_init_273 : decode cX12_init 273 = .ok (.iastore, 1) := by decide +kernel
theorem dX12_init_274 : decode cX12_init 274 = .ok (.dup, 1) := by decide +kernel
theorem dX12_init_275 : decode cX12_init 275 = .ok (.bipush 28, 2) := by decide +kernel
theorem dX12_init_277 : decode cX12_init 277 = .ok (.bipush 32, 2) := by decide +kernel
theorem dX12_init_279 : decode cX12_init 279 = .ok (.iastore, 1) := by decide +kernel
theorem dX12_init_280 : decode cX12_init 280 = .ok (.dup, 1) := by decide +kernel
theorem dX12_init_281 : decode cX12_init 281 = .ok (.bipush 29, 2) := by decide +kernel
theorem dX12_init_283 : decode cX12_init 283 = .ok (.bipush 117, 2) := by decide +kernel
theorem dX12_init_285 : decode cX12_init 285 = .ok (.iastore, 1) := by decide +kernel
theorem dX12_init_286 : decode cX12_init 286 = .ok (.dup, 1) := by decide +kernel
theorem dX12_init_287 : decode cX12_init 287 = .ok (.bipush 30, 2) := by decide +kernel
theorem dX12_init_289 : decode cX12_init 289 = .ok (.bipush 110, 2) := by decide +kernel
theorem dX12_init_291 : decode cX12_init 291 = .ok (.iastore, 1) := by decide +kernel
theorem dX12_init_292 : decode cX12_init 292 = .ok (.dup, 1) := by decide +kernel
theorem dX12_init_293 : decode cX12_init 293 = .ok (.bipush 31, 2) := by decide +kernel
theorem dX12_init_295 : decode cX12_init 295 = .ok (.bipush 108, 2) := by decide +kernel
theorem dX12_init_297 : decode cX12_init 297 = .ok (.iastore, 1) := by decide +kernel
theorem dX12_init_298 : decode cX12_init 298 = .ok (.dup, 1) := by decide +kernel
theorem dX12_init_299 : decode cX12_init 299 = .ok (.bipush 32, 2) := by decide +kernel
theorem dX12_init_301 : decode cX12_init 301 = .ok (.bipush 111, 2) := by decide +kernel
theorem dX12_init_303 : decode cX12_init 303 = .ok (.iastore, 1) := by decide +kernel
theorem dX12_init_304 : decode cX12_init 304 = .ok (.dup, 1) := by decide +kernel
theorem dX12_init_305 : decode cX12_init 305 = .ok (.bipush 33, 2) := by decide +kernel
theorem dX12_init_307 : decode cX12_init 307 = .ok (.bipush 97, 2) := by decide +kernel
theorem dX12_init_309 : decode cX12_init 309 = .ok (.iastore, 1) := by decide +kernel
theorem dX12_init_310 : decode cX12_init 310 = .ok (.dup, 1) := by decide +kernel
theorem dX12_init_311 : decode cX12_init 311 = .ok (.bipush 34, 2) := by decide +kernel
theorem dX12_init_313 : decode cX12_init 313 = .ok (.bipush 100, 2) := by decide +kernel
theorem dX12_init_315 : decode cX12_init 315 = .ok (.iastore, 1) := by decide +kernel
theorem dX12_init_316 : decode cX12_init 316 = .ok (.dup, 1) := by decide +kernel
theorem dX12_init_317 : decode cX12_init 317 = .ok (.bipush 35, 2) := by decide +kernel
theorem dX12_init_319 : decode cX12_init 319 = .ok (.bipush 32, 2) := by decide +kernel
theorem dX12_init_321 : decode cX12_init 321 = .ok (.iastore, 1) := by decide +kernel
theorem dX12_init_322 : decode cX12_init 322 = .ok (.dup, 1) := by decide +kernel
theorem dX12_init_323 : decode cX12_init 323 = .ok (.bipush 36, 2) := by decide +kernel
theorem dX12_init_325 : decode cX12_init 325 = .ok (.bipush 98, 2) := by decide +kernel
theorem dX12_init_327 : decode cX12_init 327 = .ok (.iastore, 1) := by decide +kernel
theorem dX12_init_328 : decode cX12_init 328 = .ok (.dup, 1) := by decide +kernel
theorem dX12_init_329 : decode cX12_init 329 = .ok (.bipush 37, 2) := by decide +kernel
theorem dX12_init_331 : decode cX12_init 331 = .ok (.bipush 101, 2) := by decide +kernel
theorem dX12_init_333 : decode cX12_init 333 = .ok (.iastore, 1) := by decide +kernel
theorem dX12_init_334 : decode cX12_init 334 = .ok (.dup, 1) := by decide +kernel
theorem dX12_init_335 : decode cX12_init 335 = .ok (.bipush 38, 2) := by decide +kernel
theorem dX12_init_337 : decode cX12_init 337 = .ok (.bipush 115, 2) := by decide +kernel
theorem dX12_init_339 : decode cX12_init 339 = .ok (.iastore, 1) := by decide +kernel
theorem dX12_init_340 : decode cX12_init 340 = .ok (.dup, 1) := by decide +kernel
theorem dX12_init_341 : decode cX12_init 341 = .ok (.bipush 39, 2) := by decide +kernel
theorem dX12_init_343 : decode cX12_init 343 = .ok (.bipush 116, 2) := by decide +kernel
theorem dX12_init_345 : decode cX12_init 345 = .ok (.iastore, 1) := by decide +kernel
theorem dX12_init_346 : decode cX12_init 346 = .ok (.dup, 1) := by decide +kernel
theorem dX12_init_347 : decode cX12_init 347 = .ok (.bipush 40, 2) := by decide +kernel
theorem dX12_init_349 : decode cX12_init 349 = .ok (.bipush 32, 2) := by decide +kernel
theorem dX12_init_351 : decode cX12_init 351 = .ok (.iastore, 1) := by decide +kernel
theorem dX12_init_352 : decode cX12_init 352 = .ok (.dup, 1) := by decide +kernel
theorem dX12_init_353 : decode cX12_init 353 = .ok (.bipush 41, 2) := by decide +kernel
theorem dX12_init_355 : decode cX12_init 355 = .ok (.bipush 103, 2) := by decide +kernel
theorem dX12_init_357 : decode cX12_init 357 = .ok (.iastore, 1) := by decide +kernel
theorem dX12_init_358 : decode cX12_init 358 = .ok (.dup, 1) := by decide +kernel
theorem dX12_init_359 : decode cX12_init 359 = .ok (.bipush 42, 2) := by decide +kernel
theorem dX12_init_361 : decode cX12_init 361 = .ok (.bipush 111, 2) := by decide +kernel
theorem dX12_init_363 : decode cX12_init 363 = .ok (.iastore, 1) := by decide +kernel
theorem dX12_init_364 : decode cX12_init 364 = .ok (.dup, 1) := by decide +kernel
theorem dX12_init_365 : decode cX12_init 365 = .ok (.bipush 43, 2) := by decide +kernel
theorem dX12_init_367 : decode cX12_init 367 = .ok (.bipush 32, 2) := by decide +kernel
theorem dX12_init_369 : decode cX12_init 369 = .ok (.iastore, 1) := by decide +kernel
theorem dX12_init_370 : decode cX12_init 370 = .ok (.dup, 1) := by decide +kernel
theorem dX12_init_371 : decode cX12_init 371 = .ok (.bipush 44, 2) := by decide +kernel
theorem dX12_init_373 : decode cX12_init 373 = .ok (.bipush 104, 2) := by decide +kernel
theorem dX12_init_375 : decode cX12_init 375 = .ok (.iastore, 1) := by decide +kernel
theorem dX12_init_376 : decode cX12_init 376 = .ok (.dup, 1) := by decide +kernel
theorem dX12_init_377 : decode cX12_init 377 = .ok (.bipush 45, 2) := by decide +kernel
theorem dX12_init_379 : decode cX12_init 379 = .ok (.bipush 101, 2) := by decide +kernel
theorem dX12_init_381 : decode cX12_init 381 = .ok (.iastore, 1) := by decide +kernel
theorem dX12_init_382 : decode cX12_init 382 = .ok (.dup, 1) := by decide +kernel
theorem dX12_init_383 : decode cX12_init 383 = .ok (.bipush 46, 2) := by decide +kernel
theorem dX12_init_385 : decode cX12_init 385 = .ok (.bipush 97, 2) := by decide +kernel
theorem dX12_init_387 : decode cX12_init 387 = .ok (.iastore, 1) := by decide +kernel
theorem dX12_init_388 : decode cX12_init 388 = .ok (.dup, 1) := by decide +kernel
theorem dX12_init_389 : decode cX12_init 389 = .ok (.bipush 47, 2) := by decide +kernel
theorem dX12_init_391 : decode cX12_init 391 = .ok (.bipush 116, 2) := by decide +kernel
theorem dX12_init_393 : decode cX12_init 393 = .ok (.iastore, 1) := by decide +kernel
theorem dX12_init_394 : decode cX12_init 394 = .ok (.dup, 1) := by decide +kernel
theorem dX12_init_395 : decode cX12_init 395 = .ok (.bipush 48, 2) := by decide +kernel
theorem dX12_init_397 : decode cX12_init 397 = .ok (.bipush 32, 2) := by decide +kernel
theorem dX12_init_399 : decode cX12_init 399 = .ok (.iastore, 1) := by decide +kernel
theorem dX12_init_400 : decode cX12_init 400 = .ok (.dup, 1) := by decide +kernel
theorem dX12_init_401 : decode cX12_init 401 = .ok (.bipush 49, 2) := by decide +kernel
theorem dX12_init_403 : decode cX12_init 403 = .ok (.bipush 119, 2) := by decide +kernel
theorem dX12_init_405 : decode cX12_init 405 = .ok (.iastore, 1) := by decide +kernel
theorem dX12_init_406 : decode cX12_init 406 = .ok (.dup, 1) := by decide +kernel
theorem dX12_init_407 : decode cX12_init 407 = .ok (.bipush 50, 2) := by decide +kernel
theorem dX12_init_409 : decode cX12_init 409 = .ok (.bipush 97, 2) := by decide +kernel
theorem dX12_init_411 : decode cX12_init 411 = .ok (.iastore, 1) := by decide +kernel
theorem dX12_init_412 : decode cX12_init 412 = .ok (.dup, 1) := by decide +kernel
theorem dX12_init_413 : decode cX12_init 413 = .ok (.bipush 51, 2) := by decide +kernel
theorem dX12_init_415 : decode cX12_init 415 = .ok (.bipush 105, 2) := by decide +kernel
theorem dX12_init_417 : decode cX12_init 417 = .ok (.iastore, 1) := by decide +kernel
theorem dX12_init_418 : decode cX12_init 418 = .ok (.dup, 1) := by decide +kernel
theorem dX12_init_419 : decode cX12_init 419 = .ok (.bipush 52, 2) := by decide +kernel
theorem dX12_init_421 : decode cX12_init 421 = .ok (.bipush 116, 2) := by decide +kernel
theorem dX12_init_423 : decode cX12_init 423 = .ok (.iastore, 1) := by decide +kernel
theorem dX12_init_424 : decode cX12_init 424 = .ok (.putfield 50, 3) := by decide +kernel
theorem dX12_init_427 : decode cX12_init 427 = .ok (.aload_n 0, 1) := by decide +kernel
theorem dX12_init_428 : decode cX12_init 428 = .ok (.bipush 11, 2) := by decide +kernel
theorem dX12_init_430 : decode cX12_init 430 = .ok (.newarray .int, 2) := by decide +kernel
theorem dX12_init_432 : decode cX12_init 432 = .ok (.dup, 1) := by decide +kernel
theorem dX12_init_433 : decode cX12_init 433 = .ok (.iconst 0, 1) := by decide +kernel
theorem dX12_init_434 : decode cX12_init 434 = .ok (.iconst 0, 1) := by decide +kernel
theorem dX12_init_435 : decode cX12_init 435 = .ok (.iastore, 1) := by decide +kernel
theorem dX12_init_436 : decode cX12_init 436 = .ok (.dup, 1) := by decide +kernel
theorem dX12_init_437 : decode cX12_init 437 = .ok (.iconst 1, 1) := by decide +kernel
theorem dX12_init_438 : decode cX12_init 438 = .ok (.bipush 7, 2) := by decide +kernel
theorem dX12_init_440 : decode cX12_init 440 = .ok (.iastore, 1) := by decide +kernel
theorem dX12_init_441 : decode cX12_init 441 = .ok (.dup, 1) := by decide +kernel
theorem dX12_init_442 : decode cX12_init 442 = .ok (.iconst 2, 1) := by decide +kernel
theorem dX12_init_443 : decode cX12_init 443 = .ok (.bipush 12, 2) := by decide +kernel
theorem dX12_init_445 : decode cX12_init 445 = .ok (.iastore, 1) := by decide +kernel
theorem dX12_init_446 : decode cX12_init 446 = .ok (.dup, 1) := by decide +kernel
theorem dX12_init_447 : decode cX12_init 447 = .ok (.iconst 3, 1) := by decide +kernel
theorem dX12_init_448 : decode cX12_init 448 = .ok (.bipush 19, 2) := by decide +kernel
theorem dX12_init_450 : decode cX12_init 450 = .ok (.iastore, 1) := by decide +kernel
theorem dX12_init_451 : decode cX12_init 451 = .ok (.dup, 1) := by decide +kernel
theorem dX12_init_452 : decode cX12_init 452 = .ok (.iconst 4, 1) := by decide +kernel
theorem dX12_init_453 : decode cX12_init 453 = .ok (.bipush 24, 2) := by decide +kernel
theorem dX12_init_455 : decode cX12_init 455 = .ok (.iastore, 1) := by decide +kernel
theorem dX12_init_456 : decode cX12_init 456 = .ok (.dup, 1) := by decide +kernel
theorem dX12_init_457 : decode cX12_init 457 = .ok (.iconst 5, 1) := by decide +kernel
theorem dX12_init_458 : decode cX12_init 458 = .ok (.bipush 29, 2) := by decide +kernel
theorem dX12_init_460 : decode cX12_init 460 = .ok (.iastore, 1) := by decide +kernel
theorem dX12_init_461 : decode cX12_init 461 = .ok (.dup, 1) := by decide +kernel
theorem dX12_init_462 : decode cX12_init 462 = .ok (.bipush 6, 2) := by decide +kernel
theorem dX12_init_464 : decode cX12_init 464 = .ok (.bipush 36, 2) := by decide +kernel
theorem dX12_init_466 : decode cX12_init 466 = .ok (.iastore, 1) := by decide +kernel
theorem dX12_init_467 : decode cX12_init 467 = .ok (.dup, 1) := by decide +kernel
theorem dX12_init_468 : decode cX12_init 468 = .ok (.bipush 7, 2) := by decide +kernel
theorem dX12_init_470 : decode cX12_init 470 = .ok (.bipush 41, 2) := by decide +kernel
theorem dX12_init_472 : decode cX12_init 472 = .ok (.iastore, 1) := by decide +kernel
theorem dX12_init_473 : decode cX12_init 473 = .ok (.dup, 1) := by decide +kernel
theorem dX12_init_474 : decode cX12_init 474 = .ok (.bipush 8, 2) := by decide +kernel
theorem dX12_init_476 : decode cX12_init 476 = .ok (.bipush 44, 2) := by decide +kernel
theorem dX12_init_478 : decode cX12_init 478 = .ok (.iastore, 1) := by decide +kernel
theorem dX12_init_479 : decode cX12_init 479 = .ok (.dup, 1) := by decide +kernel
theorem dX12_init_480 : decode cX12_init 480 = .ok (.bipush 9, 2) := by decide +kernel
theorem dX12_init_482 : decode cX12_init 482 = .ok (.bipush 49, 2) := by decide +kernel
theorem dX12_init_484 : decode cX12_init 484 = .ok (.iastore, 1) := by decide +kernel
theorem dX12_init_485 : decode cX12_init 485 = .ok (.dup, 1) := by decide +kernel
theorem dX12_init_486 : decode cX12_init 486 = .ok (.bipush 10, 2) := by decide +kernel
theorem dX12_init_488 : decode cX12_init 488 = .ok (.bipush 53, 2) := by decide +kernel
theorem dX12_init_490 : decode cX12_init 490 = .ok (.iastore, 1) := by decide +kernel
theorem dX12_init_491 : decode cX12_init 491 = .ok (.putfield 53, 3) := by decide +kernel
theorem dX12_init_494 : decode cX12_init 494 = .ok (.return_, 1) := by decide +kernel
set_option maxRecDepth 100000 in
set_option maxHeartbeats 4000000 in
theorem c_newModel {l : Launch} {g : Nat → Nat} {M : LH} (htr : l.stackTraces = false) {kd : Nat → Nat} {m : Nat} (hA : M m = some (ob 10 [.int 0, .int 0, .int 0, .int 0, .int 0, .null, .null, .null, .null, .null, .null, .null, .int 0, .null, .null, .null, .null, .null, .null, .int 0, .int 0, .int 0, .int 0, .int 0, .int 0])) (hk : kd m = 30) : K_X12_init l g 0 13 2867 [.ref m] M (RV (fun M9 => ∃ (kd' : Nat → Nat) (w : Nat → Nat), Kp M kd kd' ∧ Gw m M M9 ∧ Md kd' 30 M9 m w 0 0 (-1) (-1) 0 0 0 0 0 0 0 0 (fun _ => 0) (fun _ => 0) (fun _ => 0) (fun _ => 0) (fun _ => 0) (fun _ => 0) (fun _ => 0) (fun _ => 0) (fun _ => 0) (fun _ => 0) (fun _ => 0)) nX) := by
  refine Ko_X12_init htr (fun X => ?_)
  have hA0 := hA
  have hR := Rw.nil hA
  refine v_aload_n dX12_init_0 rfl rfl ?_
  refine oi_X12_1 dX12_init_1 rfl (Nat.le_of_ble_eq_true rfl) ?_
  refine v_aload_n dX12_init_4 rfl rfl ?_
  refine v_iconst (v := (-1)) dX12_init_5 (by decide) ?_
  refine pf_X12_7 dX12_init_6 rfl hA ?_
  refine V.ab (P := fun M1 => M1 m = some (ob 10 [.int 0, .int 0, .int (-1), .int 0, .int 0, .null, .null, .null, .null, .null, .null, .null, .int 0, .null, .null, .null, .null, .null, .null, .int 0, .int 0, .int 0, .int 0, .int 0, .int 0]) ∧ Rw M M1 m []) ⟨hup_s, hR.at hA⟩ (fun M1 h1 => ?_)
  obtain ⟨hA, hR⟩ := h1
  refine v_aload_n dX12_init_9 rfl rfl ?_
  refine v_iconst (v := (-1)) dX12_init_10 (by decide) ?_
  refine pf_X12_13 dX12_init_11 rfl hA ?_
  refine V.ab (P := fun M1 => M1 m = some (ob 10 [.int 0, .int 0, .int (-1), .int (-1), .int 0, .null, .null, .null, .null, .null, .null, .null, .int 0, .null, .null, .null, .null, .null, .null, .int 0, .int 0, .int 0, .int 0, .int 0, .int 0]) ∧ Rw M M1 m []) ⟨hup_s, hR.at hA⟩ (fun M1 h1 => ?_)
  obtain ⟨hA, hR⟩ := h1
  refine v_aload_n dX12_init_14 rfl rfl ?_
  refine v_sipush (v := (150)) dX12_init_15 (by decide) ?_
  refine vi_nw (N := 150) dX12_init_18 rfl (by decide) (by decide) (by omega) (by omega) (fun q18 n18 => ?_)
  have hA := up_f (e' := ia 150 (fun _ => 0)) hA n18
  have hR := hR.new (N := 150) (F := fun _ => 0) n18
  refine pF_X12_16 dX12_init_20 rfl rfl hA ?_
  refine V.ab (P := fun M1 => M1 m = some (ob 10 [.int 0, .int 0, .int (-1), .int (-1), .int 0, .ref q18, .null, .null, .null, .null, .null, .null, .int 0, .null, .null, .null, .null, .null, .null, .int 0, .int 0, .int 0, .int 0, .int 0, .int 0]) ∧ Rw M M1 m [(q18, ia 150 (fun _ => 0))]) ⟨hup_s, hR.at hA⟩ (fun M1 h1 => ?_)
  obtain ⟨hA, hR⟩ := h1
  refine v_aload_n dX12_init_23 rfl rfl ?_
  refine v_sipush (v := (150)) dX12_init_24 (by decide) ?_
  refine vi_nw (N := 150) dX12_init_27 rfl (by decide) (by decide) (by omega) (by omega) (fun q27 n27 => ?_)
  have hA := up_f (e' := ia 150 (fun _ => 0)) hA n27
  have hR := hR.new (N := 150) (F := fun _ => 0) n27
  refine pF_X12_20 dX12_init_29 rfl rfl hA ?_
  refine V.ab (P := fun M1 => M1 m = some (ob 10 [.int 0, .int 0, .int (-1), .int (-1), .int 0, .ref q18, .ref q27, .null, .null, .null, .null, .null, .int 0, .null, .null, .null, .null, .null, .null, .int 0, .int 0, .int 0, .int 0, .int 0, .int 0]) ∧ Rw M M1 m [(q27, ia 150 (fun _ => 0)), (q18, ia 150 (fun _ => 0))]) ⟨hup_s, hR.at hA⟩ (fun M1 h1 => ?_)
  obtain ⟨hA, hR⟩ := h1
  refine v_aload_n dX12_init_32 rfl rfl ?_
  refine v_sipush (v := (150)) dX12_init_33 (by decide) ?_
  refine vi_nw (N := 150) dX12_init_36 rfl (by decide) (by decide) (by omega) (by omega) (fun q36 n36 => ?_)
  have hA := up_f (e' := ia 150 (fun _ => 0)) hA n36
  have hR := hR.new (N := 150) (F := fun _ => 0) n36
  refine pF_X12_23 dX12_init_38 rfl rfl hA ?_
  refine V.ab (P := fun M1 => M1 m = some (ob 10 [.int 0, .int 0, .int (-1), .int (-1), .int 0, .ref q18, .ref q27, .ref q36, .null, .null, .null, .null, .int 0, .null, .null, .null, .null, .null, .null, .int 0, .int 0, .int 0, .int 0, .int 0, .int 0]) ∧ Rw M M1 m [(q36, ia 150 (fun _ => 0)), (q27, ia 150 (fun _ => 0)), (q18, ia 150 (fun _ => 0))]) ⟨hup_s, hR.at hA⟩ (fun M1 h1 => ?_)
  obtain ⟨hA, hR⟩ := h1
  refine v_aload_n dX12_init_41 rfl rfl ?_
  refine v_sipush (v := (1200)) dX12_init_42 (by decide) ?_
  refine vi_nw (N := 1200) dX12_init_45 rfl (by decide) (by decide) (by omega) (by omega) (fun q45 n45 => ?_)
  have hA := up_f (e' := ia 1200 (fun _ => 0)) hA n45
  have hR := hR.new (N := 1200) (F := fun _ => 0) n45
  refine pF_X12_26 dX12_init_47 rfl rfl hA ?_
  refine V.ab (P := fun M1 => M1 m = some (ob 10 [.int 0, .int 0, .int (-1), .int (-1), .int 0, .ref q18, .ref q27, .ref q36, .ref q45, .null, .null, .null, .int 0, .null, .null, .null, .null, .null, .null, .int 0, .int 0, .int 0, .int 0, .int 0, .int 0]) ∧ Rw M M1 m [(q45, ia 1200 (fun _ => 0)), (q36, ia 150 (fun _ => 0)), (q27, ia 150 (fun _ => 0)), (q18, ia 150 (fun _ => 0))]) ⟨hup_s, hR.at hA⟩ (fun M1 h1 => ?_)
  obtain ⟨hA, hR⟩ := h1
  refine v_aload_n dX12_init_50 rfl rfl ?_
  refine v_bipush (v := (49)) dX12_init_51 (by decide) ?_
  refine vi_nw (N := 49) dX12_init_53 rfl (by decide) (by decide) (by omega) (by omega) (fun q53 n53 => ?_)
  have hA := up_f (e' := ia 49 (fun _ => 0)) hA n53
  have hR := hR.new (N := 49) (F := fun _ => 0) n53
  refine pF_X12_29 dX12_init_55 rfl rfl hA ?_
  refine V.ab (P := fun M1 => M1 m = some (ob 10 [.int 0, .int 0, .int (-1), .int (-1), .int 0, .ref q18, .ref q27, .ref q36, .ref q45, .ref q53, .null, .null, .int 0, .null, .null, .null, .null, .null, .null, .int 0, .int 0, .int 0, .int 0, .int 0, .int 0]) ∧ Rw M M1 m [(q53, ia 49 (fun _ => 0)), (q45, ia 1200 (fun _ => 0)), (q36, ia 150 (fun _ => 0)), (q27, ia 150 (fun _ => 0)), (q18, ia 150 (fun _ => 0))]) ⟨hup_s, hR.at hA⟩ (fun M1 h1 => ?_)
  obtain ⟨hA, hR⟩ := h1
  refine v_aload_n dX12_init_58 rfl rfl ?_
  refine v_bipush (v := (12)) dX12_init_59 (by decide) ?_
  refine vi_nw (N := 12) dX12_init_61 rfl (by decide) (by decide) (by omega) (by omega) (fun q61 n61 => ?_)
  have hA := up_f (e' := ia 12 (fun _ => 0)) hA n61
  have hR := hR.new (N := 12) (F := fun _ => 0) n61
  refine pF_X12_32 dX12_init_63 rfl rfl hA ?_
  refine V.ab (P := fun M1 => M1 m = some (ob 10 [.int 0, .int 0, .int (-1), .int (-1), .int 0, .ref q18, .ref q27, .ref q36, .ref q45, .ref q53, .ref q61, .null, .int 0, .null, .null, .null, .null, .null, .null, .int 0, .int 0, .int 0, .int 0, .int 0, .int 0]) ∧ Rw M M1 m [(q61, ia 12 (fun _ => 0)), (q53, ia 49 (fun _ => 0)), (q45, ia 1200 (fun _ => 0)), (q36, ia 150 (fun _ => 0)), (q27, ia 150 (fun _ => 0)), (q18, ia 150 (fun _ => 0))]) ⟨hup_s, hR.at hA⟩ (fun M1 h1 => ?_)
  obtain ⟨hA, hR⟩ := h1
  refine v_aload_n dX12_init_66 rfl rfl ?_
  refine v_sipush (v := (896)) dX12_init_67 (by decide) ?_
  refine vi_nw (N := 896) dX12_init_70 rfl (by decide) (by decide) (by omega) (by omega) (fun q70 n70 => ?_)
  have hA := up_f (e' := ia 896 (fun _ => 0)) hA n70
  have hR := hR.new (N := 896) (F := fun _ => 0) n70
  refine pF_X12_35 dX12_init_72 rfl rfl hA ?_
  refine V.ab (P := fun M1 => M1 m = some (ob 10 [.int 0, .int 0, .int (-1), .int (-1), .int 0, .ref q18, .ref q27, .ref q36, .ref q45, .ref q53, .ref q61, .ref q70, .int 0, .null, .null, .null, .null, .null, .null, .int 0, .int 0, .int 0, .int 0, .int 0, .int 0]) ∧ Rw M M1 m [(q70, ia 896 (fun _ => 0)), (q61, ia 12 (fun _ => 0)), (q53, ia 49 (fun _ => 0)), (q45, ia 1200 (fun _ => 0)), (q36, ia 150 (fun _ => 0)), (q27, ia 150 (fun _ => 0)), (q18, ia 150 (fun _ => 0))]) ⟨hup_s, hR.at hA⟩ (fun M1 h1 => ?_)
  obtain ⟨hA, hR⟩ := h1
  refine v_aload_n dX12_init_75 rfl rfl ?_
  refine v_bipush (v := (60)) dX12_init_76 (by decide) ?_
  refine vi_nw (N := 60) dX12_init_78 rfl (by decide) (by decide) (by omega) (by omega) (fun q78 n78 => ?_)
  have hA := up_f (e' := ia 60 (fun _ => 0)) hA n78
  have hR := hR.new (N := 60) (F := fun _ => 0) n78
  refine pF_X12_38 dX12_init_80 rfl rfl hA ?_
  refine V.ab (P := fun M1 => M1 m = some (ob 10 [.int 0, .int 0, .int (-1), .int (-1), .int 0, .ref q18, .ref q27, .ref q36, .ref q45, .ref q53, .ref q61, .ref q70, .int 0, .ref q78, .null, .null, .null, .null, .null, .int 0, .int 0, .int 0, .int 0, .int 0, .int 0]) ∧ Rw M M1 m [(q78, ia 60 (fun _ => 0)), (q70, ia 896 (fun _ => 0)), (q61, ia 12 (fun _ => 0)), (q53, ia 49 (fun _ => 0)), (q45, ia 1200 (fun _ => 0)), (q36, ia 150 (fun _ => 0)), (q27, ia 150 (fun _ => 0)), (q18, ia 150 (fun _ => 0))]) ⟨hup_s, hR.at hA⟩ (fun M1 h1 => ?_)
  obtain ⟨hA, hR⟩ := h1
  refine v_aload_n dX12_init_83 rfl rfl ?_
  refine v_bipush (v := (120)) dX12_init_84 (by decide) ?_
  refine vi_nw (N := 120) dX12_init_86 rfl (by decide) (by decide) (by omega) (by omega) (fun q86 n86 => ?_)
  have hA := up_f (e' := ia 120 (fun _ => 0)) hA n86
  have hR := hR.new (N := 120) (F := fun _ => 0) n86
  refine pF_X12_41 dX12_init_88 rfl rfl hA ?_
  refine V.ab (P := fun M1 => M1 m = some (ob 10 [.int 0, .int 0, .int (-1), .int (-1), .int 0, .ref q18, .ref q27, .ref q36, .ref q45, .ref q53, .ref q61, .ref q70, .int 0, .ref q78, .ref q86, .null, .null, .null, .null, .int 0, .int 0, .int 0, .int 0, .int 0, .int 0]) ∧ Rw M M1 m [(q86, ia 120 (fun _ => 0)), (q78, ia 60 (fun _ => 0)), (q70, ia 896 (fun _ => 0)), (q61, ia 12 (fun _ => 0)), (q53, ia 49 (fun _ => 0)), (q45, ia 1200 (fun _ => 0)), (q36, ia 150 (fun _ => 0)), (q27, ia 150 (fun _ => 0)), (q18, ia 150 (fun _ => 0))]) ⟨hup_s, hR.at hA⟩ (fun M1 h1 => ?_)
  obtain ⟨hA, hR⟩ := h1
  refine v_aload_n dX12_init_91 rfl rfl ?_
  refine v_bipush (v := (10)) dX12_init_92 (by decide) ?_
  refine vi_nw (N := 10) dX12_init_94 rfl (by decide) (by decide) (by omega) (by omega) (fun q94 n94 => ?_)
  have hA := up_f (e' := ia 10 (fun _ => 0)) hA n94
  have hR := hR.new (N := 10) (F := fun _ => 0) n94
  refine pF_X12_44 dX12_init_96 rfl rfl hA ?_
  refine V.ab (P := fun M1 => M1 m = some (ob 10 [.int 0, .int 0, .int (-1), .int (-1), .int 0, .ref q18, .ref q27, .ref q36, .ref q45, .ref q53, .ref q61, .ref q70, .int 0, .ref q78, .ref q86, .ref q94, .null, .null, .null, .int 0, .int 0, .int 0, .int 0, .int 0, .int 0]) ∧ Rw M M1 m [(q94, ia 10 (fun _ => 0)), (q86, ia 120 (fun _ => 0)), (q78, ia 60 (fun _ => 0)), (q70, ia 896 (fun _ => 0)), (q61, ia 12 (fun _ => 0)), (q53, ia 49 (fun _ => 0)), (q45, ia 1200 (fun _ => 0)), (q36, ia 150 (fun _ => 0)), (q27, ia 150 (fun _ => 0)), (q18, ia 150 (fun _ => 0))]) ⟨hup_s, hR.at hA⟩ (fun M1 h1 => ?_)
  obtain ⟨hA, hR⟩ := h1
  refine v_aload_n dX12_init_99 rfl rfl ?_
  refine v_bipush (v := (6)) dX12_init_100 (by decide) ?_
  refine vi_nw (N := 6) dX12_init_102 rfl (by decide) (by decide) (by omega) (by omega) (fun q102 n102 => ?_)
  have hA := up_f (e' := ia 6 (fun _ => 0)) hA n102
  have hR := hR.new (N := 6) (F := fun _ => 0) n102
  refine pF_X12_47 dX12_init_104 rfl rfl hA ?_
  refine V.ab (P := fun M1 => M1 m = some (ob 10 [.int 0, .int 0, .int (-1), .int (-1), .int 0, .ref q18, .ref q27, .ref q36, .ref q45, .ref q53, .ref q61, .ref q70, .int 0, .ref q78, .ref q86, .ref q94, .ref q102, .null, .null, .int 0, .int 0, .int 0, .int 0, .int 0, .int 0]) ∧ Rw M M1 m [(q102, ia 6 (fun _ => 0)), (q94, ia 10 (fun _ => 0)), (q86, ia 120 (fun _ => 0)), (q78, ia 60 (fun _ => 0)), (q70, ia 896 (fun _ => 0)), (q61, ia 12 (fun _ => 0)), (q53, ia 49 (fun _ => 0)), (q45, ia 1200 (fun _ => 0)), (q36, ia 150 (fun _ => 0)), (q27, ia 150 (fun _ => 0)), (q18, ia 150 (fun _ => 0))]) ⟨hup_s, hR.at hA⟩ (fun M1 h1 => ?_)
  obtain ⟨hA, hR⟩ := h1
  refine v_aload_n dX12_init_107 rfl rfl ?_
  refine v_bipush (v := (53)) dX12_init_108 (by decide) ?_
  refine vi_nw (N := 53) dX12_init_110 rfl (by decide) (by decide) (by omega) (by omega) (fun q110 n110 => ?_)
  refine v_dup dX12_init_112 rfl ?_
  refine v_iconst (v := 0) dX12_init_113 (by decide) ?_
  refine v_bipush (v := (115)) dX12_init_114 (by decide) ?_
  refine v_iast dX12_init_116 hup_s (by decide) (by decide) ?_
  rw [hup_hup]
  refine v_dup dX12_init_117 rfl ?_
  refine v_iconst (v := 1) dX12_init_118 (by decide) ?_
  refine v_bipush (v := (116)) dX12_init_119 (by decide) ?_
  refine v_iast dX12_init_121 hup_s (by decide) (by decide) ?_
  rw [hup_hup]
  refine v_dup dX12_init_122 rfl ?_
  refine v_iconst (v := 2) dX12_init_123 (by decide) ?_
  refine v_bipush (v := (97)) dX12_init_124 (by decide) ?_
  refine v_iast dX12_init_126 hup_s (by decide) (by decide) ?_
  rw [hup_hup]
  refine v_dup dX12_init_127 rfl ?_
  refine v_iconst (v := 3) dX12_init_128 (by decide) ?_
  refine v_bipush (v := (116)) dX12_init_129 (by decide) ?_
  refine v_iast dX12_init_131 hup_s (by decide) (by decide) ?_
  rw [hup_hup]
  refine v_dup dX12_init_132 rfl ?_
  refine v_iconst (v := 4) dX12_init_133 (by decide) ?_
  refine v_bipush (v := (105)) dX12_init_134 (by decide) ?_
  refine v_iast dX12_init_136 hup_s (by decide) (by decide) ?_
  rw [hup_hup]
  refine v_dup dX12_init_137 rfl ?_
  refine v_iconst (v := 5) dX12_init_138 (by decide) ?_
  refine v_bipush (v := (111)) dX12_init_139 (by decide) ?_
  refine v_iast dX12_init_141 hup_s (by decide) (by decide) ?_
  rw [hup_hup]
  refine v_dup dX12_init_142 rfl ?_
  refine v_bipush (v := (6)) dX12_init_143 (by decide) ?_
  refine v_bipush (v := (110)) dX12_init_145 (by decide) ?_
  refine v_iast dX12_init_147 hup_s (by decide) (by decide) ?_
  rw [hup_hup]
  refine v_dup dX12_init_148 rfl ?_
  refine v_bipush (v := (7)) dX12_init_149 (by decide) ?_
  refine v_bipush (v := (114)) dX12_init_151 (by decide) ?_
  refine v_iast dX12_init_153 hup_s (by decide) (by decide) ?_
  rw [hup_hup]
  refine v_dup dX12_init_154 rfl ?_
  refine v_bipush (v := (8)) dX12_init_155 (by decide) ?_
  refine v_bipush (v := (111)) dX12_init_157 (by decide) ?_
  refine v_iast dX12_init_159 hup_s (by decide) (by decide) ?_
  rw [hup_hup]
  refine v_dup dX12_init_160 rfl ?_
  refine v_bipush (v := (9)) dX12_init_161 (by decide) ?_
  refine v_bipush (v := (97)) dX12_init_163 (by decide) ?_
  refine v_iast dX12_init_165 hup_s (by decide) (by decide) ?_
  rw [hup_hup]
  refine v_dup dX12_init_166 rfl ?_
  refine v_bipush (v := (10)) dX12_init_167 (by decide) ?_
  refine v_bipush (v := (100)) dX12_init_169 (by decide) ?_
  refine v_iast dX12_init_171 hup_s (by decide) (by decide) ?_
  rw [hup_hup]
  refine v_dup dX12_init_172 rfl ?_
  refine v_bipush (v := (11)) dX12_init_173 (by decide) ?_
  refine v_bipush (v := (32)) dX12_init_175 (by decide) ?_
  refine v_iast dX12_init_177 hup_s (by decide) (by decide) ?_
  rw [hup_hup]
  refine v_dup dX12_init_178 rfl ?_
  refine v_bipush (v := (12)) dX12_init_179 (by decide) ?_
  refine v_bipush (v := (115)) dX12_init_181 (by decide) ?_
  refine v_iast dX12_init_183 hup_s (by decide) (by decide) ?_
  rw [hup_hup]
  refine v_dup dX12_init_184 rfl ?_
  refine v_bipush (v := (13)) dX12_init_185 (by decide) ?_
  refine v_bipush (v := (108)) dX12_init_187 (by decide) ?_
  refine v_iast dX12_init_189 hup_s (by decide) (by decide) ?_
  rw [hup_hup]
  refine v_dup dX12_init_190 rfl ?_
  refine v_bipush (v := (14)) dX12_init_191 (by decide) ?_
  refine v_bipush (v := (101)) dX12_init_193 (by decide) ?_
  refine v_iast dX12_init_195 hup_s (by decide) (by decide) ?_
  rw [hup_hup]
  refine v_dup dX12_init_196 rfl ?_
  refine v_bipush (v := (15)) dX12_init_197 (by decide) ?_
  refine v_bipush (v := (100)) dX12_init_199 (by decide) ?_
  refine v_iast dX12_init_201 hup_s (by decide) (by decide) ?_
  rw [hup_hup]
  refine v_dup dX12_init_202 rfl ?_
  refine v_bipush (v := (16)) dX12_init_203 (by decide) ?_
  refine v_bipush (v := (103)) dX12_init_205 (by decide) ?_
  refine v_iast dX12_init_207 hup_s (by decide) (by decide) ?_
  rw [hup_hup]
  refine v_dup dX12_init_208 rfl ?_
  refine v_bipush (v := (17)) dX12_init_209 (by decide) ?_
  refine v_bipush (v := (101)) dX12_init_211 (by decide) ?_
  refine v_iast dX12_init_213 hup_s (by decide) (by decide) ?_
  rw [hup_hup]
  refine v_dup dX12_init_214 rfl ?_
  refine v_bipush (v := (18)) dX12_init_215 (by decide) ?_
  refine v_bipush (v := (32)) dX12_init_217 (by decide) ?_
  refine v_iast dX12_init_219 hup_s (by decide) (by decide) ?_
  rw [hup_hup]
  refine v_dup dX12_init_220 rfl ?_
  refine v_bipush (v := (19)) dX12_init_221 (by decide) ?_
  refine v_bipush (v := (112)) dX12_init_223 (by decide) ?_
  refine v_iast dX12_init_225 hup_s (by decide) (by decide) ?_
  rw [hup_hup]
  refine v_dup dX12_init_226 rfl ?_
  refine v_bipush (v := (20)) dX12_init_227 (by decide) ?_
  refine v_bipush (v := (111)) dX12_init_229 (by decide) ?_
  refine v_iast dX12_init_231 hup_s (by decide) (by decide) ?_
  rw [hup_hup]
  refine v_dup dX12_init_232 rfl ?_
  refine v_bipush (v := (21)) dX12_init_233 (by decide) ?_
  refine v_bipush (v := (115)) dX12_init_235 (by decide) ?_
  refine v_iast dX12_init_237 hup_s (by decide) (by decide) ?_
  rw [hup_hup]
  refine v_dup dX12_init_238 rfl ?_
  refine v_bipush (v := (22)) dX12_init_239 (by decide) ?_
  refine v_bipush (v := (116)) dX12_init_241 (by decide) ?_
  refine v_iast dX12_init_243 hup_s (by decide) (by decide) ?_
  rw [hup_hup]
  refine v_dup dX12_init_244 rfl ?_
  refine v_bipush (v := (23)) dX12_init_245 (by decide) ?_
  refine v_bipush (v := (32)) dX12_init_247 (by decide) ?_
  refine v_iast dX12_init_249 hup_s (by decide) (by decide) ?_
  rw [hup_hup]
  refine v_dup dX12_init_250 rfl ?_
  refine v_bipush (v := (24)) dX12_init_251 (by decide) ?_
  refine v_bipush (v := (108)) dX12_init_253 (by decide) ?_
  refine v_iast dX12_init_255 hup_s (by decide) (by decide) ?_
  rw [hup_hup]
  refine v_dup dX12_init_256 rfl ?_
  refine v_bipush (v := (25)) dX12_init_257 (by decide) ?_
  refine v_bipush (v := (111)) dX12_init_259 (by decide) ?_
  refine v_iast dX12_init_261 hup_s (by decide) (by decide) ?_
  rw [hup_hup]
  refine v_dup dX12_init_262 rfl ?_
  refine v_bipush (v := (26)) dX12_init_263 (by decide) ?_
  refine v_bipush (v := (97)) dX12_init_265 (by decide) ?_
  refine v_iast dX12_init_267 hup_s (by decide) (by decide) ?_
  rw [hup_hup]
  refine v_dup dX12_init_268 rfl ?_
  refine v_bipush (v := (27)) dX12_init_269 (by decide) ?_
  refine v_bipush (v := (100)) dX12_init_271 (by decide) ?_
  refine v_iast dX12_init_273 hup_s (by decide) (by decide) ?_
  rw [hup_hup]
  refine v_dup dX12_init_274 rfl ?_
  refine v_bipush (v := (28)) dX12_init_275 (by decide) ?_
  refine v_bipush (v := (32)) dX12_init_277 (by decide) ?_
  refine v_iast dX12_init_279 hup_s (by decide) (by decide) ?_
  rw [hup_hup]
  refine v_dup dX12_init_280 rfl ?_
  refine v_bipush (v := (29)) dX12_init_281 (by decide) ?_
  refine v_bipush (v := (117)) dX12_init_283 (by decide) ?_
  refine v_iast dX12_init_285 hup_s (by decide) (by decide) ?_
  rw [hup_hup]
  refine v_dup dX12_init_286 rfl ?_
  refine v_bipush (v := (30)) dX12_init_287 (by decide) ?_
  refine v_bipush (v := (110)) dX12_init_289 (by decide) ?_
  refine v_iast dX12_init_291 hup_s (by decide) (by decide) ?_
  rw [hup_hup]
  refine v_dup dX12_init_292 rfl ?_
  refine v_bipush (v := (31)) dX12_init_293 (by decide) ?_
  refine v_bipush (v := (108)) dX12_init_295 (by decide) ?_
  refine v_iast dX12_init_297 hup_s (by decide) (by decide) ?_
  rw [hup_hup]
  refine v_dup dX12_init_298 rfl ?_
  refine v_bipush (v := (32)) dX12_init_299 (by decide) ?_
  refine v_bipush (v := (111)) dX12_init_301 (by decide) ?_
  refine v_iast dX12_init_303 hup_s (by decide) (by decide) ?_
  rw [hup_hup]
  refine v_dup dX12_init_304 rfl ?_
  refine v_bipush (v := (33)) dX12_init_305 (by decide) ?_
  refine v_bipush (v := (97)) dX12_init_307 (by decide) ?_
  refine v_iast dX12_init_309 hup_s (by decide) (by decide) ?_
  rw [hup_hup]
  refine v_dup dX12_init_310 rfl ?_
  refine v_bipush (v := (34)) dX12_init_311 (by decide) ?_
  refine v_bipush (v := (100)) dX12_init_313 (by decide) ?_
  refine v_iast dX12_init_315 hup_s (by decide) (by decide) ?_
  rw [hup_hup]
  refine v_dup dX12_init_316 rfl ?_
  refine v_bipush (v := (35)) dX12_init_317 (by decide) ?_
  refine v_bipush (v := (32)) dX12_init_319 (by decide) ?_
  refine v_iast dX12_init_321 hup_s (by decide) (by decide) ?_
  rw [hup_hup]
  refine v_dup dX12_init_322 rfl ?_
  refine v_bipush (v := (36)) dX12_init_323 (by decide) ?_
  refine v_bipush (v := (98)) dX12_init_325 (by decide) ?_
  refine v_iast dX12_init_327 hup_s (by decide) (by decide) ?_
  rw [hup_hup]
  refine v_dup dX12_init_328 rfl ?_
  refine v_bipush (v := (37)) dX12_init_329 (by decide) ?_
  refine v_bipush (v := (101)) dX12_init_331 (by decide) ?_
  refine v_iast dX12_init_333 hup_s (by decide) (by decide) ?_
  rw [hup_hup]
  refine v_dup dX12_init_334 rfl ?_
  refine v_bipush (v := (38)) dX12_init_335 (by decide) ?_
  refine v_bipush (v := (115)) dX12_init_337 (by decide) ?_
  refine v_iast dX12_init_339 hup_s (by decide) (by decide) ?_
  rw [hup_hup]
  refine v_dup dX12_init_340 rfl ?_
  refine v_bipush (v := (39)) dX12_init_341 (by decide) ?_
  refine v_bipush (v := (116)) dX12_init_343 (by decide) ?_
  refine v_iast dX12_init_345 hup_s (by decide) (by decide) ?_
  rw [hup_hup]
  refine v_dup dX12_init_346 rfl ?_
  refine v_bipush (v := (40)) dX12_init_347 (by decide) ?_
  refine v_bipush (v := (32)) dX12_init_349 (by decide) ?_
  refine v_iast dX12_init_351 hup_s (by decide) (by decide) ?_
  rw [hup_hup]
  refine v_dup dX12_init_352 rfl ?_
  refine v_bipush (v := (41)) dX12_init_353 (by decide) ?_
  refine v_bipush (v := (103)) dX12_init_355 (by decide) ?_
  refine v_iast dX12_init_357 hup_s (by decide) (by decide) ?_
  rw [hup_hup]
  refine v_dup dX12_init_358 rfl ?_
  refine v_bipush (v := (42)) dX12_init_359 (by decide) ?_
  refine v_bipush (v := (111)) dX12_init_361 (by decide) ?_
  refine v_iast dX12_init_363 hup_s (by decide) (by decide) ?_
  rw [hup_hup]
  refine v_dup dX12_init_364 rfl ?_
  refine v_bipush (v := (43)) dX12_init_365 (by decide) ?_
  refine v_bipush (v := (32)) dX12_init_367 (by decide) ?_
  refine v_iast dX12_init_369 hup_s (by decide) (by decide) ?_
  rw [hup_hup]
  refine v_dup dX12_init_370 rfl ?_
  refine v_bipush (v := (44)) dX12_init_371 (by decide) ?_
  refine v_bipush (v := (104)) dX12_init_373 (by decide) ?_
  refine v_iast dX12_init_375 hup_s (by decide) (by decide) ?_
  rw [hup_hup]
  refine v_dup dX12_init_376 rfl ?_
  refine v_bipush (v := (45)) dX12_init_377 (by decide) ?_
  refine v_bipush (v := (101)) dX12_init_379 (by decide) ?_
  refine v_iast dX12_init_381 hup_s (by decide) (by decide) ?_
  rw [hup_hup]
  refine v_dup dX12_init_382 rfl ?_
  refine v_bipush (v := (46)) dX12_init_383 (by decide) ?_
  refine v_bipush (v := (97)) dX12_init_385 (by decide) ?_
  refine v_iast dX12_init_387 hup_s (by decide) (by decide) ?_
  rw [hup_hup]
  refine v_dup dX12_init_388 rfl ?_
  refine v_bipush (v := (47)) dX12_init_389 (by decide) ?_
  refine v_bipush (v := (116)) dX12_init_391 (by decide) ?_
  refine v_iast dX12_init_393 hup_s (by decide) (by decide) ?_
  rw [hup_hup]
  refine v_dup dX12_init_394 rfl ?_
  refine v_bipush (v := (48)) dX12_init_395 (by decide) ?_
  refine v_bipush (v := (32)) dX12_init_397 (by decide) ?_
  refine v_iast dX12_init_399 hup_s (by decide) (by decide) ?_
  rw [hup_hup]
  refine v_dup dX12_init_400 rfl ?_
  refine v_bipush (v := (49)) dX12_init_401 (by decide) ?_
  refine v_bipush (v := (119)) dX12_init_403 (by decide) ?_
  refine v_iast dX12_init_405 hup_s (by decide) (by decide) ?_
  rw [hup_hup]
  refine v_dup dX12_init_406 rfl ?_
  refine v_bipush (v := (50)) dX12_init_407 (by decide) ?_
  refine v_bipush (v := (97)) dX12_init_409 (by decide) ?_
  refine v_iast dX12_init_411 hup_s (by decide) (by decide) ?_
  rw [hup_hup]
  refine v_dup dX12_init_412 rfl ?_
  refine v_bipush (v := (51)) dX12_init_413 (by decide) ?_
  refine v_bipush (v := (105)) dX12_init_415 (by decide) ?_
  refine v_iast dX12_init_417 hup_s (by decide) (by decide) ?_
  rw [hup_hup]
  refine v_dup dX12_init_418 rfl ?_
  refine v_bipush (v := (52)) dX12_init_419 (by decide) ?_
  refine v_bipush (v := (116)) dX12_init_421 (by decide) ?_
  refine v_iast dX12_init_423 hup_s (by decide) (by decide) ?_
  rw [hup_hup]
  refine V.ri (a := q110) (G' := wdI) hup_s (by decide +kernel) ?_
  rw [hup_hup]
  rw [show (Sum.inl (FieldType.int, (53 : Int32), wdI) : Ec) = ia 53 wdI from rfl]
  have hA := up_f (e' := ia 53 wdI) hA n110
  have hR := hR.new (N := 53) (F := wdI) n110
  refine pF_X12_50 dX12_init_424 rfl rfl hA ?_
  refine V.ab (P := fun M1 => M1 m = some (ob 10 [.int 0, .int 0, .int (-1), .int (-1), .int 0, .ref q18, .ref q27, .ref q36, .ref q45, .ref q53, .ref q61, .ref q70, .int 0, .ref q78, .ref q86, .ref q94, .ref q102, .ref q110, .null, .int 0, .int 0, .int 0, .int 0, .int 0, .int 0]) ∧ Rw M M1 m [(q110, ia 53 wdI), (q102, ia 6 (fun _ => 0)), (q94, ia 10 (fun _ => 0)), (q86, ia 120 (fun _ => 0)), (q78, ia 60 (fun _ => 0)), (q70, ia 896 (fun _ => 0)), (q61, ia 12 (fun _ => 0)), (q53, ia 49 (fun _ => 0)), (q45, ia 1200 (fun _ => 0)), (q36, ia 150 (fun _ => 0)), (q27, ia 150 (fun _ => 0)), (q18, ia 150 (fun _ => 0))]) ⟨hup_s, hR.at hA⟩ (fun M1 h1 => ?_)
  obtain ⟨hA, hR⟩ := h1
  refine v_aload_n dX12_init_427 rfl rfl ?_
  refine v_bipush (v := (11)) dX12_init_428 (by decide) ?_
  refine vi_nw (N := 11) dX12_init_430 rfl (by decide) (by decide) (by omega) (by omega) (fun q430 n430 => ?_)
  refine v_dup dX12_init_432 rfl ?_
  refine v_iconst (v := 0) dX12_init_433 (by decide) ?_
  refine v_iconst (v := 0) dX12_init_434 (by decide) ?_
  refine v_iast dX12_init_435 hup_s (by decide) (by decide) ?_
  rw [hup_hup]
  refine v_dup dX12_init_436 rfl ?_
  refine v_iconst (v := 1) dX12_init_437 (by decide) ?_
  refine v_bipush (v := (7)) dX12_init_438 (by decide) ?_
  refine v_iast dX12_init_440 hup_s (by decide) (by decide) ?_
  rw [hup_hup]
  refine v_dup dX12_init_441 rfl ?_
  refine v_iconst (v := 2) dX12_init_442 (by decide) ?_
  refine v_bipush (v := (12)) dX12_init_443 (by decide) ?_
  refine v_iast dX12_init_445 hup_s (by decide) (by decide) ?_
  rw [hup_hup]
  refine v_dup dX12_init_446 rfl ?_
  refine v_iconst (v := 3) dX12_init_447 (by decide) ?_
  refine v_bipush (v := (19)) dX12_init_448 (by decide) ?_
  refine v_iast dX12_init_450 hup_s (by decide) (by decide) ?_
  rw [hup_hup]
  refine v_dup dX12_init_451 rfl ?_
  refine v_iconst (v := 4) dX12_init_452 (by decide) ?_
  refine v_bipush (v := (24)) dX12_init_453 (by decide) ?_
  refine v_iast dX12_init_455 hup_s (by decide) (by decide) ?_
  rw [hup_hup]
  refine v_dup dX12_init_456 rfl ?_
  refine v_iconst (v := 5) dX12_init_457 (by decide) ?_
  refine v_bipush (v := (29)) dX12_init_458 (by decide) ?_
  refine v_iast dX12_init_460 hup_s (by decide) (by decide) ?_
  rw [hup_hup]
  refine v_dup dX12_init_461 rfl ?_
  refine v_bipush (v := (6)) dX12_init_462 (by decide) ?_
  refine v_bipush (v := (36)) dX12_init_464 (by decide) ?_
  refine v_iast dX12_init_466 hup_s (by decide) (by decide) ?_
  rw [hup_hup]
  refine v_dup dX12_init_467 rfl ?_
  refine v_bipush (v := (7)) dX12_init_468 (by decide) ?_
  refine v_bipush (v := (41)) dX12_init_470 (by decide) ?_
  refine v_iast dX12_init_472 hup_s (by decide) (by decide) ?_
  rw [hup_hup]
  refine v_dup dX12_init_473 rfl ?_
  refine v_bipush (v := (8)) dX12_init_474 (by decide) ?_
  refine v_bipush (v := (44)) dX12_init_476 (by decide) ?_
  refine v_iast dX12_init_478 hup_s (by decide) (by decide) ?_
  rw [hup_hup]
  refine v_dup dX12_init_479 rfl ?_
  refine v_bipush (v := (9)) dX12_init_480 (by decide) ?_
  refine v_bipush (v := (49)) dX12_init_482 (by decide) ?_
  refine v_iast dX12_init_484 hup_s (by decide) (by decide) ?_
  rw [hup_hup]
  refine v_dup dX12_init_485 rfl ?_
  refine v_bipush (v := (10)) dX12_init_486 (by decide) ?_
  refine v_bipush (v := (53)) dX12_init_488 (by decide) ?_
  refine v_iast dX12_init_490 hup_s (by decide) (by decide) ?_
  rw [hup_hup]
  refine V.ri (a := q430) (G' := waI) hup_s (by decide +kernel) ?_
  rw [hup_hup]
  rw [show (Sum.inl (FieldType.int, (11 : Int32), waI) : Ec) = ia 11 waI from rfl]
  have hA := up_f (e' := ia 11 waI) hA n430
  have hR := hR.new (N := 11) (F := waI) n430
  refine pF_X12_53 dX12_init_491 rfl rfl hA ?_
  refine V.ab (P := fun M1 => M1 m = some (ob 10 [.int 0, .int 0, .int (-1), .int (-1), .int 0, .ref q18, .ref q27, .ref q36, .ref q45, .ref q53, .ref q61, .ref q70, .int 0, .ref q78, .ref q86, .ref q94, .ref q102, .ref q110, .ref q430, .int 0, .int 0, .int 0, .int 0, .int 0, .int 0]) ∧ Rw M M1 m [(q430, ia 11 waI), (q110, ia 53 wdI), (q102, ia 6 (fun _ => 0)), (q94, ia 10 (fun _ => 0)), (q86, ia 120 (fun _ => 0)), (q78, ia 60 (fun _ => 0)), (q70, ia 896 (fun _ => 0)), (q61, ia 12 (fun _ => 0)), (q53, ia 49 (fun _ => 0)), (q45, ia 1200 (fun _ => 0)), (q36, ia 150 (fun _ => 0)), (q27, ia 150 (fun _ => 0)), (q18, ia 150 (fun _ => 0))]) ⟨hup_s, hR.at hA⟩ (fun M1 h1 => ?_)
  obtain ⟨hA, hR⟩ := h1
  exact v_vret dX12_init_494 rfl (by
    refine ⟨kn kd M 30, (fun n => ([0, 0, 0, 0, 0, q18, q27, q36, q45, q53, q61, q70, m, q78, q86, q94, q102, q110, q430] : List Nat).getD n 0), Kp.kn, hR.2.2, hA, (hR.1 _ (List.mem_of_getElem? (i := 12) rfl)).1, (hR.1 _ (List.mem_of_getElem? (i := 11) rfl)).1, (hR.1 _ (List.mem_of_getElem? (i := 10) rfl)).1, (hR.1 _ (List.mem_of_getElem? (i := 9) rfl)).1, (hR.1 _ (List.mem_of_getElem? (i := 8) rfl)).1, (hR.1 _ (List.mem_of_getElem? (i := 7) rfl)).1, (hR.1 _ (List.mem_of_getElem? (i := 6) rfl)).1, (hR.1 _ (List.mem_of_getElem? (i := 5) rfl)).1, (hR.1 _ (List.mem_of_getElem? (i := 4) rfl)).1, (hR.1 _ (List.mem_of_getElem? (i := 3) rfl)).1, (hR.1 _ (List.mem_of_getElem? (i := 2) rfl)).1, (hR.1 _ (List.mem_of_getElem? (i := 1) rfl)).1, (hR.1 _ (List.mem_of_getElem? (i := 0) rfl)).1, ⟨(kn_o hA0).trans hk, kn_n (hR.1 _ (List.mem_of_getElem? (i := 12) rfl)).2.2, kn_n (hR.1 _ (List.mem_of_getElem? (i := 11) rfl)).2.2, kn_n (hR.1 _ (List.mem_of_getElem? (i := 10) rfl)).2.2, kn_n (hR.1 _ (List.mem_of_getElem? (i := 9) rfl)).2.2, kn_n (hR.1 _ (List.mem_of_getElem? (i := 8) rfl)).2.2, kn_n (hR.1 _ (List.mem_of_getElem? (i := 7) rfl)).2.2, kn_n (hR.1 _ (List.mem_of_getElem? (i := 6) rfl)).2.2, kn_n (hR.1 _ (List.mem_of_getElem? (i := 5) rfl)).2.2, kn_n (hR.1 _ (List.mem_of_getElem? (i := 4) rfl)).2.2, kn_n (hR.1 _ (List.mem_of_getElem? (i := 3) rfl)).2.2, kn_n (hR.1 _ (List.mem_of_getElem? (i := 2) rfl)).2.2, kn_n (hR.1 _ (List.mem_of_getElem? (i := 1) rfl)).2.2, kn_n (hR.1 _ (List.mem_of_getElem? (i := 0) rfl)).2.2⟩, ?_⟩
    have nm : ∀ p ∈ [(q430, ia 11 waI), (q110, ia 53 wdI), (q102, ia 6 (fun _ => 0)), (q94, ia 10 (fun _ => 0)), (q86, ia 120 (fun _ => 0)), (q78, ia 60 (fun _ => 0)), (q70, ia 896 (fun _ => 0)), (q61, ia 12 (fun _ => 0)), (q53, ia 49 (fun _ => 0)), (q45, ia 1200 (fun _ => 0)), (q36, ia 150 (fun _ => 0)), (q27, ia 150 (fun _ => 0)), (q18, ia 150 (fun _ => 0))], ¬ p.1 = m := fun p hp z => by
      obtain ⟨a, ⟨N, F, b⟩, -⟩ := hR.1 p hp
      rw [z, hA, b] at a
      exact ob_ia (Option.some.inj a)
    have hnd : (List.map Prod.fst [(q430, ia 11 waI), (q110, ia 53 wdI), (q102, ia 6 (fun _ => 0)), (q94, ia 10 (fun _ => 0)), (q86, ia 120 (fun _ => 0)), (q78, ia 60 (fun _ => 0)), (q70, ia 896 (fun _ => 0)), (q61, ia 12 (fun _ => 0)), (q53, ia 49 (fun _ => 0)), (q45, ia 1200 (fun _ => 0)), (q36, ia 150 (fun _ => 0)), (q27, ia 150 (fun _ => 0)), (q18, ia 150 (fun _ => 0))]).Nodup := hR.2.1
    clear hR hA hA0
    have hnd2 : ([m, q430, q110, q102, q94, q86, q78, q70, q61, q53, q45, q36, q27, q18] : List Nat).Nodup := by
      refine List.nodup_cons.mpr ⟨fun z => ?_, hnd⟩
      obtain ⟨p, hp, e⟩ := List.mem_map.mp (show m ∈ List.map Prod.fst [(q430, ia 11 waI), (q110, ia 53 wdI), (q102, ia 6 (fun _ => 0)), (q94, ia 10 (fun _ => 0)), (q86, ia 120 (fun _ => 0)), (q78, ia 60 (fun _ => 0)), (q70, ia 896 (fun _ => 0)), (q61, ia 12 (fun _ => 0)), (q53, ia 49 (fun _ => 0)), (q45, ia 1200 (fun _ => 0)), (q36, ia 150 (fun _ => 0)), (q27, ia 150 (fun _ => 0)), (q18, ia 150 (fun _ => 0))] from z)
      exact nm p hp e
    clear nm hnd
    exact nd_inj hnd2) (by omega) (by omega)
