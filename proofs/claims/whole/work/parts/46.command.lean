/-! ===== commands ===== -/
theorem dJx29ce0_ordinal_8abf5_0 : decode cJx29ce0_ordinal_8abf5 0 = .ok (.aload_n 0, 1) := by decide +kernel
theorem dJx29ce0_ordinal_8abf5_1 : decode cJx29ce0_ordinal_8abf5 1 = .ok (.getfield 7, 3) := by decide +kernel
theorem dJx29ce0_ordinal_8abf5_4 : decode cJx29ce0_ordinal_8abf5 4 = .ok (.ireturn, 1) := by decide +kernel
abbrev K_Jx29ce0_ordinal_8abf5 (l : Launch) (g : Nat → Nat) (L mc ms : Nat) (av : List Value) (M : LH) (Po : Res → LH → Prop) : Prop := Ct l g yJx29ce0_ordinal_8abf5 (.code yJx29ce0_ordinal_8abf5 cJx29ce0_ordinal_8abf5 1 (some .int)) L mc ms av M Po
theorem Ko_Jx29ce0_ordinal_8abf5 {l : Launch} {g : Nat → Nat} {L mc ms : Nat} {Po : Res → LH → Prop} {M : LH} {a : Nat} (htr : l.stackTraces = false) (body : ∀ X : CX, V l g yJx29ce0_ordinal_8abf5 cJx29ce0_ordinal_8abf5 (some .int) [] L mc ms Po X M 0 0 0 [some (.ref a)] []) : K_Jx29ce0_ordinal_8abf5 l g L mc ms [.ref a] M Po := Ct.of (nL := 1) (by decide +kernel) (Nat.le_of_ble_eq_true rfl) (by simp [Value.category]) htr body
theorem c_ordinal {l : Launch} {g : Nat → Nat} {M : LH} (htr : l.stackTraces = false) {i : Nat} (hi : i < 10) : K_Jx29ce0_ordinal_8abf5 l g 0 0 0 [.ref (g (10 + i))] M (RI (fun v M9 => v = nI i ∧ M9 = M) nX) := by
  refine Ko_Jx29ce0_ordinal_8abf5 htr (fun X => ?_)
  refine v_aload_n dJx29ce0_ordinal_8abf5_0 rfl rfl ?_
  refine v_gC dJx29ce0_ordinal_8abf5_1 rfl (fun A U H h => h.c hi 1 rfl) (Ut_of (mt_10 114 rfl) rfl) ?_
  exact v_iret dJx29ce0_ordinal_8abf5_4 rfl ⟨rfl, rfl⟩ (by omega) (by omega)
section VO
variable {l : Launch} {g : Nat → Nat} {y : MethodName} {cc : ByteArray} {rt : Option FieldType} {tb : List ExceptionTableEntry} {L mc ms : Nat} {Po : Res → LH → Prop} {X : CX} {M : LH} {k n pc : Nat} {ls : List (Option Value)} {rest : List Value}
theorem ko_X3_257 {i : Nat} (htr : l.stackTraces = false) (hd : decode cc pc = .ok (.invokevirtual 257, 3)) (ho : y.cls = "SledgePost$Desk") (hi : i < 10) (hL : 1 ≤ L) (hk : k ≤ mc) (hn : n ≤ ms) (hrs : (rest.map fun v => v.category).sum ≤ 8) (kk : V l g y cc rt tb L mc ms Po X (M) (k) (n) (pc + 3) (ls) (.int (nI i) :: rest)) : V l g y cc rt tb L mc ms Po X (M) (k) (n) (pc) (ls) (.ref (g (10 + i)) :: rest) :=
  v_callU (As := []) hd (c_ordinal htr hi) ho (Ut_of (mt_7 224 rfl) rfl) (Ut_of (mt_7 225 rfl) rfl) (Ut_of (mt_7 227 rfl) rfl) (Ut_of (mt_7 228 rfl) rfl) (Ut_of (mt_1 14 rfl) rfl) (Ut_of (mt_7 229 rfl) rfl) rfl ⟨by decide, by decide, by decide +kernel⟩ (Rcv.co (fun A U H h => h.c hi 0 rfl)) hL (Nat.le_of_ble_eq_true rfl) hk hn hrs (fun r M9 h9 => by
    obtain ⟨v, rfl, rfl, rfl⟩ := RI_of h9
    exact kk) (fun E M9 h9 => h9.elim)
end VO
theorem nI_S2 : ∀ i, i < 10 → (nI i).toNatClampNeg = i := by decide
/-- command i with the numbers N can be carried out -/
def okJ (σ N : Int32 → Int32) : Nat → Prop
  | 0 => vdStation σ = 0
  | 1 => vdRoad σ (N 0) (N 1) (N 2) = 0
  | 2 => vdSledge σ (N 0) (N 1) = 0
  | 3 => vdLetter σ (N 0) (N 1) (N 2) (N 3) (N 4) = 0
  | 4 => vdPutOn σ (N 0) (N 1) = 0
  | 5 => vdTakeOff σ (N 0) (N 1) = 0
  | 6 => vdBest σ (N 0) = 0
  | 7 => hsl σ (N 0) ∧ hst σ (N 1) ∧ ¬ (0 < sd σ (N 0) 2 ∨ sd σ (N 0) 1 = N 1) ∧ ∃ d, Wks σ (sd σ (N 0) 1) (N 1) d
  | 8 => vdDeg (N 0) = 0
  | _ => vdHrs (N 0) = 0
/-- what it makes of σ, and what it answers -/
def ddS (σ N : Int32 → Int32) : Nat → (Int32 → Int32) → Int32 → Prop
  | 0, σ', v => σ' = ui σ 5 (σ 5 + 1) ∧ v = σ 5
  | 1, σ', v => σ' = rdS σ (N 0) (N 1) (N 2) ∧ v = rd σ (N 0) (N 1)
  | 2, σ', v => σ' = mkK σ (N 0) (N 1) ∧ v = σ 6
  | 3, σ', v => σ' = mkL σ (N 0) (N 1) (N 2) (N 3) (N 4) ∧ v = σ 4
  | 4, σ', v => σ' = plS σ (find σ (N 1)) (10 + N 0) ∧ v = loadOn σ' (N 0)
  | 5, σ', v => σ' = plS σ (find σ (N 1)) (sd σ (N 0) 1) ∧ v = loadOn σ' (N 0)
  | 6, σ', v => σ' = plN σ (N 0) (bI σ (sd σ (N 0) 1) (σ 7).toNatClampNeg (sd σ (N 0) 0 - loadOn σ (N 0)) &&& 4095) (σ 7).toNatClampNeg ∧ v = cnM (bI σ (sd σ (N 0) 1) (σ 7).toNatClampNeg (sd σ (N 0) 0 - loadOn σ (N 0)) &&& 4095) (σ 7).toNatClampNeg
  | 7, σ', v => IsD σ 1000000 (sd σ (N 0) 1) (N 1) v.toInt ∧ σ' = goS σ (N 0) (N 1) v
  | 8, σ', v => σ' = ui σ 1 (N 0) ∧ v = σ 1
  | _, σ', v => σ' = psN σ (N 0).toNatClampNeg ∧ v = psN σ (N 0).toNatClampNeg 3 - σ 3
section VD
variable {σ : Int32 → Int32} {s t n w e k id : Int32}
theorem vdStation_0 (h : vdStation σ = 0) : σ 5 < 7 := by
  unfold vdStation at h
  split at h
  · assumption
  · exact absurd h (by decide)
theorem vdRoad_0 (h : vdRoad σ s t n = 0) : hst σ s ∧ hst σ t ∧ ¬ s = t ∧ 0 ≤ n ∧ n ≤ 20 := by
  unfold vdRoad at h
  split at h
  · exact absurd h (by decide)
  · rename_i h1
    split at h
    · rename_i h2
      have h3 := Classical.not_not.mp h1
      exact ⟨h3.1, h3.2, h2⟩
    · exact absurd h (by decide)
theorem vdSledge_0 (h : vdSledge σ s n = 0) : hst σ s ∧ 5 ≤ n ∧ n ≤ 30 ∧ σ 6 < 3 := by
  unfold vdSledge at h
  split at h
  · exact absurd h (by decide)
  · rename_i h1
    split at h
    · exact absurd h (by decide)
    · rename_i h2
      split at h
      · rename_i h3
        have h4 := Classical.not_not.mp h2
        exact ⟨Classical.not_not.mp h1, h4.1, h4.2, h3⟩
      · exact absurd h (by decide)
theorem vdLetter_0 (h : vdLetter σ s t w e n = 0) : hst σ s ∧ hst σ t ∧ (¬ s = t ∧ (1 ≤ w ∧ w ≤ 9) ∧ (0 ≤ e ∧ e ≤ 99) ∧ (1 ≤ n ∧ n ≤ 99)) ∧ σ 7 < 12 := by
  unfold vdLetter at h
  split at h
  · exact absurd h (by decide)
  · rename_i h1
    split at h
    · exact absurd h (by decide)
    · rename_i h2
      split at h
      · rename_i h3
        have h4 := Classical.not_not.mp h1
        exact ⟨h4.1, h4.2, Classical.not_not.mp h2, h3⟩
      · exact absurd h (by decide)
theorem vdBest_0 (h : vdBest σ k = 0) : hsl σ k ∧ ¬ 0 < sd σ k 2 := by
  unfold vdBest at h
  split at h
  · exact absurd h (by decide)
  · rename_i h1
    split at h
    · exact absurd h (by decide)
    · exact ⟨Classical.not_not.mp h1, by assumption⟩
theorem vdPutOn_0 (h : vdPutOn σ k id = 0) : hsl σ k ∧ ¬ find σ id = -1 ∧ ¬ (0 < sd σ k 2 ∨ ¬ lt σ (find σ id) 6 = sd σ k 1) ∧ lt σ (find σ id) 2 ≤ sd σ k 0 - loadOn σ k := by
  unfold vdPutOn at h
  split at h
  · exact absurd h (by decide)
  · rename_i h1
    split at h
    · exact absurd h (by decide)
    · rename_i h2
      split at h
      · exact absurd h (by decide)
      · rename_i h3
        split at h
        · exact ⟨Classical.not_not.mp h1, h2, h3, by assumption⟩
        · exact absurd h (by decide)
theorem vdTakeOff_0 (h : vdTakeOff σ k id = 0) : hsl σ k ∧ ¬ find σ id = -1 ∧ ¬ 0 < sd σ k 2 ∧ lt σ (find σ id) 6 = 10 + k := by
  unfold vdTakeOff at h
  split at h
  · exact absurd h (by decide)
  · rename_i h1
    split at h
    · exact absurd h (by decide)
    · rename_i h2
      split at h
      · rename_i h3
        exact ⟨Classical.not_not.mp h1, h2, h3⟩
      · exact absurd h (by decide)
theorem vdDeg_0 (h : vdDeg n = 0) : -30 ≤ n ∧ n ≤ 10 := by
  unfold vdDeg at h
  split at h
  · assumption
  · exact absurd h (by decide)
theorem vdHrs_0 (h : vdHrs n = 0) : 1 ≤ n ∧ n ≤ 48 := by
  unfold vdHrs at h
  split at h
  · assumption
  · exact absurd h (by decide)
theorem vd_6 : vdStation σ < 6 ∧ vdRoad σ s t n < 6 ∧ vdSledge σ s n < 6 ∧ vdLetter σ s t w e n < 6 ∧ vdBest σ k < 6 ∧ vdPutOn σ k id < 6 ∧ vdTakeOff σ k id < 6 ∧ vdDeg n < 6 ∧ vdHrs n < 6 ∧ vdGo σ k t w < 6 := by
  refine ⟨?_, ?_, ?_, ?_, ?_, ?_, ?_, ?_, ?_, ?_⟩
  · unfold vdStation; split <;> decide
  · unfold vdRoad; split <;> (try split) <;> decide
  · unfold vdSledge; split <;> (try split) <;> (try split) <;> decide
  · unfold vdLetter; split <;> (try split) <;> (try split) <;> decide
  · unfold vdBest; split <;> (try split) <;> decide
  · unfold vdPutOn; split <;> (try split) <;> (try split) <;> (try split) <;> decide
  · unfold vdTakeOff; split <;> (try split) <;> (try split) <;> decide
  · unfold vdDeg; split <;> decide
  · unfold vdHrs; split <;> decide
  · unfold vdGo; split <;> (try split) <;> (try split) <;> decide
theorem vdGo_0 {w : Int32} (h : hsl σ k → hst σ t → IsD σ 1000000 (sd σ k 1) t w.toInt ∨ (0 < sd σ k 2 ∨ sd σ k 1 = t)) : vdGo σ k t w = 0 ↔ hsl σ k ∧ hst σ t ∧ ¬ (0 < sd σ k 2 ∨ sd σ k 1 = t) ∧ ∃ d, Wks σ (sd σ k 1) t d := by
  unfold vdGo
  by_cases a : hsl σ k ∧ hst σ t
  · rw [if_neg (fun z => z a)]
    by_cases b : 0 < sd σ k 2 ∨ sd σ k 1 = t
    · rw [if_pos b]
      exact ⟨fun z => absurd z (by decide), fun z => absurd b z.2.2.1⟩
    · rw [if_neg b]
      have c := ((h a.1 a.2).resolve_right b).way
      rcases c with ⟨c1, c2⟩ | ⟨c1, c2⟩
      · rw [if_pos c1]
        exact ⟨fun _ => ⟨a.1, a.2, b, c2⟩, fun _ => rfl⟩
      · rw [if_neg (Int32.not_lt.mpr c1)]
        exact ⟨fun z => absurd z (by decide), fun z => by obtain ⟨d, hd⟩ := z.2.2.2; exact absurd hd (c2 d)⟩
  · rw [if_pos a]
    exact ⟨fun z => absurd z (by decide), fun z => absurd ⟨z.1, z.2.1⟩ a⟩
end VD
theorem dX3_judge_0 : decode cX3_judge 0 = .ok (.getstatic 252, 3) := by decide +kernel
theorem dX3_judge_3 : decode cX3_judge 3 = .ok (.aload_n 1, 1) := by decide +kernel
theorem dX3_judge_4 : decode cX3_judge 4 = .ok (.invokevirtual 257, 3) := by decide +kernel
theorem dX3_judge_7 : decode cX3_judge 7 = .ok (.iaload, 1) := by decide +kernel
theorem dX3_judge_8 : decode cX3_judge 8 = .ok (.tableswitch 151 1 9 #[52, 57, 71, 82, 102, 113, 124, 132, 143], 52) := by decide +kernel
theorem dX3_judge_60 : decode cX3_judge 60 = .ok (.aload_n 0, 1) := by decide +kernel
theorem dX3_judge_61 : decode cX3_judge 61 = .ok (.invokevirtual 262, 3) := by decide +kernel
theorem dX3_judge_64 : decode cX3_judge 64 = .ok (.areturn, 1) := by decide +kernel
theorem dX3_judge_65 : decode cX3_judge 65 = .ok (.aload_n 0, 1) := by decide +kernel
theorem dX3_judge_66 : decode cX3_judge 66 = .ok (.aload_n 2, 1) := by decide +kernel
theorem dX3_judge_67 : decode cX3_judge 67 = .ok (.iconst 0, 1) := by decide +kernel
theorem dX3_judge_68 : decode cX3_judge 68 = .ok (.iaload, 1) := by decide +kernel
theorem dX3_judge_69 : decode cX3_judge 69 = .ok (.aload_n 2, 1) := by decide +kernel
theorem dX3_judge_70 : decode cX3_judge 70 = .ok (.iconst 1, 1) := by decide +kernel
theorem dX3_judge_71 : decode cX3_judge 71 = .ok (.iaload, 1) := by decide +kernel
theorem dX3_judge_72 : decode cX3_judge 72 = .ok (.aload_n 2, 1) := by decide +kernel
theorem dX3_judge_73 : decode cX3_judge 73 = .ok (.iconst 2, 1) := by decide +kernel
theorem dX3_judge_74 : decode cX3_judge 74 = .ok (.iaload, 1) := by decide +kernel
theorem dX3_judge_75 : decode cX3_judge 75 = .ok (.invokevirtual 266, 3) := by decide +kernel
theorem dX3_judge_78 : decode cX3_judge 78 = .ok (.areturn, 1) := by decide +kernel
theorem dX3_judge_79 : decode cX3_judge 79 = .ok (.aload_n 0, 1) := by decide +kernel
theorem dX3_judge_80 : decode cX3_judge 80 = .ok (.aload_n 2, 1) := by decide +kernel
theorem dX3_judge_81 : decode cX3_judge 81 = .ok (.iconst 0, 1) := by decide +kernel
theorem dX3_judge_82 : decode cX3_judge 82 = .ok (.iaload, 1) := by decide +kernel
theorem dX3_judge_83 : decode cX3_judge 83 = .ok (.aload_n 2, 1) := by decide +kernel
theorem dX3_judge_84 : decode cX3_judge 84 = .ok (.iconst 1, 1) := by decide +kernel
theorem dX3_judge_85 : decode cX3_judge 85 = .ok (.iaload, 1) := by decide +kernel
theorem dX3_judge_86 : decode cX3_judge 86 = .ok (.invokevirtual 270, 3) := by decide +kernel
theorem dX3_judge_89 : decode cX3_judge 89 = .ok (.areturn, 1) := by decide +kernel
theorem dX3_judge_90 : decode cX3_judge 90 = .ok (.aload_n 0, 1) := by decide +kernel
theorem dX3_judge_91 : decode cX3_judge 91 = .ok (.aload_n 2, 1) := by decide +kernel
theorem dX3_judge_92 : decode cX3_judge 92 = .ok (.iconst 0, 1) := by decide +kernel
theorem dX3_judge_93 : decode cX3_judge 93 = .ok (.iaload, 1) := by decide +kernel
theorem dX3_judge_94 : decode cX3_judge 94 = .ok (.aload_n 2, 1) := by decide +kernel
theorem dX3_judge_95 : decode cX3_judge 95 = .ok (.iconst 1, 1) := by decide +kernel
theorem dX3_judge_96 : decode cX3_judge 96 = .ok (.iaload, 1) := by decide +kernel
theorem dX3_judge_97 : decode cX3_judge 97 = .ok (.aload_n 2, 1) := by decide +kernel
theorem dX3_judge_98 : decode cX3_judge 98 = .ok (.iconst 2, 1) := by decide +kernel
theorem dX3_judge_99 : decode cX3_judge 99 = .ok (.iaload, 1) := by decide +kernel
theorem dX3_judge_100 : decode cX3_judge 100 = .ok (.aload_n 2, 1) := by decide +kernel
theorem dX3_judge_101 : decode cX3_judge 101 = .ok (.iconst 3, 1) := by decide +kernel
theorem dX3_judge_102 : decode cX3_judge 102 = .ok (.iaload, 1) := by decide +kernel
theorem dX3_judge_103 : decode cX3_judge 103 = .ok (.aload_n 2, 1) := by decide +kernel
theorem dX3_judge_104 : decode cX3_judge 104 = .ok (.iconst 4, 1) := by decide +kernel
theorem dX3_judge_105 : decode cX3_judge 105 = .ok (.iaload, 1) := by decide +kernel
theorem dX3_judge_106 : decode cX3_judge 106 = .ok (.invokevirtual 274, 3) := by decide +kernel
theorem dX3_judge_109 : decode cX3_judge 109 = .ok (.areturn, 1) := by decide +kernel
theorem dX3_judge_110 : decode cX3_judge 110 = .ok (.aload_n 0, 1) := by decide +kernel
theorem dX3_judge_111 : decode cX3_judge 111 = .ok (.aload_n 2, 1) := by decide +kernel
theorem dX3_judge_112 : decode cX3_judge 112 = .ok (.iconst 0, 1) := by decide +kernel
theorem dX3_judge_113 : decode cX3_judge 113 = .ok (.iaload, 1) := by decide +kernel
theorem dX3_judge_114 : decode cX3_judge 114 = .ok (.aload_n 2, 1) := by decide +kernel
theorem dX3_judge_115 : decode cX3_judge 115 = .ok (.iconst 1, 1) := by decide +kernel
theorem dX3_judge_116 : decode cX3_judge 116 = .ok (.iaload, 1) := by decide +kernel
theorem dX3_judge_117 : decode cX3_judge 117 = .ok (.invokevirtual 278, 3) := by decide +kernel
theorem dX3_judge_120 : decode cX3_judge 120 = .ok (.areturn, 1) := by decide +kernel
theorem dX3_judge_121 : decode cX3_judge 121 = .ok (.aload_n 0, 1) := by decide +kernel
theorem dX3_judge_122 : decode cX3_judge 122 = .ok (.aload_n 2, 1) := by decide +kernel
theorem dX3_judge_123 : decode cX3_judge 123 = .ok (.iconst 0, 1) := by decide +kernel
theorem dX3_judge_124 : decode cX3_judge 124 = .ok (.iaload, 1) := by decide +kernel
theorem dX3_judge_125 : decode cX3_judge 125 = .ok (.aload_n 2, 1) := by decide +kernel
theorem dX3_judge_126 : decode cX3_judge 126 = .ok (.iconst 1, 1) := by decide +kernel
theorem dX3_judge_127 : decode cX3_judge 127 = .ok (.iaload, 1) := by decide +kernel
theorem dX3_judge_128 : decode cX3_judge 128 = .ok (.invokevirtual 281, 3) := by decide +kernel
theorem dX3_judge_131 : decode cX3_judge 131 = .ok (.areturn, 1) := by decide +kernel
theorem dX3_judge_132 : decode cX3_judge 132 = .ok (.aload_n 0, 1) := by decide +kernel
theorem dX3_judge_133 : decode cX3_judge 133 = .ok (.aload_n 2, 1) := by decide +kernel
theorem dX3_judge_134 : decode cX3_judge 134 = .ok (.iconst 0, 1) := by decide +kernel
theorem dX3_judge_135 : decode cX3_judge 135 = .ok (.iaload, 1) := by decide +kernel
theorem dX3_judge_136 : decode cX3_judge 136 = .ok (.invokevirtual 284, 3) := by decide +kernel
theorem dX3_judge_139 : decode cX3_judge 139 = .ok (.areturn, 1) := by decide +kernel
theorem dX3_judge_140 : decode cX3_judge 140 = .ok (.aload_n 0, 1) := by decide +kernel
theorem dX3_judge_141 : decode cX3_judge 141 = .ok (.aload_n 2, 1) := by decide +kernel
theorem dX3_judge_142 : decode cX3_judge 142 = .ok (.iconst 0, 1) := by decide +kernel
theorem dX3_judge_143 : decode cX3_judge 143 = .ok (.iaload, 1) := by decide +kernel
theorem dX3_judge_144 : decode cX3_judge 144 = .ok (.aload_n 2, 1) := by decide +kernel
theorem dX3_judge_145 : decode cX3_judge 145 = .ok (.iconst 1, 1) := by decide +kernel
theorem dX3_judge_146 : decode cX3_judge 146 = .ok (.iaload, 1) := by decide +kernel
theorem dX3_judge_147 : decode cX3_judge 147 = .ok (.invokevirtual 288, 3) := by decide +kernel
theorem dX3_judge_150 : decode cX3_judge 150 = .ok (.areturn, 1) := by decide +kernel
theorem dX3_judge_151 : decode cX3_judge 151 = .ok (.aload_n 0, 1) := by decide +kernel
theorem dX3_judge_152 : decode cX3_judge 152 = .ok (.aload_n 2, 1) := by decide +kernel
theorem dX3_judge_153 : decode cX3_judge 153 = .ok (.iconst 0, 1) := by decide +kernel
theorem dX3_judge_154 : decode cX3_judge 154 = .ok (.iaload, 1) := by decide +kernel
theorem dX3_judge_155 : decode cX3_judge 155 = .ok (.invokevirtual 291, 3) := by decide +kernel
theorem dX3_judge_158 : decode cX3_judge 158 = .ok (.areturn, 1) := by decide +kernel
theorem dX3_judge_159 : decode cX3_judge 159 = .ok (.aload_n 0, 1) := by decide +kernel
theorem dX3_judge_160 : decode cX3_judge 160 = .ok (.aload_n 2, 1) := by decide +kernel
theorem dX3_judge_161 : decode cX3_judge 161 = .ok (.iconst 0, 1) := by decide +kernel
theorem dX3_judge_162 : decode cX3_judge 162 = .ok (.iaload, 1) := by decide +kernel
theorem dX3_judge_163 : decode cX3_judge 163 = .ok (.invokevirtual 294, 3) := by decide +kernel
theorem dX3_judge_166 : decode cX3_judge 166 = .ok (.areturn, 1) := by decide +kernel
set_option maxRecDepth 100000 in
set_option maxHeartbeats 4000000 in
theorem c_judge {l : Launch} {g : Nat → Nat} {M : LH} (htr : l.stackTraces = false) {kd : Nat → Nat} {r a : Nat} {ad : Nat → Nat} {sl le : Int32 → Nat} {fg tp : Int32} {F : Nat → Int32 → Int32} {σ : Int32 → Int32} (hC : StR kd r M a ad sl le fg tp F σ) {q : Nat → Nat} {D : Nat} (hK : Dk kd D r M a q) {N : Int32 → Int32} {nb : Nat} (hN : M nb = some (ia 5 N)) {i : Nat} (hi : i < 10) : K_X3_judge l g 5 0 0 [.ref (q 0), .ref (g (10 + i)), .ref nb] M (RA (fun v M9 => ∃ x : Nat, x < 6 ∧ v = g x ∧ (x = 0 ↔ okJ σ N i) ∧ Dk kd D r M9 a q ∧ Frm kd D M M9) nX) := by
  refine Ko_X3_judge htr (fun X => ?_)
  have hC0 := hC
  have hK0 := hK
  obtain ⟨hSt, hRo, hSR, hLR, hSl, hLe, hkd, -, ⟨-, hRd, hSd, hLt⟩, hG⟩ := hC
  obtain ⟨hDk, hDs, ⟨f1, hB1⟩, ⟨f2, hB2⟩, hBl, ⟨f3, hB3⟩, hRt, ⟨f4, hB4⟩, hkD, hn34, hDr⟩ := hK
  have hG0 := hG
  obtain ⟨hg1, hg2, hg3, hg4, hg5, hg6, hg7, hg8, hgL, hgS, -⟩ := hG
  match i, hi with
  | 0, _ =>
    refine gs_X3_252 dX3_judge_0 rfl ?_
    refine v_aload_n dX3_judge_3 rfl rfl ?_
    refine ko_X3_257 htr dX3_judge_4 rfl (i := 0) (by decide) (Nat.le_of_ble_eq_true rfl) (by omega) (by omega) (Nat.le_of_ble_eq_true rfl) ?_
    refine v_tI dX3_judge_7 (fun A U H h => h.o 6 rfl) (by decide) (by decide) (v := .int (nI 1)) (by decide) ?_
    refine v_tableIn (tgt := 60) (off := 52) dX3_judge_8 (by decide) (by decide) (by decide) (by decide) ?_
    refine v_aload_n dX3_judge_60 rfl rfl ?_
    refine k_X3_262 dX3_judge_61 rfl (c_judgeStation htr hC0 hK0) hDk (Nat.le_of_ble_eq_true rfl) (by omega) (by omega) (Nat.le_of_ble_eq_true rfl) (fun r61 M9 h9 => ?_) (fun _ _ h9 => h9.elim)
    obtain ⟨rfl, e9⟩ := h9
    subst M9
    exact v_aret dX3_judge_64 rfl ⟨vdStation σ, (vd_6 (σ := σ)  (s := 0) (t := 0) (n := 0) (w := 0) (e := 0) (k := 0) (id := 0)).1, rfl, Iff.rfl, hK0, Frm.rf⟩ (by omega) (by omega)
  | 1, _ =>
    refine gs_X3_252 dX3_judge_0 rfl ?_
    refine v_aload_n dX3_judge_3 rfl rfl ?_
    refine ko_X3_257 htr dX3_judge_4 rfl (i := 1) (by decide) (Nat.le_of_ble_eq_true rfl) (by omega) (by omega) (Nat.le_of_ble_eq_true rfl) ?_
    refine v_tI dX3_judge_7 (fun A U H h => h.o 6 rfl) (by decide) (by decide) (v := .int (nI 2)) (by decide) ?_
    refine v_tableIn (tgt := 65) (off := 57) dX3_judge_8 (by decide) (by decide) (by decide) (by decide) ?_
    refine v_aload_n dX3_judge_65 rfl rfl ?_
    refine v_aload_n dX3_judge_66 rfl rfl ?_
    refine v_iconst (v := 0) dX3_judge_67 (by decide) ?_
    refine v_iald dX3_judge_68 hN (by decide) (by decide) ?_
    refine v_aload_n dX3_judge_69 rfl rfl ?_
    refine v_iconst (v := 1) dX3_judge_70 (by decide) ?_
    refine v_iald dX3_judge_71 hN (by decide) (by decide) ?_
    refine v_aload_n dX3_judge_72 rfl rfl ?_
    refine v_iconst (v := 2) dX3_judge_73 (by decide) ?_
    refine v_iald dX3_judge_74 hN (by decide) (by decide) ?_
    refine k_X3_266 dX3_judge_75 rfl (c_judgeRoad htr hC0 hK0 _ _ _) hDk (Nat.le_of_ble_eq_true rfl) (by omega) (by omega) (Nat.le_of_ble_eq_true rfl) (fun r75 M9 h9 => ?_) (fun _ _ h9 => h9.elim)
    obtain ⟨rfl, e9⟩ := h9
    subst M9
    exact v_aret dX3_judge_78 rfl ⟨vdRoad σ (N 0) (N 1) (N 2), (vd_6 (σ := σ) (s := N 0) (t := N 1) (n := N 2) (w := 0) (e := 0) (k := 0) (id := 0)).2.1, rfl, Iff.rfl, hK0, Frm.rf⟩ (by omega) (by omega)
  | 2, _ =>
    refine gs_X3_252 dX3_judge_0 rfl ?_
    refine v_aload_n dX3_judge_3 rfl rfl ?_
    refine ko_X3_257 htr dX3_judge_4 rfl (i := 2) (by decide) (Nat.le_of_ble_eq_true rfl) (by omega) (by omega) (Nat.le_of_ble_eq_true rfl) ?_
    refine v_tI dX3_judge_7 (fun A U H h => h.o 6 rfl) (by decide) (by decide) (v := .int (nI 3)) (by decide) ?_
    refine v_tableIn (tgt := 79) (off := 71) dX3_judge_8 (by decide) (by decide) (by decide) (by decide) ?_
    refine v_aload_n dX3_judge_79 rfl rfl ?_
    refine v_aload_n dX3_judge_80 rfl rfl ?_
    refine v_iconst (v := 0) dX3_judge_81 (by decide) ?_
    refine v_iald dX3_judge_82 hN (by decide) (by decide) ?_
    refine v_aload_n dX3_judge_83 rfl rfl ?_
    refine v_iconst (v := 1) dX3_judge_84 (by decide) ?_
    refine v_iald dX3_judge_85 hN (by decide) (by decide) ?_
    refine k_X3_270 dX3_judge_86 rfl (c_judgeSledge htr hC0 hK0 _ _) hDk (Nat.le_of_ble_eq_true rfl) (by omega) (by omega) (Nat.le_of_ble_eq_true rfl) (fun r86 M9 h9 => ?_) (fun _ _ h9 => h9.elim)
    obtain ⟨rfl, e9⟩ := h9
    subst M9
    exact v_aret dX3_judge_89 rfl ⟨vdSledge σ (N 0) (N 1), (vd_6 (σ := σ) (s := N 0) (n := N 1) (t := 0) (w := 0) (e := 0) (k := 0) (id := 0)).2.2.1, rfl, Iff.rfl, hK0, Frm.rf⟩ (by omega) (by omega)
  | 3, _ =>
    refine gs_X3_252 dX3_judge_0 rfl ?_
    refine v_aload_n dX3_judge_3 rfl rfl ?_
    refine ko_X3_257 htr dX3_judge_4 rfl (i := 3) (by decide) (Nat.le_of_ble_eq_true rfl) (by omega) (by omega) (Nat.le_of_ble_eq_true rfl) ?_
    refine v_tI dX3_judge_7 (fun A U H h => h.o 6 rfl) (by decide) (by decide) (v := .int (nI 4)) (by decide) ?_
    refine v_tableIn (tgt := 90) (off := 82) dX3_judge_8 (by decide) (by decide) (by decide) (by decide) ?_
    refine v_aload_n dX3_judge_90 rfl rfl ?_
    refine v_aload_n dX3_judge_91 rfl rfl ?_
    refine v_iconst (v := 0) dX3_judge_92 (by decide) ?_
    refine v_iald dX3_judge_93 hN (by decide) (by decide) ?_
    refine v_aload_n dX3_judge_94 rfl rfl ?_
    refine v_iconst (v := 1) dX3_judge_95 (by decide) ?_
    refine v_iald dX3_judge_96 hN (by decide) (by decide) ?_
    refine v_aload_n dX3_judge_97 rfl rfl ?_
    refine v_iconst (v := 2) dX3_judge_98 (by decide) ?_
    refine v_iald dX3_judge_99 hN (by decide) (by decide) ?_
    refine v_aload_n dX3_judge_100 rfl rfl ?_
    refine v_iconst (v := 3) dX3_judge_101 (by decide) ?_
    refine v_iald dX3_judge_102 hN (by decide) (by decide) ?_
    refine v_aload_n dX3_judge_103 rfl rfl ?_
    refine v_iconst (v := 4) dX3_judge_104 (by decide) ?_
    refine v_iald dX3_judge_105 hN (by decide) (by decide) ?_
    refine k_X3_274 dX3_judge_106 rfl (c_judgeLetter htr hC0 hK0 _ _ _ _ _) hDk (Nat.le_of_ble_eq_true rfl) (by omega) (by omega) (Nat.le_of_ble_eq_true rfl) (fun r106 M9 h9 => ?_) (fun _ _ h9 => h9.elim)
    obtain ⟨rfl, e9⟩ := h9
    subst M9
    exact v_aret dX3_judge_109 rfl ⟨vdLetter σ (N 0) (N 1) (N 2) (N 3) (N 4), (vd_6 (σ := σ) (s := N 0) (t := N 1) (w := N 2) (e := N 3) (n := N 4) (k := 0) (id := 0)).2.2.2.1, rfl, Iff.rfl, hK0, Frm.rf⟩ (by omega) (by omega)
  | 4, _ =>
    refine gs_X3_252 dX3_judge_0 rfl ?_
    refine v_aload_n dX3_judge_3 rfl rfl ?_
    refine ko_X3_257 htr dX3_judge_4 rfl (i := 4) (by decide) (Nat.le_of_ble_eq_true rfl) (by omega) (by omega) (Nat.le_of_ble_eq_true rfl) ?_
    refine v_tI dX3_judge_7 (fun A U H h => h.o 6 rfl) (by decide) (by decide) (v := .int (nI 5)) (by decide) ?_
    refine v_tableIn (tgt := 110) (off := 102) dX3_judge_8 (by decide) (by decide) (by decide) (by decide) ?_
    refine v_aload_n dX3_judge_110 rfl rfl ?_
    refine v_aload_n dX3_judge_111 rfl rfl ?_
    refine v_iconst (v := 0) dX3_judge_112 (by decide) ?_
    refine v_iald dX3_judge_113 hN (by decide) (by decide) ?_
    refine v_aload_n dX3_judge_114 rfl rfl ?_
    refine v_iconst (v := 1) dX3_judge_115 (by decide) ?_
    refine v_iald dX3_judge_116 hN (by decide) (by decide) ?_
    refine k_X3_278 dX3_judge_117 rfl (c_judgePutOn htr hC0 hK0 _ _) hDk (Nat.le_of_ble_eq_true rfl) (by omega) (by omega) (Nat.le_of_ble_eq_true rfl) (fun r117 M9 h9 => ?_) (fun _ _ h9 => h9.elim)
    obtain ⟨rfl, e9⟩ := h9
    subst M9
    exact v_aret dX3_judge_120 rfl ⟨vdPutOn σ (N 0) (N 1), (vd_6 (σ := σ) (k := N 0) (id := N 1) (s := 0) (t := 0) (n := 0) (w := 0) (e := 0)).2.2.2.2.2.1, rfl, Iff.rfl, hK0, Frm.rf⟩ (by omega) (by omega)
  | 5, _ =>
    refine gs_X3_252 dX3_judge_0 rfl ?_
    refine v_aload_n dX3_judge_3 rfl rfl ?_
    refine ko_X3_257 htr dX3_judge_4 rfl (i := 5) (by decide) (Nat.le_of_ble_eq_true rfl) (by omega) (by omega) (Nat.le_of_ble_eq_true rfl) ?_
    refine v_tI dX3_judge_7 (fun A U H h => h.o 6 rfl) (by decide) (by decide) (v := .int (nI 6)) (by decide) ?_
    refine v_tableIn (tgt := 121) (off := 113) dX3_judge_8 (by decide) (by decide) (by decide) (by decide) ?_
    refine v_aload_n dX3_judge_121 rfl rfl ?_
    refine v_aload_n dX3_judge_122 rfl rfl ?_
    refine v_iconst (v := 0) dX3_judge_123 (by decide) ?_
    refine v_iald dX3_judge_124 hN (by decide) (by decide) ?_
    refine v_aload_n dX3_judge_125 rfl rfl ?_
    refine v_iconst (v := 1) dX3_judge_126 (by decide) ?_
    refine v_iald dX3_judge_127 hN (by decide) (by decide) ?_
    refine k_X3_281 dX3_judge_128 rfl (c_judgeTakeOff htr hC0 hK0 _ _) hDk (Nat.le_of_ble_eq_true rfl) (by omega) (by omega) (Nat.le_of_ble_eq_true rfl) (fun r128 M9 h9 => ?_) (fun _ _ h9 => h9.elim)
    obtain ⟨rfl, e9⟩ := h9
    subst M9
    exact v_aret dX3_judge_131 rfl ⟨vdTakeOff σ (N 0) (N 1), (vd_6 (σ := σ) (k := N 0) (id := N 1) (s := 0) (t := 0) (n := 0) (w := 0) (e := 0)).2.2.2.2.2.2.1, rfl, Iff.rfl, hK0, Frm.rf⟩ (by omega) (by omega)
  | 6, _ =>
    refine gs_X3_252 dX3_judge_0 rfl ?_
    refine v_aload_n dX3_judge_3 rfl rfl ?_
    refine ko_X3_257 htr dX3_judge_4 rfl (i := 6) (by decide) (Nat.le_of_ble_eq_true rfl) (by omega) (by omega) (Nat.le_of_ble_eq_true rfl) ?_
    refine v_tI dX3_judge_7 (fun A U H h => h.o 6 rfl) (by decide) (by decide) (v := .int (nI 7)) (by decide) ?_
    refine v_tableIn (tgt := 132) (off := 124) dX3_judge_8 (by decide) (by decide) (by decide) (by decide) ?_
    refine v_aload_n dX3_judge_132 rfl rfl ?_
    refine v_aload_n dX3_judge_133 rfl rfl ?_
    refine v_iconst (v := 0) dX3_judge_134 (by decide) ?_
    refine v_iald dX3_judge_135 hN (by decide) (by decide) ?_
    refine k_X3_284 dX3_judge_136 rfl (c_judgeBest htr hC0 hK0 _) hDk (Nat.le_of_ble_eq_true rfl) (by omega) (by omega) (Nat.le_of_ble_eq_true rfl) (fun r136 M9 h9 => ?_) (fun _ _ h9 => h9.elim)
    obtain ⟨rfl, e9⟩ := h9
    subst M9
    exact v_aret dX3_judge_139 rfl ⟨vdBest σ (N 0), (vd_6 (σ := σ) (k := N 0) (s := 0) (t := 0) (n := 0) (w := 0) (e := 0) (id := 0)).2.2.2.2.1, rfl, Iff.rfl, hK0, Frm.rf⟩ (by omega) (by omega)
  | 7, _ =>
    refine gs_X3_252 dX3_judge_0 rfl ?_
    refine v_aload_n dX3_judge_3 rfl rfl ?_
    refine ko_X3_257 htr dX3_judge_4 rfl (i := 7) (by decide) (Nat.le_of_ble_eq_true rfl) (by omega) (by omega) (Nat.le_of_ble_eq_true rfl) ?_
    refine v_tI dX3_judge_7 (fun A U H h => h.o 6 rfl) (by decide) (by decide) (v := .int (nI 8)) (by decide) ?_
    refine v_tableIn (tgt := 140) (off := 132) dX3_judge_8 (by decide) (by decide) (by decide) (by decide) ?_
    refine v_aload_n dX3_judge_140 rfl rfl ?_
    refine v_aload_n dX3_judge_141 rfl rfl ?_
    refine v_iconst (v := 0) dX3_judge_142 (by decide) ?_
    refine v_iald dX3_judge_143 hN (by decide) (by decide) ?_
    refine v_aload_n dX3_judge_144 rfl rfl ?_
    refine v_iconst (v := 1) dX3_judge_145 (by decide) ?_
    refine v_iald dX3_judge_146 hN (by decide) (by decide) ?_
    refine k_X3_288 dX3_judge_147 rfl (c_judgeGo htr hC0 hK0 _ _) hDk (Nat.le_of_ble_eq_true rfl) (by omega) (by omega) (Nat.le_of_ble_eq_true rfl) (fun r147 M9 h9 => ?_) (fun _ _ h9 => h9.elim)
    obtain ⟨w9, hw9, hv9, f9, e9⟩ := h9
    have hK9 : Dk kd D r M9 a q := by rw [e9]; exact Dk.row hK0 hB1 f9
    have hF9 : Frm kd D M M9 := by rw [e9]; exact Frm.up hkD.2.2.1
    exact v_aret dX3_judge_150 rfl ⟨vdGo σ (N 0) (N 1) w9, (vd_6 (σ := σ) (k := N 0) (t := N 1) (w := w9) (s := 0) (n := 0) (e := 0) (id := 0)).2.2.2.2.2.2.2.2.2, hv9, vdGo_0 hw9, hK9, hF9⟩ (by omega) (by omega)
  | 8, _ =>
    refine gs_X3_252 dX3_judge_0 rfl ?_
    refine v_aload_n dX3_judge_3 rfl rfl ?_
    refine ko_X3_257 htr dX3_judge_4 rfl (i := 8) (by decide) (Nat.le_of_ble_eq_true rfl) (by omega) (by omega) (Nat.le_of_ble_eq_true rfl) ?_
    refine v_tI dX3_judge_7 (fun A U H h => h.o 6 rfl) (by decide) (by decide) (v := .int (nI 9)) (by decide) ?_
    refine v_tableIn (tgt := 151) (off := 143) dX3_judge_8 (by decide) (by decide) (by decide) (by decide) ?_
    refine v_aload_n dX3_judge_151 rfl rfl ?_
    refine v_aload_n dX3_judge_152 rfl rfl ?_
    refine v_iconst (v := 0) dX3_judge_153 (by decide) ?_
    refine v_iald dX3_judge_154 hN (by decide) (by decide) ?_
    refine k_X3_291 dX3_judge_155 rfl (c_judgeDegrees htr hC0 hK0 _) hDk (Nat.le_of_ble_eq_true rfl) (by omega) (by omega) (Nat.le_of_ble_eq_true rfl) (fun r155 M9 h9 => ?_) (fun _ _ h9 => h9.elim)
    obtain ⟨rfl, e9⟩ := h9
    subst M9
    exact v_aret dX3_judge_158 rfl ⟨vdDeg (N 0), (vd_6 (σ := σ) (n := N 0) (s := 0) (t := 0) (w := 0) (e := 0) (k := 0) (id := 0)).2.2.2.2.2.2.2.1, rfl, Iff.rfl, hK0, Frm.rf⟩ (by omega) (by omega)
  | 9, _ =>
    refine gs_X3_252 dX3_judge_0 rfl ?_
    refine v_aload_n dX3_judge_3 rfl rfl ?_
    refine ko_X3_257 htr dX3_judge_4 rfl (i := 9) (by decide) (Nat.le_of_ble_eq_true rfl) (by omega) (by omega) (Nat.le_of_ble_eq_true rfl) ?_
    refine v_tI dX3_judge_7 (fun A U H h => h.o 6 rfl) (by decide) (by decide) (v := .int 0) (by decide) ?_
    refine v_tableOut (tgt := 159) dX3_judge_8 (Or.inl (by decide)) (by decide) ?_
    refine v_aload_n dX3_judge_159 rfl rfl ?_
    refine v_aload_n dX3_judge_160 rfl rfl ?_
    refine v_iconst (v := 0) dX3_judge_161 (by decide) ?_
    refine v_iald dX3_judge_162 hN (by decide) (by decide) ?_
    refine k_X3_294 dX3_judge_163 rfl (c_judgeHours htr hC0 hK0 _) hDk (Nat.le_of_ble_eq_true rfl) (by omega) (by omega) (Nat.le_of_ble_eq_true rfl) (fun r163 M9 h9 => ?_) (fun _ _ h9 => h9.elim)
    obtain ⟨rfl, e9⟩ := h9
    subst M9
    exact v_aret dX3_judge_166 rfl ⟨vdHrs (N 0), (vd_6 (σ := σ) (n := N 0) (s := 0) (t := 0) (w := 0) (e := 0) (k := 0) (id := 0)).2.2.2.2.2.2.2.2.1, rfl, Iff.rfl, hK0, Frm.rf⟩ (by omega) (by omega)
  | n + 10, h => exact absurd h (by omega)

theorem dX3_carryOut_0 : decode cX3_carryOut 0 = .ok (.getstatic 252, 3) := by decide +kernel
theorem dX3_carryOut_3 : decode cX3_carryOut 3 = .ok (.aload_n 1, 1) := by decide +kernel
theorem dX3_carryOut_4 : decode cX3_carryOut 4 = .ok (.invokevirtual 257, 3) := by decide +kernel
theorem dX3_carryOut_7 : decode cX3_carryOut 7 = .ok (.iaload, 1) := by decide +kernel
theorem dX3_carryOut_8 : decode cX3_carryOut 8 = .ok (.tableswitch 151 1 9 #[52, 57, 71, 82, 102, 113, 124, 132, 143], 52) := by decide +kernel
theorem dX3_carryOut_60 : decode cX3_carryOut 60 = .ok (.aload_n 0, 1) := by decide +kernel
theorem dX3_carryOut_61 : decode cX3_carryOut 61 = .ok (.invokevirtual 297, 3) := by decide +kernel
theorem dX3_carryOut_64 : decode cX3_carryOut 64 = .ok (.ireturn, 1) := by decide +kernel
theorem dX3_carryOut_65 : decode cX3_carryOut 65 = .ok (.aload_n 0, 1) := by decide +kernel
theorem dX3_carryOut_66 : decode cX3_carryOut 66 = .ok (.aload_n 2, 1) := by decide +kernel
theorem dX3_carryOut_67 : decode cX3_carryOut 67 = .ok (.iconst 0, 1) := by decide +kernel
theorem dX3_carryOut_68 : decode cX3_carryOut 68 = .ok (.iaload, 1) := by decide +kernel
theorem dX3_carryOut_69 : decode cX3_carryOut 69 = .ok (.aload_n 2, 1) := by decide +kernel
theorem dX3_carryOut_70 : decode cX3_carryOut 70 = .ok (.iconst 1, 1) := by decide +kernel
theorem dX3_carryOut_71 : decode cX3_carryOut 71 = .ok (.iaload, 1) := by decide +kernel
theorem dX3_carryOut_72 : decode cX3_carryOut 72 = .ok (.aload_n 2, 1) := by decide +kernel
theorem dX3_carryOut_73 : decode cX3_carryOut 73 = .ok (.iconst 2, 1) := by decide +kernel
theorem dX3_carryOut_74 : decode cX3_carryOut 74 = .ok (.iaload, 1) := by decide +kernel
theorem dX3_carryOut_75 : decode cX3_carryOut 75 = .ok (.invokevirtual 300, 3) := by decide +kernel
theorem dX3_carryOut_78 : decode cX3_carryOut 78 = .ok (.ireturn, 1) := by decide +kernel
theorem dX3_carryOut_79 : decode cX3_carryOut 79 = .ok (.aload_n 0, 1) := by decide +kernel
theorem dX3_carryOut_80 : decode cX3_carryOut 80 = .ok (.aload_n 2, 1) := by decide +kernel
theorem dX3_carryOut_81 : decode cX3_carryOut 81 = .ok (.iconst 0, 1) := by decide +kernel
theorem dX3_carryOut_82 : decode cX3_carryOut 82 = .ok (.iaload, 1) := by decide +kernel
theorem dX3_carryOut_83 : decode cX3_carryOut 83 = .ok (.aload_n 2, 1) := by decide +kernel
theorem dX3_carryOut_84 : decode cX3_carryOut 84 = .ok (.iconst 1, 1) := by decide +kernel
theorem dX3_carryOut_85 : decode cX3_carryOut 85 = .ok (.iaload, 1) := by decide +kernel
theorem dX3_carryOut_86 : decode cX3_carryOut 86 = .ok (.invokevirtual 304, 3) := by decide +kernel
theorem dX3_carryOut_89 : decode cX3_carryOut 89 = .ok (.ireturn, 1) := by decide +kernel
theorem dX3_carryOut_90 : decode cX3_carryOut 90 = .ok (.aload_n 0, 1) := by decide +kernel
theorem dX3_carryOut_91 : decode cX3_carryOut 91 = .ok (.aload_n 2, 1) := by decide +kernel
theorem dX3_carryOut_92 : decode cX3_carryOut 92 = .ok (.iconst 0, 1) := by decide +kernel
theorem dX3_carryOut_93 : decode cX3_carryOut 93 = .ok (.iaload, 1) := by decide +kernel
theorem dX3_carryOut_94 : decode cX3_carryOut 94 = .ok (.aload_n 2, 1) := by decide +kernel
theorem dX3_carryOut_95 : decode cX3_carryOut 95 = .ok (.iconst 1, 1) := by decide +kernel
theorem dX3_carryOut_96 : decode cX3_carryOut 96 = .ok (.iaload, 1) := by decide +kernel
theorem dX3_carryOut_97 : decode cX3_carryOut 97 = .ok (.aload_n 2, 1) := by decide +kernel
theorem dX3_carryOut_98 : decode cX3_carryOut 98 = .ok (.iconst 2, 1) := by decide +kernel
theorem dX3_carryOut_99 : decode cX3_carryOut 99 = .ok (.iaload, 1) := by decide +kernel
theorem dX3_carryOut_100 : decode cX3_carryOut 100 = .ok (.aload_n 2, 1) := by decide +kernel
theorem dX3_carryOut_101 : decode cX3_carryOut 101 = .ok (.iconst 3, 1) := by decide +kernel
theorem dX3_carryOut_102 : decode cX3_carryOut 102 = .ok (.iaload, 1) := by decide +kernel
theorem dX3_carryOut_103 : decode cX3_carryOut 103 = .ok (.aload_n 2, 1) := by decide +kernel
theorem dX3_carryOut_104 : decode cX3_carryOut 104 = .ok (.iconst 4, 1) := by decide +kernel
theorem dX3_carryOut_105 : decode cX3_carryOut 105 = .ok (.iaload, 1) := by decide +kernel
theorem dX3_carryOut_106 : decode cX3_carryOut 106 = .ok (.invokevirtual 307, 3) := by decide +kernel
theorem dX3_carryOut_109 : decode cX3_carryOut 109 = .ok (.ireturn, 1) := by decide +kernel
theorem dX3_carryOut_110 : decode cX3_carryOut 110 = .ok (.aload_n 0, 1) := by decide +kernel
theorem dX3_carryOut_111 : decode cX3_carryOut 111 = .ok (.aload_n 2, 1) := by decide +kernel
theorem dX3_carryOut_112 : decode cX3_carryOut 112 = .ok (.iconst 0, 1) := by decide +kernel
theorem dX3_carryOut_113 : decode cX3_carryOut 113 = .ok (.iaload, 1) := by decide +kernel
theorem dX3_carryOut_114 : decode cX3_carryOut 114 = .ok (.aload_n 2, 1) := by decide +kernel
theorem dX3_carryOut_115 : decode cX3_carryOut 115 = .ok (.iconst 1, 1) := by decide +kernel
theorem dX3_carryOut_116 : decode cX3_carryOut 116 = .ok (.iaload, 1) := by decide +kernel
theorem dX3_carryOut_117 : decode cX3_carryOut 117 = .ok (.invokevirtual 311, 3) := by decide +kernel
theorem dX3_carryOut_120 : decode cX3_carryOut 120 = .ok (.ireturn, 1) := by decide +kernel
theorem dX3_carryOut_121 : decode cX3_carryOut 121 = .ok (.aload_n 0, 1) := by decide +kernel
theorem dX3_carryOut_122 : decode cX3_carryOut 122 = .ok (.aload_n 2, 1) := by decide +kernel
theorem dX3_carryOut_123 : decode cX3_carryOut 123 = .ok (.iconst 0, 1) := by decide +kernel
theorem dX3_carryOut_124 : decode cX3_carryOut 124 = .ok (.iaload, 1) := by decide +kernel
theorem dX3_carryOut_125 : decode cX3_carryOut 125 = .ok (.aload_n 2, 1) := by decide +kernel
theorem dX3_carryOut_126 : decode cX3_carryOut 126 = .ok (.iconst 1, 1) := by decide +kernel
theorem dX3_carryOut_127 : decode cX3_carryOut 127 = .ok (.iaload, 1) := by decide +kernel
theorem dX3_carryOut_128 : decode cX3_carryOut 128 = .ok (.invokevirtual 314, 3) := by decide +kernel
theorem dX3_carryOut_131 : decode cX3_carryOut 131 = .ok (.ireturn, 1) := by decide +kernel
theorem dX3_carryOut_132 : decode cX3_carryOut 132 = .ok (.aload_n 0, 1) := by decide +kernel
theorem dX3_carryOut_133 : decode cX3_carryOut 133 = .ok (.aload_n 2, 1) := by decide +kernel
theorem dX3_carryOut_134 : decode cX3_carryOut 134 = .ok (.iconst 0, 1) := by decide +kernel
theorem dX3_carryOut_135 : decode cX3_carryOut 135 = .ok (.iaload, 1) := by decide +kernel
theorem dX3_carryOut_136 : decode cX3_carryOut 136 = .ok (.invokevirtual 317, 3) := by decide +kernel
theorem dX3_carryOut_139 : decode cX3_carryOut 139 = .ok (.ireturn, 1) := by decide +kernel
theorem dX3_carryOut_140 : decode cX3_carryOut 140 = .ok (.aload_n 0, 1) := by decide +kernel
theorem dX3_carryOut_141 : decode cX3_carryOut 141 = .ok (.aload_n 2, 1) := by decide +kernel
theorem dX3_carryOut_142 : decode cX3_carryOut 142 = .ok (.iconst 0, 1) := by decide +kernel
theorem dX3_carryOut_143 : decode cX3_carryOut 143 = .ok (.iaload, 1) := by decide +kernel
theorem dX3_carryOut_144 : decode cX3_carryOut 144 = .ok (.aload_n 2, 1) := by decide +kernel
theorem dX3_carryOut_145 : decode cX3_carryOut 145 = .ok (.iconst 1, 1) := by decide +kernel
theorem dX3_carryOut_146 : decode cX3_carryOut 146 = .ok (.iaload, 1) := by decide +kernel
theorem dX3_carryOut_147 : decode cX3_carryOut 147 = .ok (.invokevirtual 320, 3) := by decide +kernel
theorem dX3_carryOut_150 : decode cX3_carryOut 150 = .ok (.ireturn, 1) := by decide +kernel
theorem dX3_carryOut_151 : decode cX3_carryOut 151 = .ok (.aload_n 0, 1) := by decide +kernel
theorem dX3_carryOut_152 : decode cX3_carryOut 152 = .ok (.aload_n 2, 1) := by decide +kernel
theorem dX3_carryOut_153 : decode cX3_carryOut 153 = .ok (.iconst 0, 1) := by decide +kernel
theorem dX3_carryOut_154 : decode cX3_carryOut 154 = .ok (.iaload, 1) := by decide +kernel
theorem dX3_carryOut_155 : decode cX3_carryOut 155 = .ok (.invokevirtual 323, 3) := by decide +kernel
theorem dX3_carryOut_158 : decode cX3_carryOut 158 = .ok (.ireturn, 1) := by decide +kernel
theorem dX3_carryOut_159 : decode cX3_carryOut 159 = .ok (.aload_n 0, 1) := by decide +kernel
theorem dX3_carryOut_160 : decode cX3_carryOut 160 = .ok (.aload_n 2, 1) := by decide +kernel
theorem dX3_carryOut_161 : decode cX3_carryOut 161 = .ok (.iconst 0, 1) := by decide +kernel
theorem dX3_carryOut_162 : decode cX3_carryOut 162 = .ok (.iaload, 1) := by decide +kernel
theorem dX3_carryOut_163 : decode cX3_carryOut 163 = .ok (.invokevirtual 326, 3) := by decide +kernel
theorem dX3_carryOut_166 : decode cX3_carryOut 166 = .ok (.ireturn, 1) := by decide +kernel
set_option maxRecDepth 100000 in
set_option maxHeartbeats 4000000 in
theorem c_carryOut {l : Launch} {g : Nat → Nat} {M : LH} (htr : l.stackTraces = false) {kd : Nat → Nat} {r a : Nat} {ad : Nat → Nat} {sl le : Int32 → Nat} {fg tp : Int32} {F : Nat → Int32 → Int32} {σ : Int32 → Int32} (hC : StR kd r M a ad sl le fg tp F σ) {q : Nat → Nat} {D : Nat} (hK : Dk kd D r M a q) {N : Int32 → Int32} {nb : Nat} (hN : M nb = some (ia 5 N)) {i : Nat} (hi : i < 10) (hok : okJ σ N i) (h4 : σ 4 < 1000000) : K_X3_carryOut l g 5 0 0 [.ref (q 0), .ref (g (10 + i)), .ref nb] M (RI (fun v M9 => ∃ σ', ddS σ N i σ' v ∧ StE kd r M9 a ad sl σ' ∧ Dk kd D r M9 a q ∧ Fr2 kd r D M M9) nX) := by
  refine Ko_X3_carryOut htr (fun X => ?_)
  have hC0 := hC
  have hK0 := hK
  obtain ⟨hSt, hRo, hSR, hLR, hSl, hLe, hkd, -, ⟨-, hRd, hSd, hLt⟩, hG⟩ := hC
  obtain ⟨hDk, hDs, ⟨f1, hB1⟩, ⟨f2, hB2⟩, hBl, ⟨f3, hB3⟩, hRt, ⟨f4, hB4⟩, hkD, hn34, hDr⟩ := hK
  have hG0 := hG
  obtain ⟨hg1, hg2, hg3, hg4, hg5, hg6, hg7, hg8, hgL, hgS, -⟩ := hG
  match i, hi, hok with
  | 0, _, hok =>
    have o1 := vdStation_0 hok
    refine gs_X3_252 dX3_carryOut_0 rfl ?_
    refine v_aload_n dX3_carryOut_3 rfl rfl ?_
    refine ko_X3_257 htr dX3_carryOut_4 rfl (i := 0) (by decide) (Nat.le_of_ble_eq_true rfl) (by omega) (by omega) (Nat.le_of_ble_eq_true rfl) ?_
    refine v_tI dX3_carryOut_7 (fun A U H h => h.o 6 rfl) (by decide) (by decide) (v := .int (nI 1)) (by decide) ?_
    refine v_tableIn (tgt := 60) (off := 52) dX3_carryOut_8 (by decide) (by decide) (by decide) (by decide) ?_
    refine v_aload_n dX3_carryOut_60 rfl rfl ?_
    refine k_X3_297 dX3_carryOut_61 rfl (c_makeStation htr hC0 hK0 o1) hDk (Nat.le_of_ble_eq_true rfl) (by omega) (by omega) (Nat.le_of_ble_eq_true rfl) (fun r61 M9 h9 => ?_) (fun _ _ h9 => h9.elim)
    obtain ⟨rfl, t9, f9⟩ := h9
    exact v_iret dX3_carryOut_64 rfl ⟨_, ⟨rfl, rfl⟩, ⟨_, _, _, _, t9⟩, Dk.kept hK0 hDr f9, Fr2.a f9⟩ (by omega) (by omega)
  | 1, _, hok =>
    obtain ⟨⟨o1, o2⟩, ⟨o3, o4⟩, o5, o6, o7⟩ := vdRoad_0 hok
    refine gs_X3_252 dX3_carryOut_0 rfl ?_
    refine v_aload_n dX3_carryOut_3 rfl rfl ?_
    refine ko_X3_257 htr dX3_carryOut_4 rfl (i := 1) (by decide) (Nat.le_of_ble_eq_true rfl) (by omega) (by omega) (Nat.le_of_ble_eq_true rfl) ?_
    refine v_tI dX3_carryOut_7 (fun A U H h => h.o 6 rfl) (by decide) (by decide) (v := .int (nI 2)) (by decide) ?_
    refine v_tableIn (tgt := 65) (off := 57) dX3_carryOut_8 (by decide) (by decide) (by decide) (by decide) ?_
    refine v_aload_n dX3_carryOut_65 rfl rfl ?_
    refine v_aload_n dX3_carryOut_66 rfl rfl ?_
    refine v_iconst (v := 0) dX3_carryOut_67 (by decide) ?_
    refine v_iald dX3_carryOut_68 hN (by decide) (by decide) ?_
    refine v_aload_n dX3_carryOut_69 rfl rfl ?_
    refine v_iconst (v := 1) dX3_carryOut_70 (by decide) ?_
    refine v_iald dX3_carryOut_71 hN (by decide) (by decide) ?_
    refine v_aload_n dX3_carryOut_72 rfl rfl ?_
    refine v_iconst (v := 2) dX3_carryOut_73 (by decide) ?_
    refine v_iald dX3_carryOut_74 hN (by decide) (by decide) ?_
    refine k_X3_300 dX3_carryOut_75 rfl (c_makeRoad htr hC0 hK0 o1 o2 o3 o4 o5 o6 o7) hDk (Nat.le_of_ble_eq_true rfl) (by omega) (by omega) (Nat.le_of_ble_eq_true rfl) (fun r75 M9 h9 => ?_) (fun _ _ h9 => h9.elim)
    obtain ⟨rfl, F9, t9, f9⟩ := h9
    exact v_iret dX3_carryOut_78 rfl ⟨_, ⟨rfl, rfl⟩, ⟨_, _, _, _, t9⟩, Dk.kept hK0 hDr f9, Fr2.a f9⟩ (by omega) (by omega)
  | 2, _, hok =>
    obtain ⟨⟨o1, o2⟩, o3, o4, o5⟩ := vdSledge_0 hok
    refine gs_X3_252 dX3_carryOut_0 rfl ?_
    refine v_aload_n dX3_carryOut_3 rfl rfl ?_
    refine ko_X3_257 htr dX3_carryOut_4 rfl (i := 2) (by decide) (Nat.le_of_ble_eq_true rfl) (by omega) (by omega) (Nat.le_of_ble_eq_true rfl) ?_
    refine v_tI dX3_carryOut_7 (fun A U H h => h.o 6 rfl) (by decide) (by decide) (v := .int (nI 3)) (by decide) ?_
    refine v_tableIn (tgt := 79) (off := 71) dX3_carryOut_8 (by decide) (by decide) (by decide) (by decide) ?_
    refine v_aload_n dX3_carryOut_79 rfl rfl ?_
    refine v_aload_n dX3_carryOut_80 rfl rfl ?_
    refine v_iconst (v := 0) dX3_carryOut_81 (by decide) ?_
    refine v_iald dX3_carryOut_82 hN (by decide) (by decide) ?_
    refine v_aload_n dX3_carryOut_83 rfl rfl ?_
    refine v_iconst (v := 1) dX3_carryOut_84 (by decide) ?_
    refine v_iald dX3_carryOut_85 hN (by decide) (by decide) ?_
    refine k_X3_304 dX3_carryOut_86 rfl (c_makeSledge htr hC0 hK0 o5 o1 o2 o3 o4) hDk (Nat.le_of_ble_eq_true rfl) (by omega) (by omega) (Nat.le_of_ble_eq_true rfl) (fun r86 M9 h9 => ?_) (fun _ _ h9 => h9.elim)
    obtain ⟨rfl, F9, t9, f9⟩ := h9
    exact v_iret dX3_carryOut_89 rfl ⟨_, ⟨rfl, rfl⟩, ⟨_, _, _, _, t9⟩, Dk.kept hK0 hDr f9, Fr2.a f9⟩ (by omega) (by omega)
  | 3, _, hok =>
    obtain ⟨⟨o1, o2⟩, ⟨o3, o4⟩, ⟨o5, ⟨o6, o7⟩, ⟨o8, o9⟩, o10, o11⟩, o12⟩ := vdLetter_0 hok
    refine gs_X3_252 dX3_carryOut_0 rfl ?_
    refine v_aload_n dX3_carryOut_3 rfl rfl ?_
    refine ko_X3_257 htr dX3_carryOut_4 rfl (i := 3) (by decide) (Nat.le_of_ble_eq_true rfl) (by omega) (by omega) (Nat.le_of_ble_eq_true rfl) ?_
    refine v_tI dX3_carryOut_7 (fun A U H h => h.o 6 rfl) (by decide) (by decide) (v := .int (nI 4)) (by decide) ?_
    refine v_tableIn (tgt := 90) (off := 82) dX3_carryOut_8 (by decide) (by decide) (by decide) (by decide) ?_
    refine v_aload_n dX3_carryOut_90 rfl rfl ?_
    refine v_aload_n dX3_carryOut_91 rfl rfl ?_
    refine v_iconst (v := 0) dX3_carryOut_92 (by decide) ?_
    refine v_iald dX3_carryOut_93 hN (by decide) (by decide) ?_
    refine v_aload_n dX3_carryOut_94 rfl rfl ?_
    refine v_iconst (v := 1) dX3_carryOut_95 (by decide) ?_
    refine v_iald dX3_carryOut_96 hN (by decide) (by decide) ?_
    refine v_aload_n dX3_carryOut_97 rfl rfl ?_
    refine v_iconst (v := 2) dX3_carryOut_98 (by decide) ?_
    refine v_iald dX3_carryOut_99 hN (by decide) (by decide) ?_
    refine v_aload_n dX3_carryOut_100 rfl rfl ?_
    refine v_iconst (v := 3) dX3_carryOut_101 (by decide) ?_
    refine v_iald dX3_carryOut_102 hN (by decide) (by decide) ?_
    refine v_aload_n dX3_carryOut_103 rfl rfl ?_
    refine v_iconst (v := 4) dX3_carryOut_104 (by decide) ?_
    refine v_iald dX3_carryOut_105 hN (by decide) (by decide) ?_
    refine k_X3_307 dX3_carryOut_106 rfl (c_makeLetter htr hC0 hK0 o12 h4 o1 o2 o3 o4 o6 o7 o8 o9 o10 o11) hDk (Nat.le_of_ble_eq_true rfl) (by omega) (by omega) (Nat.le_of_ble_eq_true rfl) (fun r106 M9 h9 => ?_) (fun _ _ h9 => h9.elim)
    obtain ⟨rfl, F9, t9, f9⟩ := h9
    exact v_iret dX3_carryOut_109 rfl ⟨_, ⟨rfl, rfl⟩, ⟨_, _, _, _, t9⟩, Dk.kept hK0 hDr f9, Fr2.a f9⟩ (by omega) (by omega)
  | 4, _, hok =>
    obtain ⟨⟨o1, o2⟩, o3, o4, o5⟩ := vdPutOn_0 hok
    have o6 := Classical.not_not.mp (fun z => o4 (Or.inr z))
    refine gs_X3_252 dX3_carryOut_0 rfl ?_
    refine v_aload_n dX3_carryOut_3 rfl rfl ?_
    refine ko_X3_257 htr dX3_carryOut_4 rfl (i := 4) (by decide) (Nat.le_of_ble_eq_true rfl) (by omega) (by omega) (Nat.le_of_ble_eq_true rfl) ?_
    refine v_tI dX3_carryOut_7 (fun A U H h => h.o 6 rfl) (by decide) (by decide) (v := .int (nI 5)) (by decide) ?_
    refine v_tableIn (tgt := 110) (off := 102) dX3_carryOut_8 (by decide) (by decide) (by decide) (by decide) ?_
    refine v_aload_n dX3_carryOut_110 rfl rfl ?_
    refine v_aload_n dX3_carryOut_111 rfl rfl ?_
    refine v_iconst (v := 0) dX3_carryOut_112 (by decide) ?_
    refine v_iald dX3_carryOut_113 hN (by decide) (by decide) ?_
    refine v_aload_n dX3_carryOut_114 rfl rfl ?_
    refine v_iconst (v := 1) dX3_carryOut_115 (by decide) ?_
    refine v_iald dX3_carryOut_116 hN (by decide) (by decide) ?_
    refine k_X3_311 dX3_carryOut_117 rfl (c_putOn htr hC0 hK0 o1 o2 o3 o6 o5) hDk (Nat.le_of_ble_eq_true rfl) (by omega) (by omega) (Nat.le_of_ble_eq_true rfl) (fun r117 M9 h9 => ?_) (fun _ _ h9 => h9.elim)
    obtain ⟨rfl, F9, t9, f9⟩ := h9
    exact v_iret dX3_carryOut_120 rfl ⟨_, ⟨rfl, rfl⟩, ⟨_, _, _, _, t9⟩, Dk.kept hK0 hDr f9, Fr2.a f9⟩ (by omega) (by omega)
  | 5, _, hok =>
    obtain ⟨⟨o1, o2⟩, o3, o4, o5⟩ := vdTakeOff_0 hok
    refine gs_X3_252 dX3_carryOut_0 rfl ?_
    refine v_aload_n dX3_carryOut_3 rfl rfl ?_
    refine ko_X3_257 htr dX3_carryOut_4 rfl (i := 5) (by decide) (Nat.le_of_ble_eq_true rfl) (by omega) (by omega) (Nat.le_of_ble_eq_true rfl) ?_
    refine v_tI dX3_carryOut_7 (fun A U H h => h.o 6 rfl) (by decide) (by decide) (v := .int (nI 6)) (by decide) ?_
    refine v_tableIn (tgt := 121) (off := 113) dX3_carryOut_8 (by decide) (by decide) (by decide) (by decide) ?_
    refine v_aload_n dX3_carryOut_121 rfl rfl ?_
    refine v_aload_n dX3_carryOut_122 rfl rfl ?_
    refine v_iconst (v := 0) dX3_carryOut_123 (by decide) ?_
    refine v_iald dX3_carryOut_124 hN (by decide) (by decide) ?_
    refine v_aload_n dX3_carryOut_125 rfl rfl ?_
    refine v_iconst (v := 1) dX3_carryOut_126 (by decide) ?_
    refine v_iald dX3_carryOut_127 hN (by decide) (by decide) ?_
    refine k_X3_314 dX3_carryOut_128 rfl (c_takeOff htr hC0 hK0 o1 o2 o3 o5) hDk (Nat.le_of_ble_eq_true rfl) (by omega) (by omega) (Nat.le_of_ble_eq_true rfl) (fun r128 M9 h9 => ?_) (fun _ _ h9 => h9.elim)
    obtain ⟨rfl, F9, t9, f9⟩ := h9
    exact v_iret dX3_carryOut_131 rfl ⟨_, ⟨rfl, rfl⟩, ⟨_, _, _, _, t9⟩, Dk.kept hK0 hDr f9, Fr2.a f9⟩ (by omega) (by omega)
  | 6, _, hok =>
    obtain ⟨⟨o1, o2⟩, o3⟩ := vdBest_0 hok
    refine gs_X3_252 dX3_carryOut_0 rfl ?_
    refine v_aload_n dX3_carryOut_3 rfl rfl ?_
    refine ko_X3_257 htr dX3_carryOut_4 rfl (i := 6) (by decide) (Nat.le_of_ble_eq_true rfl) (by omega) (by omega) (Nat.le_of_ble_eq_true rfl) ?_
    refine v_tI dX3_carryOut_7 (fun A U H h => h.o 6 rfl) (by decide) (by decide) (v := .int (nI 7)) (by decide) ?_
    refine v_tableIn (tgt := 132) (off := 124) dX3_carryOut_8 (by decide) (by decide) (by decide) (by decide) ?_
    refine v_aload_n dX3_carryOut_132 rfl rfl ?_
    refine v_aload_n dX3_carryOut_133 rfl rfl ?_
    refine v_iconst (v := 0) dX3_carryOut_134 (by decide) ?_
    refine v_iald dX3_carryOut_135 hN (by decide) (by decide) ?_
    refine k_X3_317 dX3_carryOut_136 rfl (c_putBestOn htr hC0 hK0 o1 o2) hDk (Nat.le_of_ble_eq_true rfl) (by omega) (by omega) (Nat.le_of_ble_eq_true rfl) (fun r136 M9 h9 => ?_) (fun _ _ h9 => h9.elim)
    obtain ⟨rfl, F9, t9, k9, f9⟩ := h9
    exact v_iret dX3_carryOut_139 rfl ⟨_, ⟨rfl, rfl⟩, ⟨_, _, _, _, t9⟩, k9, f9⟩ (by omega) (by omega)
  | 7, _, hok =>
    obtain ⟨⟨o1, o2⟩, ⟨o3, o4⟩, o5, o6⟩ : hsl σ (N 0) ∧ hst σ (N 1) ∧ ¬ (0 < sd σ (N 0) 2 ∨ sd σ (N 0) 1 = N 1) ∧ ∃ d, Wks σ (sd σ (N 0) 1) (N 1) d := hok
    refine gs_X3_252 dX3_carryOut_0 rfl ?_
    refine v_aload_n dX3_carryOut_3 rfl rfl ?_
    refine ko_X3_257 htr dX3_carryOut_4 rfl (i := 7) (by decide) (Nat.le_of_ble_eq_true rfl) (by omega) (by omega) (Nat.le_of_ble_eq_true rfl) ?_
    refine v_tI dX3_carryOut_7 (fun A U H h => h.o 6 rfl) (by decide) (by decide) (v := .int (nI 8)) (by decide) ?_
    refine v_tableIn (tgt := 140) (off := 132) dX3_carryOut_8 (by decide) (by decide) (by decide) (by decide) ?_
    refine v_aload_n dX3_carryOut_140 rfl rfl ?_
    refine v_aload_n dX3_carryOut_141 rfl rfl ?_
    refine v_iconst (v := 0) dX3_carryOut_142 (by decide) ?_
    refine v_iald dX3_carryOut_143 hN (by decide) (by decide) ?_
    refine v_aload_n dX3_carryOut_144 rfl rfl ?_
    refine v_iconst (v := 1) dX3_carryOut_145 (by decide) ?_
    refine v_iald dX3_carryOut_146 hN (by decide) (by decide) ?_
    refine k_X3_320 dX3_carryOut_147 rfl (c_go htr hC0 hK0 o1 o2 o3 o4 o6) hDk (Nat.le_of_ble_eq_true rfl) (by omega) (by omega) (Nat.le_of_ble_eq_true rfl) (fun r147 M9 h9 => ?_) (fun _ _ h9 => h9.elim)
    obtain ⟨d9, F9, t9, k9, f9⟩ := h9
    exact v_iret dX3_carryOut_150 rfl ⟨_, ⟨d9, rfl⟩, ⟨_, _, _, _, t9⟩, k9, f9⟩ (by omega) (by omega)
  | 8, _, hok =>
    obtain ⟨o1, o2⟩ := vdDeg_0 hok
    refine gs_X3_252 dX3_carryOut_0 rfl ?_
    refine v_aload_n dX3_carryOut_3 rfl rfl ?_
    refine ko_X3_257 htr dX3_carryOut_4 rfl (i := 8) (by decide) (Nat.le_of_ble_eq_true rfl) (by omega) (by omega) (Nat.le_of_ble_eq_true rfl) ?_
    refine v_tI dX3_carryOut_7 (fun A U H h => h.o 6 rfl) (by decide) (by decide) (v := .int (nI 9)) (by decide) ?_
    refine v_tableIn (tgt := 151) (off := 143) dX3_carryOut_8 (by decide) (by decide) (by decide) (by decide) ?_
    refine v_aload_n dX3_carryOut_151 rfl rfl ?_
    refine v_aload_n dX3_carryOut_152 rfl rfl ?_
    refine v_iconst (v := 0) dX3_carryOut_153 (by decide) ?_
    refine v_iald dX3_carryOut_154 hN (by decide) (by decide) ?_
    refine k_X3_323 dX3_carryOut_155 rfl (c_changeDegrees htr hC0 hK0 o1 o2) hDk (Nat.le_of_ble_eq_true rfl) (by omega) (by omega) (Nat.le_of_ble_eq_true rfl) (fun r155 M9 h9 => ?_) (fun _ _ h9 => h9.elim)
    obtain ⟨rfl, t9, f9⟩ := h9
    exact v_iret dX3_carryOut_158 rfl ⟨_, ⟨rfl, rfl⟩, ⟨_, _, _, _, t9⟩, Dk.kept hK0 hDr f9, Fr2.a f9⟩ (by omega) (by omega)
  | 9, _, hok =>
    obtain ⟨o1, o2⟩ := vdHrs_0 hok
    refine gs_X3_252 dX3_carryOut_0 rfl ?_
    refine v_aload_n dX3_carryOut_3 rfl rfl ?_
    refine ko_X3_257 htr dX3_carryOut_4 rfl (i := 9) (by decide) (Nat.le_of_ble_eq_true rfl) (by omega) (by omega) (Nat.le_of_ble_eq_true rfl) ?_
    refine v_tI dX3_carryOut_7 (fun A U H h => h.o 6 rfl) (by decide) (by decide) (v := .int 0) (by decide) ?_
    refine v_tableOut (tgt := 159) dX3_carryOut_8 (Or.inl (by decide)) (by decide) ?_
    refine v_aload_n dX3_carryOut_159 rfl rfl ?_
    refine v_aload_n dX3_carryOut_160 rfl rfl ?_
    refine v_iconst (v := 0) dX3_carryOut_161 (by decide) ?_
    refine v_iald dX3_carryOut_162 hN (by decide) (by decide) ?_
    refine k_X3_326 dX3_carryOut_163 rfl (c_passHours htr hC0 hK0 o1 o2) hDk (Nat.le_of_ble_eq_true rfl) (by omega) (by omega) (Nat.le_of_ble_eq_true rfl) (fun r163 M9 h9 => ?_) (fun _ _ h9 => h9.elim)
    obtain ⟨rfl, t9, f9⟩ := h9
    exact v_iret dX3_carryOut_166 rfl ⟨_, ⟨rfl, rfl⟩, t9, Dk.kept hK0 hDr f9, Fr2.a f9⟩ (by omega) (by omega)
  | n + 10, h, _ => exact absurd h (by omega)

