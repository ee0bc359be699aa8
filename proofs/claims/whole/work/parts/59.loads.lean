/-! ===== the reference: the best load, by trying every set ===== -/
theorem nI_lt4 {a b : Nat} (ha : a ≤ 4096) (hb : b ≤ 4096) : nI a < nI b ↔ a < b := by
  rw [i_lt, nI_toInt (by omega), nI_toInt (by omega)]
  omega
theorem shl12 : ∀ n, n < 13 → (1 : Int32) <<< (nI n &&& 31) = nI (2 ^ n) := by decide +kernel
theorem shr12' : ∀ l, l < 12 → ∀ a, a < 64 → ∀ b, b < 64 → ((nI (64 * a + b) >>> (nI l &&& 31)) &&& 1 = 0 ↔ (64 * a + b).testBit l = false) := by decide +kernel
theorem shr12 {s l : Nat} (hs : s < 4096) (hl : l < 12) : (nI s >>> (nI l &&& 31)) &&& 1 = 0 ↔ s.testBit l = false := by
  have q := shr12' l hl (s / 64) (by omega) (s % 64) (by omega)
  rw [show 64 * (s / 64) + s % 64 = s by omega] at q
  exact q
theorem p12 {n : Nat} (h : n ≤ 12) : 2 ^ n ≤ 4096 := (Nat.pow_le_pow_right (by decide) h : 2 ^ n ≤ 2 ^ 12)
/-- i is the best of the sets below s, of at most rm -/
def SQ (σ : Int32 → Int32) (p : Int32) (N : Nat) (rm : Int32) (s i : Nat) (b li : Int32) : Prop := i < s ∧ b.toInt = fS σ (dS σ p i) N ∧ li.toInt = wS σ (dS σ p i) N ∧ li ≤ rm ∧ ∀ t, t < s → wS σ (dS σ p t) N ≤ rm.toInt → rS σ (dS σ p t) N ≤ rS σ (dS σ p i) N
def SK (rm f w b li q : Int32) : Prop := rm < w ∨ f < b ∨ (f = b ∧ li < w) ∨ (f = b ∧ w = li ∧ q = 0)
theorem S_no {σ : Int32 → Int32} {S : Nat → Bool} : ∀ n, (∀ i, i < n → S i = false) → wS σ S n = 0 ∧ fS σ S n = 0 := by
  intro n
  induction n with
  | zero => exact fun _ => ⟨rfl, rfl⟩
  | succ n ih =>
    intro h
    obtain ⟨a, b⟩ := ih (fun i hi => h i (by omega))
    rw [wS_1, fS_1, a, b, h n (by omega)]
    exact ⟨rfl, rfl⟩
theorem SQ_0 {σ : Int32 → Int32} {p : Int32} {N : Nat} {rm : Int32} (h : 0 ≤ rm) : SQ σ p N rm 1 0 0 0 := by
  have q : ∀ i, i < N → dS σ p 0 i = false := fun i _ => by
    unfold dS
    rw [Nat.zero_testBit, Bool.and_false]
  obtain ⟨a, b⟩ := S_no (σ := σ) N q
  exact ⟨by omega, b.symm, a.symm, h, fun t ht _ => by rw [show t = 0 by omega]; exact Int.le_refl _⟩
theorem SQ_step {σ : Int32 → Int32} {p : Int32} {N : Nat} {rm : Int32} {s i : Nat} {b li f w : Int32} (hL : LB σ N) (h : SQ σ p N rm s i b li) (hs : s < 2 ^ wN σ p N) (hf : f.toInt = fS σ (dS σ p s) N) (hw : w.toInt = wS σ (dS σ p s) N) : ∃ q, q = (nI s &&& (nI s ^^^ nI i)) &&& -(nI s ^^^ nI i) ∧ (SK rm f w b li q → SQ σ p N rm (s + 1) i b li) ∧ (¬ SK rm f w b li q → SQ σ p N rm (s + 1) s f w) := by
  obtain ⟨h1, h2, h3, h4, h5⟩ := h
  have hN := hL.1
  obtain ⟨p1, p2⟩ := pick (σ := σ) (p := p) (s := s) (t := i) hN hs (by omega) (by omega)
  obtain ⟨⟨a1, a2⟩, a3, a4⟩ := wf_b (S := dS σ p s) N hL
  obtain ⟨⟨b1, b2⟩, b3, b4⟩ := wf_b (S := dS σ p i) N hL
  obtain ⟨c1, c2⟩ := bS_b (S := dS σ p s) N hN
  obtain ⟨d1, d2⟩ := bS_b (S := dS σ p i) N hN
  have z : 0 < ((2 ^ (12 - N) : Nat) : Int) := by
    have := Nat.two_pow_pos (12 - N)
    omega
  have rs : rS σ (dS σ p s) N = 524288 * fS σ (dS σ p s) N - 4096 * wS σ (dS σ p s) N + bS (dS σ p s) N := rfl
  have ri : rS σ (dS σ p i) N = 524288 * fS σ (dS σ p i) N - 4096 * wS σ (dS σ p i) N + bS (dS σ p i) N := rfl
  refine ⟨_, rfl, fun hk => ⟨by omega, h2, h3, h4, fun t ht htw => ?_⟩, fun hk => ⟨by omega, hf, hw, ?_, fun t ht htw => ?_⟩⟩
  · by_cases e : t = s
    · subst e
      rcases hk with k | k | ⟨k, k2⟩ | ⟨k, k2, k3⟩
      · rw [i_lt] at k
        omega
      · rw [i_lt, hf, h2] at k
        rw [rs, ri]
        generalize ((2 ^ (12 - N) : Nat) : Int) = u at *
        omega
      · rw [i_lt, hw, h3] at k2
        have k9 := congrArg Int32.toInt k
        rw [hf, h2] at k9
        rw [rs, ri]
        generalize ((2 ^ (12 - N) : Nat) : Int) = u at *
        omega
      · have k8 := congrArg Int32.toInt k2
        rw [hw, h3] at k8
        have k9 := congrArg Int32.toInt k
        rw [hf, h2] at k9
        have k7 := p1 k3
        rw [rs, ri]
        omega
    · exact h5 t (by omega) htw
  · exact Int32.not_lt.mp (fun z => hk (Or.inl z))
  · have hle : rS σ (dS σ p i) N ≤ rS σ (dS σ p s) N := by
      have n2 : ¬ f < b := fun z => hk (Or.inr (Or.inl z))
      rw [i_lt, hf, h2] at n2
      by_cases e : f = b
      · have n3 : ¬ li < w := fun z => hk (Or.inr (Or.inr (Or.inl ⟨e, z⟩)))
        rw [i_lt, hw, h3] at n3
        have k9 := congrArg Int32.toInt e
        rw [hf, h2] at k9
        by_cases e2 : w = li
        · have k7 := p2 (fun z => hk (Or.inr (Or.inr (Or.inr ⟨e, e2, z⟩))))
          have k8 := congrArg Int32.toInt e2
          rw [hw, h3] at k8
          rw [rs, ri]
          omega
        · have k8 : ¬ w.toInt = li.toInt := fun z => e2 (Int32.toInt_inj.mp z)
          rw [hw, h3] at k8
          rw [rs, ri]
          generalize ((2 ^ (12 - N) : Nat) : Int) = u at *
          omega
      · have k8 : ¬ f.toInt = b.toInt := fun z => e (Int32.toInt_inj.mp z)
        rw [hf, h2] at k8
        rw [rs, ri]
        generalize ((2 ^ (12 - N) : Nat) : Int) = u at *
        omega
    by_cases e : t = s
    · subst e
      exact Int.le_refl _
    · exact Int.le_trans (h5 t (by omega) htw) hle
theorem sumT_1 {f : Int32 → Int32} {L : List Int32} {s l : Nat} : sumT f L s (l + 1) = if s.testBit l = true then sumT f L s l + f (L.getD l 0) else sumT f L s l := rfl
theorem wL_at {σ : Int32 → Int32} {p : Int32} {n l : Nat} (h : l < (wL σ p n).length) : ∃ i, i < n ∧ (wL σ p n).getD l 0 = nI i ∧ lt σ ((wL σ p n).getD l 0) 6 = p := by
  have e : (wL σ p n).getD l 0 = (wL σ p n)[l] := by
    rw [List.getD_eq_getElem?_getD, List.getElem?_eq_getElem h]
    rfl
  rw [e]
  exact wL_in n _ (List.getElem_mem h)
theorem dX12_loads_0 : decode cX12_loads 0 = .ok (.aload_n 0, 1) := by decide +kernel
theorem dX12_loads_1 : decode cX12_loads 1 = .ok (.aload_n 0, 1) := by decide +kernel
theorem dX12_loads_2 : decode cX12_loads 2 = .ok (.getfield 16, 3) := by decide +kernel
theorem dX12_loads_5 : decode cX12_loads 5 = .ok (.iload_n 1, 1) := by decide +kernel
theorem dX12_loads_6 : decode cX12_loads 6 = .ok (.iconst 1, 1) := by decide +kernel
theorem dX12_loads_7 : decode cX12_loads 7 = .ok (.invokestatic 96, 3) := by decide +kernel
theorem dX12_loads_10 : decode cX12_loads 10 = .ok (.iaload, 1) := by decide +kernel
theorem dX12_loads_11 : decode cX12_loads 11 = .ok (.invokevirtual 121, 3) := by decide +kernel
theorem dX12_loads_14 : decode cX12_loads 14 = .ok (.istore_n 2, 1) := by decide +kernel
theorem dX12_loads_15 : decode cX12_loads 15 = .ok (.aload_n 0, 1) := by decide +kernel
theorem dX12_loads_16 : decode cX12_loads 16 = .ok (.getfield 16, 3) := by decide +kernel
theorem dX12_loads_19 : decode cX12_loads 19 = .ok (.iload_n 1, 1) := by decide +kernel
theorem dX12_loads_20 : decode cX12_loads 20 = .ok (.iconst 0, 1) := by decide +kernel
theorem dX12_loads_21 : decode cX12_loads 21 = .ok (.invokestatic 96, 3) := by decide +kernel
theorem dX12_loads_24 : decode cX12_loads 24 = .ok (.iaload, 1) := by decide +kernel
theorem dX12_loads_25 : decode cX12_loads 25 = .ok (.aload_n 0, 1) := by decide +kernel
theorem dX12_loads_26 : decode cX12_loads 26 = .ok (.iload_n 1, 1) := by decide +kernel
theorem dX12_loads_27 : decode cX12_loads 27 = .ok (.invokevirtual 109, 3) := by decide +kernel
theorem dX12_loads_30 : decode cX12_loads 30 = .ok (.isub, 1) := by decide +kernel
theorem dX12_loads_31 : decode cX12_loads 31 = .ok (.istore_n 3, 1) := by decide +kernel
theorem dX12_loads_32 : decode cX12_loads 32 = .ok (.iconst 0, 1) := by decide +kernel
theorem dX12_loads_33 : decode cX12_loads 33 = .ok (.istore 4, 2) := by decide +kernel
theorem dX12_loads_35 : decode cX12_loads 35 = .ok (.iconst 0, 1) := by decide +kernel
theorem dX12_loads_36 : decode cX12_loads 36 = .ok (.istore 5, 2) := by decide +kernel
theorem dX12_loads_38 : decode cX12_loads 38 = .ok (.aload_n 0, 1) := by decide +kernel
theorem dX12_loads_39 : decode cX12_loads 39 = .ok (.iconst 0, 1) := by decide +kernel
theorem dX12_loads_40 : decode cX12_loads 40 = .ok (.putfield 124, 3) := by decide +kernel
theorem dX12_loads_43 : decode cX12_loads 43 = .ok (.iconst 1, 1) := by decide +kernel
theorem dX12_loads_44 : decode cX12_loads 44 = .ok (.istore 6, 2) := by decide +kernel
theorem dX12_loads_46 : decode cX12_loads 46 = .ok (.iload 6, 2) := by decide +kernel
theorem dX12_loads_48 : decode cX12_loads 48 = .ok (.iconst 1, 1) := by decide +kernel
theorem dX12_loads_49 : decode cX12_loads 49 = .ok (.iload_n 2, 1) := by decide +kernel
theorem dX12_loads_50 : decode cX12_loads 50 = .ok (.ishl, 1) := by decide +kernel
theorem dX12_loads_51 : decode cX12_loads 51 = .ok (.if_icmp .ge 171, 3) := by decide +kernel
theorem dX12_loads_54 : decode cX12_loads 54 = .ok (.iconst 0, 1) := by decide +kernel
theorem dX12_loads_55 : decode cX12_loads 55 = .ok (.istore 7, 2) := by decide +kernel
theorem dX12_loads_57 : decode cX12_loads 57 = .ok (.iconst 0, 1) := by decide +kernel
theorem dX12_loads_58 : decode cX12_loads 58 = .ok (.istore 8, 2) := by decide +kernel
theorem dX12_loads_60 : decode cX12_loads 60 = .ok (.iconst 0, 1) := by decide +kernel
theorem dX12_loads_61 : decode cX12_loads 61 = .ok (.istore 9, 2) := by decide +kernel
theorem dX12_loads_63 : decode cX12_loads 63 = .ok (.iload 9, 2) := by decide +kernel
theorem dX12_loads_65 : decode cX12_loads 65 = .ok (.iload_n 2, 1) := by decide +kernel
theorem dX12_loads_66 : decode cX12_loads 66 = .ok (.if_icmp .ge 64, 3) := by decide +kernel
theorem dX12_loads_69 : decode cX12_loads 69 = .ok (.iload 6, 2) := by decide +kernel
theorem dX12_loads_71 : decode cX12_loads 71 = .ok (.iload 9, 2) := by decide +kernel
theorem dX12_loads_73 : decode cX12_loads 73 = .ok (.ishr, 1) := by decide +kernel
theorem dX12_loads_74 : decode cX12_loads 74 = .ok (.iconst 1, 1) := by decide +kernel
theorem dX12_loads_75 : decode cX12_loads 75 = .ok (.iand, 1) := by decide +kernel
theorem dX12_loads_76 : decode cX12_loads 76 = .ok (.ifCond .ne 6, 3) := by decide +kernel
theorem dX12_loads_79 : decode cX12_loads 79 = .ok (.goto 45, 3) := by decide +kernel
theorem dX12_loads_82 : decode cX12_loads 82 = .ok (.iload 7, 2) := by decide +kernel
theorem dX12_loads_84 : decode cX12_loads 84 = .ok (.aload_n 0, 1) := by decide +kernel
theorem dX12_loads_85 : decode cX12_loads 85 = .ok (.getfield 16, 3) := by decide +kernel
theorem dX12_loads_88 : decode cX12_loads 88 = .ok (.aload_n 0, 1) := by decide +kernel
theorem dX12_loads_89 : decode cX12_loads 89 = .ok (.getfield 32, 3) := by decide +kernel
theorem dX12_loads_92 : decode cX12_loads 92 = .ok (.iload 9, 2) := by decide +kernel
theorem dX12_loads_94 : decode cX12_loads 94 = .ok (.iaload, 1) := by decide +kernel
theorem dX12_loads_95 : decode cX12_loads 95 = .ok (.iconst 3, 1) := by decide +kernel
theorem dX12_loads_96 : decode cX12_loads 96 = .ok (.invokestatic 70, 3) := by decide +kernel
theorem dX12_loads_99 : decode cX12_loads 99 = .ok (.iaload, 1) := by decide +kernel
theorem dX12_loads_100 : decode cX12_loads 100 = .ok (.iadd, 1) := by decide +kernel
theorem dX12_loads_101 : decode cX12_loads 101 = .ok (.istore 7, 2) := by decide +kernel
theorem dX12_loads_103 : decode cX12_loads 103 = .ok (.iload 8, 2) := by decide +kernel
theorem dX12_loads_105 : decode cX12_loads 105 = .ok (.aload_n 0, 1) := by decide +kernel
theorem dX12_loads_106 : decode cX12_loads 106 = .ok (.getfield 16, 3) := by decide +kernel
theorem dX12_loads_109 : decode cX12_loads 109 = .ok (.aload_n 0, 1) := by decide +kernel
theorem dX12_loads_110 : decode cX12_loads 110 = .ok (.getfield 32, 3) := by decide +kernel
theorem dX12_loads_113 : decode cX12_loads 113 = .ok (.iload 9, 2) := by decide +kernel
theorem dX12_loads_115 : decode cX12_loads 115 = .ok (.iaload, 1) := by decide +kernel
theorem dX12_loads_116 : decode cX12_loads 116 = .ok (.iconst 2, 1) := by decide +kernel
theorem dX12_loads_117 : decode cX12_loads 117 = .ok (.invokestatic 70, 3) := by decide +kernel
theorem dX12_loads_120 : decode cX12_loads 120 = .ok (.iaload, 1) := by decide +kernel
theorem dX12_loads_121 : decode cX12_loads 121 = .ok (.iadd, 1) := by decide +kernel
theorem dX12_loads_122 : decode cX12_loads 122 = .ok (.istore 8, 2) := by decide +kernel
theorem dX12_loads_124 : decode cX12_loads 124 = .ok (.iinc 9 1, 3) := by decide +kernel
theorem dX12_loads_127 : decode cX12_loads 127 = .ok (.goto (-64), 3) := by decide +kernel
theorem dX12_loads_130 : decode cX12_loads 130 = .ok (.iload 8, 2) := by decide +kernel
theorem dX12_loads_132 : decode cX12_loads 132 = .ok (.iload_n 3, 1) := by decide +kernel
theorem dX12_loads_133 : decode cX12_loads 133 = .ok (.if_icmp .gt 83, 3) := by decide +kernel
theorem dX12_loads_136 : decode cX12_loads 136 = .ok (.iload 7, 2) := by decide +kernel
theorem dX12_loads_138 : decode cX12_loads 138 = .ok (.aload_n 0, 1) := by decide +kernel
theorem dX12_loads_139 : decode cX12_loads 139 = .ok (.getfield 124, 3) := by decide +kernel
theorem dX12_loads_142 : decode cX12_loads 142 = .ok (.if_icmp .lt 74, 3) := by decide +kernel
theorem dX12_loads_145 : decode cX12_loads 145 = .ok (.iload 7, 2) := by decide +kernel
theorem dX12_loads_147 : decode cX12_loads 147 = .ok (.aload_n 0, 1) := by decide +kernel
theorem dX12_loads_148 : decode cX12_loads 148 = .ok (.getfield 124, 3) := by decide +kernel
theorem dX12_loads_151 : decode cX12_loads 151 = .ok (.if_icmp .ne 13, 3) := by decide +kernel
theorem dX12_loads_154 : decode cX12_loads 154 = .ok (.iload 8, 2) := by decide +kernel
theorem dX12_loads_156 : decode cX12_loads 156 = .ok (.iload 5, 2) := by decide +kernel
theorem dX12_loads_158 : decode cX12_loads 158 = .ok (.if_icmp .le 6, 3) := by decide +kernel
theorem dX12_loads_161 : decode cX12_loads 161 = .ok (.goto 55, 3) := by decide +kernel
theorem dX12_loads_164 : decode cX12_loads 164 = .ok (.iload 6, 2) := by decide +kernel
theorem dX12_loads_166 : decode cX12_loads 166 = .ok (.iload 4, 2) := by decide +kernel
theorem dX12_loads_168 : decode cX12_loads 168 = .ok (.ixor, 1) := by decide +kernel
theorem dX12_loads_169 : decode cX12_loads 169 = .ok (.istore 9, 2) := by decide +kernel
theorem dX12_loads_171 : decode cX12_loads 171 = .ok (.iload 7, 2) := by decide +kernel
theorem dX12_loads_173 : decode cX12_loads 173 = .ok (.aload_n 0, 1) := by decide +kernel
theorem dX12_loads_174 : decode cX12_loads 174 = .ok (.getfield 124, 3) := by decide +kernel
theorem dX12_loads_177 : decode cX12_loads 177 = .ok (.if_icmp .ne 25, 3) := by decide +kernel
theorem dX12_loads_180 : decode cX12_loads 180 = .ok (.iload 8, 2) := by decide +kernel
theorem dX12_loads_182 : decode cX12_loads 182 = .ok (.iload 5, 2) := by decide +kernel
theorem dX12_loads_184 : decode cX12_loads 184 = .ok (.if_icmp .ne 18, 3) := by decide +kernel
theorem dX12_loads_187 : decode cX12_loads 187 = .ok (.iload 6, 2) := by decide +kernel
theorem dX12_loads_189 : decode cX12_loads 189 = .ok (.iload 9, 2) := by decide +kernel
theorem dX12_loads_191 : decode cX12_loads 191 = .ok (.iand, 1) := by decide +kernel
theorem dX12_loads_192 : decode cX12_loads 192 = .ok (.iload 9, 2) := by decide +kernel
theorem dX12_loads_194 : decode cX12_loads 194 = .ok (.ineg, 1) := by decide +kernel
theorem dX12_loads_195 : decode cX12_loads 195 = .ok (.iand, 1) := by decide +kernel
theorem dX12_loads_196 : decode cX12_loads 196 = .ok (.ifCond .ne 6, 3) := by decide +kernel
theorem dX12_loads_199 : decode cX12_loads 199 = .ok (.goto 17, 3) := by decide +kernel
theorem dX12_loads_202 : decode cX12_loads 202 = .ok (.iload 6, 2) := by decide +kernel
theorem dX12_loads_204 : decode cX12_loads 204 = .ok (.istore 4, 2) := by decide +kernel
theorem dX12_loads_206 : decode cX12_loads 206 = .ok (.aload_n 0, 1) := by decide +kernel
theorem dX12_loads_207 : decode cX12_loads 207 = .ok (.iload 7, 2) := by decide +kernel
theorem dX12_loads_209 : decode cX12_loads 209 = .ok (.putfield 124, 3) := by decide +kernel
theorem dX12_loads_212 : decode cX12_loads 212 = .ok (.iload 8, 2) := by decide +kernel
theorem dX12_loads_214 : decode cX12_loads 214 = .ok (.istore 5, 2) := by decide +kernel
theorem dX12_loads_216 : decode cX12_loads 216 = .ok (.iinc 6 1, 3) := by decide +kernel
theorem dX12_loads_219 : decode cX12_loads 219 = .ok (.goto (-173), 3) := by decide +kernel
theorem dX12_loads_222 : decode cX12_loads 222 = .ok (.iload 4, 2) := by decide +kernel
theorem dX12_loads_224 : decode cX12_loads 224 = .ok (.ireturn, 1) := by decide +kernel
set_option maxRecDepth 100000 in
set_option maxHeartbeats 4000000 in
theorem r_loads {l : Launch} {g : Nat → Nat} {M : LH} (htr : l.stackTraces = false) {kd : Nat → Nat} {r m : Nat} {w : Nat → Nat} {t ch ea fl sv bf tn he en ln wr dg : Int32} {v b4 sa pa fr th bs tx li lf to : Int32 → Int32} (hC : Md kd r M m w t ch ea fl sv bf tn he en ln wr dg v b4 sa pa fr th bs tx li lf to) (hG : Good v) {k : Int32} (k0 : 0 ≤ k) (k1 : k < v 6) : K_X12_loads l g 2 0 0 [.ref m, .int k] M (RI (fun x M9 => ∃ (s : Nat) (b' li' : Int32) (th' : Int32 → Int32), x = nI s ∧ SQ v (sd v k 1) (v 7).toNatClampNeg (sd v k 0 - loadOn v k) (2 ^ wN v (sd v k 1) (v 7).toNatClampNeg) s b' li' ∧ Tl th' (wL v (sd v k 1) (v 7).toNatClampNeg) ∧ Md kd r M9 m w t ch ea fl sv b' tn he en ln wr dg v b4 sa pa fr th' bs tx li lf to ∧ Frm kd r M M9) nX) := by
  refine Ko_X12_loads htr (fun X => ?_)
  obtain ⟨hMo, hw5, hw6, hw7, hw8, hw9, hw10, hw11, hw13, hw14, hw15, hw16, hw17, hw18, -⟩ := _root_.id hC
  have hF : Frm kd r M M := Frm.rf
  obtain ⟨hg1, hg2, hg3, hg4, hg5, hg6, hg7, hg8, hgL, hgS, -⟩ := _root_.id hG
  have hL9 := hG.LB
  have k3 : k < 3 := by clear hgL hgS hL9; lia
  obtain ⟨u0, u1, u2, u3, u4, u5, u6, u7⟩ := hgS k k0 k1
  have rm0 : 0 ≤ (sd v k 0 - loadOn v k) := by clear hgL hgS hL9; lia
  clear hgS
  have hW : wN v (sd v k 1) (v 7).toNatClampNeg ≤ 12 := Nat.le_trans (wL_len (v 7).toNatClampNeg) hL9.1
  have hWp := p12 hW
  have key : ∀ d s i, s + d = 2 ^ wN v (sd v k 1) (v 7).toNatClampNeg → ∀ (M1 : LH) (b li' : Int32) (th' : Int32 → Int32) (z7 z8 z9 : Option Value), SQ v (sd v k 1) (v 7).toNatClampNeg (sd v k 0 - loadOn v k) s i b li' → Tl th' (wL v (sd v k 1) (v 7).toNatClampNeg) → Md kd r M1 m w t ch ea fl sv b tn he en ln wr dg v b4 sa pa fr th' bs tx li lf to → Frm kd r M M1 → V l g yX12_loads cX12_loads ((some .int)) [] 2 0 0 (RI (fun x M9 => ∃ (s : Nat) (b' li' : Int32) (th' : Int32 → Int32), x = nI s ∧ SQ v (sd v k 1) (v 7).toNatClampNeg (sd v k 0 - loadOn v k) (2 ^ wN v (sd v k 1) (v 7).toNatClampNeg) s b' li' ∧ Tl th' (wL v (sd v k 1) (v 7).toNatClampNeg) ∧ Md kd r M9 m w t ch ea fl sv b' tn he en ln wr dg v b4 sa pa fr th' bs tx li lf to ∧ Frm kd r M M9) nX) X M1 0 0 46 [some (.ref m), some (.int k), some (.int (nI (wN v (sd v k 1) (v 7).toNatClampNeg))), some (.int (sd v k 0 - loadOn v k)), some (.int (nI i)), some (.int li'), some (.int (nI s)), z7, z8, z9] [] := by
    clear hC hF hMo hw5 hw6 hw7 hw8 hw9 hw10 hw11 hw13 hw14 hw15 hw16 hw17 hw18
    intro d
    induction d with
    | zero =>
      intro s i hd M1 b li' th' z7 z8 z9 hSQ hT hC hF
      obtain ⟨hMo, hw5, hw6, hw7, hw8, hw9, hw10, hw11, hw13, hw14, hw15, hw16, hw17, hw18, -⟩ := _root_.id hC
      have hd0 : s = 2 ^ wN v (sd v k 1) (v 7).toNatClampNeg := by omega
      refine v_iload dX12_loads_46 rfl ?_
      refine v_iconst (v := 1) dX12_loads_48 (by decide) ?_
      refine v_iload_n dX12_loads_49 rfl rfl ?_
      refine v_ishl dX12_loads_50 ?_
      rw [shl12 _ (by omega)]
      refine v_icmp_ge (tgt := 222) dX12_loads_51 (by decide) (fun h51 => ?_) (fun h51 => ?_)
      · refine v_iload dX12_loads_222 rfl ?_
        exact v_iret dX12_loads_224 rfl ⟨i, b, li', th', rfl, (by rw [← hd0]; exact hSQ), hT, hC, hF⟩ (by omega) (by omega)
      · rw [hd0] at h51
        exact absurd (Int32.le_refl _) h51
    | succ d ih =>
      intro s i hd M1 b li' th' z7 z8 z9 hSQ hT hC hF
      obtain ⟨hMo, hw5, hw6, hw7, hw8, hw9, hw10, hw11, hw13, hw14, hw15, hw16, hw17, hw18, -⟩ := _root_.id hC
      have hs9 : s < 2 ^ wN v (sd v k 1) (v 7).toNatClampNeg := by omega
      have key2 : ∀ e lx, lx + e = wN v (sd v k 1) (v 7).toNatClampNeg → V l g yX12_loads cX12_loads ((some .int)) [] 2 0 0 (RI (fun x M9 => ∃ (s : Nat) (b' li' : Int32) (th' : Int32 → Int32), x = nI s ∧ SQ v (sd v k 1) (v 7).toNatClampNeg (sd v k 0 - loadOn v k) (2 ^ wN v (sd v k 1) (v 7).toNatClampNeg) s b' li' ∧ Tl th' (wL v (sd v k 1) (v 7).toNatClampNeg) ∧ Md kd r M9 m w t ch ea fl sv b' tn he en ln wr dg v b4 sa pa fr th' bs tx li lf to ∧ Frm kd r M M9) nX) X M1 0 0 63 [some (.ref m), some (.int k), some (.int (nI (wN v (sd v k 1) (v 7).toNatClampNeg))), some (.int (sd v k 0 - loadOn v k)), some (.int (nI i)), some (.int li'), some (.int (nI s)), some (.int (sumT (fun i => lt v i 3) (wL v (sd v k 1) (v 7).toNatClampNeg) s lx)), some (.int (sumT (fun i => lt v i 2) (wL v (sd v k 1) (v 7).toNatClampNeg) s lx)), some (.int (nI lx))] [] := by
        intro e
        induction e with
        | zero =>
          intro lx hl
          have hl0 : lx = wN v (sd v k 1) (v 7).toNatClampNeg := by omega
          subst hl0
          obtain ⟨q3, q2⟩ := sS_w (σ := v) (S := dS v (sd v k 1) s) (v 7).toNatClampNeg hL9
          rw [sumT_S (v 7).toNatClampNeg (Nat.le_refl _), sumT_S (v 7).toNatClampNeg (Nat.le_refl _)]
          obtain ⟨q, hq, hk1, hk2⟩ := SQ_step hL9 hSQ hs9 q2 q3
          unfold SK at hk1 hk2
          generalize sS (fun i => lt v i 3) (dS v (sd v k 1) s) (v 7).toNatClampNeg = f9 at *
          generalize sS (fun i => lt v i 2) (dS v (sd v k 1) s) (v 7).toNatClampNeg = w9 at *
          refine v_iload dX12_loads_63 rfl ?_
          refine v_iload_n dX12_loads_65 rfl rfl ?_
          refine v_icmp_ge (tgt := 130) dX12_loads_66 (by decide) (fun h66 => ?_) (fun h66 => ?_)
          · refine v_iload dX12_loads_130 rfl ?_
            refine v_iload_n dX12_loads_132 rfl rfl ?_
            refine v_icmp_gt (tgt := 216) dX12_loads_133 (by decide) (fun h133 => ?_) (fun h133 => ?_)
            · refine v_iinc_6 dX12_loads_216 rfl ?_
              refine v_goto (tgt := 46) dX12_loads_219 (by decide) ?_
              rw [show nI s + Int32.ofInt 1 = nI (s + 1) from nI_1 s]
              first
                | exact ih (s + 1) i (by omega) _ b li' th' _ _ _ (hk1 (by clear hk1 hk2 ih hSQ hL9 hgL hT hq q2 q3 hC hF hMo hw5 hw6 hw7 hw8 hw9 hw10 hw11 hw13 hw14 hw15 hw16 hw17 hw18; lia)) hT hC hF
                | exact ih (s + 1) s (by omega) _ f9 w9 th' _ _ _ (hk2 (by clear hk1 hk2 ih hSQ hL9 hgL hT hq q2 q3 hC hF hMo hw5 hw6 hw7 hw8 hw9 hw10 hw11 hw13 hw14 hw15 hw16 hw17 hw18; lia)) hT hC hF
            · refine v_iload dX12_loads_136 rfl ?_
              refine v_aload_n dX12_loads_138 rfl rfl ?_
              refine gf_X12_124 dX12_loads_139 rfl hMo ?_
              refine v_icmp_lt (tgt := 216) dX12_loads_142 (by decide) (fun h142 => ?_) (fun h142 => ?_)
              · refine v_iinc_6 dX12_loads_216 rfl ?_
                refine v_goto (tgt := 46) dX12_loads_219 (by decide) ?_
                rw [show nI s + Int32.ofInt 1 = nI (s + 1) from nI_1 s]
                first
                  | exact ih (s + 1) i (by omega) _ b li' th' _ _ _ (hk1 (by clear hk1 hk2 ih hSQ hL9 hgL hT hq q2 q3 hC hF hMo hw5 hw6 hw7 hw8 hw9 hw10 hw11 hw13 hw14 hw15 hw16 hw17 hw18; lia)) hT hC hF
                  | exact ih (s + 1) s (by omega) _ f9 w9 th' _ _ _ (hk2 (by clear hk1 hk2 ih hSQ hL9 hgL hT hq q2 q3 hC hF hMo hw5 hw6 hw7 hw8 hw9 hw10 hw11 hw13 hw14 hw15 hw16 hw17 hw18; lia)) hT hC hF
              · refine v_iload dX12_loads_145 rfl ?_
                refine v_aload_n dX12_loads_147 rfl rfl ?_
                refine gf_X12_124 dX12_loads_148 rfl hMo ?_
                refine v_icmp_ne (tgt := 164) dX12_loads_151 (by decide) (fun h151 => ?_) (fun h151 => ?_)
                · refine v_iload dX12_loads_164 rfl ?_
                  refine v_iload dX12_loads_166 rfl ?_
                  refine v_ixor dX12_loads_168 ?_
                  refine v_istore_9 dX12_loads_169 ?_
                  refine v_iload dX12_loads_171 rfl ?_
                  refine v_aload_n dX12_loads_173 rfl rfl ?_
                  refine gf_X12_124 dX12_loads_174 rfl hMo ?_
                  refine v_icmp_ne (tgt := 202) dX12_loads_177 (by decide) (fun h177 => ?_) (fun h177 => ?_)
                  · refine v_iload dX12_loads_202 rfl ?_
                    refine v_istore_4 dX12_loads_204 ?_
                    refine v_aload_n dX12_loads_206 rfl rfl ?_
                    refine v_iload dX12_loads_207 rfl ?_
                    refine pf_X12_124 dX12_loads_209 rfl hMo ?_
                    refine V.md (Md.sc hC) (Frm.tr hF (Frm.up (hC.kd_sc))) (fun M1 hC hF => ?_)
                    obtain ⟨hMo, hw5, hw6, hw7, hw8, hw9, hw10, hw11, hw13, hw14, hw15, hw16, hw17, hw18, -⟩ := _root_.id hC
                    refine v_iload dX12_loads_212 rfl ?_
                    refine v_istore_5 dX12_loads_214 ?_
                    refine v_iinc_6 dX12_loads_216 rfl ?_
                    refine v_goto (tgt := 46) dX12_loads_219 (by decide) ?_
                    rw [show nI s + Int32.ofInt 1 = nI (s + 1) from nI_1 s]
                    first
                      | exact ih (s + 1) i (by omega) _ b li' th' _ _ _ (hk1 (by clear hk1 hk2 ih hSQ hL9 hgL hT hq q2 q3 hC hF hMo hw5 hw6 hw7 hw8 hw9 hw10 hw11 hw13 hw14 hw15 hw16 hw17 hw18; lia)) hT hC hF
                      | exact ih (s + 1) s (by omega) _ f9 w9 th' _ _ _ (hk2 (by clear hk1 hk2 ih hSQ hL9 hgL hT hq q2 q3 hC hF hMo hw5 hw6 hw7 hw8 hw9 hw10 hw11 hw13 hw14 hw15 hw16 hw17 hw18; lia)) hT hC hF
                  · refine v_iload dX12_loads_180 rfl ?_
                    refine v_iload dX12_loads_182 rfl ?_
                    refine v_icmp_ne (tgt := 202) dX12_loads_184 (by decide) (fun h184 => ?_) (fun h184 => ?_)
                    · refine v_iload dX12_loads_202 rfl ?_
                      refine v_istore_4 dX12_loads_204 ?_
                      refine v_aload_n dX12_loads_206 rfl rfl ?_
                      refine v_iload dX12_loads_207 rfl ?_
                      refine pf_X12_124 dX12_loads_209 rfl hMo ?_
                      refine V.md (Md.sc hC) (Frm.tr hF (Frm.up (hC.kd_sc))) (fun M1 hC hF => ?_)
                      obtain ⟨hMo, hw5, hw6, hw7, hw8, hw9, hw10, hw11, hw13, hw14, hw15, hw16, hw17, hw18, -⟩ := _root_.id hC
                      refine v_iload dX12_loads_212 rfl ?_
                      refine v_istore_5 dX12_loads_214 ?_
                      refine v_iinc_6 dX12_loads_216 rfl ?_
                      refine v_goto (tgt := 46) dX12_loads_219 (by decide) ?_
                      rw [show nI s + Int32.ofInt 1 = nI (s + 1) from nI_1 s]
                      first
                        | exact ih (s + 1) i (by omega) _ b li' th' _ _ _ (hk1 (by clear hk1 hk2 ih hSQ hL9 hgL hT hq q2 q3 hC hF hMo hw5 hw6 hw7 hw8 hw9 hw10 hw11 hw13 hw14 hw15 hw16 hw17 hw18; lia)) hT hC hF
                        | exact ih (s + 1) s (by omega) _ f9 w9 th' _ _ _ (hk2 (by clear hk1 hk2 ih hSQ hL9 hgL hT hq q2 q3 hC hF hMo hw5 hw6 hw7 hw8 hw9 hw10 hw11 hw13 hw14 hw15 hw16 hw17 hw18; lia)) hT hC hF
                    · refine v_iload dX12_loads_187 rfl ?_
                      refine v_iload dX12_loads_189 rfl ?_
                      refine v_iand dX12_loads_191 ?_
                      refine v_iload dX12_loads_192 rfl ?_
                      refine v_ineg dX12_loads_194 ?_
                      refine v_iand dX12_loads_195 ?_
                      rw [← hq]
                      refine v_if_ne (tgt := 202) dX12_loads_196 (by decide) (fun h196 => ?_) (fun h196 => ?_)
                      · refine v_iload dX12_loads_202 rfl ?_
                        refine v_istore_4 dX12_loads_204 ?_
                        refine v_aload_n dX12_loads_206 rfl rfl ?_
                        refine v_iload dX12_loads_207 rfl ?_
                        refine pf_X12_124 dX12_loads_209 rfl hMo ?_
                        refine V.md (Md.sc hC) (Frm.tr hF (Frm.up (hC.kd_sc))) (fun M1 hC hF => ?_)
                        obtain ⟨hMo, hw5, hw6, hw7, hw8, hw9, hw10, hw11, hw13, hw14, hw15, hw16, hw17, hw18, -⟩ := _root_.id hC
                        refine v_iload dX12_loads_212 rfl ?_
                        refine v_istore_5 dX12_loads_214 ?_
                        refine v_iinc_6 dX12_loads_216 rfl ?_
                        refine v_goto (tgt := 46) dX12_loads_219 (by decide) ?_
                        rw [show nI s + Int32.ofInt 1 = nI (s + 1) from nI_1 s]
                        first
                          | exact ih (s + 1) i (by omega) _ b li' th' _ _ _ (hk1 (by clear hk1 hk2 ih hSQ hL9 hgL hT hq q2 q3 hC hF hMo hw5 hw6 hw7 hw8 hw9 hw10 hw11 hw13 hw14 hw15 hw16 hw17 hw18; lia)) hT hC hF
                          | exact ih (s + 1) s (by omega) _ f9 w9 th' _ _ _ (hk2 (by clear hk1 hk2 ih hSQ hL9 hgL hT hq q2 q3 hC hF hMo hw5 hw6 hw7 hw8 hw9 hw10 hw11 hw13 hw14 hw15 hw16 hw17 hw18; lia)) hT hC hF
                      · refine v_goto (tgt := 216) dX12_loads_199 (by decide) ?_
                        refine v_iinc_6 dX12_loads_216 rfl ?_
                        refine v_goto (tgt := 46) dX12_loads_219 (by decide) ?_
                        rw [show nI s + Int32.ofInt 1 = nI (s + 1) from nI_1 s]
                        first
                          | exact ih (s + 1) i (by omega) _ b li' th' _ _ _ (hk1 (by clear hk1 hk2 ih hSQ hL9 hgL hT hq q2 q3 hC hF hMo hw5 hw6 hw7 hw8 hw9 hw10 hw11 hw13 hw14 hw15 hw16 hw17 hw18; lia)) hT hC hF
                          | exact ih (s + 1) s (by omega) _ f9 w9 th' _ _ _ (hk2 (by clear hk1 hk2 ih hSQ hL9 hgL hT hq q2 q3 hC hF hMo hw5 hw6 hw7 hw8 hw9 hw10 hw11 hw13 hw14 hw15 hw16 hw17 hw18; lia)) hT hC hF
                · refine v_iload dX12_loads_154 rfl ?_
                  refine v_iload dX12_loads_156 rfl ?_
                  refine v_icmp_le (tgt := 164) dX12_loads_158 (by decide) (fun h158 => ?_) (fun h158 => ?_)
                  · refine v_iload dX12_loads_164 rfl ?_
                    refine v_iload dX12_loads_166 rfl ?_
                    refine v_ixor dX12_loads_168 ?_
                    refine v_istore_9 dX12_loads_169 ?_
                    refine v_iload dX12_loads_171 rfl ?_
                    refine v_aload_n dX12_loads_173 rfl rfl ?_
                    refine gf_X12_124 dX12_loads_174 rfl hMo ?_
                    refine v_icmp_ne (tgt := 202) dX12_loads_177 (by decide) (fun h177 => ?_) (fun h177 => ?_)
                    · refine v_iload dX12_loads_202 rfl ?_
                      refine v_istore_4 dX12_loads_204 ?_
                      refine v_aload_n dX12_loads_206 rfl rfl ?_
                      refine v_iload dX12_loads_207 rfl ?_
                      refine pf_X12_124 dX12_loads_209 rfl hMo ?_
                      refine V.md (Md.sc hC) (Frm.tr hF (Frm.up (hC.kd_sc))) (fun M1 hC hF => ?_)
                      obtain ⟨hMo, hw5, hw6, hw7, hw8, hw9, hw10, hw11, hw13, hw14, hw15, hw16, hw17, hw18, -⟩ := _root_.id hC
                      refine v_iload dX12_loads_212 rfl ?_
                      refine v_istore_5 dX12_loads_214 ?_
                      refine v_iinc_6 dX12_loads_216 rfl ?_
                      refine v_goto (tgt := 46) dX12_loads_219 (by decide) ?_
                      rw [show nI s + Int32.ofInt 1 = nI (s + 1) from nI_1 s]
                      first
                        | exact ih (s + 1) i (by omega) _ b li' th' _ _ _ (hk1 (by clear hk1 hk2 ih hSQ hL9 hgL hT hq q2 q3 hC hF hMo hw5 hw6 hw7 hw8 hw9 hw10 hw11 hw13 hw14 hw15 hw16 hw17 hw18; lia)) hT hC hF
                        | exact ih (s + 1) s (by omega) _ f9 w9 th' _ _ _ (hk2 (by clear hk1 hk2 ih hSQ hL9 hgL hT hq q2 q3 hC hF hMo hw5 hw6 hw7 hw8 hw9 hw10 hw11 hw13 hw14 hw15 hw16 hw17 hw18; lia)) hT hC hF
                    · refine v_iload dX12_loads_180 rfl ?_
                      refine v_iload dX12_loads_182 rfl ?_
                      refine v_icmp_ne (tgt := 202) dX12_loads_184 (by decide) (fun h184 => ?_) (fun h184 => ?_)
                      · refine v_iload dX12_loads_202 rfl ?_
                        refine v_istore_4 dX12_loads_204 ?_
                        refine v_aload_n dX12_loads_206 rfl rfl ?_
                        refine v_iload dX12_loads_207 rfl ?_
                        refine pf_X12_124 dX12_loads_209 rfl hMo ?_
                        refine V.md (Md.sc hC) (Frm.tr hF (Frm.up (hC.kd_sc))) (fun M1 hC hF => ?_)
                        obtain ⟨hMo, hw5, hw6, hw7, hw8, hw9, hw10, hw11, hw13, hw14, hw15, hw16, hw17, hw18, -⟩ := _root_.id hC
                        refine v_iload dX12_loads_212 rfl ?_
                        refine v_istore_5 dX12_loads_214 ?_
                        refine v_iinc_6 dX12_loads_216 rfl ?_
                        refine v_goto (tgt := 46) dX12_loads_219 (by decide) ?_
                        rw [show nI s + Int32.ofInt 1 = nI (s + 1) from nI_1 s]
                        first
                          | exact ih (s + 1) i (by omega) _ b li' th' _ _ _ (hk1 (by clear hk1 hk2 ih hSQ hL9 hgL hT hq q2 q3 hC hF hMo hw5 hw6 hw7 hw8 hw9 hw10 hw11 hw13 hw14 hw15 hw16 hw17 hw18; lia)) hT hC hF
                          | exact ih (s + 1) s (by omega) _ f9 w9 th' _ _ _ (hk2 (by clear hk1 hk2 ih hSQ hL9 hgL hT hq q2 q3 hC hF hMo hw5 hw6 hw7 hw8 hw9 hw10 hw11 hw13 hw14 hw15 hw16 hw17 hw18; lia)) hT hC hF
                      · refine v_iload dX12_loads_187 rfl ?_
                        refine v_iload dX12_loads_189 rfl ?_
                        refine v_iand dX12_loads_191 ?_
                        refine v_iload dX12_loads_192 rfl ?_
                        refine v_ineg dX12_loads_194 ?_
                        refine v_iand dX12_loads_195 ?_
                        rw [← hq]
                        refine v_if_ne (tgt := 202) dX12_loads_196 (by decide) (fun h196 => ?_) (fun h196 => ?_)
                        · refine v_iload dX12_loads_202 rfl ?_
                          refine v_istore_4 dX12_loads_204 ?_
                          refine v_aload_n dX12_loads_206 rfl rfl ?_
                          refine v_iload dX12_loads_207 rfl ?_
                          refine pf_X12_124 dX12_loads_209 rfl hMo ?_
                          refine V.md (Md.sc hC) (Frm.tr hF (Frm.up (hC.kd_sc))) (fun M1 hC hF => ?_)
                          obtain ⟨hMo, hw5, hw6, hw7, hw8, hw9, hw10, hw11, hw13, hw14, hw15, hw16, hw17, hw18, -⟩ := _root_.id hC
                          refine v_iload dX12_loads_212 rfl ?_
                          refine v_istore_5 dX12_loads_214 ?_
                          refine v_iinc_6 dX12_loads_216 rfl ?_
                          refine v_goto (tgt := 46) dX12_loads_219 (by decide) ?_
                          rw [show nI s + Int32.ofInt 1 = nI (s + 1) from nI_1 s]
                          first
                            | exact ih (s + 1) i (by omega) _ b li' th' _ _ _ (hk1 (by clear hk1 hk2 ih hSQ hL9 hgL hT hq q2 q3 hC hF hMo hw5 hw6 hw7 hw8 hw9 hw10 hw11 hw13 hw14 hw15 hw16 hw17 hw18; lia)) hT hC hF
                            | exact ih (s + 1) s (by omega) _ f9 w9 th' _ _ _ (hk2 (by clear hk1 hk2 ih hSQ hL9 hgL hT hq q2 q3 hC hF hMo hw5 hw6 hw7 hw8 hw9 hw10 hw11 hw13 hw14 hw15 hw16 hw17 hw18; lia)) hT hC hF
                        · refine v_goto (tgt := 216) dX12_loads_199 (by decide) ?_
                          refine v_iinc_6 dX12_loads_216 rfl ?_
                          refine v_goto (tgt := 46) dX12_loads_219 (by decide) ?_
                          rw [show nI s + Int32.ofInt 1 = nI (s + 1) from nI_1 s]
                          first
                            | exact ih (s + 1) i (by omega) _ b li' th' _ _ _ (hk1 (by clear hk1 hk2 ih hSQ hL9 hgL hT hq q2 q3 hC hF hMo hw5 hw6 hw7 hw8 hw9 hw10 hw11 hw13 hw14 hw15 hw16 hw17 hw18; lia)) hT hC hF
                            | exact ih (s + 1) s (by omega) _ f9 w9 th' _ _ _ (hk2 (by clear hk1 hk2 ih hSQ hL9 hgL hT hq q2 q3 hC hF hMo hw5 hw6 hw7 hw8 hw9 hw10 hw11 hw13 hw14 hw15 hw16 hw17 hw18; lia)) hT hC hF
                  · refine v_goto (tgt := 216) dX12_loads_161 (by decide) ?_
                    refine v_iinc_6 dX12_loads_216 rfl ?_
                    refine v_goto (tgt := 46) dX12_loads_219 (by decide) ?_
                    rw [show nI s + Int32.ofInt 1 = nI (s + 1) from nI_1 s]
                    first
                      | exact ih (s + 1) i (by omega) _ b li' th' _ _ _ (hk1 (by clear hk1 hk2 ih hSQ hL9 hgL hT hq q2 q3 hC hF hMo hw5 hw6 hw7 hw8 hw9 hw10 hw11 hw13 hw14 hw15 hw16 hw17 hw18; lia)) hT hC hF
                      | exact ih (s + 1) s (by omega) _ f9 w9 th' _ _ _ (hk2 (by clear hk1 hk2 ih hSQ hL9 hgL hT hq q2 q3 hC hF hMo hw5 hw6 hw7 hw8 hw9 hw10 hw11 hw13 hw14 hw15 hw16 hw17 hw18; lia)) hT hC hF
          · exact absurd (Int32.le_refl _) h66
        | succ e ihe =>
          intro lx hl
          have hl9 : lx < wN v (sd v k 1) (v 7).toNatClampNeg := by omega
          have hlt9 : nI lx < nI (wN v (sd v k 1) (v 7).toNatClampNeg) := (nI_lt4 (by omega) (by omega)).mpr hl9
          obtain ⟨b0, b1⟩ := nI12 lx (by omega)
          obtain ⟨j, j1, j2, j3⟩ := wL_at hl9
          have ht9 : th' (nI lx) = nI j := (hT lx hl9).trans j2
          obtain ⟨j4, j5, j6⟩ := nI_below hg6 j1
          have hbit := shr12 (s := s) (l := lx) (by omega) (by omega)
          have hi := ihe (lx + 1) (by omega)
          rw [sumT_1, sumT_1, j2] at hi
          refine v_iload dX12_loads_63 rfl ?_
          refine v_iload_n dX12_loads_65 rfl rfl ?_
          refine v_icmp_ge (tgt := 130) dX12_loads_66 (by decide) (fun h66 => ?_) (fun h66 => ?_)
          · exact absurd h66 (Int32.not_le.mpr hlt9)
          · refine v_iload dX12_loads_69 rfl ?_
            refine v_iload dX12_loads_71 rfl ?_
            refine v_ishr dX12_loads_73 ?_
            refine v_iconst (v := 1) dX12_loads_74 (by decide) ?_
            refine v_iand dX12_loads_75 ?_
            refine v_if_ne (tgt := 82) dX12_loads_76 (by decide) (fun h76 => ?_) (fun h76 => ?_)
            · have hb9 : s.testBit lx = true := by
                cases hz : s.testBit lx with
                | true => rfl
                | false => exact absurd (hbit.mpr hz) h76
              rw [if_pos hb9, if_pos hb9] at hi
              refine v_iload dX12_loads_82 rfl ?_
              refine v_aload_n dX12_loads_84 rfl rfl ?_
              refine gf_X12_16 dX12_loads_85 rfl hMo ?_
              refine v_aload_n dX12_loads_88 rfl rfl ?_
              refine gf_X12_32 dX12_loads_89 rfl hMo ?_
              refine v_iload dX12_loads_92 rfl ?_
              refine v_iald dX12_loads_94 hw10 b0 b1 ?_
              rw [ht9]
              refine v_iconst (v := 3) dX12_loads_95 (by decide) ?_
              refine k_X12_70 dX12_loads_96 rfl (r_of htr (nI j) 3) (Nat.le_of_ble_eq_true rfl) (by omega) (by omega) (Nat.le_of_ble_eq_true rfl) (fun r96 M9 h9 => ?_) (fun _ _ h9 => h9.elim)
              obtain ⟨rfl, e9⟩ := h9
              subst M9
              refine v_iald dX12_loads_99 hw5 (by clear hi ihe ih hSQ hL9 hgL hT hbit hC hF; lia) (by clear hi ihe ih hSQ hL9 hgL hT hbit hC hF; lia) ?_
              refine v_iadd dX12_loads_100 ?_
              refine v_istore_7 dX12_loads_101 ?_
              refine v_iload dX12_loads_103 rfl ?_
              refine v_aload_n dX12_loads_105 rfl rfl ?_
              refine gf_X12_16 dX12_loads_106 rfl hMo ?_
              refine v_aload_n dX12_loads_109 rfl rfl ?_
              refine gf_X12_32 dX12_loads_110 rfl hMo ?_
              refine v_iload dX12_loads_113 rfl ?_
              refine v_iald dX12_loads_115 hw10 b0 b1 ?_
              rw [ht9]
              refine v_iconst (v := 2) dX12_loads_116 (by decide) ?_
              refine k_X12_70 dX12_loads_117 rfl (r_of htr (nI j) 2) (Nat.le_of_ble_eq_true rfl) (by omega) (by omega) (Nat.le_of_ble_eq_true rfl) (fun r117 M9 h9 => ?_) (fun _ _ h9 => h9.elim)
              obtain ⟨rfl, e9⟩ := h9
              subst M9
              refine v_iald dX12_loads_120 hw5 (by clear hi ihe ih hSQ hL9 hgL hT hbit hC hF; lia) (by clear hi ihe ih hSQ hL9 hgL hT hbit hC hF; lia) ?_
              refine v_iadd dX12_loads_121 ?_
              refine v_istore_8 dX12_loads_122 ?_
              refine v_iinc_9 dX12_loads_124 rfl ?_
              refine v_goto (tgt := 63) dX12_loads_127 (by decide) ?_
              rw [show nI lx + Int32.ofInt 1 = nI (lx + 1) from nI_1 lx]
              exact hi
            · have hb9 : ¬ s.testBit lx = true := by
                rw [hbit.mp (by first | exact h76 | exact Classical.not_not.mp h76)]
                decide
              rw [if_neg hb9, if_neg hb9] at hi
              refine v_goto (tgt := 124) dX12_loads_79 (by decide) ?_
              refine v_iinc_9 dX12_loads_124 rfl ?_
              refine v_goto (tgt := 63) dX12_loads_127 (by decide) ?_
              rw [show nI lx + Int32.ofInt 1 = nI (lx + 1) from nI_1 lx]
              exact hi
      refine v_iload dX12_loads_46 rfl ?_
      refine v_iconst (v := 1) dX12_loads_48 (by decide) ?_
      refine v_iload_n dX12_loads_49 rfl rfl ?_
      refine v_ishl dX12_loads_50 ?_
      rw [shl12 _ (by omega)]
      refine v_icmp_ge (tgt := 222) dX12_loads_51 (by decide) (fun h51 => ?_) (fun h51 => ?_)
      · exact absurd h51 (Int32.not_le.mpr ((nI_lt4 (by omega) hWp).mpr hs9))
      · refine v_iconst (v := 0) dX12_loads_54 (by decide) ?_
        refine v_istore_7 dX12_loads_55 ?_
        refine v_iconst (v := 0) dX12_loads_57 (by decide) ?_
        refine v_istore_8 dX12_loads_58 ?_
        refine v_iconst (v := 0) dX12_loads_60 (by decide) ?_
        refine v_istore_9 dX12_loads_61 ?_
        exact key2 (wN v (sd v k 1) (v 7).toNatClampNeg) 0 (by omega)
  refine v_aload_n dX12_loads_0 rfl rfl ?_
  refine v_aload_n dX12_loads_1 rfl rfl ?_
  refine gf_X12_16 dX12_loads_2 rfl hMo ?_
  refine v_iload_n dX12_loads_5 rfl rfl ?_
  refine v_iconst (v := 1) dX12_loads_6 (by decide) ?_
  refine k_X12_96 dX12_loads_7 rfl (r_in htr k 1) (Nat.le_of_ble_eq_true rfl) (by omega) (by omega) (Nat.le_of_ble_eq_true rfl) (fun r7 M9 h9 => ?_) (fun _ _ h9 => h9.elim)
  obtain ⟨rfl, e9⟩ := h9
  subst M9
  refine v_iald dX12_loads_10 hw5 (by clear hgL hL9 key; lia) (by clear hgL hL9 key; lia) ?_
  refine k_X12_121 dX12_loads_11 rfl (r_waits htr hC hG (sd v k 1)) hMo (Nat.le_of_ble_eq_true rfl) (by omega) (by omega) (Nat.le_of_ble_eq_true rfl) (fun r11 M9 h9 => ?_) (fun _ _ h9 => h9.elim)
  obtain ⟨rfl, th2, hT, hC, hF9⟩ := h9
  have hF := Frm.tr hF hF9
  obtain ⟨hMo, hw5, hw6, hw7, hw8, hw9, hw10, hw11, hw13, hw14, hw15, hw16, hw17, hw18, -⟩ := _root_.id hC
  refine v_istore_2 dX12_loads_14 ?_
  refine v_aload_n dX12_loads_15 rfl rfl ?_
  refine gf_X12_16 dX12_loads_16 rfl hMo ?_
  refine v_iload_n dX12_loads_19 rfl rfl ?_
  refine v_iconst (v := 0) dX12_loads_20 (by decide) ?_
  refine k_X12_96 dX12_loads_21 rfl (r_in htr k 0) (Nat.le_of_ble_eq_true rfl) (by omega) (by omega) (Nat.le_of_ble_eq_true rfl) (fun r21 M9 h9 => ?_) (fun _ _ h9 => h9.elim)
  obtain ⟨rfl, e9⟩ := h9
  subst M9
  refine v_iald dX12_loads_24 hw5 (by clear hgL hL9 key; lia) (by clear hgL hL9 key; lia) ?_
  refine v_aload_n dX12_loads_25 rfl rfl ?_
  refine v_iload_n dX12_loads_26 rfl rfl ?_
  refine k_X12_109 dX12_loads_27 rfl (r_loadOn htr hC hG k) hMo (Nat.le_of_ble_eq_true rfl) (by omega) (by omega) (Nat.le_of_ble_eq_true rfl) (fun r27 M9 h9 => ?_) (fun _ _ h9 => h9.elim)
  obtain ⟨rfl, e9⟩ := h9
  subst M9
  refine v_isub dX12_loads_30 ?_
  refine v_istore_3 dX12_loads_31 ?_
  refine v_iconst (v := 0) dX12_loads_32 (by decide) ?_
  refine v_istore_4 dX12_loads_33 ?_
  refine v_iconst (v := 0) dX12_loads_35 (by decide) ?_
  refine v_istore_5 dX12_loads_36 ?_
  refine v_aload_n dX12_loads_38 rfl rfl ?_
  refine v_iconst (v := 0) dX12_loads_39 (by decide) ?_
  refine pf_X12_124 dX12_loads_40 rfl hMo ?_
  refine V.md (Md.sc hC) (Frm.tr hF (Frm.up (hC.kd_sc))) (fun M1 hC hF => ?_)
  obtain ⟨hMo, hw5, hw6, hw7, hw8, hw9, hw10, hw11, hw13, hw14, hw15, hw16, hw17, hw18, -⟩ := _root_.id hC
  refine v_iconst (v := 1) dX12_loads_43 (by decide) ?_
  refine v_istore_6 dX12_loads_44 ?_
  have hp1 := Nat.two_pow_pos (wN v (sd v k 1) (v 7).toNatClampNeg)
  exact key (2 ^ wN v (sd v k 1) (v 7).toNatClampNeg - 1) 1 0 (by omega) _ 0 0 th2 _ _ _ (SQ_0 rm0) hT hC hF

