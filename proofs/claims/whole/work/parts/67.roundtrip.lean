/-! ===== the reference: round trips ===== -/
theorem TT.fin {g : Int32 → Prop} {d : Int32 → Int32 → Int} {home : Int32} {f D : Int32 → Int32} {j : Nat} {v : Int32} (hd : ∀ a b, g a → g b → 0 ≤ d a b ∧ d a b ≤ 120) (hD : ∀ a b, g a → g b → (D (a * 7 + b)).toInt = d a b) (hh : g home) (hj : j < 128) (h : TT g d home 128 0 f) (hm : InG g (nI j)) (h0 : ¬ nI j = 0) (hv : MI (nI j) (fun x => f (7 * nI j + x) + D (x * 7 + home)) 10000 7 v) : Lst d home (nI j) home v.toInt := by
  have hM := hv.M (k := 0)
  have ih2 : ∀ x, 0 ≤ x → x < 7 → ¬ bitI (nI j) x = 0 → Lst d home (nI j &&& (sbit x ^^^ -1)) x (f (7 * nI j + x)).toInt ∧ (f (7 * nI j + x) + D (x * 7 + home)).toInt = (f (7 * nI j + x)).toInt + d x home ∧ (f (7 * nI j + x)).toInt + d x home < 10000 := by
    intro x x0 x1 x2
    have q := h j hj hm x x0 x1 x2 (Or.inl hj)
    have hx := hm x x0 x1 x2
    obtain ⟨b1, b2⟩ : 0 ≤ (f (7 * nI j + x)).toInt ∧ (f (7 * nI j + x)).toInt ≤ 960 := by
      obtain ⟨j2, n1, n2, n3⟩ := rm_of hj x0 x1 x2
      have hm3 := hm.rm hj x0 x1
      rw [n2] at hm3 q
      exact q.b hd (by omega) hh hx hm3
    obtain ⟨c1, c2⟩ := hd x home hx hh
    have c3 := hD x home hx hh
    exact ⟨q, by rw [i_add] <;> rw [c3] <;> omega, by omega⟩
  refine Lst.back hj h0 (fun x x0 x1 x2 => (ih2 x x0 x1 x2).1) ?_ (fun x x0 x1 x2 => ?_)
  · obtain ⟨x, x0, x1, x2, x3⟩ := hM.at (by
      obtain ⟨x, x0, x1, x2⟩ := bit_some hj h0
      exact ⟨x, x0, x1, x2, by
        show (f (7 * nI j + x) + D (x * 7 + home)).toInt < _
        rw [(ih2 x x0 x1 x2).2.1]
        exact (ih2 x x0 x1 x2).2.2⟩)
    exact ⟨x, x0, x1, x2, by rw [x3]; exact (ih2 x x0 x1 x2).2.1⟩
  · exact Int.le_trans (hM.2 x x0 x1 x2) (Int.le_of_eq (ih2 x x0 x1 x2).2.1)
/-- the destinations of the first l of a list -/
def goT (σ : Int32 → Int32) (L : List Int32) : Nat → Int32
  | 0 => 0
  | l + 1 => goT σ L l ||| sbit (lt σ (L.getD l 0) 1)
theorem goT_1 {σ : Int32 → Int32} {L : List Int32} {l : Nat} : goT σ L (l + 1) = goT σ L l ||| sbit (lt σ (L.getD l 0) 1) := rfl
theorem goT_S {σ : Int32 → Int32} {k : Int32} {N : Nat} : ∀ n, n ≤ N → goT σ (wL σ (10 + k) N) (wN σ (10 + k) n) = goN σ k n := by
  intro n
  induction n with
  | zero => exact fun _ => rfl
  | succ n ih =>
    intro hn
    have e := ih (by omega)
    rw [wN_1]
    show _ = (if lt σ (nI n) 6 = 10 + k then goN σ k n ||| sbit (lt σ (nI n) 1) else goN σ k n)
    by_cases hp : lt σ (nI n) 6 = 10 + k
    · rw [if_pos hp, if_pos hp, goT_1, wL_get hp N (by omega), e]
    · rw [if_neg hp, if_neg hp]
      exact e
/-- every letter aboard k can be brought home -/
def hwK (σ : Int32 → Int32) (k : Int32) : Prop := ∀ i, 0 ≤ i → i < σ 7 → lt σ i 6 = 10 + k → ∃ d, Wks σ (sd σ k 1) (lt σ i 1) d
theorem hwK.of {σ : Int32 → Int32} {k : Int32} (h7 : σ 7 ≤ 12) (h : ∀ q, q < wN σ (10 + k) (σ 7).toNatClampNeg → ∃ d, Wks σ (sd σ k 1) (lt σ ((wL σ (10 + k) (σ 7).toNatClampNeg).getD q 0) 1) d) : hwK σ k := by
  intro i i0 i1 i2
  have hi := tc_lt i0 i1
  have hp : lt σ (nI i.toNatClampNeg) 6 = 10 + k := by rw [tc_nI i0]; exact i2
  have q := h (wN σ (10 + k) i.toNatClampNeg) (by
    have a := wN_le (σ := σ) (p := 10 + k) (i := i.toNatClampNeg + 1) _ hi
    rw [wN_1, if_pos hp] at a
    omega)
  rw [wL_get hp _ hi, tc_nI i0] at q
  exact q
theorem fr_d {σ f : Int32 → Int32} {k : Int32} {d : Int32 → Int32 → Int} (hG : Good σ) (hS : Sy σ) (k0 : 0 ≤ k) (k1 : k < σ 6) (hf : FRok σ f) (hdI : ∀ a b, Rch σ (sd σ k 1) a → Rch σ (sd σ k 1) b → IsD σ 1000000 a b (d a b)) : (∀ a b, Rch σ (sd σ k 1) a → Rch σ (sd σ k 1) b → 0 ≤ d a b ∧ d a b ≤ 120) ∧ ∀ a b, Rch σ (sd σ k 1) a → Rch σ (sd σ k 1) b → (f (a * 7 + b)).toInt = d a b := by
  have h5 := hG.2.1
  have key : ∀ a b, Rch σ (sd σ k 1) a → Rch σ (sd σ k 1) b → 0 ≤ d a b ∧ d a b ≤ 120 := by
    intro a b ha hb
    have hI := hdI a b ha hb
    obtain ⟨a0, a1, x, kx, hx⟩ := ha
    obtain ⟨b0, b1, y, ky, hy⟩ := hb
    have hc := (Wks.rev hS h5 kx a x a0 a1 hx).cat ky b y hy
    obtain ⟨z1, z2, -⟩ := hI.b hG a0 (Int32.lt_of_lt_of_le a1 h5) b0 (Int32.lt_of_lt_of_le b1 h5) ⟨_, hc⟩
    exact ⟨z1, z2⟩
  refine ⟨key, fun a b ha hb => ?_⟩
  obtain ⟨bb, q1, q2, q3, q4⟩ := hf a b ha.1 ha.2.1 hb.1 hb.2.1
  have e := q1.uniq (hdI a b ha hb)
  have z := (key a b ha hb).2
  rw [q4, e]
  unfold tau
  rw [if_pos (by omega)]
theorem dX12_roundTrip_0 : decode cX12_roundTrip 0 = .ok (.aload_n 0, 1) := by decide +kernel
theorem dX12_roundTrip_1 : decode cX12_roundTrip 1 = .ok (.aload_n 0, 1) := by decide +kernel
theorem dX12_roundTrip_2 : decode cX12_roundTrip 2 = .ok (.iload_n 1, 1) := by decide +kernel
theorem dX12_roundTrip_3 : decode cX12_roundTrip 3 = .ok (.invokevirtual 106, 3) := by decide +kernel
theorem dX12_roundTrip_6 : decode cX12_roundTrip 6 = .ok (.ifCond .eq 7, 3) := by decide +kernel
theorem dX12_roundTrip_9 : decode cX12_roundTrip 9 = .ok (.iconst 0, 1) := by decide +kernel
theorem dX12_roundTrip_10 : decode cX12_roundTrip 10 = .ok (.goto 4, 3) := by decide +kernel
theorem dX12_roundTrip_13 : decode cX12_roundTrip 13 = .ok (.iconst 1, 1) := by decide +kernel
theorem dX12_roundTrip_14 : decode cX12_roundTrip 14 = .ok (.putfield 56, 3) := by decide +kernel
theorem dX12_roundTrip_17 : decode cX12_roundTrip 17 = .ok (.aload_n 0, 1) := by decide +kernel
theorem dX12_roundTrip_18 : decode cX12_roundTrip 18 = .ok (.getfield 56, 3) := by decide +kernel
theorem dX12_roundTrip_21 : decode cX12_roundTrip 21 = .ok (.ifCond .eq 5, 3) := by decide +kernel
theorem dX12_roundTrip_24 : decode cX12_roundTrip 24 = .ok (.iconst 0, 1) := by decide +kernel
theorem dX12_roundTrip_25 : decode cX12_roundTrip 25 = .ok (.ireturn, 1) := by decide +kernel
theorem dX12_roundTrip_26 : decode cX12_roundTrip 26 = .ok (.aload_n 0, 1) := by decide +kernel
theorem dX12_roundTrip_27 : decode cX12_roundTrip 27 = .ok (.getfield 16, 3) := by decide +kernel
theorem dX12_roundTrip_30 : decode cX12_roundTrip 30 = .ok (.iload_n 1, 1) := by decide +kernel
theorem dX12_roundTrip_31 : decode cX12_roundTrip 31 = .ok (.iconst 1, 1) := by decide +kernel
theorem dX12_roundTrip_32 : decode cX12_roundTrip 32 = .ok (.invokestatic 96, 3) := by decide +kernel
theorem dX12_roundTrip_35 : decode cX12_roundTrip 35 = .ok (.iaload, 1) := by decide +kernel
theorem dX12_roundTrip_36 : decode cX12_roundTrip 36 = .ok (.istore_n 2, 1) := by decide +kernel
theorem dX12_roundTrip_37 : decode cX12_roundTrip 37 = .ok (.aload_n 0, 1) := by decide +kernel
theorem dX12_roundTrip_38 : decode cX12_roundTrip 38 = .ok (.bipush 10, 2) := by decide +kernel
theorem dX12_roundTrip_40 : decode cX12_roundTrip 40 = .ok (.iload_n 1, 1) := by decide +kernel
theorem dX12_roundTrip_41 : decode cX12_roundTrip 41 = .ok (.iadd, 1) := by decide +kernel
theorem dX12_roundTrip_42 : decode cX12_roundTrip 42 = .ok (.invokevirtual 121, 3) := by decide +kernel
theorem dX12_roundTrip_45 : decode cX12_roundTrip 45 = .ok (.istore_n 3, 1) := by decide +kernel
theorem dX12_roundTrip_46 : decode cX12_roundTrip 46 = .ok (.iconst 0, 1) := by decide +kernel
theorem dX12_roundTrip_47 : decode cX12_roundTrip 47 = .ok (.istore 4, 2) := by decide +kernel
theorem dX12_roundTrip_49 : decode cX12_roundTrip 49 = .ok (.sipush 10000, 3) := by decide +kernel
theorem dX12_roundTrip_52 : decode cX12_roundTrip 52 = .ok (.istore 5, 2) := by decide +kernel
theorem dX12_roundTrip_54 : decode cX12_roundTrip 54 = .ok (.aload_n 0, 1) := by decide +kernel
theorem dX12_roundTrip_55 : decode cX12_roundTrip 55 = .ok (.invokevirtual 133, 3) := by decide +kernel
theorem dX12_roundTrip_58 : decode cX12_roundTrip 58 = .ok (.iconst 0, 1) := by decide +kernel
theorem dX12_roundTrip_59 : decode cX12_roundTrip 59 = .ok (.istore 6, 2) := by decide +kernel
theorem dX12_roundTrip_61 : decode cX12_roundTrip 61 = .ok (.iload 6, 2) := by decide +kernel
theorem dX12_roundTrip_63 : decode cX12_roundTrip 63 = .ok (.iload_n 3, 1) := by decide +kernel
theorem dX12_roundTrip_64 : decode cX12_roundTrip 64 = .ok (.if_icmp .ge 55, 3) := by decide +kernel
theorem dX12_roundTrip_67 : decode cX12_roundTrip 67 = .ok (.aload_n 0, 1) := by decide +kernel
theorem dX12_roundTrip_68 : decode cX12_roundTrip 68 = .ok (.getfield 16, 3) := by decide +kernel
theorem dX12_roundTrip_71 : decode cX12_roundTrip 71 = .ok (.aload_n 0, 1) := by decide +kernel
theorem dX12_roundTrip_72 : decode cX12_roundTrip 72 = .ok (.getfield 32, 3) := by decide +kernel
theorem dX12_roundTrip_75 : decode cX12_roundTrip 75 = .ok (.iload 6, 2) := by decide +kernel
theorem dX12_roundTrip_77 : decode cX12_roundTrip 77 = .ok (.iaload, 1) := by decide +kernel
theorem dX12_roundTrip_78 : decode cX12_roundTrip 78 = .ok (.iconst 1, 1) := by decide +kernel
theorem dX12_roundTrip_79 : decode cX12_roundTrip 79 = .ok (.invokestatic 70, 3) := by decide +kernel
theorem dX12_roundTrip_82 : decode cX12_roundTrip 82 = .ok (.iaload, 1) := by decide +kernel
theorem dX12_roundTrip_83 : decode cX12_roundTrip 83 = .ok (.istore 7, 2) := by decide +kernel
theorem dX12_roundTrip_85 : decode cX12_roundTrip 85 = .ok (.aload_n 0, 1) := by decide +kernel
theorem dX12_roundTrip_86 : decode cX12_roundTrip 86 = .ok (.iload_n 2, 1) := by decide +kernel
theorem dX12_roundTrip_87 : decode cX12_roundTrip 87 = .ok (.iload 7, 2) := by decide +kernel
theorem dX12_roundTrip_89 : decode cX12_roundTrip 89 = .ok (.invokevirtual 136, 3) := by decide +kernel
theorem dX12_roundTrip_92 : decode cX12_roundTrip 92 = .ok (.sipush 10000, 3) := by decide +kernel
theorem dX12_roundTrip_95 : decode cX12_roundTrip 95 = .ok (.if_icmp .lt 9, 3) := by decide +kernel
theorem dX12_roundTrip_98 : decode cX12_roundTrip 98 = .ok (.aload_n 0, 1) := by decide +kernel
theorem dX12_roundTrip_99 : decode cX12_roundTrip 99 = .ok (.iconst 2, 1) := by decide +kernel
theorem dX12_roundTrip_100 : decode cX12_roundTrip 100 = .ok (.invokevirtual 74, 3) := by decide +kernel
theorem dX12_roundTrip_103 : decode cX12_roundTrip 103 = .ok (.ireturn, 1) := by decide +kernel
theorem dX12_roundTrip_104 : decode cX12_roundTrip 104 = .ok (.iload 4, 2) := by decide +kernel
theorem dX12_roundTrip_106 : decode cX12_roundTrip 106 = .ok (.iconst 1, 1) := by decide +kernel
theorem dX12_roundTrip_107 : decode cX12_roundTrip 107 = .ok (.iload 7, 2) := by decide +kernel
theorem dX12_roundTrip_109 : decode cX12_roundTrip 109 = .ok (.ishl, 1) := by decide +kernel
theorem dX12_roundTrip_110 : decode cX12_roundTrip 110 = .ok (.ior, 1) := by decide +kernel
theorem dX12_roundTrip_111 : decode cX12_roundTrip 111 = .ok (.istore 4, 2) := by decide +kernel
theorem dX12_roundTrip_113 : decode cX12_roundTrip 113 = .ok (.iinc 6 1, 3) := by decide +kernel
theorem dX12_roundTrip_116 : decode cX12_roundTrip 116 = .ok (.goto (-55), 3) := by decide +kernel
theorem dX12_roundTrip_119 : decode cX12_roundTrip 119 = .ok (.iload 4, 2) := by decide +kernel
theorem dX12_roundTrip_121 : decode cX12_roundTrip 121 = .ok (.ifCond .ne 5, 3) := by decide +kernel
theorem dX12_roundTrip_124 : decode cX12_roundTrip 124 = .ok (.iconst 0, 1) := by decide +kernel
theorem dX12_roundTrip_125 : decode cX12_roundTrip 125 = .ok (.ireturn, 1) := by decide +kernel
theorem dX12_roundTrip_126 : decode cX12_roundTrip 126 = .ok (.aload_n 0, 1) := by decide +kernel
theorem dX12_roundTrip_127 : decode cX12_roundTrip 127 = .ok (.iload_n 2, 1) := by decide +kernel
theorem dX12_roundTrip_128 : decode cX12_roundTrip 128 = .ok (.invokevirtual 174, 3) := by decide +kernel
theorem dX12_roundTrip_131 : decode cX12_roundTrip 131 = .ok (.iconst 0, 1) := by decide +kernel
theorem dX12_roundTrip_132 : decode cX12_roundTrip 132 = .ok (.istore 6, 2) := by decide +kernel
theorem dX12_roundTrip_134 : decode cX12_roundTrip 134 = .ok (.iload 6, 2) := by decide +kernel
theorem dX12_roundTrip_136 : decode cX12_roundTrip 136 = .ok (.bipush 7, 2) := by decide +kernel
theorem dX12_roundTrip_138 : decode cX12_roundTrip 138 = .ok (.if_icmp .ge 69, 3) := by decide +kernel
theorem dX12_roundTrip_141 : decode cX12_roundTrip 141 = .ok (.iload 4, 2) := by decide +kernel
theorem dX12_roundTrip_143 : decode cX12_roundTrip 143 = .ok (.iload 6, 2) := by decide +kernel
theorem dX12_roundTrip_145 : decode cX12_roundTrip 145 = .ok (.ishr, 1) := by decide +kernel
theorem dX12_roundTrip_146 : decode cX12_roundTrip 146 = .ok (.iconst 1, 1) := by decide +kernel
theorem dX12_roundTrip_147 : decode cX12_roundTrip 147 = .ok (.iand, 1) := by decide +kernel
theorem dX12_roundTrip_148 : decode cX12_roundTrip 148 = .ok (.iconst 1, 1) := by decide +kernel
theorem dX12_roundTrip_149 : decode cX12_roundTrip 149 = .ok (.if_icmp .ne 52, 3) := by decide +kernel
theorem dX12_roundTrip_152 : decode cX12_roundTrip 152 = .ok (.aload_n 0, 1) := by decide +kernel
theorem dX12_roundTrip_153 : decode cX12_roundTrip 153 = .ok (.getfield 35, 3) := by decide +kernel
theorem dX12_roundTrip_156 : decode cX12_roundTrip 156 = .ok (.bipush 7, 2) := by decide +kernel
theorem dX12_roundTrip_158 : decode cX12_roundTrip 158 = .ok (.iload 4, 2) := by decide +kernel
theorem dX12_roundTrip_160 : decode cX12_roundTrip 160 = .ok (.imul, 1) := by decide +kernel
theorem dX12_roundTrip_161 : decode cX12_roundTrip 161 = .ok (.iload 6, 2) := by decide +kernel
theorem dX12_roundTrip_163 : decode cX12_roundTrip 163 = .ok (.iadd, 1) := by decide +kernel
theorem dX12_roundTrip_164 : decode cX12_roundTrip 164 = .ok (.iaload, 1) := by decide +kernel
theorem dX12_roundTrip_165 : decode cX12_roundTrip 165 = .ok (.aload_n 0, 1) := by decide +kernel
theorem dX12_roundTrip_166 : decode cX12_roundTrip 166 = .ok (.iload 6, 2) := by decide +kernel
theorem dX12_roundTrip_168 : decode cX12_roundTrip 168 = .ok (.iload_n 2, 1) := by decide +kernel
theorem dX12_roundTrip_169 : decode cX12_roundTrip 169 = .ok (.invokevirtual 136, 3) := by decide +kernel
theorem dX12_roundTrip_172 : decode cX12_roundTrip 172 = .ok (.iadd, 1) := by decide +kernel
theorem dX12_roundTrip_173 : decode cX12_roundTrip 173 = .ok (.iload 5, 2) := by decide +kernel
theorem dX12_roundTrip_175 : decode cX12_roundTrip 175 = .ok (.if_icmp .ge 26, 3) := by decide +kernel
theorem dX12_roundTrip_178 : decode cX12_roundTrip 178 = .ok (.aload_n 0, 1) := by decide +kernel
theorem dX12_roundTrip_179 : decode cX12_roundTrip 179 = .ok (.getfield 35, 3) := by decide +kernel
theorem dX12_roundTrip_182 : decode cX12_roundTrip 182 = .ok (.bipush 7, 2) := by decide +kernel
theorem dX12_roundTrip_184 : decode cX12_roundTrip 184 = .ok (.iload 4, 2) := by decide +kernel
theorem dX12_roundTrip_186 : decode cX12_roundTrip 186 = .ok (.imul, 1) := by decide +kernel
theorem dX12_roundTrip_187 : decode cX12_roundTrip 187 = .ok (.iload 6, 2) := by decide +kernel
theorem dX12_roundTrip_189 : decode cX12_roundTrip 189 = .ok (.iadd, 1) := by decide +kernel
theorem dX12_roundTrip_190 : decode cX12_roundTrip 190 = .ok (.iaload, 1) := by decide +kernel
theorem dX12_roundTrip_191 : decode cX12_roundTrip 191 = .ok (.aload_n 0, 1) := by decide +kernel
theorem dX12_roundTrip_192 : decode cX12_roundTrip 192 = .ok (.iload 6, 2) := by decide +kernel
theorem dX12_roundTrip_194 : decode cX12_roundTrip 194 = .ok (.iload_n 2, 1) := by decide +kernel
theorem dX12_roundTrip_195 : decode cX12_roundTrip 195 = .ok (.invokevirtual 136, 3) := by decide +kernel
theorem dX12_roundTrip_198 : decode cX12_roundTrip 198 = .ok (.iadd, 1) := by decide +kernel
theorem dX12_roundTrip_199 : decode cX12_roundTrip 199 = .ok (.istore 5, 2) := by decide +kernel
theorem dX12_roundTrip_201 : decode cX12_roundTrip 201 = .ok (.iinc 6 1, 3) := by decide +kernel
theorem dX12_roundTrip_204 : decode cX12_roundTrip 204 = .ok (.goto (-70), 3) := by decide +kernel
theorem dX12_roundTrip_207 : decode cX12_roundTrip 207 = .ok (.iload 5, 2) := by decide +kernel
theorem dX12_roundTrip_209 : decode cX12_roundTrip 209 = .ok (.ireturn, 1) := by decide +kernel
set_option maxRecDepth 100000 in
set_option maxHeartbeats 4000000 in
theorem r_roundTrip {l : Launch} {g : Nat → Nat} {M : LH} (htr : l.stackTraces = false) {kd : Nat → Nat} {r m : Nat} {w : Nat → Nat} {t ch ea fl sv bf tn he en ln wr dg : Int32} {v b4 sa pa fr th bs tx li lf to : Int32 → Int32} (hC : Md kd r M m w t ch ea fl sv bf tn he en ln wr dg v b4 sa pa fr th bs tx li lf to) (hG : Good v) (hS : Sy v) (k : Int32) {dd : Int32 → Int32 → Int} (hdI : hsl v k → ∀ a b, Rch v (sd v k 1) a → Rch v (sd v k 1) b → IsD v 1000000 a b (dd a b)) : K_X12_roundTrip l g 2 0 0 [.ref m, .int k] M (RI (fun x M9 => ∃ fr' th' bs', ((hsl v k ∧ hwK v k ∧ Lst dd (sd v k 1) (goN v k (v 7).toNatClampNeg) (sd v k 1) x.toInt ∧ Md kd r M9 m w 0 ch ea fl sv bf tn he en ln wr dg v b4 sa pa fr' th' bs' tx li lf to) ∨ (hsl v k ∧ ¬ hwK v k ∧ x = 0 ∧ Md kd r M9 m w 2 ch ea fl sv bf tn he en ln wr dg v b4 sa pa fr' th' bs tx li lf to) ∨ (¬ hsl v k ∧ x = 0 ∧ Md kd r M9 m w 1 ch ea fl sv bf tn he en ln wr dg v b4 sa pa fr th bs tx li lf to)) ∧ Frm kd r M M9) nX) := by
  refine Ko_X12_roundTrip htr (fun X => ?_)
  obtain ⟨hMo, hw5, hw6, hw7, hw8, hw9, hw10, hw11, hw13, hw14, hw15, hw16, hw17, hw18, -⟩ := _root_.id hC
  have hF : Frm kd r M M := Frm.rf
  obtain ⟨hg1, hg2, hg3, hg4, hg5, hg6, hg7, hg8, hgL, hgS, -⟩ := _root_.id hG
  clear hgS
  refine v_aload_n dX12_roundTrip_0 rfl rfl ?_
  refine v_aload_n dX12_roundTrip_1 rfl rfl ?_
  refine v_iload_n dX12_roundTrip_2 rfl rfl ?_
  refine k_X12_106 dX12_roundTrip_3 rfl (r_isSledge htr hC hG k) hMo (Nat.le_of_ble_eq_true rfl) (by omega) (by omega) (Nat.le_of_ble_eq_true rfl) (fun r3 M9 h9 => ?_) (fun _ _ h9 => h9.elim)
  obtain ⟨rfl, e9⟩ := h9
  subst M9
  refine v_if_eq (tgt := 13) dX12_roundTrip_6 (by decide) (fun h6 => ?_) (fun h6 => ?_)
  · refine v_iconst (v := 1) dX12_roundTrip_13 (by decide) ?_
    refine pf_X12_56 dX12_roundTrip_14 rfl hMo ?_
    refine V.md (Md.sc hC) (Frm.tr hF (Frm.up (hC.kd_sc))) (fun M1 hC hF => ?_)
    obtain ⟨hMo, hw5, hw6, hw7, hw8, hw9, hw10, hw11, hw13, hw14, hw15, hw16, hw17, hw18, -⟩ := _root_.id hC
    refine v_aload_n dX12_roundTrip_17 rfl rfl ?_
    refine gf_X12_56 dX12_roundTrip_18 rfl hMo ?_
    refine v_if_eq (tgt := 26) dX12_roundTrip_21 (by decide) (fun h21 => ?_) (fun h21 => ?_)
    · first | (exfalso; revert h21; decide) | skip
      all_goals
        have hk9 := b_t h6
        replace hdI := hdI hk9

        obtain ⟨k0, k1⟩ := _root_.id hk9
        obtain ⟨-, -, -, hk6, -, -, -, -, -, hgS, -⟩ := _root_.id hG
        obtain ⟨u0, u1, u2, u3, u4, u5, u6, u7⟩ := hgS k k0 k1
        clear hgS
        have k3 : k < 3 := by clear hgL; lia
        have a7 : (sd v k 1) < 7 := Int32.lt_of_lt_of_le u3 hg2
        refine v_aload_n dX12_roundTrip_26 rfl rfl ?_
        refine gf_X12_16 dX12_roundTrip_27 rfl hMo ?_
        refine v_iload_n dX12_roundTrip_30 rfl rfl ?_
        refine v_iconst (v := 1) dX12_roundTrip_31 (by decide) ?_
        refine k_X12_96 dX12_roundTrip_32 rfl (r_in htr k 1) (Nat.le_of_ble_eq_true rfl) (by omega) (by omega) (Nat.le_of_ble_eq_true rfl) (fun r32 M9 h9 => ?_) (fun _ _ h9 => h9.elim)
        obtain ⟨rfl, e9⟩ := h9
        subst M9
        refine v_iald dX12_roundTrip_35 hw5 (by clear hgL; lia) (by clear hgL; lia) ?_
        refine v_istore_2 dX12_roundTrip_36 ?_
        refine v_aload_n dX12_roundTrip_37 rfl rfl ?_
        refine v_bipush (v := (10)) dX12_roundTrip_38 (by decide) ?_
        refine v_iload_n dX12_roundTrip_40 rfl rfl ?_
        refine v_iadd dX12_roundTrip_41 ?_
        refine k_X12_121 dX12_roundTrip_42 rfl (r_waits htr hC hG (10 + k)) hMo (Nat.le_of_ble_eq_true rfl) (by omega) (by omega) (Nat.le_of_ble_eq_true rfl) (fun r42 M9 h9 => ?_) (fun _ _ h9 => h9.elim)
        obtain ⟨rfl, th2, hT2, hC, hF9⟩ := h9
        have hF := Frm.tr hF hF9
        obtain ⟨hMo, hw5, hw6, hw7, hw8, hw9, hw10, hw11, hw13, hw14, hw15, hw16, hw17, hw18, -⟩ := _root_.id hC
        refine v_istore_3 dX12_roundTrip_45 ?_
        refine v_iconst (v := 0) dX12_roundTrip_46 (by decide) ?_
        refine v_istore_4 dX12_roundTrip_47 ?_
        refine v_sipush (v := (10000)) dX12_roundTrip_49 (by decide) ?_
        refine v_istore_5 dX12_roundTrip_52 ?_
        refine v_aload_n dX12_roundTrip_54 rfl rfl ?_
        refine k_X12_133 dX12_roundTrip_55 rfl (r_reaches htr hC hG) hMo (Nat.le_of_ble_eq_true rfl) (by omega) (by omega) (Nat.le_of_ble_eq_true rfl) (fun M9 h9 => ?_) (fun _ _ h9 => h9.elim)
        obtain ⟨f9, hf9, hC, hF9⟩ := h9
        have hF := Frm.tr hF hF9
        obtain ⟨hMo, hw5, hw6, hw7, hw8, hw9, hw10, hw11, hw13, hw14, hw15, hw16, hw17, hw18, -⟩ := _root_.id hC
        refine v_iconst (v := 0) dX12_roundTrip_58 (by decide) ?_
        refine v_istore_6 dX12_roundTrip_59 ?_
        have hW : (wN v (10 + k) (v 7).toNatClampNeg) ≤ 12 := Nat.le_trans (wL_len (v 7).toNatClampNeg) hG.LB.1
        have key1 : ∀ e lx, lx + e = (wN v (10 + k) (v 7).toNatClampNeg) → ∀ (p7 : Option Value), (∀ q, q < lx → ∃ d, Wks v (sd v k 1) (lt v ((wL v (10 + k) (v 7).toNatClampNeg).getD q 0) 1) d) → V l g yX12_roundTrip cX12_roundTrip ((some .int)) [] 2 0 0 (RI (fun x M9 => ∃ fr' th' bs', ((hsl v k ∧ hwK v k ∧ Lst dd (sd v k 1) (goN v k (v 7).toNatClampNeg) (sd v k 1) x.toInt ∧ Md kd r M9 m w 0 ch ea fl sv bf tn he en ln wr dg v b4 sa pa fr' th' bs' tx li lf to) ∨ (hsl v k ∧ ¬ hwK v k ∧ x = 0 ∧ Md kd r M9 m w 2 ch ea fl sv bf tn he en ln wr dg v b4 sa pa fr' th' bs tx li lf to) ∨ (¬ hsl v k ∧ x = 0 ∧ Md kd r M9 m w 1 ch ea fl sv bf tn he en ln wr dg v b4 sa pa fr th bs tx li lf to)) ∧ Frm kd r M M9) nX) X M9 0 0 61 [some (.ref m), some (.int k), some (.int (sd v k 1)), some (.int (nI (wN v (10 + k) (v 7).toNatClampNeg))), some (.int (goT v (wL v (10 + k) (v 7).toNatClampNeg) lx)), some (.int 10000), some (.int (nI lx)), p7] [] := by
          intro e
          induction e with
          | zero =>
            intro lx hl p7 hR
            refine v_iload dX12_roundTrip_61 rfl ?_
            refine v_iload_n dX12_roundTrip_63 rfl rfl ?_
            refine v_icmp_ge (tgt := 119) dX12_roundTrip_64 (by decide) (fun h64 => ?_) (fun h64 => ?_)
            · have hl0 : lx = (wN v (10 + k) (v 7).toNatClampNeg) := by
                have z := h64
                refine Nat.le_antisymm (by omega) (Nat.le_of_not_lt (fun y => ?_))
                exact absurd z (Int32.not_le.mpr ((nI_lt4 (by omega) (by omega)).mpr y))
              subst hl0
              have hwk := hwK.of hg6 hR
              have hIn := goals_G hG k0 k1 hwk
              rw [goT_S (v 7).toNatClampNeg (Nat.le_refl _)]
              obtain ⟨hd, hD⟩ := fr_d hG hS k0 k1 hf9 hdI
              have hh : Rch v (sd v k 1) (sd v k 1) := ⟨u2, u3, 0, Wks.nil⟩
              refine v_iload dX12_roundTrip_119 rfl ?_
              refine v_if_ne (tgt := 126) dX12_roundTrip_121 (by decide) (fun h121 => ?_) (fun h121 => ?_)
              · refine v_aload_n dX12_roundTrip_126 rfl rfl ?_
                refine v_iload_n dX12_roundTrip_127 rfl rfl ?_
                refine k_X12_174 dX12_roundTrip_128 rfl (r_trips htr hC u2 a7 hd hD hh) hMo (Nat.le_of_ble_eq_true rfl) (by omega) (by omega) (Nat.le_of_ble_eq_true rfl) (fun M9 h9 => ?_) (fun _ _ h9 => h9.elim)
                obtain ⟨bs', hT, hC, hF9⟩ := h9
                have hF := Frm.tr hF hF9
                obtain ⟨hMo, hw5, hw6, hw7, hw8, hw9, hw10, hw11, hw13, hw14, hw15, hw16, hw17, hw18, -⟩ := _root_.id hC
                obtain ⟨j9, hj9, k2⟩ := goN_in (k := k) hg6 (fun i i0 i1 => by
                  obtain ⟨z1, z2, -⟩ := hgL i i0 i1
                  exact ⟨z1, Int32.lt_of_lt_of_le z2 hg2⟩) _ (Nat.le_refl (v 7).toNatClampNeg)
                refine v_iconst (v := 0) dX12_roundTrip_131 (by decide) ?_
                refine v_istore_6 dX12_roundTrip_132 ?_
                obtain ⟨go0, go1⟩ : 0 ≤ (goN v k (v 7).toNatClampNeg) ∧ (goN v k (v 7).toNatClampNeg) < 128 := by rw [k2]; exact nI_128 j9 hj9
                have key3 : ∀ y, 0 ≤ y → y ≤ 7 → ∀ (is : Int32) (p7 : Option Value), MI (goN v k (v 7).toNatClampNeg) (fun x => bs' (7 * (goN v k (v 7).toNatClampNeg) + x) + f9 (x * 7 + (sd v k 1))) 10000 y is → V l g yX12_roundTrip cX12_roundTrip ((some .int)) [] 2 0 0 (RI (fun x M9 => ∃ fr' th' bs', ((hsl v k ∧ hwK v k ∧ Lst dd (sd v k 1) (goN v k (v 7).toNatClampNeg) (sd v k 1) x.toInt ∧ Md kd r M9 m w 0 ch ea fl sv bf tn he en ln wr dg v b4 sa pa fr' th' bs' tx li lf to) ∨ (hsl v k ∧ ¬ hwK v k ∧ x = 0 ∧ Md kd r M9 m w 2 ch ea fl sv bf tn he en ln wr dg v b4 sa pa fr' th' bs tx li lf to) ∨ (¬ hsl v k ∧ x = 0 ∧ Md kd r M9 m w 1 ch ea fl sv bf tn he en ln wr dg v b4 sa pa fr th bs tx li lf to)) ∧ Frm kd r M M9) nX) X M9 0 0 134 [some (.ref m), some (.int k), some (.int (sd v k 1)), some (.int (nI (wN v (10 + k) (v 7).toNatClampNeg))), some (.int (goN v k (v 7).toNatClampNeg)), some (.int is), some (.int y), p7] [] := by
                  refine up_ind _ (fun y y0 y1 ih3 is p7 hI => ?_)
                  refine v_iload dX12_roundTrip_134 rfl ?_
                  refine v_bipush (v := (7)) dX12_roundTrip_136 (by decide) ?_
                  refine v_icmp_ge (tgt := 207) dX12_roundTrip_138 (by decide) (fun h138 => ?_) (fun h138 => ?_)
                  · have hy : y = 7 := by clear ih3 hI hT hd hD hh hC hF hMo hgL hdI hw5 hw6 hw7 hw8 hw9 hw10 hw11 hw13 hw14 hw15 hw16 hw17 hw18; lia
                    subst hy
                    refine v_iload dX12_roundTrip_207 rfl ?_
                    exact v_iret dX12_roundTrip_209 rfl ⟨f9, th2, bs', Or.inl ⟨hk9, hwk, (by rw [k2] at hI h121 hIn ⊢; exact TT.fin hd hD hh hj9 hT hIn h121 hI), hC⟩, hF⟩ (by omega) (by omega)
                  · have hy7 : y < 7 := Int32.not_le.mp h138
                    refine v_iload dX12_roundTrip_141 rfl ?_
                    refine v_iload dX12_roundTrip_143 rfl ?_
                    refine v_ishr dX12_roundTrip_145 ?_
                    refine v_iconst (v := 1) dX12_roundTrip_146 (by decide) ?_
                    refine v_iand dX12_roundTrip_147 ?_
                    refine v_iconst (v := 1) dX12_roundTrip_148 (by decide) ?_
                    refine v_icmp_ne (tgt := 201) dX12_roundTrip_149 (by decide) (fun h149 => ?_) (fun h149 => ?_)
                    · refine v_iinc_6 dX12_roundTrip_201 rfl ?_
                      refine v_goto (tgt := 134) dX12_roundTrip_204 (by decide) ?_
                      refine ih3 hy7 _ _ ?_
                      first
                        | exact hI.keep hy7 (Or.inl (Classical.byContradiction (fun z => h149 (by rw [k2]; exact (bit_1 hj9 y0 hy7).mpr (by rw [← k2]; exact z)))))
                        | exact hI.keep hy7 (Or.inr (Int32.not_lt.mpr h175))
                        | exact hI.take y0 hy7 (by rw [k2]; exact (bit_1 hj9 y0 hy7).mp (by rw [← k2]; exact h149)) (Int32.not_le.mp h175)
                    · refine v_aload_n dX12_roundTrip_152 rfl rfl ?_
                      refine gf_X12_35 dX12_roundTrip_153 rfl hMo ?_
                      refine v_bipush (v := (7)) dX12_roundTrip_156 (by decide) ?_
                      refine v_iload dX12_roundTrip_158 rfl ?_
                      refine v_imul dX12_roundTrip_160 ?_
                      refine v_iload dX12_roundTrip_161 rfl ?_
                      refine v_iadd dX12_roundTrip_163 ?_
                      refine v_iald dX12_roundTrip_164 hw11 (by clear ih3 hI hT hd hD hh hC hF hMo hgL hdI hw5 hw6 hw7 hw8 hw9 hw10 hw11 hw13 hw14 hw15 hw16 hw17 hw18; lia) (by clear ih3 hI hT hd hD hh hC hF hMo hgL hdI hw5 hw6 hw7 hw8 hw9 hw10 hw11 hw13 hw14 hw15 hw16 hw17 hw18; lia) ?_
                      refine v_aload_n dX12_roundTrip_165 rfl rfl ?_
                      refine v_iload dX12_roundTrip_166 rfl ?_
                      refine v_iload_n dX12_roundTrip_168 rfl rfl ?_
                      refine k_X12_136 dX12_roundTrip_169 rfl (r_apart htr hC y0 hy7 u2 a7) hMo (Nat.le_of_ble_eq_true rfl) (by omega) (by omega) (Nat.le_of_ble_eq_true rfl) (fun r169 M9 h9 => ?_) (fun _ _ h9 => h9.elim)
                      obtain ⟨rfl, e9⟩ := h9
                      subst M9
                      refine v_iadd dX12_roundTrip_172 ?_
                      refine v_iload dX12_roundTrip_173 rfl ?_
                      refine v_icmp_ge (tgt := 201) dX12_roundTrip_175 (by decide) (fun h175 => ?_) (fun h175 => ?_)
                      · refine v_iinc_6 dX12_roundTrip_201 rfl ?_
                        refine v_goto (tgt := 134) dX12_roundTrip_204 (by decide) ?_
                        refine ih3 hy7 _ _ ?_
                        first
                          | exact hI.keep hy7 (Or.inl (Classical.byContradiction (fun z => h149 (by rw [k2]; exact (bit_1 hj9 y0 hy7).mpr (by rw [← k2]; exact z)))))
                          | exact hI.keep hy7 (Or.inr (Int32.not_lt.mpr h175))
                          | exact hI.take y0 hy7 (by rw [k2]; exact (bit_1 hj9 y0 hy7).mp (by rw [← k2]; exact h149)) (Int32.not_le.mp h175)
                      · refine v_aload_n dX12_roundTrip_178 rfl rfl ?_
                        refine gf_X12_35 dX12_roundTrip_179 rfl hMo ?_
                        refine v_bipush (v := (7)) dX12_roundTrip_182 (by decide) ?_
                        refine v_iload dX12_roundTrip_184 rfl ?_
                        refine v_imul dX12_roundTrip_186 ?_
                        refine v_iload dX12_roundTrip_187 rfl ?_
                        refine v_iadd dX12_roundTrip_189 ?_
                        refine v_iald dX12_roundTrip_190 hw11 (by clear ih3 hI hT hd hD hh hC hF hMo hgL hdI hw5 hw6 hw7 hw8 hw9 hw10 hw11 hw13 hw14 hw15 hw16 hw17 hw18; lia) (by clear ih3 hI hT hd hD hh hC hF hMo hgL hdI hw5 hw6 hw7 hw8 hw9 hw10 hw11 hw13 hw14 hw15 hw16 hw17 hw18; lia) ?_
                        refine v_aload_n dX12_roundTrip_191 rfl rfl ?_
                        refine v_iload dX12_roundTrip_192 rfl ?_
                        refine v_iload_n dX12_roundTrip_194 rfl rfl ?_
                        refine k_X12_136 dX12_roundTrip_195 rfl (r_apart htr hC y0 hy7 u2 a7) hMo (Nat.le_of_ble_eq_true rfl) (by omega) (by omega) (Nat.le_of_ble_eq_true rfl) (fun r195 M9 h9 => ?_) (fun _ _ h9 => h9.elim)
                        obtain ⟨rfl, e9⟩ := h9
                        subst M9
                        refine v_iadd dX12_roundTrip_198 ?_
                        refine v_istore_5 dX12_roundTrip_199 ?_
                        refine v_iinc_6 dX12_roundTrip_201 rfl ?_
                        refine v_goto (tgt := 134) dX12_roundTrip_204 (by decide) ?_
                        refine ih3 hy7 _ _ ?_
                        first
                          | exact hI.keep hy7 (Or.inl (Classical.byContradiction (fun z => h149 (by rw [k2]; exact (bit_1 hj9 y0 hy7).mpr (by rw [← k2]; exact z)))))
                          | exact hI.keep hy7 (Or.inr (Int32.not_lt.mpr h175))
                          | exact hI.take y0 hy7 (by rw [k2]; exact (bit_1 hj9 y0 hy7).mp (by rw [← k2]; exact h149)) (Int32.not_le.mp h175)
                exact key3 0 (Int32.le_refl _) (by decide) _ _ MI.z
              · refine v_iconst (v := 0) dX12_roundTrip_124 (by decide) ?_
                exact v_iret dX12_roundTrip_125 rfl ⟨f9, th2, bs, Or.inl ⟨hk9, hwk, (by rw [(by first | exact h121 | exact Classical.not_not.mp h121 : (goN v k (v 7).toNatClampNeg) = 0)]; have z := (hdI _ _ hh hh).self hG u2 a7; have q := Lst.z (d := dd) (a := (sd v k 1)) (b := (sd v k 1)); rw [z] at q; exact q), hC⟩, hF⟩ (by omega) (by omega)
            · rw [show lx = (wN v (10 + k) (v 7).toNatClampNeg) by omega] at h64
              exact absurd (Int32.le_refl _) h64
          | succ e ih =>
            intro lx hl p7 hR
            refine v_iload dX12_roundTrip_61 rfl ?_
            refine v_iload_n dX12_roundTrip_63 rfl rfl ?_
            refine v_icmp_ge (tgt := 119) dX12_roundTrip_64 (by decide) (fun h64 => ?_) (fun h64 => ?_)
            · exact absurd h64 (Int32.not_le.mpr ((nI_lt4 (by omega) (by omega)).mpr (by omega)))
            · have hl9 : lx < (wN v (10 + k) (v 7).toNatClampNeg) := by
                refine Nat.lt_of_not_le (fun y => ?_)
                have e : lx = (wN v (10 + k) (v 7).toNatClampNeg) := by omega
                rw [e] at h64
                exact h64 (Int32.le_refl _)
              obtain ⟨b0, b1⟩ := nI12 lx (by omega)
              obtain ⟨i9, j1, j2, j3⟩ := wL_at hl9
              rw [j2] at j3
              have ht9 : th2 (nI lx) = nI i9 := (hT2 lx hl9).trans j2
              obtain ⟨j4, j5, j6⟩ := nI_below hg6 j1
              obtain ⟨z1, z2, -⟩ := hgL _ j4 j5
              have z7 : (lt v (nI i9) 1) < 7 := Int32.lt_of_lt_of_le z2 hg2
              obtain ⟨bb, hb1, hb2, hb3, hb4⟩ := hf9 (sd v k 1) (lt v (nI i9) 1) u2 u3 z1 z2
              refine v_aload_n dX12_roundTrip_67 rfl rfl ?_
              refine gf_X12_16 dX12_roundTrip_68 rfl hMo ?_
              refine v_aload_n dX12_roundTrip_71 rfl rfl ?_
              refine gf_X12_32 dX12_roundTrip_72 rfl hMo ?_
              refine v_iload dX12_roundTrip_75 rfl ?_
              refine v_iald dX12_roundTrip_77 hw10 b0 b1 ?_
              rw [ht9]
              refine v_iconst (v := 1) dX12_roundTrip_78 (by decide) ?_
              refine k_X12_70 dX12_roundTrip_79 rfl (r_of htr (nI i9) 1) (Nat.le_of_ble_eq_true rfl) (by omega) (by omega) (Nat.le_of_ble_eq_true rfl) (fun r79 M9 h9 => ?_) (fun _ _ h9 => h9.elim)
              obtain ⟨rfl, e9⟩ := h9
              subst M9
              refine v_iald dX12_roundTrip_82 hw5 (by clear ih hT2 hf9 hR hgL hC hF; lia) (by clear ih hT2 hf9 hR hgL hC hF; lia) ?_
              refine v_istore_7 dX12_roundTrip_83 ?_
              refine v_aload_n dX12_roundTrip_85 rfl rfl ?_
              refine v_iload_n dX12_roundTrip_86 rfl rfl ?_
              refine v_iload dX12_roundTrip_87 rfl ?_
              refine k_X12_136 dX12_roundTrip_89 rfl (r_apart htr hC u2 a7 z1 z7) hMo (Nat.le_of_ble_eq_true rfl) (by omega) (by omega) (Nat.le_of_ble_eq_true rfl) (fun r89 M9 h9 => ?_) (fun _ _ h9 => h9.elim)
              obtain ⟨rfl, e9⟩ := h9
              subst M9
              refine v_sipush (v := (10000)) dX12_roundTrip_92 (by decide) ?_
              refine v_icmp_lt (tgt := 104) dX12_roundTrip_95 (by decide) (fun h95 => ?_) (fun h95 => ?_)
              · have hbt := tau_lt hb3 hb4 h95
                have hbl : bb < 1000000 := by
                  have z : (f9 (sd v k 1 * 7 + lt v (nI i9) 1)).toInt < _ := i_lt.mp h95
                  rw [hbt, show ((10000 : Int32).toInt) = 10000 from rfl] at z
                  omega
                have hw9 : ∃ d, Wks v (sd v k 1) (lt v (nI i9) 1) d := by
                  rcases hb1 with ⟨-, c2, -⟩ | ⟨c1, -⟩
                  · exact ⟨_, c2⟩
                  · omega
                refine v_iload dX12_roundTrip_104 rfl ?_
                refine v_iconst (v := 1) dX12_roundTrip_106 (by decide) ?_
                refine v_iload dX12_roundTrip_107 rfl ?_
                refine v_ishl dX12_roundTrip_109 ?_
                refine v_ior dX12_roundTrip_110 ?_
                refine v_istore_4 dX12_roundTrip_111 ?_
                refine v_iinc_6 dX12_roundTrip_113 rfl ?_
                refine v_goto (tgt := 61) dX12_roundTrip_116 (by decide) ?_
                rw [show nI lx + Int32.ofInt 1 = nI (lx + 1) from nI_1 lx]
                have hi := ih (lx + 1) (by omega) (some (.int (lt v (nI i9) 1))) (fun q hq => by
                  by_cases e : q = lx
                  · rw [e, j2]
                    exact hw9
                  · exact hR q (by omega))
                rw [goT_1, j2] at hi
                exact hi
              · have hbb := tau_ge hb3 hb4 (Int32.not_lt.mpr (Int32.not_lt.mp h95))
                rw [hbb] at hb1
                have hnw : ¬ hwK v k := by
                  intro z
                  obtain ⟨d9, hd9⟩ := z _ j4 j5 j3
                  rcases hb1 with ⟨c1, -⟩ | ⟨-, c2⟩
                  · omega
                  · exact c2 _ hd9
                refine v_aload_n dX12_roundTrip_98 rfl rfl ?_
                refine v_iconst (v := 2) dX12_roundTrip_99 (by decide) ?_
                refine k_X12_74 dX12_roundTrip_100 rfl (r_fail htr hC 2) hMo (Nat.le_of_ble_eq_true rfl) (by omega) (by omega) (Nat.le_of_ble_eq_true rfl) (fun r100 M9 h9 => ?_) (fun _ _ h9 => h9.elim)
                obtain ⟨rfl, hC, hF9⟩ := h9
                have hF := Frm.tr hF hF9
                exact v_iret dX12_roundTrip_103 rfl ⟨f9, th2, bs, Or.inr (Or.inl ⟨hk9, hnw, rfl, hC⟩), hF⟩ (by omega) (by omega)
        exact key1 (wN v (10 + k) (v 7).toNatClampNeg) 0 (by omega) none (fun q hq => absurd hq (by omega))
    · refine v_iconst (v := 0) dX12_roundTrip_24 (by decide) ?_
      exact v_iret dX12_roundTrip_25 rfl (by first | (exfalso; revert h21; decide) | exact ⟨fr, th, bs, Or.inr (Or.inr ⟨b_f h6, rfl, hC⟩), hF⟩) (by omega) (by omega)
  · refine v_iconst (v := 0) dX12_roundTrip_9 (by decide) ?_
    refine v_goto (tgt := 14) dX12_roundTrip_10 (by decide) ?_
    refine pf_X12_56 dX12_roundTrip_14 rfl hMo ?_
    refine V.md (Md.sc hC) (Frm.tr hF (Frm.up (hC.kd_sc))) (fun M1 hC hF => ?_)
    obtain ⟨hMo, hw5, hw6, hw7, hw8, hw9, hw10, hw11, hw13, hw14, hw15, hw16, hw17, hw18, -⟩ := _root_.id hC
    refine v_aload_n dX12_roundTrip_17 rfl rfl ?_
    refine gf_X12_56 dX12_roundTrip_18 rfl hMo ?_
    refine v_if_eq (tgt := 26) dX12_roundTrip_21 (by decide) (fun h21 => ?_) (fun h21 => ?_)
    · first | (exfalso; revert h21; decide) | skip
      all_goals
        have hk9 := b_t h6
        replace hdI := hdI hk9

        obtain ⟨k0, k1⟩ := _root_.id hk9
        obtain ⟨-, -, -, hk6, -, -, -, -, -, hgS, -⟩ := _root_.id hG
        obtain ⟨u0, u1, u2, u3, u4, u5, u6, u7⟩ := hgS k k0 k1
        clear hgS
        have k3 : k < 3 := by clear hgL; lia
        have a7 : (sd v k 1) < 7 := Int32.lt_of_lt_of_le u3 hg2
        refine v_aload_n dX12_roundTrip_26 rfl rfl ?_
        refine gf_X12_16 dX12_roundTrip_27 rfl hMo ?_
        refine v_iload_n dX12_roundTrip_30 rfl rfl ?_
        refine v_iconst (v := 1) dX12_roundTrip_31 (by decide) ?_
        refine k_X12_96 dX12_roundTrip_32 rfl (r_in htr k 1) (Nat.le_of_ble_eq_true rfl) (by omega) (by omega) (Nat.le_of_ble_eq_true rfl) (fun r32 M9 h9 => ?_) (fun _ _ h9 => h9.elim)
        obtain ⟨rfl, e9⟩ := h9
        subst M9
        refine v_iald dX12_roundTrip_35 hw5 (by clear hgL; lia) (by clear hgL; lia) ?_
        refine v_istore_2 dX12_roundTrip_36 ?_
        refine v_aload_n dX12_roundTrip_37 rfl rfl ?_
        refine v_bipush (v := (10)) dX12_roundTrip_38 (by decide) ?_
        refine v_iload_n dX12_roundTrip_40 rfl rfl ?_
        refine v_iadd dX12_roundTrip_41 ?_
        refine k_X12_121 dX12_roundTrip_42 rfl (r_waits htr hC hG (10 + k)) hMo (Nat.le_of_ble_eq_true rfl) (by omega) (by omega) (Nat.le_of_ble_eq_true rfl) (fun r42 M9 h9 => ?_) (fun _ _ h9 => h9.elim)
        obtain ⟨rfl, th2, hT2, hC, hF9⟩ := h9
        have hF := Frm.tr hF hF9
        obtain ⟨hMo, hw5, hw6, hw7, hw8, hw9, hw10, hw11, hw13, hw14, hw15, hw16, hw17, hw18, -⟩ := _root_.id hC
        refine v_istore_3 dX12_roundTrip_45 ?_
        refine v_iconst (v := 0) dX12_roundTrip_46 (by decide) ?_
        refine v_istore_4 dX12_roundTrip_47 ?_
        refine v_sipush (v := (10000)) dX12_roundTrip_49 (by decide) ?_
        refine v_istore_5 dX12_roundTrip_52 ?_
        refine v_aload_n dX12_roundTrip_54 rfl rfl ?_
        refine k_X12_133 dX12_roundTrip_55 rfl (r_reaches htr hC hG) hMo (Nat.le_of_ble_eq_true rfl) (by omega) (by omega) (Nat.le_of_ble_eq_true rfl) (fun M9 h9 => ?_) (fun _ _ h9 => h9.elim)
        obtain ⟨f9, hf9, hC, hF9⟩ := h9
        have hF := Frm.tr hF hF9
        obtain ⟨hMo, hw5, hw6, hw7, hw8, hw9, hw10, hw11, hw13, hw14, hw15, hw16, hw17, hw18, -⟩ := _root_.id hC
        refine v_iconst (v := 0) dX12_roundTrip_58 (by decide) ?_
        refine v_istore_6 dX12_roundTrip_59 ?_
        have hW : (wN v (10 + k) (v 7).toNatClampNeg) ≤ 12 := Nat.le_trans (wL_len (v 7).toNatClampNeg) hG.LB.1
        have key1 : ∀ e lx, lx + e = (wN v (10 + k) (v 7).toNatClampNeg) → ∀ (p7 : Option Value), (∀ q, q < lx → ∃ d, Wks v (sd v k 1) (lt v ((wL v (10 + k) (v 7).toNatClampNeg).getD q 0) 1) d) → V l g yX12_roundTrip cX12_roundTrip ((some .int)) [] 2 0 0 (RI (fun x M9 => ∃ fr' th' bs', ((hsl v k ∧ hwK v k ∧ Lst dd (sd v k 1) (goN v k (v 7).toNatClampNeg) (sd v k 1) x.toInt ∧ Md kd r M9 m w 0 ch ea fl sv bf tn he en ln wr dg v b4 sa pa fr' th' bs' tx li lf to) ∨ (hsl v k ∧ ¬ hwK v k ∧ x = 0 ∧ Md kd r M9 m w 2 ch ea fl sv bf tn he en ln wr dg v b4 sa pa fr' th' bs tx li lf to) ∨ (¬ hsl v k ∧ x = 0 ∧ Md kd r M9 m w 1 ch ea fl sv bf tn he en ln wr dg v b4 sa pa fr th bs tx li lf to)) ∧ Frm kd r M M9) nX) X M9 0 0 61 [some (.ref m), some (.int k), some (.int (sd v k 1)), some (.int (nI (wN v (10 + k) (v 7).toNatClampNeg))), some (.int (goT v (wL v (10 + k) (v 7).toNatClampNeg) lx)), some (.int 10000), some (.int (nI lx)), p7] [] := by
          intro e
          induction e with
          | zero =>
            intro lx hl p7 hR
            refine v_iload dX12_roundTrip_61 rfl ?_
            refine v_iload_n dX12_roundTrip_63 rfl rfl ?_
            refine v_icmp_ge (tgt := 119) dX12_roundTrip_64 (by decide) (fun h64 => ?_) (fun h64 => ?_)
            · have hl0 : lx = (wN v (10 + k) (v 7).toNatClampNeg) := by
                have z := h64
                refine Nat.le_antisymm (by omega) (Nat.le_of_not_lt (fun y => ?_))
                exact absurd z (Int32.not_le.mpr ((nI_lt4 (by omega) (by omega)).mpr y))
              subst hl0
              have hwk := hwK.of hg6 hR
              have hIn := goals_G hG k0 k1 hwk
              rw [goT_S (v 7).toNatClampNeg (Nat.le_refl _)]
              obtain ⟨hd, hD⟩ := fr_d hG hS k0 k1 hf9 hdI
              have hh : Rch v (sd v k 1) (sd v k 1) := ⟨u2, u3, 0, Wks.nil⟩
              refine v_iload dX12_roundTrip_119 rfl ?_
              refine v_if_ne (tgt := 126) dX12_roundTrip_121 (by decide) (fun h121 => ?_) (fun h121 => ?_)
              · refine v_aload_n dX12_roundTrip_126 rfl rfl ?_
                refine v_iload_n dX12_roundTrip_127 rfl rfl ?_
                refine k_X12_174 dX12_roundTrip_128 rfl (r_trips htr hC u2 a7 hd hD hh) hMo (Nat.le_of_ble_eq_true rfl) (by omega) (by omega) (Nat.le_of_ble_eq_true rfl) (fun M9 h9 => ?_) (fun _ _ h9 => h9.elim)
                obtain ⟨bs', hT, hC, hF9⟩ := h9
                have hF := Frm.tr hF hF9
                obtain ⟨hMo, hw5, hw6, hw7, hw8, hw9, hw10, hw11, hw13, hw14, hw15, hw16, hw17, hw18, -⟩ := _root_.id hC
                obtain ⟨j9, hj9, k2⟩ := goN_in (k := k) hg6 (fun i i0 i1 => by
                  obtain ⟨z1, z2, -⟩ := hgL i i0 i1
                  exact ⟨z1, Int32.lt_of_lt_of_le z2 hg2⟩) _ (Nat.le_refl (v 7).toNatClampNeg)
                refine v_iconst (v := 0) dX12_roundTrip_131 (by decide) ?_
                refine v_istore_6 dX12_roundTrip_132 ?_
                obtain ⟨go0, go1⟩ : 0 ≤ (goN v k (v 7).toNatClampNeg) ∧ (goN v k (v 7).toNatClampNeg) < 128 := by rw [k2]; exact nI_128 j9 hj9
                have key3 : ∀ y, 0 ≤ y → y ≤ 7 → ∀ (is : Int32) (p7 : Option Value), MI (goN v k (v 7).toNatClampNeg) (fun x => bs' (7 * (goN v k (v 7).toNatClampNeg) + x) + f9 (x * 7 + (sd v k 1))) 10000 y is → V l g yX12_roundTrip cX12_roundTrip ((some .int)) [] 2 0 0 (RI (fun x M9 => ∃ fr' th' bs', ((hsl v k ∧ hwK v k ∧ Lst dd (sd v k 1) (goN v k (v 7).toNatClampNeg) (sd v k 1) x.toInt ∧ Md kd r M9 m w 0 ch ea fl sv bf tn he en ln wr dg v b4 sa pa fr' th' bs' tx li lf to) ∨ (hsl v k ∧ ¬ hwK v k ∧ x = 0 ∧ Md kd r M9 m w 2 ch ea fl sv bf tn he en ln wr dg v b4 sa pa fr' th' bs tx li lf to) ∨ (¬ hsl v k ∧ x = 0 ∧ Md kd r M9 m w 1 ch ea fl sv bf tn he en ln wr dg v b4 sa pa fr th bs tx li lf to)) ∧ Frm kd r M M9) nX) X M9 0 0 134 [some (.ref m), some (.int k), some (.int (sd v k 1)), some (.int (nI (wN v (10 + k) (v 7).toNatClampNeg))), some (.int (goN v k (v 7).toNatClampNeg)), some (.int is), some (.int y), p7] [] := by
                  refine up_ind _ (fun y y0 y1 ih3 is p7 hI => ?_)
                  refine v_iload dX12_roundTrip_134 rfl ?_
                  refine v_bipush (v := (7)) dX12_roundTrip_136 (by decide) ?_
                  refine v_icmp_ge (tgt := 207) dX12_roundTrip_138 (by decide) (fun h138 => ?_) (fun h138 => ?_)
                  · have hy : y = 7 := by clear ih3 hI hT hd hD hh hC hF hMo hgL hdI hw5 hw6 hw7 hw8 hw9 hw10 hw11 hw13 hw14 hw15 hw16 hw17 hw18; lia
                    subst hy
                    refine v_iload dX12_roundTrip_207 rfl ?_
                    exact v_iret dX12_roundTrip_209 rfl ⟨f9, th2, bs', Or.inl ⟨hk9, hwk, (by rw [k2] at hI h121 hIn ⊢; exact TT.fin hd hD hh hj9 hT hIn h121 hI), hC⟩, hF⟩ (by omega) (by omega)
                  · have hy7 : y < 7 := Int32.not_le.mp h138
                    refine v_iload dX12_roundTrip_141 rfl ?_
                    refine v_iload dX12_roundTrip_143 rfl ?_
                    refine v_ishr dX12_roundTrip_145 ?_
                    refine v_iconst (v := 1) dX12_roundTrip_146 (by decide) ?_
                    refine v_iand dX12_roundTrip_147 ?_
                    refine v_iconst (v := 1) dX12_roundTrip_148 (by decide) ?_
                    refine v_icmp_ne (tgt := 201) dX12_roundTrip_149 (by decide) (fun h149 => ?_) (fun h149 => ?_)
                    · refine v_iinc_6 dX12_roundTrip_201 rfl ?_
                      refine v_goto (tgt := 134) dX12_roundTrip_204 (by decide) ?_
                      refine ih3 hy7 _ _ ?_
                      first
                        | exact hI.keep hy7 (Or.inl (Classical.byContradiction (fun z => h149 (by rw [k2]; exact (bit_1 hj9 y0 hy7).mpr (by rw [← k2]; exact z)))))
                        | exact hI.keep hy7 (Or.inr (Int32.not_lt.mpr h175))
                        | exact hI.take y0 hy7 (by rw [k2]; exact (bit_1 hj9 y0 hy7).mp (by rw [← k2]; exact h149)) (Int32.not_le.mp h175)
                    · refine v_aload_n dX12_roundTrip_152 rfl rfl ?_
                      refine gf_X12_35 dX12_roundTrip_153 rfl hMo ?_
                      refine v_bipush (v := (7)) dX12_roundTrip_156 (by decide) ?_
                      refine v_iload dX12_roundTrip_158 rfl ?_
                      refine v_imul dX12_roundTrip_160 ?_
                      refine v_iload dX12_roundTrip_161 rfl ?_
                      refine v_iadd dX12_roundTrip_163 ?_
                      refine v_iald dX12_roundTrip_164 hw11 (by clear ih3 hI hT hd hD hh hC hF hMo hgL hdI hw5 hw6 hw7 hw8 hw9 hw10 hw11 hw13 hw14 hw15 hw16 hw17 hw18; lia) (by clear ih3 hI hT hd hD hh hC hF hMo hgL hdI hw5 hw6 hw7 hw8 hw9 hw10 hw11 hw13 hw14 hw15 hw16 hw17 hw18; lia) ?_
                      refine v_aload_n dX12_roundTrip_165 rfl rfl ?_
                      refine v_iload dX12_roundTrip_166 rfl ?_
                      refine v_iload_n dX12_roundTrip_168 rfl rfl ?_
                      refine k_X12_136 dX12_roundTrip_169 rfl (r_apart htr hC y0 hy7 u2 a7) hMo (Nat.le_of_ble_eq_true rfl) (by omega) (by omega) (Nat.le_of_ble_eq_true rfl) (fun r169 M9 h9 => ?_) (fun _ _ h9 => h9.elim)
                      obtain ⟨rfl, e9⟩ := h9
                      subst M9
                      refine v_iadd dX12_roundTrip_172 ?_
                      refine v_iload dX12_roundTrip_173 rfl ?_
                      refine v_icmp_ge (tgt := 201) dX12_roundTrip_175 (by decide) (fun h175 => ?_) (fun h175 => ?_)
                      · refine v_iinc_6 dX12_roundTrip_201 rfl ?_
                        refine v_goto (tgt := 134) dX12_roundTrip_204 (by decide) ?_
                        refine ih3 hy7 _ _ ?_
                        first
                          | exact hI.keep hy7 (Or.inl (Classical.byContradiction (fun z => h149 (by rw [k2]; exact (bit_1 hj9 y0 hy7).mpr (by rw [← k2]; exact z)))))
                          | exact hI.keep hy7 (Or.inr (Int32.not_lt.mpr h175))
                          | exact hI.take y0 hy7 (by rw [k2]; exact (bit_1 hj9 y0 hy7).mp (by rw [← k2]; exact h149)) (Int32.not_le.mp h175)
                      · refine v_aload_n dX12_roundTrip_178 rfl rfl ?_
                        refine gf_X12_35 dX12_roundTrip_179 rfl hMo ?_
                        refine v_bipush (v := (7)) dX12_roundTrip_182 (by decide) ?_
                        refine v_iload dX12_roundTrip_184 rfl ?_
                        refine v_imul dX12_roundTrip_186 ?_
                        refine v_iload dX12_roundTrip_187 rfl ?_
                        refine v_iadd dX12_roundTrip_189 ?_
                        refine v_iald dX12_roundTrip_190 hw11 (by clear ih3 hI hT hd hD hh hC hF hMo hgL hdI hw5 hw6 hw7 hw8 hw9 hw10 hw11 hw13 hw14 hw15 hw16 hw17 hw18; lia) (by clear ih3 hI hT hd hD hh hC hF hMo hgL hdI hw5 hw6 hw7 hw8 hw9 hw10 hw11 hw13 hw14 hw15 hw16 hw17 hw18; lia) ?_
                        refine v_aload_n dX12_roundTrip_191 rfl rfl ?_
                        refine v_iload dX12_roundTrip_192 rfl ?_
                        refine v_iload_n dX12_roundTrip_194 rfl rfl ?_
                        refine k_X12_136 dX12_roundTrip_195 rfl (r_apart htr hC y0 hy7 u2 a7) hMo (Nat.le_of_ble_eq_true rfl) (by omega) (by omega) (Nat.le_of_ble_eq_true rfl) (fun r195 M9 h9 => ?_) (fun _ _ h9 => h9.elim)
                        obtain ⟨rfl, e9⟩ := h9
                        subst M9
                        refine v_iadd dX12_roundTrip_198 ?_
                        refine v_istore_5 dX12_roundTrip_199 ?_
                        refine v_iinc_6 dX12_roundTrip_201 rfl ?_
                        refine v_goto (tgt := 134) dX12_roundTrip_204 (by decide) ?_
                        refine ih3 hy7 _ _ ?_
                        first
                          | exact hI.keep hy7 (Or.inl (Classical.byContradiction (fun z => h149 (by rw [k2]; exact (bit_1 hj9 y0 hy7).mpr (by rw [← k2]; exact z)))))
                          | exact hI.keep hy7 (Or.inr (Int32.not_lt.mpr h175))
                          | exact hI.take y0 hy7 (by rw [k2]; exact (bit_1 hj9 y0 hy7).mp (by rw [← k2]; exact h149)) (Int32.not_le.mp h175)
                exact key3 0 (Int32.le_refl _) (by decide) _ _ MI.z
              · refine v_iconst (v := 0) dX12_roundTrip_124 (by decide) ?_
                exact v_iret dX12_roundTrip_125 rfl ⟨f9, th2, bs, Or.inl ⟨hk9, hwk, (by rw [(by first | exact h121 | exact Classical.not_not.mp h121 : (goN v k (v 7).toNatClampNeg) = 0)]; have z := (hdI _ _ hh hh).self hG u2 a7; have q := Lst.z (d := dd) (a := (sd v k 1)) (b := (sd v k 1)); rw [z] at q; exact q), hC⟩, hF⟩ (by omega) (by omega)
            · rw [show lx = (wN v (10 + k) (v 7).toNatClampNeg) by omega] at h64
              exact absurd (Int32.le_refl _) h64
          | succ e ih =>
            intro lx hl p7 hR
            refine v_iload dX12_roundTrip_61 rfl ?_
            refine v_iload_n dX12_roundTrip_63 rfl rfl ?_
            refine v_icmp_ge (tgt := 119) dX12_roundTrip_64 (by decide) (fun h64 => ?_) (fun h64 => ?_)
            · exact absurd h64 (Int32.not_le.mpr ((nI_lt4 (by omega) (by omega)).mpr (by omega)))
            · have hl9 : lx < (wN v (10 + k) (v 7).toNatClampNeg) := by
                refine Nat.lt_of_not_le (fun y => ?_)
                have e : lx = (wN v (10 + k) (v 7).toNatClampNeg) := by omega
                rw [e] at h64
                exact h64 (Int32.le_refl _)
              obtain ⟨b0, b1⟩ := nI12 lx (by omega)
              obtain ⟨i9, j1, j2, j3⟩ := wL_at hl9
              rw [j2] at j3
              have ht9 : th2 (nI lx) = nI i9 := (hT2 lx hl9).trans j2
              obtain ⟨j4, j5, j6⟩ := nI_below hg6 j1
              obtain ⟨z1, z2, -⟩ := hgL _ j4 j5
              have z7 : (lt v (nI i9) 1) < 7 := Int32.lt_of_lt_of_le z2 hg2
              obtain ⟨bb, hb1, hb2, hb3, hb4⟩ := hf9 (sd v k 1) (lt v (nI i9) 1) u2 u3 z1 z2
              refine v_aload_n dX12_roundTrip_67 rfl rfl ?_
              refine gf_X12_16 dX12_roundTrip_68 rfl hMo ?_
              refine v_aload_n dX12_roundTrip_71 rfl rfl ?_
              refine gf_X12_32 dX12_roundTrip_72 rfl hMo ?_
              refine v_iload dX12_roundTrip_75 rfl ?_
              refine v_iald dX12_roundTrip_77 hw10 b0 b1 ?_
              rw [ht9]
              refine v_iconst (v := 1) dX12_roundTrip_78 (by decide) ?_
              refine k_X12_70 dX12_roundTrip_79 rfl (r_of htr (nI i9) 1) (Nat.le_of_ble_eq_true rfl) (by omega) (by omega) (Nat.le_of_ble_eq_true rfl) (fun r79 M9 h9 => ?_) (fun _ _ h9 => h9.elim)
              obtain ⟨rfl, e9⟩ := h9
              subst M9
              refine v_iald dX12_roundTrip_82 hw5 (by clear ih hT2 hf9 hR hgL hC hF; lia) (by clear ih hT2 hf9 hR hgL hC hF; lia) ?_
              refine v_istore_7 dX12_roundTrip_83 ?_
              refine v_aload_n dX12_roundTrip_85 rfl rfl ?_
              refine v_iload_n dX12_roundTrip_86 rfl rfl ?_
              refine v_iload dX12_roundTrip_87 rfl ?_
              refine k_X12_136 dX12_roundTrip_89 rfl (r_apart htr hC u2 a7 z1 z7) hMo (Nat.le_of_ble_eq_true rfl) (by omega) (by omega) (Nat.le_of_ble_eq_true rfl) (fun r89 M9 h9 => ?_) (fun _ _ h9 => h9.elim)
              obtain ⟨rfl, e9⟩ := h9
              subst M9
              refine v_sipush (v := (10000)) dX12_roundTrip_92 (by decide) ?_
              refine v_icmp_lt (tgt := 104) dX12_roundTrip_95 (by decide) (fun h95 => ?_) (fun h95 => ?_)
              · have hbt := tau_lt hb3 hb4 h95
                have hbl : bb < 1000000 := by
                  have z : (f9 (sd v k 1 * 7 + lt v (nI i9) 1)).toInt < _ := i_lt.mp h95
                  rw [hbt, show ((10000 : Int32).toInt) = 10000 from rfl] at z
                  omega
                have hw9 : ∃ d, Wks v (sd v k 1) (lt v (nI i9) 1) d := by
                  rcases hb1 with ⟨-, c2, -⟩ | ⟨c1, -⟩
                  · exact ⟨_, c2⟩
                  · omega
                refine v_iload dX12_roundTrip_104 rfl ?_
                refine v_iconst (v := 1) dX12_roundTrip_106 (by decide) ?_
                refine v_iload dX12_roundTrip_107 rfl ?_
                refine v_ishl dX12_roundTrip_109 ?_
                refine v_ior dX12_roundTrip_110 ?_
                refine v_istore_4 dX12_roundTrip_111 ?_
                refine v_iinc_6 dX12_roundTrip_113 rfl ?_
                refine v_goto (tgt := 61) dX12_roundTrip_116 (by decide) ?_
                rw [show nI lx + Int32.ofInt 1 = nI (lx + 1) from nI_1 lx]
                have hi := ih (lx + 1) (by omega) (some (.int (lt v (nI i9) 1))) (fun q hq => by
                  by_cases e : q = lx
                  · rw [e, j2]
                    exact hw9
                  · exact hR q (by omega))
                rw [goT_1, j2] at hi
                exact hi
              · have hbb := tau_ge hb3 hb4 (Int32.not_lt.mpr (Int32.not_lt.mp h95))
                rw [hbb] at hb1
                have hnw : ¬ hwK v k := by
                  intro z
                  obtain ⟨d9, hd9⟩ := z _ j4 j5 j3
                  rcases hb1 with ⟨c1, -⟩ | ⟨-, c2⟩
                  · omega
                  · exact c2 _ hd9
                refine v_aload_n dX12_roundTrip_98 rfl rfl ?_
                refine v_iconst (v := 2) dX12_roundTrip_99 (by decide) ?_
                refine k_X12_74 dX12_roundTrip_100 rfl (r_fail htr hC 2) hMo (Nat.le_of_ble_eq_true rfl) (by omega) (by omega) (Nat.le_of_ble_eq_true rfl) (fun r100 M9 h9 => ?_) (fun _ _ h9 => h9.elim)
                obtain ⟨rfl, hC, hF9⟩ := h9
                have hF := Frm.tr hF hF9
                exact v_iret dX12_roundTrip_103 rfl ⟨f9, th2, bs, Or.inr (Or.inl ⟨hk9, hnw, rfl, hC⟩), hF⟩ (by omega) (by omega)
        exact key1 (wN v (10 + k) (v 7).toNatClampNeg) 0 (by omega) none (fun q hq => absurd hq (by omega))
    · refine v_iconst (v := 0) dX12_roundTrip_24 (by decide) ?_
      exact v_iret dX12_roundTrip_25 rfl (by first | (exfalso; revert h21; decide) | exact ⟨fr, th, bs, Or.inr (Or.inr ⟨b_f h6, rfl, hC⟩), hF⟩) (by omega) (by omega)
