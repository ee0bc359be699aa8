/-! ===== the reference: the shortest ways over sets ===== -/
/-- v is the least of z and F over those of m below k -/
def MI (m : Int32) (F : Int32 → Int32) (z k v : Int32) : Prop := (v = z ∨ ∃ x, 0 ≤ x ∧ x < k ∧ ¬ bitI m x = 0 ∧ v = F x) ∧ v ≤ z ∧ ∀ x, 0 ≤ x → x < k → ¬ bitI m x = 0 → v ≤ F x
theorem MI.z {m z : Int32} {F : Int32 → Int32} : MI m F z 0 z := ⟨Or.inl rfl, Int32.le_refl _, fun x x0 x1 _ => absurd x0 (Int32.not_le.mpr x1)⟩
theorem MI.keep {m z k v : Int32} {F : Int32 → Int32} (h : MI m F z k v) (k7 : k < 7) (hk : bitI m k = 0 ∨ ¬ F k < v) : MI m F z (k + 1) v := by
  obtain ⟨a, b, c⟩ := h
  refine ⟨a.imp _root_.id (fun ⟨x, x0, x1, x2, x3⟩ => ⟨x, x0, by clear a b c x3 x2; lia, x2, x3⟩), b, fun x x0 x1 x2 => ?_⟩
  by_cases e : x = k
  · subst e
    rcases hk with q | q
    · exact absurd q x2
    · exact Int32.not_lt.mp q
  · exact c x x0 (by clear a b c x2 hk; lia) x2
theorem MI.take {m z k v : Int32} {F : Int32 → Int32} (h : MI m F z k v) (k0 : 0 ≤ k) (k7 : k < 7) (hb : ¬ bitI m k = 0) (hk : F k < v) : MI m F z (k + 1) (F k) := by
  obtain ⟨a, b, c⟩ := h
  refine ⟨Or.inr ⟨k, k0, by clear a b c hb hk; lia, hb, rfl⟩, Int32.le_trans (Int32.le_of_lt hk) b, fun x x0 x1 x2 => ?_⟩
  by_cases e : x = k
  · subst e
    exact Int32.le_refl _
  · exact Int32.le_trans (Int32.le_of_lt hk) (c x x0 (by clear a b c x2 hk hb; lia) x2)
theorem MI.M {m k v : Int32} {F : Int32 → Int32} {z : Int32} (h : MI m F z 7 v) : IsM z.toInt m (fun x => (F x).toInt) v.toInt :=
  ⟨h.1.imp (fun e => by rw [e]) (fun ⟨x, x0, x1, x2, x3⟩ => ⟨x, x0, x1, x2, by rw [x3]⟩), fun x x0 x1 x2 => i_le.mp (h.2.2 x x0 x1 x2)⟩
/-- the table holds the ways of the sets below n, and of n those that end below si -/
def TT (g : Int32 → Prop) (d : Int32 → Int32 → Int) (home : Int32) (n : Nat) (si : Int32) (f : Int32 → Int32) : Prop := ∀ j, j < 128 → InG g (nI j) → ∀ s, 0 ≤ s → s < 7 → ¬ bitI (nI j) s = 0 → (j < n ∨ (j = n ∧ s < si)) → Lst d home (nI j &&& (sbit s ^^^ -1)) s (f (7 * nI j + s)).toInt
theorem bit_z {s : Int32} : bitI (nI 0) s = 0 := by
  unfold bitI
  rw [show nI 0 = 0 by decide, show (0 : Int32) >>> (s &&& 31) = 0 by simp]
  decide
section TT
variable {g : Int32 → Prop} {d : Int32 → Int32 → Int} {home : Int32} {n : Nat} {f : Int32 → Int32}
theorem TT.z : TT g d home 1 0 f := fun j hj hm s s0 s1 s2 h => by
  have e : j = 0 := by
    rcases h with h | h
    · omega
    · exact absurd s0 (Int32.not_le.mpr h.2)
  subst e
  exact absurd bit_z s2
theorem TT.next (h : TT g d home n 7 f) : TT g d home (n + 1) 0 f := fun j hj hm s s0 s1 s2 q => by
  refine h j hj hm s s0 s1 s2 ?_
  rcases q with q | q
  · by_cases e : j = n
    · exact Or.inr ⟨e, s1⟩
    · exact Or.inl (by omega)
  · exact absurd s0 (Int32.not_le.mpr q.2)
theorem TT.step {si x : Int32} (hn : n < 128) (s0 : 0 ≤ si) (s7 : si < 7) (h : TT g d home n si f) (hx : InG g (nI n) → ¬ bitI (nI n) si = 0 → Lst d home (nI n &&& (sbit si ^^^ -1)) si x.toInt) : TT g d home n (si + 1) (ui f (7 * nI n + si) x) := by
  intro j hj hm s t0 t1 t2 q
  obtain ⟨j0, j1⟩ := nI_128 j hj
  obtain ⟨i0, i1⟩ := nI_128 n hn
  by_cases e : j = n ∧ s = si
  · obtain ⟨rfl, rfl⟩ := e
    rw [ui_s]
    exact hx hm t2
  · rw [ui_n (fun z => e (by
      rw [Int32.mul_comm 7, Int32.mul_comm 7] at z
      obtain ⟨a, b⟩ := set_inj j0 j1 t0 t1 i0 i1 s0 s7 z
      refine ⟨?_, b⟩
      have q2 := congrArg Int32.toNatClampNeg a
      rwa [nI_t hj, nI_t hn] at q2))]
    refine h j hj hm s t0 t1 t2 ?_
    rcases q with q | ⟨q, q2⟩
    · exact Or.inl q
    · refine Or.inr ⟨q, ?_⟩
      have z : ¬ s = si := fun z => e ⟨q, z⟩
      clear h hx hm e
      lia
theorem TT.val {D : Int32 → Int32} {si v : Int32} (hd : ∀ a b, g a → g b → 0 ≤ d a b ∧ d a b ≤ 120) (hD : ∀ a b, g a → g b → (D (a * 7 + b)).toInt = d a b) (hh : g home) (hn : n < 128) (s0 : 0 ≤ si) (s7 : si < 7) (h : TT g d home n si f) (hm : InG g (nI n)) (hb : ¬ bitI (nI n) si = 0) (hv : MI (nI n &&& (sbit si ^^^ -1)) (fun x => f (7 * (nI n &&& (sbit si ^^^ -1)) + x) + D (x * 7 + si)) (if nI n &&& (sbit si ^^^ -1) = 0 then D (home * 7 + si) else 10000) 7 v) : Lst d home (nI n &&& (sbit si ^^^ -1)) si v.toInt := by
  have hl := hm si s0 s7 hb
  have hm2 := hm.rm hn s0 s7
  obtain ⟨j', k1, k2, k3⟩ := rm_of hn s0 s7 hb
  have hM := hv.M (k := 0)
  rw [k2] at hm2 hM ⊢
  by_cases h0 : nI j' = 0
  · rw [if_pos h0] at hM
    rcases hM.1 with e | ⟨x, x0, x1, x2, -⟩
    · rw [e, hD home si hh hl, h0]
      exact Lst.z
    · rw [h0] at x2
      exact absurd bit_z x2
  · rw [if_neg h0] at hM
    have ih2 : ∀ x, 0 ≤ x → x < 7 → ¬ bitI (nI j') x = 0 → Lst d home (nI j' &&& (sbit x ^^^ -1)) x (f (7 * nI j' + x)).toInt ∧ (f (7 * nI j' + x) + D (x * 7 + si)).toInt = (f (7 * nI j' + x)).toInt + d x si ∧ (f (7 * nI j' + x)).toInt + d x si < 10000 := by
      intro x x0 x1 x2
      have q := h j' (by omega) hm2 x x0 x1 x2 (Or.inl k1)
      have hx := hm2 x x0 x1 x2
      obtain ⟨b1, b2⟩ : 0 ≤ (f (7 * nI j' + x)).toInt ∧ (f (7 * nI j' + x)).toInt ≤ 960 := by
        obtain ⟨j2, n1, n2, n3⟩ := rm_of (show j' < 128 by omega) x0 x1 x2
        have hm3 := hm2.rm (show j' < 128 by omega) x0 x1
        rw [n2] at hm3 q
        exact q.b hd (by omega) hh hx hm3
      obtain ⟨c1, c2⟩ := hd x si hx hl
      have c3 := hD x si hx hl
      exact ⟨q, by rw [i_add] <;> rw [c3] <;> omega, by omega⟩
    refine Lst.back (by omega) h0 (fun x x0 x1 x2 => (ih2 x x0 x1 x2).1) ?_ (fun x x0 x1 x2 => ?_)
    · obtain ⟨x, x0, x1, x2, x3⟩ := hM.at (by
        obtain ⟨x, x0, x1, x2⟩ := bit_some (show j' < 128 by omega) h0
        exact ⟨x, x0, x1, x2, by
          show (f (7 * nI j' + x) + D (x * 7 + si)).toInt < _
          rw [(ih2 x x0 x1 x2).2.1]
          exact (ih2 x x0 x1 x2).2.2⟩)
      exact ⟨x, x0, x1, x2, by rw [x3]; exact (ih2 x x0 x1 x2).2.1⟩
    · exact Int.le_trans (hM.2 x x0 x1 x2) (Int.le_of_eq (ih2 x x0 x1 x2).2.1)
end TT
theorem bit_1 {j : Nat} (hj : j < 128) {x : Int32} (x0 : 0 ≤ x) (x1 : x < 7) : (nI j >>> (x &&& 31)) &&& 1 = 1 ↔ ¬ bitI (nI j) x = 0 := by
  show bitI (nI j) x = 1 ↔ _
  rcases bit01 hj x0 x1 with q | q <;> rw [q] <;> decide
theorem dX12_trips_0 : decode cX12_trips 0 = .ok (.iconst 1, 1) := by decide +kernel
theorem dX12_trips_1 : decode cX12_trips 1 = .ok (.istore_n 2, 1) := by decide +kernel
theorem dX12_trips_2 : decode cX12_trips 2 = .ok (.iload_n 2, 1) := by decide +kernel
theorem dX12_trips_3 : decode cX12_trips 3 = .ok (.sipush 128, 3) := by decide +kernel
theorem dX12_trips_6 : decode cX12_trips 6 = .ok (.if_icmp .ge 157, 3) := by decide +kernel
theorem dX12_trips_9 : decode cX12_trips 9 = .ok (.iconst 0, 1) := by decide +kernel
theorem dX12_trips_10 : decode cX12_trips 10 = .ok (.istore_n 3, 1) := by decide +kernel
theorem dX12_trips_11 : decode cX12_trips 11 = .ok (.iload_n 3, 1) := by decide +kernel
theorem dX12_trips_12 : decode cX12_trips 12 = .ok (.bipush 7, 2) := by decide +kernel
theorem dX12_trips_14 : decode cX12_trips 14 = .ok (.if_icmp .ge 143, 3) := by decide +kernel
theorem dX12_trips_17 : decode cX12_trips 17 = .ok (.iload_n 2, 1) := by decide +kernel
theorem dX12_trips_18 : decode cX12_trips 18 = .ok (.iconst 1, 1) := by decide +kernel
theorem dX12_trips_19 : decode cX12_trips 19 = .ok (.iload_n 3, 1) := by decide +kernel
theorem dX12_trips_20 : decode cX12_trips 20 = .ok (.ishl, 1) := by decide +kernel
theorem dX12_trips_21 : decode cX12_trips 21 = .ok (.iconst (-1), 1) := by decide +kernel
theorem dX12_trips_22 : decode cX12_trips 22 = .ok (.ixor, 1) := by decide +kernel
theorem dX12_trips_23 : decode cX12_trips 23 = .ok (.iand, 1) := by decide +kernel
theorem dX12_trips_24 : decode cX12_trips 24 = .ok (.istore 4, 2) := by decide +kernel
theorem dX12_trips_26 : decode cX12_trips 26 = .ok (.sipush 10000, 3) := by decide +kernel
theorem dX12_trips_29 : decode cX12_trips 29 = .ok (.istore 5, 2) := by decide +kernel
theorem dX12_trips_31 : decode cX12_trips 31 = .ok (.iload_n 2, 1) := by decide +kernel
theorem dX12_trips_32 : decode cX12_trips 32 = .ok (.iload_n 3, 1) := by decide +kernel
theorem dX12_trips_33 : decode cX12_trips 33 = .ok (.ishr, 1) := by decide +kernel
theorem dX12_trips_34 : decode cX12_trips 34 = .ok (.iconst 1, 1) := by decide +kernel
theorem dX12_trips_35 : decode cX12_trips 35 = .ok (.iand, 1) := by decide +kernel
theorem dX12_trips_36 : decode cX12_trips 36 = .ok (.iconst 1, 1) := by decide +kernel
theorem dX12_trips_37 : decode cX12_trips 37 = .ok (.if_icmp .ne 16, 3) := by decide +kernel
theorem dX12_trips_40 : decode cX12_trips 40 = .ok (.iload 4, 2) := by decide +kernel
theorem dX12_trips_42 : decode cX12_trips 42 = .ok (.ifCond .ne 11, 3) := by decide +kernel
theorem dX12_trips_45 : decode cX12_trips 45 = .ok (.aload_n 0, 1) := by decide +kernel
theorem dX12_trips_46 : decode cX12_trips 46 = .ok (.iload_n 1, 1) := by decide +kernel
theorem dX12_trips_47 : decode cX12_trips 47 = .ok (.iload_n 3, 1) := by decide +kernel
theorem dX12_trips_48 : decode cX12_trips 48 = .ok (.invokevirtual 136, 3) := by decide +kernel
theorem dX12_trips_51 : decode cX12_trips 51 = .ok (.istore 5, 2) := by decide +kernel
theorem dX12_trips_53 : decode cX12_trips 53 = .ok (.iconst 0, 1) := by decide +kernel
theorem dX12_trips_54 : decode cX12_trips 54 = .ok (.istore 6, 2) := by decide +kernel
theorem dX12_trips_56 : decode cX12_trips 56 = .ok (.iload 6, 2) := by decide +kernel
theorem dX12_trips_58 : decode cX12_trips 58 = .ok (.bipush 7, 2) := by decide +kernel
theorem dX12_trips_60 : decode cX12_trips 60 = .ok (.if_icmp .ge 78, 3) := by decide +kernel
theorem dX12_trips_63 : decode cX12_trips 63 = .ok (.iload_n 2, 1) := by decide +kernel
theorem dX12_trips_64 : decode cX12_trips 64 = .ok (.iload_n 3, 1) := by decide +kernel
theorem dX12_trips_65 : decode cX12_trips 65 = .ok (.ishr, 1) := by decide +kernel
theorem dX12_trips_66 : decode cX12_trips 66 = .ok (.iconst 1, 1) := by decide +kernel
theorem dX12_trips_67 : decode cX12_trips 67 = .ok (.iand, 1) := by decide +kernel
theorem dX12_trips_68 : decode cX12_trips 68 = .ok (.iconst 1, 1) := by decide +kernel
theorem dX12_trips_69 : decode cX12_trips 69 = .ok (.if_icmp .ne 69, 3) := by decide +kernel
theorem dX12_trips_72 : decode cX12_trips 72 = .ok (.iload 4, 2) := by decide +kernel
theorem dX12_trips_74 : decode cX12_trips 74 = .ok (.iload 6, 2) := by decide +kernel
theorem dX12_trips_76 : decode cX12_trips 76 = .ok (.ishr, 1) := by decide +kernel
theorem dX12_trips_77 : decode cX12_trips 77 = .ok (.iconst 1, 1) := by decide +kernel
theorem dX12_trips_78 : decode cX12_trips 78 = .ok (.iand, 1) := by decide +kernel
theorem dX12_trips_79 : decode cX12_trips 79 = .ok (.iconst 1, 1) := by decide +kernel
theorem dX12_trips_80 : decode cX12_trips 80 = .ok (.if_icmp .ne 52, 3) := by decide +kernel
theorem dX12_trips_83 : decode cX12_trips 83 = .ok (.aload_n 0, 1) := by decide +kernel
theorem dX12_trips_84 : decode cX12_trips 84 = .ok (.getfield 35, 3) := by decide +kernel
theorem dX12_trips_87 : decode cX12_trips 87 = .ok (.bipush 7, 2) := by decide +kernel
theorem dX12_trips_89 : decode cX12_trips 89 = .ok (.iload 4, 2) := by decide +kernel
theorem dX12_trips_91 : decode cX12_trips 91 = .ok (.imul, 1) := by decide +kernel
theorem dX12_trips_92 : decode cX12_trips 92 = .ok (.iload 6, 2) := by decide +kernel
theorem dX12_trips_94 : decode cX12_trips 94 = .ok (.iadd, 1) := by decide +kernel
theorem dX12_trips_95 : decode cX12_trips 95 = .ok (.iaload, 1) := by decide +kernel
theorem dX12_trips_96 : decode cX12_trips 96 = .ok (.aload_n 0, 1) := by decide +kernel
theorem dX12_trips_97 : decode cX12_trips 97 = .ok (.iload 6, 2) := by decide +kernel
theorem dX12_trips_99 : decode cX12_trips 99 = .ok (.iload_n 3, 1) := by decide +kernel
theorem dX12_trips_100 : decode cX12_trips 100 = .ok (.invokevirtual 136, 3) := by decide +kernel
theorem dX12_trips_103 : decode cX12_trips 103 = .ok (.iadd, 1) := by decide +kernel
theorem dX12_trips_104 : decode cX12_trips 104 = .ok (.iload 5, 2) := by decide +kernel
theorem dX12_trips_106 : decode cX12_trips 106 = .ok (.if_icmp .ge 26, 3) := by decide +kernel
theorem dX12_trips_109 : decode cX12_trips 109 = .ok (.aload_n 0, 1) := by decide +kernel
theorem dX12_trips_110 : decode cX12_trips 110 = .ok (.getfield 35, 3) := by decide +kernel
theorem dX12_trips_113 : decode cX12_trips 113 = .ok (.bipush 7, 2) := by decide +kernel
theorem dX12_trips_115 : decode cX12_trips 115 = .ok (.iload 4, 2) := by decide +kernel
theorem dX12_trips_117 : decode cX12_trips 117 = .ok (.imul, 1) := by decide +kernel
theorem dX12_trips_118 : decode cX12_trips 118 = .ok (.iload 6, 2) := by decide +kernel
theorem dX12_trips_120 : decode cX12_trips 120 = .ok (.iadd, 1) := by decide +kernel
theorem dX12_trips_121 : decode cX12_trips 121 = .ok (.iaload, 1) := by decide +kernel
theorem dX12_trips_122 : decode cX12_trips 122 = .ok (.aload_n 0, 1) := by decide +kernel
theorem dX12_trips_123 : decode cX12_trips 123 = .ok (.iload 6, 2) := by decide +kernel
theorem dX12_trips_125 : decode cX12_trips 125 = .ok (.iload_n 3, 1) := by decide +kernel
theorem dX12_trips_126 : decode cX12_trips 126 = .ok (.invokevirtual 136, 3) := by decide +kernel
theorem dX12_trips_129 : decode cX12_trips 129 = .ok (.iadd, 1) := by decide +kernel
theorem dX12_trips_130 : decode cX12_trips 130 = .ok (.istore 5, 2) := by decide +kernel
theorem dX12_trips_132 : decode cX12_trips 132 = .ok (.iinc 6 1, 3) := by decide +kernel
theorem dX12_trips_135 : decode cX12_trips 135 = .ok (.goto (-79), 3) := by decide +kernel
theorem dX12_trips_138 : decode cX12_trips 138 = .ok (.aload_n 0, 1) := by decide +kernel
theorem dX12_trips_139 : decode cX12_trips 139 = .ok (.getfield 35, 3) := by decide +kernel
theorem dX12_trips_142 : decode cX12_trips 142 = .ok (.bipush 7, 2) := by decide +kernel
theorem dX12_trips_144 : decode cX12_trips 144 = .ok (.iload_n 2, 1) := by decide +kernel
theorem dX12_trips_145 : decode cX12_trips 145 = .ok (.imul, 1) := by decide +kernel
theorem dX12_trips_146 : decode cX12_trips 146 = .ok (.iload_n 3, 1) := by decide +kernel
theorem dX12_trips_147 : decode cX12_trips 147 = .ok (.iadd, 1) := by decide +kernel
theorem dX12_trips_148 : decode cX12_trips 148 = .ok (.iload 5, 2) := by decide +kernel
theorem dX12_trips_150 : decode cX12_trips 150 = .ok (.iastore, 1) := by decide +kernel
theorem dX12_trips_151 : decode cX12_trips 151 = .ok (.iinc 3 1, 3) := by decide +kernel
theorem dX12_trips_154 : decode cX12_trips 154 = .ok (.goto (-143), 3) := by decide +kernel
theorem dX12_trips_157 : decode cX12_trips 157 = .ok (.iinc 2 1, 3) := by decide +kernel
theorem dX12_trips_160 : decode cX12_trips 160 = .ok (.goto (-158), 3) := by decide +kernel
theorem dX12_trips_163 : decode cX12_trips 163 = .ok (.return_, 1) := by decide +kernel
set_option maxRecDepth 100000 in
set_option maxHeartbeats 4000000 in
theorem r_trips {l : Launch} {g : Nat → Nat} {M : LH} (htr : l.stackTraces = false) {kd : Nat → Nat} {r m : Nat} {w : Nat → Nat} {t ch ea fl sv bf tn he en ln wr dg : Int32} {v b4 sa pa fr th bs tx li lf to : Int32 → Int32} (hC : Md kd r M m w t ch ea fl sv bf tn he en ln wr dg v b4 sa pa fr th bs tx li lf to) {gg : Int32 → Prop} {dd : Int32 → Int32 → Int} {home : Int32} (h0 : 0 ≤ home) (h7 : home < 7) (hd : ∀ a b, gg a → gg b → 0 ≤ dd a b ∧ dd a b ≤ 120) (hD : ∀ a b, gg a → gg b → (fr (a * 7 + b)).toInt = dd a b) (hh : gg home) : K_X12_trips l g 1 0 0 [.ref m, .int home] M (RV (fun M9 => ∃ bs', TT gg dd home 128 0 bs' ∧ Md kd r M9 m w t ch ea fl sv bf tn he en ln wr dg v b4 sa pa fr th bs' tx li lf to ∧ Frm kd r M M9) nX) := by
  refine Ko_X12_trips htr (fun X => ?_)
  obtain ⟨hMo, hw5, hw6, hw7, hw8, hw9, hw10, hw11, hw13, hw14, hw15, hw16, hw17, hw18, -⟩ := _root_.id hC
  have hF : Frm kd r M M := Frm.rf
  have key : ∀ e n, n + e = 128 → 0 < n → ∀ (M1 : LH) (f' : Int32 → Int32) (p3 p4 p5 p6 : Option Value), TT gg dd home n 0 f' → Md kd r M1 m w t ch ea fl sv bf tn he en ln wr dg v b4 sa pa fr th f' tx li lf to → Frm kd r M M1 → V l g yX12_trips cX12_trips (none) [] 1 0 0 (RV (fun M9 => ∃ bs', TT gg dd home 128 0 bs' ∧ Md kd r M9 m w t ch ea fl sv bf tn he en ln wr dg v b4 sa pa fr th bs' tx li lf to ∧ Frm kd r M M9) nX) X M1 0 0 2 [some (.ref m), some (.int home), some (.int (nI n)), p3, p4, p5, p6] [] := by
    clear hC hMo hw5 hw6 hw7 hw8 hw9 hw10 hw11 hw13 hw14 hw15 hw16 hw17 hw18 hF
    intro e
    induction e with
    | zero =>
      intro n hn hn0 M1 f' p3 p4 p5 p6 hT hC hF
      obtain ⟨hMo, hw5, hw6, hw7, hw8, hw9, hw10, hw11, hw13, hw14, hw15, hw16, hw17, hw18, -⟩ := _root_.id hC
      have h128 : n = 128 := by omega
      subst h128
      refine v_iload_n dX12_trips_2 rfl rfl ?_
      refine v_sipush (v := (128)) dX12_trips_3 (by decide) ?_
      refine v_icmp_ge (tgt := 163) dX12_trips_6 (by decide) (fun h6 => ?_) (fun h6 => ?_)
      · exact v_vret dX12_trips_163 rfl ⟨f', hT, hC, hF⟩ (by omega) (by omega)
      · exact absurd (by decide : (128 : Int32) ≤ nI 128) h6
    | succ e ih =>
      intro n hn' hn0 M1 f' p3 p4 p5 p6 hT hC hF
      obtain ⟨hMo, hw5, hw6, hw7, hw8, hw9, hw10, hw11, hw13, hw14, hw15, hw16, hw17, hw18, -⟩ := _root_.id hC
      replace ih := fun (n : Nat) (h : n + e = 128) => ih n h (by omega)
      have hn : n < 128 := by omega
      have keyM : ∀ s, 0 ≤ s → s ≤ 7 → ∀ (M1 : LH) (f' : Int32 → Int32) (p4 p5 p6 : Option Value), TT gg dd home n s f' → Md kd r M1 m w t ch ea fl sv bf tn he en ln wr dg v b4 sa pa fr th f' tx li lf to → Frm kd r M M1 → V l g yX12_trips cX12_trips (none) [] 1 0 0 (RV (fun M9 => ∃ bs', TT gg dd home 128 0 bs' ∧ Md kd r M9 m w t ch ea fl sv bf tn he en ln wr dg v b4 sa pa fr th bs' tx li lf to ∧ Frm kd r M M9) nX) X M1 0 0 11 [some (.ref m), some (.int home), some (.int (nI n)), some (.int s), p4, p5, p6] [] := by
        refine up_ind _ (fun s s0 s1 ih2 M1 f' p4 p5 p6 hT hC hF => ?_)
        obtain ⟨hMo, hw5, hw6, hw7, hw8, hw9, hw10, hw11, hw13, hw14, hw15, hw16, hw17, hw18, -⟩ := _root_.id hC
        refine v_iload_n dX12_trips_11 rfl rfl ?_
        refine v_bipush (v := (7)) dX12_trips_12 (by decide) ?_
        refine v_icmp_ge (tgt := 157) dX12_trips_14 (by decide) (fun h14 => ?_) (fun h14 => ?_)
        · have hs : s = 7 := by clear ih2 hT hd hD hh hC hF hMo hw5 hw6 hw7 hw8 hw9 hw10 hw11 hw13 hw14 hw15 hw16 hw17 hw18; lia
          subst hs
          refine v_iinc_2 dX12_trips_157 rfl ?_
          refine v_goto (tgt := 2) dX12_trips_160 (by decide) ?_
          rw [show nI n + Int32.ofInt 1 = nI (n + 1) from nI_1 n]
          exact ih (n + 1) (by omega) M1 _ _ _ _ _ hT.next hC hF
        · have hs7 : s < 7 := Int32.not_le.mp h14
          obtain ⟨rs, hrs⟩ : ∃ rs, rs = nI n &&& (sbit s ^^^ -1) := ⟨_, rfl⟩
          obtain ⟨j9, hj9, k2⟩ := rm_in hn s0 hs7
          rw [← hrs] at k2
          obtain ⟨n0, n1⟩ := nI_128 n hn
          have hr0 : 0 ≤ rs ∧ rs < 128 := by rw [k2]; exact nI_128 j9 hj9
          obtain ⟨r0, r1⟩ := hr0
          refine v_iload_n dX12_trips_17 rfl rfl ?_
          refine v_iconst (v := 1) dX12_trips_18 (by decide) ?_
          refine v_iload_n dX12_trips_19 rfl rfl ?_
          refine v_ishl dX12_trips_20 ?_
          refine v_iconst (v := (-1)) dX12_trips_21 (by decide) ?_
          refine v_ixor dX12_trips_22 ?_
          refine v_iand dX12_trips_23 ?_
          refine v_istore_4 dX12_trips_24 ?_
          rw [show nI n &&& ((1 : Int32) <<< (s &&& 31) ^^^ -1) = rs from hrs.symm]
          have keyI : ∀ y, 0 ≤ y → y ≤ 7 → ∀ is, (¬ bitI (nI n) s = 0 → MI rs (fun x => f' (7 * rs + x) + fr (x * 7 + s)) (if rs = 0 then fr (home * 7 + s) else 10000) y is) → V l g yX12_trips cX12_trips (none) [] 1 0 0 (RV (fun M9 => ∃ bs', TT gg dd home 128 0 bs' ∧ Md kd r M9 m w t ch ea fl sv bf tn he en ln wr dg v b4 sa pa fr th bs' tx li lf to ∧ Frm kd r M M9) nX) X M1 0 0 56 [some (.ref m), some (.int home), some (.int (nI n)), some (.int s), some (.int rs), some (.int is), some (.int y)] [] := by
            refine up_ind _ (fun y y0 y1 ih3 is hI => ?_)
            refine v_iload dX12_trips_56 rfl ?_
            refine v_bipush (v := (7)) dX12_trips_58 (by decide) ?_
            refine v_icmp_ge (tgt := 138) dX12_trips_60 (by decide) (fun h60 => ?_) (fun h60 => ?_)
            · have hy : y = 7 := by clear ih2 ih3 hI hT hd hD hh hC hF hMo hw5 hw6 hw7 hw8 hw9 hw10 hw11 hw13 hw14 hw15 hw16 hw17 hw18; lia
              subst hy
              refine v_aload_n dX12_trips_138 rfl rfl ?_
              refine gf_X12_35 dX12_trips_139 rfl hMo ?_
              refine v_bipush (v := (7)) dX12_trips_142 (by decide) ?_
              refine v_iload_n dX12_trips_144 rfl rfl ?_
              refine v_imul dX12_trips_145 ?_
              refine v_iload_n dX12_trips_146 rfl rfl ?_
              refine v_iadd dX12_trips_147 ?_
              refine v_iload dX12_trips_148 rfl ?_
              refine v_iast dX12_trips_150 hw11 (by clear ih2 ih3 hI hT hd hD hh hC hF; lia) (by clear ih2 ih3 hI hT hd hD hh hC hF; lia) ?_
              refine V.md (Md.r11 hC) (Frm.tr hF (Frm.up (hC.kd_r11))) (fun M1 hC hF => ?_)
              obtain ⟨hMo, hw5, hw6, hw7, hw8, hw9, hw10, hw11, hw13, hw14, hw15, hw16, hw17, hw18, -⟩ := _root_.id hC
              refine v_iinc_3 dX12_trips_151 rfl ?_
              refine v_goto (tgt := 11) dX12_trips_154 (by decide) ?_
              refine ih2 hs7 M1 _ _ _ _ (TT.step hn s0 hs7 hT (fun hm hb => ?_)) hC hF
              first
                | (subst hrs; exact TT.val hd hD hh hn s0 hs7 hT hm hb (hI hb))
                | exact absurd ((bit_1 hn s0 hs7).mpr hb) h69
            · have hy7 : y < 7 := Int32.not_le.mp h60
              refine v_iload_n dX12_trips_63 rfl rfl ?_
              refine v_iload_n dX12_trips_64 rfl rfl ?_
              refine v_ishr dX12_trips_65 ?_
              refine v_iconst (v := 1) dX12_trips_66 (by decide) ?_
              refine v_iand dX12_trips_67 ?_
              refine v_iconst (v := 1) dX12_trips_68 (by decide) ?_
              refine v_icmp_ne (tgt := 138) dX12_trips_69 (by decide) (fun h69 => ?_) (fun h69 => ?_)
              · refine v_aload_n dX12_trips_138 rfl rfl ?_
                refine gf_X12_35 dX12_trips_139 rfl hMo ?_
                refine v_bipush (v := (7)) dX12_trips_142 (by decide) ?_
                refine v_iload_n dX12_trips_144 rfl rfl ?_
                refine v_imul dX12_trips_145 ?_
                refine v_iload_n dX12_trips_146 rfl rfl ?_
                refine v_iadd dX12_trips_147 ?_
                refine v_iload dX12_trips_148 rfl ?_
                refine v_iast dX12_trips_150 hw11 (by clear ih2 ih3 hI hT hd hD hh hC hF; lia) (by clear ih2 ih3 hI hT hd hD hh hC hF; lia) ?_
                refine V.md (Md.r11 hC) (Frm.tr hF (Frm.up (hC.kd_r11))) (fun M1 hC hF => ?_)
                obtain ⟨hMo, hw5, hw6, hw7, hw8, hw9, hw10, hw11, hw13, hw14, hw15, hw16, hw17, hw18, -⟩ := _root_.id hC
                refine v_iinc_3 dX12_trips_151 rfl ?_
                refine v_goto (tgt := 11) dX12_trips_154 (by decide) ?_
                refine ih2 hs7 M1 _ _ _ _ (TT.step hn s0 hs7 hT (fun hm hb => ?_)) hC hF
                first
                  | (subst hrs; exact TT.val hd hD hh hn s0 hs7 hT hm hb (hI hb))
                  | exact absurd ((bit_1 hn s0 hs7).mpr hb) h69
              · refine v_iload dX12_trips_72 rfl ?_
                refine v_iload dX12_trips_74 rfl ?_
                refine v_ishr dX12_trips_76 ?_
                refine v_iconst (v := 1) dX12_trips_77 (by decide) ?_
                refine v_iand dX12_trips_78 ?_
                refine v_iconst (v := 1) dX12_trips_79 (by decide) ?_
                refine v_icmp_ne (tgt := 132) dX12_trips_80 (by decide) (fun h80 => ?_) (fun h80 => ?_)
                · refine v_iinc_6 dX12_trips_132 rfl ?_
                  refine v_goto (tgt := 56) dX12_trips_135 (by decide) ?_
                  refine ih3 hy7 _ (fun hb => ?_)
                  first
                    | exact (hI hb).keep hy7 (Or.inl (Classical.byContradiction (fun z => h80 (by rw [k2]; exact (bit_1 hj9 y0 hy7).mpr (by rw [← k2]; exact z)))))
                    | exact (hI hb).keep hy7 (Or.inr (Int32.not_lt.mpr h106))
                    | exact (hI hb).take y0 hy7 (by rw [k2]; exact (bit_1 hj9 y0 hy7).mp (by rw [← k2]; exact h80n)) (Int32.not_le.mp h106)
                · have h80n := h80
                  refine v_aload_n dX12_trips_83 rfl rfl ?_
                  refine gf_X12_35 dX12_trips_84 rfl hMo ?_
                  refine v_bipush (v := (7)) dX12_trips_87 (by decide) ?_
                  refine v_iload dX12_trips_89 rfl ?_
                  refine v_imul dX12_trips_91 ?_
                  refine v_iload dX12_trips_92 rfl ?_
                  refine v_iadd dX12_trips_94 ?_
                  refine v_iald dX12_trips_95 hw11 (by clear ih2 ih3 hI hT hd hD hh hC hF; lia) (by clear ih2 ih3 hI hT hd hD hh hC hF; lia) ?_
                  refine v_aload_n dX12_trips_96 rfl rfl ?_
                  refine v_iload dX12_trips_97 rfl ?_
                  refine v_iload_n dX12_trips_99 rfl rfl ?_
                  refine k_X12_136 dX12_trips_100 rfl (r_apart htr hC y0 hy7 s0 hs7) hMo (Nat.le_of_ble_eq_true rfl) (by omega) (by omega) (Nat.le_of_ble_eq_true rfl) (fun r100 M9 h9 => ?_) (fun _ _ h9 => h9.elim)
                  obtain ⟨rfl, e9⟩ := h9
                  subst M9
                  refine v_iadd dX12_trips_103 ?_
                  refine v_iload dX12_trips_104 rfl ?_
                  refine v_icmp_ge (tgt := 132) dX12_trips_106 (by decide) (fun h106 => ?_) (fun h106 => ?_)
                  · refine v_iinc_6 dX12_trips_132 rfl ?_
                    refine v_goto (tgt := 56) dX12_trips_135 (by decide) ?_
                    refine ih3 hy7 _ (fun hb => ?_)
                    first
                      | exact (hI hb).keep hy7 (Or.inl (Classical.byContradiction (fun z => h80 (by rw [k2]; exact (bit_1 hj9 y0 hy7).mpr (by rw [← k2]; exact z)))))
                      | exact (hI hb).keep hy7 (Or.inr (Int32.not_lt.mpr h106))
                      | exact (hI hb).take y0 hy7 (by rw [k2]; exact (bit_1 hj9 y0 hy7).mp (by rw [← k2]; exact h80n)) (Int32.not_le.mp h106)
                  · refine v_aload_n dX12_trips_109 rfl rfl ?_
                    refine gf_X12_35 dX12_trips_110 rfl hMo ?_
                    refine v_bipush (v := (7)) dX12_trips_113 (by decide) ?_
                    refine v_iload dX12_trips_115 rfl ?_
                    refine v_imul dX12_trips_117 ?_
                    refine v_iload dX12_trips_118 rfl ?_
                    refine v_iadd dX12_trips_120 ?_
                    refine v_iald dX12_trips_121 hw11 (by clear ih2 ih3 hI hT hd hD hh hC hF; lia) (by clear ih2 ih3 hI hT hd hD hh hC hF; lia) ?_
                    refine v_aload_n dX12_trips_122 rfl rfl ?_
                    refine v_iload dX12_trips_123 rfl ?_
                    refine v_iload_n dX12_trips_125 rfl rfl ?_
                    refine k_X12_136 dX12_trips_126 rfl (r_apart htr hC y0 hy7 s0 hs7) hMo (Nat.le_of_ble_eq_true rfl) (by omega) (by omega) (Nat.le_of_ble_eq_true rfl) (fun r126 M9 h9 => ?_) (fun _ _ h9 => h9.elim)
                    obtain ⟨rfl, e9⟩ := h9
                    subst M9
                    refine v_iadd dX12_trips_129 ?_
                    refine v_istore_5 dX12_trips_130 ?_
                    refine v_iinc_6 dX12_trips_132 rfl ?_
                    refine v_goto (tgt := 56) dX12_trips_135 (by decide) ?_
                    refine ih3 hy7 _ (fun hb => ?_)
                    first
                      | exact (hI hb).keep hy7 (Or.inl (Classical.byContradiction (fun z => h80 (by rw [k2]; exact (bit_1 hj9 y0 hy7).mpr (by rw [← k2]; exact z)))))
                      | exact (hI hb).keep hy7 (Or.inr (Int32.not_lt.mpr h106))
                      | exact (hI hb).take y0 hy7 (by rw [k2]; exact (bit_1 hj9 y0 hy7).mp (by rw [← k2]; exact h80n)) (Int32.not_le.mp h106)
          refine v_sipush (v := (10000)) dX12_trips_26 (by decide) ?_
          refine v_istore_5 dX12_trips_29 ?_
          refine v_iload_n dX12_trips_31 rfl rfl ?_
          refine v_iload_n dX12_trips_32 rfl rfl ?_
          refine v_ishr dX12_trips_33 ?_
          refine v_iconst (v := 1) dX12_trips_34 (by decide) ?_
          refine v_iand dX12_trips_35 ?_
          refine v_iconst (v := 1) dX12_trips_36 (by decide) ?_
          refine v_icmp_ne (tgt := 53) dX12_trips_37 (by decide) (fun h37 => ?_) (fun h37 => ?_)
          · refine v_iconst (v := 0) dX12_trips_53 (by decide) ?_
            refine v_istore_6 dX12_trips_54 ?_
            refine keyI 0 (Int32.le_refl _) (by decide) _ (fun hb => ?_)
            first
              | (rw [if_pos (by first | assumption | exact Classical.not_not.mp (by assumption))]; exact MI.z)
              | (rw [if_neg (by assumption)]; exact MI.z)
              | exact absurd ((bit_1 hn s0 hs7).mpr hb) h37
          · refine v_iload dX12_trips_40 rfl ?_
            refine v_if_ne (tgt := 53) dX12_trips_42 (by decide) (fun h42 => ?_) (fun h42 => ?_)
            · refine v_iconst (v := 0) dX12_trips_53 (by decide) ?_
              refine v_istore_6 dX12_trips_54 ?_
              refine keyI 0 (Int32.le_refl _) (by decide) _ (fun hb => ?_)
              first
                | (rw [if_pos (by first | assumption | exact Classical.not_not.mp (by assumption))]; exact MI.z)
                | (rw [if_neg (by assumption)]; exact MI.z)
                | exact absurd ((bit_1 hn s0 hs7).mpr hb) h37
            · refine v_aload_n dX12_trips_45 rfl rfl ?_
              refine v_iload_n dX12_trips_46 rfl rfl ?_
              refine v_iload_n dX12_trips_47 rfl rfl ?_
              refine k_X12_136 dX12_trips_48 rfl (r_apart htr hC h0 h7 s0 hs7) hMo (Nat.le_of_ble_eq_true rfl) (by omega) (by omega) (Nat.le_of_ble_eq_true rfl) (fun r48 M9 h9 => ?_) (fun _ _ h9 => h9.elim)
              obtain ⟨rfl, e9⟩ := h9
              subst M9
              refine v_istore_5 dX12_trips_51 ?_
              refine v_iconst (v := 0) dX12_trips_53 (by decide) ?_
              refine v_istore_6 dX12_trips_54 ?_
              refine keyI 0 (Int32.le_refl _) (by decide) _ (fun hb => ?_)
              first
                | (rw [if_pos (by first | assumption | exact Classical.not_not.mp (by assumption))]; exact MI.z)
                | (rw [if_neg (by assumption)]; exact MI.z)
                | exact absurd ((bit_1 hn s0 hs7).mpr hb) h37
      refine v_iload_n dX12_trips_2 rfl rfl ?_
      refine v_sipush (v := (128)) dX12_trips_3 (by decide) ?_
      refine v_icmp_ge (tgt := 163) dX12_trips_6 (by decide) (fun h6 => ?_) (fun h6 => ?_)
      · exact absurd h6 (Int32.not_le.mpr (nI_128 n hn).2)
      · refine v_iconst (v := 0) dX12_trips_9 (by decide) ?_
        refine v_istore_3 dX12_trips_10 ?_
        exact keyM 0 (Int32.le_refl _) (by decide) M1 _ _ _ _ hT hC hF
  refine v_iconst (v := 1) dX12_trips_0 (by decide) ?_
  refine v_istore_2 dX12_trips_1 ?_
  exact key 127 1 rfl (by decide) M _ _ _ _ _ TT.z hC hF

