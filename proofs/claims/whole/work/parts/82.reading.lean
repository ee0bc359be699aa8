/-! ===== the reference: a command read, a command done ===== -/
def bi : Bool → Int32
  | true => 1
  | false => 0
theorem bi_01 : ∀ b, bi b = 0 ∨ bi b = 1 := by decide
theorem bi_t : ∀ b, ¬ bi b = 0 → b = true := by decide
theorem bi_f : ∀ b, bi b = 0 → b = false := by decide
theorem bi_1 : ∀ b, bi b = 1 → b = true := by decide
theorem bi_d {p : Prop} [Decidable p] : bi (decide p) = if p then 1 else 0 := by
  by_cases h : p
  · rw [if_pos h, decide_eq_true h]; rfl
  · rw [if_neg h, decide_eq_false h]; rfl
/-- a part of a command read from he: 0 a digit, 1 a space and a number, 2 degrees, 3 a space and a number that may lack: where it ends, whether it is wrong, its number -/
def pG (tx : Int32 → Int32) (en : Int32) : Nat → Int32 → (Int32 × Bool) × Int32
  | 0, he => (((rdD tx en 1 he 0).1, decide ((rdD tx en 1 he 0).1 = he)), (rdD tx en 1 he 0).2)
  | 1, he => if sgN tx en he = 32 then (((rdD tx en 3 (he + 1) 0).1, decide ((rdD tx en 3 (he + 1) 0).1 = he + 1)), (rdD tx en 3 (he + 1) 0).2) else ((he, true), 0)
  | 2, he => (((rdD tx en 3 (if sgN tx en he = 45 then he + 1 else he) 0).1, decide ((rdD tx en 3 (if sgN tx en he = 45 then he + 1 else he) 0).1 = (if sgN tx en he = 45 then he + 1 else he))), if sgN tx en he = 45 then -(rdD tx en 3 (if sgN tx en he = 45 then he + 1 else he) 0).2 else (rdD tx en 3 (if sgN tx en he = 45 then he + 1 else he) 0).2)
  | _, he => if sgN tx en he = 32 then (((rdD tx en 3 (he + 1) 0).1, decide ((rdD tx en 3 (he + 1) 0).1 = he + 1)), (rdD tx en 3 (he + 1) 0).2) else ((he, false), 1)
theorem pG_1y {tx : Int32 → Int32} {en he : Int32} (h : sgN tx en he = 32) : pG tx en 1 he = (((rdD tx en 3 (he + 1) 0).1, decide ((rdD tx en 3 (he + 1) 0).1 = he + 1)), (rdD tx en 3 (he + 1) 0).2) := if_pos h
theorem pG_1n {tx : Int32 → Int32} {en he : Int32} (h : ¬ sgN tx en he = 32) : pG tx en 1 he = ((he, true), 0) := if_neg h
theorem pG_3y {tx : Int32 → Int32} {en he : Int32} {k : Nat} (h : sgN tx en he = 32) : pG tx en (k + 3) he = (((rdD tx en 3 (he + 1) 0).1, decide ((rdD tx en 3 (he + 1) 0).1 = he + 1)), (rdD tx en 3 (he + 1) 0).2) := if_pos h
theorem pG_3n {tx : Int32 → Int32} {en he : Int32} {k : Nat} (h : ¬ sgN tx en he = 32) : pG tx en (k + 3) he = ((he, false), 1) := if_neg h
def pE (tx : Int32 → Int32) (en : Int32) (k : Nat) (s : Int32 × Bool) : (Int32 × Bool) × Int32 := if s.2 = true then (s, 0) else pG tx en k s.1
theorem pE_t {tx : Int32 → Int32} {en : Int32} {k : Nat} {s : Int32 × Bool} (h : s.2 = true) : pE tx en k s = (s, 0) := if_pos h
theorem pE_f {tx : Int32 → Int32} {en : Int32} {k : Nat} {s : Int32 × Bool} (h : s.2 = false) : pE tx en k s = pG tx en k s.1 := if_neg (by rw [h]; decide)
def prs (tx : Int32 → Int32) (en : Int32) : List Nat → Int32 × Bool → (Int32 × Bool) × List Int32
  | [], s => (s, [])
  | k :: ks, s => ((prs tx en ks (pE tx en k s).1).1, (pE tx en k s).2 :: (prs tx en ks (pE tx en k s).1).2)
/-- the parts of a command behind its word -/
def prt (i : Nat) : List Nat := ([[], [0, 0, 1], [0, 1], [0, 0, 1, 1, 1], [0, 1], [0, 1], [0], [0, 0], [2], [3]] : List (List Nat)).getD i []
theorem rdD_in {tx : Int32 → Int32} {en : Int32} (e60 : en ≤ 60) : ∀ (f : Nat) (he n : Int32), 0 ≤ he → he ≤ 60 → 0 ≤ (rdD tx en f he n).1 ∧ (rdD tx en f he n).1 ≤ 60 := by
  intro f
  induction f with
  | zero => exact fun he n a b => ⟨a, b⟩
  | succ f ih =>
    intro he n a b
    by_cases q : 48 ≤ sgN tx en he ∧ sgN tx en he ≤ 57
    · rw [rdD_y q]
      have h := sgN_in e60 (rfl : sgN tx en he = _) (fun z => by rw [z] at q; exact absurd q.1 (by decide))
      exact ih _ _ (by clear ih q; lia) (by clear ih q; lia)
    · rw [rdD_n q]
      exact ⟨a, b⟩
theorem pG_in {tx : Int32 → Int32} {en : Int32} (k : Nat) (e60 : en ≤ 60) {he : Int32} (a : 0 ≤ he) (b : he ≤ 60) : 0 ≤ (pG tx en k he).1.1 ∧ (pG tx en k he).1.1 ≤ 60 := by
  have h1 : ∀ c, sgN tx en he = c → ¬ c = -1 → 0 ≤ he + 1 ∧ he + 1 ≤ 60 := fun c h hc => by
    have q := sgN_in e60 h hc
    exact ⟨by lia, by lia⟩
  match k with
  | 0 => exact rdD_in e60 _ _ _ a b
  | 1 =>
    by_cases q : sgN tx en he = 32
    · rw [pG_1y q]
      exact rdD_in e60 _ _ _ (h1 _ q (by decide)).1 (h1 _ q (by decide)).2
    · rw [pG_1n q]
      exact ⟨a, b⟩
  | 2 =>
    unfold pG
    by_cases q : sgN tx en he = 45
    · simp only [if_pos q]
      exact rdD_in e60 _ _ _ (h1 _ q (by decide)).1 (h1 _ q (by decide)).2
    · simp only [if_neg q]
      exact rdD_in e60 _ _ _ a b
  | k + 3 =>
    by_cases q : sgN tx en he = 32
    · rw [pG_3y q]
      exact rdD_in e60 _ _ _ (h1 _ q (by decide)).1 (h1 _ q (by decide)).2
    · rw [pG_3n q]
      exact ⟨a, b⟩
theorem pE_in {tx : Int32 → Int32} {en : Int32} (k : Nat) (e60 : en ≤ 60) {s : Int32 × Bool} (a : 0 ≤ s.1) (b : s.1 ≤ 60) : 0 ≤ (pE tx en k s).1.1 ∧ (pE tx en k s).1.1 ≤ 60 := by
  unfold pE
  split
  · exact ⟨a, b⟩
  · exact pG_in k e60 a b
theorem wrd_ne : ∀ w, w < 10 → ∀ j, j < (wrd w).length → ¬ (wrd w).getD j 0 = -1 := by decide
theorem mtW_in {tx : Int32 → Int32} {en he : Int32} {w n : Nat} (h : mtW (sgS tx en he) w n) (hw : w < 10) (e0 : 0 ≤ he) (e61 : he ≤ 60) (e60 : en ≤ 60) : 0 ≤ he + nI n ∧ he + nI n ≤ 60 := by
  have h7 := mt_7' h hw
  match n, h, h7 with
  | 0, _, _ => rw [show he + nI 0 = he from Int32.add_zero he]; exact ⟨e0, e61⟩
  | n + 1, h, h7 =>
    obtain ⟨-, a, b⟩ := mtW_1.mp h
    have q := sgN_in e60 (he := he + nI n) b.symm (wrd_ne w hw n a)
    have z : ∀ n, n < 8 → 0 ≤ nI n ∧ nI n < 8 := by decide
    obtain ⟨z1, z2⟩ := z n (by omega)
    rw [← nI_1, ← Int32.add_assoc]
    clear h a b
    exact ⟨by lia, by lia⟩
/-- no command stands at he: the place of the error -/
def cmE (tx : Int32 → Int32) (en he e : Int32) : Prop := (∃ n, e = he + nI n ∧ (∃ i, i < 10 ∧ mtW (sgS tx en he) i n) ∧ (∀ i, i < 10 → ¬ (mtW (sgS tx en he) i n ∧ (wrd i).length = n)) ∧ ∀ i, i < 10 → ¬ mtW (sgS tx en he) i (n + 1)) ∨ ∃ i, i < 10 ∧ mtW (sgS tx en he) i (wrd i).length ∧ (prs tx en (prt i) (he + nI (wrd i).length, false)).1 = (e, true)
/-- command i stands at he, with the numbers ns, and ends at e -/
def cmG (tx : Int32 → Int32) (en he : Int32) (i : Nat) (e : Int32) (ns : List Int32) : Prop := i < 10 ∧ mtW (sgS tx en he) i (wrd i).length ∧ prs tx en (prt i) (he + nI (wrd i).length, false) = ((e, false), ns)
theorem fcI_ne (i n : Nat) : ¬ fcI i n = 0 := by
  unfold fcI
  split <;> (repeat' split) <;> decide
theorem dgU {kd : Nat → Nat} {r m : Nat} {w : Nat → Nat} {t ch ea fl sv bf tn en ln dg : Int32} {v b4 sa pa fr th bs tx li lf to : Int32 → Int32} {M9 : LH} {s : Int32 × Bool} {x : Int32} (h : (bi s.2 = 1 ∧ x = 0 ∧ Md kd r M9 m w t ch ea fl sv bf tn s.1 en ln (bi s.2) dg v b4 sa pa fr th bs tx li lf to) ∨ (bi s.2 = 0 ∧ x = (rdD tx en 1 s.1 0).2 ∧ Md kd r M9 m w t ch ea fl sv bf tn (rdD tx en 1 s.1 0).1 en ln (if (rdD tx en 1 s.1 0).1 = s.1 then 1 else 0) dg v b4 sa pa fr th bs tx li lf to)) : x = (pE tx en 0 s).2 ∧ Md kd r M9 m w t ch ea fl sv bf tn (pE tx en 0 s).1.1 en ln (bi (pE tx en 0 s).1.2) dg v b4 sa pa fr th bs tx li lf to := by
  rcases h with ⟨a, b, c⟩ | ⟨a, b, c⟩
  · rw [pE_t (bi_1 _ a)]
    exact ⟨b, c⟩
  · rw [pE_f (bi_f _ a)]
    rw [← bi_d] at c
    exact ⟨b, c⟩
theorem bhU {kd : Nat → Nat} {r m : Nat} {w : Nat → Nat} {t ch ea fl sv bf tn en ln dg : Int32} {v b4 sa pa fr th bs tx li lf to : Int32 → Int32} {M9 : LH} {s : Int32 × Bool} {x : Int32} (h : (bi s.2 = 1 ∧ x = 0 ∧ Md kd r M9 m w t ch ea fl sv bf tn s.1 en ln (bi s.2) dg v b4 sa pa fr th bs tx li lf to) ∨ (bi s.2 = 0 ∧ ¬ sgN tx en s.1 = 32 ∧ x = 0 ∧ Md kd r M9 m w t ch ea fl sv bf tn s.1 en ln 1 dg v b4 sa pa fr th bs tx li lf to) ∨ (bi s.2 = 0 ∧ sgN tx en s.1 = 32 ∧ x = (rdD tx en 3 (s.1 + 1) 0).2 ∧ Md kd r M9 m w t ch ea fl sv bf tn (rdD tx en 3 (s.1 + 1) 0).1 en ln (if (rdD tx en 3 (s.1 + 1) 0).1 = s.1 + 1 then 1 else 0) dg v b4 sa pa fr th bs tx li lf to)) : x = (pE tx en 1 s).2 ∧ Md kd r M9 m w t ch ea fl sv bf tn (pE tx en 1 s).1.1 en ln (bi (pE tx en 1 s).1.2) dg v b4 sa pa fr th bs tx li lf to := by
  rcases h with ⟨a, b, c⟩ | ⟨a, a2, b, c⟩ | ⟨a, a2, b, c⟩
  · rw [pE_t (bi_1 _ a)]
    exact ⟨b, c⟩
  · rw [pE_f (bi_f _ a)]
    rw [pG_1n a2]
    exact ⟨b, c⟩
  · rw [pE_f (bi_f _ a)]
    rw [pG_1y a2]
    rw [← bi_d] at c
    exact ⟨b, c⟩
theorem deU {kd : Nat → Nat} {r m : Nat} {w : Nat → Nat} {t ch ea fl sv bf tn en ln dg : Int32} {v b4 sa pa fr th bs tx li lf to : Int32 → Int32} {M9 : LH} {s : Int32 × Bool} {x : Int32} (hs : s.2 = false) (h : x = (if sgN tx en s.1 = 45 then -(rdD tx en 3 (if sgN tx en s.1 = 45 then s.1 + 1 else s.1) 0).2 else (rdD tx en 3 (if sgN tx en s.1 = 45 then s.1 + 1 else s.1) 0).2) ∧ Md kd r M9 m w t ch ea fl sv bf tn (rdD tx en 3 (if sgN tx en s.1 = 45 then s.1 + 1 else s.1) 0).1 en ln (if (rdD tx en 3 (if sgN tx en s.1 = 45 then s.1 + 1 else s.1) 0).1 = (if sgN tx en s.1 = 45 then s.1 + 1 else s.1) then 1 else 0) dg v b4 sa pa fr th bs tx li lf to) : x = (pE tx en 2 s).2 ∧ Md kd r M9 m w t ch ea fl sv bf tn (pE tx en 2 s).1.1 en ln (bi (pE tx en 2 s).1.2) dg v b4 sa pa fr th bs tx li lf to := by
  obtain ⟨b, c⟩ := h
  rw [pE_f hs]
  rw [← bi_d] at c
  exact ⟨b, c⟩
theorem dX12_command_0 : decode cX12_command 0 = .ok (.aload_n 0, 1) := by decide +kernel
theorem dX12_command_1 : decode cX12_command 1 = .ok (.invokevirtual 221, 3) := by decide +kernel
theorem dX12_command_4 : decode cX12_command 4 = .ok (.istore_n 1, 1) := by decide +kernel
theorem dX12_command_5 : decode cX12_command 5 = .ok (.aload_n 0, 1) := by decide +kernel
theorem dX12_command_6 : decode cX12_command 6 = .ok (.getfield 208, 3) := by decide +kernel
theorem dX12_command_9 : decode cX12_command 9 = .ok (.ifCond .eq 4, 3) := by decide +kernel
theorem dX12_command_12 : decode cX12_command 12 = .ok (.return_, 1) := by decide +kernel
theorem dX12_command_13 : decode cX12_command 13 = .ok (.iload_n 1, 1) := by decide +kernel
theorem dX12_command_14 : decode cX12_command 14 = .ok (.iconst 1, 1) := by decide +kernel
theorem dX12_command_15 : decode cX12_command 15 = .ok (.bipush 7, 2) := by decide +kernel
theorem dX12_command_17 : decode cX12_command 17 = .ok (.invokestatic 66, 3) := by decide +kernel
theorem dX12_command_20 : decode cX12_command 20 = .ok (.ifCond .eq 14, 3) := by decide +kernel
theorem dX12_command_23 : decode cX12_command 23 = .ok (.aload_n 0, 1) := by decide +kernel
theorem dX12_command_24 : decode cX12_command 24 = .ok (.getfield 47, 3) := by decide +kernel
theorem dX12_command_27 : decode cX12_command 27 = .ok (.iconst 0, 1) := by decide +kernel
theorem dX12_command_28 : decode cX12_command 28 = .ok (.aload_n 0, 1) := by decide +kernel
theorem dX12_command_29 : decode cX12_command 29 = .ok (.iconst 1, 1) := by decide +kernel
theorem dX12_command_30 : decode cX12_command 30 = .ok (.invokevirtual 218, 3) := by decide +kernel
theorem dX12_command_33 : decode cX12_command 33 = .ok (.iastore, 1) := by decide +kernel
theorem dX12_command_34 : decode cX12_command 34 = .ok (.iload_n 1, 1) := by decide +kernel
theorem dX12_command_35 : decode cX12_command 35 = .ok (.iconst 1, 1) := by decide +kernel
theorem dX12_command_36 : decode cX12_command 36 = .ok (.if_icmp .eq 14, 3) := by decide +kernel
theorem dX12_command_39 : decode cX12_command 39 = .ok (.iload_n 1, 1) := by decide +kernel
theorem dX12_command_40 : decode cX12_command 40 = .ok (.iconst 3, 1) := by decide +kernel
theorem dX12_command_41 : decode cX12_command 41 = .ok (.if_icmp .eq 9, 3) := by decide +kernel
theorem dX12_command_44 : decode cX12_command 44 = .ok (.iload_n 1, 1) := by decide +kernel
theorem dX12_command_45 : decode cX12_command 45 = .ok (.bipush 7, 2) := by decide +kernel
theorem dX12_command_47 : decode cX12_command 47 = .ok (.if_icmp .ne 14, 3) := by decide +kernel
theorem dX12_command_50 : decode cX12_command 50 = .ok (.aload_n 0, 1) := by decide +kernel
theorem dX12_command_51 : decode cX12_command 51 = .ok (.getfield 47, 3) := by decide +kernel
theorem dX12_command_54 : decode cX12_command 54 = .ok (.iconst 1, 1) := by decide +kernel
theorem dX12_command_55 : decode cX12_command 55 = .ok (.aload_n 0, 1) := by decide +kernel
theorem dX12_command_56 : decode cX12_command 56 = .ok (.iconst 1, 1) := by decide +kernel
theorem dX12_command_57 : decode cX12_command 57 = .ok (.invokevirtual 218, 3) := by decide +kernel
theorem dX12_command_60 : decode cX12_command 60 = .ok (.iastore, 1) := by decide +kernel
theorem dX12_command_61 : decode cX12_command 61 = .ok (.iload_n 1, 1) := by decide +kernel
theorem dX12_command_62 : decode cX12_command 62 = .ok (.iconst 1, 1) := by decide +kernel
theorem dX12_command_63 : decode cX12_command 63 = .ok (.if_icmp .eq 8, 3) := by decide +kernel
theorem dX12_command_66 : decode cX12_command 66 = .ok (.iload_n 1, 1) := by decide +kernel
theorem dX12_command_67 : decode cX12_command 67 = .ok (.iconst 3, 1) := by decide +kernel
theorem dX12_command_68 : decode cX12_command 68 = .ok (.if_icmp .ne 14, 3) := by decide +kernel
theorem dX12_command_71 : decode cX12_command 71 = .ok (.aload_n 0, 1) := by decide +kernel
theorem dX12_command_72 : decode cX12_command 72 = .ok (.getfield 47, 3) := by decide +kernel
theorem dX12_command_75 : decode cX12_command 75 = .ok (.iconst 2, 1) := by decide +kernel
theorem dX12_command_76 : decode cX12_command 76 = .ok (.aload_n 0, 1) := by decide +kernel
theorem dX12_command_77 : decode cX12_command 77 = .ok (.iconst 3, 1) := by decide +kernel
theorem dX12_command_78 : decode cX12_command 78 = .ok (.invokevirtual 224, 3) := by decide +kernel
theorem dX12_command_81 : decode cX12_command 81 = .ok (.iastore, 1) := by decide +kernel
theorem dX12_command_82 : decode cX12_command 82 = .ok (.iload_n 1, 1) := by decide +kernel
theorem dX12_command_83 : decode cX12_command 83 = .ok (.iconst 3, 1) := by decide +kernel
theorem dX12_command_84 : decode cX12_command 84 = .ok (.if_icmp .ne 14, 3) := by decide +kernel
theorem dX12_command_87 : decode cX12_command 87 = .ok (.aload_n 0, 1) := by decide +kernel
theorem dX12_command_88 : decode cX12_command 88 = .ok (.getfield 47, 3) := by decide +kernel
theorem dX12_command_91 : decode cX12_command 91 = .ok (.iconst 3, 1) := by decide +kernel
theorem dX12_command_92 : decode cX12_command 92 = .ok (.aload_n 0, 1) := by decide +kernel
theorem dX12_command_93 : decode cX12_command 93 = .ok (.iconst 3, 1) := by decide +kernel
theorem dX12_command_94 : decode cX12_command 94 = .ok (.invokevirtual 224, 3) := by decide +kernel
theorem dX12_command_97 : decode cX12_command 97 = .ok (.iastore, 1) := by decide +kernel
theorem dX12_command_98 : decode cX12_command 98 = .ok (.iload_n 1, 1) := by decide +kernel
theorem dX12_command_99 : decode cX12_command 99 = .ok (.iconst 3, 1) := by decide +kernel
theorem dX12_command_100 : decode cX12_command 100 = .ok (.if_icmp .ne 14, 3) := by decide +kernel
theorem dX12_command_103 : decode cX12_command 103 = .ok (.aload_n 0, 1) := by decide +kernel
theorem dX12_command_104 : decode cX12_command 104 = .ok (.getfield 47, 3) := by decide +kernel
theorem dX12_command_107 : decode cX12_command 107 = .ok (.iconst 4, 1) := by decide +kernel
theorem dX12_command_108 : decode cX12_command 108 = .ok (.aload_n 0, 1) := by decide +kernel
theorem dX12_command_109 : decode cX12_command 109 = .ok (.iconst 3, 1) := by decide +kernel
theorem dX12_command_110 : decode cX12_command 110 = .ok (.invokevirtual 224, 3) := by decide +kernel
theorem dX12_command_113 : decode cX12_command 113 = .ok (.iastore, 1) := by decide +kernel
theorem dX12_command_114 : decode cX12_command 114 = .ok (.iload_n 1, 1) := by decide +kernel
theorem dX12_command_115 : decode cX12_command 115 = .ok (.iconst 2, 1) := by decide +kernel
theorem dX12_command_116 : decode cX12_command 116 = .ok (.if_icmp .eq 13, 3) := by decide +kernel
theorem dX12_command_119 : decode cX12_command 119 = .ok (.iload_n 1, 1) := by decide +kernel
theorem dX12_command_120 : decode cX12_command 120 = .ok (.iconst 4, 1) := by decide +kernel
theorem dX12_command_121 : decode cX12_command 121 = .ok (.if_icmp .eq 8, 3) := by decide +kernel
theorem dX12_command_124 : decode cX12_command 124 = .ok (.iload_n 1, 1) := by decide +kernel
theorem dX12_command_125 : decode cX12_command 125 = .ok (.iconst 5, 1) := by decide +kernel
theorem dX12_command_126 : decode cX12_command 126 = .ok (.if_icmp .ne 14, 3) := by decide +kernel
theorem dX12_command_129 : decode cX12_command 129 = .ok (.aload_n 0, 1) := by decide +kernel
theorem dX12_command_130 : decode cX12_command 130 = .ok (.getfield 47, 3) := by decide +kernel
theorem dX12_command_133 : decode cX12_command 133 = .ok (.iconst 1, 1) := by decide +kernel
theorem dX12_command_134 : decode cX12_command 134 = .ok (.aload_n 0, 1) := by decide +kernel
theorem dX12_command_135 : decode cX12_command 135 = .ok (.iconst 3, 1) := by decide +kernel
theorem dX12_command_136 : decode cX12_command 136 = .ok (.invokevirtual 224, 3) := by decide +kernel
theorem dX12_command_139 : decode cX12_command 139 = .ok (.iastore, 1) := by decide +kernel
theorem dX12_command_140 : decode cX12_command 140 = .ok (.iload_n 1, 1) := by decide +kernel
theorem dX12_command_141 : decode cX12_command 141 = .ok (.bipush 8, 2) := by decide +kernel
theorem dX12_command_143 : decode cX12_command 143 = .ok (.if_icmp .ne 13, 3) := by decide +kernel
theorem dX12_command_146 : decode cX12_command 146 = .ok (.aload_n 0, 1) := by decide +kernel
theorem dX12_command_147 : decode cX12_command 147 = .ok (.getfield 47, 3) := by decide +kernel
theorem dX12_command_150 : decode cX12_command 150 = .ok (.iconst 0, 1) := by decide +kernel
theorem dX12_command_151 : decode cX12_command 151 = .ok (.aload_n 0, 1) := by decide +kernel
theorem dX12_command_152 : decode cX12_command 152 = .ok (.invokevirtual 227, 3) := by decide +kernel
theorem dX12_command_155 : decode cX12_command 155 = .ok (.iastore, 1) := by decide +kernel
theorem dX12_command_156 : decode cX12_command 156 = .ok (.iload_n 1, 1) := by decide +kernel
theorem dX12_command_157 : decode cX12_command 157 = .ok (.bipush 9, 2) := by decide +kernel
theorem dX12_command_159 : decode cX12_command 159 = .ok (.if_icmp .ne 27, 3) := by decide +kernel
theorem dX12_command_162 : decode cX12_command 162 = .ok (.aload_n 0, 1) := by decide +kernel
theorem dX12_command_163 : decode cX12_command 163 = .ok (.getfield 47, 3) := by decide +kernel
theorem dX12_command_166 : decode cX12_command 166 = .ok (.iconst 0, 1) := by decide +kernel
theorem dX12_command_167 : decode cX12_command 167 = .ok (.aload_n 0, 1) := by decide +kernel
theorem dX12_command_168 : decode cX12_command 168 = .ok (.invokevirtual 212, 3) := by decide +kernel
theorem dX12_command_171 : decode cX12_command 171 = .ok (.bipush 32, 2) := by decide +kernel
theorem dX12_command_173 : decode cX12_command 173 = .ok (.if_icmp .ne 11, 3) := by decide +kernel
theorem dX12_command_176 : decode cX12_command 176 = .ok (.aload_n 0, 1) := by decide +kernel
theorem dX12_command_177 : decode cX12_command 177 = .ok (.iconst 3, 1) := by decide +kernel
theorem dX12_command_178 : decode cX12_command 178 = .ok (.invokevirtual 224, 3) := by decide +kernel
theorem dX12_command_181 : decode cX12_command 181 = .ok (.goto 4, 3) := by decide +kernel
theorem dX12_command_184 : decode cX12_command 184 = .ok (.iconst 1, 1) := by decide +kernel
theorem dX12_command_185 : decode cX12_command 185 = .ok (.iastore, 1) := by decide +kernel
theorem dX12_command_186 : decode cX12_command 186 = .ok (.aload_n 0, 1) := by decide +kernel
theorem dX12_command_187 : decode cX12_command 187 = .ok (.getfield 208, 3) := by decide +kernel
theorem dX12_command_190 : decode cX12_command 190 = .ok (.ifCond .ne 10, 3) := by decide +kernel
theorem dX12_command_193 : decode cX12_command 193 = .ok (.aload_n 0, 1) := by decide +kernel
theorem dX12_command_194 : decode cX12_command 194 = .ok (.getfield 230, 3) := by decide +kernel
theorem dX12_command_197 : decode cX12_command 197 = .ok (.ifCond .ne 4, 3) := by decide +kernel
theorem dX12_command_200 : decode cX12_command 200 = .ok (.return_, 1) := by decide +kernel
theorem dX12_command_201 : decode cX12_command 201 = .ok (.aload_n 0, 1) := by decide +kernel
theorem dX12_command_202 : decode cX12_command 202 = .ok (.iload_n 1, 1) := by decide +kernel
theorem dX12_command_203 : decode cX12_command 203 = .ok (.invokevirtual 233, 3) := by decide +kernel
theorem dX12_command_206 : decode cX12_command 206 = .ok (.istore_n 2, 1) := by decide +kernel
theorem dX12_command_207 : decode cX12_command 207 = .ok (.return_, 1) := by decide +kernel
set_option maxRecDepth 100000 in
set_option maxHeartbeats 4000000 in
theorem r_cmd_0 {l : Launch} {g : Nat → Nat} {M M1 : LH} {X : CX} (htr : l.stackTraces = false) {kd : Nat → Nat} {r m : Nat} {w : Nat → Nat} {ch ea fl sv bf tn he en ln wr dg : Int32} {v b4 sa pa fr th bs tx li lf to : Int32 → Int32} {s0 : Int32 × Bool} (hs0 : s0 = (he + nI (wrd 0).length, false)) (hWd : (mtW (sgS tx en he) 0 (wrd 0).length)) (hG : Good v) (e60 : en ≤ 60) (e0 : 0 ≤ s0.1) (e61 : s0.1 ≤ 60) (hC : Md kd r M1 m w 0 ch ea fl sv bf tn s0.1 en ln (bi s0.2) dg v b4 sa pa fr th bs tx li lf to) (hF : Frm kd r M M1) : V l g yX12_command cX12_command (none) [] 5 0 0 (RV (fun M9 => ∃ (lf9 to9 : Int32 → Int32) (e9 : Int32), ((cmE tx en he e9 ∧ Md kd r M9 m w 0 ch ea fl sv bf tn e9 en ln 1 dg v b4 sa pa fr th bs tx li lf9 to9) ∨ (∃ i ns, cmG tx en he i e9 ns ∧ (∀ j, j < arN i → to9 (nI j) = ns.getD j 0) ∧ ((dg = 0 ∧ Md kd r M9 m w 0 ch ea fl sv bf tn e9 en ln 0 dg v b4 sa pa fr th bs tx li lf9 to9) ∨ (¬ dg = 0 ∧ ((okJ v to9 i ∧ ∃ (v' : Int32 → Int32) (x9 b9 : Int32) (f9 h9 : Int32 → Int32), ddS v to9 i v' x9 ∧ Md kd r M9 m w 0 ch ea fl sv b9 tn e9 en ln 0 dg v' b4 sa pa f9 h9 bs tx li lf9 to9) ∨ (¬ okJ v to9 i ∧ ∃ (t9 : Int32) (f9 : Int32 → Int32), ¬ t9 = 0 ∧ Md kd r M9 m w t9 ch ea fl sv bf tn e9 en ln 0 dg v b4 sa pa f9 th bs tx li lf9 to9)))))) ∧ Frm kd r M M9) nX) X M1 0 0 13 [some (.ref m), some (.int 0), none] [] := by
  have hsf : s0.2 = false := by rw [hs0]
  obtain ⟨hMo, hw5, hw6, hw7, hw8, hw9, hw10, hw11, hw13, hw14, hw15, hw16, hw17, hw18, -⟩ := _root_.id hC
  refine v_iload_n dX12_command_13 rfl rfl ?_
  refine v_iconst (v := 1) dX12_command_14 (by decide) ?_
  refine v_bipush (v := (7)) dX12_command_15 (by decide) ?_
  refine k_X12_66 dX12_command_17 rfl (r_isIn htr 0 1 7) (Nat.le_of_ble_eq_true rfl) (by omega) (by omega) (Nat.le_of_ble_eq_true rfl) (fun r17 M9 h9 => ?_) (fun _ _ h9 => h9.elim)
  obtain ⟨rfl, e9⟩ := h9
  subst M9
  refine v_if_eq (tgt := 34) dX12_command_20 (by decide) (fun h20 => ?_) (fun h20 => ?_)
  · refine v_iload_n dX12_command_34 rfl rfl ?_
    refine v_iconst (v := 1) dX12_command_35 (by decide) ?_
    refine v_icmp_eq (tgt := 50) dX12_command_36 (by decide) (fun h36 => ?_) (fun h36 => ?_)
    · exact absurd h36 (by decide)
    · refine v_iload_n dX12_command_39 rfl rfl ?_
      refine v_iconst (v := 3) dX12_command_40 (by decide) ?_
      refine v_icmp_eq (tgt := 50) dX12_command_41 (by decide) (fun h41 => ?_) (fun h41 => ?_)
      · exact absurd h41 (by decide)
      · refine v_iload_n dX12_command_44 rfl rfl ?_
        refine v_bipush (v := (7)) dX12_command_45 (by decide) ?_
        refine v_icmp_ne (tgt := 61) dX12_command_47 (by decide) (fun h47 => ?_) (fun h47 => ?_)
        · refine v_iload_n dX12_command_61 rfl rfl ?_
          refine v_iconst (v := 1) dX12_command_62 (by decide) ?_
          refine v_icmp_eq (tgt := 71) dX12_command_63 (by decide) (fun h63 => ?_) (fun h63 => ?_)
          · exact absurd h63 (by decide)
          · refine v_iload_n dX12_command_66 rfl rfl ?_
            refine v_iconst (v := 3) dX12_command_67 (by decide) ?_
            refine v_icmp_ne (tgt := 82) dX12_command_68 (by decide) (fun h68 => ?_) (fun h68 => ?_)
            · refine v_iload_n dX12_command_82 rfl rfl ?_
              refine v_iconst (v := 3) dX12_command_83 (by decide) ?_
              refine v_icmp_ne (tgt := 98) dX12_command_84 (by decide) (fun h84 => ?_) (fun h84 => ?_)
              · refine v_iload_n dX12_command_98 rfl rfl ?_
                refine v_iconst (v := 3) dX12_command_99 (by decide) ?_
                refine v_icmp_ne (tgt := 114) dX12_command_100 (by decide) (fun h100 => ?_) (fun h100 => ?_)
                · refine v_iload_n dX12_command_114 rfl rfl ?_
                  refine v_iconst (v := 2) dX12_command_115 (by decide) ?_
                  refine v_icmp_eq (tgt := 129) dX12_command_116 (by decide) (fun h116 => ?_) (fun h116 => ?_)
                  · exact absurd h116 (by decide)
                  · refine v_iload_n dX12_command_119 rfl rfl ?_
                    refine v_iconst (v := 4) dX12_command_120 (by decide) ?_
                    refine v_icmp_eq (tgt := 129) dX12_command_121 (by decide) (fun h121 => ?_) (fun h121 => ?_)
                    · exact absurd h121 (by decide)
                    · refine v_iload_n dX12_command_124 rfl rfl ?_
                      refine v_iconst (v := 5) dX12_command_125 (by decide) ?_
                      refine v_icmp_ne (tgt := 140) dX12_command_126 (by decide) (fun h126 => ?_) (fun h126 => ?_)
                      · refine v_iload_n dX12_command_140 rfl rfl ?_
                        refine v_bipush (v := (8)) dX12_command_141 (by decide) ?_
                        refine v_icmp_ne (tgt := 156) dX12_command_143 (by decide) (fun h143 => ?_) (fun h143 => ?_)
                        · refine v_iload_n dX12_command_156 rfl rfl ?_
                          refine v_bipush (v := (9)) dX12_command_157 (by decide) ?_
                          refine v_icmp_ne (tgt := 186) dX12_command_159 (by decide) (fun h159 => ?_) (fun h159 => ?_)
                          · refine v_aload_n dX12_command_186 rfl rfl ?_
                            refine gf_X12_208 dX12_command_187 rfl hMo ?_
                            refine v_if_ne (tgt := 200) dX12_command_190 (by decide) (fun h190 => ?_) (fun h190 => ?_)
                            · have hb : s0.2 = true := bi_t _ h190
                              have hP9 : prs tx en (prt 0) s0 = (s0, []) := by rfl
                              rw [hb] at hC
                              exact v_vret dX12_command_200 rfl (by first | exact ⟨lf, _, s0.1, Or.inl ⟨Or.inr ⟨0, by decide, hWd, by rw [← hs0, hP9, ← hb]⟩, hC⟩, hF⟩ | exact ⟨lf, _, s0.1, Or.inr ⟨0, [], ⟨by decide, hWd, by rw [← hs0, hP9, ← hb]⟩, (fun j hj => match j, hj with
            | j + 0, h => absurd h (by show ¬ (j + 0 < 0); omega)), Or.inl ⟨h197, hC⟩⟩, hF⟩) (by omega) (by omega)
                            · have hb : s0.2 = false := bi_f _ h190
                              have hP9 : prs tx en (prt 0) s0 = (s0, []) := by rfl
                              rw [hb] at hC
                              refine v_aload_n dX12_command_193 rfl rfl ?_
                              refine gf_X12_230 dX12_command_194 rfl hMo ?_
                              refine v_if_ne (tgt := 201) dX12_command_197 (by decide) (fun h197 => ?_) (fun h197 => ?_)
                              · refine v_aload_n dX12_command_201 rfl rfl ?_
                                refine v_iload_n dX12_command_202 rfl rfl ?_
                                refine k_X12_233 dX12_command_203 rfl (r_does_0 htr hC hG) hMo (Nat.le_of_ble_eq_true rfl) (by omega) (by omega) (Nat.le_of_ble_eq_true rfl) (fun r203 M9 h9 => ?_) (fun _ _ h9 => h9.elim)
                                refine v_istore_2 dX12_command_206 ?_
                                exact v_vret dX12_command_207 rfl (by
      obtain ⟨hd9, hF9⟩ := h9
      have hF := Frm.tr hF hF9
      refine ⟨lf, to, s0.1, Or.inr ⟨0, [], ⟨by decide, hWd, by rw [← hs0, hP9, ← hb]⟩, (fun j hj => match j, hj with
            | j + 0, h => absurd h (by show ¬ (j + 0 < 0); omega)), Or.inr ⟨h197, ?_⟩⟩, hF⟩
      rcases hd9 with ⟨hv, hx, hC⟩ | ⟨hv, hx, hC⟩
      · exact Or.inl ⟨hv, _, _, _, _, _, ⟨rfl, hx⟩, hC⟩
      · exact Or.inr ⟨hv, _, _, fcI_ne _ _, hC⟩) (by omega) (by omega)
                              · exact v_vret dX12_command_200 rfl (by first | exact ⟨lf, _, s0.1, Or.inl ⟨Or.inr ⟨0, by decide, hWd, by rw [← hs0, hP9, ← hb]⟩, hC⟩, hF⟩ | exact ⟨lf, _, s0.1, Or.inr ⟨0, [], ⟨by decide, hWd, by rw [← hs0, hP9, ← hb]⟩, (fun j hj => match j, hj with
            | j + 0, h => absurd h (by show ¬ (j + 0 < 0); omega)), Or.inl ⟨h197, hC⟩⟩, hF⟩) (by omega) (by omega)
                          · exact absurd h159 (by decide)
                        · exact absurd h143 (by decide)
                      · exact absurd h126 (by decide)
                · exact absurd h100 (by decide)
              · exact absurd h84 (by decide)
            · exact absurd h68 (by decide)
        · exact absurd h47 (by decide)
  · exact absurd h20 (by decide)
set_option maxRecDepth 100000 in
set_option maxHeartbeats 4000000 in
theorem r_cmd_1 {l : Launch} {g : Nat → Nat} {M M1 : LH} {X : CX} (htr : l.stackTraces = false) {kd : Nat → Nat} {r m : Nat} {w : Nat → Nat} {ch ea fl sv bf tn he en ln wr dg : Int32} {v b4 sa pa fr th bs tx li lf to : Int32 → Int32} {s0 : Int32 × Bool} (hs0 : s0 = (he + nI (wrd 1).length, false)) (hWd : (mtW (sgS tx en he) 1 (wrd 1).length)) (hG : Good v) (e60 : en ≤ 60) (e0 : 0 ≤ s0.1) (e61 : s0.1 ≤ 60) (hC : Md kd r M1 m w 0 ch ea fl sv bf tn s0.1 en ln (bi s0.2) dg v b4 sa pa fr th bs tx li lf to) (hF : Frm kd r M M1) : V l g yX12_command cX12_command (none) [] 5 0 0 (RV (fun M9 => ∃ (lf9 to9 : Int32 → Int32) (e9 : Int32), ((cmE tx en he e9 ∧ Md kd r M9 m w 0 ch ea fl sv bf tn e9 en ln 1 dg v b4 sa pa fr th bs tx li lf9 to9) ∨ (∃ i ns, cmG tx en he i e9 ns ∧ (∀ j, j < arN i → to9 (nI j) = ns.getD j 0) ∧ ((dg = 0 ∧ Md kd r M9 m w 0 ch ea fl sv bf tn e9 en ln 0 dg v b4 sa pa fr th bs tx li lf9 to9) ∨ (¬ dg = 0 ∧ ((okJ v to9 i ∧ ∃ (v' : Int32 → Int32) (x9 b9 : Int32) (f9 h9 : Int32 → Int32), ddS v to9 i v' x9 ∧ Md kd r M9 m w 0 ch ea fl sv b9 tn e9 en ln 0 dg v' b4 sa pa f9 h9 bs tx li lf9 to9) ∨ (¬ okJ v to9 i ∧ ∃ (t9 : Int32) (f9 : Int32 → Int32), ¬ t9 = 0 ∧ Md kd r M9 m w t9 ch ea fl sv bf tn e9 en ln 0 dg v b4 sa pa f9 th bs tx li lf9 to9)))))) ∧ Frm kd r M M9) nX) X M1 0 0 13 [some (.ref m), some (.int 1), none] [] := by
  have hsf : s0.2 = false := by rw [hs0]
  obtain ⟨hMo, hw5, hw6, hw7, hw8, hw9, hw10, hw11, hw13, hw14, hw15, hw16, hw17, hw18, -⟩ := _root_.id hC
  refine v_iload_n dX12_command_13 rfl rfl ?_
  refine v_iconst (v := 1) dX12_command_14 (by decide) ?_
  refine v_bipush (v := (7)) dX12_command_15 (by decide) ?_
  refine k_X12_66 dX12_command_17 rfl (r_isIn htr 1 1 7) (Nat.le_of_ble_eq_true rfl) (by omega) (by omega) (Nat.le_of_ble_eq_true rfl) (fun r17 M9 h9 => ?_) (fun _ _ h9 => h9.elim)
  obtain ⟨rfl, e9⟩ := h9
  subst M9
  refine v_if_eq (tgt := 34) dX12_command_20 (by decide) (fun h20 => ?_) (fun h20 => ?_)
  · exact absurd h20 (by decide)
  · refine v_aload_n dX12_command_23 rfl rfl ?_
    refine gf_X12_47 dX12_command_24 rfl hMo ?_
    refine v_iconst (v := 0) dX12_command_27 (by decide) ?_
    refine v_aload_n dX12_command_28 rfl rfl ?_
    refine v_iconst (v := 1) dX12_command_29 (by decide) ?_
    refine k_X12_218 dX12_command_30 rfl (r_digits htr hC e0 e61 e60 (bi_01 _) (f0 := 1) (by decide)) hMo (Nat.le_of_ble_eq_true rfl) (by omega) (by omega) (Nat.le_of_ble_eq_true rfl) (fun r30 M9 h9 => ?_) (fun _ _ h9 => h9.elim)
    obtain ⟨h9, hF9⟩ := h9
    have hF := Frm.tr hF hF9
    obtain ⟨hx9, hC⟩ := dgU h9
    obtain ⟨e0, e61⟩ := pE_in (tx := tx) 0 e60 e0 e61
    obtain ⟨s1, x1, hq1⟩ : ∃ s x, pE tx en 0 s0 = (s, x) := ⟨_, _, rfl⟩
    rw [hq1] at hx9 hC e0 e61
    dsimp only at hx9 hC e0 e61
    have hx9 := hx9.symm
    subst hx9
    obtain ⟨hMo, hw5, hw6, hw7, hw8, hw9, hw10, hw11, hw13, hw14, hw15, hw16, hw17, hw18, -⟩ := _root_.id hC
    refine v_iast dX12_command_33 hw16 (by decide) (by decide) ?_
    refine V.md (Md.r16 hC) (Frm.tr hF (Frm.up (hC.kd_r16))) (fun M1 hC hF => ?_)
    obtain ⟨hMo, hw5, hw6, hw7, hw8, hw9, hw10, hw11, hw13, hw14, hw15, hw16, hw17, hw18, -⟩ := _root_.id hC
    refine v_iload_n dX12_command_34 rfl rfl ?_
    refine v_iconst (v := 1) dX12_command_35 (by decide) ?_
    refine v_icmp_eq (tgt := 50) dX12_command_36 (by decide) (fun h36 => ?_) (fun h36 => ?_)
    · refine v_aload_n dX12_command_50 rfl rfl ?_
      refine gf_X12_47 dX12_command_51 rfl hMo ?_
      refine v_iconst (v := 1) dX12_command_54 (by decide) ?_
      refine v_aload_n dX12_command_55 rfl rfl ?_
      refine v_iconst (v := 1) dX12_command_56 (by decide) ?_
      refine k_X12_218 dX12_command_57 rfl (r_digits htr hC e0 e61 e60 (bi_01 _) (f0 := 1) (by decide)) hMo (Nat.le_of_ble_eq_true rfl) (by omega) (by omega) (Nat.le_of_ble_eq_true rfl) (fun r57 M9 h9 => ?_) (fun _ _ h9 => h9.elim)
      obtain ⟨h9, hF9⟩ := h9
      have hF := Frm.tr hF hF9
      obtain ⟨hx9, hC⟩ := dgU h9
      obtain ⟨e0, e61⟩ := pE_in (tx := tx) 0 e60 e0 e61
      obtain ⟨s2, x2, hq2⟩ : ∃ s x, pE tx en 0 s1 = (s, x) := ⟨_, _, rfl⟩
      rw [hq2] at hx9 hC e0 e61
      dsimp only at hx9 hC e0 e61
      have hx9 := hx9.symm
      subst hx9
      obtain ⟨hMo, hw5, hw6, hw7, hw8, hw9, hw10, hw11, hw13, hw14, hw15, hw16, hw17, hw18, -⟩ := _root_.id hC
      refine v_iast dX12_command_60 hw16 (by decide) (by decide) ?_
      refine V.md (Md.r16 hC) (Frm.tr hF (Frm.up (hC.kd_r16))) (fun M1 hC hF => ?_)
      obtain ⟨hMo, hw5, hw6, hw7, hw8, hw9, hw10, hw11, hw13, hw14, hw15, hw16, hw17, hw18, -⟩ := _root_.id hC
      refine v_iload_n dX12_command_61 rfl rfl ?_
      refine v_iconst (v := 1) dX12_command_62 (by decide) ?_
      refine v_icmp_eq (tgt := 71) dX12_command_63 (by decide) (fun h63 => ?_) (fun h63 => ?_)
      · refine v_aload_n dX12_command_71 rfl rfl ?_
        refine gf_X12_47 dX12_command_72 rfl hMo ?_
        refine v_iconst (v := 2) dX12_command_75 (by decide) ?_
        refine v_aload_n dX12_command_76 rfl rfl ?_
        refine v_iconst (v := 3) dX12_command_77 (by decide) ?_
        refine k_X12_224 dX12_command_78 rfl (r_behind htr hC e0 e61 e60 (bi_01 _) (f0 := 3) (by decide)) hMo (Nat.le_of_ble_eq_true rfl) (by omega) (by omega) (Nat.le_of_ble_eq_true rfl) (fun r78 M9 h9 => ?_) (fun _ _ h9 => h9.elim)
        obtain ⟨h9, hF9⟩ := h9
        have hF := Frm.tr hF hF9
        obtain ⟨hx9, hC⟩ := bhU h9
        obtain ⟨e0, e61⟩ := pE_in (tx := tx) 1 e60 e0 e61
        obtain ⟨s3, x3, hq3⟩ : ∃ s x, pE tx en 1 s2 = (s, x) := ⟨_, _, rfl⟩
        rw [hq3] at hx9 hC e0 e61
        dsimp only at hx9 hC e0 e61
        have hx9 := hx9.symm
        subst hx9
        obtain ⟨hMo, hw5, hw6, hw7, hw8, hw9, hw10, hw11, hw13, hw14, hw15, hw16, hw17, hw18, -⟩ := _root_.id hC
        refine v_iast dX12_command_81 hw16 (by decide) (by decide) ?_
        refine V.md (Md.r16 hC) (Frm.tr hF (Frm.up (hC.kd_r16))) (fun M1 hC hF => ?_)
        obtain ⟨hMo, hw5, hw6, hw7, hw8, hw9, hw10, hw11, hw13, hw14, hw15, hw16, hw17, hw18, -⟩ := _root_.id hC
        refine v_iload_n dX12_command_82 rfl rfl ?_
        refine v_iconst (v := 3) dX12_command_83 (by decide) ?_
        refine v_icmp_ne (tgt := 98) dX12_command_84 (by decide) (fun h84 => ?_) (fun h84 => ?_)
        · refine v_iload_n dX12_command_98 rfl rfl ?_
          refine v_iconst (v := 3) dX12_command_99 (by decide) ?_
          refine v_icmp_ne (tgt := 114) dX12_command_100 (by decide) (fun h100 => ?_) (fun h100 => ?_)
          · refine v_iload_n dX12_command_114 rfl rfl ?_
            refine v_iconst (v := 2) dX12_command_115 (by decide) ?_
            refine v_icmp_eq (tgt := 129) dX12_command_116 (by decide) (fun h116 => ?_) (fun h116 => ?_)
            · exact absurd h116 (by decide)
            · refine v_iload_n dX12_command_119 rfl rfl ?_
              refine v_iconst (v := 4) dX12_command_120 (by decide) ?_
              refine v_icmp_eq (tgt := 129) dX12_command_121 (by decide) (fun h121 => ?_) (fun h121 => ?_)
              · exact absurd h121 (by decide)
              · refine v_iload_n dX12_command_124 rfl rfl ?_
                refine v_iconst (v := 5) dX12_command_125 (by decide) ?_
                refine v_icmp_ne (tgt := 140) dX12_command_126 (by decide) (fun h126 => ?_) (fun h126 => ?_)
                · refine v_iload_n dX12_command_140 rfl rfl ?_
                  refine v_bipush (v := (8)) dX12_command_141 (by decide) ?_
                  refine v_icmp_ne (tgt := 156) dX12_command_143 (by decide) (fun h143 => ?_) (fun h143 => ?_)
                  · refine v_iload_n dX12_command_156 rfl rfl ?_
                    refine v_bipush (v := (9)) dX12_command_157 (by decide) ?_
                    refine v_icmp_ne (tgt := 186) dX12_command_159 (by decide) (fun h159 => ?_) (fun h159 => ?_)
                    · refine v_aload_n dX12_command_186 rfl rfl ?_
                      refine gf_X12_208 dX12_command_187 rfl hMo ?_
                      refine v_if_ne (tgt := 200) dX12_command_190 (by decide) (fun h190 => ?_) (fun h190 => ?_)
                      · have hb : s3.2 = true := bi_t _ h190
                        have hP9 : prs tx en (prt 1) s0 = (s3, [x1, x2, x3]) := by simp only [show prt 1 = [0, 0, 1] from rfl, prs, hq1, hq2, hq3]
                        rw [hb] at hC
                        exact v_vret dX12_command_200 rfl (by first | exact ⟨lf, _, s3.1, Or.inl ⟨Or.inr ⟨1, by decide, hWd, by rw [← hs0, hP9, ← hb]⟩, hC⟩, hF⟩ | exact ⟨lf, _, s3.1, Or.inr ⟨1, [x1, x2, x3], ⟨by decide, hWd, by rw [← hs0, hP9, ← hb]⟩, (fun j hj => match j, hj with
            | 0, _ => (ui_n (by decide)).trans ((ui_n (by decide)).trans (ui_s))
            | 1, _ => (ui_n (by decide)).trans (ui_s)
            | 2, _ => ui_s
            | j + 3, h => absurd h (by show ¬ (j + 3 < 3); omega)), Or.inl ⟨h197, hC⟩⟩, hF⟩) (by omega) (by omega)
                      · have hb : s3.2 = false := bi_f _ h190
                        have hP9 : prs tx en (prt 1) s0 = (s3, [x1, x2, x3]) := by simp only [show prt 1 = [0, 0, 1] from rfl, prs, hq1, hq2, hq3]
                        rw [hb] at hC
                        refine v_aload_n dX12_command_193 rfl rfl ?_
                        refine gf_X12_230 dX12_command_194 rfl hMo ?_
                        refine v_if_ne (tgt := 201) dX12_command_197 (by decide) (fun h197 => ?_) (fun h197 => ?_)
                        · refine v_aload_n dX12_command_201 rfl rfl ?_
                          refine v_iload_n dX12_command_202 rfl rfl ?_
                          refine k_X12_233 dX12_command_203 rfl (r_does_1 htr hC hG) hMo (Nat.le_of_ble_eq_true rfl) (by omega) (by omega) (Nat.le_of_ble_eq_true rfl) (fun r203 M9 h9 => ?_) (fun _ _ h9 => h9.elim)
                          refine v_istore_2 dX12_command_206 ?_
                          exact v_vret dX12_command_207 rfl (by
      obtain ⟨hd9, hF9⟩ := h9
      have hF := Frm.tr hF hF9
      refine ⟨lf, (ui (ui (ui to 0 x1) 1 x2) 2 x3), s3.1, Or.inr ⟨1, [x1, x2, x3], ⟨by decide, hWd, by rw [← hs0, hP9, ← hb]⟩, (fun j hj => match j, hj with
            | 0, _ => (ui_n (by decide)).trans ((ui_n (by decide)).trans (ui_s))
            | 1, _ => (ui_n (by decide)).trans (ui_s)
            | 2, _ => ui_s
            | j + 3, h => absurd h (by show ¬ (j + 3 < 3); omega)), Or.inr ⟨h197, ?_⟩⟩, hF⟩
      rcases hd9 with ⟨hv, hx, hC⟩ | ⟨hv, hx, hC⟩
      · exact Or.inl ⟨hv, _, _, _, _, _, ⟨rfl, hx⟩, hC⟩
      · exact Or.inr ⟨hv, _, _, fcI_ne _ _, hC⟩) (by omega) (by omega)
                        · exact v_vret dX12_command_200 rfl (by first | exact ⟨lf, _, s3.1, Or.inl ⟨Or.inr ⟨1, by decide, hWd, by rw [← hs0, hP9, ← hb]⟩, hC⟩, hF⟩ | exact ⟨lf, _, s3.1, Or.inr ⟨1, [x1, x2, x3], ⟨by decide, hWd, by rw [← hs0, hP9, ← hb]⟩, (fun j hj => match j, hj with
            | 0, _ => (ui_n (by decide)).trans ((ui_n (by decide)).trans (ui_s))
            | 1, _ => (ui_n (by decide)).trans (ui_s)
            | 2, _ => ui_s
            | j + 3, h => absurd h (by show ¬ (j + 3 < 3); omega)), Or.inl ⟨h197, hC⟩⟩, hF⟩) (by omega) (by omega)
                    · exact absurd h159 (by decide)
                  · exact absurd h143 (by decide)
                · exact absurd h126 (by decide)
          · exact absurd h100 (by decide)
        · exact absurd h84 (by decide)
      · exact absurd h63 (by decide)
    · exact absurd h36 (by decide)
set_option maxRecDepth 100000 in
set_option maxHeartbeats 4000000 in
theorem r_cmd_2 {l : Launch} {g : Nat → Nat} {M M1 : LH} {X : CX} (htr : l.stackTraces = false) {kd : Nat → Nat} {r m : Nat} {w : Nat → Nat} {ch ea fl sv bf tn he en ln wr dg : Int32} {v b4 sa pa fr th bs tx li lf to : Int32 → Int32} {s0 : Int32 × Bool} (hs0 : s0 = (he + nI (wrd 2).length, false)) (hWd : (mtW (sgS tx en he) 2 (wrd 2).length)) (hG : Good v) (e60 : en ≤ 60) (e0 : 0 ≤ s0.1) (e61 : s0.1 ≤ 60) (hC : Md kd r M1 m w 0 ch ea fl sv bf tn s0.1 en ln (bi s0.2) dg v b4 sa pa fr th bs tx li lf to) (hF : Frm kd r M M1) : V l g yX12_command cX12_command (none) [] 5 0 0 (RV (fun M9 => ∃ (lf9 to9 : Int32 → Int32) (e9 : Int32), ((cmE tx en he e9 ∧ Md kd r M9 m w 0 ch ea fl sv bf tn e9 en ln 1 dg v b4 sa pa fr th bs tx li lf9 to9) ∨ (∃ i ns, cmG tx en he i e9 ns ∧ (∀ j, j < arN i → to9 (nI j) = ns.getD j 0) ∧ ((dg = 0 ∧ Md kd r M9 m w 0 ch ea fl sv bf tn e9 en ln 0 dg v b4 sa pa fr th bs tx li lf9 to9) ∨ (¬ dg = 0 ∧ ((okJ v to9 i ∧ ∃ (v' : Int32 → Int32) (x9 b9 : Int32) (f9 h9 : Int32 → Int32), ddS v to9 i v' x9 ∧ Md kd r M9 m w 0 ch ea fl sv b9 tn e9 en ln 0 dg v' b4 sa pa f9 h9 bs tx li lf9 to9) ∨ (¬ okJ v to9 i ∧ ∃ (t9 : Int32) (f9 : Int32 → Int32), ¬ t9 = 0 ∧ Md kd r M9 m w t9 ch ea fl sv bf tn e9 en ln 0 dg v b4 sa pa f9 th bs tx li lf9 to9)))))) ∧ Frm kd r M M9) nX) X M1 0 0 13 [some (.ref m), some (.int 2), none] [] := by
  have hsf : s0.2 = false := by rw [hs0]
  obtain ⟨hMo, hw5, hw6, hw7, hw8, hw9, hw10, hw11, hw13, hw14, hw15, hw16, hw17, hw18, -⟩ := _root_.id hC
  refine v_iload_n dX12_command_13 rfl rfl ?_
  refine v_iconst (v := 1) dX12_command_14 (by decide) ?_
  refine v_bipush (v := (7)) dX12_command_15 (by decide) ?_
  refine k_X12_66 dX12_command_17 rfl (r_isIn htr 2 1 7) (Nat.le_of_ble_eq_true rfl) (by omega) (by omega) (Nat.le_of_ble_eq_true rfl) (fun r17 M9 h9 => ?_) (fun _ _ h9 => h9.elim)
  obtain ⟨rfl, e9⟩ := h9
  subst M9
  refine v_if_eq (tgt := 34) dX12_command_20 (by decide) (fun h20 => ?_) (fun h20 => ?_)
  · exact absurd h20 (by decide)
  · refine v_aload_n dX12_command_23 rfl rfl ?_
    refine gf_X12_47 dX12_command_24 rfl hMo ?_
    refine v_iconst (v := 0) dX12_command_27 (by decide) ?_
    refine v_aload_n dX12_command_28 rfl rfl ?_
    refine v_iconst (v := 1) dX12_command_29 (by decide) ?_
    refine k_X12_218 dX12_command_30 rfl (r_digits htr hC e0 e61 e60 (bi_01 _) (f0 := 1) (by decide)) hMo (Nat.le_of_ble_eq_true rfl) (by omega) (by omega) (Nat.le_of_ble_eq_true rfl) (fun r30 M9 h9 => ?_) (fun _ _ h9 => h9.elim)
    obtain ⟨h9, hF9⟩ := h9
    have hF := Frm.tr hF hF9
    obtain ⟨hx9, hC⟩ := dgU h9
    obtain ⟨e0, e61⟩ := pE_in (tx := tx) 0 e60 e0 e61
    obtain ⟨s1, x1, hq1⟩ : ∃ s x, pE tx en 0 s0 = (s, x) := ⟨_, _, rfl⟩
    rw [hq1] at hx9 hC e0 e61
    dsimp only at hx9 hC e0 e61
    have hx9 := hx9.symm
    subst hx9
    obtain ⟨hMo, hw5, hw6, hw7, hw8, hw9, hw10, hw11, hw13, hw14, hw15, hw16, hw17, hw18, -⟩ := _root_.id hC
    refine v_iast dX12_command_33 hw16 (by decide) (by decide) ?_
    refine V.md (Md.r16 hC) (Frm.tr hF (Frm.up (hC.kd_r16))) (fun M1 hC hF => ?_)
    obtain ⟨hMo, hw5, hw6, hw7, hw8, hw9, hw10, hw11, hw13, hw14, hw15, hw16, hw17, hw18, -⟩ := _root_.id hC
    refine v_iload_n dX12_command_34 rfl rfl ?_
    refine v_iconst (v := 1) dX12_command_35 (by decide) ?_
    refine v_icmp_eq (tgt := 50) dX12_command_36 (by decide) (fun h36 => ?_) (fun h36 => ?_)
    · exact absurd h36 (by decide)
    · refine v_iload_n dX12_command_39 rfl rfl ?_
      refine v_iconst (v := 3) dX12_command_40 (by decide) ?_
      refine v_icmp_eq (tgt := 50) dX12_command_41 (by decide) (fun h41 => ?_) (fun h41 => ?_)
      · exact absurd h41 (by decide)
      · refine v_iload_n dX12_command_44 rfl rfl ?_
        refine v_bipush (v := (7)) dX12_command_45 (by decide) ?_
        refine v_icmp_ne (tgt := 61) dX12_command_47 (by decide) (fun h47 => ?_) (fun h47 => ?_)
        · refine v_iload_n dX12_command_61 rfl rfl ?_
          refine v_iconst (v := 1) dX12_command_62 (by decide) ?_
          refine v_icmp_eq (tgt := 71) dX12_command_63 (by decide) (fun h63 => ?_) (fun h63 => ?_)
          · exact absurd h63 (by decide)
          · refine v_iload_n dX12_command_66 rfl rfl ?_
            refine v_iconst (v := 3) dX12_command_67 (by decide) ?_
            refine v_icmp_ne (tgt := 82) dX12_command_68 (by decide) (fun h68 => ?_) (fun h68 => ?_)
            · refine v_iload_n dX12_command_82 rfl rfl ?_
              refine v_iconst (v := 3) dX12_command_83 (by decide) ?_
              refine v_icmp_ne (tgt := 98) dX12_command_84 (by decide) (fun h84 => ?_) (fun h84 => ?_)
              · refine v_iload_n dX12_command_98 rfl rfl ?_
                refine v_iconst (v := 3) dX12_command_99 (by decide) ?_
                refine v_icmp_ne (tgt := 114) dX12_command_100 (by decide) (fun h100 => ?_) (fun h100 => ?_)
                · refine v_iload_n dX12_command_114 rfl rfl ?_
                  refine v_iconst (v := 2) dX12_command_115 (by decide) ?_
                  refine v_icmp_eq (tgt := 129) dX12_command_116 (by decide) (fun h116 => ?_) (fun h116 => ?_)
                  · refine v_aload_n dX12_command_129 rfl rfl ?_
                    refine gf_X12_47 dX12_command_130 rfl hMo ?_
                    refine v_iconst (v := 1) dX12_command_133 (by decide) ?_
                    refine v_aload_n dX12_command_134 rfl rfl ?_
                    refine v_iconst (v := 3) dX12_command_135 (by decide) ?_
                    refine k_X12_224 dX12_command_136 rfl (r_behind htr hC e0 e61 e60 (bi_01 _) (f0 := 3) (by decide)) hMo (Nat.le_of_ble_eq_true rfl) (by omega) (by omega) (Nat.le_of_ble_eq_true rfl) (fun r136 M9 h9 => ?_) (fun _ _ h9 => h9.elim)
                    obtain ⟨h9, hF9⟩ := h9
                    have hF := Frm.tr hF hF9
                    obtain ⟨hx9, hC⟩ := bhU h9
                    obtain ⟨e0, e61⟩ := pE_in (tx := tx) 1 e60 e0 e61
                    obtain ⟨s2, x2, hq2⟩ : ∃ s x, pE tx en 1 s1 = (s, x) := ⟨_, _, rfl⟩
                    rw [hq2] at hx9 hC e0 e61
                    dsimp only at hx9 hC e0 e61
                    have hx9 := hx9.symm
                    subst hx9
                    obtain ⟨hMo, hw5, hw6, hw7, hw8, hw9, hw10, hw11, hw13, hw14, hw15, hw16, hw17, hw18, -⟩ := _root_.id hC
                    refine v_iast dX12_command_139 hw16 (by decide) (by decide) ?_
                    refine V.md (Md.r16 hC) (Frm.tr hF (Frm.up (hC.kd_r16))) (fun M1 hC hF => ?_)
                    obtain ⟨hMo, hw5, hw6, hw7, hw8, hw9, hw10, hw11, hw13, hw14, hw15, hw16, hw17, hw18, -⟩ := _root_.id hC
                    refine v_iload_n dX12_command_140 rfl rfl ?_
                    refine v_bipush (v := (8)) dX12_command_141 (by decide) ?_
                    refine v_icmp_ne (tgt := 156) dX12_command_143 (by decide) (fun h143 => ?_) (fun h143 => ?_)
                    · refine v_iload_n dX12_command_156 rfl rfl ?_
                      refine v_bipush (v := (9)) dX12_command_157 (by decide) ?_
                      refine v_icmp_ne (tgt := 186) dX12_command_159 (by decide) (fun h159 => ?_) (fun h159 => ?_)
                      · refine v_aload_n dX12_command_186 rfl rfl ?_
                        refine gf_X12_208 dX12_command_187 rfl hMo ?_
                        refine v_if_ne (tgt := 200) dX12_command_190 (by decide) (fun h190 => ?_) (fun h190 => ?_)
                        · have hb : s2.2 = true := bi_t _ h190
                          have hP9 : prs tx en (prt 2) s0 = (s2, [x1, x2]) := by simp only [show prt 2 = [0, 1] from rfl, prs, hq1, hq2]
                          rw [hb] at hC
                          exact v_vret dX12_command_200 rfl (by first | exact ⟨lf, _, s2.1, Or.inl ⟨Or.inr ⟨2, by decide, hWd, by rw [← hs0, hP9, ← hb]⟩, hC⟩, hF⟩ | exact ⟨lf, _, s2.1, Or.inr ⟨2, [x1, x2], ⟨by decide, hWd, by rw [← hs0, hP9, ← hb]⟩, (fun j hj => match j, hj with
            | 0, _ => (ui_n (by decide)).trans (ui_s)
            | 1, _ => ui_s
            | j + 2, h => absurd h (by show ¬ (j + 2 < 2); omega)), Or.inl ⟨h197, hC⟩⟩, hF⟩) (by omega) (by omega)
                        · have hb : s2.2 = false := bi_f _ h190
                          have hP9 : prs tx en (prt 2) s0 = (s2, [x1, x2]) := by simp only [show prt 2 = [0, 1] from rfl, prs, hq1, hq2]
                          rw [hb] at hC
                          refine v_aload_n dX12_command_193 rfl rfl ?_
                          refine gf_X12_230 dX12_command_194 rfl hMo ?_
                          refine v_if_ne (tgt := 201) dX12_command_197 (by decide) (fun h197 => ?_) (fun h197 => ?_)
                          · refine v_aload_n dX12_command_201 rfl rfl ?_
                            refine v_iload_n dX12_command_202 rfl rfl ?_
                            refine k_X12_233 dX12_command_203 rfl (r_does_2 htr hC hG) hMo (Nat.le_of_ble_eq_true rfl) (by omega) (by omega) (Nat.le_of_ble_eq_true rfl) (fun r203 M9 h9 => ?_) (fun _ _ h9 => h9.elim)
                            refine v_istore_2 dX12_command_206 ?_
                            exact v_vret dX12_command_207 rfl (by
      obtain ⟨hd9, hF9⟩ := h9
      have hF := Frm.tr hF hF9
      refine ⟨lf, (ui (ui to 0 x1) 1 x2), s2.1, Or.inr ⟨2, [x1, x2], ⟨by decide, hWd, by rw [← hs0, hP9, ← hb]⟩, (fun j hj => match j, hj with
            | 0, _ => (ui_n (by decide)).trans (ui_s)
            | 1, _ => ui_s
            | j + 2, h => absurd h (by show ¬ (j + 2 < 2); omega)), Or.inr ⟨h197, ?_⟩⟩, hF⟩
      rcases hd9 with ⟨hv, hx, hC⟩ | ⟨hv, hx, hC⟩
      · exact Or.inl ⟨hv, _, _, _, _, _, ⟨rfl, hx⟩, hC⟩
      · exact Or.inr ⟨hv, _, _, fcI_ne _ _, hC⟩) (by omega) (by omega)
                          · exact v_vret dX12_command_200 rfl (by first | exact ⟨lf, _, s2.1, Or.inl ⟨Or.inr ⟨2, by decide, hWd, by rw [← hs0, hP9, ← hb]⟩, hC⟩, hF⟩ | exact ⟨lf, _, s2.1, Or.inr ⟨2, [x1, x2], ⟨by decide, hWd, by rw [← hs0, hP9, ← hb]⟩, (fun j hj => match j, hj with
            | 0, _ => (ui_n (by decide)).trans (ui_s)
            | 1, _ => ui_s
            | j + 2, h => absurd h (by show ¬ (j + 2 < 2); omega)), Or.inl ⟨h197, hC⟩⟩, hF⟩) (by omega) (by omega)
                      · exact absurd h159 (by decide)
                    · exact absurd h143 (by decide)
                  · exact absurd h116 (by decide)
                · exact absurd h100 (by decide)
              · exact absurd h84 (by decide)
            · exact absurd h68 (by decide)
        · exact absurd h47 (by decide)
set_option maxRecDepth 100000 in
set_option maxHeartbeats 4000000 in
theorem r_cmd_3 {l : Launch} {g : Nat → Nat} {M M1 : LH} {X : CX} (htr : l.stackTraces = false) {kd : Nat → Nat} {r m : Nat} {w : Nat → Nat} {ch ea fl sv bf tn he en ln wr dg : Int32} {v b4 sa pa fr th bs tx li lf to : Int32 → Int32} {s0 : Int32 × Bool} (hs0 : s0 = (he + nI (wrd 3).length, false)) (hWd : (mtW (sgS tx en he) 3 (wrd 3).length)) (hG : Good v) (e60 : en ≤ 60) (e0 : 0 ≤ s0.1) (e61 : s0.1 ≤ 60) (hC : Md kd r M1 m w 0 ch ea fl sv bf tn s0.1 en ln (bi s0.2) dg v b4 sa pa fr th bs tx li lf to) (hF : Frm kd r M M1) : V l g yX12_command cX12_command (none) [] 5 0 0 (RV (fun M9 => ∃ (lf9 to9 : Int32 → Int32) (e9 : Int32), ((cmE tx en he e9 ∧ Md kd r M9 m w 0 ch ea fl sv bf tn e9 en ln 1 dg v b4 sa pa fr th bs tx li lf9 to9) ∨ (∃ i ns, cmG tx en he i e9 ns ∧ (∀ j, j < arN i → to9 (nI j) = ns.getD j 0) ∧ ((dg = 0 ∧ Md kd r M9 m w 0 ch ea fl sv bf tn e9 en ln 0 dg v b4 sa pa fr th bs tx li lf9 to9) ∨ (¬ dg = 0 ∧ ((okJ v to9 i ∧ ∃ (v' : Int32 → Int32) (x9 b9 : Int32) (f9 h9 : Int32 → Int32), ddS v to9 i v' x9 ∧ Md kd r M9 m w 0 ch ea fl sv b9 tn e9 en ln 0 dg v' b4 sa pa f9 h9 bs tx li lf9 to9) ∨ (¬ okJ v to9 i ∧ ∃ (t9 : Int32) (f9 : Int32 → Int32), ¬ t9 = 0 ∧ Md kd r M9 m w t9 ch ea fl sv bf tn e9 en ln 0 dg v b4 sa pa f9 th bs tx li lf9 to9)))))) ∧ Frm kd r M M9) nX) X M1 0 0 13 [some (.ref m), some (.int 3), none] [] := by
  have hsf : s0.2 = false := by rw [hs0]
  obtain ⟨hMo, hw5, hw6, hw7, hw8, hw9, hw10, hw11, hw13, hw14, hw15, hw16, hw17, hw18, -⟩ := _root_.id hC
  refine v_iload_n dX12_command_13 rfl rfl ?_
  refine v_iconst (v := 1) dX12_command_14 (by decide) ?_
  refine v_bipush (v := (7)) dX12_command_15 (by decide) ?_
  refine k_X12_66 dX12_command_17 rfl (r_isIn htr 3 1 7) (Nat.le_of_ble_eq_true rfl) (by omega) (by omega) (Nat.le_of_ble_eq_true rfl) (fun r17 M9 h9 => ?_) (fun _ _ h9 => h9.elim)
  obtain ⟨rfl, e9⟩ := h9
  subst M9
  refine v_if_eq (tgt := 34) dX12_command_20 (by decide) (fun h20 => ?_) (fun h20 => ?_)
  · exact absurd h20 (by decide)
  · refine v_aload_n dX12_command_23 rfl rfl ?_
    refine gf_X12_47 dX12_command_24 rfl hMo ?_
    refine v_iconst (v := 0) dX12_command_27 (by decide) ?_
    refine v_aload_n dX12_command_28 rfl rfl ?_
    refine v_iconst (v := 1) dX12_command_29 (by decide) ?_
    refine k_X12_218 dX12_command_30 rfl (r_digits htr hC e0 e61 e60 (bi_01 _) (f0 := 1) (by decide)) hMo (Nat.le_of_ble_eq_true rfl) (by omega) (by omega) (Nat.le_of_ble_eq_true rfl) (fun r30 M9 h9 => ?_) (fun _ _ h9 => h9.elim)
    obtain ⟨h9, hF9⟩ := h9
    have hF := Frm.tr hF hF9
    obtain ⟨hx9, hC⟩ := dgU h9
    obtain ⟨e0, e61⟩ := pE_in (tx := tx) 0 e60 e0 e61
    obtain ⟨s1, x1, hq1⟩ : ∃ s x, pE tx en 0 s0 = (s, x) := ⟨_, _, rfl⟩
    rw [hq1] at hx9 hC e0 e61
    dsimp only at hx9 hC e0 e61
    have hx9 := hx9.symm
    subst hx9
    obtain ⟨hMo, hw5, hw6, hw7, hw8, hw9, hw10, hw11, hw13, hw14, hw15, hw16, hw17, hw18, -⟩ := _root_.id hC
    refine v_iast dX12_command_33 hw16 (by decide) (by decide) ?_
    refine V.md (Md.r16 hC) (Frm.tr hF (Frm.up (hC.kd_r16))) (fun M1 hC hF => ?_)
    obtain ⟨hMo, hw5, hw6, hw7, hw8, hw9, hw10, hw11, hw13, hw14, hw15, hw16, hw17, hw18, -⟩ := _root_.id hC
    refine v_iload_n dX12_command_34 rfl rfl ?_
    refine v_iconst (v := 1) dX12_command_35 (by decide) ?_
    refine v_icmp_eq (tgt := 50) dX12_command_36 (by decide) (fun h36 => ?_) (fun h36 => ?_)
    · exact absurd h36 (by decide)
    · refine v_iload_n dX12_command_39 rfl rfl ?_
      refine v_iconst (v := 3) dX12_command_40 (by decide) ?_
      refine v_icmp_eq (tgt := 50) dX12_command_41 (by decide) (fun h41 => ?_) (fun h41 => ?_)
      · refine v_aload_n dX12_command_50 rfl rfl ?_
        refine gf_X12_47 dX12_command_51 rfl hMo ?_
        refine v_iconst (v := 1) dX12_command_54 (by decide) ?_
        refine v_aload_n dX12_command_55 rfl rfl ?_
        refine v_iconst (v := 1) dX12_command_56 (by decide) ?_
        refine k_X12_218 dX12_command_57 rfl (r_digits htr hC e0 e61 e60 (bi_01 _) (f0 := 1) (by decide)) hMo (Nat.le_of_ble_eq_true rfl) (by omega) (by omega) (Nat.le_of_ble_eq_true rfl) (fun r57 M9 h9 => ?_) (fun _ _ h9 => h9.elim)
        obtain ⟨h9, hF9⟩ := h9
        have hF := Frm.tr hF hF9
        obtain ⟨hx9, hC⟩ := dgU h9
        obtain ⟨e0, e61⟩ := pE_in (tx := tx) 0 e60 e0 e61
        obtain ⟨s2, x2, hq2⟩ : ∃ s x, pE tx en 0 s1 = (s, x) := ⟨_, _, rfl⟩
        rw [hq2] at hx9 hC e0 e61
        dsimp only at hx9 hC e0 e61
        have hx9 := hx9.symm
        subst hx9
        obtain ⟨hMo, hw5, hw6, hw7, hw8, hw9, hw10, hw11, hw13, hw14, hw15, hw16, hw17, hw18, -⟩ := _root_.id hC
        refine v_iast dX12_command_60 hw16 (by decide) (by decide) ?_
        refine V.md (Md.r16 hC) (Frm.tr hF (Frm.up (hC.kd_r16))) (fun M1 hC hF => ?_)
        obtain ⟨hMo, hw5, hw6, hw7, hw8, hw9, hw10, hw11, hw13, hw14, hw15, hw16, hw17, hw18, -⟩ := _root_.id hC
        refine v_iload_n dX12_command_61 rfl rfl ?_
        refine v_iconst (v := 1) dX12_command_62 (by decide) ?_
        refine v_icmp_eq (tgt := 71) dX12_command_63 (by decide) (fun h63 => ?_) (fun h63 => ?_)
        · exact absurd h63 (by decide)
        · refine v_iload_n dX12_command_66 rfl rfl ?_
          refine v_iconst (v := 3) dX12_command_67 (by decide) ?_
          refine v_icmp_ne (tgt := 82) dX12_command_68 (by decide) (fun h68 => ?_) (fun h68 => ?_)
          · exact absurd h68 (by decide)
          · refine v_aload_n dX12_command_71 rfl rfl ?_
            refine gf_X12_47 dX12_command_72 rfl hMo ?_
            refine v_iconst (v := 2) dX12_command_75 (by decide) ?_
            refine v_aload_n dX12_command_76 rfl rfl ?_
            refine v_iconst (v := 3) dX12_command_77 (by decide) ?_
            refine k_X12_224 dX12_command_78 rfl (r_behind htr hC e0 e61 e60 (bi_01 _) (f0 := 3) (by decide)) hMo (Nat.le_of_ble_eq_true rfl) (by omega) (by omega) (Nat.le_of_ble_eq_true rfl) (fun r78 M9 h9 => ?_) (fun _ _ h9 => h9.elim)
            obtain ⟨h9, hF9⟩ := h9
            have hF := Frm.tr hF hF9
            obtain ⟨hx9, hC⟩ := bhU h9
            obtain ⟨e0, e61⟩ := pE_in (tx := tx) 1 e60 e0 e61
            obtain ⟨s3, x3, hq3⟩ : ∃ s x, pE tx en 1 s2 = (s, x) := ⟨_, _, rfl⟩
            rw [hq3] at hx9 hC e0 e61
            dsimp only at hx9 hC e0 e61
            have hx9 := hx9.symm
            subst hx9
            obtain ⟨hMo, hw5, hw6, hw7, hw8, hw9, hw10, hw11, hw13, hw14, hw15, hw16, hw17, hw18, -⟩ := _root_.id hC
            refine v_iast dX12_command_81 hw16 (by decide) (by decide) ?_
            refine V.md (Md.r16 hC) (Frm.tr hF (Frm.up (hC.kd_r16))) (fun M1 hC hF => ?_)
            obtain ⟨hMo, hw5, hw6, hw7, hw8, hw9, hw10, hw11, hw13, hw14, hw15, hw16, hw17, hw18, -⟩ := _root_.id hC
            refine v_iload_n dX12_command_82 rfl rfl ?_
            refine v_iconst (v := 3) dX12_command_83 (by decide) ?_
            refine v_icmp_ne (tgt := 98) dX12_command_84 (by decide) (fun h84 => ?_) (fun h84 => ?_)
            · exact absurd h84 (by decide)
            · refine v_aload_n dX12_command_87 rfl rfl ?_
              refine gf_X12_47 dX12_command_88 rfl hMo ?_
              refine v_iconst (v := 3) dX12_command_91 (by decide) ?_
              refine v_aload_n dX12_command_92 rfl rfl ?_
              refine v_iconst (v := 3) dX12_command_93 (by decide) ?_
              refine k_X12_224 dX12_command_94 rfl (r_behind htr hC e0 e61 e60 (bi_01 _) (f0 := 3) (by decide)) hMo (Nat.le_of_ble_eq_true rfl) (by omega) (by omega) (Nat.le_of_ble_eq_true rfl) (fun r94 M9 h9 => ?_) (fun _ _ h9 => h9.elim)
              obtain ⟨h9, hF9⟩ := h9
              have hF := Frm.tr hF hF9
              obtain ⟨hx9, hC⟩ := bhU h9
              obtain ⟨e0, e61⟩ := pE_in (tx := tx) 1 e60 e0 e61
              obtain ⟨s4, x4, hq4⟩ : ∃ s x, pE tx en 1 s3 = (s, x) := ⟨_, _, rfl⟩
              rw [hq4] at hx9 hC e0 e61
              dsimp only at hx9 hC e0 e61
              have hx9 := hx9.symm
              subst hx9
              obtain ⟨hMo, hw5, hw6, hw7, hw8, hw9, hw10, hw11, hw13, hw14, hw15, hw16, hw17, hw18, -⟩ := _root_.id hC
              refine v_iast dX12_command_97 hw16 (by decide) (by decide) ?_
              refine V.md (Md.r16 hC) (Frm.tr hF (Frm.up (hC.kd_r16))) (fun M1 hC hF => ?_)
              obtain ⟨hMo, hw5, hw6, hw7, hw8, hw9, hw10, hw11, hw13, hw14, hw15, hw16, hw17, hw18, -⟩ := _root_.id hC
              refine v_iload_n dX12_command_98 rfl rfl ?_
              refine v_iconst (v := 3) dX12_command_99 (by decide) ?_
              refine v_icmp_ne (tgt := 114) dX12_command_100 (by decide) (fun h100 => ?_) (fun h100 => ?_)
              · exact absurd h100 (by decide)
              · refine v_aload_n dX12_command_103 rfl rfl ?_
                refine gf_X12_47 dX12_command_104 rfl hMo ?_
                refine v_iconst (v := 4) dX12_command_107 (by decide) ?_
                refine v_aload_n dX12_command_108 rfl rfl ?_
                refine v_iconst (v := 3) dX12_command_109 (by decide) ?_
                refine k_X12_224 dX12_command_110 rfl (r_behind htr hC e0 e61 e60 (bi_01 _) (f0 := 3) (by decide)) hMo (Nat.le_of_ble_eq_true rfl) (by omega) (by omega) (Nat.le_of_ble_eq_true rfl) (fun r110 M9 h9 => ?_) (fun _ _ h9 => h9.elim)
                obtain ⟨h9, hF9⟩ := h9
                have hF := Frm.tr hF hF9
                obtain ⟨hx9, hC⟩ := bhU h9
                obtain ⟨e0, e61⟩ := pE_in (tx := tx) 1 e60 e0 e61
                obtain ⟨s5, x5, hq5⟩ : ∃ s x, pE tx en 1 s4 = (s, x) := ⟨_, _, rfl⟩
                rw [hq5] at hx9 hC e0 e61
                dsimp only at hx9 hC e0 e61
                have hx9 := hx9.symm
                subst hx9
                obtain ⟨hMo, hw5, hw6, hw7, hw8, hw9, hw10, hw11, hw13, hw14, hw15, hw16, hw17, hw18, -⟩ := _root_.id hC
                refine v_iast dX12_command_113 hw16 (by decide) (by decide) ?_
                refine V.md (Md.r16 hC) (Frm.tr hF (Frm.up (hC.kd_r16))) (fun M1 hC hF => ?_)
                obtain ⟨hMo, hw5, hw6, hw7, hw8, hw9, hw10, hw11, hw13, hw14, hw15, hw16, hw17, hw18, -⟩ := _root_.id hC
                refine v_iload_n dX12_command_114 rfl rfl ?_
                refine v_iconst (v := 2) dX12_command_115 (by decide) ?_
                refine v_icmp_eq (tgt := 129) dX12_command_116 (by decide) (fun h116 => ?_) (fun h116 => ?_)
                · exact absurd h116 (by decide)
                · refine v_iload_n dX12_command_119 rfl rfl ?_
                  refine v_iconst (v := 4) dX12_command_120 (by decide) ?_
                  refine v_icmp_eq (tgt := 129) dX12_command_121 (by decide) (fun h121 => ?_) (fun h121 => ?_)
                  · exact absurd h121 (by decide)
                  · refine v_iload_n dX12_command_124 rfl rfl ?_
                    refine v_iconst (v := 5) dX12_command_125 (by decide) ?_
                    refine v_icmp_ne (tgt := 140) dX12_command_126 (by decide) (fun h126 => ?_) (fun h126 => ?_)
                    · refine v_iload_n dX12_command_140 rfl rfl ?_
                      refine v_bipush (v := (8)) dX12_command_141 (by decide) ?_
                      refine v_icmp_ne (tgt := 156) dX12_command_143 (by decide) (fun h143 => ?_) (fun h143 => ?_)
                      · refine v_iload_n dX12_command_156 rfl rfl ?_
                        refine v_bipush (v := (9)) dX12_command_157 (by decide) ?_
                        refine v_icmp_ne (tgt := 186) dX12_command_159 (by decide) (fun h159 => ?_) (fun h159 => ?_)
                        · refine v_aload_n dX12_command_186 rfl rfl ?_
                          refine gf_X12_208 dX12_command_187 rfl hMo ?_
                          refine v_if_ne (tgt := 200) dX12_command_190 (by decide) (fun h190 => ?_) (fun h190 => ?_)
                          · have hb : s5.2 = true := bi_t _ h190
                            have hP9 : prs tx en (prt 3) s0 = (s5, [x1, x2, x3, x4, x5]) := by simp only [show prt 3 = [0, 0, 1, 1, 1] from rfl, prs, hq1, hq2, hq3, hq4, hq5]
                            rw [hb] at hC
                            exact v_vret dX12_command_200 rfl (by first | exact ⟨lf, _, s5.1, Or.inl ⟨Or.inr ⟨3, by decide, hWd, by rw [← hs0, hP9, ← hb]⟩, hC⟩, hF⟩ | exact ⟨lf, _, s5.1, Or.inr ⟨3, [x1, x2, x3, x4, x5], ⟨by decide, hWd, by rw [← hs0, hP9, ← hb]⟩, (fun j hj => match j, hj with
            | 0, _ => (ui_n (by decide)).trans ((ui_n (by decide)).trans ((ui_n (by decide)).trans ((ui_n (by decide)).trans (ui_s))))
            | 1, _ => (ui_n (by decide)).trans ((ui_n (by decide)).trans ((ui_n (by decide)).trans (ui_s)))
            | 2, _ => (ui_n (by decide)).trans ((ui_n (by decide)).trans (ui_s))
            | 3, _ => (ui_n (by decide)).trans (ui_s)
            | 4, _ => ui_s
            | j + 5, h => absurd h (by show ¬ (j + 5 < 5); omega)), Or.inl ⟨h197, hC⟩⟩, hF⟩) (by omega) (by omega)
                          · have hb : s5.2 = false := bi_f _ h190
                            have hP9 : prs tx en (prt 3) s0 = (s5, [x1, x2, x3, x4, x5]) := by simp only [show prt 3 = [0, 0, 1, 1, 1] from rfl, prs, hq1, hq2, hq3, hq4, hq5]
                            rw [hb] at hC
                            refine v_aload_n dX12_command_193 rfl rfl ?_
                            refine gf_X12_230 dX12_command_194 rfl hMo ?_
                            refine v_if_ne (tgt := 201) dX12_command_197 (by decide) (fun h197 => ?_) (fun h197 => ?_)
                            · refine v_aload_n dX12_command_201 rfl rfl ?_
                              refine v_iload_n dX12_command_202 rfl rfl ?_
                              refine k_X12_233 dX12_command_203 rfl (r_does_3 htr hC hG) hMo (Nat.le_of_ble_eq_true rfl) (by omega) (by omega) (Nat.le_of_ble_eq_true rfl) (fun r203 M9 h9 => ?_) (fun _ _ h9 => h9.elim)
                              refine v_istore_2 dX12_command_206 ?_
                              exact v_vret dX12_command_207 rfl (by
      obtain ⟨hd9, hF9⟩ := h9
      have hF := Frm.tr hF hF9
      refine ⟨lf, (ui (ui (ui (ui (ui to 0 x1) 1 x2) 2 x3) 3 x4) 4 x5), s5.1, Or.inr ⟨3, [x1, x2, x3, x4, x5], ⟨by decide, hWd, by rw [← hs0, hP9, ← hb]⟩, (fun j hj => match j, hj with
            | 0, _ => (ui_n (by decide)).trans ((ui_n (by decide)).trans ((ui_n (by decide)).trans ((ui_n (by decide)).trans (ui_s))))
            | 1, _ => (ui_n (by decide)).trans ((ui_n (by decide)).trans ((ui_n (by decide)).trans (ui_s)))
            | 2, _ => (ui_n (by decide)).trans ((ui_n (by decide)).trans (ui_s))
            | 3, _ => (ui_n (by decide)).trans (ui_s)
            | 4, _ => ui_s
            | j + 5, h => absurd h (by show ¬ (j + 5 < 5); omega)), Or.inr ⟨h197, ?_⟩⟩, hF⟩
      rcases hd9 with ⟨hv, hx, hC⟩ | ⟨hv, hx, hC⟩
      · exact Or.inl ⟨hv, _, _, _, _, _, ⟨rfl, hx⟩, hC⟩
      · exact Or.inr ⟨hv, _, _, fcI_ne _ _, hC⟩) (by omega) (by omega)
                            · exact v_vret dX12_command_200 rfl (by first | exact ⟨lf, _, s5.1, Or.inl ⟨Or.inr ⟨3, by decide, hWd, by rw [← hs0, hP9, ← hb]⟩, hC⟩, hF⟩ | exact ⟨lf, _, s5.1, Or.inr ⟨3, [x1, x2, x3, x4, x5], ⟨by decide, hWd, by rw [← hs0, hP9, ← hb]⟩, (fun j hj => match j, hj with
            | 0, _ => (ui_n (by decide)).trans ((ui_n (by decide)).trans ((ui_n (by decide)).trans ((ui_n (by decide)).trans (ui_s))))
            | 1, _ => (ui_n (by decide)).trans ((ui_n (by decide)).trans ((ui_n (by decide)).trans (ui_s)))
            | 2, _ => (ui_n (by decide)).trans ((ui_n (by decide)).trans (ui_s))
            | 3, _ => (ui_n (by decide)).trans (ui_s)
            | 4, _ => ui_s
            | j + 5, h => absurd h (by show ¬ (j + 5 < 5); omega)), Or.inl ⟨h197, hC⟩⟩, hF⟩) (by omega) (by omega)
                        · exact absurd h159 (by decide)
                      · exact absurd h143 (by decide)
                    · exact absurd h126 (by decide)
      · exact absurd h41 (by decide)
set_option maxRecDepth 100000 in
set_option maxHeartbeats 4000000 in
theorem r_cmd_4 {l : Launch} {g : Nat → Nat} {M M1 : LH} {X : CX} (htr : l.stackTraces = false) {kd : Nat → Nat} {r m : Nat} {w : Nat → Nat} {ch ea fl sv bf tn he en ln wr dg : Int32} {v b4 sa pa fr th bs tx li lf to : Int32 → Int32} {s0 : Int32 × Bool} (hs0 : s0 = (he + nI (wrd 4).length, false)) (hWd : (mtW (sgS tx en he) 4 (wrd 4).length)) (hG : Good v) (e60 : en ≤ 60) (e0 : 0 ≤ s0.1) (e61 : s0.1 ≤ 60) (hC : Md kd r M1 m w 0 ch ea fl sv bf tn s0.1 en ln (bi s0.2) dg v b4 sa pa fr th bs tx li lf to) (hF : Frm kd r M M1) : V l g yX12_command cX12_command (none) [] 5 0 0 (RV (fun M9 => ∃ (lf9 to9 : Int32 → Int32) (e9 : Int32), ((cmE tx en he e9 ∧ Md kd r M9 m w 0 ch ea fl sv bf tn e9 en ln 1 dg v b4 sa pa fr th bs tx li lf9 to9) ∨ (∃ i ns, cmG tx en he i e9 ns ∧ (∀ j, j < arN i → to9 (nI j) = ns.getD j 0) ∧ ((dg = 0 ∧ Md kd r M9 m w 0 ch ea fl sv bf tn e9 en ln 0 dg v b4 sa pa fr th bs tx li lf9 to9) ∨ (¬ dg = 0 ∧ ((okJ v to9 i ∧ ∃ (v' : Int32 → Int32) (x9 b9 : Int32) (f9 h9 : Int32 → Int32), ddS v to9 i v' x9 ∧ Md kd r M9 m w 0 ch ea fl sv b9 tn e9 en ln 0 dg v' b4 sa pa f9 h9 bs tx li lf9 to9) ∨ (¬ okJ v to9 i ∧ ∃ (t9 : Int32) (f9 : Int32 → Int32), ¬ t9 = 0 ∧ Md kd r M9 m w t9 ch ea fl sv bf tn e9 en ln 0 dg v b4 sa pa f9 th bs tx li lf9 to9)))))) ∧ Frm kd r M M9) nX) X M1 0 0 13 [some (.ref m), some (.int 4), none] [] := by
  have hsf : s0.2 = false := by rw [hs0]
  obtain ⟨hMo, hw5, hw6, hw7, hw8, hw9, hw10, hw11, hw13, hw14, hw15, hw16, hw17, hw18, -⟩ := _root_.id hC
  refine v_iload_n dX12_command_13 rfl rfl ?_
  refine v_iconst (v := 1) dX12_command_14 (by decide) ?_
  refine v_bipush (v := (7)) dX12_command_15 (by decide) ?_
  refine k_X12_66 dX12_command_17 rfl (r_isIn htr 4 1 7) (Nat.le_of_ble_eq_true rfl) (by omega) (by omega) (Nat.le_of_ble_eq_true rfl) (fun r17 M9 h9 => ?_) (fun _ _ h9 => h9.elim)
  obtain ⟨rfl, e9⟩ := h9
  subst M9
  refine v_if_eq (tgt := 34) dX12_command_20 (by decide) (fun h20 => ?_) (fun h20 => ?_)
  · exact absurd h20 (by decide)
  · refine v_aload_n dX12_command_23 rfl rfl ?_
    refine gf_X12_47 dX12_command_24 rfl hMo ?_
    refine v_iconst (v := 0) dX12_command_27 (by decide) ?_
    refine v_aload_n dX12_command_28 rfl rfl ?_
    refine v_iconst (v := 1) dX12_command_29 (by decide) ?_
    refine k_X12_218 dX12_command_30 rfl (r_digits htr hC e0 e61 e60 (bi_01 _) (f0 := 1) (by decide)) hMo (Nat.le_of_ble_eq_true rfl) (by omega) (by omega) (Nat.le_of_ble_eq_true rfl) (fun r30 M9 h9 => ?_) (fun _ _ h9 => h9.elim)
    obtain ⟨h9, hF9⟩ := h9
    have hF := Frm.tr hF hF9
    obtain ⟨hx9, hC⟩ := dgU h9
    obtain ⟨e0, e61⟩ := pE_in (tx := tx) 0 e60 e0 e61
    obtain ⟨s1, x1, hq1⟩ : ∃ s x, pE tx en 0 s0 = (s, x) := ⟨_, _, rfl⟩
    rw [hq1] at hx9 hC e0 e61
    dsimp only at hx9 hC e0 e61
    have hx9 := hx9.symm
    subst hx9
    obtain ⟨hMo, hw5, hw6, hw7, hw8, hw9, hw10, hw11, hw13, hw14, hw15, hw16, hw17, hw18, -⟩ := _root_.id hC
    refine v_iast dX12_command_33 hw16 (by decide) (by decide) ?_
    refine V.md (Md.r16 hC) (Frm.tr hF (Frm.up (hC.kd_r16))) (fun M1 hC hF => ?_)
    obtain ⟨hMo, hw5, hw6, hw7, hw8, hw9, hw10, hw11, hw13, hw14, hw15, hw16, hw17, hw18, -⟩ := _root_.id hC
    refine v_iload_n dX12_command_34 rfl rfl ?_
    refine v_iconst (v := 1) dX12_command_35 (by decide) ?_
    refine v_icmp_eq (tgt := 50) dX12_command_36 (by decide) (fun h36 => ?_) (fun h36 => ?_)
    · exact absurd h36 (by decide)
    · refine v_iload_n dX12_command_39 rfl rfl ?_
      refine v_iconst (v := 3) dX12_command_40 (by decide) ?_
      refine v_icmp_eq (tgt := 50) dX12_command_41 (by decide) (fun h41 => ?_) (fun h41 => ?_)
      · exact absurd h41 (by decide)
      · refine v_iload_n dX12_command_44 rfl rfl ?_
        refine v_bipush (v := (7)) dX12_command_45 (by decide) ?_
        refine v_icmp_ne (tgt := 61) dX12_command_47 (by decide) (fun h47 => ?_) (fun h47 => ?_)
        · refine v_iload_n dX12_command_61 rfl rfl ?_
          refine v_iconst (v := 1) dX12_command_62 (by decide) ?_
          refine v_icmp_eq (tgt := 71) dX12_command_63 (by decide) (fun h63 => ?_) (fun h63 => ?_)
          · exact absurd h63 (by decide)
          · refine v_iload_n dX12_command_66 rfl rfl ?_
            refine v_iconst (v := 3) dX12_command_67 (by decide) ?_
            refine v_icmp_ne (tgt := 82) dX12_command_68 (by decide) (fun h68 => ?_) (fun h68 => ?_)
            · refine v_iload_n dX12_command_82 rfl rfl ?_
              refine v_iconst (v := 3) dX12_command_83 (by decide) ?_
              refine v_icmp_ne (tgt := 98) dX12_command_84 (by decide) (fun h84 => ?_) (fun h84 => ?_)
              · refine v_iload_n dX12_command_98 rfl rfl ?_
                refine v_iconst (v := 3) dX12_command_99 (by decide) ?_
                refine v_icmp_ne (tgt := 114) dX12_command_100 (by decide) (fun h100 => ?_) (fun h100 => ?_)
                · refine v_iload_n dX12_command_114 rfl rfl ?_
                  refine v_iconst (v := 2) dX12_command_115 (by decide) ?_
                  refine v_icmp_eq (tgt := 129) dX12_command_116 (by decide) (fun h116 => ?_) (fun h116 => ?_)
                  · exact absurd h116 (by decide)
                  · refine v_iload_n dX12_command_119 rfl rfl ?_
                    refine v_iconst (v := 4) dX12_command_120 (by decide) ?_
                    refine v_icmp_eq (tgt := 129) dX12_command_121 (by decide) (fun h121 => ?_) (fun h121 => ?_)
                    · refine v_aload_n dX12_command_129 rfl rfl ?_
                      refine gf_X12_47 dX12_command_130 rfl hMo ?_
                      refine v_iconst (v := 1) dX12_command_133 (by decide) ?_
                      refine v_aload_n dX12_command_134 rfl rfl ?_
                      refine v_iconst (v := 3) dX12_command_135 (by decide) ?_
                      refine k_X12_224 dX12_command_136 rfl (r_behind htr hC e0 e61 e60 (bi_01 _) (f0 := 3) (by decide)) hMo (Nat.le_of_ble_eq_true rfl) (by omega) (by omega) (Nat.le_of_ble_eq_true rfl) (fun r136 M9 h9 => ?_) (fun _ _ h9 => h9.elim)
                      obtain ⟨h9, hF9⟩ := h9
                      have hF := Frm.tr hF hF9
                      obtain ⟨hx9, hC⟩ := bhU h9
                      obtain ⟨e0, e61⟩ := pE_in (tx := tx) 1 e60 e0 e61
                      obtain ⟨s2, x2, hq2⟩ : ∃ s x, pE tx en 1 s1 = (s, x) := ⟨_, _, rfl⟩
                      rw [hq2] at hx9 hC e0 e61
                      dsimp only at hx9 hC e0 e61
                      have hx9 := hx9.symm
                      subst hx9
                      obtain ⟨hMo, hw5, hw6, hw7, hw8, hw9, hw10, hw11, hw13, hw14, hw15, hw16, hw17, hw18, -⟩ := _root_.id hC
                      refine v_iast dX12_command_139 hw16 (by decide) (by decide) ?_
                      refine V.md (Md.r16 hC) (Frm.tr hF (Frm.up (hC.kd_r16))) (fun M1 hC hF => ?_)
                      obtain ⟨hMo, hw5, hw6, hw7, hw8, hw9, hw10, hw11, hw13, hw14, hw15, hw16, hw17, hw18, -⟩ := _root_.id hC
                      refine v_iload_n dX12_command_140 rfl rfl ?_
                      refine v_bipush (v := (8)) dX12_command_141 (by decide) ?_
                      refine v_icmp_ne (tgt := 156) dX12_command_143 (by decide) (fun h143 => ?_) (fun h143 => ?_)
                      · refine v_iload_n dX12_command_156 rfl rfl ?_
                        refine v_bipush (v := (9)) dX12_command_157 (by decide) ?_
                        refine v_icmp_ne (tgt := 186) dX12_command_159 (by decide) (fun h159 => ?_) (fun h159 => ?_)
                        · refine v_aload_n dX12_command_186 rfl rfl ?_
                          refine gf_X12_208 dX12_command_187 rfl hMo ?_
                          refine v_if_ne (tgt := 200) dX12_command_190 (by decide) (fun h190 => ?_) (fun h190 => ?_)
                          · have hb : s2.2 = true := bi_t _ h190
                            have hP9 : prs tx en (prt 4) s0 = (s2, [x1, x2]) := by simp only [show prt 4 = [0, 1] from rfl, prs, hq1, hq2]
                            rw [hb] at hC
                            exact v_vret dX12_command_200 rfl (by first | exact ⟨lf, _, s2.1, Or.inl ⟨Or.inr ⟨4, by decide, hWd, by rw [← hs0, hP9, ← hb]⟩, hC⟩, hF⟩ | exact ⟨lf, _, s2.1, Or.inr ⟨4, [x1, x2], ⟨by decide, hWd, by rw [← hs0, hP9, ← hb]⟩, (fun j hj => match j, hj with
            | 0, _ => (ui_n (by decide)).trans (ui_s)
            | 1, _ => ui_s
            | j + 2, h => absurd h (by show ¬ (j + 2 < 2); omega)), Or.inl ⟨h197, hC⟩⟩, hF⟩) (by omega) (by omega)
                          · have hb : s2.2 = false := bi_f _ h190
                            have hP9 : prs tx en (prt 4) s0 = (s2, [x1, x2]) := by simp only [show prt 4 = [0, 1] from rfl, prs, hq1, hq2]
                            rw [hb] at hC
                            refine v_aload_n dX12_command_193 rfl rfl ?_
                            refine gf_X12_230 dX12_command_194 rfl hMo ?_
                            refine v_if_ne (tgt := 201) dX12_command_197 (by decide) (fun h197 => ?_) (fun h197 => ?_)
                            · refine v_aload_n dX12_command_201 rfl rfl ?_
                              refine v_iload_n dX12_command_202 rfl rfl ?_
                              refine k_X12_233 dX12_command_203 rfl (r_does_4 htr hC hG) hMo (Nat.le_of_ble_eq_true rfl) (by omega) (by omega) (Nat.le_of_ble_eq_true rfl) (fun r203 M9 h9 => ?_) (fun _ _ h9 => h9.elim)
                              refine v_istore_2 dX12_command_206 ?_
                              exact v_vret dX12_command_207 rfl (by
      obtain ⟨hd9, hF9⟩ := h9
      have hF := Frm.tr hF hF9
      refine ⟨lf, (ui (ui to 0 x1) 1 x2), s2.1, Or.inr ⟨4, [x1, x2], ⟨by decide, hWd, by rw [← hs0, hP9, ← hb]⟩, (fun j hj => match j, hj with
            | 0, _ => (ui_n (by decide)).trans (ui_s)
            | 1, _ => ui_s
            | j + 2, h => absurd h (by show ¬ (j + 2 < 2); omega)), Or.inr ⟨h197, ?_⟩⟩, hF⟩
      rcases hd9 with ⟨hv, hx, hC⟩ | ⟨hv, hx, hC⟩
      · exact Or.inl ⟨hv, _, _, _, _, _, ⟨rfl, hx⟩, hC⟩
      · exact Or.inr ⟨hv, _, _, fcI_ne _ _, hC⟩) (by omega) (by omega)
                            · exact v_vret dX12_command_200 rfl (by first | exact ⟨lf, _, s2.1, Or.inl ⟨Or.inr ⟨4, by decide, hWd, by rw [← hs0, hP9, ← hb]⟩, hC⟩, hF⟩ | exact ⟨lf, _, s2.1, Or.inr ⟨4, [x1, x2], ⟨by decide, hWd, by rw [← hs0, hP9, ← hb]⟩, (fun j hj => match j, hj with
            | 0, _ => (ui_n (by decide)).trans (ui_s)
            | 1, _ => ui_s
            | j + 2, h => absurd h (by show ¬ (j + 2 < 2); omega)), Or.inl ⟨h197, hC⟩⟩, hF⟩) (by omega) (by omega)
                        · exact absurd h159 (by decide)
                      · exact absurd h143 (by decide)
                    · exact absurd h121 (by decide)
                · exact absurd h100 (by decide)
              · exact absurd h84 (by decide)
            · exact absurd h68 (by decide)
        · exact absurd h47 (by decide)
set_option maxRecDepth 100000 in
set_option maxHeartbeats 4000000 in
theorem r_cmd_5 {l : Launch} {g : Nat → Nat} {M M1 : LH} {X : CX} (htr : l.stackTraces = false) {kd : Nat → Nat} {r m : Nat} {w : Nat → Nat} {ch ea fl sv bf tn he en ln wr dg : Int32} {v b4 sa pa fr th bs tx li lf to : Int32 → Int32} {s0 : Int32 × Bool} (hs0 : s0 = (he + nI (wrd 5).length, false)) (hWd : (mtW (sgS tx en he) 5 (wrd 5).length)) (hG : Good v) (e60 : en ≤ 60) (e0 : 0 ≤ s0.1) (e61 : s0.1 ≤ 60) (hC : Md kd r M1 m w 0 ch ea fl sv bf tn s0.1 en ln (bi s0.2) dg v b4 sa pa fr th bs tx li lf to) (hF : Frm kd r M M1) : V l g yX12_command cX12_command (none) [] 5 0 0 (RV (fun M9 => ∃ (lf9 to9 : Int32 → Int32) (e9 : Int32), ((cmE tx en he e9 ∧ Md kd r M9 m w 0 ch ea fl sv bf tn e9 en ln 1 dg v b4 sa pa fr th bs tx li lf9 to9) ∨ (∃ i ns, cmG tx en he i e9 ns ∧ (∀ j, j < arN i → to9 (nI j) = ns.getD j 0) ∧ ((dg = 0 ∧ Md kd r M9 m w 0 ch ea fl sv bf tn e9 en ln 0 dg v b4 sa pa fr th bs tx li lf9 to9) ∨ (¬ dg = 0 ∧ ((okJ v to9 i ∧ ∃ (v' : Int32 → Int32) (x9 b9 : Int32) (f9 h9 : Int32 → Int32), ddS v to9 i v' x9 ∧ Md kd r M9 m w 0 ch ea fl sv b9 tn e9 en ln 0 dg v' b4 sa pa f9 h9 bs tx li lf9 to9) ∨ (¬ okJ v to9 i ∧ ∃ (t9 : Int32) (f9 : Int32 → Int32), ¬ t9 = 0 ∧ Md kd r M9 m w t9 ch ea fl sv bf tn e9 en ln 0 dg v b4 sa pa f9 th bs tx li lf9 to9)))))) ∧ Frm kd r M M9) nX) X M1 0 0 13 [some (.ref m), some (.int 5), none] [] := by
  have hsf : s0.2 = false := by rw [hs0]
  obtain ⟨hMo, hw5, hw6, hw7, hw8, hw9, hw10, hw11, hw13, hw14, hw15, hw16, hw17, hw18, -⟩ := _root_.id hC
  refine v_iload_n dX12_command_13 rfl rfl ?_
  refine v_iconst (v := 1) dX12_command_14 (by decide) ?_
  refine v_bipush (v := (7)) dX12_command_15 (by decide) ?_
  refine k_X12_66 dX12_command_17 rfl (r_isIn htr 5 1 7) (Nat.le_of_ble_eq_true rfl) (by omega) (by omega) (Nat.le_of_ble_eq_true rfl) (fun r17 M9 h9 => ?_) (fun _ _ h9 => h9.elim)
  obtain ⟨rfl, e9⟩ := h9
  subst M9
  refine v_if_eq (tgt := 34) dX12_command_20 (by decide) (fun h20 => ?_) (fun h20 => ?_)
  · exact absurd h20 (by decide)
  · refine v_aload_n dX12_command_23 rfl rfl ?_
    refine gf_X12_47 dX12_command_24 rfl hMo ?_
    refine v_iconst (v := 0) dX12_command_27 (by decide) ?_
    refine v_aload_n dX12_command_28 rfl rfl ?_
    refine v_iconst (v := 1) dX12_command_29 (by decide) ?_
    refine k_X12_218 dX12_command_30 rfl (r_digits htr hC e0 e61 e60 (bi_01 _) (f0 := 1) (by decide)) hMo (Nat.le_of_ble_eq_true rfl) (by omega) (by omega) (Nat.le_of_ble_eq_true rfl) (fun r30 M9 h9 => ?_) (fun _ _ h9 => h9.elim)
    obtain ⟨h9, hF9⟩ := h9
    have hF := Frm.tr hF hF9
    obtain ⟨hx9, hC⟩ := dgU h9
    obtain ⟨e0, e61⟩ := pE_in (tx := tx) 0 e60 e0 e61
    obtain ⟨s1, x1, hq1⟩ : ∃ s x, pE tx en 0 s0 = (s, x) := ⟨_, _, rfl⟩
    rw [hq1] at hx9 hC e0 e61
    dsimp only at hx9 hC e0 e61
    have hx9 := hx9.symm
    subst hx9
    obtain ⟨hMo, hw5, hw6, hw7, hw8, hw9, hw10, hw11, hw13, hw14, hw15, hw16, hw17, hw18, -⟩ := _root_.id hC
    refine v_iast dX12_command_33 hw16 (by decide) (by decide) ?_
    refine V.md (Md.r16 hC) (Frm.tr hF (Frm.up (hC.kd_r16))) (fun M1 hC hF => ?_)
    obtain ⟨hMo, hw5, hw6, hw7, hw8, hw9, hw10, hw11, hw13, hw14, hw15, hw16, hw17, hw18, -⟩ := _root_.id hC
    refine v_iload_n dX12_command_34 rfl rfl ?_
    refine v_iconst (v := 1) dX12_command_35 (by decide) ?_
    refine v_icmp_eq (tgt := 50) dX12_command_36 (by decide) (fun h36 => ?_) (fun h36 => ?_)
    · exact absurd h36 (by decide)
    · refine v_iload_n dX12_command_39 rfl rfl ?_
      refine v_iconst (v := 3) dX12_command_40 (by decide) ?_
      refine v_icmp_eq (tgt := 50) dX12_command_41 (by decide) (fun h41 => ?_) (fun h41 => ?_)
      · exact absurd h41 (by decide)
      · refine v_iload_n dX12_command_44 rfl rfl ?_
        refine v_bipush (v := (7)) dX12_command_45 (by decide) ?_
        refine v_icmp_ne (tgt := 61) dX12_command_47 (by decide) (fun h47 => ?_) (fun h47 => ?_)
        · refine v_iload_n dX12_command_61 rfl rfl ?_
          refine v_iconst (v := 1) dX12_command_62 (by decide) ?_
          refine v_icmp_eq (tgt := 71) dX12_command_63 (by decide) (fun h63 => ?_) (fun h63 => ?_)
          · exact absurd h63 (by decide)
          · refine v_iload_n dX12_command_66 rfl rfl ?_
            refine v_iconst (v := 3) dX12_command_67 (by decide) ?_
            refine v_icmp_ne (tgt := 82) dX12_command_68 (by decide) (fun h68 => ?_) (fun h68 => ?_)
            · refine v_iload_n dX12_command_82 rfl rfl ?_
              refine v_iconst (v := 3) dX12_command_83 (by decide) ?_
              refine v_icmp_ne (tgt := 98) dX12_command_84 (by decide) (fun h84 => ?_) (fun h84 => ?_)
              · refine v_iload_n dX12_command_98 rfl rfl ?_
                refine v_iconst (v := 3) dX12_command_99 (by decide) ?_
                refine v_icmp_ne (tgt := 114) dX12_command_100 (by decide) (fun h100 => ?_) (fun h100 => ?_)
                · refine v_iload_n dX12_command_114 rfl rfl ?_
                  refine v_iconst (v := 2) dX12_command_115 (by decide) ?_
                  refine v_icmp_eq (tgt := 129) dX12_command_116 (by decide) (fun h116 => ?_) (fun h116 => ?_)
                  · exact absurd h116 (by decide)
                  · refine v_iload_n dX12_command_119 rfl rfl ?_
                    refine v_iconst (v := 4) dX12_command_120 (by decide) ?_
                    refine v_icmp_eq (tgt := 129) dX12_command_121 (by decide) (fun h121 => ?_) (fun h121 => ?_)
                    · exact absurd h121 (by decide)
                    · refine v_iload_n dX12_command_124 rfl rfl ?_
                      refine v_iconst (v := 5) dX12_command_125 (by decide) ?_
                      refine v_icmp_ne (tgt := 140) dX12_command_126 (by decide) (fun h126 => ?_) (fun h126 => ?_)
                      · exact absurd h126 (by decide)
                      · refine v_aload_n dX12_command_129 rfl rfl ?_
                        refine gf_X12_47 dX12_command_130 rfl hMo ?_
                        refine v_iconst (v := 1) dX12_command_133 (by decide) ?_
                        refine v_aload_n dX12_command_134 rfl rfl ?_
                        refine v_iconst (v := 3) dX12_command_135 (by decide) ?_
                        refine k_X12_224 dX12_command_136 rfl (r_behind htr hC e0 e61 e60 (bi_01 _) (f0 := 3) (by decide)) hMo (Nat.le_of_ble_eq_true rfl) (by omega) (by omega) (Nat.le_of_ble_eq_true rfl) (fun r136 M9 h9 => ?_) (fun _ _ h9 => h9.elim)
                        obtain ⟨h9, hF9⟩ := h9
                        have hF := Frm.tr hF hF9
                        obtain ⟨hx9, hC⟩ := bhU h9
                        obtain ⟨e0, e61⟩ := pE_in (tx := tx) 1 e60 e0 e61
                        obtain ⟨s2, x2, hq2⟩ : ∃ s x, pE tx en 1 s1 = (s, x) := ⟨_, _, rfl⟩
                        rw [hq2] at hx9 hC e0 e61
                        dsimp only at hx9 hC e0 e61
                        have hx9 := hx9.symm
                        subst hx9
                        obtain ⟨hMo, hw5, hw6, hw7, hw8, hw9, hw10, hw11, hw13, hw14, hw15, hw16, hw17, hw18, -⟩ := _root_.id hC
                        refine v_iast dX12_command_139 hw16 (by decide) (by decide) ?_
                        refine V.md (Md.r16 hC) (Frm.tr hF (Frm.up (hC.kd_r16))) (fun M1 hC hF => ?_)
                        obtain ⟨hMo, hw5, hw6, hw7, hw8, hw9, hw10, hw11, hw13, hw14, hw15, hw16, hw17, hw18, -⟩ := _root_.id hC
                        refine v_iload_n dX12_command_140 rfl rfl ?_
                        refine v_bipush (v := (8)) dX12_command_141 (by decide) ?_
                        refine v_icmp_ne (tgt := 156) dX12_command_143 (by decide) (fun h143 => ?_) (fun h143 => ?_)
                        · refine v_iload_n dX12_command_156 rfl rfl ?_
                          refine v_bipush (v := (9)) dX12_command_157 (by decide) ?_
                          refine v_icmp_ne (tgt := 186) dX12_command_159 (by decide) (fun h159 => ?_) (fun h159 => ?_)
                          · refine v_aload_n dX12_command_186 rfl rfl ?_
                            refine gf_X12_208 dX12_command_187 rfl hMo ?_
                            refine v_if_ne (tgt := 200) dX12_command_190 (by decide) (fun h190 => ?_) (fun h190 => ?_)
                            · have hb : s2.2 = true := bi_t _ h190
                              have hP9 : prs tx en (prt 5) s0 = (s2, [x1, x2]) := by simp only [show prt 5 = [0, 1] from rfl, prs, hq1, hq2]
                              rw [hb] at hC
                              exact v_vret dX12_command_200 rfl (by first | exact ⟨lf, _, s2.1, Or.inl ⟨Or.inr ⟨5, by decide, hWd, by rw [← hs0, hP9, ← hb]⟩, hC⟩, hF⟩ | exact ⟨lf, _, s2.1, Or.inr ⟨5, [x1, x2], ⟨by decide, hWd, by rw [← hs0, hP9, ← hb]⟩, (fun j hj => match j, hj with
            | 0, _ => (ui_n (by decide)).trans (ui_s)
            | 1, _ => ui_s
            | j + 2, h => absurd h (by show ¬ (j + 2 < 2); omega)), Or.inl ⟨h197, hC⟩⟩, hF⟩) (by omega) (by omega)
                            · have hb : s2.2 = false := bi_f _ h190
                              have hP9 : prs tx en (prt 5) s0 = (s2, [x1, x2]) := by simp only [show prt 5 = [0, 1] from rfl, prs, hq1, hq2]
                              rw [hb] at hC
                              refine v_aload_n dX12_command_193 rfl rfl ?_
                              refine gf_X12_230 dX12_command_194 rfl hMo ?_
                              refine v_if_ne (tgt := 201) dX12_command_197 (by decide) (fun h197 => ?_) (fun h197 => ?_)
                              · refine v_aload_n dX12_command_201 rfl rfl ?_
                                refine v_iload_n dX12_command_202 rfl rfl ?_
                                refine k_X12_233 dX12_command_203 rfl (r_does_5 htr hC hG) hMo (Nat.le_of_ble_eq_true rfl) (by omega) (by omega) (Nat.le_of_ble_eq_true rfl) (fun r203 M9 h9 => ?_) (fun _ _ h9 => h9.elim)
                                refine v_istore_2 dX12_command_206 ?_
                                exact v_vret dX12_command_207 rfl (by
      obtain ⟨hd9, hF9⟩ := h9
      have hF := Frm.tr hF hF9
      refine ⟨lf, (ui (ui to 0 x1) 1 x2), s2.1, Or.inr ⟨5, [x1, x2], ⟨by decide, hWd, by rw [← hs0, hP9, ← hb]⟩, (fun j hj => match j, hj with
            | 0, _ => (ui_n (by decide)).trans (ui_s)
            | 1, _ => ui_s
            | j + 2, h => absurd h (by show ¬ (j + 2 < 2); omega)), Or.inr ⟨h197, ?_⟩⟩, hF⟩
      rcases hd9 with ⟨hv, hx, hC⟩ | ⟨hv, hx, hC⟩
      · exact Or.inl ⟨hv, _, _, _, _, _, ⟨rfl, hx⟩, hC⟩
      · exact Or.inr ⟨hv, _, _, fcI_ne _ _, hC⟩) (by omega) (by omega)
                              · exact v_vret dX12_command_200 rfl (by first | exact ⟨lf, _, s2.1, Or.inl ⟨Or.inr ⟨5, by decide, hWd, by rw [← hs0, hP9, ← hb]⟩, hC⟩, hF⟩ | exact ⟨lf, _, s2.1, Or.inr ⟨5, [x1, x2], ⟨by decide, hWd, by rw [← hs0, hP9, ← hb]⟩, (fun j hj => match j, hj with
            | 0, _ => (ui_n (by decide)).trans (ui_s)
            | 1, _ => ui_s
            | j + 2, h => absurd h (by show ¬ (j + 2 < 2); omega)), Or.inl ⟨h197, hC⟩⟩, hF⟩) (by omega) (by omega)
                          · exact absurd h159 (by decide)
                        · exact absurd h143 (by decide)
                · exact absurd h100 (by decide)
              · exact absurd h84 (by decide)
            · exact absurd h68 (by decide)
        · exact absurd h47 (by decide)
set_option maxRecDepth 100000 in
set_option maxHeartbeats 4000000 in
theorem r_cmd_6 {l : Launch} {g : Nat → Nat} {M M1 : LH} {X : CX} (htr : l.stackTraces = false) {kd : Nat → Nat} {r m : Nat} {w : Nat → Nat} {ch ea fl sv bf tn he en ln wr dg : Int32} {v b4 sa pa fr th bs tx li lf to : Int32 → Int32} {s0 : Int32 × Bool} (hs0 : s0 = (he + nI (wrd 6).length, false)) (hWd : (mtW (sgS tx en he) 6 (wrd 6).length)) (hG : Good v) (e60 : en ≤ 60) (e0 : 0 ≤ s0.1) (e61 : s0.1 ≤ 60) (hC : Md kd r M1 m w 0 ch ea fl sv bf tn s0.1 en ln (bi s0.2) dg v b4 sa pa fr th bs tx li lf to) (hF : Frm kd r M M1) : V l g yX12_command cX12_command (none) [] 5 0 0 (RV (fun M9 => ∃ (lf9 to9 : Int32 → Int32) (e9 : Int32), ((cmE tx en he e9 ∧ Md kd r M9 m w 0 ch ea fl sv bf tn e9 en ln 1 dg v b4 sa pa fr th bs tx li lf9 to9) ∨ (∃ i ns, cmG tx en he i e9 ns ∧ (∀ j, j < arN i → to9 (nI j) = ns.getD j 0) ∧ ((dg = 0 ∧ Md kd r M9 m w 0 ch ea fl sv bf tn e9 en ln 0 dg v b4 sa pa fr th bs tx li lf9 to9) ∨ (¬ dg = 0 ∧ ((okJ v to9 i ∧ ∃ (v' : Int32 → Int32) (x9 b9 : Int32) (f9 h9 : Int32 → Int32), ddS v to9 i v' x9 ∧ Md kd r M9 m w 0 ch ea fl sv b9 tn e9 en ln 0 dg v' b4 sa pa f9 h9 bs tx li lf9 to9) ∨ (¬ okJ v to9 i ∧ ∃ (t9 : Int32) (f9 : Int32 → Int32), ¬ t9 = 0 ∧ Md kd r M9 m w t9 ch ea fl sv bf tn e9 en ln 0 dg v b4 sa pa f9 th bs tx li lf9 to9)))))) ∧ Frm kd r M M9) nX) X M1 0 0 13 [some (.ref m), some (.int 6), none] [] := by
  have hsf : s0.2 = false := by rw [hs0]
  obtain ⟨hMo, hw5, hw6, hw7, hw8, hw9, hw10, hw11, hw13, hw14, hw15, hw16, hw17, hw18, -⟩ := _root_.id hC
  refine v_iload_n dX12_command_13 rfl rfl ?_
  refine v_iconst (v := 1) dX12_command_14 (by decide) ?_
  refine v_bipush (v := (7)) dX12_command_15 (by decide) ?_
  refine k_X12_66 dX12_command_17 rfl (r_isIn htr 6 1 7) (Nat.le_of_ble_eq_true rfl) (by omega) (by omega) (Nat.le_of_ble_eq_true rfl) (fun r17 M9 h9 => ?_) (fun _ _ h9 => h9.elim)
  obtain ⟨rfl, e9⟩ := h9
  subst M9
  refine v_if_eq (tgt := 34) dX12_command_20 (by decide) (fun h20 => ?_) (fun h20 => ?_)
  · exact absurd h20 (by decide)
  · refine v_aload_n dX12_command_23 rfl rfl ?_
    refine gf_X12_47 dX12_command_24 rfl hMo ?_
    refine v_iconst (v := 0) dX12_command_27 (by decide) ?_
    refine v_aload_n dX12_command_28 rfl rfl ?_
    refine v_iconst (v := 1) dX12_command_29 (by decide) ?_
    refine k_X12_218 dX12_command_30 rfl (r_digits htr hC e0 e61 e60 (bi_01 _) (f0 := 1) (by decide)) hMo (Nat.le_of_ble_eq_true rfl) (by omega) (by omega) (Nat.le_of_ble_eq_true rfl) (fun r30 M9 h9 => ?_) (fun _ _ h9 => h9.elim)
    obtain ⟨h9, hF9⟩ := h9
    have hF := Frm.tr hF hF9
    obtain ⟨hx9, hC⟩ := dgU h9
    obtain ⟨e0, e61⟩ := pE_in (tx := tx) 0 e60 e0 e61
    obtain ⟨s1, x1, hq1⟩ : ∃ s x, pE tx en 0 s0 = (s, x) := ⟨_, _, rfl⟩
    rw [hq1] at hx9 hC e0 e61
    dsimp only at hx9 hC e0 e61
    have hx9 := hx9.symm
    subst hx9
    obtain ⟨hMo, hw5, hw6, hw7, hw8, hw9, hw10, hw11, hw13, hw14, hw15, hw16, hw17, hw18, -⟩ := _root_.id hC
    refine v_iast dX12_command_33 hw16 (by decide) (by decide) ?_
    refine V.md (Md.r16 hC) (Frm.tr hF (Frm.up (hC.kd_r16))) (fun M1 hC hF => ?_)
    obtain ⟨hMo, hw5, hw6, hw7, hw8, hw9, hw10, hw11, hw13, hw14, hw15, hw16, hw17, hw18, -⟩ := _root_.id hC
    refine v_iload_n dX12_command_34 rfl rfl ?_
    refine v_iconst (v := 1) dX12_command_35 (by decide) ?_
    refine v_icmp_eq (tgt := 50) dX12_command_36 (by decide) (fun h36 => ?_) (fun h36 => ?_)
    · exact absurd h36 (by decide)
    · refine v_iload_n dX12_command_39 rfl rfl ?_
      refine v_iconst (v := 3) dX12_command_40 (by decide) ?_
      refine v_icmp_eq (tgt := 50) dX12_command_41 (by decide) (fun h41 => ?_) (fun h41 => ?_)
      · exact absurd h41 (by decide)
      · refine v_iload_n dX12_command_44 rfl rfl ?_
        refine v_bipush (v := (7)) dX12_command_45 (by decide) ?_
        refine v_icmp_ne (tgt := 61) dX12_command_47 (by decide) (fun h47 => ?_) (fun h47 => ?_)
        · refine v_iload_n dX12_command_61 rfl rfl ?_
          refine v_iconst (v := 1) dX12_command_62 (by decide) ?_
          refine v_icmp_eq (tgt := 71) dX12_command_63 (by decide) (fun h63 => ?_) (fun h63 => ?_)
          · exact absurd h63 (by decide)
          · refine v_iload_n dX12_command_66 rfl rfl ?_
            refine v_iconst (v := 3) dX12_command_67 (by decide) ?_
            refine v_icmp_ne (tgt := 82) dX12_command_68 (by decide) (fun h68 => ?_) (fun h68 => ?_)
            · refine v_iload_n dX12_command_82 rfl rfl ?_
              refine v_iconst (v := 3) dX12_command_83 (by decide) ?_
              refine v_icmp_ne (tgt := 98) dX12_command_84 (by decide) (fun h84 => ?_) (fun h84 => ?_)
              · refine v_iload_n dX12_command_98 rfl rfl ?_
                refine v_iconst (v := 3) dX12_command_99 (by decide) ?_
                refine v_icmp_ne (tgt := 114) dX12_command_100 (by decide) (fun h100 => ?_) (fun h100 => ?_)
                · refine v_iload_n dX12_command_114 rfl rfl ?_
                  refine v_iconst (v := 2) dX12_command_115 (by decide) ?_
                  refine v_icmp_eq (tgt := 129) dX12_command_116 (by decide) (fun h116 => ?_) (fun h116 => ?_)
                  · exact absurd h116 (by decide)
                  · refine v_iload_n dX12_command_119 rfl rfl ?_
                    refine v_iconst (v := 4) dX12_command_120 (by decide) ?_
                    refine v_icmp_eq (tgt := 129) dX12_command_121 (by decide) (fun h121 => ?_) (fun h121 => ?_)
                    · exact absurd h121 (by decide)
                    · refine v_iload_n dX12_command_124 rfl rfl ?_
                      refine v_iconst (v := 5) dX12_command_125 (by decide) ?_
                      refine v_icmp_ne (tgt := 140) dX12_command_126 (by decide) (fun h126 => ?_) (fun h126 => ?_)
                      · refine v_iload_n dX12_command_140 rfl rfl ?_
                        refine v_bipush (v := (8)) dX12_command_141 (by decide) ?_
                        refine v_icmp_ne (tgt := 156) dX12_command_143 (by decide) (fun h143 => ?_) (fun h143 => ?_)
                        · refine v_iload_n dX12_command_156 rfl rfl ?_
                          refine v_bipush (v := (9)) dX12_command_157 (by decide) ?_
                          refine v_icmp_ne (tgt := 186) dX12_command_159 (by decide) (fun h159 => ?_) (fun h159 => ?_)
                          · refine v_aload_n dX12_command_186 rfl rfl ?_
                            refine gf_X12_208 dX12_command_187 rfl hMo ?_
                            refine v_if_ne (tgt := 200) dX12_command_190 (by decide) (fun h190 => ?_) (fun h190 => ?_)
                            · have hb : s1.2 = true := bi_t _ h190
                              have hP9 : prs tx en (prt 6) s0 = (s1, [x1]) := by simp only [show prt 6 = [0] from rfl, prs, hq1]
                              rw [hb] at hC
                              exact v_vret dX12_command_200 rfl (by first | exact ⟨lf, _, s1.1, Or.inl ⟨Or.inr ⟨6, by decide, hWd, by rw [← hs0, hP9, ← hb]⟩, hC⟩, hF⟩ | exact ⟨lf, _, s1.1, Or.inr ⟨6, [x1], ⟨by decide, hWd, by rw [← hs0, hP9, ← hb]⟩, (fun j hj => match j, hj with
            | 0, _ => ui_s
            | j + 1, h => absurd h (by show ¬ (j + 1 < 1); omega)), Or.inl ⟨h197, hC⟩⟩, hF⟩) (by omega) (by omega)
                            · have hb : s1.2 = false := bi_f _ h190
                              have hP9 : prs tx en (prt 6) s0 = (s1, [x1]) := by simp only [show prt 6 = [0] from rfl, prs, hq1]
                              rw [hb] at hC
                              refine v_aload_n dX12_command_193 rfl rfl ?_
                              refine gf_X12_230 dX12_command_194 rfl hMo ?_
                              refine v_if_ne (tgt := 201) dX12_command_197 (by decide) (fun h197 => ?_) (fun h197 => ?_)
                              · refine v_aload_n dX12_command_201 rfl rfl ?_
                                refine v_iload_n dX12_command_202 rfl rfl ?_
                                refine k_X12_233 dX12_command_203 rfl (r_does_6 htr hC hG) hMo (Nat.le_of_ble_eq_true rfl) (by omega) (by omega) (Nat.le_of_ble_eq_true rfl) (fun r203 M9 h9 => ?_) (fun _ _ h9 => h9.elim)
                                refine v_istore_2 dX12_command_206 ?_
                                exact v_vret dX12_command_207 rfl (by
      obtain ⟨b9, h9, hd9, hF9⟩ := h9
      have hF := Frm.tr hF hF9
      refine ⟨lf, (ui to 0 x1), s1.1, Or.inr ⟨6, [x1], ⟨by decide, hWd, by rw [← hs0, hP9, ← hb]⟩, (fun j hj => match j, hj with
            | 0, _ => ui_s
            | j + 1, h => absurd h (by show ¬ (j + 1 < 1); omega)), Or.inr ⟨h197, ?_⟩⟩, hF⟩
      rcases hd9 with ⟨hv, hx, hC⟩ | ⟨hv, hx, hC⟩
      · exact Or.inl ⟨hv, _, _, _, _, _, ⟨rfl, hx⟩, hC⟩
      · exact Or.inr ⟨hv, _, _, fcI_ne _ _, hC⟩) (by omega) (by omega)
                              · exact v_vret dX12_command_200 rfl (by first | exact ⟨lf, _, s1.1, Or.inl ⟨Or.inr ⟨6, by decide, hWd, by rw [← hs0, hP9, ← hb]⟩, hC⟩, hF⟩ | exact ⟨lf, _, s1.1, Or.inr ⟨6, [x1], ⟨by decide, hWd, by rw [← hs0, hP9, ← hb]⟩, (fun j hj => match j, hj with
            | 0, _ => ui_s
            | j + 1, h => absurd h (by show ¬ (j + 1 < 1); omega)), Or.inl ⟨h197, hC⟩⟩, hF⟩) (by omega) (by omega)
                          · exact absurd h159 (by decide)
                        · exact absurd h143 (by decide)
                      · exact absurd h126 (by decide)
                · exact absurd h100 (by decide)
              · exact absurd h84 (by decide)
            · exact absurd h68 (by decide)
        · exact absurd h47 (by decide)
set_option maxRecDepth 100000 in
set_option maxHeartbeats 4000000 in
theorem r_cmd_7 {l : Launch} {g : Nat → Nat} {M M1 : LH} {X : CX} (htr : l.stackTraces = false) {kd : Nat → Nat} {r m : Nat} {w : Nat → Nat} {ch ea fl sv bf tn he en ln wr dg : Int32} {v b4 sa pa fr th bs tx li lf to : Int32 → Int32} {s0 : Int32 × Bool} (hs0 : s0 = (he + nI (wrd 7).length, false)) (hWd : (mtW (sgS tx en he) 7 (wrd 7).length)) (hG : Good v) (e60 : en ≤ 60) (e0 : 0 ≤ s0.1) (e61 : s0.1 ≤ 60) (hC : Md kd r M1 m w 0 ch ea fl sv bf tn s0.1 en ln (bi s0.2) dg v b4 sa pa fr th bs tx li lf to) (hF : Frm kd r M M1) : V l g yX12_command cX12_command (none) [] 5 0 0 (RV (fun M9 => ∃ (lf9 to9 : Int32 → Int32) (e9 : Int32), ((cmE tx en he e9 ∧ Md kd r M9 m w 0 ch ea fl sv bf tn e9 en ln 1 dg v b4 sa pa fr th bs tx li lf9 to9) ∨ (∃ i ns, cmG tx en he i e9 ns ∧ (∀ j, j < arN i → to9 (nI j) = ns.getD j 0) ∧ ((dg = 0 ∧ Md kd r M9 m w 0 ch ea fl sv bf tn e9 en ln 0 dg v b4 sa pa fr th bs tx li lf9 to9) ∨ (¬ dg = 0 ∧ ((okJ v to9 i ∧ ∃ (v' : Int32 → Int32) (x9 b9 : Int32) (f9 h9 : Int32 → Int32), ddS v to9 i v' x9 ∧ Md kd r M9 m w 0 ch ea fl sv b9 tn e9 en ln 0 dg v' b4 sa pa f9 h9 bs tx li lf9 to9) ∨ (¬ okJ v to9 i ∧ ∃ (t9 : Int32) (f9 : Int32 → Int32), ¬ t9 = 0 ∧ Md kd r M9 m w t9 ch ea fl sv bf tn e9 en ln 0 dg v b4 sa pa f9 th bs tx li lf9 to9)))))) ∧ Frm kd r M M9) nX) X M1 0 0 13 [some (.ref m), some (.int 7), none] [] := by
  have hsf : s0.2 = false := by rw [hs0]
  obtain ⟨hMo, hw5, hw6, hw7, hw8, hw9, hw10, hw11, hw13, hw14, hw15, hw16, hw17, hw18, -⟩ := _root_.id hC
  refine v_iload_n dX12_command_13 rfl rfl ?_
  refine v_iconst (v := 1) dX12_command_14 (by decide) ?_
  refine v_bipush (v := (7)) dX12_command_15 (by decide) ?_
  refine k_X12_66 dX12_command_17 rfl (r_isIn htr 7 1 7) (Nat.le_of_ble_eq_true rfl) (by omega) (by omega) (Nat.le_of_ble_eq_true rfl) (fun r17 M9 h9 => ?_) (fun _ _ h9 => h9.elim)
  obtain ⟨rfl, e9⟩ := h9
  subst M9
  refine v_if_eq (tgt := 34) dX12_command_20 (by decide) (fun h20 => ?_) (fun h20 => ?_)
  · exact absurd h20 (by decide)
  · refine v_aload_n dX12_command_23 rfl rfl ?_
    refine gf_X12_47 dX12_command_24 rfl hMo ?_
    refine v_iconst (v := 0) dX12_command_27 (by decide) ?_
    refine v_aload_n dX12_command_28 rfl rfl ?_
    refine v_iconst (v := 1) dX12_command_29 (by decide) ?_
    refine k_X12_218 dX12_command_30 rfl (r_digits htr hC e0 e61 e60 (bi_01 _) (f0 := 1) (by decide)) hMo (Nat.le_of_ble_eq_true rfl) (by omega) (by omega) (Nat.le_of_ble_eq_true rfl) (fun r30 M9 h9 => ?_) (fun _ _ h9 => h9.elim)
    obtain ⟨h9, hF9⟩ := h9
    have hF := Frm.tr hF hF9
    obtain ⟨hx9, hC⟩ := dgU h9
    obtain ⟨e0, e61⟩ := pE_in (tx := tx) 0 e60 e0 e61
    obtain ⟨s1, x1, hq1⟩ : ∃ s x, pE tx en 0 s0 = (s, x) := ⟨_, _, rfl⟩
    rw [hq1] at hx9 hC e0 e61
    dsimp only at hx9 hC e0 e61
    have hx9 := hx9.symm
    subst hx9
    obtain ⟨hMo, hw5, hw6, hw7, hw8, hw9, hw10, hw11, hw13, hw14, hw15, hw16, hw17, hw18, -⟩ := _root_.id hC
    refine v_iast dX12_command_33 hw16 (by decide) (by decide) ?_
    refine V.md (Md.r16 hC) (Frm.tr hF (Frm.up (hC.kd_r16))) (fun M1 hC hF => ?_)
    obtain ⟨hMo, hw5, hw6, hw7, hw8, hw9, hw10, hw11, hw13, hw14, hw15, hw16, hw17, hw18, -⟩ := _root_.id hC
    refine v_iload_n dX12_command_34 rfl rfl ?_
    refine v_iconst (v := 1) dX12_command_35 (by decide) ?_
    refine v_icmp_eq (tgt := 50) dX12_command_36 (by decide) (fun h36 => ?_) (fun h36 => ?_)
    · exact absurd h36 (by decide)
    · refine v_iload_n dX12_command_39 rfl rfl ?_
      refine v_iconst (v := 3) dX12_command_40 (by decide) ?_
      refine v_icmp_eq (tgt := 50) dX12_command_41 (by decide) (fun h41 => ?_) (fun h41 => ?_)
      · exact absurd h41 (by decide)
      · refine v_iload_n dX12_command_44 rfl rfl ?_
        refine v_bipush (v := (7)) dX12_command_45 (by decide) ?_
        refine v_icmp_ne (tgt := 61) dX12_command_47 (by decide) (fun h47 => ?_) (fun h47 => ?_)
        · exact absurd h47 (by decide)
        · refine v_aload_n dX12_command_50 rfl rfl ?_
          refine gf_X12_47 dX12_command_51 rfl hMo ?_
          refine v_iconst (v := 1) dX12_command_54 (by decide) ?_
          refine v_aload_n dX12_command_55 rfl rfl ?_
          refine v_iconst (v := 1) dX12_command_56 (by decide) ?_
          refine k_X12_218 dX12_command_57 rfl (r_digits htr hC e0 e61 e60 (bi_01 _) (f0 := 1) (by decide)) hMo (Nat.le_of_ble_eq_true rfl) (by omega) (by omega) (Nat.le_of_ble_eq_true rfl) (fun r57 M9 h9 => ?_) (fun _ _ h9 => h9.elim)
          obtain ⟨h9, hF9⟩ := h9
          have hF := Frm.tr hF hF9
          obtain ⟨hx9, hC⟩ := dgU h9
          obtain ⟨e0, e61⟩ := pE_in (tx := tx) 0 e60 e0 e61
          obtain ⟨s2, x2, hq2⟩ : ∃ s x, pE tx en 0 s1 = (s, x) := ⟨_, _, rfl⟩
          rw [hq2] at hx9 hC e0 e61
          dsimp only at hx9 hC e0 e61
          have hx9 := hx9.symm
          subst hx9
          obtain ⟨hMo, hw5, hw6, hw7, hw8, hw9, hw10, hw11, hw13, hw14, hw15, hw16, hw17, hw18, -⟩ := _root_.id hC
          refine v_iast dX12_command_60 hw16 (by decide) (by decide) ?_
          refine V.md (Md.r16 hC) (Frm.tr hF (Frm.up (hC.kd_r16))) (fun M1 hC hF => ?_)
          obtain ⟨hMo, hw5, hw6, hw7, hw8, hw9, hw10, hw11, hw13, hw14, hw15, hw16, hw17, hw18, -⟩ := _root_.id hC
          refine v_iload_n dX12_command_61 rfl rfl ?_
          refine v_iconst (v := 1) dX12_command_62 (by decide) ?_
          refine v_icmp_eq (tgt := 71) dX12_command_63 (by decide) (fun h63 => ?_) (fun h63 => ?_)
          · exact absurd h63 (by decide)
          · refine v_iload_n dX12_command_66 rfl rfl ?_
            refine v_iconst (v := 3) dX12_command_67 (by decide) ?_
            refine v_icmp_ne (tgt := 82) dX12_command_68 (by decide) (fun h68 => ?_) (fun h68 => ?_)
            · refine v_iload_n dX12_command_82 rfl rfl ?_
              refine v_iconst (v := 3) dX12_command_83 (by decide) ?_
              refine v_icmp_ne (tgt := 98) dX12_command_84 (by decide) (fun h84 => ?_) (fun h84 => ?_)
              · refine v_iload_n dX12_command_98 rfl rfl ?_
                refine v_iconst (v := 3) dX12_command_99 (by decide) ?_
                refine v_icmp_ne (tgt := 114) dX12_command_100 (by decide) (fun h100 => ?_) (fun h100 => ?_)
                · refine v_iload_n dX12_command_114 rfl rfl ?_
                  refine v_iconst (v := 2) dX12_command_115 (by decide) ?_
                  refine v_icmp_eq (tgt := 129) dX12_command_116 (by decide) (fun h116 => ?_) (fun h116 => ?_)
                  · exact absurd h116 (by decide)
                  · refine v_iload_n dX12_command_119 rfl rfl ?_
                    refine v_iconst (v := 4) dX12_command_120 (by decide) ?_
                    refine v_icmp_eq (tgt := 129) dX12_command_121 (by decide) (fun h121 => ?_) (fun h121 => ?_)
                    · exact absurd h121 (by decide)
                    · refine v_iload_n dX12_command_124 rfl rfl ?_
                      refine v_iconst (v := 5) dX12_command_125 (by decide) ?_
                      refine v_icmp_ne (tgt := 140) dX12_command_126 (by decide) (fun h126 => ?_) (fun h126 => ?_)
                      · refine v_iload_n dX12_command_140 rfl rfl ?_
                        refine v_bipush (v := (8)) dX12_command_141 (by decide) ?_
                        refine v_icmp_ne (tgt := 156) dX12_command_143 (by decide) (fun h143 => ?_) (fun h143 => ?_)
                        · refine v_iload_n dX12_command_156 rfl rfl ?_
                          refine v_bipush (v := (9)) dX12_command_157 (by decide) ?_
                          refine v_icmp_ne (tgt := 186) dX12_command_159 (by decide) (fun h159 => ?_) (fun h159 => ?_)
                          · refine v_aload_n dX12_command_186 rfl rfl ?_
                            refine gf_X12_208 dX12_command_187 rfl hMo ?_
                            refine v_if_ne (tgt := 200) dX12_command_190 (by decide) (fun h190 => ?_) (fun h190 => ?_)
                            · have hb : s2.2 = true := bi_t _ h190
                              have hP9 : prs tx en (prt 7) s0 = (s2, [x1, x2]) := by simp only [show prt 7 = [0, 0] from rfl, prs, hq1, hq2]
                              rw [hb] at hC
                              exact v_vret dX12_command_200 rfl (by first | exact ⟨lf, _, s2.1, Or.inl ⟨Or.inr ⟨7, by decide, hWd, by rw [← hs0, hP9, ← hb]⟩, hC⟩, hF⟩ | exact ⟨lf, _, s2.1, Or.inr ⟨7, [x1, x2], ⟨by decide, hWd, by rw [← hs0, hP9, ← hb]⟩, (fun j hj => match j, hj with
            | 0, _ => (ui_n (by decide)).trans (ui_s)
            | 1, _ => ui_s
            | j + 2, h => absurd h (by show ¬ (j + 2 < 2); omega)), Or.inl ⟨h197, hC⟩⟩, hF⟩) (by omega) (by omega)
                            · have hb : s2.2 = false := bi_f _ h190
                              have hP9 : prs tx en (prt 7) s0 = (s2, [x1, x2]) := by simp only [show prt 7 = [0, 0] from rfl, prs, hq1, hq2]
                              rw [hb] at hC
                              refine v_aload_n dX12_command_193 rfl rfl ?_
                              refine gf_X12_230 dX12_command_194 rfl hMo ?_
                              refine v_if_ne (tgt := 201) dX12_command_197 (by decide) (fun h197 => ?_) (fun h197 => ?_)
                              · refine v_aload_n dX12_command_201 rfl rfl ?_
                                refine v_iload_n dX12_command_202 rfl rfl ?_
                                refine k_X12_233 dX12_command_203 rfl (r_does_7 htr hC hG) hMo (Nat.le_of_ble_eq_true rfl) (by omega) (by omega) (Nat.le_of_ble_eq_true rfl) (fun r203 M9 h9 => ?_) (fun _ _ h9 => h9.elim)
                                refine v_istore_2 dX12_command_206 ?_
                                exact v_vret dX12_command_207 rfl (by
      obtain ⟨w9, f9, hw9, hd9, hF9⟩ := h9
      have hF := Frm.tr hF hF9
      have hok9 := vdGo_0 hw9
      refine ⟨lf, (ui (ui to 0 x1) 1 x2), s2.1, Or.inr ⟨7, [x1, x2], ⟨by decide, hWd, by rw [← hs0, hP9, ← hb]⟩, (fun j hj => match j, hj with
            | 0, _ => (ui_n (by decide)).trans (ui_s)
            | 1, _ => ui_s
            | j + 2, h => absurd h (by show ¬ (j + 2 < 2); omega)), Or.inr ⟨h197, ?_⟩⟩, hF⟩
      rcases hd9 with ⟨hv, hx, hC⟩ | ⟨hv, hx, hC⟩
      · have ho := hok9.mp hv
        obtain ⟨o1, o2, o3, -⟩ : hsl v _ ∧ hst v _ ∧ ¬ (0 < sd v _ 2 ∨ sd v _ 1 = _) ∧ ∃ d, Wks v (sd v _ 1) _ d := _root_.id ho
        exact Or.inl ⟨ho, _, w9, _, _, _, ⟨(hw9 o1 o2).resolve_right o3, rfl⟩, hC⟩
      · exact Or.inr ⟨fun z => hv (hok9.mpr z), _, _, fcI_ne _ _, hC⟩) (by omega) (by omega)
                              · exact v_vret dX12_command_200 rfl (by first | exact ⟨lf, _, s2.1, Or.inl ⟨Or.inr ⟨7, by decide, hWd, by rw [← hs0, hP9, ← hb]⟩, hC⟩, hF⟩ | exact ⟨lf, _, s2.1, Or.inr ⟨7, [x1, x2], ⟨by decide, hWd, by rw [← hs0, hP9, ← hb]⟩, (fun j hj => match j, hj with
            | 0, _ => (ui_n (by decide)).trans (ui_s)
            | 1, _ => ui_s
            | j + 2, h => absurd h (by show ¬ (j + 2 < 2); omega)), Or.inl ⟨h197, hC⟩⟩, hF⟩) (by omega) (by omega)
                          · exact absurd h159 (by decide)
                        · exact absurd h143 (by decide)
                      · exact absurd h126 (by decide)
                · exact absurd h100 (by decide)
              · exact absurd h84 (by decide)
            · exact absurd h68 (by decide)
set_option maxRecDepth 100000 in
set_option maxHeartbeats 4000000 in
theorem r_cmd_8 {l : Launch} {g : Nat → Nat} {M M1 : LH} {X : CX} (htr : l.stackTraces = false) {kd : Nat → Nat} {r m : Nat} {w : Nat → Nat} {ch ea fl sv bf tn he en ln wr dg : Int32} {v b4 sa pa fr th bs tx li lf to : Int32 → Int32} {s0 : Int32 × Bool} (hs0 : s0 = (he + nI (wrd 8).length, false)) (hWd : (mtW (sgS tx en he) 8 (wrd 8).length)) (hG : Good v) (e60 : en ≤ 60) (e0 : 0 ≤ s0.1) (e61 : s0.1 ≤ 60) (hC : Md kd r M1 m w 0 ch ea fl sv bf tn s0.1 en ln (bi s0.2) dg v b4 sa pa fr th bs tx li lf to) (hF : Frm kd r M M1) : V l g yX12_command cX12_command (none) [] 5 0 0 (RV (fun M9 => ∃ (lf9 to9 : Int32 → Int32) (e9 : Int32), ((cmE tx en he e9 ∧ Md kd r M9 m w 0 ch ea fl sv bf tn e9 en ln 1 dg v b4 sa pa fr th bs tx li lf9 to9) ∨ (∃ i ns, cmG tx en he i e9 ns ∧ (∀ j, j < arN i → to9 (nI j) = ns.getD j 0) ∧ ((dg = 0 ∧ Md kd r M9 m w 0 ch ea fl sv bf tn e9 en ln 0 dg v b4 sa pa fr th bs tx li lf9 to9) ∨ (¬ dg = 0 ∧ ((okJ v to9 i ∧ ∃ (v' : Int32 → Int32) (x9 b9 : Int32) (f9 h9 : Int32 → Int32), ddS v to9 i v' x9 ∧ Md kd r M9 m w 0 ch ea fl sv b9 tn e9 en ln 0 dg v' b4 sa pa f9 h9 bs tx li lf9 to9) ∨ (¬ okJ v to9 i ∧ ∃ (t9 : Int32) (f9 : Int32 → Int32), ¬ t9 = 0 ∧ Md kd r M9 m w t9 ch ea fl sv bf tn e9 en ln 0 dg v b4 sa pa f9 th bs tx li lf9 to9)))))) ∧ Frm kd r M M9) nX) X M1 0 0 13 [some (.ref m), some (.int 8), none] [] := by
  have hsf : s0.2 = false := by rw [hs0]
  obtain ⟨hMo, hw5, hw6, hw7, hw8, hw9, hw10, hw11, hw13, hw14, hw15, hw16, hw17, hw18, -⟩ := _root_.id hC
  refine v_iload_n dX12_command_13 rfl rfl ?_
  refine v_iconst (v := 1) dX12_command_14 (by decide) ?_
  refine v_bipush (v := (7)) dX12_command_15 (by decide) ?_
  refine k_X12_66 dX12_command_17 rfl (r_isIn htr 8 1 7) (Nat.le_of_ble_eq_true rfl) (by omega) (by omega) (Nat.le_of_ble_eq_true rfl) (fun r17 M9 h9 => ?_) (fun _ _ h9 => h9.elim)
  obtain ⟨rfl, e9⟩ := h9
  subst M9
  refine v_if_eq (tgt := 34) dX12_command_20 (by decide) (fun h20 => ?_) (fun h20 => ?_)
  · refine v_iload_n dX12_command_34 rfl rfl ?_
    refine v_iconst (v := 1) dX12_command_35 (by decide) ?_
    refine v_icmp_eq (tgt := 50) dX12_command_36 (by decide) (fun h36 => ?_) (fun h36 => ?_)
    · exact absurd h36 (by decide)
    · refine v_iload_n dX12_command_39 rfl rfl ?_
      refine v_iconst (v := 3) dX12_command_40 (by decide) ?_
      refine v_icmp_eq (tgt := 50) dX12_command_41 (by decide) (fun h41 => ?_) (fun h41 => ?_)
      · exact absurd h41 (by decide)
      · refine v_iload_n dX12_command_44 rfl rfl ?_
        refine v_bipush (v := (7)) dX12_command_45 (by decide) ?_
        refine v_icmp_ne (tgt := 61) dX12_command_47 (by decide) (fun h47 => ?_) (fun h47 => ?_)
        · refine v_iload_n dX12_command_61 rfl rfl ?_
          refine v_iconst (v := 1) dX12_command_62 (by decide) ?_
          refine v_icmp_eq (tgt := 71) dX12_command_63 (by decide) (fun h63 => ?_) (fun h63 => ?_)
          · exact absurd h63 (by decide)
          · refine v_iload_n dX12_command_66 rfl rfl ?_
            refine v_iconst (v := 3) dX12_command_67 (by decide) ?_
            refine v_icmp_ne (tgt := 82) dX12_command_68 (by decide) (fun h68 => ?_) (fun h68 => ?_)
            · refine v_iload_n dX12_command_82 rfl rfl ?_
              refine v_iconst (v := 3) dX12_command_83 (by decide) ?_
              refine v_icmp_ne (tgt := 98) dX12_command_84 (by decide) (fun h84 => ?_) (fun h84 => ?_)
              · refine v_iload_n dX12_command_98 rfl rfl ?_
                refine v_iconst (v := 3) dX12_command_99 (by decide) ?_
                refine v_icmp_ne (tgt := 114) dX12_command_100 (by decide) (fun h100 => ?_) (fun h100 => ?_)
                · refine v_iload_n dX12_command_114 rfl rfl ?_
                  refine v_iconst (v := 2) dX12_command_115 (by decide) ?_
                  refine v_icmp_eq (tgt := 129) dX12_command_116 (by decide) (fun h116 => ?_) (fun h116 => ?_)
                  · exact absurd h116 (by decide)
                  · refine v_iload_n dX12_command_119 rfl rfl ?_
                    refine v_iconst (v := 4) dX12_command_120 (by decide) ?_
                    refine v_icmp_eq (tgt := 129) dX12_command_121 (by decide) (fun h121 => ?_) (fun h121 => ?_)
                    · exact absurd h121 (by decide)
                    · refine v_iload_n dX12_command_124 rfl rfl ?_
                      refine v_iconst (v := 5) dX12_command_125 (by decide) ?_
                      refine v_icmp_ne (tgt := 140) dX12_command_126 (by decide) (fun h126 => ?_) (fun h126 => ?_)
                      · refine v_iload_n dX12_command_140 rfl rfl ?_
                        refine v_bipush (v := (8)) dX12_command_141 (by decide) ?_
                        refine v_icmp_ne (tgt := 156) dX12_command_143 (by decide) (fun h143 => ?_) (fun h143 => ?_)
                        · exact absurd h143 (by decide)
                        · refine v_aload_n dX12_command_146 rfl rfl ?_
                          refine gf_X12_47 dX12_command_147 rfl hMo ?_
                          refine v_iconst (v := 0) dX12_command_150 (by decide) ?_
                          refine v_aload_n dX12_command_151 rfl rfl ?_
                          refine k_X12_227 dX12_command_152 rfl (r_degrees htr hC e0 e61 e60 (by rw [hsf]; rfl)) hMo (Nat.le_of_ble_eq_true rfl) (by omega) (by omega) (Nat.le_of_ble_eq_true rfl) (fun r152 M9 h9 => ?_) (fun _ _ h9 => h9.elim)
                          obtain ⟨hx9, hC, hF9⟩ := h9
                          have hF := Frm.tr hF hF9
                          obtain ⟨hx9, hC⟩ := deU hsf ⟨hx9, hC⟩
                          obtain ⟨e0, e61⟩ := pE_in (tx := tx) 2 e60 e0 e61
                          obtain ⟨s1, x1, hq1⟩ : ∃ s x, pE tx en 2 s0 = (s, x) := ⟨_, _, rfl⟩
                          rw [hq1] at hx9 hC e0 e61
                          dsimp only at hx9 hC e0 e61
                          have hx9 := hx9.symm
                          subst hx9
                          obtain ⟨hMo, hw5, hw6, hw7, hw8, hw9, hw10, hw11, hw13, hw14, hw15, hw16, hw17, hw18, -⟩ := _root_.id hC
                          refine v_iast dX12_command_155 hw16 (by decide) (by decide) ?_
                          refine V.md (Md.r16 hC) (Frm.tr hF (Frm.up (hC.kd_r16))) (fun M1 hC hF => ?_)
                          obtain ⟨hMo, hw5, hw6, hw7, hw8, hw9, hw10, hw11, hw13, hw14, hw15, hw16, hw17, hw18, -⟩ := _root_.id hC
                          refine v_iload_n dX12_command_156 rfl rfl ?_
                          refine v_bipush (v := (9)) dX12_command_157 (by decide) ?_
                          refine v_icmp_ne (tgt := 186) dX12_command_159 (by decide) (fun h159 => ?_) (fun h159 => ?_)
                          · refine v_aload_n dX12_command_186 rfl rfl ?_
                            refine gf_X12_208 dX12_command_187 rfl hMo ?_
                            refine v_if_ne (tgt := 200) dX12_command_190 (by decide) (fun h190 => ?_) (fun h190 => ?_)
                            · have hb : s1.2 = true := bi_t _ h190
                              have hP9 : prs tx en (prt 8) s0 = (s1, [x1]) := by simp only [show prt 8 = [2] from rfl, prs, hq1]
                              rw [hb] at hC
                              exact v_vret dX12_command_200 rfl (by first | exact ⟨lf, _, s1.1, Or.inl ⟨Or.inr ⟨8, by decide, hWd, by rw [← hs0, hP9, ← hb]⟩, hC⟩, hF⟩ | exact ⟨lf, _, s1.1, Or.inr ⟨8, [x1], ⟨by decide, hWd, by rw [← hs0, hP9, ← hb]⟩, (fun j hj => match j, hj with
            | 0, _ => ui_s
            | j + 1, h => absurd h (by show ¬ (j + 1 < 1); omega)), Or.inl ⟨h197, hC⟩⟩, hF⟩) (by omega) (by omega)
                            · have hb : s1.2 = false := bi_f _ h190
                              have hP9 : prs tx en (prt 8) s0 = (s1, [x1]) := by simp only [show prt 8 = [2] from rfl, prs, hq1]
                              rw [hb] at hC
                              refine v_aload_n dX12_command_193 rfl rfl ?_
                              refine gf_X12_230 dX12_command_194 rfl hMo ?_
                              refine v_if_ne (tgt := 201) dX12_command_197 (by decide) (fun h197 => ?_) (fun h197 => ?_)
                              · refine v_aload_n dX12_command_201 rfl rfl ?_
                                refine v_iload_n dX12_command_202 rfl rfl ?_
                                refine k_X12_233 dX12_command_203 rfl (r_does_8 htr hC hG) hMo (Nat.le_of_ble_eq_true rfl) (by omega) (by omega) (Nat.le_of_ble_eq_true rfl) (fun r203 M9 h9 => ?_) (fun _ _ h9 => h9.elim)
                                refine v_istore_2 dX12_command_206 ?_
                                exact v_vret dX12_command_207 rfl (by
      obtain ⟨hd9, hF9⟩ := h9
      have hF := Frm.tr hF hF9
      refine ⟨lf, (ui to 0 x1), s1.1, Or.inr ⟨8, [x1], ⟨by decide, hWd, by rw [← hs0, hP9, ← hb]⟩, (fun j hj => match j, hj with
            | 0, _ => ui_s
            | j + 1, h => absurd h (by show ¬ (j + 1 < 1); omega)), Or.inr ⟨h197, ?_⟩⟩, hF⟩
      rcases hd9 with ⟨hv, hx, hC⟩ | ⟨hv, hx, hC⟩
      · exact Or.inl ⟨hv, _, _, _, _, _, ⟨rfl, hx⟩, hC⟩
      · exact Or.inr ⟨hv, _, _, fcI_ne _ _, hC⟩) (by omega) (by omega)
                              · exact v_vret dX12_command_200 rfl (by first | exact ⟨lf, _, s1.1, Or.inl ⟨Or.inr ⟨8, by decide, hWd, by rw [← hs0, hP9, ← hb]⟩, hC⟩, hF⟩ | exact ⟨lf, _, s1.1, Or.inr ⟨8, [x1], ⟨by decide, hWd, by rw [← hs0, hP9, ← hb]⟩, (fun j hj => match j, hj with
            | 0, _ => ui_s
            | j + 1, h => absurd h (by show ¬ (j + 1 < 1); omega)), Or.inl ⟨h197, hC⟩⟩, hF⟩) (by omega) (by omega)
                          · exact absurd h159 (by decide)
                      · exact absurd h126 (by decide)
                · exact absurd h100 (by decide)
              · exact absurd h84 (by decide)
            · exact absurd h68 (by decide)
        · exact absurd h47 (by decide)
  · exact absurd h20 (by decide)
set_option maxRecDepth 100000 in
set_option maxHeartbeats 4000000 in
theorem r_cmd_9 {l : Launch} {g : Nat → Nat} {M M1 : LH} {X : CX} (htr : l.stackTraces = false) {kd : Nat → Nat} {r m : Nat} {w : Nat → Nat} {ch ea fl sv bf tn he en ln wr dg : Int32} {v b4 sa pa fr th bs tx li lf to : Int32 → Int32} {s0 : Int32 × Bool} (hs0 : s0 = (he + nI (wrd 9).length, false)) (hWd : (mtW (sgS tx en he) 9 (wrd 9).length)) (hG : Good v) (e60 : en ≤ 60) (e0 : 0 ≤ s0.1) (e61 : s0.1 ≤ 60) (hC : Md kd r M1 m w 0 ch ea fl sv bf tn s0.1 en ln (bi s0.2) dg v b4 sa pa fr th bs tx li lf to) (hF : Frm kd r M M1) : V l g yX12_command cX12_command (none) [] 5 0 0 (RV (fun M9 => ∃ (lf9 to9 : Int32 → Int32) (e9 : Int32), ((cmE tx en he e9 ∧ Md kd r M9 m w 0 ch ea fl sv bf tn e9 en ln 1 dg v b4 sa pa fr th bs tx li lf9 to9) ∨ (∃ i ns, cmG tx en he i e9 ns ∧ (∀ j, j < arN i → to9 (nI j) = ns.getD j 0) ∧ ((dg = 0 ∧ Md kd r M9 m w 0 ch ea fl sv bf tn e9 en ln 0 dg v b4 sa pa fr th bs tx li lf9 to9) ∨ (¬ dg = 0 ∧ ((okJ v to9 i ∧ ∃ (v' : Int32 → Int32) (x9 b9 : Int32) (f9 h9 : Int32 → Int32), ddS v to9 i v' x9 ∧ Md kd r M9 m w 0 ch ea fl sv b9 tn e9 en ln 0 dg v' b4 sa pa f9 h9 bs tx li lf9 to9) ∨ (¬ okJ v to9 i ∧ ∃ (t9 : Int32) (f9 : Int32 → Int32), ¬ t9 = 0 ∧ Md kd r M9 m w t9 ch ea fl sv bf tn e9 en ln 0 dg v b4 sa pa f9 th bs tx li lf9 to9)))))) ∧ Frm kd r M M9) nX) X M1 0 0 13 [some (.ref m), some (.int 9), none] [] := by
  have hsf : s0.2 = false := by rw [hs0]
  obtain ⟨hMo, hw5, hw6, hw7, hw8, hw9, hw10, hw11, hw13, hw14, hw15, hw16, hw17, hw18, -⟩ := _root_.id hC
  refine v_iload_n dX12_command_13 rfl rfl ?_
  refine v_iconst (v := 1) dX12_command_14 (by decide) ?_
  refine v_bipush (v := (7)) dX12_command_15 (by decide) ?_
  refine k_X12_66 dX12_command_17 rfl (r_isIn htr 9 1 7) (Nat.le_of_ble_eq_true rfl) (by omega) (by omega) (Nat.le_of_ble_eq_true rfl) (fun r17 M9 h9 => ?_) (fun _ _ h9 => h9.elim)
  obtain ⟨rfl, e9⟩ := h9
  subst M9
  refine v_if_eq (tgt := 34) dX12_command_20 (by decide) (fun h20 => ?_) (fun h20 => ?_)
  · refine v_iload_n dX12_command_34 rfl rfl ?_
    refine v_iconst (v := 1) dX12_command_35 (by decide) ?_
    refine v_icmp_eq (tgt := 50) dX12_command_36 (by decide) (fun h36 => ?_) (fun h36 => ?_)
    · exact absurd h36 (by decide)
    · refine v_iload_n dX12_command_39 rfl rfl ?_
      refine v_iconst (v := 3) dX12_command_40 (by decide) ?_
      refine v_icmp_eq (tgt := 50) dX12_command_41 (by decide) (fun h41 => ?_) (fun h41 => ?_)
      · exact absurd h41 (by decide)
      · refine v_iload_n dX12_command_44 rfl rfl ?_
        refine v_bipush (v := (7)) dX12_command_45 (by decide) ?_
        refine v_icmp_ne (tgt := 61) dX12_command_47 (by decide) (fun h47 => ?_) (fun h47 => ?_)
        · refine v_iload_n dX12_command_61 rfl rfl ?_
          refine v_iconst (v := 1) dX12_command_62 (by decide) ?_
          refine v_icmp_eq (tgt := 71) dX12_command_63 (by decide) (fun h63 => ?_) (fun h63 => ?_)
          · exact absurd h63 (by decide)
          · refine v_iload_n dX12_command_66 rfl rfl ?_
            refine v_iconst (v := 3) dX12_command_67 (by decide) ?_
            refine v_icmp_ne (tgt := 82) dX12_command_68 (by decide) (fun h68 => ?_) (fun h68 => ?_)
            · refine v_iload_n dX12_command_82 rfl rfl ?_
              refine v_iconst (v := 3) dX12_command_83 (by decide) ?_
              refine v_icmp_ne (tgt := 98) dX12_command_84 (by decide) (fun h84 => ?_) (fun h84 => ?_)
              · refine v_iload_n dX12_command_98 rfl rfl ?_
                refine v_iconst (v := 3) dX12_command_99 (by decide) ?_
                refine v_icmp_ne (tgt := 114) dX12_command_100 (by decide) (fun h100 => ?_) (fun h100 => ?_)
                · refine v_iload_n dX12_command_114 rfl rfl ?_
                  refine v_iconst (v := 2) dX12_command_115 (by decide) ?_
                  refine v_icmp_eq (tgt := 129) dX12_command_116 (by decide) (fun h116 => ?_) (fun h116 => ?_)
                  · exact absurd h116 (by decide)
                  · refine v_iload_n dX12_command_119 rfl rfl ?_
                    refine v_iconst (v := 4) dX12_command_120 (by decide) ?_
                    refine v_icmp_eq (tgt := 129) dX12_command_121 (by decide) (fun h121 => ?_) (fun h121 => ?_)
                    · exact absurd h121 (by decide)
                    · refine v_iload_n dX12_command_124 rfl rfl ?_
                      refine v_iconst (v := 5) dX12_command_125 (by decide) ?_
                      refine v_icmp_ne (tgt := 140) dX12_command_126 (by decide) (fun h126 => ?_) (fun h126 => ?_)
                      · refine v_iload_n dX12_command_140 rfl rfl ?_
                        refine v_bipush (v := (8)) dX12_command_141 (by decide) ?_
                        refine v_icmp_ne (tgt := 156) dX12_command_143 (by decide) (fun h143 => ?_) (fun h143 => ?_)
                        · refine v_iload_n dX12_command_156 rfl rfl ?_
                          refine v_bipush (v := (9)) dX12_command_157 (by decide) ?_
                          refine v_icmp_ne (tgt := 186) dX12_command_159 (by decide) (fun h159 => ?_) (fun h159 => ?_)
                          · exact absurd h159 (by decide)
                          · refine v_aload_n dX12_command_162 rfl rfl ?_
                            refine gf_X12_47 dX12_command_163 rfl hMo ?_
                            refine v_iconst (v := 0) dX12_command_166 (by decide) ?_
                            refine v_aload_n dX12_command_167 rfl rfl ?_
                            refine k_X12_212 dX12_command_168 rfl (r_sign htr hC e0 e60) hMo (Nat.le_of_ble_eq_true rfl) (by omega) (by omega) (Nat.le_of_ble_eq_true rfl) (fun r168 M9 h9 => ?_) (fun _ _ h9 => h9.elim)
                            obtain ⟨rfl, e9⟩ := h9
                            subst M9
                            refine v_bipush (v := (32)) dX12_command_171 (by decide) ?_
                            refine v_icmp_ne (tgt := 184) dX12_command_173 (by decide) (fun h173 => ?_) (fun h173 => ?_)
                            · obtain ⟨s1, hs1⟩ : ∃ s, s = s0 := ⟨_, rfl⟩
                              obtain ⟨x1, hx1⟩ : ∃ x : Int32, x = 1 := ⟨_, rfl⟩
                              have hq1 : pE tx en 3 s0 = (s1, x1) := by
                                rw [hs1, hx1, pE_f hsf, pG_3n (k := 0) h173, ← hsf]
                              rw [← hs1] at hC
                              refine v_iconst (v := 1) dX12_command_184 (by decide) ?_
                              rw [← hx1]
                              obtain ⟨hMo, hw5, hw6, hw7, hw8, hw9, hw10, hw11, hw13, hw14, hw15, hw16, hw17, hw18, -⟩ := _root_.id hC
                              refine v_iast dX12_command_185 hw16 (by decide) (by decide) ?_
                              refine V.md (Md.r16 hC) (Frm.tr hF (Frm.up (hC.kd_r16))) (fun M1 hC hF => ?_)
                              obtain ⟨hMo, hw5, hw6, hw7, hw8, hw9, hw10, hw11, hw13, hw14, hw15, hw16, hw17, hw18, -⟩ := _root_.id hC
                              refine v_aload_n dX12_command_186 rfl rfl ?_
                              refine gf_X12_208 dX12_command_187 rfl hMo ?_
                              refine v_if_ne (tgt := 200) dX12_command_190 (by decide) (fun h190 => ?_) (fun h190 => ?_)
                              · exact absurd (bi_t _ h190) (by rw [hs1, hsf]; decide)
                              · have hb : s1.2 = false := bi_f _ h190
                                have hP9 : prs tx en (prt 9) s0 = (s1, [x1]) := by simp only [show prt 9 = [3] from rfl, prs, hq1]
                                rw [hb] at hC
                                refine v_aload_n dX12_command_193 rfl rfl ?_
                                refine gf_X12_230 dX12_command_194 rfl hMo ?_
                                refine v_if_ne (tgt := 201) dX12_command_197 (by decide) (fun h197 => ?_) (fun h197 => ?_)
                                · refine v_aload_n dX12_command_201 rfl rfl ?_
                                  refine v_iload_n dX12_command_202 rfl rfl ?_
                                  refine k_X12_233 dX12_command_203 rfl (r_does_9 htr hC hG) hMo (Nat.le_of_ble_eq_true rfl) (by omega) (by omega) (Nat.le_of_ble_eq_true rfl) (fun r203 M9 h9 => ?_) (fun _ _ h9 => h9.elim)
                                  refine v_istore_2 dX12_command_206 ?_
                                  exact v_vret dX12_command_207 rfl (by
      obtain ⟨hd9, hF9⟩ := h9
      have hF := Frm.tr hF hF9
      refine ⟨lf, (ui to 0 x1), s1.1, Or.inr ⟨9, [x1], ⟨by decide, hWd, by rw [← hs0, hP9, ← hb]⟩, (fun j hj => match j, hj with
            | 0, _ => ui_s
            | j + 1, h => absurd h (by show ¬ (j + 1 < 1); omega)), Or.inr ⟨h197, ?_⟩⟩, hF⟩
      rcases hd9 with ⟨hv, hx, hC⟩ | ⟨hv, hx, hC⟩
      · exact Or.inl ⟨hv, _, _, _, _, _, ⟨rfl, hx⟩, hC⟩
      · exact Or.inr ⟨hv, _, _, fcI_ne _ _, hC⟩) (by omega) (by omega)
                                · exact v_vret dX12_command_200 rfl (by first | exact ⟨lf, _, s1.1, Or.inl ⟨Or.inr ⟨9, by decide, hWd, by rw [← hs0, hP9, ← hb]⟩, hC⟩, hF⟩ | exact ⟨lf, _, s1.1, Or.inr ⟨9, [x1], ⟨by decide, hWd, by rw [← hs0, hP9, ← hb]⟩, (fun j hj => match j, hj with
            | 0, _ => ui_s
            | j + 1, h => absurd h (by show ¬ (j + 1 < 1); omega)), Or.inl ⟨h197, hC⟩⟩, hF⟩) (by omega) (by omega)
                            · refine v_aload_n dX12_command_176 rfl rfl ?_
                              refine v_iconst (v := 3) dX12_command_177 (by decide) ?_
                              refine k_X12_224 dX12_command_178 rfl (r_behind htr hC e0 e61 e60 (bi_01 _) (f0 := 3) (by decide)) hMo (Nat.le_of_ble_eq_true rfl) (by omega) (by omega) (Nat.le_of_ble_eq_true rfl) (fun r178 M9 h9 => ?_) (fun _ _ h9 => h9.elim)
                              obtain ⟨h9, hF9⟩ := h9
                              have hF := Frm.tr hF hF9
                              obtain ⟨hx9, hC⟩ := bhU h9
                              obtain ⟨e0, e61⟩ := pE_in (tx := tx) 1 e60 e0 e61
                              obtain ⟨s1, x1, hq1⟩ : ∃ s x, pE tx en 1 s0 = (s, x) := ⟨_, _, rfl⟩
                              rw [hq1] at hx9 hC e0 e61
                              dsimp only at hx9 hC e0 e61
                              have hx9 := hx9.symm
                              subst hx9
                              obtain ⟨hMo, hw5, hw6, hw7, hw8, hw9, hw10, hw11, hw13, hw14, hw15, hw16, hw17, hw18, -⟩ := _root_.id hC
                              have hq1 : pE tx en 3 s0 = (s1, x1) := by
                                rw [← hq1, pE_f hsf, pE_f hsf, pG_3y (k := 0) h173, pG_1y h173]
                              refine v_goto (tgt := 185) dX12_command_181 (by decide) ?_
                              refine v_iast dX12_command_185 hw16 (by decide) (by decide) ?_
                              refine V.md (Md.r16 hC) (Frm.tr hF (Frm.up (hC.kd_r16))) (fun M1 hC hF => ?_)
                              obtain ⟨hMo, hw5, hw6, hw7, hw8, hw9, hw10, hw11, hw13, hw14, hw15, hw16, hw17, hw18, -⟩ := _root_.id hC
                              refine v_aload_n dX12_command_186 rfl rfl ?_
                              refine gf_X12_208 dX12_command_187 rfl hMo ?_
                              refine v_if_ne (tgt := 200) dX12_command_190 (by decide) (fun h190 => ?_) (fun h190 => ?_)
                              · have hb : s1.2 = true := bi_t _ h190
                                have hP9 : prs tx en (prt 9) s0 = (s1, [x1]) := by simp only [show prt 9 = [3] from rfl, prs, hq1]
                                rw [hb] at hC
                                exact v_vret dX12_command_200 rfl (by first | exact ⟨lf, _, s1.1, Or.inl ⟨Or.inr ⟨9, by decide, hWd, by rw [← hs0, hP9, ← hb]⟩, hC⟩, hF⟩ | exact ⟨lf, _, s1.1, Or.inr ⟨9, [x1], ⟨by decide, hWd, by rw [← hs0, hP9, ← hb]⟩, (fun j hj => match j, hj with
            | 0, _ => ui_s
            | j + 1, h => absurd h (by show ¬ (j + 1 < 1); omega)), Or.inl ⟨h197, hC⟩⟩, hF⟩) (by omega) (by omega)
                              · have hb : s1.2 = false := bi_f _ h190
                                have hP9 : prs tx en (prt 9) s0 = (s1, [x1]) := by simp only [show prt 9 = [3] from rfl, prs, hq1]
                                rw [hb] at hC
                                refine v_aload_n dX12_command_193 rfl rfl ?_
                                refine gf_X12_230 dX12_command_194 rfl hMo ?_
                                refine v_if_ne (tgt := 201) dX12_command_197 (by decide) (fun h197 => ?_) (fun h197 => ?_)
                                · refine v_aload_n dX12_command_201 rfl rfl ?_
                                  refine v_iload_n dX12_command_202 rfl rfl ?_
                                  refine k_X12_233 dX12_command_203 rfl (r_does_9 htr hC hG) hMo (Nat.le_of_ble_eq_true rfl) (by omega) (by omega) (Nat.le_of_ble_eq_true rfl) (fun r203 M9 h9 => ?_) (fun _ _ h9 => h9.elim)
                                  refine v_istore_2 dX12_command_206 ?_
                                  exact v_vret dX12_command_207 rfl (by
      obtain ⟨hd9, hF9⟩ := h9
      have hF := Frm.tr hF hF9
      refine ⟨lf, (ui to 0 x1), s1.1, Or.inr ⟨9, [x1], ⟨by decide, hWd, by rw [← hs0, hP9, ← hb]⟩, (fun j hj => match j, hj with
            | 0, _ => ui_s
            | j + 1, h => absurd h (by show ¬ (j + 1 < 1); omega)), Or.inr ⟨h197, ?_⟩⟩, hF⟩
      rcases hd9 with ⟨hv, hx, hC⟩ | ⟨hv, hx, hC⟩
      · exact Or.inl ⟨hv, _, _, _, _, _, ⟨rfl, hx⟩, hC⟩
      · exact Or.inr ⟨hv, _, _, fcI_ne _ _, hC⟩) (by omega) (by omega)
                                · exact v_vret dX12_command_200 rfl (by first | exact ⟨lf, _, s1.1, Or.inl ⟨Or.inr ⟨9, by decide, hWd, by rw [← hs0, hP9, ← hb]⟩, hC⟩, hF⟩ | exact ⟨lf, _, s1.1, Or.inr ⟨9, [x1], ⟨by decide, hWd, by rw [← hs0, hP9, ← hb]⟩, (fun j hj => match j, hj with
            | 0, _ => ui_s
            | j + 1, h => absurd h (by show ¬ (j + 1 < 1); omega)), Or.inl ⟨h197, hC⟩⟩, hF⟩) (by omega) (by omega)
                        · exact absurd h143 (by decide)
                      · exact absurd h126 (by decide)
                · exact absurd h100 (by decide)
              · exact absurd h84 (by decide)
            · exact absurd h68 (by decide)
        · exact absurd h47 (by decide)
  · exact absurd h20 (by decide)
