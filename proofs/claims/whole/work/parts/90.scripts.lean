/-! ===== the reader: the whole script ===== -/
/-- the script has no form from he on: the place of its error -/
def scE (tx : Int32 → Int32) (en : Int32) : Nat → Int32 → Int32 → Prop
  | 0, _, _ => False
  | f + 1, he, e => cmE tx en he e ∨ ∃ i e1 ns, cmG tx en he i e1 ns ∧ e1 < en ∧ ((¬ sgN tx en e1 = 59 ∧ e = e1) ∨ (sgN tx en e1 = 59 ∧ scE tx en f (e1 + 1) e))
/-- the commands of the script from he on -/
def scG (tx : Int32 → Int32) (en : Int32) : List (Nat × List Int32) → Int32 → Prop
  | [], _ => False
  | c :: cs, he => ∃ e1, cmG tx en he c.1 e1 c.2 ∧ ((cs = [] ∧ ¬ e1 < en) ∨ (e1 < en ∧ sgN tx en e1 = 59 ∧ scG tx en cs (e1 + 1)))
theorem cmG_lt {tx : Int32 → Int32} {en he e : Int32} {i : Nat} {ns : List Int32} (e0 : 0 ≤ he) (e61 : he ≤ 60) (e60 : en ≤ 60) (h : cmG tx en he i e ns) : he + 1 ≤ e ∧ 0 ≤ e ∧ e ≤ 60 ∧ he < en := by
  obtain ⟨hi, hm, hp⟩ := h
  obtain ⟨p0, p1⟩ := mtW_in hm hi e0 e61 e60
  have q := prs_in (tx := tx) e60 (prt i) (he + nI (wrd i).length, false) p0 p1
  rw [hp] at q
  have h2 := at_le e0 e61 (wrd_0 i hi) (by have := wrd_7 i hi; omega)
  refine ⟨Int32.le_trans h2 q.1, q.2.1, q.2.2, ?_⟩
  have h3 := hm.2 0 (wrd_0 i hi)
  have h4 : sgN tx en he = (wrd i).getD 0 0 := by
    rw [h3]
    show _ = sgN tx en (he + nI 0)
    rw [show he + nI 0 = he from Int32.add_zero he]
  refine Classical.byContradiction (fun z => ?_)
  rw [sgN_f z] at h4
  exact wrd_ne i hi 0 (wrd_0 i hi) h4.symm
theorem lt_60 {e1 en : Int32} (e60 : en ≤ 60) (a : 0 ≤ e1) (h : e1 < en) : 0 ≤ e1 + 1 ∧ e1 + 1 ≤ 60 ∧ (e1 + 1).toNatClampNeg = e1.toNatClampNeg + 1 ∧ e1.toNatClampNeg < 60 := by
  have h60 : e1 < 60 := Int32.lt_of_lt_of_le h e60
  refine ⟨by lia, by lia, tc_1 a h, ?_⟩
  have := tc_lt a h60
  exact Nat.lt_of_lt_of_eq this rfl
theorem scE_in {tx : Int32 → Int32} {en : Int32} (e60 : en ≤ 60) : ∀ (f : Nat) (he e : Int32), 0 ≤ he → he ≤ 60 → scE tx en f he e → 0 ≤ e ∧ e ≤ 60 := by
  intro f
  induction f with
  | zero => exact fun he e _ _ h => h.elim
  | succ f ih =>
    intro he e a b h
    rcases h with h | ⟨i, e1, ns, hG, h1, ⟨-, rfl⟩ | ⟨-, h⟩⟩
    · obtain ⟨-, x, y⟩ := cmE_ge a b e60 h
      exact ⟨y, x⟩
    · obtain ⟨-, x, y, -⟩ := cmG_lt a b e60 hG
      exact ⟨x, y⟩
    · obtain ⟨-, x, y, -⟩ := cmG_lt a b e60 hG
      obtain ⟨z1, z2, -⟩ := lt_60 e60 x h1
      exact ih _ _ z1 z2 h
theorem scE_G {tx : Int32 → Int32} {en : Int32} (e60 : en ≤ 60) : ∀ (f : Nat) (he e : Int32) (cs : List (Nat × List Int32)), 0 ≤ he → he ≤ 60 → scE tx en f he e → scG tx en cs he → False := by
  intro f
  induction f with
  | zero => exact fun he e _ _ _ h => h.elim
  | succ f ih =>
    intro he e cs a b h h2
    match cs, h2 with
    | c :: cs, ⟨e1, hG, h3⟩ =>
      rcases h with h | ⟨i, e2, ns, hG2, h1, h4⟩
      · exact cm_ex a b e60 hG h
      · obtain ⟨-, rfl, -⟩ := cm_un hG hG2
        obtain ⟨-, x, y, -⟩ := cmG_lt a b e60 hG
        obtain ⟨z1, z2, -⟩ := lt_60 e60 x h1
        rcases h3 with ⟨-, q⟩ | ⟨-, q, h5⟩
        · exact q h1
        · rcases h4 with ⟨p, -⟩ | ⟨-, h6⟩
          · exact p q
          · exact ih _ _ _ z1 z2 h6 h5
theorem scG_un {tx : Int32 → Int32} {en : Int32} : ∀ (cs cs' : List (Nat × List Int32)) (he : Int32), scG tx en cs he → scG tx en cs' he → cs = cs' := by
  intro cs
  induction cs with
  | nil => exact fun _ _ h => h.elim
  | cons c cs ih =>
    intro cs' he h h2
    match cs', h2 with
    | c' :: cs', ⟨e2, hG2, h4⟩ =>
      obtain ⟨e1, hG, h3⟩ := h
      obtain ⟨q1, rfl, q2⟩ := cm_un hG hG2
      have e : c = c' := Prod.ext q1 q2
      subst e
      rcases h3 with ⟨rfl, p⟩ | ⟨p, p2, h5⟩ <;> rcases h4 with ⟨rfl, q⟩ | ⟨q, q2, h6⟩
      · rfl
      · exact absurd q p
      · exact absurd p q
      · rw [ih _ _ h5 h6]
/-- commas and points: how many places below n hold the sign 59 -/
def cPt (tx : Int32 → Int32) : Nat → Nat
  | 0 => 0
  | n + 1 => cPt tx n + if tx (nI n) = 59 then 1 else 0
theorem cPt_no {tx : Int32 → Int32} : ∀ (d m : Nat), (∀ p, m ≤ p → p < m + d → ¬ tx (nI p) = 59) → cPt tx (m + d) = cPt tx m := by
  intro d
  induction d with
  | zero => exact fun _ _ => rfl
  | succ d ih =>
    intro m h
    show cPt tx (m + d) + (if tx (nI (m + d)) = 59 then 1 else 0) = _
    rw [if_neg (h (m + d) (by omega) (by omega)), Nat.add_zero, ih m (fun p a b => h p a (by omega))]
theorem rdD_no {tx : Int32 → Int32} {en : Int32} (e60 : en ≤ 60) : ∀ (f : Nat) (he n p : Int32), 0 ≤ he → he ≤ 60 → he ≤ p → p < (rdD tx en f he n).1 → ¬ sgN tx en p = 59 := by
  intro f
  induction f with
  | zero => exact fun he n p _ _ a b => absurd b (Int32.not_lt.mpr a)
  | succ f ih =>
    intro he n p a b c d
    by_cases q : 48 ≤ sgN tx en he ∧ sgN tx en he ≤ 57
    · rw [rdD_y q] at d
      have h := sgN_in e60 (rfl : sgN tx en he = _) (fun z => by rw [z] at q; exact absurd q.1 (by decide))
      by_cases e : p = he
      · rw [e]
        intro z
        rw [z] at q
        exact absurd q.2 (by decide)
      · exact ih _ _ p (by clear ih q d; lia) (by clear ih q d; lia) (by clear ih q d; lia) d
    · rw [rdD_n q] at d
      exact absurd d (Int32.not_lt.mpr c)
theorem pE_no {tx : Int32 → Int32} {en : Int32} (k : Nat) (e60 : en ≤ 60) {s : Int32 × Bool} (a : 0 ≤ s.1) (b : s.1 ≤ 60) {p : Int32} (c : s.1 ≤ p) (d : p < (pE tx en k s).1.1) : ¬ sgN tx en p = 59 := by
  unfold pE at d
  split at d
  · exact absurd d (Int32.not_lt.mpr c)
  · have h2 : ∀ z, sgN tx en s.1 = z → ¬ z = -1 → ¬ z = 59 → p < (rdD tx en 3 (s.1 + 1) 0).1 → ¬ sgN tx en p = 59 := fun z h hz hz2 d2 => by
      have q := sgN_in e60 h hz
      by_cases e : p = s.1
      · rw [e, h]; exact hz2
      · exact rdD_no e60 _ _ _ p (by clear d d2; lia) (by clear d d2; lia) (by clear d d2; lia) d2
    match k, d with
    | 0, d => exact rdD_no e60 _ _ _ p a b c d
    | 1, d =>
      by_cases q : sgN tx en s.1 = 32
      · rw [pG_1y q] at d; exact h2 _ q (by decide) (by decide) d
      · rw [pG_1n q] at d; exact absurd d (Int32.not_lt.mpr c)
    | 2, d =>
      unfold pG at d
      by_cases q : sgN tx en s.1 = 45
      · simp only [if_pos q] at d
        exact h2 _ q (by decide) (by decide) d
      · simp only [if_neg q] at d
        exact rdD_no e60 _ _ _ p a b c d
    | k + 3, d =>
      by_cases q : sgN tx en s.1 = 32
      · rw [pG_3y q] at d; exact h2 _ q (by decide) (by decide) d
      · rw [pG_3n q] at d; exact absurd d (Int32.not_lt.mpr c)
theorem prs_no {tx : Int32 → Int32} {en : Int32} (e60 : en ≤ 60) : ∀ (ks : List Nat) (s : Int32 × Bool) (p : Int32), 0 ≤ s.1 → s.1 ≤ 60 → s.1 ≤ p → p < (prs tx en ks s).1.1 → ¬ sgN tx en p = 59 := by
  intro ks
  induction ks with
  | nil => exact fun s p _ _ c d => absurd d (Int32.not_lt.mpr c)
  | cons k ks ih =>
    intro s p a b c d
    obtain ⟨x, y⟩ := pE_in (tx := tx) k e60 a b
    by_cases q : p < (pE tx en k s).1.1
    · exact pE_no k e60 a b c q
    · exact ih _ p x y (Int32.not_lt.mp q) d
theorem wrd_59 : ∀ w, w < 10 → ∀ j, j < (wrd w).length → ¬ (wrd w).getD j 0 = 59 := by decide
theorem cmG_no {tx : Int32 → Int32} {en he e p : Int32} {i : Nat} {ns : List Int32} (e0 : 0 ≤ he) (e61 : he ≤ 60) (e60 : en ≤ 60) (h : cmG tx en he i e ns) (c : he ≤ p) (d : p < e) : ¬ sgN tx en p = 59 := by
  obtain ⟨hi, hm, hp⟩ := h
  obtain ⟨p0, p1⟩ := mtW_in hm hi e0 e61 e60
  by_cases q : he + nI (wrd i).length ≤ p
  · refine prs_no e60 (prt i) (he + nI (wrd i).length, false) p p0 p1 q ?_
    rw [hp]
    exact d
  · have q2 := Int32.not_le.mp q
    have h7 := wrd_7 i hi
    have k : ∀ l, l ≤ 7 → ∀ p' : Int32, p' < nI l → 0 ≤ p' → p'.toNatClampNeg < l := fun l hl p' a b => by
      have := tc_lt b a
      rwa [nI_clamp (by omega)] at this
    have hd0 : 0 ≤ p - he ∧ p - he < nI (wrd i).length ∧ p = he + (p - he) := by
      have z : ∀ n, n ≤ 7 → 0 ≤ nI n ∧ nI n ≤ 7 := by decide
      obtain ⟨z1, z2⟩ := z _ h7
      clear hm hp k
      exact ⟨by lia, by lia, by lia⟩
    have hj := k _ h7 _ hd0.2.1 hd0.1
    have q3 := hm.2 _ hj
    have q4 : sgN tx en p = (wrd i).getD (p - he).toNatClampNeg 0 := by
      rw [q3]
      show _ = sgN tx en (he + nI _)
      rw [tc_nI hd0.1, ← hd0.2.2]
    rw [q4]
    exact wrd_59 i hi _ hj
theorem scG_cS {tx : Int32 → Int32} {en : Int32} (en0 : 0 ≤ en) (e60 : en ≤ 60) : ∀ (cs : List (Nat × List Int32)) (he : Int32), 0 ≤ he → he ≤ 60 → scG tx en cs he → cPt tx en.toNatClampNeg + 1 = cPt tx he.toNatClampNeg + cs.length := by
  intro cs
  induction cs with
  | nil => exact fun _ _ _ h => h.elim
  | cons c cs ih =>
    intro he a b ⟨e1, hG, h3⟩
    obtain ⟨x1, x2, x3, x4⟩ := cmG_lt a b e60 hG
    have hhe : he.toNatClampNeg < en.toNatClampNeg := tc_lt a x4
    have hen : en.toNatClampNeg ≤ 60 := by
      have := tc_le e60
      exact Nat.le_trans this (Nat.le_of_ble_eq_true rfl)
    have no : ∀ p, he.toNatClampNeg ≤ p → p < en.toNatClampNeg → p < e1.toNatClampNeg → ¬ tx (nI p) = 59 := fun p p1 p2 p3 => by
      have k1 : 0 ≤ nI p := nI_pos' (by omega)
      have k2 : he ≤ nI p := by rw [← tc_nI a]; exact nI_le p1 (by omega)
      have k3 : nI p < e1 := by rw [← tc_nI x2]; exact nI_lt p3 (by have := tc_le x3; have z : (60 : Int32).toNatClampNeg = 60 := rfl; omega)
      have k4 : nI p < en := by rw [← tc_nI en0]; exact nI_lt p2 (by omega)
      have q := cmG_no a b e60 hG k2 k3
      rw [sgN_t k4] at q
      exact q
    rcases h3 with ⟨rfl, q⟩ | ⟨q, q2, h5⟩
    · have h6 : en.toNatClampNeg ≤ e1.toNatClampNeg := tc_le (Int32.not_lt.mp q)
      have h7 := cPt_no (tx := tx) (en.toNatClampNeg - he.toNatClampNeg) he.toNatClampNeg (fun p p1 p2 => no p p1 (by omega) (by omega))
      rw [show he.toNatClampNeg + (en.toNatClampNeg - he.toNatClampNeg) = en.toNatClampNeg by omega] at h7
      rw [h7]
      rfl
    · obtain ⟨z1, z2, z3, z4⟩ := lt_60 e60 x2 q
      have h6 : e1.toNatClampNeg < en.toNatClampNeg := tc_lt x2 q
      have h8 : he.toNatClampNeg ≤ e1.toNatClampNeg := tc_le (Int32.le_trans (by clear no hG ih h5; lia) x1)
      have h7 := cPt_no (tx := tx) (e1.toNatClampNeg - he.toNatClampNeg) he.toNatClampNeg (fun p p1 p2 => no p p1 (by omega) (by omega))
      rw [show he.toNatClampNeg + (e1.toNatClampNeg - he.toNatClampNeg) = e1.toNatClampNeg by omega] at h7
      have h9 := ih (e1 + 1) z1 z2 h5
      rw [z3] at h9
      have h10 : cPt tx (e1.toNatClampNeg + 1) = cPt tx e1.toNatClampNeg + 1 := by
        show cPt tx e1.toNatClampNeg + (if tx (nI e1.toNatClampNeg) = 59 then 1 else 0) = _
        rw [tc_nI x2, ← sgN_t (tx := tx) q, if_pos q2]
      rw [h10, h7] at h9
      rw [h9, List.length_cons]
      omega
theorem cPt_le {tx : Int32 → Int32} : ∀ n, cPt tx n ≤ n := by
  intro n
  induction n with
  | zero => exact Nat.le_refl _
  | succ n ih =>
    show cPt tx n + (if tx (nI n) = 59 then 1 else 0) ≤ n + 1
    split <;> omega
theorem dX7_countCommands_0 : decode cX7_countCommands 0 = .ok (.iconst 1, 1) := by decide +kernel
theorem dX7_countCommands_1 : decode cX7_countCommands 1 = .ok (.istore_n 1, 1) := by decide +kernel
theorem dX7_countCommands_2 : decode cX7_countCommands 2 = .ok (.iconst 0, 1) := by decide +kernel
theorem dX7_countCommands_3 : decode cX7_countCommands 3 = .ok (.istore_n 2, 1) := by decide +kernel
theorem dX7_countCommands_4 : decode cX7_countCommands 4 = .ok (.iload_n 2, 1) := by decide +kernel
theorem dX7_countCommands_5 : decode cX7_countCommands 5 = .ok (.aload_n 0, 1) := by decide +kernel
theorem dX7_countCommands_6 : decode cX7_countCommands 6 = .ok (.getfield 12, 3) := by decide +kernel
theorem dX7_countCommands_9 : decode cX7_countCommands 9 = .ok (.invokevirtual 39, 3) := by decide +kernel
theorem dX7_countCommands_12 : decode cX7_countCommands 12 = .ok (.if_icmp .ge 25, 3) := by decide +kernel
theorem dX7_countCommands_15 : decode cX7_countCommands 15 = .ok (.aload_n 0, 1) := by decide +kernel
theorem dX7_countCommands_16 : decode cX7_countCommands 16 = .ok (.getfield 12, 3) := by decide +kernel
theorem dX7_countCommands_19 : decode cX7_countCommands 19 = .ok (.iload_n 2, 1) := by decide +kernel
theorem dX7_countCommands_20 : decode cX7_countCommands 20 = .ok (.invokevirtual 47, 3) := by decide +kernel
theorem dX7_countCommands_23 : decode cX7_countCommands 23 = .ok (.bipush 59, 2) := by decide +kernel
theorem dX7_countCommands_25 : decode cX7_countCommands 25 = .ok (.if_icmp .ne 6, 3) := by decide +kernel
theorem dX7_countCommands_28 : decode cX7_countCommands 28 = .ok (.iinc 1 1, 3) := by decide +kernel
theorem dX7_countCommands_31 : decode cX7_countCommands 31 = .ok (.iinc 2 1, 3) := by decide +kernel
theorem dX7_countCommands_34 : decode cX7_countCommands 34 = .ok (.goto (-30), 3) := by decide +kernel
theorem dX7_countCommands_37 : decode cX7_countCommands 37 = .ok (.iload_n 1, 1) := by decide +kernel
theorem dX7_countCommands_38 : decode cX7_countCommands 38 = .ok (.ireturn, 1) := by decide +kernel
set_option maxRecDepth 100000 in
set_option maxHeartbeats 4000000 in
theorem c_countCommands {l : Launch} {g : Nat → Nat} {M : LH} (htr : l.stackTraces = false) {kd : Nat → Nat} {R a b v nb : Nat} {N en : Int32} {tx f : Int32 → Int32} {cm : Nat} {at9 nc : Int32} {NN : Int32 → Int32} (hC : Rr kd R M a b v nb N en tx f cm at9 nc NN) : K_X7_countCommands l g 4 0 0 [.ref a] M (RI (fun x M9 => x = nI (1 + cPt tx en.toNatClampNeg) ∧ M9 = M) nX) := by
  refine Ko_X7_countCommands htr (fun X => ?_)
  obtain ⟨hA, hNB, hSB, hTX, e60, hkA, hkN, hkb, hkv⟩ := _root_.id hC
  obtain ⟨⟨ml, hBb⟩, hVv, en0, -, -, hfb⟩ := _root_.id hSB
  have hF : Frm kd R M M := Frm.rf
  have hen : en.toNatClampNeg ≤ 60 := by
    have := tc_le e60
    exact Nat.le_trans this (Nat.le_of_ble_eq_true rfl)
  have key : ∀ fe j, j + fe = en.toNatClampNeg → V l g yX7_countCommands cX7_countCommands ((some .int)) [] 4 0 0 (RI (fun x M9 => x = nI (1 + cPt tx en.toNatClampNeg) ∧ M9 = M) nX) X M 0 0 4 [some (.ref a), some (.int (nI (1 + cPt tx j))), some (.int (nI j))] [] := by
    intro fe
    induction fe with
    | zero =>
      intro j hj
      refine v_iload_n dX7_countCommands_4 rfl rfl ?_
      refine v_aload_n dX7_countCommands_5 rfl rfl ?_
      refine gf_X7_12 dX7_countCommands_6 rfl hA ?_
      refine k_X7_39 dX7_countCommands_9 rfl (c_len4 htr hSB) hBb (Nat.le_of_ble_eq_true rfl) (by omega) (by omega) (Nat.le_of_ble_eq_true rfl) (fun r9 M9 h9 => ?_) (fun _ _ h9 => h9.elim)
      obtain ⟨h91, e9⟩ := h9
      rw [h91]
      subst M9
      refine v_icmp_ge (tgt := 37) dX7_countCommands_12 (by decide) (fun h12 => ?_) (fun h12 => ?_)
      · refine v_iload_n dX7_countCommands_37 rfl rfl ?_
        exact v_iret dX7_countCommands_38 rfl ⟨by rw [show j = en.toNatClampNeg by omega], rfl⟩ (by omega) (by omega)
      · exact absurd (by rw [show j = en.toNatClampNeg by omega, tc_nI en0]; exact Int32.le_refl _) h12
    | succ fe ih =>
      intro j hj
      have j0 : 0 ≤ nI j := nI_pos' (by omega)
      have j1 : nI j < en := by
        rw [← tc_nI en0]
        exact nI_lt (by omega) (by omega)
      refine v_iload_n dX7_countCommands_4 rfl rfl ?_
      refine v_aload_n dX7_countCommands_5 rfl rfl ?_
      refine gf_X7_12 dX7_countCommands_6 rfl hA ?_
      refine k_X7_39 dX7_countCommands_9 rfl (c_len4 htr hSB) hBb (Nat.le_of_ble_eq_true rfl) (by omega) (by omega) (Nat.le_of_ble_eq_true rfl) (fun r9 M9 h9 => ?_) (fun _ _ h9 => h9.elim)
      obtain ⟨h91, e9⟩ := h9
      rw [h91]
      subst M9
      refine v_icmp_ge (tgt := 37) dX7_countCommands_12 (by decide) (fun h12 => ?_) (fun h12 => ?_)
      · exact absurd h12 (Int32.not_le.mpr j1)
      · refine v_aload_n dX7_countCommands_15 rfl rfl ?_
        refine gf_X7_12 dX7_countCommands_16 rfl hA ?_
        refine v_iload_n dX7_countCommands_19 rfl rfl ?_
        refine k_X7_47 dX7_countCommands_20 rfl (c_charAt htr hSB j0 j1) hBb (Nat.le_of_ble_eq_true rfl) (by omega) (by omega) (Nat.le_of_ble_eq_true rfl) (fun r20 M9 h9 => ?_) (fun _ _ h9 => h9.elim)
        obtain ⟨rfl, e9⟩ := h9
        subst M9
        rw [hTX _ j0 j1]
        refine v_bipush (v := (59)) dX7_countCommands_23 (by decide) ?_
        refine v_icmp_ne (tgt := 31) dX7_countCommands_25 (by decide) (fun h25 => ?_) (fun h25 => ?_)
        · refine v_iinc_2 dX7_countCommands_31 rfl ?_
          refine v_goto (tgt := 4) dX7_countCommands_34 (by decide) ?_
          rw [show nI j + Int32.ofInt 1 = nI (j + 1) from nI_1 j]
          first
            | (rw [show nI (1 + cPt tx j) + Int32.ofInt 1 = nI (1 + cPt tx (j + 1)) by rw [show nI (1 + cPt tx j) + Int32.ofInt 1 = nI (1 + cPt tx j + 1) from nI_1 _]; show _ = nI (1 + (cPt tx j + if tx (nI j) = 59 then 1 else 0)); rw [if_pos (by assumption)]; rfl]
               exact ih (j + 1) (by omega))
            | (rw [show nI (1 + cPt tx j) = nI (1 + cPt tx (j + 1)) by show _ = nI (1 + (cPt tx j + if tx (nI j) = 59 then 1 else 0)); rw [if_neg (by assumption)]; rfl]
               exact ih (j + 1) (by omega))
        · refine v_iinc_1 dX7_countCommands_28 rfl ?_
          refine v_iinc_2 dX7_countCommands_31 rfl ?_
          refine v_goto (tgt := 4) dX7_countCommands_34 (by decide) ?_
          rw [show nI j + Int32.ofInt 1 = nI (j + 1) from nI_1 j]
          first
            | (rw [show nI (1 + cPt tx j) + Int32.ofInt 1 = nI (1 + cPt tx (j + 1)) by rw [show nI (1 + cPt tx j) + Int32.ofInt 1 = nI (1 + cPt tx j + 1) from nI_1 _]; show _ = nI (1 + (cPt tx j + if tx (nI j) = 59 then 1 else 0)); rw [if_pos (by assumption)]; rfl]
               exact ih (j + 1) (by omega))
            | (rw [show nI (1 + cPt tx j) = nI (1 + cPt tx (j + 1)) by show _ = nI (1 + (cPt tx j + if tx (nI j) = 59 then 1 else 0)); rw [if_neg (by assumption)]; rfl]
               exact ih (j + 1) (by omega))
  refine v_iconst (v := 1) dX7_countCommands_0 (by decide) ?_
  refine v_istore_1 dX7_countCommands_1 ?_
  refine v_iconst (v := 0) dX7_countCommands_2 (by decide) ?_
  refine v_istore_2 dX7_countCommands_3 ?_
  exact key en.toNatClampNeg 0 (by omega)
theorem dX7_findError_0 : decode cX7_findError 0 = .ok (.iconst 0, 1) := by decide +kernel
theorem dX7_findError_1 : decode cX7_findError 1 = .ok (.istore_n 1, 1) := by decide +kernel
theorem dX7_findError_2 : decode cX7_findError 2 = .ok (.iconst 0, 1) := by decide +kernel
theorem dX7_findError_3 : decode cX7_findError 3 = .ok (.istore_n 2, 1) := by decide +kernel
theorem dX7_findError_4 : decode cX7_findError 4 = .ok (.iload_n 2, 1) := by decide +kernel
theorem dX7_findError_5 : decode cX7_findError 5 = .ok (.bipush 60, 2) := by decide +kernel
theorem dX7_findError_7 : decode cX7_findError 7 = .ok (.if_icmp .ge 63, 3) := by decide +kernel
theorem dX7_findError_10 : decode cX7_findError 10 = .ok (.aload_n 0, 1) := by decide +kernel
theorem dX7_findError_11 : decode cX7_findError 11 = .ok (.iload_n 1, 1) := by decide +kernel
theorem dX7_findError_12 : decode cX7_findError 12 = .ok (.invokevirtual 31, 3) := by decide +kernel
theorem dX7_findError_15 : decode cX7_findError 15 = .ok (.ifCond .ne 8, 3) := by decide +kernel
theorem dX7_findError_18 : decode cX7_findError 18 = .ok (.aload_n 0, 1) := by decide +kernel
theorem dX7_findError_19 : decode cX7_findError 19 = .ok (.getfield 35, 3) := by decide +kernel
theorem dX7_findError_22 : decode cX7_findError 22 = .ok (.ireturn, 1) := by decide +kernel
theorem dX7_findError_23 : decode cX7_findError 23 = .ok (.aload_n 0, 1) := by decide +kernel
theorem dX7_findError_24 : decode cX7_findError 24 = .ok (.getfield 35, 3) := by decide +kernel
theorem dX7_findError_27 : decode cX7_findError 27 = .ok (.aload_n 0, 1) := by decide +kernel
theorem dX7_findError_28 : decode cX7_findError 28 = .ok (.getfield 12, 3) := by decide +kernel
theorem dX7_findError_31 : decode cX7_findError 31 = .ok (.invokevirtual 39, 3) := by decide +kernel
theorem dX7_findError_34 : decode cX7_findError 34 = .ok (.if_icmp .lt 5, 3) := by decide +kernel
theorem dX7_findError_37 : decode cX7_findError 37 = .ok (.iconst (-1), 1) := by decide +kernel
theorem dX7_findError_38 : decode cX7_findError 38 = .ok (.ireturn, 1) := by decide +kernel
theorem dX7_findError_39 : decode cX7_findError 39 = .ok (.aload_n 0, 1) := by decide +kernel
theorem dX7_findError_40 : decode cX7_findError 40 = .ok (.aload_n 0, 1) := by decide +kernel
theorem dX7_findError_41 : decode cX7_findError 41 = .ok (.getfield 35, 3) := by decide +kernel
theorem dX7_findError_44 : decode cX7_findError 44 = .ok (.invokevirtual 43, 3) := by decide +kernel
theorem dX7_findError_47 : decode cX7_findError 47 = .ok (.bipush 59, 2) := by decide +kernel
theorem dX7_findError_49 : decode cX7_findError 49 = .ok (.if_icmp .eq 8, 3) := by decide +kernel
theorem dX7_findError_52 : decode cX7_findError 52 = .ok (.aload_n 0, 1) := by decide +kernel
theorem dX7_findError_53 : decode cX7_findError 53 = .ok (.getfield 35, 3) := by decide +kernel
theorem dX7_findError_56 : decode cX7_findError 56 = .ok (.ireturn, 1) := by decide +kernel
theorem dX7_findError_57 : decode cX7_findError 57 = .ok (.aload_n 0, 1) := by decide +kernel
theorem dX7_findError_58 : decode cX7_findError 58 = .ok (.getfield 35, 3) := by decide +kernel
theorem dX7_findError_61 : decode cX7_findError 61 = .ok (.iconst 1, 1) := by decide +kernel
theorem dX7_findError_62 : decode cX7_findError 62 = .ok (.iadd, 1) := by decide +kernel
theorem dX7_findError_63 : decode cX7_findError 63 = .ok (.istore_n 1, 1) := by decide +kernel
theorem dX7_findError_64 : decode cX7_findError 64 = .ok (.iinc 2 1, 3) := by decide +kernel
theorem dX7_findError_67 : decode cX7_findError 67 = .ok (.goto (-63), 3) := by decide +kernel
theorem dX7_findError_70 : decode cX7_findError 70 = .ok (.iload_n 1, 1) := by decide +kernel
theorem dX7_findError_71 : decode cX7_findError 71 = .ok (.ireturn, 1) := by decide +kernel
set_option maxRecDepth 100000 in
set_option maxHeartbeats 4000000 in
theorem c_findErrorE {l : Launch} {g : Nat → Nat} {M : LH} (htr : l.stackTraces = false) {kd : Nat → Nat} {R a b v nb : Nat} {N en : Int32} {tx f : Int32 → Int32} {cm : Nat} {at9 nc : Int32} {NN : Int32 → Int32} (hC : Rr kd R M a b v nb N en tx f cm at9 nc NN) {e : Int32} {fu0 : Nat} (hc : scE tx en fu0 0 e) : K_X7_findError l g 9 0 0 [.ref a] M (RI (fun x M9 => x = e ∧ ∃ cm' at' NN' nc', Rr kd R M9 a b v nb N en tx f cm' at' nc' NN' ∧ Frm kd R M M9) nX) := by
  refine Ko_X7_findError htr (fun X => ?_)
  obtain ⟨hA, hNB, hSB, hTX, e60, hkA, hkN, hkb, hkv⟩ := _root_.id hC
  obtain ⟨⟨ml, hBb⟩, hVv, en0, -, -, hfb⟩ := _root_.id hSB
  have hF : Frm kd R M M := Frm.rf
  have key : ∀ fu c (M1 : LH) (st : Int32) (cm1 : Nat) (at1 nc1 : Int32) (N1 : Int32 → Int32), 0 ≤ st → st ≤ 60 → 2 * c ≤ st.toNatClampNeg → scE tx en fu st e → Rr kd R M1 a b v nb N en tx f cm1 at1 nc1 N1 → Frm kd R M M1 → V l g yX7_findError cX7_findError ((some .int)) [] 9 0 0 (RI (fun x M9 => x = e ∧ ∃ cm' at' NN' nc', Rr kd R M9 a b v nb N en tx f cm' at' nc' NN' ∧ Frm kd R M M9) nX) X M1 0 0 4 [some (.ref a), some (.int st), some (.int (nI c))] [] := by
    clear hC hA hNB hSB hTX hfb hVv hBb hF hkA hkN hkb hkv
    intro fu
    induction fu with
    | zero => exact fun _ _ _ _ _ _ _ _ _ _ h => h.elim
    | succ fu ih =>
      intro c M1 st cm1 at1 nc1 N1 s0 s1 hsc hs hC hF
      obtain ⟨hA, hNB, hSB, hTX, e60, hkA, hkN, hkb, hkv⟩ := _root_.id hC
      obtain ⟨⟨ml, hBb⟩, hVv, en0, -, -, hfb⟩ := _root_.id hSB
      have h60 : st.toNatClampNeg ≤ 60 := Nat.le_trans (tc_le s1) (Nat.le_of_ble_eq_true rfl)
      rcases hs with hE | ⟨i, e1, ns, hG, h1, ⟨hs59, rfl⟩ | ⟨hs59, hs⟩⟩
      · skip
        refine v_iload_n dX7_findError_4 rfl rfl ?_
        refine v_bipush (v := (60)) dX7_findError_5 (by decide) ?_
        refine v_icmp_ge (tgt := 70) dX7_findError_7 (by decide) (fun h7 => ?_) (fun h7 => ?_)
        · exact absurd (show nI 60 ≤ nI c from h7) (nI_ge (by omega) (by decide))
        · refine v_aload_n dX7_findError_10 rfl rfl ?_
          refine v_iload_n dX7_findError_11 rfl rfl ?_
          refine k_X7_31 dX7_findError_12 rfl (c_readCommandE htr hC hE s0 s1) hA (Nat.le_of_ble_eq_true rfl) (by omega) (by omega) (Nat.le_of_ble_eq_true rfl) (fun r12 M9 h9 => ?_) (fun _ _ h9 => h9.elim)
          obtain ⟨rfl, N2, nc2, hC, hF9⟩ := h9
          have hF := Frm.tr hF hF9
          obtain ⟨hA, hNB, hSB, hTX, e60, hkA, hkN, hkb, hkv⟩ := _root_.id hC
          obtain ⟨⟨ml, hBb⟩, hVv, en0, -, -, hfb⟩ := _root_.id hSB
          refine v_if_ne (tgt := 23) dX7_findError_15 (by decide) (fun h15 => ?_) (fun h15 => ?_)
          · exact absurd rfl h15
          · refine v_aload_n dX7_findError_18 rfl rfl ?_
            refine gf_X7_35 dX7_findError_19 rfl hA ?_
            exact v_iret dX7_findError_22 rfl ⟨rfl, _, _, _, _, hC, hF⟩ (by omega) (by omega)
      · obtain ⟨x1, x0, x3, x4⟩ := cmG_lt s0 s1 e60 hG
        refine v_iload_n dX7_findError_4 rfl rfl ?_
        refine v_bipush (v := (60)) dX7_findError_5 (by decide) ?_
        refine v_icmp_ge (tgt := 70) dX7_findError_7 (by decide) (fun h7 => ?_) (fun h7 => ?_)
        · exact absurd (show nI 60 ≤ nI c from h7) (nI_ge (by omega) (by decide))
        · refine v_aload_n dX7_findError_10 rfl rfl ?_
          refine v_iload_n dX7_findError_11 rfl rfl ?_
          refine k_X7_31 dX7_findError_12 rfl (c_readCommandG htr hC hG s0 s1) hA (Nat.le_of_ble_eq_true rfl) (by omega) (by omega) (Nat.le_of_ble_eq_true rfl) (fun r12 M9 h9 => ?_) (fun _ _ h9 => h9.elim)
          obtain ⟨rfl, N2, nc2, -, hC, hF9⟩ := h9
          have hF := Frm.tr hF hF9
          obtain ⟨hA, hNB, hSB, hTX, e60, hkA, hkN, hkb, hkv⟩ := _root_.id hC
          obtain ⟨⟨ml, hBb⟩, hVv, en0, -, -, hfb⟩ := _root_.id hSB
          refine v_if_ne (tgt := 23) dX7_findError_15 (by decide) (fun h15 => ?_) (fun h15 => ?_)
          · refine v_aload_n dX7_findError_23 rfl rfl ?_
            refine gf_X7_35 dX7_findError_24 rfl hA ?_
            refine v_aload_n dX7_findError_27 rfl rfl ?_
            refine gf_X7_12 dX7_findError_28 rfl hA ?_
            refine k_X7_39 dX7_findError_31 rfl (c_len4 htr hSB) hBb (Nat.le_of_ble_eq_true rfl) (by omega) (by omega) (Nat.le_of_ble_eq_true rfl) (fun r31 M9 h9 => ?_) (fun _ _ h9 => h9.elim)
            obtain ⟨h91, e9⟩ := h9
            rw [h91]
            subst M9
            refine v_icmp_lt (tgt := 39) dX7_findError_34 (by decide) (fun h34 => ?_) (fun h34 => ?_)
            · refine v_aload_n dX7_findError_39 rfl rfl ?_
              refine v_aload_n dX7_findError_40 rfl rfl ?_
              refine gf_X7_35 dX7_findError_41 rfl hA ?_
              refine k_X7_43 dX7_findError_44 rfl (c_signAt htr hC x0) hA (Nat.le_of_ble_eq_true rfl) (by omega) (by omega) (Nat.le_of_ble_eq_true rfl) (fun r44 M9 h9 => ?_) (fun _ _ h9 => h9.elim)
              obtain ⟨rfl, e9⟩ := h9
              subst M9
              refine v_bipush (v := (59)) dX7_findError_47 (by decide) ?_
              refine v_icmp_eq (tgt := 57) dX7_findError_49 (by decide) (fun h49 => ?_) (fun h49 => ?_)
              · exact absurd ((sz_c (by decide)).mp h49) hs59
              · refine v_aload_n dX7_findError_52 rfl rfl ?_
                refine gf_X7_35 dX7_findError_53 rfl hA ?_
                exact v_iret dX7_findError_56 rfl ⟨rfl, _, _, _, _, hC, hF⟩ (by omega) (by omega)
            · exact absurd h1 h34
          · exact absurd h15 (by decide)
      · obtain ⟨x1, x0, x3, x4⟩ := cmG_lt s0 s1 e60 hG
        obtain ⟨z1, z2, z3, -⟩ := lt_60 e60 x0 h1
        have st_1 : (st + 1).toNatClampNeg = st.toNatClampNeg + 1 := tc_1 s0 x4
        refine v_iload_n dX7_findError_4 rfl rfl ?_
        refine v_bipush (v := (60)) dX7_findError_5 (by decide) ?_
        refine v_icmp_ge (tgt := 70) dX7_findError_7 (by decide) (fun h7 => ?_) (fun h7 => ?_)
        · exact absurd (show nI 60 ≤ nI c from h7) (nI_ge (by omega) (by decide))
        · refine v_aload_n dX7_findError_10 rfl rfl ?_
          refine v_iload_n dX7_findError_11 rfl rfl ?_
          refine k_X7_31 dX7_findError_12 rfl (c_readCommandG htr hC hG s0 s1) hA (Nat.le_of_ble_eq_true rfl) (by omega) (by omega) (Nat.le_of_ble_eq_true rfl) (fun r12 M9 h9 => ?_) (fun _ _ h9 => h9.elim)
          obtain ⟨rfl, N2, nc2, -, hC, hF9⟩ := h9
          have hF := Frm.tr hF hF9
          obtain ⟨hA, hNB, hSB, hTX, e60, hkA, hkN, hkb, hkv⟩ := _root_.id hC
          obtain ⟨⟨ml, hBb⟩, hVv, en0, -, -, hfb⟩ := _root_.id hSB
          refine v_if_ne (tgt := 23) dX7_findError_15 (by decide) (fun h15 => ?_) (fun h15 => ?_)
          · refine v_aload_n dX7_findError_23 rfl rfl ?_
            refine gf_X7_35 dX7_findError_24 rfl hA ?_
            refine v_aload_n dX7_findError_27 rfl rfl ?_
            refine gf_X7_12 dX7_findError_28 rfl hA ?_
            refine k_X7_39 dX7_findError_31 rfl (c_len4 htr hSB) hBb (Nat.le_of_ble_eq_true rfl) (by omega) (by omega) (Nat.le_of_ble_eq_true rfl) (fun r31 M9 h9 => ?_) (fun _ _ h9 => h9.elim)
            obtain ⟨h91, e9⟩ := h9
            rw [h91]
            subst M9
            refine v_icmp_lt (tgt := 39) dX7_findError_34 (by decide) (fun h34 => ?_) (fun h34 => ?_)
            · refine v_aload_n dX7_findError_39 rfl rfl ?_
              refine v_aload_n dX7_findError_40 rfl rfl ?_
              refine gf_X7_35 dX7_findError_41 rfl hA ?_
              refine k_X7_43 dX7_findError_44 rfl (c_signAt htr hC x0) hA (Nat.le_of_ble_eq_true rfl) (by omega) (by omega) (Nat.le_of_ble_eq_true rfl) (fun r44 M9 h9 => ?_) (fun _ _ h9 => h9.elim)
              obtain ⟨rfl, e9⟩ := h9
              subst M9
              refine v_bipush (v := (59)) dX7_findError_47 (by decide) ?_
              refine v_icmp_eq (tgt := 57) dX7_findError_49 (by decide) (fun h49 => ?_) (fun h49 => ?_)
              · refine v_aload_n dX7_findError_57 rfl rfl ?_
                refine gf_X7_35 dX7_findError_58 rfl hA ?_
                refine v_iconst (v := 1) dX7_findError_61 (by decide) ?_
                refine v_iadd dX7_findError_62 ?_
                refine v_istore_1 dX7_findError_63 ?_
                refine v_iinc_2 dX7_findError_64 rfl ?_
                refine v_goto (tgt := 4) dX7_findError_67 (by decide) ?_
                rw [show nI c + Int32.ofInt 1 = nI (c + 1) from nI_1 c]
                exact ih (c + 1) _ _ _ _ _ _ z1 z2 (by rw [z3]; have := tc_le x1; rw [st_1] at this; omega) hs hC hF
              · exact absurd ((sz_c (by decide)).mpr hs59) h49
            · exact absurd h1 h34
          · exact absurd h15 (by decide)
  refine v_iconst (v := 0) dX7_findError_0 (by decide) ?_
  refine v_istore_1 dX7_findError_1 ?_
  refine v_iconst (v := 0) dX7_findError_2 (by decide) ?_
  refine v_istore_2 dX7_findError_3 ?_
  exact key fu0 0 M 0 _ _ _ _ (by decide) (by decide) (Nat.le_refl _) hc hC hF
set_option maxRecDepth 100000 in
set_option maxHeartbeats 4000000 in
theorem c_findErrorG {l : Launch} {g : Nat → Nat} {M : LH} (htr : l.stackTraces = false) {kd : Nat → Nat} {R a b v nb : Nat} {N en : Int32} {tx f : Int32 → Int32} {cm : Nat} {at9 nc : Int32} {NN : Int32 → Int32} (hC : Rr kd R M a b v nb N en tx f cm at9 nc NN) {cs0 : List (Nat × List Int32)} (hc : scG tx en cs0 0) : K_X7_findError l g 9 0 0 [.ref a] M (RI (fun x M9 => x = -1 ∧ ∃ cm' at' NN' nc', Rr kd R M9 a b v nb N en tx f cm' at' nc' NN' ∧ Frm kd R M M9) nX) := by
  refine Ko_X7_findError htr (fun X => ?_)
  obtain ⟨hA, hNB, hSB, hTX, e60, hkA, hkN, hkb, hkv⟩ := _root_.id hC
  obtain ⟨⟨ml, hBb⟩, hVv, en0, -, -, hfb⟩ := _root_.id hSB
  have hF : Frm kd R M M := Frm.rf
  have key : ∀ (cs : List (Nat × List Int32)) c (M1 : LH) (st : Int32) (cm1 : Nat) (at1 nc1 : Int32) (N1 : Int32 → Int32), 0 ≤ st → st ≤ 60 → 2 * c ≤ st.toNatClampNeg → scG tx en cs st → Rr kd R M1 a b v nb N en tx f cm1 at1 nc1 N1 → Frm kd R M M1 → V l g yX7_findError cX7_findError ((some .int)) [] 9 0 0 (RI (fun x M9 => x = -1 ∧ ∃ cm' at' NN' nc', Rr kd R M9 a b v nb N en tx f cm' at' nc' NN' ∧ Frm kd R M M9) nX) X M1 0 0 4 [some (.ref a), some (.int st), some (.int (nI c))] [] := by
    clear hC hA hNB hSB hTX hfb hVv hBb hF hkA hkN hkb hkv
    intro cs
    induction cs with
    | nil => exact fun _ _ _ _ _ _ _ _ _ _ h => h.elim
    | cons cc9 cs ih =>
      intro c M1 st cm1 at1 nc1 N1 s0 s1 hsc hs hC hF
      obtain ⟨hA, hNB, hSB, hTX, e60, hkA, hkN, hkb, hkv⟩ := _root_.id hC
      obtain ⟨⟨ml, hBb⟩, hVv, en0, -, -, hfb⟩ := _root_.id hSB
      have h60 : st.toNatClampNeg ≤ 60 := Nat.le_trans (tc_le s1) (Nat.le_of_ble_eq_true rfl)
      obtain ⟨e1, hG, ⟨-, h1⟩ | ⟨h1, hs59, hs⟩⟩ := hs
      · obtain ⟨x1, x0, x3, x4⟩ := cmG_lt s0 s1 e60 hG
        refine v_iload_n dX7_findError_4 rfl rfl ?_
        refine v_bipush (v := (60)) dX7_findError_5 (by decide) ?_
        refine v_icmp_ge (tgt := 70) dX7_findError_7 (by decide) (fun h7 => ?_) (fun h7 => ?_)
        · exact absurd (show nI 60 ≤ nI c from h7) (nI_ge (by omega) (by decide))
        · refine v_aload_n dX7_findError_10 rfl rfl ?_
          refine v_iload_n dX7_findError_11 rfl rfl ?_
          refine k_X7_31 dX7_findError_12 rfl (c_readCommandG htr hC hG s0 s1) hA (Nat.le_of_ble_eq_true rfl) (by omega) (by omega) (Nat.le_of_ble_eq_true rfl) (fun r12 M9 h9 => ?_) (fun _ _ h9 => h9.elim)
          obtain ⟨rfl, N2, nc2, -, hC, hF9⟩ := h9
          have hF := Frm.tr hF hF9
          obtain ⟨hA, hNB, hSB, hTX, e60, hkA, hkN, hkb, hkv⟩ := _root_.id hC
          obtain ⟨⟨ml, hBb⟩, hVv, en0, -, -, hfb⟩ := _root_.id hSB
          refine v_if_ne (tgt := 23) dX7_findError_15 (by decide) (fun h15 => ?_) (fun h15 => ?_)
          · refine v_aload_n dX7_findError_23 rfl rfl ?_
            refine gf_X7_35 dX7_findError_24 rfl hA ?_
            refine v_aload_n dX7_findError_27 rfl rfl ?_
            refine gf_X7_12 dX7_findError_28 rfl hA ?_
            refine k_X7_39 dX7_findError_31 rfl (c_len4 htr hSB) hBb (Nat.le_of_ble_eq_true rfl) (by omega) (by omega) (Nat.le_of_ble_eq_true rfl) (fun r31 M9 h9 => ?_) (fun _ _ h9 => h9.elim)
            obtain ⟨h91, e9⟩ := h9
            rw [h91]
            subst M9
            refine v_icmp_lt (tgt := 39) dX7_findError_34 (by decide) (fun h34 => ?_) (fun h34 => ?_)
            · exact absurd h34 h1
            · refine v_iconst (v := (-1)) dX7_findError_37 (by decide) ?_
              exact v_iret dX7_findError_38 rfl ⟨rfl, _, _, _, _, hC, hF⟩ (by omega) (by omega)
          · exact absurd h15 (by decide)
      · obtain ⟨x1, x0, x3, x4⟩ := cmG_lt s0 s1 e60 hG
        obtain ⟨z1, z2, z3, -⟩ := lt_60 e60 x0 h1
        have st_1 : (st + 1).toNatClampNeg = st.toNatClampNeg + 1 := tc_1 s0 x4
        refine v_iload_n dX7_findError_4 rfl rfl ?_
        refine v_bipush (v := (60)) dX7_findError_5 (by decide) ?_
        refine v_icmp_ge (tgt := 70) dX7_findError_7 (by decide) (fun h7 => ?_) (fun h7 => ?_)
        · exact absurd (show nI 60 ≤ nI c from h7) (nI_ge (by omega) (by decide))
        · refine v_aload_n dX7_findError_10 rfl rfl ?_
          refine v_iload_n dX7_findError_11 rfl rfl ?_
          refine k_X7_31 dX7_findError_12 rfl (c_readCommandG htr hC hG s0 s1) hA (Nat.le_of_ble_eq_true rfl) (by omega) (by omega) (Nat.le_of_ble_eq_true rfl) (fun r12 M9 h9 => ?_) (fun _ _ h9 => h9.elim)
          obtain ⟨rfl, N2, nc2, -, hC, hF9⟩ := h9
          have hF := Frm.tr hF hF9
          obtain ⟨hA, hNB, hSB, hTX, e60, hkA, hkN, hkb, hkv⟩ := _root_.id hC
          obtain ⟨⟨ml, hBb⟩, hVv, en0, -, -, hfb⟩ := _root_.id hSB
          refine v_if_ne (tgt := 23) dX7_findError_15 (by decide) (fun h15 => ?_) (fun h15 => ?_)
          · refine v_aload_n dX7_findError_23 rfl rfl ?_
            refine gf_X7_35 dX7_findError_24 rfl hA ?_
            refine v_aload_n dX7_findError_27 rfl rfl ?_
            refine gf_X7_12 dX7_findError_28 rfl hA ?_
            refine k_X7_39 dX7_findError_31 rfl (c_len4 htr hSB) hBb (Nat.le_of_ble_eq_true rfl) (by omega) (by omega) (Nat.le_of_ble_eq_true rfl) (fun r31 M9 h9 => ?_) (fun _ _ h9 => h9.elim)
            obtain ⟨h91, e9⟩ := h9
            rw [h91]
            subst M9
            refine v_icmp_lt (tgt := 39) dX7_findError_34 (by decide) (fun h34 => ?_) (fun h34 => ?_)
            · refine v_aload_n dX7_findError_39 rfl rfl ?_
              refine v_aload_n dX7_findError_40 rfl rfl ?_
              refine gf_X7_35 dX7_findError_41 rfl hA ?_
              refine k_X7_43 dX7_findError_44 rfl (c_signAt htr hC x0) hA (Nat.le_of_ble_eq_true rfl) (by omega) (by omega) (Nat.le_of_ble_eq_true rfl) (fun r44 M9 h9 => ?_) (fun _ _ h9 => h9.elim)
              obtain ⟨rfl, e9⟩ := h9
              subst M9
              refine v_bipush (v := (59)) dX7_findError_47 (by decide) ?_
              refine v_icmp_eq (tgt := 57) dX7_findError_49 (by decide) (fun h49 => ?_) (fun h49 => ?_)
              · refine v_aload_n dX7_findError_57 rfl rfl ?_
                refine gf_X7_35 dX7_findError_58 rfl hA ?_
                refine v_iconst (v := 1) dX7_findError_61 (by decide) ?_
                refine v_iadd dX7_findError_62 ?_
                refine v_istore_1 dX7_findError_63 ?_
                refine v_iinc_2 dX7_findError_64 rfl ?_
                refine v_goto (tgt := 4) dX7_findError_67 (by decide) ?_
                rw [show nI c + Int32.ofInt 1 = nI (c + 1) from nI_1 c]
                exact ih (c + 1) _ _ _ _ _ _ z1 z2 (by rw [z3]; have := tc_le x1; rw [st_1] at this; omega) hs hC hF
              · exact absurd ((sz_c (by decide)).mpr hs59) h49
            · exact absurd h1 h34
          · exact absurd h15 (by decide)
  refine v_iconst (v := 0) dX7_findError_0 (by decide) ?_
  refine v_istore_1 dX7_findError_1 ?_
  refine v_iconst (v := 0) dX7_findError_2 (by decide) ?_
  refine v_istore_2 dX7_findError_3 ?_
  exact key cs0 0 M 0 _ _ _ _ (by decide) (by decide) (Nat.le_refl _) hc hC hF
