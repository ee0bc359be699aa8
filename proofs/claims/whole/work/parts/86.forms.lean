/-! ===== forms of commands: read part by part ===== -/
/-- a part of a form at a place: whether it stands there, where it ends, the number that it gives -/
def stp (tx : Int32 → Int32) (en c a : Int32) : Bool × Int32 × List Int32 :=
  if c = 35 then (!decide ((rdD tx en 1 a 0).1 = a), (rdD tx en 1 a 0).1, [(rdD tx en 1 a 0).2])
  else if c = 37 then (!decide ((rdD tx en 3 a 0).1 = a), (rdD tx en 3 a 0).1, [(rdD tx en 3 a 0).2])
  else if c = 126 then (!decide ((rdD tx en 3 (if sgN tx en a = 45 then a + 1 else a) 0).1 = (if sgN tx en a = 45 then a + 1 else a)), (rdD tx en 3 (if sgN tx en a = 45 then a + 1 else a) 0).1, [if sgN tx en a = 45 then -(rdD tx en 3 (if sgN tx en a = 45 then a + 1 else a) 0).2 else (rdD tx en 3 (if sgN tx en a = 45 then a + 1 else a) 0).2])
  else if c = 63 then (if sgN tx en a = 32 then (!decide ((rdD tx en 3 (a + 1) 0).1 = a + 1), (rdD tx en 3 (a + 1) 0).1, [(rdD tx en 3 (a + 1) 0).2]) else (true, a, [1]))
  else if sgN tx en a = c then (true, a + 1, []) else (false, a, [])
def frm (tx : Int32 → Int32) (en : Int32) : List Int32 → Int32 → List Int32 → Bool × Int32 × List Int32
  | [], a, ns => (true, a, ns)
  | c :: cs, a, ns => if (stp tx en c a).1 = true then frm tx en cs (stp tx en c a).2.1 (ns ++ (stp tx en c a).2.2) else (false, (stp tx en c a).2.1, ns)
section FM
variable {tx : Int32 → Int32} {en : Int32}
theorem frm_y {c a : Int32} {cs ns : List Int32} (h : (stp tx en c a).1 = true) : frm tx en (c :: cs) a ns = frm tx en cs (stp tx en c a).2.1 (ns ++ (stp tx en c a).2.2) := if_pos h
theorem frm_n {c a : Int32} {cs ns : List Int32} (h : ¬ (stp tx en c a).1 = true) : frm tx en (c :: cs) a ns = (false, (stp tx en c a).2.1, ns) := if_neg h
theorem stp_35 {a : Int32} : stp tx en 35 a = (!decide ((rdD tx en 1 a 0).1 = a), (rdD tx en 1 a 0).1, [(rdD tx en 1 a 0).2]) := if_pos rfl
theorem stp_37 {a : Int32} : stp tx en 37 a = (!decide ((rdD tx en 3 a 0).1 = a), (rdD tx en 3 a 0).1, [(rdD tx en 3 a 0).2]) := (if_neg (by decide)).trans (if_pos rfl)
theorem stp_126 {a : Int32} : stp tx en 126 a = (!decide ((rdD tx en 3 (if sgN tx en a = 45 then a + 1 else a) 0).1 = (if sgN tx en a = 45 then a + 1 else a)), (rdD tx en 3 (if sgN tx en a = 45 then a + 1 else a) 0).1, [if sgN tx en a = 45 then -(rdD tx en 3 (if sgN tx en a = 45 then a + 1 else a) 0).2 else (rdD tx en 3 (if sgN tx en a = 45 then a + 1 else a) 0).2]) := (if_neg (by decide)).trans ((if_neg (by decide)).trans (if_pos rfl))
theorem stp_63y {a : Int32} (h : sgN tx en a = 32) : stp tx en 63 a = (!decide ((rdD tx en 3 (a + 1) 0).1 = a + 1), (rdD tx en 3 (a + 1) 0).1, [(rdD tx en 3 (a + 1) 0).2]) := (if_neg (by decide)).trans ((if_neg (by decide)).trans ((if_neg (by decide)).trans ((if_pos rfl).trans (if_pos h))))
theorem stp_63n {a : Int32} (h : ¬ sgN tx en a = 32) : stp tx en 63 a = (true, a, [1]) := (if_neg (by decide)).trans ((if_neg (by decide)).trans ((if_neg (by decide)).trans ((if_pos rfl).trans (if_neg h))))
/-- a sign that stands for itself -/
def lit (c : Int32) : Prop := ¬ c = 35 ∧ ¬ c = 37 ∧ ¬ c = 126 ∧ ¬ c = 63
theorem stp_y {c a : Int32} (hc : lit c) (h : sgN tx en a = c) : stp tx en c a = (true, a + 1, []) := (if_neg hc.1).trans ((if_neg hc.2.1).trans ((if_neg hc.2.2.1).trans ((if_neg hc.2.2.2).trans (if_pos h))))
theorem stp_n {c a : Int32} (hc : lit c) (h : ¬ sgN tx en a = c) : stp tx en c a = (false, a, []) := (if_neg hc.1).trans ((if_neg hc.2.1).trans ((if_neg hc.2.2.1).trans ((if_neg hc.2.2.2).trans (if_neg h))))
/-- the signs of a kind of part -/
def kcs : Nat → List Int32
  | 0 => [35]
  | 1 => [32, 37]
  | 2 => [126]
  | _ => [63]
theorem fms_w : ∀ i, i < 10 → fms.getD i [] = wrd i ++ (prt i).flatMap kcs := by decide
theorem prt_3 : ∀ i, i < 10 → ∀ k ∈ prt i, k ≤ 3 := by decide
theorem frm_k {k : Nat} {a : Int32} {cs ns : List Int32} (hk : k ≤ 3) : frm tx en (kcs k ++ cs) a ns = if (pG tx en k a).1.2 = true then (false, (pG tx en k a).1.1, ns) else frm tx en cs (pG tx en k a).1.1 (ns ++ [(pG tx en k a).2]) := by
  match k, hk with
  | 0, _ =>
    show frm tx en (35 :: cs) a ns = if decide ((rdD tx en 1 a 0).1 = a) = true then (false, (rdD tx en 1 a 0).1, ns) else frm tx en cs (rdD tx en 1 a 0).1 (ns ++ [(rdD tx en 1 a 0).2])
    by_cases h : (rdD tx en 1 a 0).1 = a
    · rw [frm_n (by rw [stp_35]; simp [h]), stp_35, if_pos (decide_eq_true h)]
    · rw [frm_y (by rw [stp_35]; simp [h]), stp_35, if_neg (by simp [h])]
  | 1, _ =>
    by_cases q : sgN tx en a = 32
    · show frm tx en (32 :: 37 :: cs) a ns = _
      rw [frm_y (by rw [stp_y (by unfold lit; decide) q]), stp_y (by unfold lit; decide) q, List.append_nil, pG_1y q]
      dsimp only
      by_cases h : (rdD tx en 3 (a + 1) 0).1 = a + 1
      · rw [frm_n (by rw [stp_37]; simp [h]), stp_37, if_pos (decide_eq_true h)]
      · rw [frm_y (by rw [stp_37]; simp [h]), stp_37, if_neg (by simp [h])]
    · show frm tx en (32 :: 37 :: cs) a ns = _
      rw [frm_n (by rw [stp_n (by unfold lit; decide) q]; exact Bool.false_ne_true), stp_n (by unfold lit; decide) q, pG_1n q]
      rfl
  | 2, _ =>
    show frm tx en (126 :: cs) a ns = if decide ((rdD tx en 3 (if sgN tx en a = 45 then a + 1 else a) 0).1 = (if sgN tx en a = 45 then a + 1 else a)) = true then (false, (rdD tx en 3 (if sgN tx en a = 45 then a + 1 else a) 0).1, ns) else frm tx en cs (rdD tx en 3 (if sgN tx en a = 45 then a + 1 else a) 0).1 (ns ++ [if sgN tx en a = 45 then -(rdD tx en 3 (if sgN tx en a = 45 then a + 1 else a) 0).2 else (rdD tx en 3 (if sgN tx en a = 45 then a + 1 else a) 0).2])
    have e := stp_126 (tx := tx) (en := en) (a := a)
    generalize (if sgN tx en a = 45 then a + 1 else a) = h at e ⊢
    generalize (if sgN tx en a = 45 then -(rdD tx en 3 h 0).2 else (rdD tx en 3 h 0).2) = z at e ⊢
    by_cases q : (rdD tx en 3 h 0).1 = h
    · rw [frm_n (by rw [e]; simp [q]), e, if_pos (decide_eq_true q)]
    · rw [frm_y (by rw [e]; simp [q]), e, if_neg (by simp [q])]
  | 3, _ =>
    show frm tx en (63 :: cs) a ns = _
    by_cases q : sgN tx en a = 32
    · rw [pG_3y (k := 0) q]
      dsimp only
      by_cases h : (rdD tx en 3 (a + 1) 0).1 = a + 1
      · rw [frm_n (by rw [stp_63y q]; simp [h]), stp_63y q, if_pos (decide_eq_true h)]
      · rw [frm_y (by rw [stp_63y q]; simp [h]), stp_63y q, if_neg (by simp [h])]
    · rw [pG_3n (k := 0) q, frm_y (by rw [stp_63n q]), stp_63n q, if_neg (show ¬ false = true from Bool.false_ne_true)]
theorem prs_t : ∀ (ks : List Nat) (s : Int32 × Bool), s.2 = true → (prs tx en ks s).1 = s := by
  intro ks
  induction ks with
  | nil => exact fun s _ => rfl
  | cons k ks ih =>
    intro s h
    show (prs tx en ks (pE tx en k s).1).1 = s
    rw [pE_t h]
    exact ih s h
/-- the parts behind the word -/
theorem frm_p : ∀ (ks : List Nat), (∀ k ∈ ks, k ≤ 3) → ∀ (a : Int32) (ns : List Int32), frm tx en (ks.flatMap kcs) a ns = if (prs tx en ks (a, false)).1.2 = true then (false, (prs tx en ks (a, false)).1.1, (frm tx en (ks.flatMap kcs) a ns).2.2) else (true, (prs tx en ks (a, false)).1.1, ns ++ (prs tx en ks (a, false)).2) := by
  intro ks
  induction ks with
  | nil =>
    intro _ a ns
    show (true, a, ns) = _
    rw [if_neg (show ¬ (prs tx en [] (a, false)).1.2 = true from by show ¬ false = true; decide)]
    show (true, a, ns) = (true, a, ns ++ [])
    rw [List.append_nil]
  | cons k ks ih =>
    intro hk a ns
    have hk3 := hk k List.mem_cons_self
    have ih2 := ih (fun k h => hk k (List.mem_cons_of_mem _ h))
    have e1 : pE tx en k (a, false) = pG tx en k a := pE_f rfl
    rw [List.flatMap_cons, frm_k hk3]
    show _ = if (prs tx en ks (pE tx en k (a, false)).1).1.2 = true then (false, (prs tx en ks (pE tx en k (a, false)).1).1.1, _) else (true, (prs tx en ks (pE tx en k (a, false)).1).1.1, ns ++ (pE tx en k (a, false)).2 :: (prs tx en ks (pE tx en k (a, false)).1).2)
    rw [e1]
    obtain ⟨⟨e, b⟩, z⟩ := pG tx en k a
    cases b with
    | true =>
      rw [prs_t ks (e, true) rfl, if_pos rfl, if_pos rfl]
    | false =>
      rw [if_neg (show ¬ false = true from Bool.false_ne_true)]
      have q := ih2 e (ns ++ [z])
      dsimp only at q ⊢
      rw [q]
      by_cases h : (prs tx en ks (e, false)).1.2 = true
      · rw [if_pos h, if_pos h]
      · rw [if_neg h, if_neg h, List.append_assoc]
        rfl
/-- the word ahead of them -/
theorem frm_w {cs ns : List Int32} : ∀ (ws : List Int32) (a : Int32), (∀ c ∈ ws, lit c) → (∃ n, n < ws.length ∧ (∀ j, j < n → ws.getD j 0 = sgN tx en (a + nI j)) ∧ ¬ ws.getD n 0 = sgN tx en (a + nI n) ∧ frm tx en (ws ++ cs) a ns = (false, a + nI n, ns)) ∨ ((∀ j, j < ws.length → ws.getD j 0 = sgN tx en (a + nI j)) ∧ frm tx en (ws ++ cs) a ns = frm tx en cs (a + nI ws.length) ns) := by
  intro ws
  induction ws with
  | nil =>
    intro a _
    refine Or.inr ⟨fun j hj => absurd hj (Nat.not_lt_zero j), ?_⟩
    rw [show a + nI ([] : List Int32).length = a from Int32.add_zero a]
    rfl
  | cons c ws ih =>
    intro a hl
    have hc := hl c List.mem_cons_self
    have e0 : a + nI 0 = a := Int32.add_zero a
    have e1 : ∀ j, a + 1 + nI j = a + nI (j + 1) := fun j => by
      rw [Int32.add_assoc, show (1 : Int32) = nI 1 from rfl, nI_plus, Nat.add_comm]
    by_cases q : sgN tx en a = c
    · have e2 : frm tx en ((c :: ws) ++ cs) a ns = frm tx en (ws ++ cs) (a + 1) ns := by
        show frm tx en (c :: (ws ++ cs)) a ns = _
        rw [frm_y (by rw [stp_y hc q]), stp_y hc q, List.append_nil]
      rcases ih (a + 1) (fun d hd => hl d (List.mem_cons_of_mem _ hd)) with ⟨n, n1, n2, n3, n4⟩ | ⟨n2, n4⟩
      · refine Or.inl ⟨n + 1, Nat.succ_lt_succ n1, fun j hj => ?_, ?_, ?_⟩
        · match j with
          | 0 => rw [e0]; exact q.symm
          | j + 1 => rw [← e1]; exact n2 j (by omega)
        · rw [← e1]; exact n3
        · rw [e2, n4, e1]
      · refine Or.inr ⟨fun j hj => ?_, ?_⟩
        · match j with
          | 0 => rw [e0]; exact q.symm
          | j + 1 => rw [← e1]; exact n2 j (Nat.lt_of_succ_lt_succ hj)
        · rw [e2, n4, e1]
          rfl
    · refine Or.inl ⟨0, Nat.zero_lt_succ _, fun j hj => absurd hj (Nat.not_lt_zero j), ?_, ?_⟩
      · rw [e0]; exact fun z => q z.symm
      · show frm tx en (c :: (ws ++ cs)) a ns = _
        rw [frm_n (by rw [stp_n hc q]; exact Bool.false_ne_true), stp_n hc q, e0]
end FM
theorem wrd_lit : ∀ w, w < 10 → ∀ c ∈ wrd w, ¬ c = 35 ∧ ¬ c = 37 ∧ ¬ c = 126 ∧ ¬ c = 63 := by decide
/-- what reading form k from he tells: whether it stands there, where it ends, its numbers -/
def FR (tx : Int32 → Int32) (en he : Int32) (k : Nat) (b : Bool) (e : Int32) (ns : List Int32) : Prop := (b = false ∧ ∃ n, n < (wrd k).length ∧ mtW (sgS tx en he) k n ∧ ¬ mtW (sgS tx en he) k (n + 1) ∧ e = he + nI n) ∨ (mtW (sgS tx en he) k (wrd k).length ∧ ∃ ns', (b = true → ns' = ns) ∧ prs tx en (prt k) (he + nI (wrd k).length, false) = ((e, !b), ns'))
theorem FR_of {tx : Int32 → Int32} {en he : Int32} {k : Nat} (hk : k < 10) : FR tx en he k (frm tx en (fms.getD k []) he []).1 (frm tx en (fms.getD k []) he []).2.1 (frm tx en (fms.getD k []) he []).2.2 := by
  rw [fms_w k hk]
  rcases frm_w (tx := tx) (en := en) (cs := (prt k).flatMap kcs) (ns := []) (wrd k) he (wrd_lit k hk) with ⟨n, n1, n2, n3, n4⟩ | ⟨n2, n4⟩
  · rw [n4]
    exact Or.inl ⟨rfl, n, n1, ⟨by omega, n2⟩, fun z => n3 (mtW_1.mp z).2.2, rfl⟩
  · refine Or.inr ⟨⟨Nat.le_refl _, n2⟩, (prs tx en (prt k) (he + nI (wrd k).length, false)).2, ?_, ?_⟩
    · rw [n4, frm_p (prt k) (prt_3 k hk)]
      intro hb
      split at hb
      · exact absurd hb Bool.false_ne_true
      · rename_i h
        rw [if_neg h]
        rfl
    · rw [n4, frm_p (prt k) (prt_3 k hk)]
      split
      · rename_i h
        exact Prod.ext (Prod.ext rfl h) rfl
      · rename_i h
        exact Prod.ext (Prod.ext rfl (by simpa using h)) rfl
/-- no word is the head of another -/
theorem wrd_pf : ∀ i, i < 10 → ∀ k, k < 10 → ¬ i = k → (wrd i).length ≤ (wrd k).length → ∃ j, j < 7 ∧ j < (wrd i).length ∧ ¬ (wrd i).getD j 0 = (wrd k).getD j 0 := by decide
theorem mt_un {S : Nat → Int32} {i k n : Nat} (hi : i < 10) (hk : k < 10) (h : mtW S i (wrd i).length) (h2 : mtW S k n) (hn : (wrd i).length ≤ n) : i = k := by
  refine Classical.byContradiction (fun e => ?_)
  obtain ⟨j, -, j1, j2⟩ := wrd_pf i hi k hk e (Nat.le_trans hn h2.1)
  exact j2 ((h.2 j j1).trans (h2.2 j (by omega)).symm)
theorem FR_G {tx : Int32 → Int32} {en he e e' : Int32} {i k : Nat} {b : Bool} {ns ns' : List Int32} (hG : cmG tx en he i e ns) (hk : k < 10) (h : FR tx en he k b e' ns') : (k = i ∧ b = true ∧ e' = e ∧ ns' = ns) ∨ (¬ k = i ∧ b = false) := by
  obtain ⟨hi, hm, hp⟩ := hG
  rcases h with ⟨hb, n, n1, n2, n3, n4⟩ | ⟨m1, ns2, hb, m2⟩
  · refine Or.inr ⟨fun z => ?_, hb⟩
    subst z
    exact n3 ⟨n1, fun j hj => hm.2 j (by omega)⟩
  · have e1 := mt_un hi hk hm m1 (by
      by_cases q : (wrd i).length ≤ (wrd k).length
      · exact q
      · have e := mt_un hk hi m1 hm (by omega)
        rw [e] at q
        exact absurd (Nat.le_refl _) q)
    subst e1
    rw [hp] at m2
    have q1 := congrArg (fun z => z.1.1) m2
    have q2 := congrArg (fun z => z.1.2) m2
    have q3 := congrArg (fun z => z.2) m2
    dsimp only at q1 q2 q3
    have hb1 : b = true := by cases b with
      | true => rfl
      | false => exact absurd q2 (by decide)
    exact Or.inl ⟨rfl, hb1, q1.symm, by rw [← hb hb1, q3]⟩
theorem rdD_ge {tx : Int32 → Int32} {en : Int32} (e60 : en ≤ 60) : ∀ (f : Nat) (he n : Int32), 0 ≤ he → he ≤ 60 → he ≤ (rdD tx en f he n).1 := by
  intro f
  induction f with
  | zero => exact fun he n a b => Int32.le_refl _
  | succ f ih =>
    intro he n a b
    by_cases q : 48 ≤ sgN tx en he ∧ sgN tx en he ≤ 57
    · rw [rdD_y q]
      have h := sgN_in e60 (rfl : sgN tx en he = _) (fun z => by rw [z] at q; exact absurd q.1 (by decide))
      have := ih (he + 1) (10 * n + sgN tx en he - 48) (by clear ih q; lia) (by clear ih q; lia)
      generalize (rdD tx en f (he + 1) (10 * n + sgN tx en he - 48)).1 = z at this ⊢
      clear ih q
      lia
    · rw [rdD_n q]
      exact Int32.le_refl _
theorem pE_ge {tx : Int32 → Int32} {en : Int32} (k : Nat) (e60 : en ≤ 60) {s : Int32 × Bool} (a : 0 ≤ s.1) (b : s.1 ≤ 60) : s.1 ≤ (pE tx en k s).1.1 := by
  unfold pE
  split
  · exact Int32.le_refl _
  · have h1 : ∀ c, sgN tx en s.1 = c → ¬ c = -1 → 0 ≤ s.1 + 1 ∧ s.1 + 1 ≤ 60 ∧ s.1 ≤ s.1 + 1 := fun c h hc => by
      have q := sgN_in e60 h hc
      exact ⟨by lia, by lia, by lia⟩
    have h2 : ∀ c, sgN tx en s.1 = c → ¬ c = -1 → s.1 ≤ (rdD tx en 3 (s.1 + 1) 0).1 := fun c h hc => by
      obtain ⟨a, b, c⟩ := h1 c h hc
      exact Int32.le_trans c (rdD_ge e60 _ _ _ a b)
    match k with
    | 0 => exact rdD_ge e60 _ _ _ a b
    | 1 =>
      by_cases q : sgN tx en s.1 = 32
      · rw [pG_1y q]; exact h2 _ q (by decide)
      · rw [pG_1n q]; exact Int32.le_refl _
    | 2 =>
      unfold pG
      by_cases q : sgN tx en s.1 = 45
      · simp only [if_pos q]
        exact h2 _ q (by decide)
      · simp only [if_neg q]
        exact rdD_ge e60 _ _ _ a b
    | k + 3 =>
      by_cases q : sgN tx en s.1 = 32
      · rw [pG_3y q]; exact h2 _ q (by decide)
      · rw [pG_3n q]; exact Int32.le_refl _
theorem prs_in {tx : Int32 → Int32} {en : Int32} (e60 : en ≤ 60) : ∀ (ks : List Nat) (s : Int32 × Bool), 0 ≤ s.1 → s.1 ≤ 60 → s.1 ≤ (prs tx en ks s).1.1 ∧ 0 ≤ (prs tx en ks s).1.1 ∧ (prs tx en ks s).1.1 ≤ 60 := by
  intro ks
  induction ks with
  | nil => exact fun s a b => ⟨Int32.le_refl _, a, b⟩
  | cons k ks ih =>
    intro s a b
    obtain ⟨c, d⟩ := pE_in (tx := tx) k e60 a b
    obtain ⟨x, y, z⟩ := ih (pE tx en k s).1 c d
    exact ⟨Int32.le_trans (pE_ge k e60 a b) x, y, z⟩
theorem nI_le7 : ∀ m, m < 9 → ∀ n, n < 9 → (nI m ≤ nI n ↔ m ≤ n) := by decide
theorem at_le {he : Int32} {m n : Nat} (e0 : 0 ≤ he) (e61 : he ≤ 60) (hm : m ≤ n) (hn : n < 9) : he + nI m ≤ he + nI n := by
  have q : ∀ m, m < 9 → 0 ≤ nI m ∧ nI m < 9 := by decide
  obtain ⟨a, b⟩ := q m (by omega)
  obtain ⟨c, d⟩ := q n hn
  have e := (nI_le7 m (by omega) n hn).mpr hm
  lia
theorem FR_E {tx : Int32 → Int32} {en he e : Int32} (e0 : 0 ≤ he) (e61 : he ≤ 60) (e60 : en ≤ 60) (hE : cmE tx en he e) : ∃ k0, k0 < 10 ∧ ∀ k b e' ns', k < 10 → FR tx en he k b e' ns' → b = false ∧ e' ≤ e ∧ (k = k0 → e' = e) := by
  rcases hE with ⟨n, rfl, ⟨i, hi, hm⟩, hnc, hno⟩ | ⟨i, hi, hm, hp⟩
  · refine ⟨i, hi, fun k b e' ns' hk h => ?_⟩
    have hn7 := mt_7' hm hi
    rcases h with ⟨hb, m, n1, n2, n3, rfl⟩ | ⟨m1, -⟩
    · have hmn : m ≤ n := by
        refine Nat.le_of_not_lt (fun z => hno k hk ⟨Nat.le_trans z n2.1, fun j hj => n2.2 j (by omega)⟩)
      refine ⟨hb, at_le e0 e61 hmn (by omega), fun z => ?_⟩
      subst z
      have : n ≤ m := by
        refine Nat.le_of_not_lt (fun z => n3 ⟨Nat.le_trans z hm.1, fun j hj => hm.2 j (by omega)⟩)
      rw [show m = n by omega]
    · exfalso
      have hkn : (wrd k).length ≤ n := by
        refine Nat.le_of_not_lt (fun z => hno k hk ⟨z, fun j hj => m1.2 j (by omega)⟩)
      have e := mt_un hk hi m1 hm hkn
      subst e
      have := hm.1
      exact hnc k hk ⟨hm, by omega⟩
  · refine ⟨i, hi, fun k b e' ns' hk h => ?_⟩
    obtain ⟨p0, p1⟩ := mtW_in hm hi e0 e61 e60
    have hl7 := wrd_7 i hi
    have hpe : he + nI (wrd i).length ≤ e := by
      have q := (prs_in (tx := tx) e60 (prt i) (he + nI (wrd i).length, false) p0 p1).1
      rw [hp] at q
      exact q
    rcases h with ⟨hb, m, n1, n2, n3, rfl⟩ | ⟨m1, ns2, hb, m2⟩
    · have hne : ¬ k = i := fun z => by
        subst z
        exact n3 ⟨n1, fun j hj => hm.2 j (by omega)⟩
      have hml : m ≤ (wrd i).length := by
        refine Nat.le_of_not_lt (fun z => hne (mt_un hi hk hm n2 (by omega)).symm)
      exact ⟨hb, Int32.le_trans (at_le e0 e61 hml (by omega)) hpe, fun z => absurd z hne⟩
    · have e1 := mt_un hi hk hm m1 (by
        by_cases q : (wrd i).length ≤ (wrd k).length
        · exact q
        · have e := mt_un hk hi m1 hm (by omega)
          rw [e] at q
          exact absurd (Nat.le_refl _) q)
      subst e1
      rw [m2] at hp
      have q1 := congrArg Prod.fst hp
      have q2 := congrArg Prod.snd hp
      dsimp only at q1 q2
      refine ⟨by cases b with
        | true => exact absurd q2 (by decide)
        | false => rfl, by rw [q1]; exact Int32.le_refl _, fun _ => q1⟩
/-- a place is the end of a command, or of an error: one of both, and one alone -/
theorem cm_un {tx : Int32 → Int32} {en he e e' : Int32} {i i' : Nat} {ns ns' : List Int32} (h : cmG tx en he i e ns) (h2 : cmG tx en he i' e' ns') : i = i' ∧ e = e' ∧ ns = ns' := by
  obtain ⟨hi, hm, hp⟩ := h2
  rcases FR_G h hi (Or.inr ⟨hm, ns', fun _ => rfl, by rw [hp]; rfl⟩ : FR tx en he i' true e' ns') with ⟨a, -, b, c⟩ | ⟨-, z⟩
  · exact ⟨a.symm, b.symm, c.symm⟩
  · exact absurd z (by decide)
theorem cm_ex {tx : Int32 → Int32} {en he e e' : Int32} {i : Nat} {ns : List Int32} (e0 : 0 ≤ he) (e61 : he ≤ 60) (e60 : en ≤ 60) (h : cmG tx en he i e ns) (h2 : cmE tx en he e') : False := by
  obtain ⟨k0, -, q⟩ := FR_E e0 e61 e60 h2
  obtain ⟨hi, hm, hp⟩ := h
  have z := (q i true e ns hi (Or.inr ⟨hm, ns, fun _ => rfl, by rw [hp]; rfl⟩)).1
  exact absurd z (by decide)
theorem cmG_in {tx : Int32 → Int32} {en he e : Int32} {i : Nat} {ns : List Int32} (e0 : 0 ≤ he) (e61 : he ≤ 60) (e60 : en ≤ 60) (h : cmG tx en he i e ns) : he ≤ e ∧ 0 ≤ e ∧ e ≤ 60 := by
  obtain ⟨hi, hm, hp⟩ := h
  obtain ⟨p0, p1⟩ := mtW_in hm hi e0 e61 e60
  have q := prs_in (tx := tx) e60 (prt i) (he + nI (wrd i).length, false) p0 p1
  rw [hp] at q
  have h2 := at_le e0 e61 (Nat.zero_le (wrd i).length) (by have := wrd_7 i hi; omega)
  rw [show he + nI 0 = he from Int32.add_zero he] at h2
  exact ⟨Int32.le_trans h2 q.1, q.2⟩
theorem prs_len {tx : Int32 → Int32} {en : Int32} : ∀ (ks : List Nat) (s : Int32 × Bool), (prs tx en ks s).2.length = ks.length := by
  intro ks
  induction ks with
  | nil => exact fun _ => rfl
  | cons k ks ih => exact fun s => congrArg (· + 1) (ih _)
theorem prt_len : ∀ i, i < 10 → (prt i).length = arN i := by decide
theorem cmG_len {tx : Int32 → Int32} {en he e : Int32} {i : Nat} {ns : List Int32} (h : cmG tx en he i e ns) : ns.length = arN i := by
  obtain ⟨hi, hm, hp⟩ := h
  have q := prs_len (tx := tx) (en := en) (prt i) (he + nI (wrd i).length, false)
  rw [hp] at q
  exact q.trans (prt_len i hi)
