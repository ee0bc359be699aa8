/-! ===== home among the goals changes nothing ===== -/
theorem bits_keep : ∀ j, j < 128 → ∀ x, x < 7 → ∀ y, y < 7 → (y = x ∨ bitI (nI j) (nI x) = 0 ∨ ¬ bitI (nI j &&& (sbit (nI y) ^^^ -1)) (nI x) = 0) := by decide +kernel
theorem bits_keep2 {j : Nat} {x y : Int32} (hj : j < 128) (x0 : 0 ≤ x) (x1 : x < 7) (y0 : 0 ≤ y) (y1 : y < 7) (e : ¬ y = x) (h : ¬ bitI (nI j) x = 0) : ¬ bitI (nI j &&& (sbit y ^^^ -1)) x = 0 := by
  have q := bits_keep j hj _ (tc7 x0 x1) _ (tc7 y0 y1)
  rw [tc_nI x0, tc_nI y0] at q
  refine (q.resolve_left (fun z => e ?_)).resolve_left h
  have := congrArg nI z
  rwa [tc_nI x0, tc_nI y0] at this
theorem En_mem : ∀ (l : List Int32) (x : Int32) (j : Nat), j < 128 → 0 ≤ x → x < 7 → En (nI j) l → ¬ bitI (nI j) x = 0 → x ∈ l := by
  intro l
  induction l with
  | nil =>
    intro x j hj x0 x1 h hb
    rw [show nI j = 0 from h, ← show nI 0 = 0 by decide] at hb
    exact absurd bit_z hb
  | cons y l ih =>
    rintro x j hj x0 x1 ⟨⟨a0, a1, a2⟩, b⟩ hb
    by_cases e : y = x
    · rw [e]
      exact List.mem_cons_self
    · obtain ⟨j', k1, k2⟩ := rm_in hj a0 a1
      have h2 := bits_keep2 hj x0 x1 a0 a1 e hb
      rw [k2] at b h2
      exact List.mem_cons_of_mem _ (ih x j' k1 x0 x1 b h2)
theorem En_g {g : Int32 → Prop} : ∀ (l : List Int32) (j : Nat), j < 128 → InG g (nI j) → En (nI j) l → ∀ x ∈ l, g x := by
  intro l
  induction l with
  | nil => exact fun _ _ _ _ x hx => absurd hx List.not_mem_nil
  | cons y l ih =>
    rintro j hj hm ⟨⟨a0, a1, a2⟩, b⟩ x hx
    obtain ⟨j', k1, k2⟩ := rm_in hj a0 a1
    have hm2 := hm.rm hj a0 a1
    rw [k2] at b hm2
    rcases List.mem_cons.mp hx with e | e
    · rw [e]
      exact hm y a0 a1 a2
    · exact ih j' k1 hm2 b x e
theorem En_cut : ∀ (a b : List Int32) (h : Int32) (j : Nat), j < 128 → En (nI j) (a ++ h :: b) → En (nI j &&& (sbit h ^^^ -1)) (a ++ b) := by
  intro a
  induction a with
  | nil => exact fun b h j hj q => q.2
  | cons x a ih =>
    rintro b h j hj ⟨⟨a0, a1, a2⟩, q⟩
    obtain ⟨j', k1, k2⟩ := rm_in hj a0 a1
    rw [k2] at q
    have hin : (0 ≤ h ∧ h < 7) ∧ ¬ bitI (nI j') h = 0 := by
      have key : ∀ (a : List Int32) (j : Nat), j < 128 → En (nI j) (a ++ h :: b) → (0 ≤ h ∧ h < 7) ∧ ¬ bitI (nI j) h = 0 := by
        intro a
        induction a with
        | nil => exact fun j hj q => ⟨⟨q.1.1, q.1.2.1⟩, q.1.2.2⟩
        | cons y a ih2 =>
          rintro j hj ⟨⟨c0, c1, c2⟩, q2⟩
          obtain ⟨j2, l1, l2⟩ := rm_in hj c0 c1
          rw [l2] at q2
          obtain ⟨⟨d0, d1⟩, d2⟩ := ih2 j2 l1 q2
          rw [← l2] at d2
          exact ⟨⟨d0, d1⟩, bits_sub2 hj c0 c1 d0 d1 d2⟩
      exact key a j' k1 q
    obtain ⟨⟨h0, h1⟩, h2⟩ := hin
    have e := ih b h j' k1 q
    rw [← k2] at e h2
    have c := (bits_cm2 hj h0 h1 a0 a1).mp ⟨a2, h2⟩
    refine ⟨⟨a0, a1, c.2⟩, ?_⟩
    rw [rm_cm]
    exact e
theorem cst_cut {d : Int32 → Int32 → Int} {g : Int32 → Prop} {h : Int32} (hg : g h) (ht : ∀ x y z, g x → g y → g z → d x z ≤ d x y + d y z) {t : Int32} (htg : g t) : ∀ (a b : List Int32) (s : Int32), g s → (∀ x ∈ a ++ b, g x) → cst d s (a ++ b) t ≤ cst d s a h + cst d h b t := by
  intro a
  induction a with
  | nil =>
    intro b s hs hb
    cases b with
    | nil => exact ht s h t hs hg htg
    | cons y b =>
      show d s y + cst d y b t ≤ d s h + (d h y + cst d y b t)
      have := ht s h y hs hg (hb y List.mem_cons_self)
      omega
  | cons x a ih =>
    intro b s hs hb
    have := ih b x (hb x List.mem_cons_self) (fun y hy => hb y (List.mem_cons_of_mem _ hy))
    show d s x + cst d x (a ++ b) t ≤ d s x + cst d x a h + cst d h b t
    omega
theorem cst_app {d : Int32 → Int32 → Int} {h t : Int32} : ∀ (a b : List Int32) (s : Int32), cst d s (a ++ h :: b) t = cst d s a h + cst d h b t := by
  intro a
  induction a with
  | nil => exact fun b s => rfl
  | cons x a ih =>
    intro b s
    show d s x + cst d x (a ++ h :: b) t = d s x + cst d x a h + cst d h b t
    rw [ih]
    omega
/-- the least tour over the goals is the least over those that are not home -/
theorem Lst.home {d : Int32 → Int32 → Int} {g : Int32 → Prop} {home : Int32} {j : Nat} {v : Int} (hj : j < 128) (h0 : 0 ≤ home) (h7 : home < 7) (hh : g home) (hz : d home home = 0) (ht : ∀ x y z, g x → g y → g z → d x z ≤ d x y + d y z) (hm : InG g (nI j)) (h : Lst d home (nI j &&& (sbit home ^^^ -1)) home v) : Lst d home (nI j) home v := by
  by_cases hb : bitI (nI j) home = 0
  · have q : ∀ j, j < 128 → ∀ x, x < 7 → bitI (nI j) (nI x) = 0 → nI j &&& (sbit (nI x) ^^^ -1) = nI j := by decide +kernel
    have q2 := q j hj _ (tc7 h0 h7)
    rw [tc_nI h0] at q2
    rwa [q2 hb] at h
  · obtain ⟨⟨l, l1, l2⟩, hl⟩ := h
    refine ⟨⟨home :: l, ⟨⟨h0, h7, hb⟩, l1⟩, ?_⟩, fun l' hl' => ?_⟩
    · show v = d home home + cst d home l home
      rw [hz, l2]
      omega
    · have hmem := En_mem l' home j hj h0 h7 hl' hb
      have hgl := En_g l' j hj hm hl'
      obtain ⟨a, b, e⟩ := List.append_of_mem hmem
      rw [e] at hl' hgl ⊢
      have c := hl _ (En_cut a b home j hj hl')
      have c2 := cst_cut hh ht hh a b home hh (fun x hx => hgl x (by
        rcases List.mem_append.mp hx with y | y
        · exact List.mem_append.mpr (Or.inl y)
        · exact List.mem_append.mpr (Or.inr (List.mem_cons_of_mem _ y))))
      rw [cst_app]
      omega
/-- distances keep the triangle -/
theorem IsD.tri {σ : Int32 → Int32} {d : Int32 → Int32 → Int} {home : Int32} (hG : Good σ) (hS : Sy σ) (hdI : ∀ a b, Rch σ home a → Rch σ home b → IsD σ 1000000 a b (d a b)) : ∀ x y z, Rch σ home x → Rch σ home y → Rch σ home z → d x z ≤ d x y + d y z := by
  have h5 := hG.2.1
  have key : ∀ a b, Rch σ home a → Rch σ home b → Wks σ a b (d a b) := by
    intro a b ha hb
    have hI := hdI a b ha hb
    obtain ⟨a0, a1, x, kx, hx⟩ := ha
    obtain ⟨b0, b1, y, ky, hy⟩ := hb
    have hc := (Wks.rev hS h5 kx a x a0 a1 hx).cat ky b y hy
    exact (hI.b hG a0 (Int32.lt_of_lt_of_le a1 h5) b0 (Int32.lt_of_lt_of_le b1 h5) ⟨_, hc⟩).2.2
  intro x y z hx hy hz
  obtain ⟨k1, w1⟩ := key y z hy hz
  have w := (key x y hx hy).cat k1 z _ w1
  rcases hdI x z hx hz with ⟨-, -, c3⟩ | ⟨-, c2⟩
  · exact c3 _ w
  · exact absurd w (c2 _)
