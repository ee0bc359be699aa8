/-! ===== the program's trips are the least tours ===== -/
theorem rF_L {d : Int32 → Int32 → Int} {g : Int32 → Prop} {D : Int32 → Int32} (hd : ∀ a b, g a → g b → 0 ≤ d a b ∧ d a b ≤ 120) (hD : ∀ a b, g a → g b → (D (a * 7 + b)).toInt = d a b) {home : Int32} (hh : g home) : ∀ (k j : Nat) (a : Int32), j < 128 → pcN (nI j) 7 ≤ k → g a → InG g (nI j) → Lst d a (nI j) home (rF D home k a (nI j)).toInt := by
  intro k
  induction k with
  | zero =>
    intro j a hj hp ha hm
    have h0 := pc_z j hj (by omega)
    subst h0
    have e : (rF D home 0 a (nI 0)).toInt = d a home := hD a home ha hh
    rw [e]
    exact Lst.z
  | succ k ih =>
    intro j a hj hp ha hm
    by_cases h0 : nI j = 0
    · have e : rF D home (k + 1) a (nI j) = D (a * 7 + home) := if_pos h0
      rw [e, hD a home ha hh, h0]
      exact Lst.z
    · have e : rF D home (k + 1) a (nI j) = mnN (nI j) (fun i => D (a * 7 + i) + rF D home k i (nI j &&& (sbit i ^^^ -1))) 7 := if_neg h0
      have ih2 : ∀ x, 0 ≤ x → x < 7 → ¬ bitI (nI j) x = 0 → Lst d x (nI j &&& (sbit x ^^^ -1)) home (rF D home k x (nI j &&& (sbit x ^^^ -1))).toInt ∧ (D (a * 7 + x) + rF D home k x (nI j &&& (sbit x ^^^ -1))).toInt = d a x + (rF D home k x (nI j &&& (sbit x ^^^ -1))).toInt ∧ d a x + (rF D home k x (nI j &&& (sbit x ^^^ -1))).toInt < 1000000 := fun x x0 x1 x2 => by
        obtain ⟨j', k1, k2, k3⟩ := rm_of hj x0 x1 x2
        have hx := hm x x0 x1 x2
        have hm2 := hm.rm hj x0 x1
        rw [k2] at hm2 ⊢
        have q := ih j' x (by omega) (by omega) hx hm2
        obtain ⟨b1, b2⟩ := q.b hd (by omega) hx hh hm2
        obtain ⟨c1, c2⟩ := hd a x ha hx
        have c3 := hD a x ha hx
        exact ⟨q, by rw [i_add] <;> rw [c3] <;> omega, by omega⟩
      have hM := mnN_I (m := nI j) (f := fun i => D (a * 7 + i) + rF D home k i (nI j &&& (sbit i ^^^ -1)))
      rw [← e] at hM
      refine Lst.front h0 (fun x x0 x1 x2 => (ih2 x x0 x1 x2).1) ?_ (fun x x0 x1 x2 => ?_)
      · obtain ⟨x, x0, x1, x2, x3⟩ := hM.at (by
          obtain ⟨x, x0, x1, x2⟩ := bit_some hj h0
          exact ⟨x, x0, x1, x2, by rw [(ih2 x x0 x1 x2).2.1]; exact (ih2 x x0 x1 x2).2.2⟩)
        exact ⟨x, x0, x1, x2, by rw [x3, (ih2 x x0 x1 x2).2.1]⟩
      · exact Int.le_trans (hM.2 x x0 x1 x2) (Int.le_of_eq (ih2 x x0 x1 x2).2.1)
theorem wF_L {d : Int32 → Int32 → Int} {g : Int32 → Prop} {D : Int32 → Int32} (hd : ∀ a b, g a → g b → 0 ≤ d a b ∧ d a b ≤ 120) (hD : ∀ a b, g a → g b → (D (a * 7 + b)).toInt = d a b) {home : Int32} (hh : g home) : ∀ (k j : Nat) (last : Int32), j < 128 → pcN (nI j) 7 ≤ k → 0 ≤ last → last < 7 → ¬ bitI (nI j) last = 0 → InG g (nI j) → Lst d home (nI j &&& (sbit last ^^^ -1)) last (wF D home k (nI j) last).toInt := by
  intro k
  induction k with
  | zero =>
    intro j last hj hp l0 l1 l2 hm
    have h0 := pc_z j hj (by omega)
    subst h0
    exact absurd (by unfold bitI; rw [show nI 0 = 0 by decide, show (0 : Int32) >>> (last &&& 31) = 0 by simp]; decide) l2
  | succ k ih =>
    intro j last hj hp l0 l1 l2 hm
    have hl := hm last l0 l1 l2
    have hm2 := hm.rm hj l0 l1
    obtain ⟨j', k1, k2, k3⟩ := rm_of hj l0 l1 l2
    have e0 : wF D home (k + 1) (nI j) last = if (nI j &&& (sbit last ^^^ -1)) = 0 then D (home * 7 + last) else mnN (nI j &&& (sbit last ^^^ -1)) (fun i => wF D home k (nI j &&& (sbit last ^^^ -1)) i + D (i * 7 + last)) 7 := rfl
    rw [e0]
    rw [k2] at hm2 ⊢
    by_cases h0 : nI j' = 0
    · rw [if_pos h0, hD home last hh hl, h0]
      exact Lst.z
    · rw [if_neg h0]
      have ih2 : ∀ x, 0 ≤ x → x < 7 → ¬ bitI (nI j') x = 0 → Lst d home (nI j' &&& (sbit x ^^^ -1)) x (wF D home k (nI j') x).toInt ∧ (wF D home k (nI j') x + D (x * 7 + last)).toInt = (wF D home k (nI j') x).toInt + d x last ∧ (wF D home k (nI j') x).toInt + d x last < 1000000 := fun x x0 x1 x2 => by
        have q := ih j' x (by omega) (by omega) x0 x1 x2 hm2
        have hx := hm2 x x0 x1 x2
        obtain ⟨b1, b2⟩ : 0 ≤ (wF D home k (nI j') x).toInt ∧ (wF D home k (nI j') x).toInt ≤ 960 := by
          obtain ⟨j2, n1, n2, n3⟩ := rm_of (show j' < 128 by omega) x0 x1 x2
          have hm3 := hm2.rm (show j' < 128 by omega) x0 x1
          rw [n2] at hm3 q
          exact q.b hd (by omega) hh hx hm3
        obtain ⟨c1, c2⟩ := hd x last hx hl
        have c3 := hD x last hx hl
        exact ⟨q, by rw [i_add] <;> rw [c3] <;> omega, by omega⟩
      have hM := mnN_I (m := nI j') (f := fun i => wF D home k (nI j') i + D (i * 7 + last))
      refine Lst.back (by omega) h0 (fun x x0 x1 x2 => (ih2 x x0 x1 x2).1) ?_ (fun x x0 x1 x2 => ?_)
      · obtain ⟨x, x0, x1, x2, x3⟩ := hM.at (by
          obtain ⟨x, x0, x1, x2⟩ := bit_some (show j' < 128 by omega) h0
          exact ⟨x, x0, x1, x2, by rw [(ih2 x x0 x1 x2).2.1]; exact (ih2 x x0 x1 x2).2.2⟩)
        exact ⟨x, x0, x1, x2, by rw [x3, (ih2 x x0 x1 x2).2.1]⟩
      · exact Int.le_trans (hM.2 x x0 x1 x2) (Int.le_of_eq (ih2 x x0 x1 x2).2.1)
theorem sT_L {d : Int32 → Int32 → Int} {g : Int32 → Prop} {D : Int32 → Int32} (hd : ∀ a b, g a → g b → 0 ≤ d a b ∧ d a b ≤ 120) (hD : ∀ a b, g a → g b → (D (a * 7 + b)).toInt = d a b) {home : Int32} (hh : g home) (hz : d home home = 0) {j : Nat} (hj : j < 128) (hm : InG g (nI j)) : Lst d home (nI j) home (sT D home (nI j)).toInt := by
  unfold sT
  by_cases h0 : nI j = 0
  · rw [if_pos h0, h0, show (0 : Int32).toInt = d home home by rw [hz]; rfl]
    exact Lst.z
  · rw [if_neg h0]
    have ih2 : ∀ x, 0 ≤ x → x < 7 → ¬ bitI (nI j) x = 0 → Lst d home (nI j &&& (sbit x ^^^ -1)) x (wF D home (pcN (nI j) 7) (nI j) x).toInt ∧ (wF D home (pcN (nI j) 7) (nI j) x + D (x * 7 + home)).toInt = (wF D home (pcN (nI j) 7) (nI j) x).toInt + d x home ∧ (wF D home (pcN (nI j) 7) (nI j) x).toInt + d x home < 1000000 := fun x x0 x1 x2 => by
      have q := wF_L hd hD hh (pcN (nI j) 7) j x hj (Nat.le_refl _) x0 x1 x2 hm
      have hx := hm x x0 x1 x2
      obtain ⟨b1, b2⟩ : 0 ≤ (wF D home (pcN (nI j) 7) (nI j) x).toInt ∧ (wF D home (pcN (nI j) 7) (nI j) x).toInt ≤ 960 := by
        obtain ⟨j2, n1, n2, n3⟩ := rm_of hj x0 x1 x2
        have hm3 := hm.rm hj x0 x1
        rw [n2] at hm3 q
        exact q.b hd (by omega) hh hx hm3
      obtain ⟨c1, c2⟩ := hd x home hx hh
      have c3 := hD x home hx hh
      exact ⟨q, by rw [i_add] <;> rw [c3] <;> omega, by omega⟩
    have hM := mnN_I (m := nI j) (f := fun i => wF D home (pcN (nI j) 7) (nI j) i + D (i * 7 + home))
    refine Lst.back hj h0 (fun x x0 x1 x2 => (ih2 x x0 x1 x2).1) ?_ (fun x x0 x1 x2 => ?_)
    · obtain ⟨x, x0, x1, x2, x3⟩ := hM.at (by
        obtain ⟨x, x0, x1, x2⟩ := bit_some hj h0
        exact ⟨x, x0, x1, x2, by rw [(ih2 x x0 x1 x2).2.1]; exact (ih2 x x0 x1 x2).2.2⟩)
      exact ⟨x, x0, x1, x2, by rw [x3, (ih2 x x0 x1 x2).2.1]⟩
    · exact Int.le_trans (hM.2 x x0 x1 x2) (Int.le_of_eq (ih2 x x0 x1 x2).2.1)
/-- roads lead both ways -/
def Sy (σ : Int32 → Int32) : Prop := ∀ a b, 0 ≤ a → a < 7 → 0 ≤ b → b < 7 → rd σ a b = rd σ b a
theorem Wks.rev {σ : Int32 → Int32} (hs : Sy σ) (h5 : σ 5 ≤ 7) {a : Int32} : ∀ (k : Nat) (b : Int32) (v : Int), 0 ≤ b → b < σ 5 → Wk σ k a b v → Wks σ b a v := by
  intro k
  induction k with
  | zero =>
    rintro b v _ _ ⟨rfl, rfl⟩
    exact Wks.nil
  | succ k ih =>
    rintro b v b0 b1 ⟨c, c0, c1, hr, hw⟩
    have e := hs c b c0 (by lia) b0 (by lia)
    have h1 := ih c _ c0 c1 hw
    have h2 := (Wks.nil (σ := σ) (a := b)).snoc b0 b1 (by rw [← e]; exact hr : 0 < rd σ b c)
    obtain ⟨k2, hk2⟩ := h1
    have h3 := h2.cat k2 a _ hk2
    rw [← e, show 0 + (rd σ c b).toInt + (v - (rd σ c b).toInt) = v by omega] at h3
    exact h3
theorem goN_bit {σ : Int32 → Int32} {k : Int32} (h7 : σ 7 ≤ 12) (hw : ∀ i, 0 ≤ i → i < σ 7 → 0 ≤ lt σ i 1 ∧ lt σ i 1 < 7) {x : Int32} (x0 : 0 ≤ x) (x1 : x < 7) : ∀ n, n ≤ (σ 7).toNatClampNeg → (¬ bitI (goN σ k n) x = 0 ↔ ∃ i, i < n ∧ lt σ (nI i) 6 = 10 + k ∧ lt σ (nI i) 1 = x) := by
  intro n
  induction n with
  | zero =>
    intro _
    refine ⟨fun h => absurd ?_ h, fun ⟨i, hi, _⟩ => absurd hi (by omega)⟩
    show bitI 0 x = 0
    unfold bitI
    rw [show (0 : Int32) >>> (x &&& 31) = 0 by simp]
    decide
  | succ n ih =>
    intro hn
    obtain ⟨j, hj, e⟩ := goN_in (k := k) h7 hw n (by omega)
    obtain ⟨n0, n1, -⟩ := nI_low h7 (i := n) (by omega)
    obtain ⟨w0, w1⟩ := hw _ n0 n1
    have ih2 := ih (by omega)
    have e1 : goN σ k (n + 1) = if lt σ (nI n) 6 = 10 + k then goN σ k n ||| sbit (lt σ (nI n) 1) else goN σ k n := rfl
    by_cases q : lt σ (nI n) 6 = 10 + k
    · rw [e1, if_pos q]
      have b := bit_or7 j hj _ (tc7 w0 w1) _ (tc7 x0 x1)
      rw [tc_nI w0, tc_nI x0, ← e] at b
      rw [b]
      by_cases z : x.toNatClampNeg = (lt σ (nI n) 1).toNatClampNeg
      · have z2 : lt σ (nI n) 1 = x := by rw [← tc_nI w0, ← z, tc_nI x0]
        rw [if_pos z]
        exact ⟨fun _ => ⟨n, by omega, q, z2⟩, fun _ => by decide⟩
      · rw [if_neg z]
        refine ⟨fun h => ?_, fun ⟨i, i1, i2, i3⟩ => ?_⟩
        · obtain ⟨i, i1, i2, i3⟩ := ih2.mp h
          exact ⟨i, by omega, i2, i3⟩
        · refine ih2.mpr ⟨i, ?_, i2, i3⟩
          by_cases y : i = n
          · rw [y] at i3
            exact absurd (by rw [i3]) z
          · omega
    · rw [e1, if_neg q]
      refine ⟨fun h => ?_, fun ⟨i, i1, i2, i3⟩ => ?_⟩
      · obtain ⟨i, i1, i2, i3⟩ := ih2.mp h
        exact ⟨i, by omega, i2, i3⟩
      · refine ih2.mpr ⟨i, ?_, i2, i3⟩
        by_cases y : i = n
        · rw [y] at i2
          exact absurd i2 q
        · omega
/-- the stations that can be reached from home -/
def Rch (σ : Int32 → Int32) (home a : Int32) : Prop := 0 ≤ a ∧ a < σ 5 ∧ ∃ v, Wks σ home a v
def dF (f : Int32 → Int32) (a b : Int32) : Int := (f (a * 7 + b)).toInt
theorem Rch.d {σ f : Int32 → Int32} {home : Int32} (h5 : σ 5 ≤ 7) (hs : Sy σ) (h0 : 0 ≤ home) (h1 : home < σ 5) (hf : ∀ s, 0 ≤ s → s < σ 5 → NX σ 120 s f) (a b : Int32) (ha : Rch σ home a) (hb : Rch σ home b) : 0 ≤ dF f a b ∧ dF f a b ≤ 120 := by
  obtain ⟨a0, a1, v, k, hv⟩ := ha
  obtain ⟨b0, b1, w, k2, hw⟩ := hb
  obtain ⟨q1, q2, q3⟩ := hf a a0 a1 b b0 b1
  have hr := Wks.rev hs h5 k a v a0 a1 hv
  have hc := hr.cat k2 b w hw
  refine ⟨q2, ?_⟩
  rcases q3 with q | q
  · exact q
  · rcases q1 with ⟨p1, p2, p3⟩ | ⟨p1, p2⟩
    · omega
    · exact absurd hc (p2 _)
theorem dF_0 {σ f : Int32 → Int32} {home : Int32} {K : Int} (h0 : 0 ≤ home) (h1 : home < σ 5) (hf : NX σ K home f) : dF f home home = 0 := by
  obtain ⟨q1, q2, q3⟩ := hf home h0 h1
  rcases q1 with ⟨p1, p2, p3⟩ | ⟨p1, p2⟩
  · have := p3 0 Wks.nil
    unfold dF
    omega
  · exact absurd Wks.nil (p2 0)
theorem goals_G {σ : Int32 → Int32} {k : Int32} (h : Good σ) (k0 : 0 ≤ k) (k1 : k < σ 6) (hw : ∀ i, 0 ≤ i → i < σ 7 → lt σ i 6 = 10 + k → ∃ d, Wks σ (sd σ k 1) (lt σ i 1) d) : InG (Rch σ (sd σ k 1)) (goN σ k (σ 7).toNatClampNeg) := by
  obtain ⟨g1, g2, g3, g4, g5, g6, -, -, gL, gS, -⟩ := h
  intro x x0 x1 x2
  obtain ⟨i, i1, i2, i3⟩ := (goN_bit (k := k) g6 (fun i i0 i1 => by
    obtain ⟨z1, z2, -⟩ := gL i i0 i1
    clear gL gS
    exact ⟨z1, by lia⟩) x0 x1 _ (Nat.le_refl _)).mp x2
  obtain ⟨n0, n1, -⟩ := nI_low g6 (i := i) i1
  obtain ⟨z1, z2, -⟩ := gL _ n0 n1
  have q := hw _ n0 n1 i2
  rw [i3] at z1 z2 q
  exact ⟨z1, z2, q⟩
/-- the trip by sets is the trip by orders -/
theorem trips_eq {σ f' f'' : Int32 → Int32} {k : Int32} (h : Good σ) (hs : Sy σ) (k0 : 0 ≤ k) (k1 : k < σ 6) (hw : ∀ i, 0 ≤ i → i < σ 7 → lt σ i 6 = 10 + k → ∃ d, Wks σ (sd σ k 1) (lt σ i 1) d) (h1 : ∀ s, 0 ≤ s → s < σ 5 → NX σ 120 s f') (h2 : ∀ s, 0 ≤ s → s < σ 5 → NX σ 2560 s f'') :
    Lst (dF f') (sd σ k 1) (goN σ k (σ 7).toNatClampNeg &&& (sbit (sd σ k 1) ^^^ -1)) (sd σ k 1) (sT f' (sd σ k 1) (goN σ k (σ 7).toNatClampNeg &&& (sbit (sd σ k 1) ^^^ -1))).toInt ∧ Lst (dF f') (sd σ k 1) (goN σ k (σ 7).toNatClampNeg &&& (sbit (sd σ k 1) ^^^ -1)) (sd σ k 1) (rF f'' (sd σ k 1) 7 (sd σ k 1) (goN σ k (σ 7).toNatClampNeg &&& (sbit (sd σ k 1) ^^^ -1))).toInt := by
  have hG := goals_G h k0 k1 hw
  obtain ⟨j, hj, e⟩ := goals_in h k0 k1
  obtain ⟨-, g2, g3, g4, g5, g6, -, -, gL, gS, -⟩ := h
  obtain ⟨u0, u1, u2, u3, -⟩ := gS k k0 k1
  have hI : InG (Rch σ (sd σ k 1)) (nI j) := by
    obtain ⟨j0, e0, e1⟩ := goN_in (k := k) g6 (fun i i0 i1 => by
      obtain ⟨z1, z2, -⟩ := gL i i0 i1
      clear gL gS
      exact ⟨z1, by lia⟩) _ (Nat.le_refl _)
    rw [← e]
    rw [e1] at hG ⊢
    exact hG.rm e0 u2 (by clear gL gS; lia)
  rw [e]
  have hh : Rch σ (sd σ k 1) (sd σ k 1) := ⟨u2, u3, 0, Wks.nil⟩
  have hd := Rch.d g2 hs u2 u3 h1
  refine ⟨sT_L (D := f') hd (fun _ _ _ _ => rfl) hh (dF_0 u2 u3 (h1 _ u2 u3)) hj hI, rF_L (D := f'') hd (fun a b ha hb => ?_) hh 7 j _ hj (pcN_le _ 7) hh hI⟩
  exact IsD.uniq (h2 a ha.1 ha.2.1 b hb.1 hb.2.1).1 (h1 a ha.1 ha.2.1 b hb.1 hb.2.1).1
