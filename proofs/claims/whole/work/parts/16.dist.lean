/-! ===== distances: walks, and what a row of shortest ones is ===== -/
theorem cell_in {s x : Int32} (h0 : 0 ≤ s) (h1 : s < 7) (g0 : 0 ≤ x) (g1 : x < 7) : 0 ≤ s * 7 + x ∧ s * 7 + x < 49 := by lia
theorem cell_inj {s x s' x' : Int32} (h0 : 0 ≤ s) (h1 : s < 7) (g0 : 0 ≤ x) (g1 : x < 7) (h0' : 0 ≤ s') (h1' : s' < 7) (g0' : 0 ≤ x') (g1' : x' < 7) (h : s * 7 + x = s' * 7 + x') : s = s' ∧ x = x' := by lia
/-- a walk over k roads from a to b, d hours long -/
def Wk (σ : Int32 → Int32) : Nat → Int32 → Int32 → Int → Prop
  | 0, a, b, d => a = b ∧ d = 0
  | k + 1, a, b, d => ∃ c, 0 ≤ c ∧ c < σ 5 ∧ 0 < rd σ c b ∧ Wk σ k a c (d - (rd σ c b).toInt)
def Wks (σ : Int32 → Int32) (a b : Int32) (d : Int) : Prop := ∃ k, Wk σ k a b d
theorem Wks.nil {σ : Int32 → Int32} {a : Int32} : Wks σ a a 0 := ⟨0, rfl, rfl⟩
theorem Wks.snoc {σ : Int32 → Int32} {a c b : Int32} {d : Int} (h : Wks σ a c d) (c0 : 0 ≤ c) (c1 : c < σ 5) (hr : 0 < rd σ c b) : Wks σ a b (d + (rd σ c b).toInt) := by
  obtain ⟨k, hk⟩ := h
  refine ⟨k + 1, c, c0, c1, hr, ?_⟩
  rw [Int.add_sub_cancel]
  exact hk
theorem Wks.cat {σ : Int32 → Int32} {a c : Int32} {d : Int} (h : Wks σ a c d) : ∀ (k : Nat) (b : Int32) (d2 : Int), Wk σ k c b d2 → Wks σ a b (d + d2) := by
  intro k
  induction k with
  | zero =>
    rintro b d2 ⟨rfl, rfl⟩
    rw [Int.add_zero]
    exact h
  | succ k ih =>
    rintro b d2 ⟨e, e0, e1, hr, hw⟩
    have h1 := (ih e _ hw).snoc e0 e1 hr
    rw [show d + (d2 - (rd σ e b).toInt) + (rd σ e b).toInt = d + d2 by omega] at h1
    exact h1
/-- v is the distance from a to b, far where there is no way -/
def IsD (σ : Int32 → Int32) (far : Int) (a b : Int32) (v : Int) : Prop := (v < far ∧ Wks σ a b v ∧ ∀ d, Wks σ a b d → v ≤ d) ∨ (v = far ∧ ∀ d, ¬ Wks σ a b d)
theorem IsD.uniq {σ : Int32 → Int32} {far : Int} {a b : Int32} {v w : Int} (h : IsD σ far a b v) (h2 : IsD σ far a b w) : v = w := by
  rcases h with ⟨a1, a2, a3⟩ | ⟨a1, a2⟩ <;> rcases h2 with ⟨b1, b2, b3⟩ | ⟨b1, b2⟩
  · have := a3 _ b2
    have := b3 _ a2
    omega
  · exact absurd a2 (b2 _)
  · exact absurd b2 (a2 _)
  · omega
theorem bit_or7 : ∀ j, j < 128 → ∀ h, h < 7 → ∀ x, x < 7 → bitI (nI j ||| sbit (nI h)) (nI x) = if x = h then 1 else bitI (nI j) (nI x) := by decide +kernel
theorem bit_01 : ∀ j, j < 128 → ∀ x, x < 7 → bitI (nI j) (nI x) = 0 ∨ bitI (nI j) (nI x) = 1 := by decide +kernel
theorem or_128 : ∀ j, j < 128 → ∀ h, h < 7 → ∃ j', j' < 128 ∧ nI j ||| sbit (nI h) = nI j' := by decide +kernel
theorem dX4_nearestUnsettled_0 : decode cX4_nearestUnsettled 0 = .ok (.iconst (-1), 1) := by decide +kernel
theorem dX4_nearestUnsettled_1 : decode cX4_nearestUnsettled 1 = .ok (.istore 4, 2) := by decide +kernel
theorem dX4_nearestUnsettled_3 : decode cX4_nearestUnsettled 3 = .ok (.ldc 32, 2) := by decide +kernel
theorem dX4_nearestUnsettled_5 : decode cX4_nearestUnsettled 5 = .ok (.istore 5, 2) := by decide +kernel
theorem dX4_nearestUnsettled_7 : decode cX4_nearestUnsettled 7 = .ok (.iconst 0, 1) := by decide +kernel
theorem dX4_nearestUnsettled_8 : decode cX4_nearestUnsettled 8 = .ok (.istore 6, 2) := by decide +kernel
theorem dX4_nearestUnsettled_10 : decode cX4_nearestUnsettled 10 = .ok (.iload 6, 2) := by decide +kernel
theorem dX4_nearestUnsettled_12 : decode cX4_nearestUnsettled 12 = .ok (.aload_n 1, 1) := by decide +kernel
theorem dX4_nearestUnsettled_13 : decode cX4_nearestUnsettled 13 = .ok (.getfield 26, 3) := by decide +kernel
theorem dX4_nearestUnsettled_16 : decode cX4_nearestUnsettled 16 = .ok (.if_icmp .ge 46, 3) := by decide +kernel
theorem dX4_nearestUnsettled_19 : decode cX4_nearestUnsettled 19 = .ok (.aload_n 0, 1) := by decide +kernel
theorem dX4_nearestUnsettled_20 : decode cX4_nearestUnsettled 20 = .ok (.getfield 9, 3) := by decide +kernel
theorem dX4_nearestUnsettled_23 : decode cX4_nearestUnsettled 23 = .ok (.iload_n 2, 1) := by decide +kernel
theorem dX4_nearestUnsettled_24 : decode cX4_nearestUnsettled 24 = .ok (.iload 6, 2) := by decide +kernel
theorem dX4_nearestUnsettled_26 : decode cX4_nearestUnsettled 26 = .ok (.invokestatic 22, 3) := by decide +kernel
theorem dX4_nearestUnsettled_29 : decode cX4_nearestUnsettled 29 = .ok (.iaload, 1) := by decide +kernel
theorem dX4_nearestUnsettled_30 : decode cX4_nearestUnsettled 30 = .ok (.istore 7, 2) := by decide +kernel
theorem dX4_nearestUnsettled_32 : decode cX4_nearestUnsettled 32 = .ok (.iload_n 3, 1) := by decide +kernel
theorem dX4_nearestUnsettled_33 : decode cX4_nearestUnsettled 33 = .ok (.iload 6, 2) := by decide +kernel
theorem dX4_nearestUnsettled_35 : decode cX4_nearestUnsettled 35 = .ok (.ishr, 1) := by decide +kernel
theorem dX4_nearestUnsettled_36 : decode cX4_nearestUnsettled 36 = .ok (.iconst 1, 1) := by decide +kernel
theorem dX4_nearestUnsettled_37 : decode cX4_nearestUnsettled 37 = .ok (.iand, 1) := by decide +kernel
theorem dX4_nearestUnsettled_38 : decode cX4_nearestUnsettled 38 = .ok (.ifCond .ne 18, 3) := by decide +kernel
theorem dX4_nearestUnsettled_41 : decode cX4_nearestUnsettled 41 = .ok (.iload 7, 2) := by decide +kernel
theorem dX4_nearestUnsettled_43 : decode cX4_nearestUnsettled 43 = .ok (.iload 5, 2) := by decide +kernel
theorem dX4_nearestUnsettled_45 : decode cX4_nearestUnsettled 45 = .ok (.if_icmp .ge 11, 3) := by decide +kernel
theorem dX4_nearestUnsettled_48 : decode cX4_nearestUnsettled 48 = .ok (.iload 6, 2) := by decide +kernel
theorem dX4_nearestUnsettled_50 : decode cX4_nearestUnsettled 50 = .ok (.istore 4, 2) := by decide +kernel
theorem dX4_nearestUnsettled_52 : decode cX4_nearestUnsettled 52 = .ok (.iload 7, 2) := by decide +kernel
theorem dX4_nearestUnsettled_54 : decode cX4_nearestUnsettled 54 = .ok (.istore 5, 2) := by decide +kernel
theorem dX4_nearestUnsettled_56 : decode cX4_nearestUnsettled 56 = .ok (.iinc 6 1, 3) := by decide +kernel
theorem dX4_nearestUnsettled_59 : decode cX4_nearestUnsettled 59 = .ok (.goto (-49), 3) := by decide +kernel
theorem dX4_nearestUnsettled_62 : decode cX4_nearestUnsettled 62 = .ok (.iload 4, 2) := by decide +kernel
theorem dX4_nearestUnsettled_64 : decode cX4_nearestUnsettled 64 = .ok (.ireturn, 1) := by decide +kernel
set_option maxRecDepth 100000 in
set_option maxHeartbeats 4000000 in
theorem c_nearestUnsettled {l : Launch} {g : Nat → Nat} {M : LH} (htr : l.stackTraces = false) {kd : Nat → Nat} {r a : Nat} {ad : Nat → Nat} {sl le : Int32 → Nat} {fg tp : Int32} {F : Nat → Int32 → Int32} {σ : Int32 → Int32} (hC : StR kd r M a ad sl le fg tp F σ) {dd bn bs : Nat} (hDD : M dd = some (ob 3 [.ref bn, .ref bs])) {f : Int32 → Int32} (hB : M bn = some (ia 49 f)) {s m : Int32} (hs0 : 0 ≤ s) (hs : s < σ 5) : K_X4_nearestUnsettled l g 1 0 0 [.ref dd, .ref a, .int s, .int m] M (RI (fun h M9 => ((h = -1 ∧ ∀ x, 0 ≤ x → x < σ 5 → bitI m x = 0 → 1000000 ≤ f (s * 7 + x)) ∨ (0 ≤ h ∧ h < σ 5 ∧ bitI m h = 0 ∧ f (s * 7 + h) < 1000000 ∧ ∀ x, 0 ≤ x → x < σ 5 → bitI m x = 0 → f (s * 7 + h) ≤ f (s * 7 + x))) ∧ M9 = M) nX) := by
  refine Ko_X4_nearestUnsettled htr (fun X => ?_)
  obtain ⟨hSt, hRo, -, -, -, -, hkd, -, ⟨-, hRd, -, -⟩, hG⟩ := hC
  obtain ⟨hg1, hg2, -⟩ := hG
  have key : ∀ i, 0 ≤ i → i ≤ σ 5 → ∀ (nr lst : Int32) (z7 : Option Value), ((nr = -1 ∧ lst = 1000000 ∧ ∀ x, 0 ≤ x → x < i → bitI m x = 0 → 1000000 ≤ f (s * 7 + x)) ∨ (0 ≤ nr ∧ nr < i ∧ bitI m nr = 0 ∧ lst = f (s * 7 + nr) ∧ lst < 1000000 ∧ ∀ x, 0 ≤ x → x < i → bitI m x = 0 → lst ≤ f (s * 7 + x))) → V l g yX4_nearestUnsettled cX4_nearestUnsettled ((some .int)) [] 1 0 0 (RI (fun h M9 => ((h = -1 ∧ ∀ x, 0 ≤ x → x < σ 5 → bitI m x = 0 → 1000000 ≤ f (s * 7 + x)) ∨ (0 ≤ h ∧ h < σ 5 ∧ bitI m h = 0 ∧ f (s * 7 + h) < 1000000 ∧ ∀ x, 0 ≤ x → x < σ 5 → bitI m x = 0 → f (s * 7 + h) ≤ f (s * 7 + x))) ∧ M9 = M) nX) X M 0 0 10 [some (.ref dd), some (.ref a), some (.int s), some (.int m), some (.int nr), some (.int lst), some (.int i), z7] [] := by
    refine up_ind _ (fun i h0 h1 ih nr lst z7 hv => ?_)
    refine v_iload dX4_nearestUnsettled_10 rfl ?_
    refine v_aload_n dX4_nearestUnsettled_12 rfl rfl ?_
    refine gf_X4_26 dX4_nearestUnsettled_13 rfl hSt ?_
    refine v_icmp_ge (tgt := 62) dX4_nearestUnsettled_16 (by decide) (fun h16 => ?_) (fun h16 => ?_)
    · have hi : i = σ 5 := by lia
      subst hi
      refine v_iload dX4_nearestUnsettled_62 rfl ?_
      exact v_iret dX4_nearestUnsettled_64 rfl ⟨by
  rcases hv with ⟨v1, v2, v3⟩ | ⟨v1, v2, v3, v4, v5, v6⟩
  · exact Or.inl ⟨v1, v3⟩
  · exact Or.inr ⟨v1, v2, v3, by rw [← v4]; exact v5, fun x x0 x1 hx => by rw [← v4]; exact v6 x x0 x1 hx⟩, rfl⟩ (by omega) (by omega)
    · have hi : i < σ 5 := by lia
      obtain ⟨b0, b1⟩ := cell_in hs0 (by lia) h0 (by lia)
      refine v_aload_n dX4_nearestUnsettled_19 rfl rfl ?_
      refine gf_X4_9 dX4_nearestUnsettled_20 rfl hDD ?_
      refine v_iload_n dX4_nearestUnsettled_23 rfl rfl ?_
      refine v_iload dX4_nearestUnsettled_24 rfl ?_
      refine k_X4_22 dX4_nearestUnsettled_26 rfl (c_cell htr s i) (Nat.le_of_ble_eq_true rfl) (by omega) (by omega) (Nat.le_of_ble_eq_true rfl) (fun r26 M9 h9 => ?_) (fun _ _ h9 => h9.elim)
      obtain ⟨rfl, e9⟩ := h9
      subst M9
      refine v_iald dX4_nearestUnsettled_29 hB b0 b1 ?_
      refine v_istore_7 dX4_nearestUnsettled_30 ?_
      refine v_iload_n dX4_nearestUnsettled_32 rfl rfl ?_
      refine v_iload dX4_nearestUnsettled_33 rfl ?_
      refine v_ishr dX4_nearestUnsettled_35 ?_
      refine v_iconst (v := 1) dX4_nearestUnsettled_36 (by decide) ?_
      refine v_iand dX4_nearestUnsettled_37 ?_
      refine v_if_ne (tgt := 56) dX4_nearestUnsettled_38 (by decide) (fun h38 => ?_) (fun h38 => ?_)
      · refine v_iinc_6 dX4_nearestUnsettled_56 rfl ?_
        refine v_goto (tgt := 10) dX4_nearestUnsettled_59 (by decide) ?_
        refine ih hi _ _ _ ?_
        have hx9 : ∀ x : Int32, 0 ≤ x → x < i + 1 → x = i ∨ x < i := fun x x0 x1 => by clear hv ih hRd; lia
        first
          | (refine Or.inr ⟨h0, by lia, by first | assumption | exact Classical.not_not.mp (by assumption), rfl, ?_, fun x x0 x1 hx => ?_⟩
             · rcases hv with ⟨v1, v2, v3⟩ | ⟨v1, v2, v3, v4, v5, v6⟩
               · rw [v2] at h45; exact Int32.not_le.mp h45
               · exact Int32.lt_trans (Int32.not_le.mp h45) v5
             · rcases hx9 x x0 x1 with rfl | q
               · exact Int32.le_refl _
               · rcases hv with ⟨v1, v2, v3⟩ | ⟨v1, v2, v3, v4, v5, v6⟩
                 · have := v3 x x0 q hx; rw [v2] at h45; exact Int32.le_trans (Int32.le_of_lt (Int32.not_le.mp h45)) this
                 · exact Int32.le_trans (Int32.le_of_lt (Int32.not_le.mp h45)) (v6 x x0 q hx))
          | (rcases hv with ⟨v1, v2, v3⟩ | ⟨v1, v2, v3, v4, v5, v6⟩
             · refine Or.inl ⟨v1, v2, fun x x0 x1 hx => ?_⟩
               rcases hx9 x x0 x1 with rfl | q
               · first | exact absurd hx (by assumption) | (rw [v2] at h45; exact h45)
               · exact v3 x x0 q hx
             · refine Or.inr ⟨v1, by lia, v3, v4, v5, fun x x0 x1 hx => ?_⟩
               rcases hx9 x x0 x1 with rfl | q
               · first | exact absurd hx (by assumption) | exact h45
               · exact v6 x x0 q hx)
      · refine v_iload dX4_nearestUnsettled_41 rfl ?_
        refine v_iload dX4_nearestUnsettled_43 rfl ?_
        refine v_icmp_ge (tgt := 56) dX4_nearestUnsettled_45 (by decide) (fun h45 => ?_) (fun h45 => ?_)
        · refine v_iinc_6 dX4_nearestUnsettled_56 rfl ?_
          refine v_goto (tgt := 10) dX4_nearestUnsettled_59 (by decide) ?_
          refine ih hi _ _ _ ?_
          have hx9 : ∀ x : Int32, 0 ≤ x → x < i + 1 → x = i ∨ x < i := fun x x0 x1 => by clear hv ih hRd; lia
          first
            | (refine Or.inr ⟨h0, by lia, by first | assumption | exact Classical.not_not.mp (by assumption), rfl, ?_, fun x x0 x1 hx => ?_⟩
               · rcases hv with ⟨v1, v2, v3⟩ | ⟨v1, v2, v3, v4, v5, v6⟩
                 · rw [v2] at h45; exact Int32.not_le.mp h45
                 · exact Int32.lt_trans (Int32.not_le.mp h45) v5
               · rcases hx9 x x0 x1 with rfl | q
                 · exact Int32.le_refl _
                 · rcases hv with ⟨v1, v2, v3⟩ | ⟨v1, v2, v3, v4, v5, v6⟩
                   · have := v3 x x0 q hx; rw [v2] at h45; exact Int32.le_trans (Int32.le_of_lt (Int32.not_le.mp h45)) this
                   · exact Int32.le_trans (Int32.le_of_lt (Int32.not_le.mp h45)) (v6 x x0 q hx))
            | (rcases hv with ⟨v1, v2, v3⟩ | ⟨v1, v2, v3, v4, v5, v6⟩
               · refine Or.inl ⟨v1, v2, fun x x0 x1 hx => ?_⟩
                 rcases hx9 x x0 x1 with rfl | q
                 · first | exact absurd hx (by assumption) | (rw [v2] at h45; exact h45)
                 · exact v3 x x0 q hx
               · refine Or.inr ⟨v1, by lia, v3, v4, v5, fun x x0 x1 hx => ?_⟩
                 rcases hx9 x x0 x1 with rfl | q
                 · first | exact absurd hx (by assumption) | exact h45
                 · exact v6 x x0 q hx)
        · refine v_iload dX4_nearestUnsettled_48 rfl ?_
          refine v_istore_4 dX4_nearestUnsettled_50 ?_
          refine v_iload dX4_nearestUnsettled_52 rfl ?_
          refine v_istore_5 dX4_nearestUnsettled_54 ?_
          refine v_iinc_6 dX4_nearestUnsettled_56 rfl ?_
          refine v_goto (tgt := 10) dX4_nearestUnsettled_59 (by decide) ?_
          refine ih hi _ _ _ ?_
          have hx9 : ∀ x : Int32, 0 ≤ x → x < i + 1 → x = i ∨ x < i := fun x x0 x1 => by clear hv ih hRd; lia
          first
            | (refine Or.inr ⟨h0, by lia, by first | assumption | exact Classical.not_not.mp (by assumption), rfl, ?_, fun x x0 x1 hx => ?_⟩
               · rcases hv with ⟨v1, v2, v3⟩ | ⟨v1, v2, v3, v4, v5, v6⟩
                 · rw [v2] at h45; exact Int32.not_le.mp h45
                 · exact Int32.lt_trans (Int32.not_le.mp h45) v5
               · rcases hx9 x x0 x1 with rfl | q
                 · exact Int32.le_refl _
                 · rcases hv with ⟨v1, v2, v3⟩ | ⟨v1, v2, v3, v4, v5, v6⟩
                   · have := v3 x x0 q hx; rw [v2] at h45; exact Int32.le_trans (Int32.le_of_lt (Int32.not_le.mp h45)) this
                   · exact Int32.le_trans (Int32.le_of_lt (Int32.not_le.mp h45)) (v6 x x0 q hx))
            | (rcases hv with ⟨v1, v2, v3⟩ | ⟨v1, v2, v3, v4, v5, v6⟩
               · refine Or.inl ⟨v1, v2, fun x x0 x1 hx => ?_⟩
                 rcases hx9 x x0 x1 with rfl | q
                 · first | exact absurd hx (by assumption) | (rw [v2] at h45; exact h45)
                 · exact v3 x x0 q hx
               · refine Or.inr ⟨v1, by lia, v3, v4, v5, fun x x0 x1 hx => ?_⟩
                 rcases hx9 x x0 x1 with rfl | q
                 · first | exact absurd hx (by assumption) | exact h45
                 · exact v6 x x0 q hx)
  refine v_iconst (v := (-1)) dX4_nearestUnsettled_0 (by decide) ?_
  refine v_istore_4 dX4_nearestUnsettled_1 ?_
  refine lc_X4_32 dX4_nearestUnsettled_3 rfl ?_
  refine v_istore_5 dX4_nearestUnsettled_5 ?_
  refine v_iconst (v := 0) dX4_nearestUnsettled_7 (by decide) ?_
  refine v_istore_6 dX4_nearestUnsettled_8 ?_
  exact key 0 (by lia) hg1 (-1) 1000000 none (Or.inl ⟨rfl, rfl, fun x x0 x1 => absurd x1 (by lia)⟩)
/-- row s of f with the roads from h to the stations below i taken, t hours from s -/
def rlx (σ f : Int32 → Int32) (s h t i : Int32) (f' : Int32 → Int32) : Prop :=
  (∀ j, (∀ x, 0 ≤ x → x < i → ¬ j = s * 7 + x) → f' j = f j) ∧ ∀ x, 0 ≤ x → x < i → f' (s * 7 + x) = if 0 < rd σ h x ∧ t + rd σ h x < f (s * 7 + x) then t + rd σ h x else f (s * 7 + x)
theorem rlx.z {σ f : Int32 → Int32} {s h t : Int32} : rlx σ f s h t 0 f := ⟨fun _ _ => rfl, fun x a b => absurd b (by lia)⟩
theorem rlx.at {σ f f' : Int32 → Int32} {s h t i : Int32} (hs0 : 0 ≤ s) (hs : s < 7) (q : rlx σ f s h t i f') (i0 : 0 ≤ i) (i7 : i < 7) : f' (s * 7 + i) = f (s * 7 + i) := by
  refine q.1 _ (fun x a b z => ?_)
  have := (cell_inj hs0 hs i0 i7 hs0 hs a (by lia) z).2
  lia
theorem rlx.no {σ f f' : Int32 → Int32} {s h t i : Int32} (hs0 : 0 ≤ s) (hs : s < 7) (q : rlx σ f s h t i f') (i0 : 0 ≤ i) (i7 : i < 7) (hc : ¬ (0 < rd σ h i ∧ t + rd σ h i < f (s * 7 + i))) : rlx σ f s h t (i + 1) f' := by
  refine ⟨fun j hj => q.1 j (fun x a b => hj x a (by lia)), fun x a b => ?_⟩
  rcases (by lia : x = i ∨ x < i) with e | e
  · rw [e, if_neg hc]
    exact q.at hs0 hs i0 i7
  · exact q.2 x a e
theorem rlx.go {σ f f' : Int32 → Int32} {s h t i : Int32} (hs0 : 0 ≤ s) (hs : s < 7) (q : rlx σ f s h t i f') (i0 : 0 ≤ i) (i7 : i < 7) (hc : 0 < rd σ h i ∧ t + rd σ h i < f (s * 7 + i)) : rlx σ f s h t (i + 1) (ui f' (s * 7 + i) (t + rd σ h i)) := by
  refine ⟨fun j hj => ?_, fun x a b => ?_⟩
  · unfold ui
    rw [if_neg (hj i i0 (by lia))]
    exact q.1 j (fun x a b => hj x a (by lia))
  · rcases (by lia : x = i ∨ x < i) with e | e
    · rw [e, if_pos hc]
      unfold ui
      rw [if_pos rfl]
    · unfold ui
      rw [if_neg (fun z => ?_)]
      · exact q.2 x a e
      · have := (cell_inj hs0 hs a (by lia) hs0 hs i0 i7 z).2
        lia
theorem ui_self {f : Int32 → Int32} {i : Int32} : ui f i (f i) = f := by
  funext j
  unfold ui
  split
  · rename_i e
    rw [e]
  · rfl
theorem dX4_takeRoadsFrom_0 : decode cX4_takeRoadsFrom 0 = .ok (.aload_n 0, 1) := by decide +kernel
theorem dX4_takeRoadsFrom_1 : decode cX4_takeRoadsFrom 1 = .ok (.getfield 9, 3) := by decide +kernel
theorem dX4_takeRoadsFrom_4 : decode cX4_takeRoadsFrom 4 = .ok (.iload_n 2, 1) := by decide +kernel
theorem dX4_takeRoadsFrom_5 : decode cX4_takeRoadsFrom 5 = .ok (.iload_n 3, 1) := by decide +kernel
theorem dX4_takeRoadsFrom_6 : decode cX4_takeRoadsFrom 6 = .ok (.invokestatic 22, 3) := by decide +kernel
theorem dX4_takeRoadsFrom_9 : decode cX4_takeRoadsFrom 9 = .ok (.iaload, 1) := by decide +kernel
theorem dX4_takeRoadsFrom_10 : decode cX4_takeRoadsFrom 10 = .ok (.istore 4, 2) := by decide +kernel
theorem dX4_takeRoadsFrom_12 : decode cX4_takeRoadsFrom 12 = .ok (.iconst 0, 1) := by decide +kernel
theorem dX4_takeRoadsFrom_13 : decode cX4_takeRoadsFrom 13 = .ok (.istore 5, 2) := by decide +kernel
theorem dX4_takeRoadsFrom_15 : decode cX4_takeRoadsFrom 15 = .ok (.iload 5, 2) := by decide +kernel
theorem dX4_takeRoadsFrom_17 : decode cX4_takeRoadsFrom 17 = .ok (.aload_n 1, 1) := by decide +kernel
theorem dX4_takeRoadsFrom_18 : decode cX4_takeRoadsFrom 18 = .ok (.getfield 26, 3) := by decide +kernel
theorem dX4_takeRoadsFrom_21 : decode cX4_takeRoadsFrom 21 = .ok (.if_icmp .ge 62, 3) := by decide +kernel
theorem dX4_takeRoadsFrom_24 : decode cX4_takeRoadsFrom 24 = .ok (.aload_n 1, 1) := by decide +kernel
theorem dX4_takeRoadsFrom_25 : decode cX4_takeRoadsFrom 25 = .ok (.getfield 41, 3) := by decide +kernel
theorem dX4_takeRoadsFrom_28 : decode cX4_takeRoadsFrom 28 = .ok (.iload_n 3, 1) := by decide +kernel
theorem dX4_takeRoadsFrom_29 : decode cX4_takeRoadsFrom 29 = .ok (.iload 5, 2) := by decide +kernel
theorem dX4_takeRoadsFrom_31 : decode cX4_takeRoadsFrom 31 = .ok (.invokestatic 22, 3) := by decide +kernel
theorem dX4_takeRoadsFrom_34 : decode cX4_takeRoadsFrom 34 = .ok (.iaload, 1) := by decide +kernel
theorem dX4_takeRoadsFrom_35 : decode cX4_takeRoadsFrom 35 = .ok (.istore 6, 2) := by decide +kernel
theorem dX4_takeRoadsFrom_37 : decode cX4_takeRoadsFrom 37 = .ok (.iload_n 2, 1) := by decide +kernel
theorem dX4_takeRoadsFrom_38 : decode cX4_takeRoadsFrom 38 = .ok (.iload 5, 2) := by decide +kernel
theorem dX4_takeRoadsFrom_40 : decode cX4_takeRoadsFrom 40 = .ok (.invokestatic 22, 3) := by decide +kernel
theorem dX4_takeRoadsFrom_43 : decode cX4_takeRoadsFrom 43 = .ok (.istore 7, 2) := by decide +kernel
theorem dX4_takeRoadsFrom_45 : decode cX4_takeRoadsFrom 45 = .ok (.iload 6, 2) := by decide +kernel
theorem dX4_takeRoadsFrom_47 : decode cX4_takeRoadsFrom 47 = .ok (.ifCond .le 30, 3) := by decide +kernel
theorem dX4_takeRoadsFrom_50 : decode cX4_takeRoadsFrom 50 = .ok (.iload 4, 2) := by decide +kernel
theorem dX4_takeRoadsFrom_52 : decode cX4_takeRoadsFrom 52 = .ok (.iload 6, 2) := by decide +kernel
theorem dX4_takeRoadsFrom_54 : decode cX4_takeRoadsFrom 54 = .ok (.iadd, 1) := by decide +kernel
theorem dX4_takeRoadsFrom_55 : decode cX4_takeRoadsFrom 55 = .ok (.aload_n 0, 1) := by decide +kernel
theorem dX4_takeRoadsFrom_56 : decode cX4_takeRoadsFrom 56 = .ok (.getfield 9, 3) := by decide +kernel
theorem dX4_takeRoadsFrom_59 : decode cX4_takeRoadsFrom 59 = .ok (.iload 7, 2) := by decide +kernel
theorem dX4_takeRoadsFrom_61 : decode cX4_takeRoadsFrom 61 = .ok (.iaload, 1) := by decide +kernel
theorem dX4_takeRoadsFrom_62 : decode cX4_takeRoadsFrom 62 = .ok (.if_icmp .ge 15, 3) := by decide +kernel
theorem dX4_takeRoadsFrom_65 : decode cX4_takeRoadsFrom 65 = .ok (.aload_n 0, 1) := by decide +kernel
theorem dX4_takeRoadsFrom_66 : decode cX4_takeRoadsFrom 66 = .ok (.getfield 9, 3) := by decide +kernel
theorem dX4_takeRoadsFrom_69 : decode cX4_takeRoadsFrom 69 = .ok (.iload 7, 2) := by decide +kernel
theorem dX4_takeRoadsFrom_71 : decode cX4_takeRoadsFrom 71 = .ok (.iload 4, 2) := by decide +kernel
theorem dX4_takeRoadsFrom_73 : decode cX4_takeRoadsFrom 73 = .ok (.iload 6, 2) := by decide +kernel
theorem dX4_takeRoadsFrom_75 : decode cX4_takeRoadsFrom 75 = .ok (.iadd, 1) := by decide +kernel
theorem dX4_takeRoadsFrom_76 : decode cX4_takeRoadsFrom 76 = .ok (.iastore, 1) := by decide +kernel
theorem dX4_takeRoadsFrom_77 : decode cX4_takeRoadsFrom 77 = .ok (.iinc 5 1, 3) := by decide +kernel
theorem dX4_takeRoadsFrom_80 : decode cX4_takeRoadsFrom 80 = .ok (.goto (-65), 3) := by decide +kernel
theorem dX4_takeRoadsFrom_83 : decode cX4_takeRoadsFrom 83 = .ok (.return_, 1) := by decide +kernel
set_option maxRecDepth 100000 in
set_option maxHeartbeats 4000000 in
theorem c_takeRoadsFrom {l : Launch} {g : Nat → Nat} {M : LH} (htr : l.stackTraces = false) {kd : Nat → Nat} {r a : Nat} {ad : Nat → Nat} {sl le : Int32 → Nat} {fg tp : Int32} {F : Nat → Int32 → Int32} {σ : Int32 → Int32} (hC : StR kd r M a ad sl le fg tp F σ) {dd bn bs : Nat} (hDD : M dd = some (ob 3 [.ref bn, .ref bs])) {f : Int32 → Int32} (hB : M bn = some (ia 49 f)) (hkb : ¬ kd bn = r) {s h : Int32} (hs0 : 0 ≤ s) (hs : s < σ 5) (hh0 : 0 ≤ h) (hh : h < σ 5) : K_X4_takeRoadsFrom l g 1 0 0 [.ref dd, .ref a, .int s, .int h] M (RV (fun M9 => ∃ f', rlx σ f s h (f (s * 7 + h)) (σ 5) f' ∧ M9 = hup M bn (ia 49 f')) nX) := by
  refine Ko_X4_takeRoadsFrom htr (fun X => ?_)
  obtain ⟨hSt, hRo, -, -, -, -, hkd, -, ⟨-, hRd, -, -⟩, hG⟩ := hC
  obtain ⟨hg1, hg2, -⟩ := hG
  have nbS : ¬ a = bn := ne_of_cell hSt hB ob_ia
  have nbD : ¬ dd = bn := ne_of_cell hDD hB ob_ia
  have nbR : ¬ ad 0 = bn := fun z => hkb (by rw [← z]; exact hkd.2.1)
  have key : ∀ i, 0 ≤ i → i ≤ σ 5 → ∀ (f' : Int32 → Int32) (z6 z7 : Option Value), rlx σ f s h (f (s * 7 + h)) i f' → V l g yX4_takeRoadsFrom cX4_takeRoadsFrom none [] 1 0 0 (RV (fun M9 => ∃ f', rlx σ f s h (f (s * 7 + h)) (σ 5) f' ∧ M9 = hup M bn (ia 49 f')) nX) X (hup M bn (ia 49 f')) 0 0 15 [some (.ref dd), some (.ref a), some (.int s), some (.int h), some (.int (f (s * 7 + h))), some (.int i), z6, z7] [] := by
    refine up_ind _ (fun i h0 h1 ih f' z6 z7 hv => ?_)
    refine v_iload dX4_takeRoadsFrom_15 rfl ?_
    refine v_aload_n dX4_takeRoadsFrom_17 rfl rfl ?_
    refine gf_X4_26 dX4_takeRoadsFrom_18 rfl ((hup_n nbS).trans hSt) ?_
    refine v_icmp_ge (tgt := 83) dX4_takeRoadsFrom_21 (by decide) (fun h21 => ?_) (fun h21 => ?_)
    · have hi : i = σ 5 := by lia
      subst hi
      exact v_vret dX4_takeRoadsFrom_83 rfl ⟨f', hv, rfl⟩ (by omega) (by omega)
    · have hi : i < σ 5 := by lia
      have hi7 : i < 7 := by lia
      obtain ⟨b0, b1⟩ := cell_in hs0 (by lia) h0 hi7
      obtain ⟨e0, e1⟩ := cell_in hh0 (by lia) h0 hi7
      have hrd : F 11 (h * 7 + i) = rd σ h i := by
        rw [← hRd h i hh0 (by lia) h0 hi7, Int32.mul_comm]
      have hat := hv.at hs0 (by lia) h0 hi7
      refine v_aload_n dX4_takeRoadsFrom_24 rfl rfl ?_
      refine gf_X4_41 dX4_takeRoadsFrom_25 rfl ((hup_n nbS).trans hSt) ?_
      refine v_iload_n dX4_takeRoadsFrom_28 rfl rfl ?_
      refine v_iload dX4_takeRoadsFrom_29 rfl ?_
      refine k_X4_22 dX4_takeRoadsFrom_31 rfl (c_cell htr h i) (Nat.le_of_ble_eq_true rfl) (by omega) (by omega) (Nat.le_of_ble_eq_true rfl) (fun r31 M9 h9 => ?_) (fun _ _ h9 => h9.elim)
      obtain ⟨rfl, e9⟩ := h9
      subst M9
      refine v_iald dX4_takeRoadsFrom_34 ((hup_n nbR).trans hRo) e0 e1 ?_
      rw [hrd]
      refine v_istore_6 dX4_takeRoadsFrom_35 ?_
      refine v_iload_n dX4_takeRoadsFrom_37 rfl rfl ?_
      refine v_iload dX4_takeRoadsFrom_38 rfl ?_
      refine k_X4_22 dX4_takeRoadsFrom_40 rfl (c_cell htr s i) (Nat.le_of_ble_eq_true rfl) (by omega) (by omega) (Nat.le_of_ble_eq_true rfl) (fun r40 M9 h9 => ?_) (fun _ _ h9 => h9.elim)
      obtain ⟨rfl, e9⟩ := h9
      subst M9
      refine v_istore_7 dX4_takeRoadsFrom_43 ?_
      refine v_iload dX4_takeRoadsFrom_45 rfl ?_
      refine v_if_le (tgt := 77) dX4_takeRoadsFrom_47 (by decide) (fun h47 => ?_) (fun h47 => ?_)
      · refine v_iinc_5 dX4_takeRoadsFrom_77 rfl ?_
        refine v_goto (tgt := 15) dX4_takeRoadsFrom_80 (by decide) ?_
        first
          | (rw [hup_hup]
             exact ih hi _ _ _ (hv.go hs0 (by lia) h0 hi7 ⟨by first | assumption | exact Int32.not_le.mp (by assumption), by first | assumption | exact Int32.not_le.mp (by assumption)⟩))
          | (refine ih hi _ _ _ (hv.no hs0 (by lia) h0 hi7 (fun z => ?_))
             first
             | exact absurd z.1 (Int32.not_lt.mpr (by assumption))
             | exact absurd z.2 (Int32.not_lt.mpr (by assumption)))
      · refine v_iload dX4_takeRoadsFrom_50 rfl ?_
        refine v_iload dX4_takeRoadsFrom_52 rfl ?_
        refine v_iadd dX4_takeRoadsFrom_54 ?_
        refine v_aload_n dX4_takeRoadsFrom_55 rfl rfl ?_
        refine gf_X4_9 dX4_takeRoadsFrom_56 rfl ((hup_n nbD).trans hDD) ?_
        refine v_iload dX4_takeRoadsFrom_59 rfl ?_
        refine v_iald dX4_takeRoadsFrom_61 hup_s b0 b1 ?_
        rw [hat]
        refine v_icmp_ge (tgt := 77) dX4_takeRoadsFrom_62 (by decide) (fun h62 => ?_) (fun h62 => ?_)
        · refine v_iinc_5 dX4_takeRoadsFrom_77 rfl ?_
          refine v_goto (tgt := 15) dX4_takeRoadsFrom_80 (by decide) ?_
          first
            | (rw [hup_hup]
               exact ih hi _ _ _ (hv.go hs0 (by lia) h0 hi7 ⟨by first | assumption | exact Int32.not_le.mp (by assumption), by first | assumption | exact Int32.not_le.mp (by assumption)⟩))
            | (refine ih hi _ _ _ (hv.no hs0 (by lia) h0 hi7 (fun z => ?_))
               first
               | exact absurd z.1 (Int32.not_lt.mpr (by assumption))
               | exact absurd z.2 (Int32.not_lt.mpr (by assumption)))
        · refine v_aload_n dX4_takeRoadsFrom_65 rfl rfl ?_
          refine gf_X4_9 dX4_takeRoadsFrom_66 rfl ((hup_n nbD).trans hDD) ?_
          refine v_iload dX4_takeRoadsFrom_69 rfl ?_
          refine v_iload dX4_takeRoadsFrom_71 rfl ?_
          refine v_iload dX4_takeRoadsFrom_73 rfl ?_
          refine v_iadd dX4_takeRoadsFrom_75 ?_
          refine v_iast dX4_takeRoadsFrom_76 hup_s b0 b1 ?_
          refine v_iinc_5 dX4_takeRoadsFrom_77 rfl ?_
          refine v_goto (tgt := 15) dX4_takeRoadsFrom_80 (by decide) ?_
          first
            | (rw [hup_hup]
               exact ih hi _ _ _ (hv.go hs0 (by lia) h0 hi7 ⟨by first | assumption | exact Int32.not_le.mp (by assumption), by first | assumption | exact Int32.not_le.mp (by assumption)⟩))
            | (refine ih hi _ _ _ (hv.no hs0 (by lia) h0 hi7 (fun z => ?_))
               first
               | exact absurd z.1 (Int32.not_lt.mpr (by assumption))
               | exact absurd z.2 (Int32.not_lt.mpr (by assumption)))
  obtain ⟨b0, b1⟩ := cell_in hs0 (by lia) hh0 (by lia)
  refine v_aload_n dX4_takeRoadsFrom_0 rfl rfl ?_
  refine gf_X4_9 dX4_takeRoadsFrom_1 rfl hDD ?_
  refine v_iload_n dX4_takeRoadsFrom_4 rfl rfl ?_
  refine v_iload_n dX4_takeRoadsFrom_5 rfl rfl ?_
  refine k_X4_22 dX4_takeRoadsFrom_6 rfl (c_cell htr s h) (Nat.le_of_ble_eq_true rfl) (by omega) (by omega) (Nat.le_of_ble_eq_true rfl) (fun r6 M9 h9 => ?_) (fun _ _ h9 => h9.elim)
  obtain ⟨rfl, e9⟩ := h9
  subst M9
  refine v_iald dX4_takeRoadsFrom_9 hB b0 b1 ?_
  refine v_istore_4 dX4_takeRoadsFrom_10 ?_
  refine v_iconst (v := 0) dX4_takeRoadsFrom_12 (by decide) ?_
  refine v_istore_5 dX4_takeRoadsFrom_13 ?_
  have hk0 := key 0 (by lia) hg1 f none none rlx.z
  rw [hup_id hB] at hk0
  exact hk0

