/-! ===== the reference: sledges go; hours pass ===== -/
theorem Good_gv {k : Int32} : ∀ n : Nat, n ≤ 12 → ∀ σ : Int32 → Int32, Good σ → n ≤ (σ 7).toNatClampNeg → Good (gvN σ k n) := by
  intro n
  induction n with
  | zero => exact fun _ _ h _ => h
  | succ n ih =>
    intro hn σ h h7
    obtain ⟨p0, p1, p2⟩ := nI_below h.2.2.2.2.2.1 (show n < (σ 7).toNatClampNeg by omega)
    by_cases c : lt σ (nI n) 6 = 10 + k ∧ lt σ (nI n) 1 = sd σ k 1
    · rw [gv_yes c]
      exact ih (by omega) _ (Good_dlS h p0 p1) (dl_7 h.2.2.2.2.1 h.2.2.2.2.2.1 h7)
    · rw [gv_no c]
      exact ih (by omega) σ h (by omega)
theorem Good_hk {σ : Int32 → Int32} {k : Int32} (h : Good σ) (k0 : 0 ≤ k) (k1 : k < σ 6) : Good (hkS σ k) := by
  unfold hkS
  split
  · rename_i hp
    have hd := Good_dhS h k0 k1 hp
    unfold dvS
    split
    · exact hd
    · exact Good_gv _ (tc_le hd.2.2.2.2.2.1) _ hd (Nat.le_refl _)
  · exact h
theorem Good_hkn {σ : Int32 → Int32} (h : Good σ) : ∀ n, n ≤ (σ 6).toNatClampNeg → Good (hkN σ n) ∧ hkN σ n 6 = σ 6 := by
  intro n
  induction n with
  | zero => exact fun _ => ⟨h, rfl⟩
  | succ n ih =>
    intro hn
    obtain ⟨a, b⟩ := ih (by omega)
    have h3 := h.2.2.2.1
    obtain ⟨p0, p1, p2⟩ := nI_below (Int32.le_trans h3 (by decide)) (show n < (σ 6).toNatClampNeg by omega)
    have p3 : nI n < 3 := Int32.lt_of_lt_of_le p1 h3
    exact ⟨Good_hk a p0 (by rw [b]; exact p1), (hkS_lo p0 p3 a.2.2.2.2.2.1 (by decide) (by decide) (by decide) (by decide) (by decide)).trans b⟩
theorem Good_thn {σ : Int32 → Int32} (h : Good σ) : ∀ n, n ≤ (σ 7).toNatClampNeg → Good (thN σ n) := by
  intro n
  induction n with
  | zero => exact fun _ => h
  | succ n ih =>
    intro hn
    have h12 := tc_le h.2.2.2.2.2.1
    have e12 : (12 : Int32).toNatClampNeg = 12 := rfl
    obtain ⟨p0, p1, p2⟩ := nI_below h.2.2.2.2.2.1 (show n < (σ 7).toNatClampNeg by omega)
    exact Good_thS (ih (by omega)) p0 (by rw [thN_lo (by decide) (by decide) n (by omega)]; exact p1)
theorem Good_t0 {σ : Int32 → Int32} (h : Good σ) {x : Int32} : Good (ui σ 0 x) := Good.cg h (fun _ _ => rd_sc (by decide) (by decide)) (fun _ _ => sd_sc (by decide) (by decide)) (fun _ _ => lt_sc (by decide) (by decide)) (ui_n (by decide)) (ui_n (by decide)) (ui_n (by decide)) (by rw [ui_n (by decide)]; exact Int32.le_refl _) (by rw [ui_n (by decide)]; exact h.2.1) (by rw [ui_n (by decide)]; exact h.2.2.2.2.2.2.1) (by rw [ui_n (by decide)]; exact h.2.2.2.2.2.2.2.1)
theorem Good_hr {σ : Int32 → Int32} (h : Good σ) : Good (hrS σ) := by
  unfold hrS
  have h0 := Good_t0 h (x := σ 0 + 1)
  have e7 : ui σ 0 (σ 0 + 1) 7 = σ 7 := ui_n (by decide)
  have e6 : ui σ 0 (σ 0 + 1) 6 = σ 6 := ui_n (by decide)
  have h1 := Good_thn h0 (σ 7).toNatClampNeg (by rw [e7]; exact Nat.le_refl _)
  exact (Good_hkn h1 (σ 6).toNatClampNeg (by rw [thN_lo (by decide) (by decide) _ (tc_le h.2.2.2.2.2.1), e6]; exact Nat.le_refl _)).1
theorem Good_ps {σ : Int32 → Int32} (h : Good σ) : ∀ n, Good (psN σ n) := by
  intro n
  induction n with
  | zero => exact h
  | succ n ih => exact Good_hr ih
theorem gv_step {τ : Int32 → Int32} {p c : Int32} (p0 : 0 ≤ p) (p2 : p < 12) : ui (rmS (ui (ui τ 3 c) 2 (τ 2 + gotN τ p)) p) 7 (τ 7 - 1) = ui (dlS τ p) 3 c := by
  funext j
  unfold dlS rmS
  by_cases e3 : j = 3
  · rw [e3, ui_n (by decide), ui_s, if_neg (fun z => absurd z.1 (by lia)), ui_n (by decide), ui_s]
  · rw [ui_n e3, ui_n e3]
    by_cases e7 : j = 7
    · rw [e7, ui_s, ui_s]
    · rw [ui_n e7, ui_n e7]
      by_cases q : 66 + 7 * p ≤ j ∧ j < 150
      · rw [if_pos q, if_pos q]
        by_cases z : j + 7 < 150
        · rw [if_pos z, if_pos z, ui_n (by lia), ui_n (by lia), ui_n (by lia)]
        · rw [if_neg z, if_neg z]
      · rw [if_neg q, if_neg q]
        by_cases e2 : j = 2
        · rw [e2, ui_s, ui_s]
        · rw [ui_n e2, ui_n e3, ui_n e2]
theorem gv_end {τ : Int32 → Int32} {c : Int32} : ui (ui τ 3 c) 3 (c + (τ 3 - c)) = τ := by
  funext j
  by_cases e : j = 3
  · rw [e, ui_s]
    lia
  · rw [ui_n e, ui_n e]
def rmN (σ : Int32 → Int32) (p x : Int32) : Int32 → Int32 := fun j => if 66 + 7 * p ≤ j ∧ j < x then (if j + 7 < 150 then σ (j + 7) else 0) else σ j
theorem rmN_0 {σ : Int32 → Int32} {p : Int32} : rmN σ p (66 + 7 * p) = σ := by
  funext j
  exact if_neg (fun z => absurd z.2 (Int32.not_lt.mpr z.1))
theorem rmN_1 {σ : Int32 → Int32} {p x : Int32} (h0 : 66 + 7 * p ≤ x) (h1 : x < 150) (p0 : 0 ≤ p) (p2 : p < 12) : ui (rmN σ p x) x (if x + 7 < 150 then rmN σ p x (x + 7) else 0) = rmN σ p (x + 1) := by
  funext j
  by_cases e : j = x
  · rw [e, ui_s]
    unfold rmN
    rw [if_neg (show ¬ (66 + 7 * p ≤ x + 7 ∧ x + 7 < x) from fun z => absurd z.2 (by lia)), if_pos (show 66 + 7 * p ≤ x ∧ x < x + 1 from ⟨h0, by lia⟩)]
  · rw [ui_n e]
    unfold rmN
    by_cases q : 66 + 7 * p ≤ j ∧ j < x
    · rw [if_pos q, if_pos (show 66 + 7 * p ≤ j ∧ j < x + 1 from ⟨q.1, by have := q.2; lia⟩)]
    · rw [if_neg q, if_neg (show ¬ (66 + 7 * p ≤ j ∧ j < x + 1) from fun z => q ⟨z.1, by have := z.2; lia⟩)]
theorem rmN_e {σ : Int32 → Int32} {p : Int32} : rmN σ p 150 = rmS σ p := rfl
theorem vdGo_1 {σ : Int32 → Int32} {k s w : Int32} (h : ¬ (hsl σ k ∧ hst σ s)) : vdGo σ k s w = 1 := if_pos h
theorem vdGo_4 {σ : Int32 → Int32} {k s w : Int32} (h : hsl σ k ∧ hst σ s) (h2 : 0 < sd σ k 2 ∨ sd σ k 1 = s) : vdGo σ k s w = 4 := by
  unfold vdGo
  rw [if_neg (fun z => z h), if_pos h2]
theorem vdGo_5 {σ : Int32 → Int32} {k s w : Int32} (h : hsl σ k ∧ hst σ s) (h2 : ¬ (0 < sd σ k 2 ∨ sd σ k 1 = s)) (h3 : ¬ w < 1000000) : vdGo σ k s w = 5 := by
  unfold vdGo
  rw [if_neg (fun z => z h), if_neg h2, if_neg h3]
theorem vdGo_z {σ : Int32 → Int32} {k s w : Int32} (h : hsl σ k ∧ hst σ s) (h2 : ¬ (0 < sd σ k 2 ∨ sd σ k 1 = s)) (h3 : w < 1000000) : vdGo σ k s w = 0 := by
  unfold vdGo
  rw [if_neg (fun z => z h), if_neg h2, if_pos h3]
theorem tau_ge {b : Int} {x : Int32} (h : b ≤ 2560 ∨ b = 1000000) (hx : x.toInt = tau b) (hq : ¬ x < 10000) : b = 1000000 := by
  rw [i_lt, hx, show ((10000 : Int32).toInt) = 10000 from rfl] at hq
  unfold tau at hq
  split at hq <;> omega
theorem tau_lt {b : Int} {x : Int32} (h : b ≤ 2560 ∨ b = 1000000) (hx : x.toInt = tau b) (hq : x < 10000) : x.toInt = b := by
  rw [i_lt, hx, show ((10000 : Int32).toInt) = 10000 from rfl] at hq
  rw [hx]
  unfold tau at hq ⊢
  split at hq <;> split <;> omega
theorem tau_i {b : Int} {x : Int32} (h : b ≤ 2560 ∨ b = 1000000) (hx : x.toInt = tau b) (hq : x < 10000) : x < 1000000 := by lia
theorem dX12_sends_0 : decode cX12_sends 0 = .ok (.aload_n 0, 1) := by decide +kernel
theorem dX12_sends_1 : decode cX12_sends 1 = .ok (.iload_n 1, 1) := by decide +kernel
theorem dX12_sends_2 : decode cX12_sends 2 = .ok (.invokevirtual 106, 3) := by decide +kernel
theorem dX12_sends_5 : decode cX12_sends 5 = .ok (.ifCond .eq 11, 3) := by decide +kernel
theorem dX12_sends_8 : decode cX12_sends 8 = .ok (.aload_n 0, 1) := by decide +kernel
theorem dX12_sends_9 : decode cX12_sends 9 = .ok (.iload_n 2, 1) := by decide +kernel
theorem dX12_sends_10 : decode cX12_sends 10 = .ok (.invokevirtual 88, 3) := by decide +kernel
theorem dX12_sends_13 : decode cX12_sends 13 = .ok (.ifCond .ne 9, 3) := by decide +kernel
theorem dX12_sends_16 : decode cX12_sends 16 = .ok (.aload_n 0, 1) := by decide +kernel
theorem dX12_sends_17 : decode cX12_sends 17 = .ok (.iconst 1, 1) := by decide +kernel
theorem dX12_sends_18 : decode cX12_sends 18 = .ok (.invokevirtual 74, 3) := by decide +kernel
theorem dX12_sends_21 : decode cX12_sends 21 = .ok (.ireturn, 1) := by decide +kernel
theorem dX12_sends_22 : decode cX12_sends 22 = .ok (.aload_n 0, 1) := by decide +kernel
theorem dX12_sends_23 : decode cX12_sends 23 = .ok (.getfield 16, 3) := by decide +kernel
theorem dX12_sends_26 : decode cX12_sends 26 = .ok (.iload_n 1, 1) := by decide +kernel
theorem dX12_sends_27 : decode cX12_sends 27 = .ok (.iconst 2, 1) := by decide +kernel
theorem dX12_sends_28 : decode cX12_sends 28 = .ok (.invokestatic 96, 3) := by decide +kernel
theorem dX12_sends_31 : decode cX12_sends 31 = .ok (.iaload, 1) := by decide +kernel
theorem dX12_sends_32 : decode cX12_sends 32 = .ok (.ifCond .gt 17, 3) := by decide +kernel
theorem dX12_sends_35 : decode cX12_sends 35 = .ok (.aload_n 0, 1) := by decide +kernel
theorem dX12_sends_36 : decode cX12_sends 36 = .ok (.getfield 16, 3) := by decide +kernel
theorem dX12_sends_39 : decode cX12_sends 39 = .ok (.iload_n 1, 1) := by decide +kernel
theorem dX12_sends_40 : decode cX12_sends 40 = .ok (.iconst 1, 1) := by decide +kernel
theorem dX12_sends_41 : decode cX12_sends 41 = .ok (.invokestatic 96, 3) := by decide +kernel
theorem dX12_sends_44 : decode cX12_sends 44 = .ok (.iaload, 1) := by decide +kernel
theorem dX12_sends_45 : decode cX12_sends 45 = .ok (.iload_n 2, 1) := by decide +kernel
theorem dX12_sends_46 : decode cX12_sends 46 = .ok (.if_icmp .ne 9, 3) := by decide +kernel
theorem dX12_sends_49 : decode cX12_sends 49 = .ok (.aload_n 0, 1) := by decide +kernel
theorem dX12_sends_50 : decode cX12_sends 50 = .ok (.iconst 2, 1) := by decide +kernel
theorem dX12_sends_51 : decode cX12_sends 51 = .ok (.invokevirtual 74, 3) := by decide +kernel
theorem dX12_sends_54 : decode cX12_sends 54 = .ok (.ireturn, 1) := by decide +kernel
theorem dX12_sends_55 : decode cX12_sends 55 = .ok (.aload_n 0, 1) := by decide +kernel
theorem dX12_sends_56 : decode cX12_sends 56 = .ok (.invokevirtual 133, 3) := by decide +kernel
theorem dX12_sends_59 : decode cX12_sends 59 = .ok (.aload_n 0, 1) := by decide +kernel
theorem dX12_sends_60 : decode cX12_sends 60 = .ok (.aload_n 0, 1) := by decide +kernel
theorem dX12_sends_61 : decode cX12_sends 61 = .ok (.getfield 16, 3) := by decide +kernel
theorem dX12_sends_64 : decode cX12_sends 64 = .ok (.iload_n 1, 1) := by decide +kernel
theorem dX12_sends_65 : decode cX12_sends 65 = .ok (.iconst 1, 1) := by decide +kernel
theorem dX12_sends_66 : decode cX12_sends 66 = .ok (.invokestatic 96, 3) := by decide +kernel
theorem dX12_sends_69 : decode cX12_sends 69 = .ok (.iaload, 1) := by decide +kernel
theorem dX12_sends_70 : decode cX12_sends 70 = .ok (.iload_n 2, 1) := by decide +kernel
theorem dX12_sends_71 : decode cX12_sends 71 = .ok (.invokevirtual 136, 3) := by decide +kernel
theorem dX12_sends_74 : decode cX12_sends 74 = .ok (.istore_n 3, 1) := by decide +kernel
theorem dX12_sends_75 : decode cX12_sends 75 = .ok (.iload_n 3, 1) := by decide +kernel
theorem dX12_sends_76 : decode cX12_sends 76 = .ok (.sipush 10000, 3) := by decide +kernel
theorem dX12_sends_79 : decode cX12_sends 79 = .ok (.if_icmp .lt 9, 3) := by decide +kernel
theorem dX12_sends_82 : decode cX12_sends 82 = .ok (.aload_n 0, 1) := by decide +kernel
theorem dX12_sends_83 : decode cX12_sends 83 = .ok (.iconst 3, 1) := by decide +kernel
theorem dX12_sends_84 : decode cX12_sends 84 = .ok (.invokevirtual 74, 3) := by decide +kernel
theorem dX12_sends_87 : decode cX12_sends 87 = .ok (.ireturn, 1) := by decide +kernel
theorem dX12_sends_88 : decode cX12_sends 88 = .ok (.aload_n 0, 1) := by decide +kernel
theorem dX12_sends_89 : decode cX12_sends 89 = .ok (.getfield 16, 3) := by decide +kernel
theorem dX12_sends_92 : decode cX12_sends 92 = .ok (.iload_n 1, 1) := by decide +kernel
theorem dX12_sends_93 : decode cX12_sends 93 = .ok (.iconst 1, 1) := by decide +kernel
theorem dX12_sends_94 : decode cX12_sends 94 = .ok (.invokestatic 96, 3) := by decide +kernel
theorem dX12_sends_97 : decode cX12_sends 97 = .ok (.iload_n 2, 1) := by decide +kernel
theorem dX12_sends_98 : decode cX12_sends 98 = .ok (.iastore, 1) := by decide +kernel
theorem dX12_sends_99 : decode cX12_sends 99 = .ok (.aload_n 0, 1) := by decide +kernel
theorem dX12_sends_100 : decode cX12_sends 100 = .ok (.getfield 16, 3) := by decide +kernel
theorem dX12_sends_103 : decode cX12_sends 103 = .ok (.iload_n 1, 1) := by decide +kernel
theorem dX12_sends_104 : decode cX12_sends 104 = .ok (.iconst 2, 1) := by decide +kernel
theorem dX12_sends_105 : decode cX12_sends 105 = .ok (.invokestatic 96, 3) := by decide +kernel
theorem dX12_sends_108 : decode cX12_sends 108 = .ok (.iload_n 3, 1) := by decide +kernel
theorem dX12_sends_109 : decode cX12_sends 109 = .ok (.iastore, 1) := by decide +kernel
theorem dX12_sends_110 : decode cX12_sends 110 = .ok (.aload_n 0, 1) := by decide +kernel
theorem dX12_sends_111 : decode cX12_sends 111 = .ok (.getfield 16, 3) := by decide +kernel
theorem dX12_sends_114 : decode cX12_sends 114 = .ok (.iconst 2, 1) := by decide +kernel
theorem dX12_sends_115 : decode cX12_sends 115 = .ok (.dup2, 1) := by decide +kernel
theorem dX12_sends_116 : decode cX12_sends 116 = .ok (.iaload, 1) := by decide +kernel
theorem dX12_sends_117 : decode cX12_sends 117 = .ok (.iload_n 3, 1) := by decide +kernel
theorem dX12_sends_118 : decode cX12_sends 118 = .ok (.isub, 1) := by decide +kernel
theorem dX12_sends_119 : decode cX12_sends 119 = .ok (.iastore, 1) := by decide +kernel
theorem dX12_sends_120 : decode cX12_sends 120 = .ok (.iload_n 3, 1) := by decide +kernel
theorem dX12_sends_121 : decode cX12_sends 121 = .ok (.ireturn, 1) := by decide +kernel
set_option maxRecDepth 100000 in
set_option maxHeartbeats 4000000 in
theorem r_sends {l : Launch} {g : Nat → Nat} {M : LH} (htr : l.stackTraces = false) {kd : Nat → Nat} {r m : Nat} {w : Nat → Nat} {t ch ea fl sv bf tn he en ln wr dg : Int32} {v b4 sa pa fr th bs tx li lf to : Int32 → Int32} (hC : Md kd r M m w t ch ea fl sv bf tn he en ln wr dg v b4 sa pa fr th bs tx li lf to) (hG : Good v) (k s : Int32) : K_X12_sends l g 2 0 0 [.ref m, .int k, .int s] M (RI (fun x M9 => ∃ (w9 : Int32) (f' : Int32 → Int32), (hsl v k → hst v s → IsD v 1000000 (sd v k 1) s w9.toInt ∨ (0 < sd v k 2 ∨ sd v k 1 = s)) ∧ ((vdGo v k s w9 = 0 ∧ x = w9 ∧ Md kd r M9 m w t ch ea fl sv bf tn he en ln wr dg (goS v k s w9) b4 sa pa f' th bs tx li lf to) ∨ (¬ vdGo v k s w9 = 0 ∧ x = 0 ∧ Md kd r M9 m w (fcI 7 (vdGo v k s w9)) ch ea fl sv bf tn he en ln wr dg v b4 sa pa f' th bs tx li lf to)) ∧ Frm kd r M M9) nX) := by
  refine Ko_X12_sends htr (fun X => ?_)
  obtain ⟨hMo, hw5, hw6, hw7, hw8, hw9, hw10, hw11, hw13, hw14, hw15, hw16, hw17, hw18, -⟩ := _root_.id hC
  have hF : Frm kd r M M := Frm.rf
  obtain ⟨hg1, hg2, hg3, hg4, hg5, hg6, hg7, hg8, hgL, hgS, -⟩ := _root_.id hG
  refine v_aload_n dX12_sends_0 rfl rfl ?_
  refine v_iload_n dX12_sends_1 rfl rfl ?_
  refine k_X12_106 dX12_sends_2 rfl (r_isSledge htr hC hG k) hMo (Nat.le_of_ble_eq_true rfl) (by omega) (by omega) (Nat.le_of_ble_eq_true rfl) (fun r2 M9 h9 => ?_) (fun _ _ h9 => h9.elim)
  obtain ⟨rfl, e9⟩ := h9
  subst M9
  refine v_if_eq (tgt := 16) dX12_sends_5 (by decide) (fun hq5 => ?_) (fun hq5 => ?_)
  · refine v_aload_n dX12_sends_16 rfl rfl ?_
    refine v_iconst (v := 1) dX12_sends_17 (by decide) ?_
    refine k_X12_74 dX12_sends_18 rfl (r_fail htr hC 1) hMo (Nat.le_of_ble_eq_true rfl) (by omega) (by omega) (Nat.le_of_ble_eq_true rfl) (fun r18 M9 h9 => ?_) (fun _ _ h9 => h9.elim)
    obtain ⟨rfl, hC, hF9⟩ := h9
    have hF := Frm.tr hF hF9
    exact v_iret dX12_sends_21 rfl ⟨1000000, fr, fun a b => absurd (And.intro a b) (fun z => by first | exact b_f hq5 z.1 | exact b_f hq13 z.2), Or.inr ⟨(by rw [vdGo_1 (fun z => by first | exact b_f hq5 z.1 | exact b_f hq13 z.2)]; decide), rfl, (by rw [vdGo_1 (fun z => by first | exact b_f hq5 z.1 | exact b_f hq13 z.2)]; exact hC)⟩, hF⟩ (by omega) (by omega)
  · refine v_aload_n dX12_sends_8 rfl rfl ?_
    refine v_iload_n dX12_sends_9 rfl rfl ?_
    refine k_X12_88 dX12_sends_10 rfl (r_isStation htr hC hG s) hMo (Nat.le_of_ble_eq_true rfl) (by omega) (by omega) (Nat.le_of_ble_eq_true rfl) (fun r10 M9 h9 => ?_) (fun _ _ h9 => h9.elim)
    obtain ⟨rfl, e9⟩ := h9
    subst M9
    refine v_if_ne (tgt := 22) dX12_sends_13 (by decide) (fun hq13 => ?_) (fun hq13 => ?_)
    · have hh : hsl v k ∧ hst v s := ⟨b_t hq5, b_t hq13⟩
      obtain ⟨⟨k0, k1⟩, s0, s1⟩ := _root_.id hh
      have k3 : k < 3 := by clear hgL hgS; lia
      have s7 : s < 7 := by clear hgL hgS; lia
      obtain ⟨u0, u1, u2, u3, u4, u5, -⟩ := hgS k k0 k1
      clear hgL hgS
      have a7 : sd v k 1 < 7 := by clear hC hF hMo; lia
      refine v_aload_n dX12_sends_22 rfl rfl ?_
      refine gf_X12_16 dX12_sends_23 rfl hMo ?_
      refine v_iload_n dX12_sends_26 rfl rfl ?_
      refine v_iconst (v := 2) dX12_sends_27 (by decide) ?_
      refine k_X12_96 dX12_sends_28 rfl (r_in htr k 2) (Nat.le_of_ble_eq_true rfl) (by omega) (by omega) (Nat.le_of_ble_eq_true rfl) (fun r28 M9 h9 => ?_) (fun _ _ h9 => h9.elim)
      obtain ⟨rfl, e9⟩ := h9
      subst M9
      refine v_iald dX12_sends_31 hw5 (by lia) (by lia) ?_
      refine v_if_gt (tgt := 49) dX12_sends_32 (by decide) (fun h32 => ?_) (fun h32 => ?_)
      · refine v_aload_n dX12_sends_49 rfl rfl ?_
        refine v_iconst (v := 2) dX12_sends_50 (by decide) ?_
        refine k_X12_74 dX12_sends_51 rfl (r_fail htr hC 2) hMo (Nat.le_of_ble_eq_true rfl) (by omega) (by omega) (Nat.le_of_ble_eq_true rfl) (fun r51 M9 h9 => ?_) (fun _ _ h9 => h9.elim)
        obtain ⟨rfl, hC, hF9⟩ := h9
        have hF := Frm.tr hF hF9
        exact v_iret dX12_sends_54 rfl ⟨1000000, fr, fun _ _ => Or.inr (by first | exact Or.inl (by assumption) | exact Or.inr (by first | assumption | exact Classical.not_not.mp (by assumption))), Or.inr ⟨(by rw [vdGo_4 hh (by first | exact Or.inl (by assumption) | exact Or.inr (by first | assumption | exact Classical.not_not.mp (by assumption)))]; decide), rfl, (by rw [vdGo_4 hh (by first | exact Or.inl (by assumption) | exact Or.inr (by first | assumption | exact Classical.not_not.mp (by assumption)))]; exact hC)⟩, hF⟩ (by omega) (by omega)
      · refine v_aload_n dX12_sends_35 rfl rfl ?_
        refine gf_X12_16 dX12_sends_36 rfl hMo ?_
        refine v_iload_n dX12_sends_39 rfl rfl ?_
        refine v_iconst (v := 1) dX12_sends_40 (by decide) ?_
        refine k_X12_96 dX12_sends_41 rfl (r_in htr k 1) (Nat.le_of_ble_eq_true rfl) (by omega) (by omega) (Nat.le_of_ble_eq_true rfl) (fun r41 M9 h9 => ?_) (fun _ _ h9 => h9.elim)
        obtain ⟨rfl, e9⟩ := h9
        subst M9
        refine v_iald dX12_sends_44 hw5 (by lia) (by lia) ?_
        refine v_iload_n dX12_sends_45 rfl rfl ?_
        refine v_icmp_ne (tgt := 55) dX12_sends_46 (by decide) (fun h46 => ?_) (fun h46 => ?_)
        · have hc9 : ¬ (0 < sd v k 2 ∨ sd v k 1 = s) := fun z => z.elim (by assumption) (by first | assumption)
          refine v_aload_n dX12_sends_55 rfl rfl ?_
          refine k_X12_133 dX12_sends_56 rfl (r_reaches htr hC hG) hMo (Nat.le_of_ble_eq_true rfl) (by omega) (by omega) (Nat.le_of_ble_eq_true rfl) (fun M9 h9 => ?_) (fun _ _ h9 => h9.elim)
          obtain ⟨f9, hf9, hC, hF9⟩ := h9
          have hF := Frm.tr hF hF9
          obtain ⟨hMo, hw5, hw6, hw7, hw8, hw9, hw10, hw11, hw13, hw14, hw15, hw16, hw17, hw18, -⟩ := _root_.id hC
          obtain ⟨bb, hb1, hb2, hb3, hb4⟩ := hf9 (sd v k 1) s u2 u3 s0 s1
          refine v_aload_n dX12_sends_59 rfl rfl ?_
          refine v_aload_n dX12_sends_60 rfl rfl ?_
          refine gf_X12_16 dX12_sends_61 rfl hMo ?_
          refine v_iload_n dX12_sends_64 rfl rfl ?_
          refine v_iconst (v := 1) dX12_sends_65 (by decide) ?_
          refine k_X12_96 dX12_sends_66 rfl (r_in htr k 1) (Nat.le_of_ble_eq_true rfl) (by omega) (by omega) (Nat.le_of_ble_eq_true rfl) (fun r66 M9 h9 => ?_) (fun _ _ h9 => h9.elim)
          obtain ⟨rfl, e9⟩ := h9
          subst M9
          refine v_iald dX12_sends_69 hw5 (by lia) (by lia) ?_
          refine v_iload_n dX12_sends_70 rfl rfl ?_
          refine k_X12_136 dX12_sends_71 rfl (r_apart htr hC u2 a7 s0 s7) hMo (Nat.le_of_ble_eq_true rfl) (by omega) (by omega) (Nat.le_of_ble_eq_true rfl) (fun r71 M9 h9 => ?_) (fun _ _ h9 => h9.elim)
          obtain ⟨rfl, e9⟩ := h9
          subst M9
          refine v_istore_3 dX12_sends_74 ?_
          refine v_iload_n dX12_sends_75 rfl rfl ?_
          refine v_sipush (v := (10000)) dX12_sends_76 (by decide) ?_
          refine v_icmp_lt (tgt := 88) dX12_sends_79 (by decide) (fun hq79 => ?_) (fun hq79 => ?_)
          · refine v_aload_n dX12_sends_88 rfl rfl ?_
            refine gf_X12_16 dX12_sends_89 rfl hMo ?_
            refine v_iload_n dX12_sends_92 rfl rfl ?_
            refine v_iconst (v := 1) dX12_sends_93 (by decide) ?_
            refine k_X12_96 dX12_sends_94 rfl (r_in htr k 1) (Nat.le_of_ble_eq_true rfl) (by omega) (by omega) (Nat.le_of_ble_eq_true rfl) (fun r94 M9 h9 => ?_) (fun _ _ h9 => h9.elim)
            obtain ⟨rfl, e9⟩ := h9
            subst M9
            refine v_iload_n dX12_sends_97 rfl rfl ?_
            refine v_iast dX12_sends_98 hw5 (by lia) (by lia) ?_
            refine V.md (Md.r5 hC) (Frm.tr hF (Frm.up (hC.kd_r5))) (fun M1 hC hF => ?_)
            obtain ⟨hMo, hw5, hw6, hw7, hw8, hw9, hw10, hw11, hw13, hw14, hw15, hw16, hw17, hw18, -⟩ := _root_.id hC
            refine v_aload_n dX12_sends_99 rfl rfl ?_
            refine gf_X12_16 dX12_sends_100 rfl hMo ?_
            refine v_iload_n dX12_sends_103 rfl rfl ?_
            refine v_iconst (v := 2) dX12_sends_104 (by decide) ?_
            refine k_X12_96 dX12_sends_105 rfl (r_in htr k 2) (Nat.le_of_ble_eq_true rfl) (by omega) (by omega) (Nat.le_of_ble_eq_true rfl) (fun r105 M9 h9 => ?_) (fun _ _ h9 => h9.elim)
            obtain ⟨rfl, e9⟩ := h9
            subst M9
            refine v_iload_n dX12_sends_108 rfl rfl ?_
            refine v_iast dX12_sends_109 hw5 (by lia) (by lia) ?_
            refine V.md (Md.r5 hC) (Frm.tr hF (Frm.up (hC.kd_r5))) (fun M1 hC hF => ?_)
            obtain ⟨hMo, hw5, hw6, hw7, hw8, hw9, hw10, hw11, hw13, hw14, hw15, hw16, hw17, hw18, -⟩ := _root_.id hC
            refine v_aload_n dX12_sends_110 rfl rfl ?_
            refine gf_X12_16 dX12_sends_111 rfl hMo ?_
            refine v_iconst (v := 2) dX12_sends_114 (by decide) ?_
            refine v_dup2 dX12_sends_115 rfl rfl ?_
            refine v_iald dX12_sends_116 hw5 (by lia) (by lia) ?_
            refine v_iload_n dX12_sends_117 rfl rfl ?_
            refine v_isub dX12_sends_118 ?_
            refine v_iast dX12_sends_119 hw5 (by lia) (by lia) ?_
            refine V.md (Md.r5 hC) (Frm.tr hF (Frm.up (hC.kd_r5))) (fun M1 hC hF => ?_)
            obtain ⟨hMo, hw5, hw6, hw7, hw8, hw9, hw10, hw11, hw13, hw14, hw15, hw16, hw17, hw18, -⟩ := _root_.id hC
            refine v_iload_n dX12_sends_120 rfl rfl ?_
            exact v_iret dX12_sends_121 rfl ⟨f9 (sd v k 1 * 7 + s), f9, fun _ _ => Or.inl (by rw [tau_lt hb3 hb4 hq79]; exact hb1), Or.inl ⟨vdGo_z hh hc9 (tau_i hb3 hb4 hq79), rfl, (by (repeat rw [ui_n (by lia)] at hC); exact hC)⟩, hF⟩ (by omega) (by omega)
          · refine v_aload_n dX12_sends_82 rfl rfl ?_
            refine v_iconst (v := 3) dX12_sends_83 (by decide) ?_
            refine k_X12_74 dX12_sends_84 rfl (r_fail htr hC 3) hMo (Nat.le_of_ble_eq_true rfl) (by omega) (by omega) (Nat.le_of_ble_eq_true rfl) (fun r84 M9 h9 => ?_) (fun _ _ h9 => h9.elim)
            obtain ⟨rfl, hC, hF9⟩ := h9
            have hF := Frm.tr hF hF9
            exact v_iret dX12_sends_87 rfl ⟨1000000, f9, fun _ _ => Or.inl (by rw [show ((1000000 : Int32).toInt) = bb by (have := tau_ge hb3 hb4 hq79; rw [this]; rfl)]; exact hb1), Or.inr ⟨(by rw [vdGo_5 hh hc9 (by decide)]; decide), rfl, (by rw [vdGo_5 hh hc9 (by decide)]; exact hC)⟩, hF⟩ (by omega) (by omega)
        · refine v_aload_n dX12_sends_49 rfl rfl ?_
          refine v_iconst (v := 2) dX12_sends_50 (by decide) ?_
          refine k_X12_74 dX12_sends_51 rfl (r_fail htr hC 2) hMo (Nat.le_of_ble_eq_true rfl) (by omega) (by omega) (Nat.le_of_ble_eq_true rfl) (fun r51 M9 h9 => ?_) (fun _ _ h9 => h9.elim)
          obtain ⟨rfl, hC, hF9⟩ := h9
          have hF := Frm.tr hF hF9
          exact v_iret dX12_sends_54 rfl ⟨1000000, fr, fun _ _ => Or.inr (by first | exact Or.inl (by assumption) | exact Or.inr (by first | assumption | exact Classical.not_not.mp (by assumption))), Or.inr ⟨(by rw [vdGo_4 hh (by first | exact Or.inl (by assumption) | exact Or.inr (by first | assumption | exact Classical.not_not.mp (by assumption)))]; decide), rfl, (by rw [vdGo_4 hh (by first | exact Or.inl (by assumption) | exact Or.inr (by first | assumption | exact Classical.not_not.mp (by assumption)))]; exact hC)⟩, hF⟩ (by omega) (by omega)
    · refine v_aload_n dX12_sends_16 rfl rfl ?_
      refine v_iconst (v := 1) dX12_sends_17 (by decide) ?_
      refine k_X12_74 dX12_sends_18 rfl (r_fail htr hC 1) hMo (Nat.le_of_ble_eq_true rfl) (by omega) (by omega) (Nat.le_of_ble_eq_true rfl) (fun r18 M9 h9 => ?_) (fun _ _ h9 => h9.elim)
      obtain ⟨rfl, hC, hF9⟩ := h9
      have hF := Frm.tr hF hF9
      exact v_iret dX12_sends_21 rfl ⟨1000000, fr, fun a b => absurd (And.intro a b) (fun z => by first | exact b_f hq5 z.1 | exact b_f hq13 z.2), Or.inr ⟨(by rw [vdGo_1 (fun z => by first | exact b_f hq5 z.1 | exact b_f hq13 z.2)]; decide), rfl, (by rw [vdGo_1 (fun z => by first | exact b_f hq5 z.1 | exact b_f hq13 z.2)]; exact hC)⟩, hF⟩ (by omega) (by omega)
