/-! ===== the desk ===== -/
/-- a Desk at q 0 over M, of region D, whose State is at a -/
def Dk (kd : Nat → Nat) (D r : Nat) (M : LH) (a : Nat) (q : Nat → Nat) : Prop :=
  M (q 0) = some (ob 2 [.ref a, .ref (q 2), .ref (q 5), .ref (q 7)]) ∧ M (q 2) = some (ob 3 [.ref (q 3), .ref (q 4)]) ∧ (∃ f, M (q 3) = some (ia 49 f)) ∧ (∃ f, M (q 4) = some (ia 49 f)) ∧
  M (q 5) = some (ob 1 [.ref (q 6)]) ∧ (∃ f, M (q 6) = some (ia 31 f)) ∧ M (q 7) = some (ob 5 [.ref (q 8)]) ∧ (∃ f, M (q 8) = some (ia 896 f)) ∧
  (kd (q 0) = D ∧ kd (q 2) = D ∧ kd (q 3) = D ∧ kd (q 4) = D ∧ kd (q 5) = D ∧ kd (q 6) = D ∧ kd (q 7) = D ∧ kd (q 8) = D) ∧ ¬ q 3 = q 4 ∧ ¬ D = r
theorem Dk.kept {kd : Nat → Nat} {D r r' : Nat} {M M' : LH} {a : Nat} {q : Nat → Nat} (h : Dk kd D r M a q) (hr : ¬ D = r') (hf : Frm kd r' M M') : Dk kd D r M' a q := by
  obtain ⟨h1, h2, ⟨f1, h3⟩, ⟨f2, h4⟩, h5, ⟨f3, h6⟩, h7, ⟨f4, h8⟩, ⟨k0, k2, k3, k4, k5, k6, k7, k8⟩, h10, h11⟩ := h
  have e : ∀ x, kd x = D → M' x = M x := fun x hx => hf x (by rw [hx]; exact hr)
  exact ⟨(e _ k0).trans h1, (e _ k2).trans h2, ⟨f1, (e _ k3).trans h3⟩, ⟨f2, (e _ k4).trans h4⟩, (e _ k5).trans h5, ⟨f3, (e _ k6).trans h6⟩, (e _ k7).trans h7, ⟨f4, (e _ k8).trans h8⟩, ⟨k0, k2, k3, k4, k5, k6, k7, k8⟩, h10, h11⟩
theorem ia_n {M : LH} {x z : Nat} {e : Ec} {N : Int32} {f g : Int32 → Int32} (h : M x = some e) (hz : M z = some (ia N f)) (hne : e ≠ ia N f) : (hup M z (ia N g)) x = some e := (hup_n (ne_of_cell h hz hne)).trans h
theorem ia_x {M : LH} {x z : Nat} {N : Int32} {g : Int32 → Int32} (h : ∃ f, M x = some (ia N f)) : ∃ f, (hup M z (ia N g)) x = some (ia N f) := by
  obtain ⟨f, h⟩ := h
  by_cases e : x = z
  · rw [e]
    exact ⟨g, hup_s⟩
  · exact ⟨f, (hup_n e).trans h⟩
theorem ia_w {M : LH} {x z : Nat} {N N' : Int32} {f' g : Int32 → Int32} (hz : M z = some (ia N' f')) (hn : ¬ N = N') (h : ∃ f, M x = some (ia N f)) : ∃ f, (hup M z (ia N' g)) x = some (ia N f) := by
  obtain ⟨f, h⟩ := h
  refine ⟨f, (hup_n (fun e => hn ?_)).trans h⟩
  rw [e, hz] at h
  have h2 := Option.some.inj h
  unfold ia at h2
  exact (congrArg (fun p => p.2.1) (Sum.inl.inj h2)).symm
abbrev hst (σ : Int32 → Int32) (s : Int32) : Prop := 0 ≤ s ∧ s < σ 5
abbrev hsl (σ : Int32 → Int32) (s : Int32) : Prop := 0 ≤ s ∧ s < σ 6
def vdStation (σ : Int32 → Int32) : Nat := if σ 5 < 7 then 0 else 4
def vdRoad (σ : Int32 → Int32) (s t n : Int32) : Nat := if ¬ (hst σ s ∧ hst σ t) then 1 else if ¬ s = t ∧ 0 ≤ n ∧ n ≤ 20 then 0 else 2
def vdSledge (σ : Int32 → Int32) (s n : Int32) : Nat := if ¬ hst σ s then 1 else if ¬ (5 ≤ n ∧ n ≤ 30) then 2 else if σ 6 < 3 then 0 else 4
def vdLetter (σ : Int32 → Int32) (s t w e n : Int32) : Nat := if ¬ (hst σ s ∧ hst σ t) then 1 else if ¬ (¬ s = t ∧ (1 ≤ w ∧ w ≤ 9) ∧ (0 ≤ e ∧ e ≤ 99) ∧ (1 ≤ n ∧ n ≤ 99)) then 2 else if σ 7 < 12 then 0 else 4
def vdBest (σ : Int32 → Int32) (k : Int32) : Nat := if ¬ hsl σ k then 1 else if 0 < sd σ k 2 then 4 else 0
def vdDeg (n : Int32) : Nat := if -30 ≤ n ∧ n ≤ 10 then 0 else 2
def vdHrs (n : Int32) : Nat := if 1 ≤ n ∧ n ≤ 48 then 0 else 2
theorem b_t {p : Prop} [Decidable p] (h : ¬ (if p then (1 : Int32) else 0) = 0) : p := Classical.byContradiction (fun q => by rw [if_neg q] at h; exact h rfl)
theorem b_f {p : Prop} [Decidable p] (h : (if p then (1 : Int32) else 0) = 0) : ¬ p := fun q => by rw [if_pos q] at h; revert h; decide
theorem dX3_judgeStation_0 : decode cX3_judgeStation 0 = .ok (.aload_n 0, 1) := by decide +kernel
theorem dX3_judgeStation_1 : decode cX3_judgeStation 1 = .ok (.getfield 12, 3) := by decide +kernel
theorem dX3_judgeStation_4 : decode cX3_judgeStation 4 = .ok (.getfield 39, 3) := by decide +kernel
theorem dX3_judgeStation_7 : decode cX3_judgeStation 7 = .ok (.bipush 7, 2) := by decide +kernel
theorem dX3_judgeStation_9 : decode cX3_judgeStation 9 = .ok (.if_icmp .ge 9, 3) := by decide +kernel
theorem dX3_judgeStation_12 : decode cX3_judgeStation 12 = .ok (.getstatic 43, 3) := by decide +kernel
theorem dX3_judgeStation_15 : decode cX3_judgeStation 15 = .ok (.goto 6, 3) := by decide +kernel
theorem dX3_judgeStation_18 : decode cX3_judgeStation 18 = .ok (.getstatic 49, 3) := by decide +kernel
theorem dX3_judgeStation_21 : decode cX3_judgeStation 21 = .ok (.areturn, 1) := by decide +kernel
set_option maxRecDepth 100000 in
set_option maxHeartbeats 4000000 in
theorem c_judgeStation {l : Launch} {g : Nat → Nat} {M : LH} (htr : l.stackTraces = false) {kd : Nat → Nat} {r a : Nat} {ad : Nat → Nat} {sl le : Int32 → Nat} {fg tp : Int32} {F : Nat → Int32 → Int32} {σ : Int32 → Int32} (hC : StR kd r M a ad sl le fg tp F σ) {q : Nat → Nat} {D : Nat} (hK : Dk kd D r M a q) : K_X3_judgeStation l g 1 0 0 [.ref (q 0)] M (RA (fun v M9 => v = g (vdStation σ) ∧ M9 = M) nX) := by
  refine Ko_X3_judgeStation htr (fun X => ?_)
  have hC0 := hC
  have hK0 := hK
  obtain ⟨hSt, hRo, hSR, hLR, hSl, hLe, hkd, -, ⟨-, hRd, hSd, hLt⟩, hG⟩ := hC
  obtain ⟨hDk, hDs, ⟨f1, hB1⟩, ⟨f2, hB2⟩, hBl, ⟨f3, hB3⟩, hRt, ⟨f4, hB4⟩, hkD, hn34, hDr⟩ := hK
  have hG0 := hG
  obtain ⟨hg1, hg2, hg3, hg4, hg5, hg6, hg7, hg8, hgL, hgS, -⟩ := hG
  refine v_aload_n dX3_judgeStation_0 rfl rfl ?_
  refine gf_X3_12 dX3_judgeStation_1 rfl hDk ?_
  refine gf_X3_39 dX3_judgeStation_4 rfl hSt ?_
  refine v_bipush (v := (7)) dX3_judgeStation_7 (by decide) ?_
  refine v_icmp_ge (tgt := 18) dX3_judgeStation_9 (by decide) (fun h9 => ?_) (fun h9 => ?_)
  · refine gs_X3_49 dX3_judgeStation_18 rfl ?_
    exact v_aret dX3_judgeStation_21 rfl ⟨(by unfold vdStation; clear hgL hgS hRd hSd hLt hLe hSl; grind), rfl⟩ (by omega) (by omega)
  · refine gs_X3_43 dX3_judgeStation_12 rfl ?_
    refine v_goto (tgt := 21) dX3_judgeStation_15 (by decide) ?_
    exact v_aret dX3_judgeStation_21 rfl ⟨(by unfold vdStation; clear hgL hgS hRd hSd hLt hLe hSl; grind), rfl⟩ (by omega) (by omega)
theorem dX3_judgeRoad_0 : decode cX3_judgeRoad 0 = .ok (.aload_n 0, 1) := by decide +kernel
theorem dX3_judgeRoad_1 : decode cX3_judgeRoad 1 = .ok (.getfield 12, 3) := by decide +kernel
theorem dX3_judgeRoad_4 : decode cX3_judgeRoad 4 = .ok (.iload_n 1, 1) := by decide +kernel
theorem dX3_judgeRoad_5 : decode cX3_judgeRoad 5 = .ok (.invokevirtual 52, 3) := by decide +kernel
theorem dX3_judgeRoad_8 : decode cX3_judgeRoad 8 = .ok (.ifCond .eq 14, 3) := by decide +kernel
theorem dX3_judgeRoad_11 : decode cX3_judgeRoad 11 = .ok (.aload_n 0, 1) := by decide +kernel
theorem dX3_judgeRoad_12 : decode cX3_judgeRoad 12 = .ok (.getfield 12, 3) := by decide +kernel
theorem dX3_judgeRoad_15 : decode cX3_judgeRoad 15 = .ok (.iload_n 2, 1) := by decide +kernel
theorem dX3_judgeRoad_16 : decode cX3_judgeRoad 16 = .ok (.invokevirtual 52, 3) := by decide +kernel
theorem dX3_judgeRoad_19 : decode cX3_judgeRoad 19 = .ok (.ifCond .ne 7, 3) := by decide +kernel
theorem dX3_judgeRoad_22 : decode cX3_judgeRoad 22 = .ok (.getstatic 56, 3) := by decide +kernel
theorem dX3_judgeRoad_25 : decode cX3_judgeRoad 25 = .ok (.areturn, 1) := by decide +kernel
theorem dX3_judgeRoad_26 : decode cX3_judgeRoad 26 = .ok (.iload_n 1, 1) := by decide +kernel
theorem dX3_judgeRoad_27 : decode cX3_judgeRoad 27 = .ok (.iload_n 2, 1) := by decide +kernel
theorem dX3_judgeRoad_28 : decode cX3_judgeRoad 28 = .ok (.if_icmp .eq 17, 3) := by decide +kernel
theorem dX3_judgeRoad_31 : decode cX3_judgeRoad 31 = .ok (.iload_n 3, 1) := by decide +kernel
theorem dX3_judgeRoad_32 : decode cX3_judgeRoad 32 = .ok (.iconst 0, 1) := by decide +kernel
theorem dX3_judgeRoad_33 : decode cX3_judgeRoad 33 = .ok (.bipush 20, 2) := by decide +kernel
theorem dX3_judgeRoad_35 : decode cX3_judgeRoad 35 = .ok (.invokestatic 59, 3) := by decide +kernel
theorem dX3_judgeRoad_38 : decode cX3_judgeRoad 38 = .ok (.ifCond .eq 7, 3) := by decide +kernel
theorem dX3_judgeRoad_41 : decode cX3_judgeRoad 41 = .ok (.iconst 1, 1) := by decide +kernel
theorem dX3_judgeRoad_42 : decode cX3_judgeRoad 42 = .ok (.goto 4, 3) := by decide +kernel
theorem dX3_judgeRoad_45 : decode cX3_judgeRoad 45 = .ok (.iconst 0, 1) := by decide +kernel
theorem dX3_judgeRoad_46 : decode cX3_judgeRoad 46 = .ok (.istore 4, 2) := by decide +kernel
theorem dX3_judgeRoad_48 : decode cX3_judgeRoad 48 = .ok (.iload 4, 2) := by decide +kernel
theorem dX3_judgeRoad_50 : decode cX3_judgeRoad 50 = .ok (.ifCond .eq 9, 3) := by decide +kernel
theorem dX3_judgeRoad_53 : decode cX3_judgeRoad 53 = .ok (.getstatic 43, 3) := by decide +kernel
theorem dX3_judgeRoad_56 : decode cX3_judgeRoad 56 = .ok (.goto 6, 3) := by decide +kernel
theorem dX3_judgeRoad_59 : decode cX3_judgeRoad 59 = .ok (.getstatic 63, 3) := by decide +kernel
theorem dX3_judgeRoad_62 : decode cX3_judgeRoad 62 = .ok (.areturn, 1) := by decide +kernel
set_option maxRecDepth 100000 in
set_option maxHeartbeats 4000000 in
theorem c_judgeRoad {l : Launch} {g : Nat → Nat} {M : LH} (htr : l.stackTraces = false) {kd : Nat → Nat} {r a : Nat} {ad : Nat → Nat} {sl le : Int32 → Nat} {fg tp : Int32} {F : Nat → Int32 → Int32} {σ : Int32 → Int32} (hC : StR kd r M a ad sl le fg tp F σ) {q : Nat → Nat} {D : Nat} (hK : Dk kd D r M a q) (s t n : Int32) : K_X3_judgeRoad l g 1 0 0 [.ref (q 0), .int s, .int t, .int n] M (RA (fun v M9 => v = g (vdRoad σ s t n) ∧ M9 = M) nX) := by
  refine Ko_X3_judgeRoad htr (fun X => ?_)
  have hC0 := hC
  have hK0 := hK
  obtain ⟨hSt, hRo, hSR, hLR, hSl, hLe, hkd, -, ⟨-, hRd, hSd, hLt⟩, hG⟩ := hC
  obtain ⟨hDk, hDs, ⟨f1, hB1⟩, ⟨f2, hB2⟩, hBl, ⟨f3, hB3⟩, hRt, ⟨f4, hB4⟩, hkD, hn34, hDr⟩ := hK
  have hG0 := hG
  obtain ⟨hg1, hg2, hg3, hg4, hg5, hg6, hg7, hg8, hgL, hgS, -⟩ := hG
  refine v_aload_n dX3_judgeRoad_0 rfl rfl ?_
  refine gf_X3_12 dX3_judgeRoad_1 rfl hDk ?_
  refine v_iload_n dX3_judgeRoad_4 rfl rfl ?_
  refine k_X3_52 dX3_judgeRoad_5 rfl (c_hasStation htr hC0 s) hSt (Nat.le_of_ble_eq_true rfl) (by omega) (by omega) (Nat.le_of_ble_eq_true rfl) (fun r5 M9 h9 => ?_) (fun _ _ h9 => h9.elim)
  obtain ⟨rfl, e9⟩ := h9
  subst M9
  refine v_if_eq (tgt := 22) dX3_judgeRoad_8 (by decide) (fun h8 => ?_) (fun h8 => ?_)
  · refine gs_X3_56 dX3_judgeRoad_22 rfl ?_
    exact v_aret dX3_judgeRoad_25 rfl ⟨(by unfold vdRoad; clear hgL hgS hRd hSd hLt hLe hSl; grind), rfl⟩ (by omega) (by omega)
  · refine v_aload_n dX3_judgeRoad_11 rfl rfl ?_
    refine gf_X3_12 dX3_judgeRoad_12 rfl hDk ?_
    refine v_iload_n dX3_judgeRoad_15 rfl rfl ?_
    refine k_X3_52 dX3_judgeRoad_16 rfl (c_hasStation htr hC0 t) hSt (Nat.le_of_ble_eq_true rfl) (by omega) (by omega) (Nat.le_of_ble_eq_true rfl) (fun r16 M9 h9 => ?_) (fun _ _ h9 => h9.elim)
    obtain ⟨rfl, e9⟩ := h9
    subst M9
    refine v_if_ne (tgt := 26) dX3_judgeRoad_19 (by decide) (fun h19 => ?_) (fun h19 => ?_)
    · refine v_iload_n dX3_judgeRoad_26 rfl rfl ?_
      refine v_iload_n dX3_judgeRoad_27 rfl rfl ?_
      refine v_icmp_eq (tgt := 45) dX3_judgeRoad_28 (by decide) (fun h28 => ?_) (fun h28 => ?_)
      · refine v_iconst (v := 0) dX3_judgeRoad_45 (by decide) ?_
        refine v_istore_4 dX3_judgeRoad_46 ?_
        refine v_iload dX3_judgeRoad_48 rfl ?_
        refine v_if_eq (tgt := 59) dX3_judgeRoad_50 (by decide) (fun h50 => ?_) (fun h50 => ?_)
        · refine gs_X3_63 dX3_judgeRoad_59 rfl ?_
          exact v_aret dX3_judgeRoad_62 rfl ⟨(by unfold vdRoad; clear hgL hgS hRd hSd hLt hLe hSl; grind), rfl⟩ (by omega) (by omega)
        · refine gs_X3_43 dX3_judgeRoad_53 rfl ?_
          refine v_goto (tgt := 62) dX3_judgeRoad_56 (by decide) ?_
          exact v_aret dX3_judgeRoad_62 rfl ⟨(by unfold vdRoad; clear hgL hgS hRd hSd hLt hLe hSl; grind), rfl⟩ (by omega) (by omega)
      · refine v_iload_n dX3_judgeRoad_31 rfl rfl ?_
        refine v_iconst (v := 0) dX3_judgeRoad_32 (by decide) ?_
        refine v_bipush (v := (20)) dX3_judgeRoad_33 (by decide) ?_
        refine k_X3_59 dX3_judgeRoad_35 rfl (c_isBetween htr n 0 20) (Nat.le_of_ble_eq_true rfl) (by omega) (by omega) (Nat.le_of_ble_eq_true rfl) (fun r35 M9 h9 => ?_) (fun _ _ h9 => h9.elim)
        obtain ⟨rfl, e9⟩ := h9
        subst M9
        refine v_if_eq (tgt := 45) dX3_judgeRoad_38 (by decide) (fun h38 => ?_) (fun h38 => ?_)
        · refine v_iconst (v := 0) dX3_judgeRoad_45 (by decide) ?_
          refine v_istore_4 dX3_judgeRoad_46 ?_
          refine v_iload dX3_judgeRoad_48 rfl ?_
          refine v_if_eq (tgt := 59) dX3_judgeRoad_50 (by decide) (fun h50 => ?_) (fun h50 => ?_)
          · refine gs_X3_63 dX3_judgeRoad_59 rfl ?_
            exact v_aret dX3_judgeRoad_62 rfl ⟨(by unfold vdRoad; clear hgL hgS hRd hSd hLt hLe hSl; grind), rfl⟩ (by omega) (by omega)
          · refine gs_X3_43 dX3_judgeRoad_53 rfl ?_
            refine v_goto (tgt := 62) dX3_judgeRoad_56 (by decide) ?_
            exact v_aret dX3_judgeRoad_62 rfl ⟨(by unfold vdRoad; clear hgL hgS hRd hSd hLt hLe hSl; grind), rfl⟩ (by omega) (by omega)
        · refine v_iconst (v := 1) dX3_judgeRoad_41 (by decide) ?_
          refine v_goto (tgt := 46) dX3_judgeRoad_42 (by decide) ?_
          refine v_istore_4 dX3_judgeRoad_46 ?_
          refine v_iload dX3_judgeRoad_48 rfl ?_
          refine v_if_eq (tgt := 59) dX3_judgeRoad_50 (by decide) (fun h50 => ?_) (fun h50 => ?_)
          · refine gs_X3_63 dX3_judgeRoad_59 rfl ?_
            exact v_aret dX3_judgeRoad_62 rfl ⟨(by unfold vdRoad; clear hgL hgS hRd hSd hLt hLe hSl; grind), rfl⟩ (by omega) (by omega)
          · refine gs_X3_43 dX3_judgeRoad_53 rfl ?_
            refine v_goto (tgt := 62) dX3_judgeRoad_56 (by decide) ?_
            exact v_aret dX3_judgeRoad_62 rfl ⟨(by unfold vdRoad; clear hgL hgS hRd hSd hLt hLe hSl; grind), rfl⟩ (by omega) (by omega)
    · refine gs_X3_56 dX3_judgeRoad_22 rfl ?_
      exact v_aret dX3_judgeRoad_25 rfl ⟨(by unfold vdRoad; clear hgL hgS hRd hSd hLt hLe hSl; grind), rfl⟩ (by omega) (by omega)
theorem dX3_judgeSledge_0 : decode cX3_judgeSledge 0 = .ok (.aload_n 0, 1) := by decide +kernel
theorem dX3_judgeSledge_1 : decode cX3_judgeSledge 1 = .ok (.getfield 12, 3) := by decide +kernel
theorem dX3_judgeSledge_4 : decode cX3_judgeSledge 4 = .ok (.iload_n 1, 1) := by decide +kernel
theorem dX3_judgeSledge_5 : decode cX3_judgeSledge 5 = .ok (.invokevirtual 52, 3) := by decide +kernel
theorem dX3_judgeSledge_8 : decode cX3_judgeSledge 8 = .ok (.ifCond .ne 7, 3) := by decide +kernel
theorem dX3_judgeSledge_11 : decode cX3_judgeSledge 11 = .ok (.getstatic 56, 3) := by decide +kernel
theorem dX3_judgeSledge_14 : decode cX3_judgeSledge 14 = .ok (.areturn, 1) := by decide +kernel
theorem dX3_judgeSledge_15 : decode cX3_judgeSledge 15 = .ok (.iload_n 2, 1) := by decide +kernel
theorem dX3_judgeSledge_16 : decode cX3_judgeSledge 16 = .ok (.iconst 5, 1) := by decide +kernel
theorem dX3_judgeSledge_17 : decode cX3_judgeSledge 17 = .ok (.bipush 30, 2) := by decide +kernel
theorem dX3_judgeSledge_19 : decode cX3_judgeSledge 19 = .ok (.invokestatic 59, 3) := by decide +kernel
theorem dX3_judgeSledge_22 : decode cX3_judgeSledge 22 = .ok (.ifCond .ne 7, 3) := by decide +kernel
theorem dX3_judgeSledge_25 : decode cX3_judgeSledge 25 = .ok (.getstatic 63, 3) := by decide +kernel
theorem dX3_judgeSledge_28 : decode cX3_judgeSledge 28 = .ok (.areturn, 1) := by decide +kernel
theorem dX3_judgeSledge_29 : decode cX3_judgeSledge 29 = .ok (.aload_n 0, 1) := by decide +kernel
theorem dX3_judgeSledge_30 : decode cX3_judgeSledge 30 = .ok (.getfield 12, 3) := by decide +kernel
theorem dX3_judgeSledge_33 : decode cX3_judgeSledge 33 = .ok (.getfield 74, 3) := by decide +kernel
theorem dX3_judgeSledge_36 : decode cX3_judgeSledge 36 = .ok (.iconst 3, 1) := by decide +kernel
theorem dX3_judgeSledge_37 : decode cX3_judgeSledge 37 = .ok (.if_icmp .ge 9, 3) := by decide +kernel
theorem dX3_judgeSledge_40 : decode cX3_judgeSledge 40 = .ok (.getstatic 43, 3) := by decide +kernel
theorem dX3_judgeSledge_43 : decode cX3_judgeSledge 43 = .ok (.goto 6, 3) := by decide +kernel
theorem dX3_judgeSledge_46 : decode cX3_judgeSledge 46 = .ok (.getstatic 49, 3) := by decide +kernel
theorem dX3_judgeSledge_49 : decode cX3_judgeSledge 49 = .ok (.areturn, 1) := by decide +kernel
set_option maxRecDepth 100000 in
set_option maxHeartbeats 4000000 in
theorem c_judgeSledge {l : Launch} {g : Nat → Nat} {M : LH} (htr : l.stackTraces = false) {kd : Nat → Nat} {r a : Nat} {ad : Nat → Nat} {sl le : Int32 → Nat} {fg tp : Int32} {F : Nat → Int32 → Int32} {σ : Int32 → Int32} (hC : StR kd r M a ad sl le fg tp F σ) {q : Nat → Nat} {D : Nat} (hK : Dk kd D r M a q) (s n : Int32) : K_X3_judgeSledge l g 1 0 0 [.ref (q 0), .int s, .int n] M (RA (fun v M9 => v = g (vdSledge σ s n) ∧ M9 = M) nX) := by
  refine Ko_X3_judgeSledge htr (fun X => ?_)
  have hC0 := hC
  have hK0 := hK
  obtain ⟨hSt, hRo, hSR, hLR, hSl, hLe, hkd, -, ⟨-, hRd, hSd, hLt⟩, hG⟩ := hC
  obtain ⟨hDk, hDs, ⟨f1, hB1⟩, ⟨f2, hB2⟩, hBl, ⟨f3, hB3⟩, hRt, ⟨f4, hB4⟩, hkD, hn34, hDr⟩ := hK
  have hG0 := hG
  obtain ⟨hg1, hg2, hg3, hg4, hg5, hg6, hg7, hg8, hgL, hgS, -⟩ := hG
  refine v_aload_n dX3_judgeSledge_0 rfl rfl ?_
  refine gf_X3_12 dX3_judgeSledge_1 rfl hDk ?_
  refine v_iload_n dX3_judgeSledge_4 rfl rfl ?_
  refine k_X3_52 dX3_judgeSledge_5 rfl (c_hasStation htr hC0 s) hSt (Nat.le_of_ble_eq_true rfl) (by omega) (by omega) (Nat.le_of_ble_eq_true rfl) (fun r5 M9 h9 => ?_) (fun _ _ h9 => h9.elim)
  obtain ⟨rfl, e9⟩ := h9
  subst M9
  refine v_if_ne (tgt := 15) dX3_judgeSledge_8 (by decide) (fun h8 => ?_) (fun h8 => ?_)
  · refine v_iload_n dX3_judgeSledge_15 rfl rfl ?_
    refine v_iconst (v := 5) dX3_judgeSledge_16 (by decide) ?_
    refine v_bipush (v := (30)) dX3_judgeSledge_17 (by decide) ?_
    refine k_X3_59 dX3_judgeSledge_19 rfl (c_isBetween htr n 5 30) (Nat.le_of_ble_eq_true rfl) (by omega) (by omega) (Nat.le_of_ble_eq_true rfl) (fun r19 M9 h9 => ?_) (fun _ _ h9 => h9.elim)
    obtain ⟨rfl, e9⟩ := h9
    subst M9
    refine v_if_ne (tgt := 29) dX3_judgeSledge_22 (by decide) (fun h22 => ?_) (fun h22 => ?_)
    · refine v_aload_n dX3_judgeSledge_29 rfl rfl ?_
      refine gf_X3_12 dX3_judgeSledge_30 rfl hDk ?_
      refine gf_X3_74 dX3_judgeSledge_33 rfl hSt ?_
      refine v_iconst (v := 3) dX3_judgeSledge_36 (by decide) ?_
      refine v_icmp_ge (tgt := 46) dX3_judgeSledge_37 (by decide) (fun h37 => ?_) (fun h37 => ?_)
      · refine gs_X3_49 dX3_judgeSledge_46 rfl ?_
        exact v_aret dX3_judgeSledge_49 rfl ⟨(by unfold vdSledge; clear hgL hgS hRd hSd hLt hLe hSl; grind), rfl⟩ (by omega) (by omega)
      · refine gs_X3_43 dX3_judgeSledge_40 rfl ?_
        refine v_goto (tgt := 49) dX3_judgeSledge_43 (by decide) ?_
        exact v_aret dX3_judgeSledge_49 rfl ⟨(by unfold vdSledge; clear hgL hgS hRd hSd hLt hLe hSl; grind), rfl⟩ (by omega) (by omega)
    · refine gs_X3_63 dX3_judgeSledge_25 rfl ?_
      exact v_aret dX3_judgeSledge_28 rfl ⟨(by unfold vdSledge; clear hgL hgS hRd hSd hLt hLe hSl; grind), rfl⟩ (by omega) (by omega)
  · refine gs_X3_56 dX3_judgeSledge_11 rfl ?_
    exact v_aret dX3_judgeSledge_14 rfl ⟨(by unfold vdSledge; clear hgL hgS hRd hSd hLt hLe hSl; grind), rfl⟩ (by omega) (by omega)
theorem dX3_judgeLetter_0 : decode cX3_judgeLetter 0 = .ok (.aload_n 0, 1) := by decide +kernel
theorem dX3_judgeLetter_1 : decode cX3_judgeLetter 1 = .ok (.getfield 12, 3) := by decide +kernel
theorem dX3_judgeLetter_4 : decode cX3_judgeLetter 4 = .ok (.iload_n 1, 1) := by decide +kernel
theorem dX3_judgeLetter_5 : decode cX3_judgeLetter 5 = .ok (.invokevirtual 52, 3) := by decide +kernel
theorem dX3_judgeLetter_8 : decode cX3_judgeLetter 8 = .ok (.ifCond .eq 14, 3) := by decide +kernel
theorem dX3_judgeLetter_11 : decode cX3_judgeLetter 11 = .ok (.aload_n 0, 1) := by decide +kernel
theorem dX3_judgeLetter_12 : decode cX3_judgeLetter 12 = .ok (.getfield 12, 3) := by decide +kernel
theorem dX3_judgeLetter_15 : decode cX3_judgeLetter 15 = .ok (.iload_n 2, 1) := by decide +kernel
theorem dX3_judgeLetter_16 : decode cX3_judgeLetter 16 = .ok (.invokevirtual 52, 3) := by decide +kernel
theorem dX3_judgeLetter_19 : decode cX3_judgeLetter 19 = .ok (.ifCond .ne 7, 3) := by decide +kernel
theorem dX3_judgeLetter_22 : decode cX3_judgeLetter 22 = .ok (.getstatic 56, 3) := by decide +kernel
theorem dX3_judgeLetter_25 : decode cX3_judgeLetter 25 = .ok (.areturn, 1) := by decide +kernel
theorem dX3_judgeLetter_26 : decode cX3_judgeLetter 26 = .ok (.iload_n 1, 1) := by decide +kernel
theorem dX3_judgeLetter_27 : decode cX3_judgeLetter 27 = .ok (.iload_n 2, 1) := by decide +kernel
theorem dX3_judgeLetter_28 : decode cX3_judgeLetter 28 = .ok (.if_icmp .eq 39, 3) := by decide +kernel
theorem dX3_judgeLetter_31 : decode cX3_judgeLetter 31 = .ok (.iload_n 3, 1) := by decide +kernel
theorem dX3_judgeLetter_32 : decode cX3_judgeLetter 32 = .ok (.iconst 1, 1) := by decide +kernel
theorem dX3_judgeLetter_33 : decode cX3_judgeLetter 33 = .ok (.bipush 9, 2) := by decide +kernel
theorem dX3_judgeLetter_35 : decode cX3_judgeLetter 35 = .ok (.invokestatic 59, 3) := by decide +kernel
theorem dX3_judgeLetter_38 : decode cX3_judgeLetter 38 = .ok (.ifCond .eq 29, 3) := by decide +kernel
theorem dX3_judgeLetter_41 : decode cX3_judgeLetter 41 = .ok (.iload 4, 2) := by decide +kernel
theorem dX3_judgeLetter_43 : decode cX3_judgeLetter 43 = .ok (.iconst 0, 1) := by decide +kernel
theorem dX3_judgeLetter_44 : decode cX3_judgeLetter 44 = .ok (.bipush 99, 2) := by decide +kernel
theorem dX3_judgeLetter_46 : decode cX3_judgeLetter 46 = .ok (.invokestatic 59, 3) := by decide +kernel
theorem dX3_judgeLetter_49 : decode cX3_judgeLetter 49 = .ok (.ifCond .eq 18, 3) := by decide +kernel
theorem dX3_judgeLetter_52 : decode cX3_judgeLetter 52 = .ok (.iload 5, 2) := by decide +kernel
theorem dX3_judgeLetter_54 : decode cX3_judgeLetter 54 = .ok (.iconst 1, 1) := by decide +kernel
theorem dX3_judgeLetter_55 : decode cX3_judgeLetter 55 = .ok (.bipush 99, 2) := by decide +kernel
theorem dX3_judgeLetter_57 : decode cX3_judgeLetter 57 = .ok (.invokestatic 59, 3) := by decide +kernel
theorem dX3_judgeLetter_60 : decode cX3_judgeLetter 60 = .ok (.ifCond .eq 7, 3) := by decide +kernel
theorem dX3_judgeLetter_63 : decode cX3_judgeLetter 63 = .ok (.iconst 1, 1) := by decide +kernel
theorem dX3_judgeLetter_64 : decode cX3_judgeLetter 64 = .ok (.goto 4, 3) := by decide +kernel
theorem dX3_judgeLetter_67 : decode cX3_judgeLetter 67 = .ok (.iconst 0, 1) := by decide +kernel
theorem dX3_judgeLetter_68 : decode cX3_judgeLetter 68 = .ok (.istore 6, 2) := by decide +kernel
theorem dX3_judgeLetter_70 : decode cX3_judgeLetter 70 = .ok (.iload 6, 2) := by decide +kernel
theorem dX3_judgeLetter_72 : decode cX3_judgeLetter 72 = .ok (.ifCond .ne 7, 3) := by decide +kernel
theorem dX3_judgeLetter_75 : decode cX3_judgeLetter 75 = .ok (.getstatic 63, 3) := by decide +kernel
theorem dX3_judgeLetter_78 : decode cX3_judgeLetter 78 = .ok (.areturn, 1) := by decide +kernel
theorem dX3_judgeLetter_79 : decode cX3_judgeLetter 79 = .ok (.aload_n 0, 1) := by decide +kernel
theorem dX3_judgeLetter_80 : decode cX3_judgeLetter 80 = .ok (.getfield 12, 3) := by decide +kernel
theorem dX3_judgeLetter_83 : decode cX3_judgeLetter 83 = .ok (.getfield 92, 3) := by decide +kernel
theorem dX3_judgeLetter_86 : decode cX3_judgeLetter 86 = .ok (.bipush 12, 2) := by decide +kernel
theorem dX3_judgeLetter_88 : decode cX3_judgeLetter 88 = .ok (.if_icmp .ge 9, 3) := by decide +kernel
theorem dX3_judgeLetter_91 : decode cX3_judgeLetter 91 = .ok (.getstatic 43, 3) := by decide +kernel
theorem dX3_judgeLetter_94 : decode cX3_judgeLetter 94 = .ok (.goto 6, 3) := by decide +kernel
theorem dX3_judgeLetter_97 : decode cX3_judgeLetter 97 = .ok (.getstatic 49, 3) := by decide +kernel
theorem dX3_judgeLetter_100 : decode cX3_judgeLetter 100 = .ok (.areturn, 1) := by decide +kernel
set_option maxRecDepth 100000 in
set_option maxHeartbeats 4000000 in
theorem c_judgeLetter {l : Launch} {g : Nat → Nat} {M : LH} (htr : l.stackTraces = false) {kd : Nat → Nat} {r a : Nat} {ad : Nat → Nat} {sl le : Int32 → Nat} {fg tp : Int32} {F : Nat → Int32 → Int32} {σ : Int32 → Int32} (hC : StR kd r M a ad sl le fg tp F σ) {q : Nat → Nat} {D : Nat} (hK : Dk kd D r M a q) (s t w e n : Int32) : K_X3_judgeLetter l g 1 0 0 [.ref (q 0), .int s, .int t, .int w, .int e, .int n] M (RA (fun v M9 => v = g (vdLetter σ s t w e n) ∧ M9 = M) nX) := by
  refine Ko_X3_judgeLetter htr (fun X => ?_)
  have hC0 := hC
  have hK0 := hK
  obtain ⟨hSt, hRo, hSR, hLR, hSl, hLe, hkd, -, ⟨-, hRd, hSd, hLt⟩, hG⟩ := hC
  obtain ⟨hDk, hDs, ⟨f1, hB1⟩, ⟨f2, hB2⟩, hBl, ⟨f3, hB3⟩, hRt, ⟨f4, hB4⟩, hkD, hn34, hDr⟩ := hK
  have hG0 := hG
  obtain ⟨hg1, hg2, hg3, hg4, hg5, hg6, hg7, hg8, hgL, hgS, -⟩ := hG
  refine v_aload_n dX3_judgeLetter_0 rfl rfl ?_
  refine gf_X3_12 dX3_judgeLetter_1 rfl hDk ?_
  refine v_iload_n dX3_judgeLetter_4 rfl rfl ?_
  refine k_X3_52 dX3_judgeLetter_5 rfl (c_hasStation htr hC0 s) hSt (Nat.le_of_ble_eq_true rfl) (by omega) (by omega) (Nat.le_of_ble_eq_true rfl) (fun r5 M9 h9 => ?_) (fun _ _ h9 => h9.elim)
  obtain ⟨rfl, e9⟩ := h9
  subst M9
  refine v_if_eq (tgt := 22) dX3_judgeLetter_8 (by decide) (fun h8 => ?_) (fun h8 => ?_)
  · refine gs_X3_56 dX3_judgeLetter_22 rfl ?_
    exact v_aret dX3_judgeLetter_25 rfl ⟨(by unfold vdLetter; clear hgL hgS hRd hSd hLt hLe hSl; grind), rfl⟩ (by omega) (by omega)
  · refine v_aload_n dX3_judgeLetter_11 rfl rfl ?_
    refine gf_X3_12 dX3_judgeLetter_12 rfl hDk ?_
    refine v_iload_n dX3_judgeLetter_15 rfl rfl ?_
    refine k_X3_52 dX3_judgeLetter_16 rfl (c_hasStation htr hC0 t) hSt (Nat.le_of_ble_eq_true rfl) (by omega) (by omega) (Nat.le_of_ble_eq_true rfl) (fun r16 M9 h9 => ?_) (fun _ _ h9 => h9.elim)
    obtain ⟨rfl, e9⟩ := h9
    subst M9
    refine v_if_ne (tgt := 26) dX3_judgeLetter_19 (by decide) (fun h19 => ?_) (fun h19 => ?_)
    · refine v_iload_n dX3_judgeLetter_26 rfl rfl ?_
      refine v_iload_n dX3_judgeLetter_27 rfl rfl ?_
      refine v_icmp_eq (tgt := 67) dX3_judgeLetter_28 (by decide) (fun h28 => ?_) (fun h28 => ?_)
      · refine v_iconst (v := 0) dX3_judgeLetter_67 (by decide) ?_
        refine v_istore_6 dX3_judgeLetter_68 ?_
        refine v_iload dX3_judgeLetter_70 rfl ?_
        refine v_if_ne (tgt := 79) dX3_judgeLetter_72 (by decide) (fun h72 => ?_) (fun h72 => ?_)
        · refine v_aload_n dX3_judgeLetter_79 rfl rfl ?_
          refine gf_X3_12 dX3_judgeLetter_80 rfl hDk ?_
          refine gf_X3_92 dX3_judgeLetter_83 rfl hSt ?_
          refine v_bipush (v := (12)) dX3_judgeLetter_86 (by decide) ?_
          refine v_icmp_ge (tgt := 97) dX3_judgeLetter_88 (by decide) (fun h88 => ?_) (fun h88 => ?_)
          · refine gs_X3_49 dX3_judgeLetter_97 rfl ?_
            exact v_aret dX3_judgeLetter_100 rfl ⟨(by unfold vdLetter; clear hgL hgS hRd hSd hLt hLe hSl; grind), rfl⟩ (by omega) (by omega)
          · refine gs_X3_43 dX3_judgeLetter_91 rfl ?_
            refine v_goto (tgt := 100) dX3_judgeLetter_94 (by decide) ?_
            exact v_aret dX3_judgeLetter_100 rfl ⟨(by unfold vdLetter; clear hgL hgS hRd hSd hLt hLe hSl; grind), rfl⟩ (by omega) (by omega)
        · refine gs_X3_63 dX3_judgeLetter_75 rfl ?_
          exact v_aret dX3_judgeLetter_78 rfl ⟨(by unfold vdLetter; clear hgL hgS hRd hSd hLt hLe hSl; grind), rfl⟩ (by omega) (by omega)
      · refine v_iload_n dX3_judgeLetter_31 rfl rfl ?_
        refine v_iconst (v := 1) dX3_judgeLetter_32 (by decide) ?_
        refine v_bipush (v := (9)) dX3_judgeLetter_33 (by decide) ?_
        refine k_X3_59 dX3_judgeLetter_35 rfl (c_isBetween htr w 1 9) (Nat.le_of_ble_eq_true rfl) (by omega) (by omega) (Nat.le_of_ble_eq_true rfl) (fun r35 M9 h9 => ?_) (fun _ _ h9 => h9.elim)
        obtain ⟨rfl, e9⟩ := h9
        subst M9
        refine v_if_eq (tgt := 67) dX3_judgeLetter_38 (by decide) (fun h38 => ?_) (fun h38 => ?_)
        · refine v_iconst (v := 0) dX3_judgeLetter_67 (by decide) ?_
          refine v_istore_6 dX3_judgeLetter_68 ?_
          refine v_iload dX3_judgeLetter_70 rfl ?_
          refine v_if_ne (tgt := 79) dX3_judgeLetter_72 (by decide) (fun h72 => ?_) (fun h72 => ?_)
          · refine v_aload_n dX3_judgeLetter_79 rfl rfl ?_
            refine gf_X3_12 dX3_judgeLetter_80 rfl hDk ?_
            refine gf_X3_92 dX3_judgeLetter_83 rfl hSt ?_
            refine v_bipush (v := (12)) dX3_judgeLetter_86 (by decide) ?_
            refine v_icmp_ge (tgt := 97) dX3_judgeLetter_88 (by decide) (fun h88 => ?_) (fun h88 => ?_)
            · refine gs_X3_49 dX3_judgeLetter_97 rfl ?_
              exact v_aret dX3_judgeLetter_100 rfl ⟨(by unfold vdLetter; clear hgL hgS hRd hSd hLt hLe hSl; grind), rfl⟩ (by omega) (by omega)
            · refine gs_X3_43 dX3_judgeLetter_91 rfl ?_
              refine v_goto (tgt := 100) dX3_judgeLetter_94 (by decide) ?_
              exact v_aret dX3_judgeLetter_100 rfl ⟨(by unfold vdLetter; clear hgL hgS hRd hSd hLt hLe hSl; grind), rfl⟩ (by omega) (by omega)
          · refine gs_X3_63 dX3_judgeLetter_75 rfl ?_
            exact v_aret dX3_judgeLetter_78 rfl ⟨(by unfold vdLetter; clear hgL hgS hRd hSd hLt hLe hSl; grind), rfl⟩ (by omega) (by omega)
        · refine v_iload dX3_judgeLetter_41 rfl ?_
          refine v_iconst (v := 0) dX3_judgeLetter_43 (by decide) ?_
          refine v_bipush (v := (99)) dX3_judgeLetter_44 (by decide) ?_
          refine k_X3_59 dX3_judgeLetter_46 rfl (c_isBetween htr e 0 99) (Nat.le_of_ble_eq_true rfl) (by omega) (by omega) (Nat.le_of_ble_eq_true rfl) (fun r46 M9 h9 => ?_) (fun _ _ h9 => h9.elim)
          obtain ⟨rfl, e9⟩ := h9
          subst M9
          refine v_if_eq (tgt := 67) dX3_judgeLetter_49 (by decide) (fun h49 => ?_) (fun h49 => ?_)
          · refine v_iconst (v := 0) dX3_judgeLetter_67 (by decide) ?_
            refine v_istore_6 dX3_judgeLetter_68 ?_
            refine v_iload dX3_judgeLetter_70 rfl ?_
            refine v_if_ne (tgt := 79) dX3_judgeLetter_72 (by decide) (fun h72 => ?_) (fun h72 => ?_)
            · refine v_aload_n dX3_judgeLetter_79 rfl rfl ?_
              refine gf_X3_12 dX3_judgeLetter_80 rfl hDk ?_
              refine gf_X3_92 dX3_judgeLetter_83 rfl hSt ?_
              refine v_bipush (v := (12)) dX3_judgeLetter_86 (by decide) ?_
              refine v_icmp_ge (tgt := 97) dX3_judgeLetter_88 (by decide) (fun h88 => ?_) (fun h88 => ?_)
              · refine gs_X3_49 dX3_judgeLetter_97 rfl ?_
                exact v_aret dX3_judgeLetter_100 rfl ⟨(by unfold vdLetter; clear hgL hgS hRd hSd hLt hLe hSl; grind), rfl⟩ (by omega) (by omega)
              · refine gs_X3_43 dX3_judgeLetter_91 rfl ?_
                refine v_goto (tgt := 100) dX3_judgeLetter_94 (by decide) ?_
                exact v_aret dX3_judgeLetter_100 rfl ⟨(by unfold vdLetter; clear hgL hgS hRd hSd hLt hLe hSl; grind), rfl⟩ (by omega) (by omega)
            · refine gs_X3_63 dX3_judgeLetter_75 rfl ?_
              exact v_aret dX3_judgeLetter_78 rfl ⟨(by unfold vdLetter; clear hgL hgS hRd hSd hLt hLe hSl; grind), rfl⟩ (by omega) (by omega)
          · refine v_iload dX3_judgeLetter_52 rfl ?_
            refine v_iconst (v := 1) dX3_judgeLetter_54 (by decide) ?_
            refine v_bipush (v := (99)) dX3_judgeLetter_55 (by decide) ?_
            refine k_X3_59 dX3_judgeLetter_57 rfl (c_isBetween htr n 1 99) (Nat.le_of_ble_eq_true rfl) (by omega) (by omega) (Nat.le_of_ble_eq_true rfl) (fun r57 M9 h9 => ?_) (fun _ _ h9 => h9.elim)
            obtain ⟨rfl, e9⟩ := h9
            subst M9
            refine v_if_eq (tgt := 67) dX3_judgeLetter_60 (by decide) (fun h60 => ?_) (fun h60 => ?_)
            · refine v_iconst (v := 0) dX3_judgeLetter_67 (by decide) ?_
              refine v_istore_6 dX3_judgeLetter_68 ?_
              refine v_iload dX3_judgeLetter_70 rfl ?_
              refine v_if_ne (tgt := 79) dX3_judgeLetter_72 (by decide) (fun h72 => ?_) (fun h72 => ?_)
              · refine v_aload_n dX3_judgeLetter_79 rfl rfl ?_
                refine gf_X3_12 dX3_judgeLetter_80 rfl hDk ?_
                refine gf_X3_92 dX3_judgeLetter_83 rfl hSt ?_
                refine v_bipush (v := (12)) dX3_judgeLetter_86 (by decide) ?_
                refine v_icmp_ge (tgt := 97) dX3_judgeLetter_88 (by decide) (fun h88 => ?_) (fun h88 => ?_)
                · refine gs_X3_49 dX3_judgeLetter_97 rfl ?_
                  exact v_aret dX3_judgeLetter_100 rfl ⟨(by unfold vdLetter; clear hgL hgS hRd hSd hLt hLe hSl; grind), rfl⟩ (by omega) (by omega)
                · refine gs_X3_43 dX3_judgeLetter_91 rfl ?_
                  refine v_goto (tgt := 100) dX3_judgeLetter_94 (by decide) ?_
                  exact v_aret dX3_judgeLetter_100 rfl ⟨(by unfold vdLetter; clear hgL hgS hRd hSd hLt hLe hSl; grind), rfl⟩ (by omega) (by omega)
              · refine gs_X3_63 dX3_judgeLetter_75 rfl ?_
                exact v_aret dX3_judgeLetter_78 rfl ⟨(by unfold vdLetter; clear hgL hgS hRd hSd hLt hLe hSl; grind), rfl⟩ (by omega) (by omega)
            · refine v_iconst (v := 1) dX3_judgeLetter_63 (by decide) ?_
              refine v_goto (tgt := 68) dX3_judgeLetter_64 (by decide) ?_
              refine v_istore_6 dX3_judgeLetter_68 ?_
              refine v_iload dX3_judgeLetter_70 rfl ?_
              refine v_if_ne (tgt := 79) dX3_judgeLetter_72 (by decide) (fun h72 => ?_) (fun h72 => ?_)
              · refine v_aload_n dX3_judgeLetter_79 rfl rfl ?_
                refine gf_X3_12 dX3_judgeLetter_80 rfl hDk ?_
                refine gf_X3_92 dX3_judgeLetter_83 rfl hSt ?_
                refine v_bipush (v := (12)) dX3_judgeLetter_86 (by decide) ?_
                refine v_icmp_ge (tgt := 97) dX3_judgeLetter_88 (by decide) (fun h88 => ?_) (fun h88 => ?_)
                · refine gs_X3_49 dX3_judgeLetter_97 rfl ?_
                  exact v_aret dX3_judgeLetter_100 rfl ⟨(by unfold vdLetter; clear hgL hgS hRd hSd hLt hLe hSl; grind), rfl⟩ (by omega) (by omega)
                · refine gs_X3_43 dX3_judgeLetter_91 rfl ?_
                  refine v_goto (tgt := 100) dX3_judgeLetter_94 (by decide) ?_
                  exact v_aret dX3_judgeLetter_100 rfl ⟨(by unfold vdLetter; clear hgL hgS hRd hSd hLt hLe hSl; grind), rfl⟩ (by omega) (by omega)
              · refine gs_X3_63 dX3_judgeLetter_75 rfl ?_
                exact v_aret dX3_judgeLetter_78 rfl ⟨(by unfold vdLetter; clear hgL hgS hRd hSd hLt hLe hSl; grind), rfl⟩ (by omega) (by omega)
    · refine gs_X3_56 dX3_judgeLetter_22 rfl ?_
      exact v_aret dX3_judgeLetter_25 rfl ⟨(by unfold vdLetter; clear hgL hgS hRd hSd hLt hLe hSl; grind), rfl⟩ (by omega) (by omega)
theorem dX3_judgeDegrees_0 : decode cX3_judgeDegrees 0 = .ok (.iload_n 1, 1) := by decide +kernel
theorem dX3_judgeDegrees_1 : decode cX3_judgeDegrees 1 = .ok (.bipush (-30), 2) := by decide +kernel
theorem dX3_judgeDegrees_3 : decode cX3_judgeDegrees 3 = .ok (.bipush 10, 2) := by decide +kernel
theorem dX3_judgeDegrees_5 : decode cX3_judgeDegrees 5 = .ok (.invokestatic 59, 3) := by decide +kernel
theorem dX3_judgeDegrees_8 : decode cX3_judgeDegrees 8 = .ok (.ifCond .eq 9, 3) := by decide +kernel
theorem dX3_judgeDegrees_11 : decode cX3_judgeDegrees 11 = .ok (.getstatic 43, 3) := by decide +kernel
theorem dX3_judgeDegrees_14 : decode cX3_judgeDegrees 14 = .ok (.goto 6, 3) := by decide +kernel
theorem dX3_judgeDegrees_17 : decode cX3_judgeDegrees 17 = .ok (.getstatic 63, 3) := by decide +kernel
theorem dX3_judgeDegrees_20 : decode cX3_judgeDegrees 20 = .ok (.areturn, 1) := by decide +kernel
set_option maxRecDepth 100000 in
set_option maxHeartbeats 4000000 in
theorem c_judgeDegrees {l : Launch} {g : Nat → Nat} {M : LH} (htr : l.stackTraces = false) {kd : Nat → Nat} {r a : Nat} {ad : Nat → Nat} {sl le : Int32 → Nat} {fg tp : Int32} {F : Nat → Int32 → Int32} {σ : Int32 → Int32} (hC : StR kd r M a ad sl le fg tp F σ) {q : Nat → Nat} {D : Nat} (hK : Dk kd D r M a q) (n : Int32) : K_X3_judgeDegrees l g 1 0 0 [.ref (q 0), .int n] M (RA (fun v M9 => v = g (vdDeg n) ∧ M9 = M) nX) := by
  refine Ko_X3_judgeDegrees htr (fun X => ?_)
  have hC0 := hC
  have hK0 := hK
  obtain ⟨hSt, hRo, hSR, hLR, hSl, hLe, hkd, -, ⟨-, hRd, hSd, hLt⟩, hG⟩ := hC
  obtain ⟨hDk, hDs, ⟨f1, hB1⟩, ⟨f2, hB2⟩, hBl, ⟨f3, hB3⟩, hRt, ⟨f4, hB4⟩, hkD, hn34, hDr⟩ := hK
  have hG0 := hG
  obtain ⟨hg1, hg2, hg3, hg4, hg5, hg6, hg7, hg8, hgL, hgS, -⟩ := hG
  refine v_iload_n dX3_judgeDegrees_0 rfl rfl ?_
  refine v_bipush (v := (-30)) dX3_judgeDegrees_1 (by decide) ?_
  refine v_bipush (v := (10)) dX3_judgeDegrees_3 (by decide) ?_
  refine k_X3_59 dX3_judgeDegrees_5 rfl (c_isBetween htr n (-30) 10) (Nat.le_of_ble_eq_true rfl) (by omega) (by omega) (Nat.le_of_ble_eq_true rfl) (fun r5 M9 h9 => ?_) (fun _ _ h9 => h9.elim)
  obtain ⟨rfl, e9⟩ := h9
  subst M9
  refine v_if_eq (tgt := 17) dX3_judgeDegrees_8 (by decide) (fun h8 => ?_) (fun h8 => ?_)
  · refine gs_X3_63 dX3_judgeDegrees_17 rfl ?_
    exact v_aret dX3_judgeDegrees_20 rfl ⟨(by unfold vdDeg; clear hgL hgS hRd hSd hLt hLe hSl; grind), rfl⟩ (by omega) (by omega)
  · refine gs_X3_43 dX3_judgeDegrees_11 rfl ?_
    refine v_goto (tgt := 20) dX3_judgeDegrees_14 (by decide) ?_
    exact v_aret dX3_judgeDegrees_20 rfl ⟨(by unfold vdDeg; clear hgL hgS hRd hSd hLt hLe hSl; grind), rfl⟩ (by omega) (by omega)
theorem dX3_judgeHours_0 : decode cX3_judgeHours 0 = .ok (.iload_n 1, 1) := by decide +kernel
theorem dX3_judgeHours_1 : decode cX3_judgeHours 1 = .ok (.iconst 1, 1) := by decide +kernel
theorem dX3_judgeHours_2 : decode cX3_judgeHours 2 = .ok (.bipush 48, 2) := by decide +kernel
theorem dX3_judgeHours_4 : decode cX3_judgeHours 4 = .ok (.invokestatic 59, 3) := by decide +kernel
theorem dX3_judgeHours_7 : decode cX3_judgeHours 7 = .ok (.ifCond .eq 9, 3) := by decide +kernel
theorem dX3_judgeHours_10 : decode cX3_judgeHours 10 = .ok (.getstatic 43, 3) := by decide +kernel
theorem dX3_judgeHours_13 : decode cX3_judgeHours 13 = .ok (.goto 6, 3) := by decide +kernel
theorem dX3_judgeHours_16 : decode cX3_judgeHours 16 = .ok (.getstatic 63, 3) := by decide +kernel
theorem dX3_judgeHours_19 : decode cX3_judgeHours 19 = .ok (.areturn, 1) := by decide +kernel
set_option maxRecDepth 100000 in
set_option maxHeartbeats 4000000 in
theorem c_judgeHours {l : Launch} {g : Nat → Nat} {M : LH} (htr : l.stackTraces = false) {kd : Nat → Nat} {r a : Nat} {ad : Nat → Nat} {sl le : Int32 → Nat} {fg tp : Int32} {F : Nat → Int32 → Int32} {σ : Int32 → Int32} (hC : StR kd r M a ad sl le fg tp F σ) {q : Nat → Nat} {D : Nat} (hK : Dk kd D r M a q) (n : Int32) : K_X3_judgeHours l g 1 0 0 [.ref (q 0), .int n] M (RA (fun v M9 => v = g (vdHrs n) ∧ M9 = M) nX) := by
  refine Ko_X3_judgeHours htr (fun X => ?_)
  have hC0 := hC
  have hK0 := hK
  obtain ⟨hSt, hRo, hSR, hLR, hSl, hLe, hkd, -, ⟨-, hRd, hSd, hLt⟩, hG⟩ := hC
  obtain ⟨hDk, hDs, ⟨f1, hB1⟩, ⟨f2, hB2⟩, hBl, ⟨f3, hB3⟩, hRt, ⟨f4, hB4⟩, hkD, hn34, hDr⟩ := hK
  have hG0 := hG
  obtain ⟨hg1, hg2, hg3, hg4, hg5, hg6, hg7, hg8, hgL, hgS, -⟩ := hG
  refine v_iload_n dX3_judgeHours_0 rfl rfl ?_
  refine v_iconst (v := 1) dX3_judgeHours_1 (by decide) ?_
  refine v_bipush (v := (48)) dX3_judgeHours_2 (by decide) ?_
  refine k_X3_59 dX3_judgeHours_4 rfl (c_isBetween htr n 1 48) (Nat.le_of_ble_eq_true rfl) (by omega) (by omega) (Nat.le_of_ble_eq_true rfl) (fun r4 M9 h9 => ?_) (fun _ _ h9 => h9.elim)
  obtain ⟨rfl, e9⟩ := h9
  subst M9
  refine v_if_eq (tgt := 16) dX3_judgeHours_7 (by decide) (fun h7 => ?_) (fun h7 => ?_)
  · refine gs_X3_63 dX3_judgeHours_16 rfl ?_
    exact v_aret dX3_judgeHours_19 rfl ⟨(by unfold vdHrs; clear hgL hgS hRd hSd hLt hLe hSl; grind), rfl⟩ (by omega) (by omega)
  · refine gs_X3_43 dX3_judgeHours_10 rfl ?_
    refine v_goto (tgt := 19) dX3_judgeHours_13 (by decide) ?_
    exact v_aret dX3_judgeHours_19 rfl ⟨(by unfold vdHrs; clear hgL hgS hRd hSd hLt hLe hSl; grind), rfl⟩ (by omega) (by omega)
theorem dX3_judgeBest_0 : decode cX3_judgeBest 0 = .ok (.aload_n 0, 1) := by decide +kernel
theorem dX3_judgeBest_1 : decode cX3_judgeBest 1 = .ok (.getfield 12, 3) := by decide +kernel
theorem dX3_judgeBest_4 : decode cX3_judgeBest 4 = .ok (.iload_n 1, 1) := by decide +kernel
theorem dX3_judgeBest_5 : decode cX3_judgeBest 5 = .ok (.invokevirtual 126, 3) := by decide +kernel
theorem dX3_judgeBest_8 : decode cX3_judgeBest 8 = .ok (.ifCond .ne 7, 3) := by decide +kernel
theorem dX3_judgeBest_11 : decode cX3_judgeBest 11 = .ok (.getstatic 56, 3) := by decide +kernel
theorem dX3_judgeBest_14 : decode cX3_judgeBest 14 = .ok (.areturn, 1) := by decide +kernel
theorem dX3_judgeBest_15 : decode cX3_judgeBest 15 = .ok (.aload_n 0, 1) := by decide +kernel
theorem dX3_judgeBest_16 : decode cX3_judgeBest 16 = .ok (.getfield 12, 3) := by decide +kernel
theorem dX3_judgeBest_19 : decode cX3_judgeBest 19 = .ok (.getfield 77, 3) := by decide +kernel
theorem dX3_judgeBest_22 : decode cX3_judgeBest 22 = .ok (.iload_n 1, 1) := by decide +kernel
theorem dX3_judgeBest_23 : decode cX3_judgeBest 23 = .ok (.aaload, 1) := by decide +kernel
theorem dX3_judgeBest_24 : decode cX3_judgeBest 24 = .ok (.invokevirtual 136, 3) := by decide +kernel
theorem dX3_judgeBest_27 : decode cX3_judgeBest 27 = .ok (.ifCond .eq 9, 3) := by decide +kernel
theorem dX3_judgeBest_30 : decode cX3_judgeBest 30 = .ok (.getstatic 49, 3) := by decide +kernel
theorem dX3_judgeBest_33 : decode cX3_judgeBest 33 = .ok (.goto 6, 3) := by decide +kernel
theorem dX3_judgeBest_36 : decode cX3_judgeBest 36 = .ok (.getstatic 43, 3) := by decide +kernel
theorem dX3_judgeBest_39 : decode cX3_judgeBest 39 = .ok (.areturn, 1) := by decide +kernel
set_option maxRecDepth 100000 in
set_option maxHeartbeats 4000000 in
theorem c_judgeBest {l : Launch} {g : Nat → Nat} {M : LH} (htr : l.stackTraces = false) {kd : Nat → Nat} {r a : Nat} {ad : Nat → Nat} {sl le : Int32 → Nat} {fg tp : Int32} {F : Nat → Int32 → Int32} {σ : Int32 → Int32} (hC : StR kd r M a ad sl le fg tp F σ) {q : Nat → Nat} {D : Nat} (hK : Dk kd D r M a q) (k : Int32) : K_X3_judgeBest l g 1 0 0 [.ref (q 0), .int k] M (RA (fun v M9 => v = g (vdBest σ k) ∧ M9 = M) nX) := by
  refine Ko_X3_judgeBest htr (fun X => ?_)
  have hC0 := hC
  have hK0 := hK
  obtain ⟨hSt, hRo, hSR, hLR, hSl, hLe, hkd, -, ⟨-, hRd, hSd, hLt⟩, hG⟩ := hC
  obtain ⟨hDk, hDs, ⟨f1, hB1⟩, ⟨f2, hB2⟩, hBl, ⟨f3, hB3⟩, hRt, ⟨f4, hB4⟩, hkD, hn34, hDr⟩ := hK
  have hG0 := hG
  obtain ⟨hg1, hg2, hg3, hg4, hg5, hg6, hg7, hg8, hgL, hgS, -⟩ := hG
  refine v_aload_n dX3_judgeBest_0 rfl rfl ?_
  refine gf_X3_12 dX3_judgeBest_1 rfl hDk ?_
  refine v_iload_n dX3_judgeBest_4 rfl rfl ?_
  refine k_X3_126 dX3_judgeBest_5 rfl (c_hasSledge htr hC0 k) hSt (Nat.le_of_ble_eq_true rfl) (by omega) (by omega) (Nat.le_of_ble_eq_true rfl) (fun r5 M9 h9 => ?_) (fun _ _ h9 => h9.elim)
  obtain ⟨rfl, e9⟩ := h9
  subst M9
  refine v_if_ne (tgt := 15) dX3_judgeBest_8 (by decide) (fun h8 => ?_) (fun h8 => ?_)
  · have hw9 := b_t h8
    obtain ⟨p0, p1, p2⟩ := hSd k hw9.1 hw9.2
    refine v_aload_n dX3_judgeBest_15 rfl rfl ?_
    refine gf_X3_12 dX3_judgeBest_16 rfl hDk ?_
    refine gf_X3_77 dX3_judgeBest_19 rfl hSt ?_
    refine v_iload_n dX3_judgeBest_22 rfl rfl ?_
    refine v_aald1 dX3_judgeBest_23 hSR hw9.1 (by lia) rfl ?_
    refine k_X3_136 dX3_judgeBest_24 rfl (c_travels htr (hSl k hw9.1 (by lia))) (hSl k hw9.1 (by lia)) (Nat.le_of_ble_eq_true rfl) (by omega) (by omega) (Nat.le_of_ble_eq_true rfl) (fun r24 M9 h9 => ?_) (fun _ _ h9 => h9.elim)
    obtain ⟨rfl, e9⟩ := h9
    subst M9
    refine v_if_eq (tgt := 36) dX3_judgeBest_27 (by decide) (fun h27 => ?_) (fun h27 => ?_)
    · refine gs_X3_43 dX3_judgeBest_36 rfl ?_
      exact v_aret dX3_judgeBest_39 rfl ⟨(by unfold vdBest; clear hgL hgS hRd hSd hLt hLe hSl; grind), rfl⟩ (by omega) (by omega)
    · refine gs_X3_49 dX3_judgeBest_30 rfl ?_
      refine v_goto (tgt := 39) dX3_judgeBest_33 (by decide) ?_
      exact v_aret dX3_judgeBest_39 rfl ⟨(by unfold vdBest; clear hgL hgS hRd hSd hLt hLe hSl; grind), rfl⟩ (by omega) (by omega)
  · refine gs_X3_56 dX3_judgeBest_11 rfl ?_
    exact v_aret dX3_judgeBest_14 rfl ⟨(by unfold vdBest; clear hgL hgS hRd hSd hLt hLe hSl; grind), rfl⟩ (by omega) (by omega)
