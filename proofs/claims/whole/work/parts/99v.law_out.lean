/-! ===== the law: the output read ===== -/
theorem Pg.sg {kd : Nat → Nat} {p : Nat} {q a : Nat → Nat} {e8 : Int32 → Nat} {v : Int32 → Int32} {sv : Int32} {sa : Int32 → Int32} {ch : Int32} {pa tx : Int32 → Int32} {tn : Int32} {Ls : List Int32} {ea fl : Int32} {M : LH} (h : Pg kd M p q a e8 v sv sa ch pa tx tn Ls ea fl) : ∀ j, j < Ls.length → 0 ≤ Ls.getD j 0 ∧ Ls.getD j 0 < 128 := by
  obtain ⟨h1, o1, ⟨-, -, -, -, -, -, -, -, -, hRO⟩, -⟩ := h
  obtain ⟨_, _, _, _, _, _, _, _, co, -, -, -, -, ⟨co3, ⟨fo, hSb, hTl⟩, co4⟩, -⟩ := hRO
  obtain ⟨cb1, -⟩ := cpc_b co co3
  intro j hj
  have z := hTl j hj
  rw [← z]
  exact hSb.2.2.2.2.2 (nI j) (nI_pos' (by omega)) (nI_lt (by omega) (by omega))
theorem dL_law_2973 : decode cL_law 2973 = .ok (.aload_n 1, 1) := by decide +kernel
theorem dL_law_2974 : decode cL_law 2974 = .ok (.aload_n 0, 1) := by decide +kernel
theorem dL_law_2975 : decode cL_law 2975 = .ok (.iload 5, 2) := by decide +kernel
theorem dL_law_2977 : decode cL_law 2977 = .ok (.iconst 1, 1) := by decide +kernel
theorem dL_law_2978 : decode cL_law 2978 = .ok (.iadd, 1) := by decide +kernel
theorem dL_law_2979 : decode cL_law 2979 = .ok (.iaload, 1) := by decide +kernel
theorem dL_law_2980 : decode cL_law 2980 = .ok (.aload_n 3, 1) := by decide +kernel
theorem dL_law_2981 : decode cL_law 2981 = .ok (.invokestatic 357, 3) := by decide +kernel
theorem dL_law_2984 : decode cL_law 2984 = .ok (.istore 6, 2) := by decide +kernel
theorem dL_law_2986 : decode cL_law 2986 = .ok (.aload_n 2, 1) := by decide +kernel
theorem dL_law_2987 : decode cL_law 2987 = .ok (.aload_n 0, 1) := by decide +kernel
theorem dL_law_2988 : decode cL_law 2988 = .ok (.iload 5, 2) := by decide +kernel
theorem dL_law_2990 : decode cL_law 2990 = .ok (.iconst 1, 1) := by decide +kernel
theorem dL_law_2991 : decode cL_law 2991 = .ok (.iadd, 1) := by decide +kernel
theorem dL_law_2992 : decode cL_law 2992 = .ok (.iaload, 1) := by decide +kernel
theorem dL_law_2993 : decode cL_law 2993 = .ok (.invokevirtual 359, 3) := by decide +kernel
theorem dL_law_2996 : decode cL_law 2996 = .ok (.istore 7, 2) := by decide +kernel
theorem dL_law_2998 : decode cL_law 2998 = .ok (.aload_n 2, 1) := by decide +kernel
theorem dL_law_2999 : decode cL_law 2999 = .ok (.invokevirtual 189, 3) := by decide +kernel
theorem dL_law_3002 : decode cL_law 3002 = .ok (.iload 6, 2) := by decide +kernel
theorem dL_law_3004 : decode cL_law 3004 = .ok (.if_icmp .eq 5, 3) := by decide +kernel
theorem dL_law_3007 : decode cL_law 3007 = .ok (.iconst 0, 1) := by decide +kernel
theorem dL_law_3008 : decode cL_law 3008 = .ok (.ireturn, 1) := by decide +kernel
theorem dL_law_3009 : decode cL_law 3009 = .ok (.iload 6, 2) := by decide +kernel
theorem dL_law_3011 : decode cL_law 3011 = .ok (.ifCond .ne 15, 3) := by decide +kernel
theorem dL_law_3014 : decode cL_law 3014 = .ok (.aload_n 3, 1) := by decide +kernel
theorem dL_law_3015 : decode cL_law 3015 = .ok (.iconst 0, 1) := by decide +kernel
theorem dL_law_3016 : decode cL_law 3016 = .ok (.laload, 1) := by decide +kernel
theorem dL_law_3017 : decode cL_law 3017 = .ok (.iload 7, 2) := by decide +kernel
theorem dL_law_3019 : decode cL_law 3019 = .ok (.i2l, 1) := by decide +kernel
theorem dL_law_3020 : decode cL_law 3020 = .ok (.lcmp, 1) := by decide +kernel
theorem dL_law_3021 : decode cL_law 3021 = .ok (.ifCond .eq 5, 3) := by decide +kernel
theorem dL_law_3024 : decode cL_law 3024 = .ok (.iconst 0, 1) := by decide +kernel
theorem dL_law_3025 : decode cL_law 3025 = .ok (.ireturn, 1) := by decide +kernel
theorem dL_law_3026 : decode cL_law 3026 = .ok (.goto 294, 3) := by decide +kernel
set_option maxRecDepth 100000 in
set_option maxHeartbeats 4000000 in
theorem law_51 {l : Launch} {g : Nat → Nat} {nm ds : String} {tb : List ExceptionTableEntry} {L mc ms : Nat} {Po : Res → LH → Prop} {X : CX} {M : LH} {k0 n0 : Nat} (htr : l.stackTraces = false) {b SN : Nat} {xs : Nat → Int32} (hX : Sc b SN xs X) {kd : Nat → Nat} {p : Nat} {q a : Nat → Nat} {e8 : Int32 → Nat} {v : Int32 → Int32} {sv : Int32} {sa : Int32 → Int32} {ch : Int32} {pa tx : Int32 → Int32} {tn : Int32} {Ls : List Int32} {ea fl : Int32} {m : Nat} {w : Nat → Nat} {t bf he en wr dg : Int32} {b4 fr th bs li lf to : Int32 → Int32} {out outD : Nat} {N : Nat} (hP : Pg kd M p q a e8 v sv sa ch pa tx tn Ls ea fl) (hM : Md kd 30 M m w t ch ea fl sv bf tn he en (nI Ls.length) wr dg v b4 sa pa fr th bs tx li lf to) (hS : Lw N v sv sa ch pa tn Ls ea fl li) (hN : N ≤ 512) {h0 : Nat → Int64} (hO : M out = some (la 1 h0)) (ko : kd out = 31) {h2 : Nat → UInt64} (hO2 : M outD = some (da 1 h2)) (ko2 : kd outD = 31) {i : Int32} (hi : ∀ j : Int32, 1 ≤ j → j ≤ 5 → 0 ≤ i + j ∧ (i + j).toNatClampNeg < SN) (hL : 30 ≤ L) (hk : k0 + 8 ≤ mc) (hn : n0 + 600 ≤ ms) {z6 z7 z8 : Option Value} (kk : ∀ (M' : LH) (z6 z7 z8 : Option Value), LI p m out outD (N + 1) M' → V l g ⟨"SledgePostLaw", nm, ds⟩ cL_law (some .boolean) tb L mc ms Po X M' (k0 + 8) (n0 + 600) 3320 [some (.ref b), some (.ref p), some (.ref m), some (.ref out), some (.ref outD), some (.int i), z6, z7, z8] []) : V l g ⟨"SledgePostLaw", nm, ds⟩ cL_law (some .boolean) tb L mc ms Po X M k0 n0 2973 [some (.ref b), some (.ref p), some (.ref m), some (.ref out), some (.ref outD), some (.int i), z6, z7, z8] [] := by
  obtain ⟨hG, hSy, hv4⟩ := hS.1
  obtain ⟨-, -, -, -, ⟨tn0, tn60⟩, ⟨ea1, fl1⟩, ⟨hTl, hLs⟩, c0, c8⟩ := _root_.id hS
  obtain ⟨h461, h46⟩ := hS.1.r hN
  obtain ⟨hs0, old0, ⟨hpO, -⟩, -⟩ := _root_.id hP
  refine v_aload_n dL_law_2973 rfl rfl ?_
  refine v_aload_n dL_law_2974 rfl rfl ?_
  refine v_iload dL_law_2975 rfl ?_
  refine v_iconst (v := 1) dL_law_2977 (by decide) ?_
  refine v_iadd dL_law_2978 ?_
  refine v_sld hX dL_law_2979 (hi 1 (by decide) (by decide)).1 (hi 1 (by decide) (by decide)).2 ?_
  refine v_aload_n dL_law_2980 rfl rfl ?_
  refine kl_357 dL_law_2981 rfl (w_L_outputAt htr (f_outputAt htr hP (xs (i + 1).toNatClampNeg)) hpO (fun r M9 h9 => ⟨_, (h9.2.2.2 out (by rw [ko]; decide)).trans hO⟩) (fun E M9 h9 => h9.2.1)) (by omega) (by omega) (by omega) (Nat.le_of_ble_eq_true rfl) (fun r9 M9 h9 => ?_) (fun _ _ h9 => h9.elim)
  rcases h9 with ⟨rfl, r, M8, h8, ⟨hc, rfl, hP8, hF8⟩, hh, rfl⟩ | ⟨E, ⟨hc, hE0, hP8, hF8⟩, hE⟩
  · skip
    have f31 : Fs kd (fun r => r = 31) M8 (hup M8 out (la 1 h8)) := fun x hx => hup_n (fun z => hx (by rw [z]; exact ko))
    have hP9 := hP8.fs f31 (fun r h => by omega)
    have hM9 := (hM.tp (hF8.t 30 (Nat.le_refl _))).tp (f31.tp (by decide))
    have hO9 := up_k (e' := la 1 h8) ((hF8 outD (by rw [ko2]; decide)).trans hO2) ((hF8 out (by rw [ko]; decide)).trans hO) da_la
    refine v_istore_6 dL_law_2984 ?_
    refine v_aload_n dL_law_2986 rfl rfl ?_
    refine v_aload_n dL_law_2987 rfl rfl ?_
    refine v_iload dL_law_2988 rfl ?_
    refine v_iconst (v := 1) dL_law_2990 (by decide) ?_
    refine v_iadd dL_law_2991 ?_
    refine v_sld hX dL_law_2992 (hi 1 (by decide) (by decide)).1 (hi 1 (by decide) (by decide)).2 ?_
    refine k_L_359 dL_law_2993 rfl (r_outputAt htr hM9 hTl rfl hLs (Pg.sg hP) (xs (i + 1).toNatClampNeg)) hM9.1 (by omega) (by omega) (by omega) (Nat.le_of_ble_eq_true rfl) (fun r2993 M9 h9 => ?_) (fun _ _ h9 => h9.elim)
    obtain ⟨h9, hF9⟩ := h9
    rcases h9 with ⟨-, rfl, hC⟩ | ⟨hn, -⟩
    rotate_left
    · exact absurd hc hn
    have hOA := LR1 (kd := kd) hup_s ko hF9
    have hOD := LR1 hO9 ko2 hF9
    refine v_istore_7 dL_law_2996 ?_
    refine v_aload_n dL_law_2998 rfl rfl ?_
    refine k_L_189 dL_law_2999 rfl (r_thrown htr hC) hC.1 (by omega) (by omega) (by omega) (Nat.le_of_ble_eq_true rfl) (fun r2999 M9 h9 => ?_) (fun _ _ h9 => h9.elim)
    obtain ⟨rfl, e9⟩ := h9
    subst M9
    refine v_iload dL_law_3002 rfl ?_
    refine v_icmp_eq (tgt := 3009) dL_law_3004 (by decide) (fun h3004 => ?_) (fun h3004 => ?_)
    · refine v_iload dL_law_3009 rfl ?_
      refine v_if_ne (tgt := 3026) dL_law_3011 (by decide) (fun h3011 => ?_) (fun h3011 => ?_)
      · exact absurd rfl h3011
      · refine v_aload_n dL_law_3014 rfl rfl ?_
        refine v_iconst (v := 0) dL_law_3015 (by decide) ?_
        refine v_lald dL_law_3016 hOA ?_
        refine v_iload dL_law_3017 rfl ?_
        refine v_i2l dL_law_3019 ?_
        refine v_lcmp dL_law_3020 ?_
        rw [hh, lg_self]
        refine v_if_eq (tgt := 3026) dL_law_3021 (by decide) (fun h3021 => ?_) (fun h3021 => ?_)
        · refine v_goto (tgt := 3320) dL_law_3026 (by decide) ?_
          refine V.wid (k' := k0 + 8) (n' := n0 + 600) (by omega) (by omega) (kk _ _ _ _ ?_)
          exact ⟨kd, q, a, e8, v, _, sa, _, pa, tx, tn, Ls, _, _, w, _, _, _, _, _, _, _, _, _, _, _, _, _, (hP9.fs (Frm.fs (S := fun r => r = 30) hF9 rfl) (fun r h => by omega)), hC, hS.up, ⟨⟨_, hOA⟩, ko⟩, ⟨_, hOD⟩, ko2⟩
        · exact absurd rfl h3021
    · exact absurd rfl h3004
  · skip
    have hM9 := hM.tp (hF8.t 30 (Nat.le_refl _))
    have hO8 := (hF8 out (by rw [ko]; decide)).trans hO
    have hO9 := (hF8 outD (by rw [ko2]; decide)).trans hO2
    obtain ⟨-, rfl⟩ := hE
    refine v_istore_6 dL_law_2984 ?_
    refine v_aload_n dL_law_2986 rfl rfl ?_
    refine v_aload_n dL_law_2987 rfl rfl ?_
    refine v_iload dL_law_2988 rfl ?_
    refine v_iconst (v := 1) dL_law_2990 (by decide) ?_
    refine v_iadd dL_law_2991 ?_
    refine v_sld hX dL_law_2992 (hi 1 (by decide) (by decide)).1 (hi 1 (by decide) (by decide)).2 ?_
    refine k_L_359 dL_law_2993 rfl (r_outputAt htr hM9 hTl rfl hLs (Pg.sg hP) (xs (i + 1).toNatClampNeg)) hM9.1 (by omega) (by omega) (by omega) (Nat.le_of_ble_eq_true rfl) (fun r2993 M9 h9 => ?_) (fun _ _ h9 => h9.elim)
    obtain ⟨h9, hF9⟩ := h9
    rcases h9 with ⟨hn, -⟩ | ⟨-, rfl, hC⟩
    · exact absurd hn hc
    have hOA := LR1 hO8 ko hF9
    have hOD := LR1 hO9 ko2 hF9
    refine v_istore_7 dL_law_2996 ?_
    refine v_aload_n dL_law_2998 rfl rfl ?_
    refine k_L_189 dL_law_2999 rfl (r_thrown htr hC) hC.1 (by omega) (by omega) (by omega) (Nat.le_of_ble_eq_true rfl) (fun r2999 M9 h9 => ?_) (fun _ _ h9 => h9.elim)
    obtain ⟨rfl, e9⟩ := h9
    subst M9
    refine v_iload dL_law_3002 rfl ?_
    refine v_icmp_eq (tgt := 3009) dL_law_3004 (by decide) (fun h3004 => ?_) (fun h3004 => ?_)
    · refine v_iload dL_law_3009 rfl ?_
      refine v_if_ne (tgt := 3026) dL_law_3011 (by decide) (fun h3011 => ?_) (fun h3011 => ?_)
      · refine v_goto (tgt := 3320) dL_law_3026 (by decide) ?_
        refine V.wid (k' := k0 + 8) (n' := n0 + 600) (by omega) (by omega) (kk _ _ _ _ ?_)
        exact ⟨kd, q, a, e8, v, _, sa, _, pa, tx, tn, Ls, _, _, w, _, _, _, _, _, _, _, _, _, _, _, _, _, (hP8.fs (Frm.fs (S := fun r => r = 30) hF9 rfl) (fun r h => by omega)), hC, hS.up, ⟨⟨_, hOA⟩, ko⟩, ⟨_, hOD⟩, ko2⟩
      · exact absurd h3011 (by decide)
    · exact absurd rfl h3004
