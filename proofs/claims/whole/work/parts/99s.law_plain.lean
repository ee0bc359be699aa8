/-! ===== the law: questions that never fail, the snapshot ===== -/
theorem Pg.sa {kd : Nat → Nat} {p : Nat} {q a : Nat → Nat} {e8 : Int32 → Nat} {v : Int32 → Int32} {sv : Int32} {sa : Int32 → Int32} {ch : Int32} {pa tx : Int32 → Int32} {tn : Int32} {Ls : List Int32} {ea fl : Int32} {M : LH} {s2 : Int32 → Int32} (h : Pg kd M p q a e8 v sv sa ch pa tx tn Ls ea fl) (e : Ag sa s2) : Pg kd M p q a e8 v sv s2 ch pa tx tn Ls ea fl := by
  obtain ⟨h1, o1, b, r1, r2, r3, r4⟩ := h
  exact ⟨h1, o1, b, r1, r2, fun z => (r3 z).ext e, r4⟩
theorem ag_cpF {G F : Int32 → Int32} : Ag G (cpF G F) := fun j j0 j1 => (cpF_in j0 j1).symm
theorem dL_law_964 : decode cL_law 964 = .ok (.aload_n 1, 1) := by decide +kernel
theorem dL_law_965 : decode cL_law 965 = .ok (.invokevirtual 223, 3) := by decide +kernel
theorem dL_law_968 : decode cL_law 968 = .ok (.aload_n 2, 1) := by decide +kernel
theorem dL_law_969 : decode cL_law 969 = .ok (.invokevirtual 226, 3) := by decide +kernel
theorem dL_law_972 : decode cL_law 972 = .ok (.if_icmp .eq 2348, 3) := by decide +kernel
theorem dL_law_975 : decode cL_law 975 = .ok (.iconst 0, 1) := by decide +kernel
theorem dL_law_976 : decode cL_law 976 = .ok (.ireturn, 1) := by decide +kernel
set_option maxRecDepth 100000 in
set_option maxHeartbeats 4000000 in
theorem law_10 {l : Launch} {g : Nat → Nat} {nm ds : String} {tb : List ExceptionTableEntry} {L mc ms : Nat} {Po : Res → LH → Prop} {X : CX} {M : LH} {k0 n0 : Nat} (htr : l.stackTraces = false) {b SN : Nat} {xs : Nat → Int32} (hX : Sc b SN xs X) {kd : Nat → Nat} {p : Nat} {q a : Nat → Nat} {e8 : Int32 → Nat} {v : Int32 → Int32} {sv : Int32} {sa : Int32 → Int32} {ch : Int32} {pa tx : Int32 → Int32} {tn : Int32} {Ls : List Int32} {ea fl : Int32} {m : Nat} {w : Nat → Nat} {t bf he en wr dg : Int32} {b4 fr th bs li lf to : Int32 → Int32} {out outD : Nat} {N : Nat} (hP : Pg kd M p q a e8 v sv sa ch pa tx tn Ls ea fl) (hM : Md kd 30 M m w t ch ea fl sv bf tn he en (nI Ls.length) wr dg v b4 sa pa fr th bs tx li lf to) (hS : Lw N v sv sa ch pa tn Ls ea fl li) (hN : N ≤ 512) {h0 : Nat → Int64} (hO : M out = some (la 1 h0)) (ko : kd out = 31) {h2 : Nat → UInt64} (hO2 : M outD = some (da 1 h2)) (ko2 : kd outD = 31) {i : Int32} (hi : ∀ j : Int32, 1 ≤ j → j ≤ 5 → 0 ≤ i + j ∧ (i + j).toNatClampNeg < SN) (hL : 30 ≤ L) (hk : k0 + 8 ≤ mc) (hn : n0 + 600 ≤ ms) {z6 z7 z8 : Option Value} (kk : ∀ (M' : LH) (z6 z7 z8 : Option Value), LI p m out outD (N + 1) M' → V l g ⟨"SledgePostLaw", nm, ds⟩ cL_law (some .boolean) tb L mc ms Po X M' (k0 + 8) (n0 + 600) 3320 [some (.ref b), some (.ref p), some (.ref m), some (.ref out), some (.ref outD), some (.int i), z6, z7, z8] []) : V l g ⟨"SledgePostLaw", nm, ds⟩ cL_law (some .boolean) tb L mc ms Po X M k0 n0 964 [some (.ref b), some (.ref p), some (.ref m), some (.ref out), some (.ref outD), some (.int i), z6, z7, z8] [] := by
  obtain ⟨hG, hSy, hv4⟩ := hS.1
  obtain ⟨-, -, -, -, ⟨tn0, tn60⟩, ⟨ea1, fl1⟩, ⟨hTl, hLs⟩, c0, c8⟩ := _root_.id hS
  obtain ⟨h461, h46⟩ := hS.1.r hN
  obtain ⟨hs0, old0, ⟨hpO, -⟩, -⟩ := _root_.id hP
  refine v_aload_n dL_law_964 rfl rfl ?_
  refine k_L_223 dL_law_965 rfl (f_stationCount htr hP) hpO (by omega) (by omega) (by omega) (Nat.le_of_ble_eq_true rfl) (fun r965 M9 h9 => ?_) (fun _ _ h9 => h9.elim)
  obtain ⟨rfl, hP8, hF8⟩ := h9
  have hM9 := hM.tp (hF8.t 30 (Nat.le_refl _))
  have hO8 := (hF8 out (by rw [ko]; decide)).trans hO
  have hO9 := (hF8 outD (by rw [ko2]; decide)).trans hO2
  refine v_aload_n dL_law_968 rfl rfl ?_
  refine k_L_226 dL_law_969 rfl (r_stationCount htr hM9 hG) hM9.1 (by omega) (by omega) (by omega) (Nat.le_of_ble_eq_true rfl) (fun r969 M9 h9 => ?_) (fun _ _ h9 => h9.elim)
  obtain ⟨rfl, hC, hF9⟩ := h9
  refine v_icmp_eq (tgt := 3320) dL_law_972 (by decide) (fun h972 => ?_) (fun h972 => ?_)
  · refine V.wid (k' := k0 + 8) (n' := n0 + 600) (by omega) (by omega) (kk _ _ _ _ ?_)
    exact ⟨kd, q, a, e8, v, sv, sa, ch, pa, tx, tn, Ls, ea, fl, w, _, _, _, _, _, _, _, _, _, _, _, _, _, hP8.fs (Frm.fs (S := fun r => r = 30) hF9 rfl) (fun r h => by omega), hC, hS.up, ⟨⟨_, LR1 hO8 ko hF9⟩, ko⟩, ⟨_, LR1 hO9 ko2 hF9⟩, ko2⟩
  · exact absurd rfl h972
theorem dL_law_1312 : decode cL_law 1312 = .ok (.aload_n 1, 1) := by decide +kernel
theorem dL_law_1313 : decode cL_law 1313 = .ok (.invokevirtual 242, 3) := by decide +kernel
theorem dL_law_1316 : decode cL_law 1316 = .ok (.aload_n 2, 1) := by decide +kernel
theorem dL_law_1317 : decode cL_law 1317 = .ok (.invokevirtual 245, 3) := by decide +kernel
theorem dL_law_1320 : decode cL_law 1320 = .ok (.if_icmp .eq 2000, 3) := by decide +kernel
theorem dL_law_1323 : decode cL_law 1323 = .ok (.iconst 0, 1) := by decide +kernel
theorem dL_law_1324 : decode cL_law 1324 = .ok (.ireturn, 1) := by decide +kernel
set_option maxRecDepth 100000 in
set_option maxHeartbeats 4000000 in
theorem law_16 {l : Launch} {g : Nat → Nat} {nm ds : String} {tb : List ExceptionTableEntry} {L mc ms : Nat} {Po : Res → LH → Prop} {X : CX} {M : LH} {k0 n0 : Nat} (htr : l.stackTraces = false) {b SN : Nat} {xs : Nat → Int32} (hX : Sc b SN xs X) {kd : Nat → Nat} {p : Nat} {q a : Nat → Nat} {e8 : Int32 → Nat} {v : Int32 → Int32} {sv : Int32} {sa : Int32 → Int32} {ch : Int32} {pa tx : Int32 → Int32} {tn : Int32} {Ls : List Int32} {ea fl : Int32} {m : Nat} {w : Nat → Nat} {t bf he en wr dg : Int32} {b4 fr th bs li lf to : Int32 → Int32} {out outD : Nat} {N : Nat} (hP : Pg kd M p q a e8 v sv sa ch pa tx tn Ls ea fl) (hM : Md kd 30 M m w t ch ea fl sv bf tn he en (nI Ls.length) wr dg v b4 sa pa fr th bs tx li lf to) (hS : Lw N v sv sa ch pa tn Ls ea fl li) (hN : N ≤ 512) {h0 : Nat → Int64} (hO : M out = some (la 1 h0)) (ko : kd out = 31) {h2 : Nat → UInt64} (hO2 : M outD = some (da 1 h2)) (ko2 : kd outD = 31) {i : Int32} (hi : ∀ j : Int32, 1 ≤ j → j ≤ 5 → 0 ≤ i + j ∧ (i + j).toNatClampNeg < SN) (hL : 30 ≤ L) (hk : k0 + 8 ≤ mc) (hn : n0 + 600 ≤ ms) {z6 z7 z8 : Option Value} (kk : ∀ (M' : LH) (z6 z7 z8 : Option Value), LI p m out outD (N + 1) M' → V l g ⟨"SledgePostLaw", nm, ds⟩ cL_law (some .boolean) tb L mc ms Po X M' (k0 + 8) (n0 + 600) 3320 [some (.ref b), some (.ref p), some (.ref m), some (.ref out), some (.ref outD), some (.int i), z6, z7, z8] []) : V l g ⟨"SledgePostLaw", nm, ds⟩ cL_law (some .boolean) tb L mc ms Po X M k0 n0 1312 [some (.ref b), some (.ref p), some (.ref m), some (.ref out), some (.ref outD), some (.int i), z6, z7, z8] [] := by
  obtain ⟨hG, hSy, hv4⟩ := hS.1
  obtain ⟨-, -, -, -, ⟨tn0, tn60⟩, ⟨ea1, fl1⟩, ⟨hTl, hLs⟩, c0, c8⟩ := _root_.id hS
  obtain ⟨h461, h46⟩ := hS.1.r hN
  obtain ⟨hs0, old0, ⟨hpO, -⟩, -⟩ := _root_.id hP
  refine v_aload_n dL_law_1312 rfl rfl ?_
  refine k_L_242 dL_law_1313 rfl (f_sledgeCount htr hP) hpO (by omega) (by omega) (by omega) (Nat.le_of_ble_eq_true rfl) (fun r1313 M9 h9 => ?_) (fun _ _ h9 => h9.elim)
  obtain ⟨rfl, hP8, hF8⟩ := h9
  have hM9 := hM.tp (hF8.t 30 (Nat.le_refl _))
  have hO8 := (hF8 out (by rw [ko]; decide)).trans hO
  have hO9 := (hF8 outD (by rw [ko2]; decide)).trans hO2
  refine v_aload_n dL_law_1316 rfl rfl ?_
  refine k_L_245 dL_law_1317 rfl (r_sledgeCount htr hM9 hG) hM9.1 (by omega) (by omega) (by omega) (Nat.le_of_ble_eq_true rfl) (fun r1317 M9 h9 => ?_) (fun _ _ h9 => h9.elim)
  obtain ⟨rfl, hC, hF9⟩ := h9
  refine v_icmp_eq (tgt := 3320) dL_law_1320 (by decide) (fun h1320 => ?_) (fun h1320 => ?_)
  · refine V.wid (k' := k0 + 8) (n' := n0 + 600) (by omega) (by omega) (kk _ _ _ _ ?_)
    exact ⟨kd, q, a, e8, v, sv, sa, ch, pa, tx, tn, Ls, ea, fl, w, _, _, _, _, _, _, _, _, _, _, _, _, _, hP8.fs (Frm.fs (S := fun r => r = 30) hF9 rfl) (fun r h => by omega), hC, hS.up, ⟨⟨_, LR1 hO8 ko hF9⟩, ko⟩, ⟨_, LR1 hO9 ko2 hF9⟩, ko2⟩
  · exact absurd rfl h1320
theorem dL_law_1960 : decode cL_law 1960 = .ok (.aload_n 1, 1) := by decide +kernel
theorem dL_law_1961 : decode cL_law 1961 = .ok (.invokevirtual 279, 3) := by decide +kernel
theorem dL_law_1964 : decode cL_law 1964 = .ok (.aload_n 2, 1) := by decide +kernel
theorem dL_law_1965 : decode cL_law 1965 = .ok (.invokevirtual 282, 3) := by decide +kernel
theorem dL_law_1968 : decode cL_law 1968 = .ok (.if_icmp .eq 1352, 3) := by decide +kernel
theorem dL_law_1971 : decode cL_law 1971 = .ok (.iconst 0, 1) := by decide +kernel
theorem dL_law_1972 : decode cL_law 1972 = .ok (.ireturn, 1) := by decide +kernel
set_option maxRecDepth 100000 in
set_option maxHeartbeats 4000000 in
theorem law_28 {l : Launch} {g : Nat → Nat} {nm ds : String} {tb : List ExceptionTableEntry} {L mc ms : Nat} {Po : Res → LH → Prop} {X : CX} {M : LH} {k0 n0 : Nat} (htr : l.stackTraces = false) {b SN : Nat} {xs : Nat → Int32} (hX : Sc b SN xs X) {kd : Nat → Nat} {p : Nat} {q a : Nat → Nat} {e8 : Int32 → Nat} {v : Int32 → Int32} {sv : Int32} {sa : Int32 → Int32} {ch : Int32} {pa tx : Int32 → Int32} {tn : Int32} {Ls : List Int32} {ea fl : Int32} {m : Nat} {w : Nat → Nat} {t bf he en wr dg : Int32} {b4 fr th bs li lf to : Int32 → Int32} {out outD : Nat} {N : Nat} (hP : Pg kd M p q a e8 v sv sa ch pa tx tn Ls ea fl) (hM : Md kd 30 M m w t ch ea fl sv bf tn he en (nI Ls.length) wr dg v b4 sa pa fr th bs tx li lf to) (hS : Lw N v sv sa ch pa tn Ls ea fl li) (hN : N ≤ 512) {h0 : Nat → Int64} (hO : M out = some (la 1 h0)) (ko : kd out = 31) {h2 : Nat → UInt64} (hO2 : M outD = some (da 1 h2)) (ko2 : kd outD = 31) {i : Int32} (hi : ∀ j : Int32, 1 ≤ j → j ≤ 5 → 0 ≤ i + j ∧ (i + j).toNatClampNeg < SN) (hL : 30 ≤ L) (hk : k0 + 8 ≤ mc) (hn : n0 + 600 ≤ ms) {z6 z7 z8 : Option Value} (kk : ∀ (M' : LH) (z6 z7 z8 : Option Value), LI p m out outD (N + 1) M' → V l g ⟨"SledgePostLaw", nm, ds⟩ cL_law (some .boolean) tb L mc ms Po X M' (k0 + 8) (n0 + 600) 3320 [some (.ref b), some (.ref p), some (.ref m), some (.ref out), some (.ref outD), some (.int i), z6, z7, z8] []) : V l g ⟨"SledgePostLaw", nm, ds⟩ cL_law (some .boolean) tb L mc ms Po X M k0 n0 1960 [some (.ref b), some (.ref p), some (.ref m), some (.ref out), some (.ref outD), some (.int i), z6, z7, z8] [] := by
  obtain ⟨hG, hSy, hv4⟩ := hS.1
  obtain ⟨-, -, -, -, ⟨tn0, tn60⟩, ⟨ea1, fl1⟩, ⟨hTl, hLs⟩, c0, c8⟩ := _root_.id hS
  obtain ⟨h461, h46⟩ := hS.1.r hN
  obtain ⟨hs0, old0, ⟨hpO, -⟩, -⟩ := _root_.id hP
  refine v_aload_n dL_law_1960 rfl rfl ?_
  refine k_L_279 dL_law_1961 rfl (f_letterCount htr hP) hpO (by omega) (by omega) (by omega) (Nat.le_of_ble_eq_true rfl) (fun r1961 M9 h9 => ?_) (fun _ _ h9 => h9.elim)
  obtain ⟨rfl, hP8, hF8⟩ := h9
  have hM9 := hM.tp (hF8.t 30 (Nat.le_refl _))
  have hO8 := (hF8 out (by rw [ko]; decide)).trans hO
  have hO9 := (hF8 outD (by rw [ko2]; decide)).trans hO2
  refine v_aload_n dL_law_1964 rfl rfl ?_
  refine k_L_282 dL_law_1965 rfl (r_letterCount htr hM9 hG) hM9.1 (by omega) (by omega) (by omega) (Nat.le_of_ble_eq_true rfl) (fun r1965 M9 h9 => ?_) (fun _ _ h9 => h9.elim)
  obtain ⟨rfl, hC, hF9⟩ := h9
  refine v_icmp_eq (tgt := 3320) dL_law_1968 (by decide) (fun h1968 => ?_) (fun h1968 => ?_)
  · refine V.wid (k' := k0 + 8) (n' := n0 + 600) (by omega) (by omega) (kk _ _ _ _ ?_)
    exact ⟨kd, q, a, e8, v, sv, sa, ch, pa, tx, tn, Ls, ea, fl, w, _, _, _, _, _, _, _, _, _, _, _, _, _, hP8.fs (Frm.fs (S := fun r => r = 30) hF9 rfl) (fun r h => by omega), hC, hS.up, ⟨⟨_, LR1 hO8 ko hF9⟩, ko⟩, ⟨_, LR1 hO9 ko2 hF9⟩, ko2⟩
  · exact absurd rfl h1968
theorem dL_law_2652 : decode cL_law 2652 = .ok (.aload_n 1, 1) := by decide +kernel
theorem dL_law_2653 : decode cL_law 2653 = .ok (.invokevirtual 319, 3) := by decide +kernel
theorem dL_law_2656 : decode cL_law 2656 = .ok (.aload_n 2, 1) := by decide +kernel
theorem dL_law_2657 : decode cL_law 2657 = .ok (.invokevirtual 322, 3) := by decide +kernel
theorem dL_law_2660 : decode cL_law 2660 = .ok (.if_icmp .eq 660, 3) := by decide +kernel
theorem dL_law_2663 : decode cL_law 2663 = .ok (.iconst 0, 1) := by decide +kernel
theorem dL_law_2664 : decode cL_law 2664 = .ok (.ireturn, 1) := by decide +kernel
set_option maxRecDepth 100000 in
set_option maxHeartbeats 4000000 in
theorem law_41 {l : Launch} {g : Nat → Nat} {nm ds : String} {tb : List ExceptionTableEntry} {L mc ms : Nat} {Po : Res → LH → Prop} {X : CX} {M : LH} {k0 n0 : Nat} (htr : l.stackTraces = false) {b SN : Nat} {xs : Nat → Int32} (hX : Sc b SN xs X) {kd : Nat → Nat} {p : Nat} {q a : Nat → Nat} {e8 : Int32 → Nat} {v : Int32 → Int32} {sv : Int32} {sa : Int32 → Int32} {ch : Int32} {pa tx : Int32 → Int32} {tn : Int32} {Ls : List Int32} {ea fl : Int32} {m : Nat} {w : Nat → Nat} {t bf he en wr dg : Int32} {b4 fr th bs li lf to : Int32 → Int32} {out outD : Nat} {N : Nat} (hP : Pg kd M p q a e8 v sv sa ch pa tx tn Ls ea fl) (hM : Md kd 30 M m w t ch ea fl sv bf tn he en (nI Ls.length) wr dg v b4 sa pa fr th bs tx li lf to) (hS : Lw N v sv sa ch pa tn Ls ea fl li) (hN : N ≤ 512) {h0 : Nat → Int64} (hO : M out = some (la 1 h0)) (ko : kd out = 31) {h2 : Nat → UInt64} (hO2 : M outD = some (da 1 h2)) (ko2 : kd outD = 31) {i : Int32} (hi : ∀ j : Int32, 1 ≤ j → j ≤ 5 → 0 ≤ i + j ∧ (i + j).toNatClampNeg < SN) (hL : 30 ≤ L) (hk : k0 + 8 ≤ mc) (hn : n0 + 600 ≤ ms) {z6 z7 z8 : Option Value} (kk : ∀ (M' : LH) (z6 z7 z8 : Option Value), LI p m out outD (N + 1) M' → V l g ⟨"SledgePostLaw", nm, ds⟩ cL_law (some .boolean) tb L mc ms Po X M' (k0 + 8) (n0 + 600) 3320 [some (.ref b), some (.ref p), some (.ref m), some (.ref out), some (.ref outD), some (.int i), z6, z7, z8] []) : V l g ⟨"SledgePostLaw", nm, ds⟩ cL_law (some .boolean) tb L mc ms Po X M k0 n0 2652 [some (.ref b), some (.ref p), some (.ref m), some (.ref out), some (.ref outD), some (.int i), z6, z7, z8] [] := by
  obtain ⟨hG, hSy, hv4⟩ := hS.1
  obtain ⟨-, -, -, -, ⟨tn0, tn60⟩, ⟨ea1, fl1⟩, ⟨hTl, hLs⟩, c0, c8⟩ := _root_.id hS
  obtain ⟨h461, h46⟩ := hS.1.r hN
  obtain ⟨hs0, old0, ⟨hpO, -⟩, -⟩ := _root_.id hP
  refine v_aload_n dL_law_2652 rfl rfl ?_
  refine k_L_319 dL_law_2653 rfl (f_time htr hP) hpO (by omega) (by omega) (by omega) (Nat.le_of_ble_eq_true rfl) (fun r2653 M9 h9 => ?_) (fun _ _ h9 => h9.elim)
  obtain ⟨rfl, hP8, hF8⟩ := h9
  have hM9 := hM.tp (hF8.t 30 (Nat.le_refl _))
  have hO8 := (hF8 out (by rw [ko]; decide)).trans hO
  have hO9 := (hF8 outD (by rw [ko2]; decide)).trans hO2
  refine v_aload_n dL_law_2656 rfl rfl ?_
  refine k_L_322 dL_law_2657 rfl (r_time htr hM9 hG) hM9.1 (by omega) (by omega) (by omega) (Nat.le_of_ble_eq_true rfl) (fun r2657 M9 h9 => ?_) (fun _ _ h9 => h9.elim)
  obtain ⟨rfl, hC, hF9⟩ := h9
  refine v_icmp_eq (tgt := 3320) dL_law_2660 (by decide) (fun h2660 => ?_) (fun h2660 => ?_)
  · refine V.wid (k' := k0 + 8) (n' := n0 + 600) (by omega) (by omega) (kk _ _ _ _ ?_)
    exact ⟨kd, q, a, e8, v, sv, sa, ch, pa, tx, tn, Ls, ea, fl, w, _, _, _, _, _, _, _, _, _, _, _, _, _, hP8.fs (Frm.fs (S := fun r => r = 30) hF9 rfl) (fun r h => by omega), hC, hS.up, ⟨⟨_, LR1 hO8 ko hF9⟩, ko⟩, ⟨_, LR1 hO9 ko2 hF9⟩, ko2⟩
  · exact absurd rfl h2660
theorem dL_law_2665 : decode cL_law 2665 = .ok (.aload_n 1, 1) := by decide +kernel
theorem dL_law_2666 : decode cL_law 2666 = .ok (.invokevirtual 323, 3) := by decide +kernel
theorem dL_law_2669 : decode cL_law 2669 = .ok (.aload_n 2, 1) := by decide +kernel
theorem dL_law_2670 : decode cL_law 2670 = .ok (.invokevirtual 326, 3) := by decide +kernel
theorem dL_law_2673 : decode cL_law 2673 = .ok (.if_icmp .eq 647, 3) := by decide +kernel
theorem dL_law_2676 : decode cL_law 2676 = .ok (.iconst 0, 1) := by decide +kernel
theorem dL_law_2677 : decode cL_law 2677 = .ok (.ireturn, 1) := by decide +kernel
set_option maxRecDepth 100000 in
set_option maxHeartbeats 4000000 in
theorem law_42 {l : Launch} {g : Nat → Nat} {nm ds : String} {tb : List ExceptionTableEntry} {L mc ms : Nat} {Po : Res → LH → Prop} {X : CX} {M : LH} {k0 n0 : Nat} (htr : l.stackTraces = false) {b SN : Nat} {xs : Nat → Int32} (hX : Sc b SN xs X) {kd : Nat → Nat} {p : Nat} {q a : Nat → Nat} {e8 : Int32 → Nat} {v : Int32 → Int32} {sv : Int32} {sa : Int32 → Int32} {ch : Int32} {pa tx : Int32 → Int32} {tn : Int32} {Ls : List Int32} {ea fl : Int32} {m : Nat} {w : Nat → Nat} {t bf he en wr dg : Int32} {b4 fr th bs li lf to : Int32 → Int32} {out outD : Nat} {N : Nat} (hP : Pg kd M p q a e8 v sv sa ch pa tx tn Ls ea fl) (hM : Md kd 30 M m w t ch ea fl sv bf tn he en (nI Ls.length) wr dg v b4 sa pa fr th bs tx li lf to) (hS : Lw N v sv sa ch pa tn Ls ea fl li) (hN : N ≤ 512) {h0 : Nat → Int64} (hO : M out = some (la 1 h0)) (ko : kd out = 31) {h2 : Nat → UInt64} (hO2 : M outD = some (da 1 h2)) (ko2 : kd outD = 31) {i : Int32} (hi : ∀ j : Int32, 1 ≤ j → j ≤ 5 → 0 ≤ i + j ∧ (i + j).toNatClampNeg < SN) (hL : 30 ≤ L) (hk : k0 + 8 ≤ mc) (hn : n0 + 600 ≤ ms) {z6 z7 z8 : Option Value} (kk : ∀ (M' : LH) (z6 z7 z8 : Option Value), LI p m out outD (N + 1) M' → V l g ⟨"SledgePostLaw", nm, ds⟩ cL_law (some .boolean) tb L mc ms Po X M' (k0 + 8) (n0 + 600) 3320 [some (.ref b), some (.ref p), some (.ref m), some (.ref out), some (.ref outD), some (.int i), z6, z7, z8] []) : V l g ⟨"SledgePostLaw", nm, ds⟩ cL_law (some .boolean) tb L mc ms Po X M k0 n0 2665 [some (.ref b), some (.ref p), some (.ref m), some (.ref out), some (.ref outD), some (.int i), z6, z7, z8] [] := by
  obtain ⟨hG, hSy, hv4⟩ := hS.1
  obtain ⟨-, -, -, -, ⟨tn0, tn60⟩, ⟨ea1, fl1⟩, ⟨hTl, hLs⟩, c0, c8⟩ := _root_.id hS
  obtain ⟨h461, h46⟩ := hS.1.r hN
  obtain ⟨hs0, old0, ⟨hpO, -⟩, -⟩ := _root_.id hP
  refine v_aload_n dL_law_2665 rfl rfl ?_
  refine k_L_323 dL_law_2666 rfl (f_temperature htr hP) hpO (by omega) (by omega) (by omega) (Nat.le_of_ble_eq_true rfl) (fun r2666 M9 h9 => ?_) (fun _ _ h9 => h9.elim)
  obtain ⟨rfl, hP8, hF8⟩ := h9
  have hM9 := hM.tp (hF8.t 30 (Nat.le_refl _))
  have hO8 := (hF8 out (by rw [ko]; decide)).trans hO
  have hO9 := (hF8 outD (by rw [ko2]; decide)).trans hO2
  refine v_aload_n dL_law_2669 rfl rfl ?_
  refine k_L_326 dL_law_2670 rfl (r_temperature htr hM9 hG) hM9.1 (by omega) (by omega) (by omega) (Nat.le_of_ble_eq_true rfl) (fun r2670 M9 h9 => ?_) (fun _ _ h9 => h9.elim)
  obtain ⟨rfl, hC, hF9⟩ := h9
  refine v_icmp_eq (tgt := 3320) dL_law_2673 (by decide) (fun h2673 => ?_) (fun h2673 => ?_)
  · refine V.wid (k' := k0 + 8) (n' := n0 + 600) (by omega) (by omega) (kk _ _ _ _ ?_)
    exact ⟨kd, q, a, e8, v, sv, sa, ch, pa, tx, tn, Ls, ea, fl, w, _, _, _, _, _, _, _, _, _, _, _, _, _, hP8.fs (Frm.fs (S := fun r => r = 30) hF9 rfl) (fun r h => by omega), hC, hS.up, ⟨⟨_, LR1 hO8 ko hF9⟩, ko⟩, ⟨_, LR1 hO9 ko2 hF9⟩, ko2⟩
  · exact absurd rfl h2673
theorem dL_law_2678 : decode cL_law 2678 = .ok (.aload_n 1, 1) := by decide +kernel
theorem dL_law_2679 : decode cL_law 2679 = .ok (.invokevirtual 327, 3) := by decide +kernel
theorem dL_law_2682 : decode cL_law 2682 = .ok (.aload_n 2, 1) := by decide +kernel
theorem dL_law_2683 : decode cL_law 2683 = .ok (.invokevirtual 330, 3) := by decide +kernel
theorem dL_law_2686 : decode cL_law 2686 = .ok (.if_icmp .eq 634, 3) := by decide +kernel
theorem dL_law_2689 : decode cL_law 2689 = .ok (.iconst 0, 1) := by decide +kernel
theorem dL_law_2690 : decode cL_law 2690 = .ok (.ireturn, 1) := by decide +kernel
set_option maxRecDepth 100000 in
set_option maxHeartbeats 4000000 in
theorem law_43 {l : Launch} {g : Nat → Nat} {nm ds : String} {tb : List ExceptionTableEntry} {L mc ms : Nat} {Po : Res → LH → Prop} {X : CX} {M : LH} {k0 n0 : Nat} (htr : l.stackTraces = false) {b SN : Nat} {xs : Nat → Int32} (hX : Sc b SN xs X) {kd : Nat → Nat} {p : Nat} {q a : Nat → Nat} {e8 : Int32 → Nat} {v : Int32 → Int32} {sv : Int32} {sa : Int32 → Int32} {ch : Int32} {pa tx : Int32 → Int32} {tn : Int32} {Ls : List Int32} {ea fl : Int32} {m : Nat} {w : Nat → Nat} {t bf he en wr dg : Int32} {b4 fr th bs li lf to : Int32 → Int32} {out outD : Nat} {N : Nat} (hP : Pg kd M p q a e8 v sv sa ch pa tx tn Ls ea fl) (hM : Md kd 30 M m w t ch ea fl sv bf tn he en (nI Ls.length) wr dg v b4 sa pa fr th bs tx li lf to) (hS : Lw N v sv sa ch pa tn Ls ea fl li) (hN : N ≤ 512) {h0 : Nat → Int64} (hO : M out = some (la 1 h0)) (ko : kd out = 31) {h2 : Nat → UInt64} (hO2 : M outD = some (da 1 h2)) (ko2 : kd outD = 31) {i : Int32} (hi : ∀ j : Int32, 1 ≤ j → j ≤ 5 → 0 ≤ i + j ∧ (i + j).toNatClampNeg < SN) (hL : 30 ≤ L) (hk : k0 + 8 ≤ mc) (hn : n0 + 600 ≤ ms) {z6 z7 z8 : Option Value} (kk : ∀ (M' : LH) (z6 z7 z8 : Option Value), LI p m out outD (N + 1) M' → V l g ⟨"SledgePostLaw", nm, ds⟩ cL_law (some .boolean) tb L mc ms Po X M' (k0 + 8) (n0 + 600) 3320 [some (.ref b), some (.ref p), some (.ref m), some (.ref out), some (.ref outD), some (.int i), z6, z7, z8] []) : V l g ⟨"SledgePostLaw", nm, ds⟩ cL_law (some .boolean) tb L mc ms Po X M k0 n0 2678 [some (.ref b), some (.ref p), some (.ref m), some (.ref out), some (.ref outD), some (.int i), z6, z7, z8] [] := by
  obtain ⟨hG, hSy, hv4⟩ := hS.1
  obtain ⟨-, -, -, -, ⟨tn0, tn60⟩, ⟨ea1, fl1⟩, ⟨hTl, hLs⟩, c0, c8⟩ := _root_.id hS
  obtain ⟨h461, h46⟩ := hS.1.r hN
  obtain ⟨hs0, old0, ⟨hpO, -⟩, -⟩ := _root_.id hP
  refine v_aload_n dL_law_2678 rfl rfl ?_
  refine k_L_327 dL_law_2679 rfl (f_coins htr hP) hpO (by omega) (by omega) (by omega) (Nat.le_of_ble_eq_true rfl) (fun r2679 M9 h9 => ?_) (fun _ _ h9 => h9.elim)
  obtain ⟨rfl, hP8, hF8⟩ := h9
  have hM9 := hM.tp (hF8.t 30 (Nat.le_refl _))
  have hO8 := (hF8 out (by rw [ko]; decide)).trans hO
  have hO9 := (hF8 outD (by rw [ko2]; decide)).trans hO2
  refine v_aload_n dL_law_2682 rfl rfl ?_
  refine k_L_330 dL_law_2683 rfl (r_coins htr hM9 hG) hM9.1 (by omega) (by omega) (by omega) (Nat.le_of_ble_eq_true rfl) (fun r2683 M9 h9 => ?_) (fun _ _ h9 => h9.elim)
  obtain ⟨rfl, hC, hF9⟩ := h9
  refine v_icmp_eq (tgt := 3320) dL_law_2686 (by decide) (fun h2686 => ?_) (fun h2686 => ?_)
  · refine V.wid (k' := k0 + 8) (n' := n0 + 600) (by omega) (by omega) (kk _ _ _ _ ?_)
    exact ⟨kd, q, a, e8, v, sv, sa, ch, pa, tx, tn, Ls, ea, fl, w, _, _, _, _, _, _, _, _, _, _, _, _, _, hP8.fs (Frm.fs (S := fun r => r = 30) hF9 rfl) (fun r h => by omega), hC, hS.up, ⟨⟨_, LR1 hO8 ko hF9⟩, ko⟩, ⟨_, LR1 hO9 ko2 hF9⟩, ko2⟩
  · exact absurd rfl h2686
theorem dL_law_2691 : decode cL_law 2691 = .ok (.aload_n 1, 1) := by decide +kernel
theorem dL_law_2692 : decode cL_law 2692 = .ok (.invokevirtual 331, 3) := by decide +kernel
theorem dL_law_2695 : decode cL_law 2695 = .ok (.aload_n 2, 1) := by decide +kernel
theorem dL_law_2696 : decode cL_law 2696 = .ok (.invokevirtual 334, 3) := by decide +kernel
theorem dL_law_2699 : decode cL_law 2699 = .ok (.if_icmp .eq 621, 3) := by decide +kernel
theorem dL_law_2702 : decode cL_law 2702 = .ok (.iconst 0, 1) := by decide +kernel
theorem dL_law_2703 : decode cL_law 2703 = .ok (.ireturn, 1) := by decide +kernel
set_option maxRecDepth 100000 in
set_option maxHeartbeats 4000000 in
theorem law_44 {l : Launch} {g : Nat → Nat} {nm ds : String} {tb : List ExceptionTableEntry} {L mc ms : Nat} {Po : Res → LH → Prop} {X : CX} {M : LH} {k0 n0 : Nat} (htr : l.stackTraces = false) {b SN : Nat} {xs : Nat → Int32} (hX : Sc b SN xs X) {kd : Nat → Nat} {p : Nat} {q a : Nat → Nat} {e8 : Int32 → Nat} {v : Int32 → Int32} {sv : Int32} {sa : Int32 → Int32} {ch : Int32} {pa tx : Int32 → Int32} {tn : Int32} {Ls : List Int32} {ea fl : Int32} {m : Nat} {w : Nat → Nat} {t bf he en wr dg : Int32} {b4 fr th bs li lf to : Int32 → Int32} {out outD : Nat} {N : Nat} (hP : Pg kd M p q a e8 v sv sa ch pa tx tn Ls ea fl) (hM : Md kd 30 M m w t ch ea fl sv bf tn he en (nI Ls.length) wr dg v b4 sa pa fr th bs tx li lf to) (hS : Lw N v sv sa ch pa tn Ls ea fl li) (hN : N ≤ 512) {h0 : Nat → Int64} (hO : M out = some (la 1 h0)) (ko : kd out = 31) {h2 : Nat → UInt64} (hO2 : M outD = some (da 1 h2)) (ko2 : kd outD = 31) {i : Int32} (hi : ∀ j : Int32, 1 ≤ j → j ≤ 5 → 0 ≤ i + j ∧ (i + j).toNatClampNeg < SN) (hL : 30 ≤ L) (hk : k0 + 8 ≤ mc) (hn : n0 + 600 ≤ ms) {z6 z7 z8 : Option Value} (kk : ∀ (M' : LH) (z6 z7 z8 : Option Value), LI p m out outD (N + 1) M' → V l g ⟨"SledgePostLaw", nm, ds⟩ cL_law (some .boolean) tb L mc ms Po X M' (k0 + 8) (n0 + 600) 3320 [some (.ref b), some (.ref p), some (.ref m), some (.ref out), some (.ref outD), some (.int i), z6, z7, z8] []) : V l g ⟨"SledgePostLaw", nm, ds⟩ cL_law (some .boolean) tb L mc ms Po X M k0 n0 2691 [some (.ref b), some (.ref p), some (.ref m), some (.ref out), some (.ref outD), some (.int i), z6, z7, z8] [] := by
  obtain ⟨hG, hSy, hv4⟩ := hS.1
  obtain ⟨-, -, -, -, ⟨tn0, tn60⟩, ⟨ea1, fl1⟩, ⟨hTl, hLs⟩, c0, c8⟩ := _root_.id hS
  obtain ⟨h461, h46⟩ := hS.1.r hN
  obtain ⟨hs0, old0, ⟨hpO, -⟩, -⟩ := _root_.id hP
  refine v_aload_n dL_law_2691 rfl rfl ?_
  refine k_L_331 dL_law_2692 rfl (f_coinsByAccounts htr hP) hpO (by omega) (by omega) (by omega) (Nat.le_of_ble_eq_true rfl) (fun r2692 M9 h9 => ?_) (fun _ _ h9 => h9.elim)
  obtain ⟨rfl, hP8, hF8⟩ := h9
  have hM9 := hM.tp (hF8.t 30 (Nat.le_refl _))
  have hO8 := (hF8 out (by rw [ko]; decide)).trans hO
  have hO9 := (hF8 outD (by rw [ko2]; decide)).trans hO2
  refine v_aload_n dL_law_2695 rfl rfl ?_
  refine k_L_334 dL_law_2696 rfl (r_coinsByAccounts htr hM9 hG) hM9.1 (by omega) (by omega) (by omega) (Nat.le_of_ble_eq_true rfl) (fun r2696 M9 h9 => ?_) (fun _ _ h9 => h9.elim)
  obtain ⟨rfl, hC, hF9⟩ := h9
  refine v_icmp_eq (tgt := 3320) dL_law_2699 (by decide) (fun h2699 => ?_) (fun h2699 => ?_)
  · refine V.wid (k' := k0 + 8) (n' := n0 + 600) (by omega) (by omega) (kk _ _ _ _ ?_)
    exact ⟨kd, q, a, e8, v, sv, sa, ch, pa, tx, tn, Ls, ea, fl, w, _, _, _, _, _, _, _, _, _, _, _, _, _, hP8.fs (Frm.fs (S := fun r => r = 30) hF9 rfl) (fun r h => by omega), hC, hS.up, ⟨⟨_, LR1 hO8 ko hF9⟩, ko⟩, ⟨_, LR1 hO9 ko2 hF9⟩, ko2⟩
  · exact absurd rfl h2699
theorem dL_law_2704 : decode cL_law 2704 = .ok (.aload_n 1, 1) := by decide +kernel
theorem dL_law_2705 : decode cL_law 2705 = .ok (.invokevirtual 335, 3) := by decide +kernel
theorem dL_law_2708 : decode cL_law 2708 = .ok (.aload_n 2, 1) := by decide +kernel
theorem dL_law_2709 : decode cL_law 2709 = .ok (.invokevirtual 338, 3) := by decide +kernel
theorem dL_law_2712 : decode cL_law 2712 = .ok (.if_icmp .eq 608, 3) := by decide +kernel
theorem dL_law_2715 : decode cL_law 2715 = .ok (.iconst 0, 1) := by decide +kernel
theorem dL_law_2716 : decode cL_law 2716 = .ok (.ireturn, 1) := by decide +kernel
set_option maxRecDepth 100000 in
set_option maxHeartbeats 4000000 in
theorem law_45 {l : Launch} {g : Nat → Nat} {nm ds : String} {tb : List ExceptionTableEntry} {L mc ms : Nat} {Po : Res → LH → Prop} {X : CX} {M : LH} {k0 n0 : Nat} (htr : l.stackTraces = false) {b SN : Nat} {xs : Nat → Int32} (hX : Sc b SN xs X) {kd : Nat → Nat} {p : Nat} {q a : Nat → Nat} {e8 : Int32 → Nat} {v : Int32 → Int32} {sv : Int32} {sa : Int32 → Int32} {ch : Int32} {pa tx : Int32 → Int32} {tn : Int32} {Ls : List Int32} {ea fl : Int32} {m : Nat} {w : Nat → Nat} {t bf he en wr dg : Int32} {b4 fr th bs li lf to : Int32 → Int32} {out outD : Nat} {N : Nat} (hP : Pg kd M p q a e8 v sv sa ch pa tx tn Ls ea fl) (hM : Md kd 30 M m w t ch ea fl sv bf tn he en (nI Ls.length) wr dg v b4 sa pa fr th bs tx li lf to) (hS : Lw N v sv sa ch pa tn Ls ea fl li) (hN : N ≤ 512) {h0 : Nat → Int64} (hO : M out = some (la 1 h0)) (ko : kd out = 31) {h2 : Nat → UInt64} (hO2 : M outD = some (da 1 h2)) (ko2 : kd outD = 31) {i : Int32} (hi : ∀ j : Int32, 1 ≤ j → j ≤ 5 → 0 ≤ i + j ∧ (i + j).toNatClampNeg < SN) (hL : 30 ≤ L) (hk : k0 + 8 ≤ mc) (hn : n0 + 600 ≤ ms) {z6 z7 z8 : Option Value} (kk : ∀ (M' : LH) (z6 z7 z8 : Option Value), LI p m out outD (N + 1) M' → V l g ⟨"SledgePostLaw", nm, ds⟩ cL_law (some .boolean) tb L mc ms Po X M' (k0 + 8) (n0 + 600) 3320 [some (.ref b), some (.ref p), some (.ref m), some (.ref out), some (.ref outD), some (.int i), z6, z7, z8] []) : V l g ⟨"SledgePostLaw", nm, ds⟩ cL_law (some .boolean) tb L mc ms Po X M k0 n0 2704 [some (.ref b), some (.ref p), some (.ref m), some (.ref out), some (.ref outD), some (.int i), z6, z7, z8] [] := by
  obtain ⟨hG, hSy, hv4⟩ := hS.1
  obtain ⟨-, -, -, -, ⟨tn0, tn60⟩, ⟨ea1, fl1⟩, ⟨hTl, hLs⟩, c0, c8⟩ := _root_.id hS
  obtain ⟨h461, h46⟩ := hS.1.r hN
  obtain ⟨hs0, old0, ⟨hpO, -⟩, -⟩ := _root_.id hP
  refine v_aload_n dL_law_2704 rfl rfl ?_
  refine k_L_335 dL_law_2705 rfl (f_deliveredTotal htr hP) hpO (by omega) (by omega) (by omega) (Nat.le_of_ble_eq_true rfl) (fun r2705 M9 h9 => ?_) (fun _ _ h9 => h9.elim)
  obtain ⟨rfl, hP8, hF8⟩ := h9
  have hM9 := hM.tp (hF8.t 30 (Nat.le_refl _))
  have hO8 := (hF8 out (by rw [ko]; decide)).trans hO
  have hO9 := (hF8 outD (by rw [ko2]; decide)).trans hO2
  refine v_aload_n dL_law_2708 rfl rfl ?_
  refine k_L_338 dL_law_2709 rfl (r_deliveredTotal htr hM9 hG) hM9.1 (by omega) (by omega) (by omega) (Nat.le_of_ble_eq_true rfl) (fun r2709 M9 h9 => ?_) (fun _ _ h9 => h9.elim)
  obtain ⟨rfl, hC, hF9⟩ := h9
  refine v_icmp_eq (tgt := 3320) dL_law_2712 (by decide) (fun h2712 => ?_) (fun h2712 => ?_)
  · refine V.wid (k' := k0 + 8) (n' := n0 + 600) (by omega) (by omega) (kk _ _ _ _ ?_)
    exact ⟨kd, q, a, e8, v, sv, sa, ch, pa, tx, tn, Ls, ea, fl, w, _, _, _, _, _, _, _, _, _, _, _, _, _, hP8.fs (Frm.fs (S := fun r => r = 30) hF9 rfl) (fun r h => by omega), hC, hS.up, ⟨⟨_, LR1 hO8 ko hF9⟩, ko⟩, ⟨_, LR1 hO9 ko2 hF9⟩, ko2⟩
  · exact absurd rfl h2712
theorem dL_law_2848 : decode cL_law 2848 = .ok (.aload_n 1, 1) := by decide +kernel
theorem dL_law_2849 : decode cL_law 2849 = .ok (.invokevirtual 346, 3) := by decide +kernel
theorem dL_law_2852 : decode cL_law 2852 = .ok (.aload_n 2, 1) := by decide +kernel
theorem dL_law_2853 : decode cL_law 2853 = .ok (.invokevirtual 350, 3) := by decide +kernel
theorem dL_law_2856 : decode cL_law 2856 = .ok (.if_icmp .eq 464, 3) := by decide +kernel
theorem dL_law_2859 : decode cL_law 2859 = .ok (.iconst 0, 1) := by decide +kernel
theorem dL_law_2860 : decode cL_law 2860 = .ok (.ireturn, 1) := by decide +kernel
set_option maxRecDepth 100000 in
set_option maxHeartbeats 4000000 in
theorem law_48 {l : Launch} {g : Nat → Nat} {nm ds : String} {tb : List ExceptionTableEntry} {L mc ms : Nat} {Po : Res → LH → Prop} {X : CX} {M : LH} {k0 n0 : Nat} (htr : l.stackTraces = false) {b SN : Nat} {xs : Nat → Int32} (hX : Sc b SN xs X) {kd : Nat → Nat} {p : Nat} {q a : Nat → Nat} {e8 : Int32 → Nat} {v : Int32 → Int32} {sv : Int32} {sa : Int32 → Int32} {ch : Int32} {pa tx : Int32 → Int32} {tn : Int32} {Ls : List Int32} {ea fl : Int32} {m : Nat} {w : Nat → Nat} {t bf he en wr dg : Int32} {b4 fr th bs li lf to : Int32 → Int32} {out outD : Nat} {N : Nat} (hP : Pg kd M p q a e8 v sv sa ch pa tx tn Ls ea fl) (hM : Md kd 30 M m w t ch ea fl sv bf tn he en (nI Ls.length) wr dg v b4 sa pa fr th bs tx li lf to) (hS : Lw N v sv sa ch pa tn Ls ea fl li) (hN : N ≤ 512) {h0 : Nat → Int64} (hO : M out = some (la 1 h0)) (ko : kd out = 31) {h2 : Nat → UInt64} (hO2 : M outD = some (da 1 h2)) (ko2 : kd outD = 31) {i : Int32} (hi : ∀ j : Int32, 1 ≤ j → j ≤ 5 → 0 ≤ i + j ∧ (i + j).toNatClampNeg < SN) (hL : 30 ≤ L) (hk : k0 + 8 ≤ mc) (hn : n0 + 600 ≤ ms) {z6 z7 z8 : Option Value} (kk : ∀ (M' : LH) (z6 z7 z8 : Option Value), LI p m out outD (N + 1) M' → V l g ⟨"SledgePostLaw", nm, ds⟩ cL_law (some .boolean) tb L mc ms Po X M' (k0 + 8) (n0 + 600) 3320 [some (.ref b), some (.ref p), some (.ref m), some (.ref out), some (.ref outD), some (.int i), z6, z7, z8] []) : V l g ⟨"SledgePostLaw", nm, ds⟩ cL_law (some .boolean) tb L mc ms Po X M k0 n0 2848 [some (.ref b), some (.ref p), some (.ref m), some (.ref out), some (.ref outD), some (.int i), z6, z7, z8] [] := by
  obtain ⟨hG, hSy, hv4⟩ := hS.1
  obtain ⟨-, -, -, -, ⟨tn0, tn60⟩, ⟨ea1, fl1⟩, ⟨hTl, hLs⟩, c0, c8⟩ := _root_.id hS
  obtain ⟨h461, h46⟩ := hS.1.r hN
  obtain ⟨hs0, old0, ⟨hpO, -⟩, -⟩ := _root_.id hP
  refine v_aload_n dL_law_2848 rfl rfl ?_
  refine k_L_346 dL_law_2849 rfl (f_isConsistent htr hP hSy h46) hpO (by omega) (by omega) (by omega) (Nat.le_of_ble_eq_true rfl) (fun r2849 M9 h9 => ?_) (fun _ _ h9 => h9.elim)
  obtain ⟨rfl, hP8, hF8⟩ := h9
  have hM9 := hM.tp (hF8.t 30 (Nat.le_refl _))
  have hO8 := (hF8 out (by rw [ko]; decide)).trans hO
  have hO9 := (hF8 outD (by rw [ko2]; decide)).trans hO2
  refine v_aload_n dL_law_2852 rfl rfl ?_
  refine k_L_350 dL_law_2853 rfl (r_isConsistent htr hM9 hG) hM9.1 (by omega) (by omega) (by omega) (Nat.le_of_ble_eq_true rfl) (fun r2853 M9 h9 => ?_) (fun _ _ h9 => h9.elim)
  obtain ⟨rfl, hC, hF9⟩ := h9
  refine v_icmp_eq (tgt := 3320) dL_law_2856 (by decide) (fun h2856 => ?_) (fun h2856 => ?_)
  · refine V.wid (k' := k0 + 8) (n' := n0 + 600) (by omega) (by omega) (kk _ _ _ _ ?_)
    exact ⟨kd, q, a, e8, v, sv, sa, ch, pa, tx, tn, Ls, ea, fl, w, _, _, _, _, _, _, _, _, _, _, _, _, _, hP8.fs (Frm.fs (S := fun r => r = 30) hF9 rfl) (fun r h => by omega), hC, hS.up, ⟨⟨_, LR1 hO8 ko hF9⟩, ko⟩, ⟨_, LR1 hO9 ko2 hF9⟩, ko2⟩
  · exact absurd rfl h2856
theorem dL_law_3263 : decode cL_law 3263 = .ok (.aload_n 1, 1) := by decide +kernel
theorem dL_law_3264 : decode cL_law 3264 = .ok (.invokevirtual 376, 3) := by decide +kernel
theorem dL_law_3267 : decode cL_law 3267 = .ok (.aload_n 2, 1) := by decide +kernel
theorem dL_law_3268 : decode cL_law 3268 = .ok (.invokevirtual 379, 3) := by decide +kernel
theorem dL_law_3271 : decode cL_law 3271 = .ok (.if_icmp .eq 49, 3) := by decide +kernel
theorem dL_law_3274 : decode cL_law 3274 = .ok (.iconst 0, 1) := by decide +kernel
theorem dL_law_3275 : decode cL_law 3275 = .ok (.ireturn, 1) := by decide +kernel
set_option maxRecDepth 100000 in
set_option maxHeartbeats 4000000 in
theorem law_57 {l : Launch} {g : Nat → Nat} {nm ds : String} {tb : List ExceptionTableEntry} {L mc ms : Nat} {Po : Res → LH → Prop} {X : CX} {M : LH} {k0 n0 : Nat} (htr : l.stackTraces = false) {b SN : Nat} {xs : Nat → Int32} (hX : Sc b SN xs X) {kd : Nat → Nat} {p : Nat} {q a : Nat → Nat} {e8 : Int32 → Nat} {v : Int32 → Int32} {sv : Int32} {sa : Int32 → Int32} {ch : Int32} {pa tx : Int32 → Int32} {tn : Int32} {Ls : List Int32} {ea fl : Int32} {m : Nat} {w : Nat → Nat} {t bf he en wr dg : Int32} {b4 fr th bs li lf to : Int32 → Int32} {out outD : Nat} {N : Nat} (hP : Pg kd M p q a e8 v sv sa ch pa tx tn Ls ea fl) (hM : Md kd 30 M m w t ch ea fl sv bf tn he en (nI Ls.length) wr dg v b4 sa pa fr th bs tx li lf to) (hS : Lw N v sv sa ch pa tn Ls ea fl li) (hN : N ≤ 512) {h0 : Nat → Int64} (hO : M out = some (la 1 h0)) (ko : kd out = 31) {h2 : Nat → UInt64} (hO2 : M outD = some (da 1 h2)) (ko2 : kd outD = 31) {i : Int32} (hi : ∀ j : Int32, 1 ≤ j → j ≤ 5 → 0 ≤ i + j ∧ (i + j).toNatClampNeg < SN) (hL : 30 ≤ L) (hk : k0 + 8 ≤ mc) (hn : n0 + 600 ≤ ms) {z6 z7 z8 : Option Value} (kk : ∀ (M' : LH) (z6 z7 z8 : Option Value), LI p m out outD (N + 1) M' → V l g ⟨"SledgePostLaw", nm, ds⟩ cL_law (some .boolean) tb L mc ms Po X M' (k0 + 8) (n0 + 600) 3320 [some (.ref b), some (.ref p), some (.ref m), some (.ref out), some (.ref outD), some (.int i), z6, z7, z8] []) : V l g ⟨"SledgePostLaw", nm, ds⟩ cL_law (some .boolean) tb L mc ms Po X M k0 n0 3263 [some (.ref b), some (.ref p), some (.ref m), some (.ref out), some (.ref outD), some (.int i), z6, z7, z8] [] := by
  obtain ⟨hG, hSy, hv4⟩ := hS.1
  obtain ⟨-, -, -, -, ⟨tn0, tn60⟩, ⟨ea1, fl1⟩, ⟨hTl, hLs⟩, c0, c8⟩ := _root_.id hS
  obtain ⟨h461, h46⟩ := hS.1.r hN
  obtain ⟨hs0, old0, ⟨hpO, -⟩, -⟩ := _root_.id hP
  refine v_aload_n dL_law_3263 rfl rfl ?_
  refine k_L_376 dL_law_3264 rfl (f_save htr hP) hpO (by omega) (by omega) (by omega) (Nat.le_of_ble_eq_true rfl) (fun r3264 M9 h9 => ?_) (fun _ _ h9 => h9.elim)
  obtain ⟨rfl, hP8, hF8⟩ := h9
  have hM9 := hM.tp (hF8.t 30 (Nat.le_refl _))
  have hO8 := (hF8 out (by rw [ko]; decide)).trans hO
  have hO9 := (hF8 outD (by rw [ko2]; decide)).trans hO2
  refine v_aload_n dL_law_3267 rfl rfl ?_
  refine k_L_379 dL_law_3268 rfl (r_save htr hM9) hM9.1 (by omega) (by omega) (by omega) (Nat.le_of_ble_eq_true rfl) (fun r3268 M9 h9 => ?_) (fun _ _ h9 => h9.elim)
  obtain ⟨rfl, hC, hF9⟩ := h9
  refine v_icmp_eq (tgt := 3320) dL_law_3271 (by decide) (fun h3271 => ?_) (fun h3271 => ?_)
  · have hS2 : Lw (N + 1) v 1 (cpF v sa) ch pa tn Ls ea fl li := by
      obtain ⟨s1, s2, s3, s4, s5⟩ := hS.up
      exact ⟨s1, fun _ => s1.ag ag_cpF, s3, Or.inr rfl, s5⟩
    refine V.wid (k' := k0 + 8) (n' := n0 + 600) (by omega) (by omega) (kk _ _ _ _ ?_)
    exact ⟨kd, q, a, e8, v, 1, cpF v sa, ch, pa, tx, tn, Ls, ea, fl, w, _, _, _, _, _, _, _, _, _, _, _, _, _, Pg.sa (hP8.fs (Frm.fs (S := fun r => r = 30) hF9 rfl) (fun r h => by omega)) ag_cpF, hC, hS2, ⟨⟨_, LR1 hO8 ko hF9⟩, ko⟩, ⟨_, LR1 hO9 ko2 hF9⟩, ko2⟩
  · exact absurd rfl h3271
