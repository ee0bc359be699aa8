/-! ===== the law: yes or no ===== -/
theorem dL_law_1437 : decode cL_law 1437 = .ok (.aload_n 1, 1) := by decide +kernel
theorem dL_law_1438 : decode cL_law 1438 = .ok (.aload_n 0, 1) := by decide +kernel
theorem dL_law_1439 : decode cL_law 1439 = .ok (.iload 5, 2) := by decide +kernel
theorem dL_law_1441 : decode cL_law 1441 = .ok (.iconst 1, 1) := by decide +kernel
theorem dL_law_1442 : decode cL_law 1442 = .ok (.iadd, 1) := by decide +kernel
theorem dL_law_1443 : decode cL_law 1443 = .ok (.iaload, 1) := by decide +kernel
theorem dL_law_1444 : decode cL_law 1444 = .ok (.aload_n 3, 1) := by decide +kernel
theorem dL_law_1445 : decode cL_law 1445 = .ok (.invokestatic 252, 3) := by decide +kernel
theorem dL_law_1448 : decode cL_law 1448 = .ok (.istore 6, 2) := by decide +kernel
theorem dL_law_1450 : decode cL_law 1450 = .ok (.aload_n 2, 1) := by decide +kernel
theorem dL_law_1451 : decode cL_law 1451 = .ok (.aload_n 0, 1) := by decide +kernel
theorem dL_law_1452 : decode cL_law 1452 = .ok (.iload 5, 2) := by decide +kernel
theorem dL_law_1454 : decode cL_law 1454 = .ok (.iconst 1, 1) := by decide +kernel
theorem dL_law_1455 : decode cL_law 1455 = .ok (.iadd, 1) := by decide +kernel
theorem dL_law_1456 : decode cL_law 1456 = .ok (.iaload, 1) := by decide +kernel
theorem dL_law_1457 : decode cL_law 1457 = .ok (.invokevirtual 254, 3) := by decide +kernel
theorem dL_law_1460 : decode cL_law 1460 = .ok (.istore 7, 2) := by decide +kernel
theorem dL_law_1462 : decode cL_law 1462 = .ok (.aload_n 2, 1) := by decide +kernel
theorem dL_law_1463 : decode cL_law 1463 = .ok (.invokevirtual 189, 3) := by decide +kernel
theorem dL_law_1466 : decode cL_law 1466 = .ok (.iload 6, 2) := by decide +kernel
theorem dL_law_1468 : decode cL_law 1468 = .ok (.if_icmp .eq 5, 3) := by decide +kernel
theorem dL_law_1471 : decode cL_law 1471 = .ok (.iconst 0, 1) := by decide +kernel
theorem dL_law_1472 : decode cL_law 1472 = .ok (.ireturn, 1) := by decide +kernel
theorem dL_law_1473 : decode cL_law 1473 = .ok (.iload 6, 2) := by decide +kernel
theorem dL_law_1475 : decode cL_law 1475 = .ok (.ifCond .ne 22, 3) := by decide +kernel
theorem dL_law_1478 : decode cL_law 1478 = .ok (.aload_n 3, 1) := by decide +kernel
theorem dL_law_1479 : decode cL_law 1479 = .ok (.iconst 0, 1) := by decide +kernel
theorem dL_law_1480 : decode cL_law 1480 = .ok (.laload, 1) := by decide +kernel
theorem dL_law_1481 : decode cL_law 1481 = .ok (.iload 7, 2) := by decide +kernel
theorem dL_law_1483 : decode cL_law 1483 = .ok (.ifCond .eq 7, 3) := by decide +kernel
theorem dL_law_1486 : decode cL_law 1486 = .ok (.lconst 1, 1) := by decide +kernel
theorem dL_law_1487 : decode cL_law 1487 = .ok (.goto 4, 3) := by decide +kernel
theorem dL_law_1490 : decode cL_law 1490 = .ok (.lconst 0, 1) := by decide +kernel
theorem dL_law_1491 : decode cL_law 1491 = .ok (.lcmp, 1) := by decide +kernel
theorem dL_law_1492 : decode cL_law 1492 = .ok (.ifCond .eq 5, 3) := by decide +kernel
theorem dL_law_1495 : decode cL_law 1495 = .ok (.iconst 0, 1) := by decide +kernel
theorem dL_law_1496 : decode cL_law 1496 = .ok (.ireturn, 1) := by decide +kernel
theorem dL_law_1497 : decode cL_law 1497 = .ok (.goto 1823, 3) := by decide +kernel
set_option maxRecDepth 100000 in
set_option maxHeartbeats 4000000 in
theorem law_19 {l : Launch} {g : Nat → Nat} {nm ds : String} {tb : List ExceptionTableEntry} {L mc ms : Nat} {Po : Res → LH → Prop} {X : CX} {M : LH} {k0 n0 : Nat} (htr : l.stackTraces = false) {b SN : Nat} {xs : Nat → Int32} (hX : Sc b SN xs X) {kd : Nat → Nat} {p : Nat} {q a : Nat → Nat} {e8 : Int32 → Nat} {v : Int32 → Int32} {sv : Int32} {sa : Int32 → Int32} {ch : Int32} {pa tx : Int32 → Int32} {tn : Int32} {Ls : List Int32} {ea fl : Int32} {m : Nat} {w : Nat → Nat} {t bf he en wr dg : Int32} {b4 fr th bs li lf to : Int32 → Int32} {out outD : Nat} {N : Nat} (hP : Pg kd M p q a e8 v sv sa ch pa tx tn Ls ea fl) (hM : Md kd 30 M m w t ch ea fl sv bf tn he en (nI Ls.length) wr dg v b4 sa pa fr th bs tx li lf to) (hS : Lw N v sv sa ch pa tn Ls ea fl li) (hN : N ≤ 512) {h0 : Nat → Int64} (hO : M out = some (la 1 h0)) (ko : kd out = 31) {h2 : Nat → UInt64} (hO2 : M outD = some (da 1 h2)) (ko2 : kd outD = 31) {i : Int32} (hi : ∀ j : Int32, 1 ≤ j → j ≤ 5 → 0 ≤ i + j ∧ (i + j).toNatClampNeg < SN) (hL : 30 ≤ L) (hk : k0 + 8 ≤ mc) (hn : n0 + 600 ≤ ms) {z6 z7 z8 : Option Value} (kk : ∀ (M' : LH) (z6 z7 z8 : Option Value), LI p m out outD (N + 1) M' → V l g ⟨"SledgePostLaw", nm, ds⟩ cL_law (some .boolean) tb L mc ms Po X M' (k0 + 8) (n0 + 600) 3320 [some (.ref b), some (.ref p), some (.ref m), some (.ref out), some (.ref outD), some (.int i), z6, z7, z8] []) : V l g ⟨"SledgePostLaw", nm, ds⟩ cL_law (some .boolean) tb L mc ms Po X M k0 n0 1437 [some (.ref b), some (.ref p), some (.ref m), some (.ref out), some (.ref outD), some (.int i), z6, z7, z8] [] := by
  obtain ⟨hG, hSy, hv4⟩ := hS.1
  obtain ⟨-, -, -, -, ⟨tn0, tn60⟩, ⟨ea1, fl1⟩, ⟨hTl, hLs⟩, c0, c8⟩ := _root_.id hS
  obtain ⟨h461, h46⟩ := hS.1.r hN
  obtain ⟨hs0, old0, ⟨hpO, -⟩, -⟩ := _root_.id hP
  refine v_aload_n dL_law_1437 rfl rfl ?_
  refine v_aload_n dL_law_1438 rfl rfl ?_
  refine v_iload dL_law_1439 rfl ?_
  refine v_iconst (v := 1) dL_law_1441 (by decide) ?_
  refine v_iadd dL_law_1442 ?_
  refine v_sld hX dL_law_1443 (hi 1 (by decide) (by decide)).1 (hi 1 (by decide) (by decide)).2 ?_
  refine v_aload_n dL_law_1444 rfl rfl ?_
  refine kl_252 dL_law_1445 rfl (w_L_isTravelling htr (f_isTravelling htr hP (xs (i + 1).toNatClampNeg)) hpO (fun r M9 h9 => ⟨_, (h9.2.2.2 out (by rw [ko]; decide)).trans hO⟩) (fun E M9 h9 => h9.2.1)) (by omega) (by omega) (by omega) (Nat.le_of_ble_eq_true rfl) (fun r9 M9 h9 => ?_) (fun _ _ h9 => h9.elim)
  rcases h9 with ⟨rfl, r, M8, h8, ⟨hc, rfl, hP8, hF8⟩, hh, rfl⟩ | ⟨E, ⟨hc, hE0, hP8, hF8⟩, hE⟩
  · skip
    have f31 : Fs kd (fun r => r = 31) M8 (hup M8 out (la 1 h8)) := fun x hx => hup_n (fun z => hx (by rw [z]; exact ko))
    have hP9 := hP8.fs f31 (fun r h => by omega)
    have hM9 := (hM.tp (hF8.t 30 (Nat.le_refl _))).tp (f31.tp (by decide))
    have hO9 := up_k (e' := la 1 h8) ((hF8 outD (by rw [ko2]; decide)).trans hO2) ((hF8 out (by rw [ko]; decide)).trans hO) da_la
    refine v_istore_6 dL_law_1448 ?_
    refine v_aload_n dL_law_1450 rfl rfl ?_
    refine v_aload_n dL_law_1451 rfl rfl ?_
    refine v_iload dL_law_1452 rfl ?_
    refine v_iconst (v := 1) dL_law_1454 (by decide) ?_
    refine v_iadd dL_law_1455 ?_
    refine v_sld hX dL_law_1456 (hi 1 (by decide) (by decide)).1 (hi 1 (by decide) (by decide)).2 ?_
    refine k_L_254 dL_law_1457 rfl (r_isTravelling htr hM9 hG (xs (i + 1).toNatClampNeg)) hM9.1 (by omega) (by omega) (by omega) (Nat.le_of_ble_eq_true rfl) (fun r1457 M9 h9 => ?_) (fun _ _ h9 => h9.elim)
    obtain ⟨h9, hF9⟩ := h9
    rcases h9 with ⟨-, rfl, hC⟩ | ⟨hn, -⟩
    rotate_left
    · exact absurd hc hn
    have hOA := LR1 (kd := kd) hup_s ko hF9
    have hOD := LR1 hO9 ko2 hF9
    refine v_istore_7 dL_law_1460 ?_
    refine v_aload_n dL_law_1462 rfl rfl ?_
    refine k_L_189 dL_law_1463 rfl (r_thrown htr hC) hC.1 (by omega) (by omega) (by omega) (Nat.le_of_ble_eq_true rfl) (fun r1463 M9 h9 => ?_) (fun _ _ h9 => h9.elim)
    obtain ⟨rfl, e9⟩ := h9
    subst M9
    refine v_iload dL_law_1466 rfl ?_
    refine v_icmp_eq (tgt := 1473) dL_law_1468 (by decide) (fun h1468 => ?_) (fun h1468 => ?_)
    · refine v_iload dL_law_1473 rfl ?_
      refine v_if_ne (tgt := 1497) dL_law_1475 (by decide) (fun h1475 => ?_) (fun h1475 => ?_)
      · exact absurd rfl h1475
      · refine v_aload_n dL_law_1478 rfl rfl ?_
        refine v_iconst (v := 0) dL_law_1479 (by decide) ?_
        refine v_lald dL_law_1480 hOA ?_
        refine v_iload dL_law_1481 rfl ?_
        refine v_if_eq (tgt := 1490) dL_law_1483 (by decide) (fun h1483 => ?_) (fun h1483 => ?_)
        · refine v_lconst (v := 0) dL_law_1490 (by decide) ?_
          refine v_lcmp dL_law_1491 ?_
          rw [hh]
          first | rw [if_pos h1483, lg_self] | rw [if_neg h1483, lg_self]
          refine v_if_eq (tgt := 1497) dL_law_1492 (by decide) (fun h1492 => ?_) (fun h1492 => ?_)
          · refine v_goto (tgt := 3320) dL_law_1497 (by decide) ?_
            refine V.wid (k' := k0 + 8) (n' := n0 + 600) (by omega) (by omega) (kk _ _ _ _ ?_)
            exact ⟨kd, q, a, e8, v, _, sa, _, pa, tx, tn, Ls, _, _, w, _, _, _, _, _, _, _, _, _, _, _, _, _, (hP9.fs (Frm.fs (S := fun r => r = 30) hF9 rfl) (fun r h => by omega)), hC, hS.up, ⟨⟨_, hOA⟩, ko⟩, ⟨_, hOD⟩, ko2⟩
          · exact absurd rfl h1492
        · refine v_lconst (v := 1) dL_law_1486 (by decide) ?_
          refine v_goto (tgt := 1491) dL_law_1487 (by decide) ?_
          refine v_lcmp dL_law_1491 ?_
          rw [hh]
          first | rw [if_pos h1483, lg_self] | rw [if_neg h1483, lg_self]
          refine v_if_eq (tgt := 1497) dL_law_1492 (by decide) (fun h1492 => ?_) (fun h1492 => ?_)
          · refine v_goto (tgt := 3320) dL_law_1497 (by decide) ?_
            refine V.wid (k' := k0 + 8) (n' := n0 + 600) (by omega) (by omega) (kk _ _ _ _ ?_)
            exact ⟨kd, q, a, e8, v, _, sa, _, pa, tx, tn, Ls, _, _, w, _, _, _, _, _, _, _, _, _, _, _, _, _, (hP9.fs (Frm.fs (S := fun r => r = 30) hF9 rfl) (fun r h => by omega)), hC, hS.up, ⟨⟨_, hOA⟩, ko⟩, ⟨_, hOD⟩, ko2⟩
          · exact absurd rfl h1492
    · exact absurd rfl h1468
  · skip
    have hM9 := hM.tp (hF8.t 30 (Nat.le_refl _))
    have hO8 := (hF8 out (by rw [ko]; decide)).trans hO
    have hO9 := (hF8 outD (by rw [ko2]; decide)).trans hO2
    obtain ⟨-, rfl⟩ := hE
    refine v_istore_6 dL_law_1448 ?_
    refine v_aload_n dL_law_1450 rfl rfl ?_
    refine v_aload_n dL_law_1451 rfl rfl ?_
    refine v_iload dL_law_1452 rfl ?_
    refine v_iconst (v := 1) dL_law_1454 (by decide) ?_
    refine v_iadd dL_law_1455 ?_
    refine v_sld hX dL_law_1456 (hi 1 (by decide) (by decide)).1 (hi 1 (by decide) (by decide)).2 ?_
    refine k_L_254 dL_law_1457 rfl (r_isTravelling htr hM9 hG (xs (i + 1).toNatClampNeg)) hM9.1 (by omega) (by omega) (by omega) (Nat.le_of_ble_eq_true rfl) (fun r1457 M9 h9 => ?_) (fun _ _ h9 => h9.elim)
    obtain ⟨h9, hF9⟩ := h9
    rcases h9 with ⟨hn, -⟩ | ⟨-, rfl, hC⟩
    · exact absurd hn hc
    have hOA := LR1 hO8 ko hF9
    have hOD := LR1 hO9 ko2 hF9
    refine v_istore_7 dL_law_1460 ?_
    refine v_aload_n dL_law_1462 rfl rfl ?_
    refine k_L_189 dL_law_1463 rfl (r_thrown htr hC) hC.1 (by omega) (by omega) (by omega) (Nat.le_of_ble_eq_true rfl) (fun r1463 M9 h9 => ?_) (fun _ _ h9 => h9.elim)
    obtain ⟨rfl, e9⟩ := h9
    subst M9
    refine v_iload dL_law_1466 rfl ?_
    refine v_icmp_eq (tgt := 1473) dL_law_1468 (by decide) (fun h1468 => ?_) (fun h1468 => ?_)
    · refine v_iload dL_law_1473 rfl ?_
      refine v_if_ne (tgt := 1497) dL_law_1475 (by decide) (fun h1475 => ?_) (fun h1475 => ?_)
      · refine v_goto (tgt := 3320) dL_law_1497 (by decide) ?_
        refine V.wid (k' := k0 + 8) (n' := n0 + 600) (by omega) (by omega) (kk _ _ _ _ ?_)
        exact ⟨kd, q, a, e8, v, _, sa, _, pa, tx, tn, Ls, _, _, w, _, _, _, _, _, _, _, _, _, _, _, _, _, (hP8.fs (Frm.fs (S := fun r => r = 30) hF9 rfl) (fun r h => by omega)), hC, hS.up, ⟨⟨_, hOA⟩, ko⟩, ⟨_, hOD⟩, ko2⟩
      · exact absurd h1475 (by decide)
    · exact absurd rfl h1468
theorem dL_law_2253 : decode cL_law 2253 = .ok (.aload_n 1, 1) := by decide +kernel
theorem dL_law_2254 : decode cL_law 2254 = .ok (.aload_n 0, 1) := by decide +kernel
theorem dL_law_2255 : decode cL_law 2255 = .ok (.iload 5, 2) := by decide +kernel
theorem dL_law_2257 : decode cL_law 2257 = .ok (.iconst 1, 1) := by decide +kernel
theorem dL_law_2258 : decode cL_law 2258 = .ok (.iadd, 1) := by decide +kernel
theorem dL_law_2259 : decode cL_law 2259 = .ok (.iaload, 1) := by decide +kernel
theorem dL_law_2260 : decode cL_law 2260 = .ok (.aload_n 3, 1) := by decide +kernel
theorem dL_law_2261 : decode cL_law 2261 = .ok (.invokestatic 298, 3) := by decide +kernel
theorem dL_law_2264 : decode cL_law 2264 = .ok (.istore 6, 2) := by decide +kernel
theorem dL_law_2266 : decode cL_law 2266 = .ok (.aload_n 2, 1) := by decide +kernel
theorem dL_law_2267 : decode cL_law 2267 = .ok (.aload_n 0, 1) := by decide +kernel
theorem dL_law_2268 : decode cL_law 2268 = .ok (.iload 5, 2) := by decide +kernel
theorem dL_law_2270 : decode cL_law 2270 = .ok (.iconst 1, 1) := by decide +kernel
theorem dL_law_2271 : decode cL_law 2271 = .ok (.iadd, 1) := by decide +kernel
theorem dL_law_2272 : decode cL_law 2272 = .ok (.iaload, 1) := by decide +kernel
theorem dL_law_2273 : decode cL_law 2273 = .ok (.invokevirtual 300, 3) := by decide +kernel
theorem dL_law_2276 : decode cL_law 2276 = .ok (.istore 7, 2) := by decide +kernel
theorem dL_law_2278 : decode cL_law 2278 = .ok (.aload_n 2, 1) := by decide +kernel
theorem dL_law_2279 : decode cL_law 2279 = .ok (.invokevirtual 189, 3) := by decide +kernel
theorem dL_law_2282 : decode cL_law 2282 = .ok (.iload 6, 2) := by decide +kernel
theorem dL_law_2284 : decode cL_law 2284 = .ok (.if_icmp .eq 5, 3) := by decide +kernel
theorem dL_law_2287 : decode cL_law 2287 = .ok (.iconst 0, 1) := by decide +kernel
theorem dL_law_2288 : decode cL_law 2288 = .ok (.ireturn, 1) := by decide +kernel
theorem dL_law_2289 : decode cL_law 2289 = .ok (.iload 6, 2) := by decide +kernel
theorem dL_law_2291 : decode cL_law 2291 = .ok (.ifCond .ne 22, 3) := by decide +kernel
theorem dL_law_2294 : decode cL_law 2294 = .ok (.aload_n 3, 1) := by decide +kernel
theorem dL_law_2295 : decode cL_law 2295 = .ok (.iconst 0, 1) := by decide +kernel
theorem dL_law_2296 : decode cL_law 2296 = .ok (.laload, 1) := by decide +kernel
theorem dL_law_2297 : decode cL_law 2297 = .ok (.iload 7, 2) := by decide +kernel
theorem dL_law_2299 : decode cL_law 2299 = .ok (.ifCond .eq 7, 3) := by decide +kernel
theorem dL_law_2302 : decode cL_law 2302 = .ok (.lconst 1, 1) := by decide +kernel
theorem dL_law_2303 : decode cL_law 2303 = .ok (.goto 4, 3) := by decide +kernel
theorem dL_law_2306 : decode cL_law 2306 = .ok (.lconst 0, 1) := by decide +kernel
theorem dL_law_2307 : decode cL_law 2307 = .ok (.lcmp, 1) := by decide +kernel
theorem dL_law_2308 : decode cL_law 2308 = .ok (.ifCond .eq 5, 3) := by decide +kernel
theorem dL_law_2311 : decode cL_law 2311 = .ok (.iconst 0, 1) := by decide +kernel
theorem dL_law_2312 : decode cL_law 2312 = .ok (.ireturn, 1) := by decide +kernel
theorem dL_law_2313 : decode cL_law 2313 = .ok (.goto 1007, 3) := by decide +kernel
set_option maxRecDepth 100000 in
set_option maxHeartbeats 4000000 in
theorem law_34 {l : Launch} {g : Nat → Nat} {nm ds : String} {tb : List ExceptionTableEntry} {L mc ms : Nat} {Po : Res → LH → Prop} {X : CX} {M : LH} {k0 n0 : Nat} (htr : l.stackTraces = false) {b SN : Nat} {xs : Nat → Int32} (hX : Sc b SN xs X) {kd : Nat → Nat} {p : Nat} {q a : Nat → Nat} {e8 : Int32 → Nat} {v : Int32 → Int32} {sv : Int32} {sa : Int32 → Int32} {ch : Int32} {pa tx : Int32 → Int32} {tn : Int32} {Ls : List Int32} {ea fl : Int32} {m : Nat} {w : Nat → Nat} {t bf he en wr dg : Int32} {b4 fr th bs li lf to : Int32 → Int32} {out outD : Nat} {N : Nat} (hP : Pg kd M p q a e8 v sv sa ch pa tx tn Ls ea fl) (hM : Md kd 30 M m w t ch ea fl sv bf tn he en (nI Ls.length) wr dg v b4 sa pa fr th bs tx li lf to) (hS : Lw N v sv sa ch pa tn Ls ea fl li) (hN : N ≤ 512) {h0 : Nat → Int64} (hO : M out = some (la 1 h0)) (ko : kd out = 31) {h2 : Nat → UInt64} (hO2 : M outD = some (da 1 h2)) (ko2 : kd outD = 31) {i : Int32} (hi : ∀ j : Int32, 1 ≤ j → j ≤ 5 → 0 ≤ i + j ∧ (i + j).toNatClampNeg < SN) (hL : 30 ≤ L) (hk : k0 + 8 ≤ mc) (hn : n0 + 600 ≤ ms) {z6 z7 z8 : Option Value} (kk : ∀ (M' : LH) (z6 z7 z8 : Option Value), LI p m out outD (N + 1) M' → V l g ⟨"SledgePostLaw", nm, ds⟩ cL_law (some .boolean) tb L mc ms Po X M' (k0 + 8) (n0 + 600) 3320 [some (.ref b), some (.ref p), some (.ref m), some (.ref out), some (.ref outD), some (.int i), z6, z7, z8] []) : V l g ⟨"SledgePostLaw", nm, ds⟩ cL_law (some .boolean) tb L mc ms Po X M k0 n0 2253 [some (.ref b), some (.ref p), some (.ref m), some (.ref out), some (.ref outD), some (.int i), z6, z7, z8] [] := by
  obtain ⟨hG, hSy, hv4⟩ := hS.1
  obtain ⟨-, -, -, -, ⟨tn0, tn60⟩, ⟨ea1, fl1⟩, ⟨hTl, hLs⟩, c0, c8⟩ := _root_.id hS
  obtain ⟨h461, h46⟩ := hS.1.r hN
  obtain ⟨hs0, old0, ⟨hpO, -⟩, -⟩ := _root_.id hP
  refine v_aload_n dL_law_2253 rfl rfl ?_
  refine v_aload_n dL_law_2254 rfl rfl ?_
  refine v_iload dL_law_2255 rfl ?_
  refine v_iconst (v := 1) dL_law_2257 (by decide) ?_
  refine v_iadd dL_law_2258 ?_
  refine v_sld hX dL_law_2259 (hi 1 (by decide) (by decide)).1 (hi 1 (by decide) (by decide)).2 ?_
  refine v_aload_n dL_law_2260 rfl rfl ?_
  refine kl_298 dL_law_2261 rfl (w_L_isOpen htr (f_isOpen htr hP (xs (i + 1).toNatClampNeg)) hpO (fun r M9 h9 => ⟨_, (h9.2.2.2 out (by rw [ko]; decide)).trans hO⟩) (fun E M9 h9 => h9.2.1)) (by omega) (by omega) (by omega) (Nat.le_of_ble_eq_true rfl) (fun r9 M9 h9 => ?_) (fun _ _ h9 => h9.elim)
  rcases h9 with ⟨rfl, r, M8, h8, ⟨hc, rfl, hP8, hF8⟩, hh, rfl⟩ | ⟨E, ⟨hc, hE0, hP8, hF8⟩, hE⟩
  · skip
    have f31 : Fs kd (fun r => r = 31) M8 (hup M8 out (la 1 h8)) := fun x hx => hup_n (fun z => hx (by rw [z]; exact ko))
    have hP9 := hP8.fs f31 (fun r h => by omega)
    have hM9 := (hM.tp (hF8.t 30 (Nat.le_refl _))).tp (f31.tp (by decide))
    have hO9 := up_k (e' := la 1 h8) ((hF8 outD (by rw [ko2]; decide)).trans hO2) ((hF8 out (by rw [ko]; decide)).trans hO) da_la
    refine v_istore_6 dL_law_2264 ?_
    refine v_aload_n dL_law_2266 rfl rfl ?_
    refine v_aload_n dL_law_2267 rfl rfl ?_
    refine v_iload dL_law_2268 rfl ?_
    refine v_iconst (v := 1) dL_law_2270 (by decide) ?_
    refine v_iadd dL_law_2271 ?_
    refine v_sld hX dL_law_2272 (hi 1 (by decide) (by decide)).1 (hi 1 (by decide) (by decide)).2 ?_
    refine k_L_300 dL_law_2273 rfl (r_isOpen htr hM9 hG (xs (i + 1).toNatClampNeg)) hM9.1 (by omega) (by omega) (by omega) (Nat.le_of_ble_eq_true rfl) (fun r2273 M9 h9 => ?_) (fun _ _ h9 => h9.elim)
    obtain ⟨h9, hF9⟩ := h9
    rcases h9 with ⟨-, rfl, hC⟩ | ⟨hn, -⟩
    rotate_left
    · exact absurd hc hn
    have hOA := LR1 (kd := kd) hup_s ko hF9
    have hOD := LR1 hO9 ko2 hF9
    refine v_istore_7 dL_law_2276 ?_
    refine v_aload_n dL_law_2278 rfl rfl ?_
    refine k_L_189 dL_law_2279 rfl (r_thrown htr hC) hC.1 (by omega) (by omega) (by omega) (Nat.le_of_ble_eq_true rfl) (fun r2279 M9 h9 => ?_) (fun _ _ h9 => h9.elim)
    obtain ⟨rfl, e9⟩ := h9
    subst M9
    refine v_iload dL_law_2282 rfl ?_
    refine v_icmp_eq (tgt := 2289) dL_law_2284 (by decide) (fun h2284 => ?_) (fun h2284 => ?_)
    · refine v_iload dL_law_2289 rfl ?_
      refine v_if_ne (tgt := 2313) dL_law_2291 (by decide) (fun h2291 => ?_) (fun h2291 => ?_)
      · exact absurd rfl h2291
      · refine v_aload_n dL_law_2294 rfl rfl ?_
        refine v_iconst (v := 0) dL_law_2295 (by decide) ?_
        refine v_lald dL_law_2296 hOA ?_
        refine v_iload dL_law_2297 rfl ?_
        refine v_if_eq (tgt := 2306) dL_law_2299 (by decide) (fun h2299 => ?_) (fun h2299 => ?_)
        · refine v_lconst (v := 0) dL_law_2306 (by decide) ?_
          refine v_lcmp dL_law_2307 ?_
          rw [hh]
          first | rw [if_pos h2299, lg_self] | rw [if_neg h2299, lg_self]
          refine v_if_eq (tgt := 2313) dL_law_2308 (by decide) (fun h2308 => ?_) (fun h2308 => ?_)
          · refine v_goto (tgt := 3320) dL_law_2313 (by decide) ?_
            refine V.wid (k' := k0 + 8) (n' := n0 + 600) (by omega) (by omega) (kk _ _ _ _ ?_)
            exact ⟨kd, q, a, e8, v, _, sa, _, pa, tx, tn, Ls, _, _, w, _, _, _, _, _, _, _, _, _, _, _, _, _, (hP9.fs (Frm.fs (S := fun r => r = 30) hF9 rfl) (fun r h => by omega)), hC, hS.up, ⟨⟨_, hOA⟩, ko⟩, ⟨_, hOD⟩, ko2⟩
          · exact absurd rfl h2308
        · refine v_lconst (v := 1) dL_law_2302 (by decide) ?_
          refine v_goto (tgt := 2307) dL_law_2303 (by decide) ?_
          refine v_lcmp dL_law_2307 ?_
          rw [hh]
          first | rw [if_pos h2299, lg_self] | rw [if_neg h2299, lg_self]
          refine v_if_eq (tgt := 2313) dL_law_2308 (by decide) (fun h2308 => ?_) (fun h2308 => ?_)
          · refine v_goto (tgt := 3320) dL_law_2313 (by decide) ?_
            refine V.wid (k' := k0 + 8) (n' := n0 + 600) (by omega) (by omega) (kk _ _ _ _ ?_)
            exact ⟨kd, q, a, e8, v, _, sa, _, pa, tx, tn, Ls, _, _, w, _, _, _, _, _, _, _, _, _, _, _, _, _, (hP9.fs (Frm.fs (S := fun r => r = 30) hF9 rfl) (fun r h => by omega)), hC, hS.up, ⟨⟨_, hOA⟩, ko⟩, ⟨_, hOD⟩, ko2⟩
          · exact absurd rfl h2308
    · exact absurd rfl h2284
  · skip
    have hM9 := hM.tp (hF8.t 30 (Nat.le_refl _))
    have hO8 := (hF8 out (by rw [ko]; decide)).trans hO
    have hO9 := (hF8 outD (by rw [ko2]; decide)).trans hO2
    obtain ⟨-, rfl⟩ := hE
    refine v_istore_6 dL_law_2264 ?_
    refine v_aload_n dL_law_2266 rfl rfl ?_
    refine v_aload_n dL_law_2267 rfl rfl ?_
    refine v_iload dL_law_2268 rfl ?_
    refine v_iconst (v := 1) dL_law_2270 (by decide) ?_
    refine v_iadd dL_law_2271 ?_
    refine v_sld hX dL_law_2272 (hi 1 (by decide) (by decide)).1 (hi 1 (by decide) (by decide)).2 ?_
    refine k_L_300 dL_law_2273 rfl (r_isOpen htr hM9 hG (xs (i + 1).toNatClampNeg)) hM9.1 (by omega) (by omega) (by omega) (Nat.le_of_ble_eq_true rfl) (fun r2273 M9 h9 => ?_) (fun _ _ h9 => h9.elim)
    obtain ⟨h9, hF9⟩ := h9
    rcases h9 with ⟨hn, -⟩ | ⟨-, rfl, hC⟩
    · first | exact absurd hn hc | exact absurd hc hn
    have hOA := LR1 hO8 ko hF9
    have hOD := LR1 hO9 ko2 hF9
    refine v_istore_7 dL_law_2276 ?_
    refine v_aload_n dL_law_2278 rfl rfl ?_
    refine k_L_189 dL_law_2279 rfl (r_thrown htr hC) hC.1 (by omega) (by omega) (by omega) (Nat.le_of_ble_eq_true rfl) (fun r2279 M9 h9 => ?_) (fun _ _ h9 => h9.elim)
    obtain ⟨rfl, e9⟩ := h9
    subst M9
    refine v_iload dL_law_2282 rfl ?_
    refine v_icmp_eq (tgt := 2289) dL_law_2284 (by decide) (fun h2284 => ?_) (fun h2284 => ?_)
    · refine v_iload dL_law_2289 rfl ?_
      refine v_if_ne (tgt := 2313) dL_law_2291 (by decide) (fun h2291 => ?_) (fun h2291 => ?_)
      · refine v_goto (tgt := 3320) dL_law_2313 (by decide) ?_
        refine V.wid (k' := k0 + 8) (n' := n0 + 600) (by omega) (by omega) (kk _ _ _ _ ?_)
        exact ⟨kd, q, a, e8, v, _, sa, _, pa, tx, tn, Ls, _, _, w, _, _, _, _, _, _, _, _, _, _, _, _, _, (hP8.fs (Frm.fs (S := fun r => r = 30) hF9 rfl) (fun r h => by omega)), hC, hS.up, ⟨⟨_, hOA⟩, ko⟩, ⟨_, hOD⟩, ko2⟩
      · exact absurd h2291 (by decide)
    · exact absurd rfl h2284
