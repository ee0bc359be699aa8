/-! ===== the law: the calls that change the post ===== -/
theorem da_la {n n2 : Nat} {f : Nat → UInt64} {f2 : Nat → Int64} : da n f ≠ la n2 f2 := fun z => nomatch z
theorem vx_addStation {v : Int32 → Int32} (h : ¬ vdStation v = 0) : (exV (vdStation v) = "java/lang/IllegalStateException" ∧ fcI 0 (vdStation v) = 1) := by
  have z : vdStation v = 0 ∨ vdStation v = 4 := by
    unfold vdStation
    (repeat' split) <;> decide
  rcases z with z | z <;> rw [z] at h ⊢ <;> first | exact absurd rfl h | exact ⟨rfl, rfl⟩
theorem dL_law_296 : decode cL_law 296 = .ok (.aload_n 1, 1) := by decide +kernel
theorem dL_law_297 : decode cL_law 297 = .ok (.aload_n 3, 1) := by decide +kernel
theorem dL_law_298 : decode cL_law 298 = .ok (.invokestatic 183, 3) := by decide +kernel
theorem dL_law_301 : decode cL_law 301 = .ok (.istore 6, 2) := by decide +kernel
theorem dL_law_303 : decode cL_law 303 = .ok (.aload_n 2, 1) := by decide +kernel
theorem dL_law_304 : decode cL_law 304 = .ok (.invokevirtual 188, 3) := by decide +kernel
theorem dL_law_307 : decode cL_law 307 = .ok (.istore 7, 2) := by decide +kernel
theorem dL_law_309 : decode cL_law 309 = .ok (.aload_n 2, 1) := by decide +kernel
theorem dL_law_310 : decode cL_law 310 = .ok (.invokevirtual 189, 3) := by decide +kernel
theorem dL_law_313 : decode cL_law 313 = .ok (.iload 6, 2) := by decide +kernel
theorem dL_law_315 : decode cL_law 315 = .ok (.if_icmp .eq 5, 3) := by decide +kernel
theorem dL_law_318 : decode cL_law 318 = .ok (.iconst 0, 1) := by decide +kernel
theorem dL_law_319 : decode cL_law 319 = .ok (.ireturn, 1) := by decide +kernel
theorem dL_law_320 : decode cL_law 320 = .ok (.iload 6, 2) := by decide +kernel
theorem dL_law_322 : decode cL_law 322 = .ok (.ifCond .ne 15, 3) := by decide +kernel
theorem dL_law_325 : decode cL_law 325 = .ok (.aload_n 3, 1) := by decide +kernel
theorem dL_law_326 : decode cL_law 326 = .ok (.iconst 0, 1) := by decide +kernel
theorem dL_law_327 : decode cL_law 327 = .ok (.laload, 1) := by decide +kernel
theorem dL_law_328 : decode cL_law 328 = .ok (.iload 7, 2) := by decide +kernel
theorem dL_law_330 : decode cL_law 330 = .ok (.i2l, 1) := by decide +kernel
theorem dL_law_331 : decode cL_law 331 = .ok (.lcmp, 1) := by decide +kernel
theorem dL_law_332 : decode cL_law 332 = .ok (.ifCond .eq 5, 3) := by decide +kernel
theorem dL_law_335 : decode cL_law 335 = .ok (.iconst 0, 1) := by decide +kernel
theorem dL_law_336 : decode cL_law 336 = .ok (.ireturn, 1) := by decide +kernel
theorem dL_law_337 : decode cL_law 337 = .ok (.goto 2983, 3) := by decide +kernel
set_option maxRecDepth 100000 in
set_option maxHeartbeats 4000000 in
theorem law_0 {l : Launch} {g : Nat → Nat} {nm ds : String} {tb : List ExceptionTableEntry} {L mc ms : Nat} {Po : Res → LH → Prop} {X : CX} {M : LH} {k0 n0 : Nat} (htr : l.stackTraces = false) {b SN : Nat} {xs : Nat → Int32} (hX : Sc b SN xs X) {kd : Nat → Nat} {p : Nat} {q a : Nat → Nat} {e8 : Int32 → Nat} {v : Int32 → Int32} {sv : Int32} {sa : Int32 → Int32} {ch : Int32} {pa tx : Int32 → Int32} {tn : Int32} {Ls : List Int32} {ea fl : Int32} {m : Nat} {w : Nat → Nat} {t bf he en wr dg : Int32} {b4 fr th bs li lf to : Int32 → Int32} {out outD : Nat} {N : Nat} (hP : Pg kd M p q a e8 v sv sa ch pa tx tn Ls ea fl) (hM : Md kd 30 M m w t ch ea fl sv bf tn he en (nI Ls.length) wr dg v b4 sa pa fr th bs tx li lf to) (hS : Lw N v sv sa ch pa tn Ls ea fl li) (hN : N ≤ 512) {h0 : Nat → Int64} (hO : M out = some (la 1 h0)) (ko : kd out = 31) {h2 : Nat → UInt64} (hO2 : M outD = some (da 1 h2)) (ko2 : kd outD = 31) {i : Int32} (hi : ∀ j : Int32, 1 ≤ j → j ≤ 5 → 0 ≤ i + j ∧ (i + j).toNatClampNeg < SN) (hL : 30 ≤ L) (hk : k0 + 8 ≤ mc) (hn : n0 + 600 ≤ ms) {z6 z7 z8 : Option Value} (kk : ∀ (M' : LH) (z6 z7 z8 : Option Value), LI p m out outD (N + 1) M' → V l g ⟨"SledgePostLaw", nm, ds⟩ cL_law (some .boolean) tb L mc ms Po X M' (k0 + 8) (n0 + 600) 3320 [some (.ref b), some (.ref p), some (.ref m), some (.ref out), some (.ref outD), some (.int i), z6, z7, z8] []) : V l g ⟨"SledgePostLaw", nm, ds⟩ cL_law (some .boolean) tb L mc ms Po X M k0 n0 296 [some (.ref b), some (.ref p), some (.ref m), some (.ref out), some (.ref outD), some (.int i), z6, z7, z8] [] := by
  obtain ⟨hG, hSy, hv4⟩ := hS.1
  obtain ⟨-, -, -, -, ⟨tn0, tn60⟩, ⟨ea1, fl1⟩, ⟨hTl, hLs⟩, c0, c8⟩ := _root_.id hS
  obtain ⟨h461, h46⟩ := hS.1.r hN
  obtain ⟨hs0, old0, ⟨hpO, -⟩, -⟩ := _root_.id hP
  refine v_aload_n dL_law_296 rfl rfl ?_
  refine v_aload_n dL_law_297 rfl rfl ?_
  refine kl_183 dL_law_298 rfl (w_L_addStation htr (f_addStation htr hP ) hpO (fun r M9 h9 => ⟨_, (h9.2.2.elim (fun _ z => z.2.2) out (by rw [ko]; decide)).trans hO⟩) (fun E M9 h9 => by obtain ⟨e1, rfl, -, -⟩ := h9; exact (vx_addStation e1).1)) (by omega) (by omega) (by omega) (Nat.le_of_ble_eq_true rfl) (fun r9 M9 h9 => ?_) (fun _ _ h9 => h9.elim)
  rcases h9 with ⟨rfl, r, M8, h8, ⟨hvd, rfl, pa1, hPa, hP8, hF8⟩, hh, rfl⟩ | ⟨E, ⟨hvd, hE0, hP8, hF8⟩, hE⟩
  · skip
    have f31 : Fs kd (fun r => r = 31) M8 (hup M8 out (la 1 h8)) := fun x hx => hup_n (fun z => hx (by rw [z]; exact ko))
    have hP9 := hP8.fs f31 (fun r h => by omega)
    have hM9 := (hM.tp (hF8.t 30 (Nat.le_refl _))).tp (f31.tp (by decide))
    have hO9 := up_k (e' := la 1 h8) ((hF8 outD (by rw [ko2]; decide)).trans hO2) ((hF8 out (by rw [ko]; decide)).trans hO) da_la
    refine v_istore_6 dL_law_301 ?_
    refine v_aload_n dL_law_303 rfl rfl ?_
    refine k_L_188 dL_law_304 rfl (r_addStation htr hM9 hG c0 c8 ) hM9.1 (by omega) (by omega) (by omega) (Nat.le_of_ble_eq_true rfl) (fun r304 M9 h9 => ?_) (fun _ _ h9 => h9.elim)
    obtain ⟨b5, pa2, h9, hF9⟩ := h9
    rcases h9 with ⟨-, rfl, hPa2, hC⟩ | ⟨hv2, -⟩
    rotate_left
    · exact absurd hvd hv2
    have hOA := LR1 (kd := kd) hup_s ko hF9
    have hOD := LR1 hO9 ko2 hF9
    refine v_istore_7 dL_law_307 ?_
    refine v_aload_n dL_law_309 rfl rfl ?_
    refine k_L_189 dL_law_310 rfl (r_thrown htr hC) hC.1 (by omega) (by omega) (by omega) (Nat.le_of_ble_eq_true rfl) (fun r310 M9 h9 => ?_) (fun _ _ h9 => h9.elim)
    obtain ⟨rfl, e9⟩ := h9
    subst M9
    refine v_iload dL_law_313 rfl ?_
    refine v_icmp_eq (tgt := 320) dL_law_315 (by decide) (fun h315 => ?_) (fun h315 => ?_)
    · refine v_iload dL_law_320 rfl ?_
      refine v_if_ne (tgt := 337) dL_law_322 (by decide) (fun h322 => ?_) (fun h322 => ?_)
      · exact absurd rfl h322
      · refine v_aload_n dL_law_325 rfl rfl ?_
        refine v_iconst (v := 0) dL_law_326 (by decide) ?_
        refine v_lald dL_law_327 hOA ?_
        refine v_iload dL_law_328 rfl ?_
        refine v_i2l dL_law_330 ?_
        refine v_lcmp dL_law_331 ?_
        rw [hh, lg_self]
        refine v_if_eq (tgt := 337) dL_law_332 (by decide) (fun h332 => ?_) (fun h332 => ?_)
        · refine v_goto (tgt := 3320) dL_law_337 (by decide) ?_
          refine V.wid (k' := k0 + 8) (n' := n0 + 600) (by omega) (by omega) (kk _ _ _ _ ?_)
          exact ⟨kd, q, a, e8, _, sv, sa, _, pa2, tx, tn, Ls, ea, fl, w, _, _, _, _, _, _, _, _, _, _, _, _, _, (hP9.fs (Frm.fs (S := fun r => r = 30) hF9 rfl) (fun r h => by omega)).pa (PaS.un c0 c8 hPa hPa2), hC, hS.ch (hS.1.go hN (S := (fun _ : Int32 => 0)) (i := 0) (by decide) hvd ⟨rfl, rfl⟩) hPa2, ⟨⟨_, hOA⟩, ko⟩, ⟨_, hOD⟩, ko2⟩
        · exact absurd rfl h332
    · exact absurd rfl h315
  · skip
    have hM9 := hM.tp (hF8.t 30 (Nat.le_refl _))
    have hO8 := (hF8 out (by rw [ko]; decide)).trans hO
    have hO9 := (hF8 outD (by rw [ko2]; decide)).trans hO2
    have hr : r9 = fcI 0 (vdStation v) := by
      obtain ⟨x1, x2⟩ := vx_addStation hvd
      exact hE.2.trans x2.symm
    subst hr
    refine v_istore_6 dL_law_301 ?_
    refine v_aload_n dL_law_303 rfl rfl ?_
    refine k_L_188 dL_law_304 rfl (r_addStation htr hM9 hG c0 c8 ) hM9.1 (by omega) (by omega) (by omega) (Nat.le_of_ble_eq_true rfl) (fun r304 M9 h9 => ?_) (fun _ _ h9 => h9.elim)
    obtain ⟨b5, pa2, h9, hF9⟩ := h9
    rcases h9 with ⟨hv2, -⟩ | ⟨-, rfl, pa2q, rfl, hC⟩
    · exact absurd hv2 hvd
    have hOA := LR1 hO8 ko hF9
    have hOD := LR1 hO9 ko2 hF9
    refine v_istore_7 dL_law_307 ?_
    refine v_aload_n dL_law_309 rfl rfl ?_
    refine k_L_189 dL_law_310 rfl (r_thrown htr hC) hC.1 (by omega) (by omega) (by omega) (Nat.le_of_ble_eq_true rfl) (fun r310 M9 h9 => ?_) (fun _ _ h9 => h9.elim)
    obtain ⟨rfl, e9⟩ := h9
    subst M9
    refine v_iload dL_law_313 rfl ?_
    refine v_icmp_eq (tgt := 320) dL_law_315 (by decide) (fun h315 => ?_) (fun h315 => ?_)
    · refine v_iload dL_law_320 rfl ?_
      refine v_if_ne (tgt := 337) dL_law_322 (by decide) (fun h322 => ?_) (fun h322 => ?_)
      · refine v_goto (tgt := 3320) dL_law_337 (by decide) ?_
        refine V.wid (k' := k0 + 8) (n' := n0 + 600) (by omega) (by omega) (kk _ _ _ _ ?_)
        exact ⟨kd, q, a, e8, v, sv, sa, ch, _, tx, tn, Ls, ea, fl, w, _, _, _, _, _, _, _, _, _, _, _, _, _, hP8.fs (Frm.fs (S := fun r => r = 30) hF9 rfl) (fun r h => by omega), hC, hS.up, ⟨⟨_, hOA⟩, ko⟩, ⟨_, hOD⟩, ko2⟩
      · exact absurd h322 fcI_nz
    · exact absurd rfl h315
theorem vx_setRoad {v : Int32 → Int32} {s : Int32} {t : Int32} {n : Int32} (h : ¬ vdRoad v s t n = 0) : (exV (vdRoad v s t n) = "java/lang/IndexOutOfBoundsException" ∧ fcI 1 (vdRoad v s t n) = 1) ∨ (exV (vdRoad v s t n) = "java/lang/IllegalArgumentException" ∧ fcI 1 (vdRoad v s t n) = 2) := by
  have z : vdRoad v s t n = 0 ∨ vdRoad v s t n = 1 ∨ vdRoad v s t n = 2 := by
    unfold vdRoad
    (repeat' split) <;> decide
  rcases z with z | z | z <;> rw [z] at h ⊢ <;> first | exact absurd rfl h | exact Or.inl ⟨rfl, rfl⟩ | exact Or.inr (⟨rfl, rfl⟩)
theorem dL_law_340 : decode cL_law 340 = .ok (.aload_n 1, 1) := by decide +kernel
theorem dL_law_341 : decode cL_law 341 = .ok (.aload_n 0, 1) := by decide +kernel
theorem dL_law_342 : decode cL_law 342 = .ok (.iload 5, 2) := by decide +kernel
theorem dL_law_344 : decode cL_law 344 = .ok (.iconst 1, 1) := by decide +kernel
theorem dL_law_345 : decode cL_law 345 = .ok (.iadd, 1) := by decide +kernel
theorem dL_law_346 : decode cL_law 346 = .ok (.iaload, 1) := by decide +kernel
theorem dL_law_347 : decode cL_law 347 = .ok (.aload_n 0, 1) := by decide +kernel
theorem dL_law_348 : decode cL_law 348 = .ok (.iload 5, 2) := by decide +kernel
theorem dL_law_350 : decode cL_law 350 = .ok (.iconst 2, 1) := by decide +kernel
theorem dL_law_351 : decode cL_law 351 = .ok (.iadd, 1) := by decide +kernel
theorem dL_law_352 : decode cL_law 352 = .ok (.iaload, 1) := by decide +kernel
theorem dL_law_353 : decode cL_law 353 = .ok (.aload_n 0, 1) := by decide +kernel
theorem dL_law_354 : decode cL_law 354 = .ok (.iload 5, 2) := by decide +kernel
theorem dL_law_356 : decode cL_law 356 = .ok (.iconst 3, 1) := by decide +kernel
theorem dL_law_357 : decode cL_law 357 = .ok (.iadd, 1) := by decide +kernel
theorem dL_law_358 : decode cL_law 358 = .ok (.iaload, 1) := by decide +kernel
theorem dL_law_359 : decode cL_law 359 = .ok (.aload_n 3, 1) := by decide +kernel
theorem dL_law_360 : decode cL_law 360 = .ok (.invokestatic 192, 3) := by decide +kernel
theorem dL_law_363 : decode cL_law 363 = .ok (.istore 6, 2) := by decide +kernel
theorem dL_law_365 : decode cL_law 365 = .ok (.aload_n 2, 1) := by decide +kernel
theorem dL_law_366 : decode cL_law 366 = .ok (.aload_n 0, 1) := by decide +kernel
theorem dL_law_367 : decode cL_law 367 = .ok (.iload 5, 2) := by decide +kernel
theorem dL_law_369 : decode cL_law 369 = .ok (.iconst 1, 1) := by decide +kernel
theorem dL_law_370 : decode cL_law 370 = .ok (.iadd, 1) := by decide +kernel
theorem dL_law_371 : decode cL_law 371 = .ok (.iaload, 1) := by decide +kernel
theorem dL_law_372 : decode cL_law 372 = .ok (.aload_n 0, 1) := by decide +kernel
theorem dL_law_373 : decode cL_law 373 = .ok (.iload 5, 2) := by decide +kernel
theorem dL_law_375 : decode cL_law 375 = .ok (.iconst 2, 1) := by decide +kernel
theorem dL_law_376 : decode cL_law 376 = .ok (.iadd, 1) := by decide +kernel
theorem dL_law_377 : decode cL_law 377 = .ok (.iaload, 1) := by decide +kernel
theorem dL_law_378 : decode cL_law 378 = .ok (.aload_n 0, 1) := by decide +kernel
theorem dL_law_379 : decode cL_law 379 = .ok (.iload 5, 2) := by decide +kernel
theorem dL_law_381 : decode cL_law 381 = .ok (.iconst 3, 1) := by decide +kernel
theorem dL_law_382 : decode cL_law 382 = .ok (.iadd, 1) := by decide +kernel
theorem dL_law_383 : decode cL_law 383 = .ok (.iaload, 1) := by decide +kernel
theorem dL_law_384 : decode cL_law 384 = .ok (.invokevirtual 195, 3) := by decide +kernel
theorem dL_law_387 : decode cL_law 387 = .ok (.istore 7, 2) := by decide +kernel
theorem dL_law_389 : decode cL_law 389 = .ok (.aload_n 2, 1) := by decide +kernel
theorem dL_law_390 : decode cL_law 390 = .ok (.invokevirtual 189, 3) := by decide +kernel
theorem dL_law_393 : decode cL_law 393 = .ok (.iload 6, 2) := by decide +kernel
theorem dL_law_395 : decode cL_law 395 = .ok (.if_icmp .eq 5, 3) := by decide +kernel
theorem dL_law_398 : decode cL_law 398 = .ok (.iconst 0, 1) := by decide +kernel
theorem dL_law_399 : decode cL_law 399 = .ok (.ireturn, 1) := by decide +kernel
theorem dL_law_400 : decode cL_law 400 = .ok (.iload 6, 2) := by decide +kernel
theorem dL_law_402 : decode cL_law 402 = .ok (.ifCond .ne 15, 3) := by decide +kernel
theorem dL_law_405 : decode cL_law 405 = .ok (.aload_n 3, 1) := by decide +kernel
theorem dL_law_406 : decode cL_law 406 = .ok (.iconst 0, 1) := by decide +kernel
theorem dL_law_407 : decode cL_law 407 = .ok (.laload, 1) := by decide +kernel
theorem dL_law_408 : decode cL_law 408 = .ok (.iload 7, 2) := by decide +kernel
theorem dL_law_410 : decode cL_law 410 = .ok (.i2l, 1) := by decide +kernel
theorem dL_law_411 : decode cL_law 411 = .ok (.lcmp, 1) := by decide +kernel
theorem dL_law_412 : decode cL_law 412 = .ok (.ifCond .eq 5, 3) := by decide +kernel
theorem dL_law_415 : decode cL_law 415 = .ok (.iconst 0, 1) := by decide +kernel
theorem dL_law_416 : decode cL_law 416 = .ok (.ireturn, 1) := by decide +kernel
theorem dL_law_417 : decode cL_law 417 = .ok (.goto 2903, 3) := by decide +kernel
set_option maxRecDepth 100000 in
set_option maxHeartbeats 4000000 in
theorem law_1 {l : Launch} {g : Nat → Nat} {nm ds : String} {tb : List ExceptionTableEntry} {L mc ms : Nat} {Po : Res → LH → Prop} {X : CX} {M : LH} {k0 n0 : Nat} (htr : l.stackTraces = false) {b SN : Nat} {xs : Nat → Int32} (hX : Sc b SN xs X) {kd : Nat → Nat} {p : Nat} {q a : Nat → Nat} {e8 : Int32 → Nat} {v : Int32 → Int32} {sv : Int32} {sa : Int32 → Int32} {ch : Int32} {pa tx : Int32 → Int32} {tn : Int32} {Ls : List Int32} {ea fl : Int32} {m : Nat} {w : Nat → Nat} {t bf he en wr dg : Int32} {b4 fr th bs li lf to : Int32 → Int32} {out outD : Nat} {N : Nat} (hP : Pg kd M p q a e8 v sv sa ch pa tx tn Ls ea fl) (hM : Md kd 30 M m w t ch ea fl sv bf tn he en (nI Ls.length) wr dg v b4 sa pa fr th bs tx li lf to) (hS : Lw N v sv sa ch pa tn Ls ea fl li) (hN : N ≤ 512) {h0 : Nat → Int64} (hO : M out = some (la 1 h0)) (ko : kd out = 31) {h2 : Nat → UInt64} (hO2 : M outD = some (da 1 h2)) (ko2 : kd outD = 31) {i : Int32} (hi : ∀ j : Int32, 1 ≤ j → j ≤ 5 → 0 ≤ i + j ∧ (i + j).toNatClampNeg < SN) (hL : 30 ≤ L) (hk : k0 + 8 ≤ mc) (hn : n0 + 600 ≤ ms) {z6 z7 z8 : Option Value} (kk : ∀ (M' : LH) (z6 z7 z8 : Option Value), LI p m out outD (N + 1) M' → V l g ⟨"SledgePostLaw", nm, ds⟩ cL_law (some .boolean) tb L mc ms Po X M' (k0 + 8) (n0 + 600) 3320 [some (.ref b), some (.ref p), some (.ref m), some (.ref out), some (.ref outD), some (.int i), z6, z7, z8] []) : V l g ⟨"SledgePostLaw", nm, ds⟩ cL_law (some .boolean) tb L mc ms Po X M k0 n0 340 [some (.ref b), some (.ref p), some (.ref m), some (.ref out), some (.ref outD), some (.int i), z6, z7, z8] [] := by
  obtain ⟨hG, hSy, hv4⟩ := hS.1
  obtain ⟨-, -, -, -, ⟨tn0, tn60⟩, ⟨ea1, fl1⟩, ⟨hTl, hLs⟩, c0, c8⟩ := _root_.id hS
  obtain ⟨h461, h46⟩ := hS.1.r hN
  obtain ⟨hs0, old0, ⟨hpO, -⟩, -⟩ := _root_.id hP
  refine v_aload_n dL_law_340 rfl rfl ?_
  refine v_aload_n dL_law_341 rfl rfl ?_
  refine v_iload dL_law_342 rfl ?_
  refine v_iconst (v := 1) dL_law_344 (by decide) ?_
  refine v_iadd dL_law_345 ?_
  refine v_sld hX dL_law_346 (hi 1 (by decide) (by decide)).1 (hi 1 (by decide) (by decide)).2 ?_
  refine v_aload_n dL_law_347 rfl rfl ?_
  refine v_iload dL_law_348 rfl ?_
  refine v_iconst (v := 2) dL_law_350 (by decide) ?_
  refine v_iadd dL_law_351 ?_
  refine v_sld hX dL_law_352 (hi 2 (by decide) (by decide)).1 (hi 2 (by decide) (by decide)).2 ?_
  refine v_aload_n dL_law_353 rfl rfl ?_
  refine v_iload dL_law_354 rfl ?_
  refine v_iconst (v := 3) dL_law_356 (by decide) ?_
  refine v_iadd dL_law_357 ?_
  refine v_sld hX dL_law_358 (hi 3 (by decide) (by decide)).1 (hi 3 (by decide) (by decide)).2 ?_
  refine v_aload_n dL_law_359 rfl rfl ?_
  refine kl_192 dL_law_360 rfl (w_L_setRoad htr (f_setRoad htr hP (xs (i + 1).toNatClampNeg) (xs (i + 2).toNatClampNeg) (xs (i + 3).toNatClampNeg)) hpO (fun r M9 h9 => ⟨_, (h9.2.2.elim (fun _ z => z.2.2) out (by rw [ko]; decide)).trans hO⟩) (fun E M9 h9 => by obtain ⟨e1, rfl, -, -⟩ := h9; rcases vx_setRoad e1 with ⟨e2, -⟩ | ⟨e2, -⟩ <;> simp [e2])) (by omega) (by omega) (by omega) (Nat.le_of_ble_eq_true rfl) (fun r9 M9 h9 => ?_) (fun _ _ h9 => h9.elim)
  rcases h9 with ⟨rfl, r, M8, h8, ⟨hvd, rfl, pa1, hPa, hP8, hF8⟩, hh, rfl⟩ | ⟨E, ⟨hvd, hE0, hP8, hF8⟩, hE⟩
  · skip
    have f31 : Fs kd (fun r => r = 31) M8 (hup M8 out (la 1 h8)) := fun x hx => hup_n (fun z => hx (by rw [z]; exact ko))
    have hP9 := hP8.fs f31 (fun r h => by omega)
    have hM9 := (hM.tp (hF8.t 30 (Nat.le_refl _))).tp (f31.tp (by decide))
    have hO9 := up_k (e' := la 1 h8) ((hF8 outD (by rw [ko2]; decide)).trans hO2) ((hF8 out (by rw [ko]; decide)).trans hO) da_la
    refine v_istore_6 dL_law_363 ?_
    refine v_aload_n dL_law_365 rfl rfl ?_
    refine v_aload_n dL_law_366 rfl rfl ?_
    refine v_iload dL_law_367 rfl ?_
    refine v_iconst (v := 1) dL_law_369 (by decide) ?_
    refine v_iadd dL_law_370 ?_
    refine v_sld hX dL_law_371 (hi 1 (by decide) (by decide)).1 (hi 1 (by decide) (by decide)).2 ?_
    refine v_aload_n dL_law_372 rfl rfl ?_
    refine v_iload dL_law_373 rfl ?_
    refine v_iconst (v := 2) dL_law_375 (by decide) ?_
    refine v_iadd dL_law_376 ?_
    refine v_sld hX dL_law_377 (hi 2 (by decide) (by decide)).1 (hi 2 (by decide) (by decide)).2 ?_
    refine v_aload_n dL_law_378 rfl rfl ?_
    refine v_iload dL_law_379 rfl ?_
    refine v_iconst (v := 3) dL_law_381 (by decide) ?_
    refine v_iadd dL_law_382 ?_
    refine v_sld hX dL_law_383 (hi 3 (by decide) (by decide)).1 (hi 3 (by decide) (by decide)).2 ?_
    refine k_L_195 dL_law_384 rfl (r_setRoad htr hM9 hG c0 c8 (xs (i + 1).toNatClampNeg) (xs (i + 2).toNatClampNeg) (xs (i + 3).toNatClampNeg)) hM9.1 (by omega) (by omega) (by omega) (Nat.le_of_ble_eq_true rfl) (fun r384 M9 h9 => ?_) (fun _ _ h9 => h9.elim)
    obtain ⟨b5, pa2, h9, hF9⟩ := h9
    rcases h9 with ⟨-, rfl, hPa2, hC⟩ | ⟨hv2, -⟩
    rotate_left
    · exact absurd hvd hv2
    have hOA := LR1 (kd := kd) hup_s ko hF9
    have hOD := LR1 hO9 ko2 hF9
    refine v_istore_7 dL_law_387 ?_
    refine v_aload_n dL_law_389 rfl rfl ?_
    refine k_L_189 dL_law_390 rfl (r_thrown htr hC) hC.1 (by omega) (by omega) (by omega) (Nat.le_of_ble_eq_true rfl) (fun r390 M9 h9 => ?_) (fun _ _ h9 => h9.elim)
    obtain ⟨rfl, e9⟩ := h9
    subst M9
    refine v_iload dL_law_393 rfl ?_
    refine v_icmp_eq (tgt := 400) dL_law_395 (by decide) (fun h395 => ?_) (fun h395 => ?_)
    · refine v_iload dL_law_400 rfl ?_
      refine v_if_ne (tgt := 417) dL_law_402 (by decide) (fun h402 => ?_) (fun h402 => ?_)
      · exact absurd rfl h402
      · refine v_aload_n dL_law_405 rfl rfl ?_
        refine v_iconst (v := 0) dL_law_406 (by decide) ?_
        refine v_lald dL_law_407 hOA ?_
        refine v_iload dL_law_408 rfl ?_
        refine v_i2l dL_law_410 ?_
        refine v_lcmp dL_law_411 ?_
        rw [hh, lg_self]
        refine v_if_eq (tgt := 417) dL_law_412 (by decide) (fun h412 => ?_) (fun h412 => ?_)
        · refine v_goto (tgt := 3320) dL_law_417 (by decide) ?_
          refine V.wid (k' := k0 + 8) (n' := n0 + 600) (by omega) (by omega) (kk _ _ _ _ ?_)
          exact ⟨kd, q, a, e8, _, sv, sa, _, pa2, tx, tn, Ls, ea, fl, w, _, _, _, _, _, _, _, _, _, _, _, _, _, (hP9.fs (Frm.fs (S := fun r => r = 30) hF9 rfl) (fun r h => by omega)).pa (PaS.un c0 c8 hPa hPa2), hC, hS.ch (hS.1.go hN (S := (fun j : Int32 => ([(xs (i + 1).toNatClampNeg), (xs (i + 2).toNatClampNeg), (xs (i + 3).toNatClampNeg)] : List Int32).getD j.toNatClampNeg 0)) (i := 1) (by decide) hvd ⟨rfl, rfl⟩) hPa2, ⟨⟨_, hOA⟩, ko⟩, ⟨_, hOD⟩, ko2⟩
        · exact absurd rfl h412
    · exact absurd rfl h395
  · skip
    have hM9 := hM.tp (hF8.t 30 (Nat.le_refl _))
    have hO8 := (hF8 out (by rw [ko]; decide)).trans hO
    have hO9 := (hF8 outD (by rw [ko2]; decide)).trans hO2
    have hr : r9 = fcI 1 (vdRoad v (xs (i + 1).toNatClampNeg) (xs (i + 2).toNatClampNeg) (xs (i + 3).toNatClampNeg)) := by
      rcases vx_setRoad hvd with ⟨x1, x2⟩ | ⟨x1, x2⟩ <;> rcases hE with ⟨x3, x4⟩ | ⟨x3, x4⟩ <;> first | exact x4.trans x2.symm | exact absurd (x3.symm.trans (hE0.trans x1)) (by decide)
    subst hr
    refine v_istore_6 dL_law_363 ?_
    refine v_aload_n dL_law_365 rfl rfl ?_
    refine v_aload_n dL_law_366 rfl rfl ?_
    refine v_iload dL_law_367 rfl ?_
    refine v_iconst (v := 1) dL_law_369 (by decide) ?_
    refine v_iadd dL_law_370 ?_
    refine v_sld hX dL_law_371 (hi 1 (by decide) (by decide)).1 (hi 1 (by decide) (by decide)).2 ?_
    refine v_aload_n dL_law_372 rfl rfl ?_
    refine v_iload dL_law_373 rfl ?_
    refine v_iconst (v := 2) dL_law_375 (by decide) ?_
    refine v_iadd dL_law_376 ?_
    refine v_sld hX dL_law_377 (hi 2 (by decide) (by decide)).1 (hi 2 (by decide) (by decide)).2 ?_
    refine v_aload_n dL_law_378 rfl rfl ?_
    refine v_iload dL_law_379 rfl ?_
    refine v_iconst (v := 3) dL_law_381 (by decide) ?_
    refine v_iadd dL_law_382 ?_
    refine v_sld hX dL_law_383 (hi 3 (by decide) (by decide)).1 (hi 3 (by decide) (by decide)).2 ?_
    refine k_L_195 dL_law_384 rfl (r_setRoad htr hM9 hG c0 c8 (xs (i + 1).toNatClampNeg) (xs (i + 2).toNatClampNeg) (xs (i + 3).toNatClampNeg)) hM9.1 (by omega) (by omega) (by omega) (Nat.le_of_ble_eq_true rfl) (fun r384 M9 h9 => ?_) (fun _ _ h9 => h9.elim)
    obtain ⟨b5, pa2, h9, hF9⟩ := h9
    rcases h9 with ⟨hv2, -⟩ | ⟨-, rfl, pa2q, rfl, hC⟩
    · exact absurd hv2 hvd
    have hOA := LR1 hO8 ko hF9
    have hOD := LR1 hO9 ko2 hF9
    refine v_istore_7 dL_law_387 ?_
    refine v_aload_n dL_law_389 rfl rfl ?_
    refine k_L_189 dL_law_390 rfl (r_thrown htr hC) hC.1 (by omega) (by omega) (by omega) (Nat.le_of_ble_eq_true rfl) (fun r390 M9 h9 => ?_) (fun _ _ h9 => h9.elim)
    obtain ⟨rfl, e9⟩ := h9
    subst M9
    refine v_iload dL_law_393 rfl ?_
    refine v_icmp_eq (tgt := 400) dL_law_395 (by decide) (fun h395 => ?_) (fun h395 => ?_)
    · refine v_iload dL_law_400 rfl ?_
      refine v_if_ne (tgt := 417) dL_law_402 (by decide) (fun h402 => ?_) (fun h402 => ?_)
      · refine v_goto (tgt := 3320) dL_law_417 (by decide) ?_
        refine V.wid (k' := k0 + 8) (n' := n0 + 600) (by omega) (by omega) (kk _ _ _ _ ?_)
        exact ⟨kd, q, a, e8, v, sv, sa, ch, _, tx, tn, Ls, ea, fl, w, _, _, _, _, _, _, _, _, _, _, _, _, _, hP8.fs (Frm.fs (S := fun r => r = 30) hF9 rfl) (fun r h => by omega), hC, hS.up, ⟨⟨_, hOA⟩, ko⟩, ⟨_, hOD⟩, ko2⟩
      · exact absurd h402 fcI_nz
    · exact absurd rfl h395
theorem vx_addSledge {v : Int32 → Int32} {s : Int32} {n : Int32} (h : ¬ vdSledge v s n = 0) : (exV (vdSledge v s n) = "java/lang/IndexOutOfBoundsException" ∧ fcI 2 (vdSledge v s n) = 1) ∨ (exV (vdSledge v s n) = "java/lang/IllegalArgumentException" ∧ fcI 2 (vdSledge v s n) = 2) ∨ (exV (vdSledge v s n) = "java/lang/IllegalStateException" ∧ fcI 2 (vdSledge v s n) = 3) := by
  have z : vdSledge v s n = 0 ∨ vdSledge v s n = 1 ∨ vdSledge v s n = 2 ∨ vdSledge v s n = 4 := by
    unfold vdSledge
    (repeat' split) <;> decide
  rcases z with z | z | z | z <;> rw [z] at h ⊢ <;> first | exact absurd rfl h | exact Or.inl ⟨rfl, rfl⟩ | exact Or.inr (Or.inl ⟨rfl, rfl⟩) | exact Or.inr (Or.inr (⟨rfl, rfl⟩))
theorem dL_law_420 : decode cL_law 420 = .ok (.aload_n 1, 1) := by decide +kernel
theorem dL_law_421 : decode cL_law 421 = .ok (.aload_n 0, 1) := by decide +kernel
theorem dL_law_422 : decode cL_law 422 = .ok (.iload 5, 2) := by decide +kernel
theorem dL_law_424 : decode cL_law 424 = .ok (.iconst 1, 1) := by decide +kernel
theorem dL_law_425 : decode cL_law 425 = .ok (.iadd, 1) := by decide +kernel
theorem dL_law_426 : decode cL_law 426 = .ok (.iaload, 1) := by decide +kernel
theorem dL_law_427 : decode cL_law 427 = .ok (.aload_n 0, 1) := by decide +kernel
theorem dL_law_428 : decode cL_law 428 = .ok (.iload 5, 2) := by decide +kernel
theorem dL_law_430 : decode cL_law 430 = .ok (.iconst 2, 1) := by decide +kernel
theorem dL_law_431 : decode cL_law 431 = .ok (.iadd, 1) := by decide +kernel
theorem dL_law_432 : decode cL_law 432 = .ok (.iaload, 1) := by decide +kernel
theorem dL_law_433 : decode cL_law 433 = .ok (.aload_n 3, 1) := by decide +kernel
theorem dL_law_434 : decode cL_law 434 = .ok (.invokestatic 196, 3) := by decide +kernel
theorem dL_law_437 : decode cL_law 437 = .ok (.istore 6, 2) := by decide +kernel
theorem dL_law_439 : decode cL_law 439 = .ok (.aload_n 2, 1) := by decide +kernel
theorem dL_law_440 : decode cL_law 440 = .ok (.aload_n 0, 1) := by decide +kernel
theorem dL_law_441 : decode cL_law 441 = .ok (.iload 5, 2) := by decide +kernel
theorem dL_law_443 : decode cL_law 443 = .ok (.iconst 1, 1) := by decide +kernel
theorem dL_law_444 : decode cL_law 444 = .ok (.iadd, 1) := by decide +kernel
theorem dL_law_445 : decode cL_law 445 = .ok (.iaload, 1) := by decide +kernel
theorem dL_law_446 : decode cL_law 446 = .ok (.aload_n 0, 1) := by decide +kernel
theorem dL_law_447 : decode cL_law 447 = .ok (.iload 5, 2) := by decide +kernel
theorem dL_law_449 : decode cL_law 449 = .ok (.iconst 2, 1) := by decide +kernel
theorem dL_law_450 : decode cL_law 450 = .ok (.iadd, 1) := by decide +kernel
theorem dL_law_451 : decode cL_law 451 = .ok (.iaload, 1) := by decide +kernel
theorem dL_law_452 : decode cL_law 452 = .ok (.invokevirtual 199, 3) := by decide +kernel
theorem dL_law_455 : decode cL_law 455 = .ok (.istore 7, 2) := by decide +kernel
theorem dL_law_457 : decode cL_law 457 = .ok (.aload_n 2, 1) := by decide +kernel
theorem dL_law_458 : decode cL_law 458 = .ok (.invokevirtual 189, 3) := by decide +kernel
theorem dL_law_461 : decode cL_law 461 = .ok (.iload 6, 2) := by decide +kernel
theorem dL_law_463 : decode cL_law 463 = .ok (.if_icmp .eq 5, 3) := by decide +kernel
theorem dL_law_466 : decode cL_law 466 = .ok (.iconst 0, 1) := by decide +kernel
theorem dL_law_467 : decode cL_law 467 = .ok (.ireturn, 1) := by decide +kernel
theorem dL_law_468 : decode cL_law 468 = .ok (.iload 6, 2) := by decide +kernel
theorem dL_law_470 : decode cL_law 470 = .ok (.ifCond .ne 15, 3) := by decide +kernel
theorem dL_law_473 : decode cL_law 473 = .ok (.aload_n 3, 1) := by decide +kernel
theorem dL_law_474 : decode cL_law 474 = .ok (.iconst 0, 1) := by decide +kernel
theorem dL_law_475 : decode cL_law 475 = .ok (.laload, 1) := by decide +kernel
theorem dL_law_476 : decode cL_law 476 = .ok (.iload 7, 2) := by decide +kernel
theorem dL_law_478 : decode cL_law 478 = .ok (.i2l, 1) := by decide +kernel
theorem dL_law_479 : decode cL_law 479 = .ok (.lcmp, 1) := by decide +kernel
theorem dL_law_480 : decode cL_law 480 = .ok (.ifCond .eq 5, 3) := by decide +kernel
theorem dL_law_483 : decode cL_law 483 = .ok (.iconst 0, 1) := by decide +kernel
theorem dL_law_484 : decode cL_law 484 = .ok (.ireturn, 1) := by decide +kernel
theorem dL_law_485 : decode cL_law 485 = .ok (.goto 2835, 3) := by decide +kernel
set_option maxRecDepth 100000 in
set_option maxHeartbeats 4000000 in
theorem law_2 {l : Launch} {g : Nat → Nat} {nm ds : String} {tb : List ExceptionTableEntry} {L mc ms : Nat} {Po : Res → LH → Prop} {X : CX} {M : LH} {k0 n0 : Nat} (htr : l.stackTraces = false) {b SN : Nat} {xs : Nat → Int32} (hX : Sc b SN xs X) {kd : Nat → Nat} {p : Nat} {q a : Nat → Nat} {e8 : Int32 → Nat} {v : Int32 → Int32} {sv : Int32} {sa : Int32 → Int32} {ch : Int32} {pa tx : Int32 → Int32} {tn : Int32} {Ls : List Int32} {ea fl : Int32} {m : Nat} {w : Nat → Nat} {t bf he en wr dg : Int32} {b4 fr th bs li lf to : Int32 → Int32} {out outD : Nat} {N : Nat} (hP : Pg kd M p q a e8 v sv sa ch pa tx tn Ls ea fl) (hM : Md kd 30 M m w t ch ea fl sv bf tn he en (nI Ls.length) wr dg v b4 sa pa fr th bs tx li lf to) (hS : Lw N v sv sa ch pa tn Ls ea fl li) (hN : N ≤ 512) {h0 : Nat → Int64} (hO : M out = some (la 1 h0)) (ko : kd out = 31) {h2 : Nat → UInt64} (hO2 : M outD = some (da 1 h2)) (ko2 : kd outD = 31) {i : Int32} (hi : ∀ j : Int32, 1 ≤ j → j ≤ 5 → 0 ≤ i + j ∧ (i + j).toNatClampNeg < SN) (hL : 30 ≤ L) (hk : k0 + 8 ≤ mc) (hn : n0 + 600 ≤ ms) {z6 z7 z8 : Option Value} (kk : ∀ (M' : LH) (z6 z7 z8 : Option Value), LI p m out outD (N + 1) M' → V l g ⟨"SledgePostLaw", nm, ds⟩ cL_law (some .boolean) tb L mc ms Po X M' (k0 + 8) (n0 + 600) 3320 [some (.ref b), some (.ref p), some (.ref m), some (.ref out), some (.ref outD), some (.int i), z6, z7, z8] []) : V l g ⟨"SledgePostLaw", nm, ds⟩ cL_law (some .boolean) tb L mc ms Po X M k0 n0 420 [some (.ref b), some (.ref p), some (.ref m), some (.ref out), some (.ref outD), some (.int i), z6, z7, z8] [] := by
  obtain ⟨hG, hSy, hv4⟩ := hS.1
  obtain ⟨-, -, -, -, ⟨tn0, tn60⟩, ⟨ea1, fl1⟩, ⟨hTl, hLs⟩, c0, c8⟩ := _root_.id hS
  obtain ⟨h461, h46⟩ := hS.1.r hN
  obtain ⟨hs0, old0, ⟨hpO, -⟩, -⟩ := _root_.id hP
  refine v_aload_n dL_law_420 rfl rfl ?_
  refine v_aload_n dL_law_421 rfl rfl ?_
  refine v_iload dL_law_422 rfl ?_
  refine v_iconst (v := 1) dL_law_424 (by decide) ?_
  refine v_iadd dL_law_425 ?_
  refine v_sld hX dL_law_426 (hi 1 (by decide) (by decide)).1 (hi 1 (by decide) (by decide)).2 ?_
  refine v_aload_n dL_law_427 rfl rfl ?_
  refine v_iload dL_law_428 rfl ?_
  refine v_iconst (v := 2) dL_law_430 (by decide) ?_
  refine v_iadd dL_law_431 ?_
  refine v_sld hX dL_law_432 (hi 2 (by decide) (by decide)).1 (hi 2 (by decide) (by decide)).2 ?_
  refine v_aload_n dL_law_433 rfl rfl ?_
  refine kl_196 dL_law_434 rfl (w_L_addSledge htr (f_addSledge htr hP (xs (i + 1).toNatClampNeg) (xs (i + 2).toNatClampNeg)) hpO (fun r M9 h9 => ⟨_, (h9.2.2.elim (fun _ z => z.2.2) out (by rw [ko]; decide)).trans hO⟩) (fun E M9 h9 => by obtain ⟨e1, rfl, -, -⟩ := h9; rcases vx_addSledge e1 with ⟨e2, -⟩ | ⟨e2, -⟩ | ⟨e2, -⟩ <;> simp [e2])) (by omega) (by omega) (by omega) (Nat.le_of_ble_eq_true rfl) (fun r9 M9 h9 => ?_) (fun _ _ h9 => h9.elim)
  rcases h9 with ⟨rfl, r, M8, h8, ⟨hvd, rfl, pa1, hPa, hP8, hF8⟩, hh, rfl⟩ | ⟨E, ⟨hvd, hE0, hP8, hF8⟩, hE⟩
  · skip
    have f31 : Fs kd (fun r => r = 31) M8 (hup M8 out (la 1 h8)) := fun x hx => hup_n (fun z => hx (by rw [z]; exact ko))
    have hP9 := hP8.fs f31 (fun r h => by omega)
    have hM9 := (hM.tp (hF8.t 30 (Nat.le_refl _))).tp (f31.tp (by decide))
    have hO9 := up_k (e' := la 1 h8) ((hF8 outD (by rw [ko2]; decide)).trans hO2) ((hF8 out (by rw [ko]; decide)).trans hO) da_la
    refine v_istore_6 dL_law_437 ?_
    refine v_aload_n dL_law_439 rfl rfl ?_
    refine v_aload_n dL_law_440 rfl rfl ?_
    refine v_iload dL_law_441 rfl ?_
    refine v_iconst (v := 1) dL_law_443 (by decide) ?_
    refine v_iadd dL_law_444 ?_
    refine v_sld hX dL_law_445 (hi 1 (by decide) (by decide)).1 (hi 1 (by decide) (by decide)).2 ?_
    refine v_aload_n dL_law_446 rfl rfl ?_
    refine v_iload dL_law_447 rfl ?_
    refine v_iconst (v := 2) dL_law_449 (by decide) ?_
    refine v_iadd dL_law_450 ?_
    refine v_sld hX dL_law_451 (hi 2 (by decide) (by decide)).1 (hi 2 (by decide) (by decide)).2 ?_
    refine k_L_199 dL_law_452 rfl (r_addSledge htr hM9 hG c0 c8 (xs (i + 1).toNatClampNeg) (xs (i + 2).toNatClampNeg)) hM9.1 (by omega) (by omega) (by omega) (Nat.le_of_ble_eq_true rfl) (fun r452 M9 h9 => ?_) (fun _ _ h9 => h9.elim)
    obtain ⟨b5, pa2, h9, hF9⟩ := h9
    rcases h9 with ⟨-, rfl, hPa2, hC⟩ | ⟨hv2, -⟩
    rotate_left
    · exact absurd hvd hv2
    have hOA := LR1 (kd := kd) hup_s ko hF9
    have hOD := LR1 hO9 ko2 hF9
    refine v_istore_7 dL_law_455 ?_
    refine v_aload_n dL_law_457 rfl rfl ?_
    refine k_L_189 dL_law_458 rfl (r_thrown htr hC) hC.1 (by omega) (by omega) (by omega) (Nat.le_of_ble_eq_true rfl) (fun r458 M9 h9 => ?_) (fun _ _ h9 => h9.elim)
    obtain ⟨rfl, e9⟩ := h9
    subst M9
    refine v_iload dL_law_461 rfl ?_
    refine v_icmp_eq (tgt := 468) dL_law_463 (by decide) (fun h463 => ?_) (fun h463 => ?_)
    · refine v_iload dL_law_468 rfl ?_
      refine v_if_ne (tgt := 485) dL_law_470 (by decide) (fun h470 => ?_) (fun h470 => ?_)
      · exact absurd rfl h470
      · refine v_aload_n dL_law_473 rfl rfl ?_
        refine v_iconst (v := 0) dL_law_474 (by decide) ?_
        refine v_lald dL_law_475 hOA ?_
        refine v_iload dL_law_476 rfl ?_
        refine v_i2l dL_law_478 ?_
        refine v_lcmp dL_law_479 ?_
        rw [hh, lg_self]
        refine v_if_eq (tgt := 485) dL_law_480 (by decide) (fun h480 => ?_) (fun h480 => ?_)
        · refine v_goto (tgt := 3320) dL_law_485 (by decide) ?_
          refine V.wid (k' := k0 + 8) (n' := n0 + 600) (by omega) (by omega) (kk _ _ _ _ ?_)
          exact ⟨kd, q, a, e8, _, sv, sa, _, pa2, tx, tn, Ls, ea, fl, w, _, _, _, _, _, _, _, _, _, _, _, _, _, (hP9.fs (Frm.fs (S := fun r => r = 30) hF9 rfl) (fun r h => by omega)).pa (PaS.un c0 c8 hPa hPa2), hC, hS.ch (hS.1.go hN (S := (fun j : Int32 => ([(xs (i + 1).toNatClampNeg), (xs (i + 2).toNatClampNeg)] : List Int32).getD j.toNatClampNeg 0)) (i := 2) (by decide) hvd ⟨rfl, rfl⟩) hPa2, ⟨⟨_, hOA⟩, ko⟩, ⟨_, hOD⟩, ko2⟩
        · exact absurd rfl h480
    · exact absurd rfl h463
  · skip
    have hM9 := hM.tp (hF8.t 30 (Nat.le_refl _))
    have hO8 := (hF8 out (by rw [ko]; decide)).trans hO
    have hO9 := (hF8 outD (by rw [ko2]; decide)).trans hO2
    have hr : r9 = fcI 2 (vdSledge v (xs (i + 1).toNatClampNeg) (xs (i + 2).toNatClampNeg)) := by
      rcases vx_addSledge hvd with ⟨x1, x2⟩ | ⟨x1, x2⟩ | ⟨x1, x2⟩ <;> rcases hE with ⟨x3, x4⟩ | ⟨x3, x4⟩ | ⟨x3, x4⟩ <;> first | exact x4.trans x2.symm | exact absurd (x3.symm.trans (hE0.trans x1)) (by decide)
    subst hr
    refine v_istore_6 dL_law_437 ?_
    refine v_aload_n dL_law_439 rfl rfl ?_
    refine v_aload_n dL_law_440 rfl rfl ?_
    refine v_iload dL_law_441 rfl ?_
    refine v_iconst (v := 1) dL_law_443 (by decide) ?_
    refine v_iadd dL_law_444 ?_
    refine v_sld hX dL_law_445 (hi 1 (by decide) (by decide)).1 (hi 1 (by decide) (by decide)).2 ?_
    refine v_aload_n dL_law_446 rfl rfl ?_
    refine v_iload dL_law_447 rfl ?_
    refine v_iconst (v := 2) dL_law_449 (by decide) ?_
    refine v_iadd dL_law_450 ?_
    refine v_sld hX dL_law_451 (hi 2 (by decide) (by decide)).1 (hi 2 (by decide) (by decide)).2 ?_
    refine k_L_199 dL_law_452 rfl (r_addSledge htr hM9 hG c0 c8 (xs (i + 1).toNatClampNeg) (xs (i + 2).toNatClampNeg)) hM9.1 (by omega) (by omega) (by omega) (Nat.le_of_ble_eq_true rfl) (fun r452 M9 h9 => ?_) (fun _ _ h9 => h9.elim)
    obtain ⟨b5, pa2, h9, hF9⟩ := h9
    rcases h9 with ⟨hv2, -⟩ | ⟨-, rfl, pa2q, rfl, hC⟩
    · exact absurd hv2 hvd
    have hOA := LR1 hO8 ko hF9
    have hOD := LR1 hO9 ko2 hF9
    refine v_istore_7 dL_law_455 ?_
    refine v_aload_n dL_law_457 rfl rfl ?_
    refine k_L_189 dL_law_458 rfl (r_thrown htr hC) hC.1 (by omega) (by omega) (by omega) (Nat.le_of_ble_eq_true rfl) (fun r458 M9 h9 => ?_) (fun _ _ h9 => h9.elim)
    obtain ⟨rfl, e9⟩ := h9
    subst M9
    refine v_iload dL_law_461 rfl ?_
    refine v_icmp_eq (tgt := 468) dL_law_463 (by decide) (fun h463 => ?_) (fun h463 => ?_)
    · refine v_iload dL_law_468 rfl ?_
      refine v_if_ne (tgt := 485) dL_law_470 (by decide) (fun h470 => ?_) (fun h470 => ?_)
      · refine v_goto (tgt := 3320) dL_law_485 (by decide) ?_
        refine V.wid (k' := k0 + 8) (n' := n0 + 600) (by omega) (by omega) (kk _ _ _ _ ?_)
        exact ⟨kd, q, a, e8, v, sv, sa, ch, _, tx, tn, Ls, ea, fl, w, _, _, _, _, _, _, _, _, _, _, _, _, _, hP8.fs (Frm.fs (S := fun r => r = 30) hF9 rfl) (fun r h => by omega), hC, hS.up, ⟨⟨_, hOA⟩, ko⟩, ⟨_, hOD⟩, ko2⟩
      · exact absurd h470 fcI_nz
    · exact absurd rfl h463
theorem vx_post {v : Int32 → Int32} {s : Int32} {t : Int32} {w : Int32} {e : Int32} {n : Int32} (h : ¬ vdLetter v s t w e n = 0) : (exV (vdLetter v s t w e n) = "java/lang/IndexOutOfBoundsException" ∧ fcI 3 (vdLetter v s t w e n) = 1) ∨ (exV (vdLetter v s t w e n) = "java/lang/IllegalArgumentException" ∧ fcI 3 (vdLetter v s t w e n) = 2) ∨ (exV (vdLetter v s t w e n) = "java/lang/IllegalStateException" ∧ fcI 3 (vdLetter v s t w e n) = 3) := by
  have z : vdLetter v s t w e n = 0 ∨ vdLetter v s t w e n = 1 ∨ vdLetter v s t w e n = 2 ∨ vdLetter v s t w e n = 4 := by
    unfold vdLetter
    (repeat' split) <;> decide
  rcases z with z | z | z | z <;> rw [z] at h ⊢ <;> first | exact absurd rfl h | exact Or.inl ⟨rfl, rfl⟩ | exact Or.inr (Or.inl ⟨rfl, rfl⟩) | exact Or.inr (Or.inr (⟨rfl, rfl⟩))
theorem dL_law_488 : decode cL_law 488 = .ok (.aload_n 1, 1) := by decide +kernel
theorem dL_law_489 : decode cL_law 489 = .ok (.aload_n 0, 1) := by decide +kernel
theorem dL_law_490 : decode cL_law 490 = .ok (.iload 5, 2) := by decide +kernel
theorem dL_law_492 : decode cL_law 492 = .ok (.iconst 1, 1) := by decide +kernel
theorem dL_law_493 : decode cL_law 493 = .ok (.iadd, 1) := by decide +kernel
theorem dL_law_494 : decode cL_law 494 = .ok (.iaload, 1) := by decide +kernel
theorem dL_law_495 : decode cL_law 495 = .ok (.aload_n 0, 1) := by decide +kernel
theorem dL_law_496 : decode cL_law 496 = .ok (.iload 5, 2) := by decide +kernel
theorem dL_law_498 : decode cL_law 498 = .ok (.iconst 2, 1) := by decide +kernel
theorem dL_law_499 : decode cL_law 499 = .ok (.iadd, 1) := by decide +kernel
theorem dL_law_500 : decode cL_law 500 = .ok (.iaload, 1) := by decide +kernel
theorem dL_law_501 : decode cL_law 501 = .ok (.aload_n 0, 1) := by decide +kernel
theorem dL_law_502 : decode cL_law 502 = .ok (.iload 5, 2) := by decide +kernel
theorem dL_law_504 : decode cL_law 504 = .ok (.iconst 3, 1) := by decide +kernel
theorem dL_law_505 : decode cL_law 505 = .ok (.iadd, 1) := by decide +kernel
theorem dL_law_506 : decode cL_law 506 = .ok (.iaload, 1) := by decide +kernel
theorem dL_law_507 : decode cL_law 507 = .ok (.aload_n 0, 1) := by decide +kernel
theorem dL_law_508 : decode cL_law 508 = .ok (.iload 5, 2) := by decide +kernel
theorem dL_law_510 : decode cL_law 510 = .ok (.iconst 4, 1) := by decide +kernel
theorem dL_law_511 : decode cL_law 511 = .ok (.iadd, 1) := by decide +kernel
theorem dL_law_512 : decode cL_law 512 = .ok (.iaload, 1) := by decide +kernel
theorem dL_law_513 : decode cL_law 513 = .ok (.aload_n 0, 1) := by decide +kernel
theorem dL_law_514 : decode cL_law 514 = .ok (.iload 5, 2) := by decide +kernel
theorem dL_law_516 : decode cL_law 516 = .ok (.iconst 5, 1) := by decide +kernel
theorem dL_law_517 : decode cL_law 517 = .ok (.iadd, 1) := by decide +kernel
theorem dL_law_518 : decode cL_law 518 = .ok (.iaload, 1) := by decide +kernel
theorem dL_law_519 : decode cL_law 519 = .ok (.aload_n 3, 1) := by decide +kernel
theorem dL_law_520 : decode cL_law 520 = .ok (.invokestatic 200, 3) := by decide +kernel
theorem dL_law_523 : decode cL_law 523 = .ok (.istore 6, 2) := by decide +kernel
theorem dL_law_525 : decode cL_law 525 = .ok (.aload_n 2, 1) := by decide +kernel
theorem dL_law_526 : decode cL_law 526 = .ok (.aload_n 0, 1) := by decide +kernel
theorem dL_law_527 : decode cL_law 527 = .ok (.iload 5, 2) := by decide +kernel
theorem dL_law_529 : decode cL_law 529 = .ok (.iconst 1, 1) := by decide +kernel
theorem dL_law_530 : decode cL_law 530 = .ok (.iadd, 1) := by decide +kernel
theorem dL_law_531 : decode cL_law 531 = .ok (.iaload, 1) := by decide +kernel
theorem dL_law_532 : decode cL_law 532 = .ok (.aload_n 0, 1) := by decide +kernel
theorem dL_law_533 : decode cL_law 533 = .ok (.iload 5, 2) := by decide +kernel
theorem dL_law_535 : decode cL_law 535 = .ok (.iconst 2, 1) := by decide +kernel
theorem dL_law_536 : decode cL_law 536 = .ok (.iadd, 1) := by decide +kernel
theorem dL_law_537 : decode cL_law 537 = .ok (.iaload, 1) := by decide +kernel
theorem dL_law_538 : decode cL_law 538 = .ok (.aload_n 0, 1) := by decide +kernel
theorem dL_law_539 : decode cL_law 539 = .ok (.iload 5, 2) := by decide +kernel
theorem dL_law_541 : decode cL_law 541 = .ok (.iconst 3, 1) := by decide +kernel
theorem dL_law_542 : decode cL_law 542 = .ok (.iadd, 1) := by decide +kernel
theorem dL_law_543 : decode cL_law 543 = .ok (.iaload, 1) := by decide +kernel
theorem dL_law_544 : decode cL_law 544 = .ok (.aload_n 0, 1) := by decide +kernel
theorem dL_law_545 : decode cL_law 545 = .ok (.iload 5, 2) := by decide +kernel
theorem dL_law_547 : decode cL_law 547 = .ok (.iconst 4, 1) := by decide +kernel
theorem dL_law_548 : decode cL_law 548 = .ok (.iadd, 1) := by decide +kernel
theorem dL_law_549 : decode cL_law 549 = .ok (.iaload, 1) := by decide +kernel
theorem dL_law_550 : decode cL_law 550 = .ok (.aload_n 0, 1) := by decide +kernel
theorem dL_law_551 : decode cL_law 551 = .ok (.iload 5, 2) := by decide +kernel
theorem dL_law_553 : decode cL_law 553 = .ok (.iconst 5, 1) := by decide +kernel
theorem dL_law_554 : decode cL_law 554 = .ok (.iadd, 1) := by decide +kernel
theorem dL_law_555 : decode cL_law 555 = .ok (.iaload, 1) := by decide +kernel
theorem dL_law_556 : decode cL_law 556 = .ok (.invokevirtual 203, 3) := by decide +kernel
theorem dL_law_559 : decode cL_law 559 = .ok (.istore 7, 2) := by decide +kernel
theorem dL_law_561 : decode cL_law 561 = .ok (.aload_n 2, 1) := by decide +kernel
theorem dL_law_562 : decode cL_law 562 = .ok (.invokevirtual 189, 3) := by decide +kernel
theorem dL_law_565 : decode cL_law 565 = .ok (.iload 6, 2) := by decide +kernel
theorem dL_law_567 : decode cL_law 567 = .ok (.if_icmp .eq 5, 3) := by decide +kernel
theorem dL_law_570 : decode cL_law 570 = .ok (.iconst 0, 1) := by decide +kernel
theorem dL_law_571 : decode cL_law 571 = .ok (.ireturn, 1) := by decide +kernel
theorem dL_law_572 : decode cL_law 572 = .ok (.iload 6, 2) := by decide +kernel
theorem dL_law_574 : decode cL_law 574 = .ok (.ifCond .ne 15, 3) := by decide +kernel
theorem dL_law_577 : decode cL_law 577 = .ok (.aload_n 3, 1) := by decide +kernel
theorem dL_law_578 : decode cL_law 578 = .ok (.iconst 0, 1) := by decide +kernel
theorem dL_law_579 : decode cL_law 579 = .ok (.laload, 1) := by decide +kernel
theorem dL_law_580 : decode cL_law 580 = .ok (.iload 7, 2) := by decide +kernel
theorem dL_law_582 : decode cL_law 582 = .ok (.i2l, 1) := by decide +kernel
theorem dL_law_583 : decode cL_law 583 = .ok (.lcmp, 1) := by decide +kernel
theorem dL_law_584 : decode cL_law 584 = .ok (.ifCond .eq 5, 3) := by decide +kernel
theorem dL_law_587 : decode cL_law 587 = .ok (.iconst 0, 1) := by decide +kernel
theorem dL_law_588 : decode cL_law 588 = .ok (.ireturn, 1) := by decide +kernel
theorem dL_law_589 : decode cL_law 589 = .ok (.goto 2731, 3) := by decide +kernel
set_option maxRecDepth 100000 in
set_option maxHeartbeats 4000000 in
theorem law_3 {l : Launch} {g : Nat → Nat} {nm ds : String} {tb : List ExceptionTableEntry} {L mc ms : Nat} {Po : Res → LH → Prop} {X : CX} {M : LH} {k0 n0 : Nat} (htr : l.stackTraces = false) {b SN : Nat} {xs : Nat → Int32} (hX : Sc b SN xs X) {kd : Nat → Nat} {p : Nat} {q a : Nat → Nat} {e8 : Int32 → Nat} {v : Int32 → Int32} {sv : Int32} {sa : Int32 → Int32} {ch : Int32} {pa tx : Int32 → Int32} {tn : Int32} {Ls : List Int32} {ea fl : Int32} {m : Nat} {w : Nat → Nat} {t bf he en wr dg : Int32} {b4 fr th bs li lf to : Int32 → Int32} {out outD : Nat} {N : Nat} (hP : Pg kd M p q a e8 v sv sa ch pa tx tn Ls ea fl) (hM : Md kd 30 M m w t ch ea fl sv bf tn he en (nI Ls.length) wr dg v b4 sa pa fr th bs tx li lf to) (hS : Lw N v sv sa ch pa tn Ls ea fl li) (hN : N ≤ 512) {h0 : Nat → Int64} (hO : M out = some (la 1 h0)) (ko : kd out = 31) {h2 : Nat → UInt64} (hO2 : M outD = some (da 1 h2)) (ko2 : kd outD = 31) {i : Int32} (hi : ∀ j : Int32, 1 ≤ j → j ≤ 5 → 0 ≤ i + j ∧ (i + j).toNatClampNeg < SN) (hL : 30 ≤ L) (hk : k0 + 8 ≤ mc) (hn : n0 + 600 ≤ ms) {z6 z7 z8 : Option Value} (kk : ∀ (M' : LH) (z6 z7 z8 : Option Value), LI p m out outD (N + 1) M' → V l g ⟨"SledgePostLaw", nm, ds⟩ cL_law (some .boolean) tb L mc ms Po X M' (k0 + 8) (n0 + 600) 3320 [some (.ref b), some (.ref p), some (.ref m), some (.ref out), some (.ref outD), some (.int i), z6, z7, z8] []) : V l g ⟨"SledgePostLaw", nm, ds⟩ cL_law (some .boolean) tb L mc ms Po X M k0 n0 488 [some (.ref b), some (.ref p), some (.ref m), some (.ref out), some (.ref outD), some (.int i), z6, z7, z8] [] := by
  obtain ⟨hG, hSy, hv4⟩ := hS.1
  obtain ⟨-, -, -, -, ⟨tn0, tn60⟩, ⟨ea1, fl1⟩, ⟨hTl, hLs⟩, c0, c8⟩ := _root_.id hS
  obtain ⟨h461, h46⟩ := hS.1.r hN
  obtain ⟨hs0, old0, ⟨hpO, -⟩, -⟩ := _root_.id hP
  refine v_aload_n dL_law_488 rfl rfl ?_
  refine v_aload_n dL_law_489 rfl rfl ?_
  refine v_iload dL_law_490 rfl ?_
  refine v_iconst (v := 1) dL_law_492 (by decide) ?_
  refine v_iadd dL_law_493 ?_
  refine v_sld hX dL_law_494 (hi 1 (by decide) (by decide)).1 (hi 1 (by decide) (by decide)).2 ?_
  refine v_aload_n dL_law_495 rfl rfl ?_
  refine v_iload dL_law_496 rfl ?_
  refine v_iconst (v := 2) dL_law_498 (by decide) ?_
  refine v_iadd dL_law_499 ?_
  refine v_sld hX dL_law_500 (hi 2 (by decide) (by decide)).1 (hi 2 (by decide) (by decide)).2 ?_
  refine v_aload_n dL_law_501 rfl rfl ?_
  refine v_iload dL_law_502 rfl ?_
  refine v_iconst (v := 3) dL_law_504 (by decide) ?_
  refine v_iadd dL_law_505 ?_
  refine v_sld hX dL_law_506 (hi 3 (by decide) (by decide)).1 (hi 3 (by decide) (by decide)).2 ?_
  refine v_aload_n dL_law_507 rfl rfl ?_
  refine v_iload dL_law_508 rfl ?_
  refine v_iconst (v := 4) dL_law_510 (by decide) ?_
  refine v_iadd dL_law_511 ?_
  refine v_sld hX dL_law_512 (hi 4 (by decide) (by decide)).1 (hi 4 (by decide) (by decide)).2 ?_
  refine v_aload_n dL_law_513 rfl rfl ?_
  refine v_iload dL_law_514 rfl ?_
  refine v_iconst (v := 5) dL_law_516 (by decide) ?_
  refine v_iadd dL_law_517 ?_
  refine v_sld hX dL_law_518 (hi 5 (by decide) (by decide)).1 (hi 5 (by decide) (by decide)).2 ?_
  refine v_aload_n dL_law_519 rfl rfl ?_
  refine kl_200 dL_law_520 rfl (w_L_post htr (f_post htr hP (xs (i + 1).toNatClampNeg) (xs (i + 2).toNatClampNeg) (xs (i + 3).toNatClampNeg) (xs (i + 4).toNatClampNeg) (xs (i + 5).toNatClampNeg) h46) hpO (fun r M9 h9 => ⟨_, (h9.2.2.elim (fun _ z => z.2.2) out (by rw [ko]; decide)).trans hO⟩) (fun E M9 h9 => by obtain ⟨e1, rfl, -, -⟩ := h9; rcases vx_post e1 with ⟨e2, -⟩ | ⟨e2, -⟩ | ⟨e2, -⟩ <;> simp [e2])) (by omega) (by omega) (by omega) (Nat.le_of_ble_eq_true rfl) (fun r9 M9 h9 => ?_) (fun _ _ h9 => h9.elim)
  rcases h9 with ⟨rfl, r, M8, h8, ⟨hvd, rfl, pa1, hPa, hP8, hF8⟩, hh, rfl⟩ | ⟨E, ⟨hvd, hE0, hP8, hF8⟩, hE⟩
  · skip
    have f31 : Fs kd (fun r => r = 31) M8 (hup M8 out (la 1 h8)) := fun x hx => hup_n (fun z => hx (by rw [z]; exact ko))
    have hP9 := hP8.fs f31 (fun r h => by omega)
    have hM9 := (hM.tp (hF8.t 30 (Nat.le_refl _))).tp (f31.tp (by decide))
    have hO9 := up_k (e' := la 1 h8) ((hF8 outD (by rw [ko2]; decide)).trans hO2) ((hF8 out (by rw [ko]; decide)).trans hO) da_la
    refine v_istore_6 dL_law_523 ?_
    refine v_aload_n dL_law_525 rfl rfl ?_
    refine v_aload_n dL_law_526 rfl rfl ?_
    refine v_iload dL_law_527 rfl ?_
    refine v_iconst (v := 1) dL_law_529 (by decide) ?_
    refine v_iadd dL_law_530 ?_
    refine v_sld hX dL_law_531 (hi 1 (by decide) (by decide)).1 (hi 1 (by decide) (by decide)).2 ?_
    refine v_aload_n dL_law_532 rfl rfl ?_
    refine v_iload dL_law_533 rfl ?_
    refine v_iconst (v := 2) dL_law_535 (by decide) ?_
    refine v_iadd dL_law_536 ?_
    refine v_sld hX dL_law_537 (hi 2 (by decide) (by decide)).1 (hi 2 (by decide) (by decide)).2 ?_
    refine v_aload_n dL_law_538 rfl rfl ?_
    refine v_iload dL_law_539 rfl ?_
    refine v_iconst (v := 3) dL_law_541 (by decide) ?_
    refine v_iadd dL_law_542 ?_
    refine v_sld hX dL_law_543 (hi 3 (by decide) (by decide)).1 (hi 3 (by decide) (by decide)).2 ?_
    refine v_aload_n dL_law_544 rfl rfl ?_
    refine v_iload dL_law_545 rfl ?_
    refine v_iconst (v := 4) dL_law_547 (by decide) ?_
    refine v_iadd dL_law_548 ?_
    refine v_sld hX dL_law_549 (hi 4 (by decide) (by decide)).1 (hi 4 (by decide) (by decide)).2 ?_
    refine v_aload_n dL_law_550 rfl rfl ?_
    refine v_iload dL_law_551 rfl ?_
    refine v_iconst (v := 5) dL_law_553 (by decide) ?_
    refine v_iadd dL_law_554 ?_
    refine v_sld hX dL_law_555 (hi 5 (by decide) (by decide)).1 (hi 5 (by decide) (by decide)).2 ?_
    refine k_L_203 dL_law_556 rfl (r_post htr hM9 hG c0 c8 (xs (i + 1).toNatClampNeg) (xs (i + 2).toNatClampNeg) (xs (i + 3).toNatClampNeg) (xs (i + 4).toNatClampNeg) (xs (i + 5).toNatClampNeg)) hM9.1 (by omega) (by omega) (by omega) (Nat.le_of_ble_eq_true rfl) (fun r556 M9 h9 => ?_) (fun _ _ h9 => h9.elim)
    obtain ⟨b5, pa2, h9, hF9⟩ := h9
    rcases h9 with ⟨-, rfl, hPa2, hC⟩ | ⟨hv2, -⟩
    rotate_left
    · exact absurd hvd hv2
    have hOA := LR1 (kd := kd) hup_s ko hF9
    have hOD := LR1 hO9 ko2 hF9
    refine v_istore_7 dL_law_559 ?_
    refine v_aload_n dL_law_561 rfl rfl ?_
    refine k_L_189 dL_law_562 rfl (r_thrown htr hC) hC.1 (by omega) (by omega) (by omega) (Nat.le_of_ble_eq_true rfl) (fun r562 M9 h9 => ?_) (fun _ _ h9 => h9.elim)
    obtain ⟨rfl, e9⟩ := h9
    subst M9
    refine v_iload dL_law_565 rfl ?_
    refine v_icmp_eq (tgt := 572) dL_law_567 (by decide) (fun h567 => ?_) (fun h567 => ?_)
    · refine v_iload dL_law_572 rfl ?_
      refine v_if_ne (tgt := 589) dL_law_574 (by decide) (fun h574 => ?_) (fun h574 => ?_)
      · exact absurd rfl h574
      · refine v_aload_n dL_law_577 rfl rfl ?_
        refine v_iconst (v := 0) dL_law_578 (by decide) ?_
        refine v_lald dL_law_579 hOA ?_
        refine v_iload dL_law_580 rfl ?_
        refine v_i2l dL_law_582 ?_
        refine v_lcmp dL_law_583 ?_
        rw [hh, lg_self]
        refine v_if_eq (tgt := 589) dL_law_584 (by decide) (fun h584 => ?_) (fun h584 => ?_)
        · refine v_goto (tgt := 3320) dL_law_589 (by decide) ?_
          refine V.wid (k' := k0 + 8) (n' := n0 + 600) (by omega) (by omega) (kk _ _ _ _ ?_)
          exact ⟨kd, q, a, e8, _, sv, sa, _, pa2, tx, tn, Ls, ea, fl, w, _, _, _, _, _, _, _, _, _, _, _, _, _, (hP9.fs (Frm.fs (S := fun r => r = 30) hF9 rfl) (fun r h => by omega)).pa (PaS.un c0 c8 hPa hPa2), hC, hS.ch (hS.1.go hN (S := (fun j : Int32 => ([(xs (i + 1).toNatClampNeg), (xs (i + 2).toNatClampNeg), (xs (i + 3).toNatClampNeg), (xs (i + 4).toNatClampNeg), (xs (i + 5).toNatClampNeg)] : List Int32).getD j.toNatClampNeg 0)) (i := 3) (by decide) hvd ⟨rfl, rfl⟩) hPa2, ⟨⟨_, hOA⟩, ko⟩, ⟨_, hOD⟩, ko2⟩
        · exact absurd rfl h584
    · exact absurd rfl h567
  · skip
    have hM9 := hM.tp (hF8.t 30 (Nat.le_refl _))
    have hO8 := (hF8 out (by rw [ko]; decide)).trans hO
    have hO9 := (hF8 outD (by rw [ko2]; decide)).trans hO2
    have hr : r9 = fcI 3 (vdLetter v (xs (i + 1).toNatClampNeg) (xs (i + 2).toNatClampNeg) (xs (i + 3).toNatClampNeg) (xs (i + 4).toNatClampNeg) (xs (i + 5).toNatClampNeg)) := by
      rcases vx_post hvd with ⟨x1, x2⟩ | ⟨x1, x2⟩ | ⟨x1, x2⟩ <;> rcases hE with ⟨x3, x4⟩ | ⟨x3, x4⟩ | ⟨x3, x4⟩ <;> first | exact x4.trans x2.symm | exact absurd (x3.symm.trans (hE0.trans x1)) (by decide)
    subst hr
    refine v_istore_6 dL_law_523 ?_
    refine v_aload_n dL_law_525 rfl rfl ?_
    refine v_aload_n dL_law_526 rfl rfl ?_
    refine v_iload dL_law_527 rfl ?_
    refine v_iconst (v := 1) dL_law_529 (by decide) ?_
    refine v_iadd dL_law_530 ?_
    refine v_sld hX dL_law_531 (hi 1 (by decide) (by decide)).1 (hi 1 (by decide) (by decide)).2 ?_
    refine v_aload_n dL_law_532 rfl rfl ?_
    refine v_iload dL_law_533 rfl ?_
    refine v_iconst (v := 2) dL_law_535 (by decide) ?_
    refine v_iadd dL_law_536 ?_
    refine v_sld hX dL_law_537 (hi 2 (by decide) (by decide)).1 (hi 2 (by decide) (by decide)).2 ?_
    refine v_aload_n dL_law_538 rfl rfl ?_
    refine v_iload dL_law_539 rfl ?_
    refine v_iconst (v := 3) dL_law_541 (by decide) ?_
    refine v_iadd dL_law_542 ?_
    refine v_sld hX dL_law_543 (hi 3 (by decide) (by decide)).1 (hi 3 (by decide) (by decide)).2 ?_
    refine v_aload_n dL_law_544 rfl rfl ?_
    refine v_iload dL_law_545 rfl ?_
    refine v_iconst (v := 4) dL_law_547 (by decide) ?_
    refine v_iadd dL_law_548 ?_
    refine v_sld hX dL_law_549 (hi 4 (by decide) (by decide)).1 (hi 4 (by decide) (by decide)).2 ?_
    refine v_aload_n dL_law_550 rfl rfl ?_
    refine v_iload dL_law_551 rfl ?_
    refine v_iconst (v := 5) dL_law_553 (by decide) ?_
    refine v_iadd dL_law_554 ?_
    refine v_sld hX dL_law_555 (hi 5 (by decide) (by decide)).1 (hi 5 (by decide) (by decide)).2 ?_
    refine k_L_203 dL_law_556 rfl (r_post htr hM9 hG c0 c8 (xs (i + 1).toNatClampNeg) (xs (i + 2).toNatClampNeg) (xs (i + 3).toNatClampNeg) (xs (i + 4).toNatClampNeg) (xs (i + 5).toNatClampNeg)) hM9.1 (by omega) (by omega) (by omega) (Nat.le_of_ble_eq_true rfl) (fun r556 M9 h9 => ?_) (fun _ _ h9 => h9.elim)
    obtain ⟨b5, pa2, h9, hF9⟩ := h9
    rcases h9 with ⟨hv2, -⟩ | ⟨-, rfl, pa2q, rfl, hC⟩
    · exact absurd hv2 hvd
    have hOA := LR1 hO8 ko hF9
    have hOD := LR1 hO9 ko2 hF9
    refine v_istore_7 dL_law_559 ?_
    refine v_aload_n dL_law_561 rfl rfl ?_
    refine k_L_189 dL_law_562 rfl (r_thrown htr hC) hC.1 (by omega) (by omega) (by omega) (Nat.le_of_ble_eq_true rfl) (fun r562 M9 h9 => ?_) (fun _ _ h9 => h9.elim)
    obtain ⟨rfl, e9⟩ := h9
    subst M9
    refine v_iload dL_law_565 rfl ?_
    refine v_icmp_eq (tgt := 572) dL_law_567 (by decide) (fun h567 => ?_) (fun h567 => ?_)
    · refine v_iload dL_law_572 rfl ?_
      refine v_if_ne (tgt := 589) dL_law_574 (by decide) (fun h574 => ?_) (fun h574 => ?_)
      · refine v_goto (tgt := 3320) dL_law_589 (by decide) ?_
        refine V.wid (k' := k0 + 8) (n' := n0 + 600) (by omega) (by omega) (kk _ _ _ _ ?_)
        exact ⟨kd, q, a, e8, v, sv, sa, ch, _, tx, tn, Ls, ea, fl, w, _, _, _, _, _, _, _, _, _, _, _, _, _, hP8.fs (Frm.fs (S := fun r => r = 30) hF9 rfl) (fun r h => by omega), hC, hS.up, ⟨⟨_, hOA⟩, ko⟩, ⟨_, hOD⟩, ko2⟩
      · exact absurd h574 fcI_nz
    · exact absurd rfl h567
theorem vx_load {v : Int32 → Int32} {k : Int32} {id : Int32} (h : ¬ vdPutOn v k id = 0) : (exV (vdPutOn v k id) = "java/lang/IndexOutOfBoundsException" ∧ fcI 4 (vdPutOn v k id) = 1) ∨ (exV (vdPutOn v k id) = "java/util/NoSuchElementException" ∧ fcI 4 (vdPutOn v k id) = 2) ∨ (exV (vdPutOn v k id) = "java/lang/IllegalStateException" ∧ fcI 4 (vdPutOn v k id) = 3) ∨ (exV (vdPutOn v k id) = "java/lang/UnsupportedOperationException" ∧ fcI 4 (vdPutOn v k id) = 4) := by
  have z : vdPutOn v k id = 0 ∨ vdPutOn v k id = 1 ∨ vdPutOn v k id = 3 ∨ vdPutOn v k id = 4 ∨ vdPutOn v k id = 5 := by
    unfold vdPutOn
    (repeat' split) <;> decide
  rcases z with z | z | z | z | z <;> rw [z] at h ⊢ <;> first | exact absurd rfl h | exact Or.inl ⟨rfl, rfl⟩ | exact Or.inr (Or.inl ⟨rfl, rfl⟩) | exact Or.inr (Or.inr (Or.inl ⟨rfl, rfl⟩)) | exact Or.inr (Or.inr (Or.inr (⟨rfl, rfl⟩)))
theorem dL_law_592 : decode cL_law 592 = .ok (.aload_n 1, 1) := by decide +kernel
theorem dL_law_593 : decode cL_law 593 = .ok (.aload_n 0, 1) := by decide +kernel
theorem dL_law_594 : decode cL_law 594 = .ok (.iload 5, 2) := by decide +kernel
theorem dL_law_596 : decode cL_law 596 = .ok (.iconst 1, 1) := by decide +kernel
theorem dL_law_597 : decode cL_law 597 = .ok (.iadd, 1) := by decide +kernel
theorem dL_law_598 : decode cL_law 598 = .ok (.iaload, 1) := by decide +kernel
theorem dL_law_599 : decode cL_law 599 = .ok (.aload_n 0, 1) := by decide +kernel
theorem dL_law_600 : decode cL_law 600 = .ok (.iload 5, 2) := by decide +kernel
theorem dL_law_602 : decode cL_law 602 = .ok (.iconst 2, 1) := by decide +kernel
theorem dL_law_603 : decode cL_law 603 = .ok (.iadd, 1) := by decide +kernel
theorem dL_law_604 : decode cL_law 604 = .ok (.iaload, 1) := by decide +kernel
theorem dL_law_605 : decode cL_law 605 = .ok (.aload_n 3, 1) := by decide +kernel
theorem dL_law_606 : decode cL_law 606 = .ok (.invokestatic 204, 3) := by decide +kernel
theorem dL_law_609 : decode cL_law 609 = .ok (.istore 6, 2) := by decide +kernel
theorem dL_law_611 : decode cL_law 611 = .ok (.aload_n 2, 1) := by decide +kernel
theorem dL_law_612 : decode cL_law 612 = .ok (.aload_n 0, 1) := by decide +kernel
theorem dL_law_613 : decode cL_law 613 = .ok (.iload 5, 2) := by decide +kernel
theorem dL_law_615 : decode cL_law 615 = .ok (.iconst 1, 1) := by decide +kernel
theorem dL_law_616 : decode cL_law 616 = .ok (.iadd, 1) := by decide +kernel
theorem dL_law_617 : decode cL_law 617 = .ok (.iaload, 1) := by decide +kernel
theorem dL_law_618 : decode cL_law 618 = .ok (.aload_n 0, 1) := by decide +kernel
theorem dL_law_619 : decode cL_law 619 = .ok (.iload 5, 2) := by decide +kernel
theorem dL_law_621 : decode cL_law 621 = .ok (.iconst 2, 1) := by decide +kernel
theorem dL_law_622 : decode cL_law 622 = .ok (.iadd, 1) := by decide +kernel
theorem dL_law_623 : decode cL_law 623 = .ok (.iaload, 1) := by decide +kernel
theorem dL_law_624 : decode cL_law 624 = .ok (.invokevirtual 206, 3) := by decide +kernel
theorem dL_law_627 : decode cL_law 627 = .ok (.istore 7, 2) := by decide +kernel
theorem dL_law_629 : decode cL_law 629 = .ok (.aload_n 2, 1) := by decide +kernel
theorem dL_law_630 : decode cL_law 630 = .ok (.invokevirtual 189, 3) := by decide +kernel
theorem dL_law_633 : decode cL_law 633 = .ok (.iload 6, 2) := by decide +kernel
theorem dL_law_635 : decode cL_law 635 = .ok (.if_icmp .eq 5, 3) := by decide +kernel
theorem dL_law_638 : decode cL_law 638 = .ok (.iconst 0, 1) := by decide +kernel
theorem dL_law_639 : decode cL_law 639 = .ok (.ireturn, 1) := by decide +kernel
theorem dL_law_640 : decode cL_law 640 = .ok (.iload 6, 2) := by decide +kernel
theorem dL_law_642 : decode cL_law 642 = .ok (.ifCond .ne 15, 3) := by decide +kernel
theorem dL_law_645 : decode cL_law 645 = .ok (.aload_n 3, 1) := by decide +kernel
theorem dL_law_646 : decode cL_law 646 = .ok (.iconst 0, 1) := by decide +kernel
theorem dL_law_647 : decode cL_law 647 = .ok (.laload, 1) := by decide +kernel
theorem dL_law_648 : decode cL_law 648 = .ok (.iload 7, 2) := by decide +kernel
theorem dL_law_650 : decode cL_law 650 = .ok (.i2l, 1) := by decide +kernel
theorem dL_law_651 : decode cL_law 651 = .ok (.lcmp, 1) := by decide +kernel
theorem dL_law_652 : decode cL_law 652 = .ok (.ifCond .eq 5, 3) := by decide +kernel
theorem dL_law_655 : decode cL_law 655 = .ok (.iconst 0, 1) := by decide +kernel
theorem dL_law_656 : decode cL_law 656 = .ok (.ireturn, 1) := by decide +kernel
theorem dL_law_657 : decode cL_law 657 = .ok (.goto 2663, 3) := by decide +kernel
set_option maxRecDepth 100000 in
set_option maxHeartbeats 4000000 in
theorem law_4 {l : Launch} {g : Nat → Nat} {nm ds : String} {tb : List ExceptionTableEntry} {L mc ms : Nat} {Po : Res → LH → Prop} {X : CX} {M : LH} {k0 n0 : Nat} (htr : l.stackTraces = false) {b SN : Nat} {xs : Nat → Int32} (hX : Sc b SN xs X) {kd : Nat → Nat} {p : Nat} {q a : Nat → Nat} {e8 : Int32 → Nat} {v : Int32 → Int32} {sv : Int32} {sa : Int32 → Int32} {ch : Int32} {pa tx : Int32 → Int32} {tn : Int32} {Ls : List Int32} {ea fl : Int32} {m : Nat} {w : Nat → Nat} {t bf he en wr dg : Int32} {b4 fr th bs li lf to : Int32 → Int32} {out outD : Nat} {N : Nat} (hP : Pg kd M p q a e8 v sv sa ch pa tx tn Ls ea fl) (hM : Md kd 30 M m w t ch ea fl sv bf tn he en (nI Ls.length) wr dg v b4 sa pa fr th bs tx li lf to) (hS : Lw N v sv sa ch pa tn Ls ea fl li) (hN : N ≤ 512) {h0 : Nat → Int64} (hO : M out = some (la 1 h0)) (ko : kd out = 31) {h2 : Nat → UInt64} (hO2 : M outD = some (da 1 h2)) (ko2 : kd outD = 31) {i : Int32} (hi : ∀ j : Int32, 1 ≤ j → j ≤ 5 → 0 ≤ i + j ∧ (i + j).toNatClampNeg < SN) (hL : 30 ≤ L) (hk : k0 + 8 ≤ mc) (hn : n0 + 600 ≤ ms) {z6 z7 z8 : Option Value} (kk : ∀ (M' : LH) (z6 z7 z8 : Option Value), LI p m out outD (N + 1) M' → V l g ⟨"SledgePostLaw", nm, ds⟩ cL_law (some .boolean) tb L mc ms Po X M' (k0 + 8) (n0 + 600) 3320 [some (.ref b), some (.ref p), some (.ref m), some (.ref out), some (.ref outD), some (.int i), z6, z7, z8] []) : V l g ⟨"SledgePostLaw", nm, ds⟩ cL_law (some .boolean) tb L mc ms Po X M k0 n0 592 [some (.ref b), some (.ref p), some (.ref m), some (.ref out), some (.ref outD), some (.int i), z6, z7, z8] [] := by
  obtain ⟨hG, hSy, hv4⟩ := hS.1
  obtain ⟨-, -, -, -, ⟨tn0, tn60⟩, ⟨ea1, fl1⟩, ⟨hTl, hLs⟩, c0, c8⟩ := _root_.id hS
  obtain ⟨h461, h46⟩ := hS.1.r hN
  obtain ⟨hs0, old0, ⟨hpO, -⟩, -⟩ := _root_.id hP
  refine v_aload_n dL_law_592 rfl rfl ?_
  refine v_aload_n dL_law_593 rfl rfl ?_
  refine v_iload dL_law_594 rfl ?_
  refine v_iconst (v := 1) dL_law_596 (by decide) ?_
  refine v_iadd dL_law_597 ?_
  refine v_sld hX dL_law_598 (hi 1 (by decide) (by decide)).1 (hi 1 (by decide) (by decide)).2 ?_
  refine v_aload_n dL_law_599 rfl rfl ?_
  refine v_iload dL_law_600 rfl ?_
  refine v_iconst (v := 2) dL_law_602 (by decide) ?_
  refine v_iadd dL_law_603 ?_
  refine v_sld hX dL_law_604 (hi 2 (by decide) (by decide)).1 (hi 2 (by decide) (by decide)).2 ?_
  refine v_aload_n dL_law_605 rfl rfl ?_
  refine kl_204 dL_law_606 rfl (w_L_load htr (f_load htr hP (xs (i + 1).toNatClampNeg) (xs (i + 2).toNatClampNeg)) hpO (fun r M9 h9 => ⟨_, (h9.2.2.elim (fun _ z => z.2.2) out (by rw [ko]; decide)).trans hO⟩) (fun E M9 h9 => by obtain ⟨e1, rfl, -, -⟩ := h9; rcases vx_load e1 with ⟨e2, -⟩ | ⟨e2, -⟩ | ⟨e2, -⟩ | ⟨e2, -⟩ <;> simp [e2])) (by omega) (by omega) (by omega) (Nat.le_of_ble_eq_true rfl) (fun r9 M9 h9 => ?_) (fun _ _ h9 => h9.elim)
  rcases h9 with ⟨rfl, r, M8, h8, ⟨hvd, rfl, pa1, hPa, hP8, hF8⟩, hh, rfl⟩ | ⟨E, ⟨hvd, hE0, hP8, hF8⟩, hE⟩
  · skip
    have f31 : Fs kd (fun r => r = 31) M8 (hup M8 out (la 1 h8)) := fun x hx => hup_n (fun z => hx (by rw [z]; exact ko))
    have hP9 := hP8.fs f31 (fun r h => by omega)
    have hM9 := (hM.tp (hF8.t 30 (Nat.le_refl _))).tp (f31.tp (by decide))
    have hO9 := up_k (e' := la 1 h8) ((hF8 outD (by rw [ko2]; decide)).trans hO2) ((hF8 out (by rw [ko]; decide)).trans hO) da_la
    refine v_istore_6 dL_law_609 ?_
    refine v_aload_n dL_law_611 rfl rfl ?_
    refine v_aload_n dL_law_612 rfl rfl ?_
    refine v_iload dL_law_613 rfl ?_
    refine v_iconst (v := 1) dL_law_615 (by decide) ?_
    refine v_iadd dL_law_616 ?_
    refine v_sld hX dL_law_617 (hi 1 (by decide) (by decide)).1 (hi 1 (by decide) (by decide)).2 ?_
    refine v_aload_n dL_law_618 rfl rfl ?_
    refine v_iload dL_law_619 rfl ?_
    refine v_iconst (v := 2) dL_law_621 (by decide) ?_
    refine v_iadd dL_law_622 ?_
    refine v_sld hX dL_law_623 (hi 2 (by decide) (by decide)).1 (hi 2 (by decide) (by decide)).2 ?_
    refine k_L_206 dL_law_624 rfl (r_load htr hM9 hG c0 c8 (xs (i + 1).toNatClampNeg) (xs (i + 2).toNatClampNeg)) hM9.1 (by omega) (by omega) (by omega) (Nat.le_of_ble_eq_true rfl) (fun r624 M9 h9 => ?_) (fun _ _ h9 => h9.elim)
    obtain ⟨b5, pa2, h9, hF9⟩ := h9
    rcases h9 with ⟨-, rfl, hPa2, hC⟩ | ⟨hv2, -⟩
    rotate_left
    · exact absurd hvd hv2
    have hOA := LR1 (kd := kd) hup_s ko hF9
    have hOD := LR1 hO9 ko2 hF9
    refine v_istore_7 dL_law_627 ?_
    refine v_aload_n dL_law_629 rfl rfl ?_
    refine k_L_189 dL_law_630 rfl (r_thrown htr hC) hC.1 (by omega) (by omega) (by omega) (Nat.le_of_ble_eq_true rfl) (fun r630 M9 h9 => ?_) (fun _ _ h9 => h9.elim)
    obtain ⟨rfl, e9⟩ := h9
    subst M9
    refine v_iload dL_law_633 rfl ?_
    refine v_icmp_eq (tgt := 640) dL_law_635 (by decide) (fun h635 => ?_) (fun h635 => ?_)
    · refine v_iload dL_law_640 rfl ?_
      refine v_if_ne (tgt := 657) dL_law_642 (by decide) (fun h642 => ?_) (fun h642 => ?_)
      · exact absurd rfl h642
      · refine v_aload_n dL_law_645 rfl rfl ?_
        refine v_iconst (v := 0) dL_law_646 (by decide) ?_
        refine v_lald dL_law_647 hOA ?_
        refine v_iload dL_law_648 rfl ?_
        refine v_i2l dL_law_650 ?_
        refine v_lcmp dL_law_651 ?_
        rw [hh, lg_self]
        refine v_if_eq (tgt := 657) dL_law_652 (by decide) (fun h652 => ?_) (fun h652 => ?_)
        · refine v_goto (tgt := 3320) dL_law_657 (by decide) ?_
          refine V.wid (k' := k0 + 8) (n' := n0 + 600) (by omega) (by omega) (kk _ _ _ _ ?_)
          exact ⟨kd, q, a, e8, _, sv, sa, _, pa2, tx, tn, Ls, ea, fl, w, _, _, _, _, _, _, _, _, _, _, _, _, _, (hP9.fs (Frm.fs (S := fun r => r = 30) hF9 rfl) (fun r h => by omega)).pa (PaS.un c0 c8 hPa hPa2), hC, hS.ch (hS.1.go hN (S := (fun j : Int32 => ([(xs (i + 1).toNatClampNeg), (xs (i + 2).toNatClampNeg)] : List Int32).getD j.toNatClampNeg 0)) (i := 4) (by decide) hvd ⟨rfl, rfl⟩) hPa2, ⟨⟨_, hOA⟩, ko⟩, ⟨_, hOD⟩, ko2⟩
        · exact absurd rfl h652
    · exact absurd rfl h635
  · skip
    have hM9 := hM.tp (hF8.t 30 (Nat.le_refl _))
    have hO8 := (hF8 out (by rw [ko]; decide)).trans hO
    have hO9 := (hF8 outD (by rw [ko2]; decide)).trans hO2
    have hr : r9 = fcI 4 (vdPutOn v (xs (i + 1).toNatClampNeg) (xs (i + 2).toNatClampNeg)) := by
      rcases vx_load hvd with ⟨x1, x2⟩ | ⟨x1, x2⟩ | ⟨x1, x2⟩ | ⟨x1, x2⟩ <;> rcases hE with ⟨x3, x4⟩ | ⟨x3, x4⟩ | ⟨x3, x4⟩ | ⟨x3, x4⟩ <;> first | exact x4.trans x2.symm | exact absurd (x3.symm.trans (hE0.trans x1)) (by decide)
    subst hr
    refine v_istore_6 dL_law_609 ?_
    refine v_aload_n dL_law_611 rfl rfl ?_
    refine v_aload_n dL_law_612 rfl rfl ?_
    refine v_iload dL_law_613 rfl ?_
    refine v_iconst (v := 1) dL_law_615 (by decide) ?_
    refine v_iadd dL_law_616 ?_
    refine v_sld hX dL_law_617 (hi 1 (by decide) (by decide)).1 (hi 1 (by decide) (by decide)).2 ?_
    refine v_aload_n dL_law_618 rfl rfl ?_
    refine v_iload dL_law_619 rfl ?_
    refine v_iconst (v := 2) dL_law_621 (by decide) ?_
    refine v_iadd dL_law_622 ?_
    refine v_sld hX dL_law_623 (hi 2 (by decide) (by decide)).1 (hi 2 (by decide) (by decide)).2 ?_
    refine k_L_206 dL_law_624 rfl (r_load htr hM9 hG c0 c8 (xs (i + 1).toNatClampNeg) (xs (i + 2).toNatClampNeg)) hM9.1 (by omega) (by omega) (by omega) (Nat.le_of_ble_eq_true rfl) (fun r624 M9 h9 => ?_) (fun _ _ h9 => h9.elim)
    obtain ⟨b5, pa2, h9, hF9⟩ := h9
    rcases h9 with ⟨hv2, -⟩ | ⟨-, rfl, pa2q, rfl, hC⟩
    · exact absurd hv2 hvd
    have hOA := LR1 hO8 ko hF9
    have hOD := LR1 hO9 ko2 hF9
    refine v_istore_7 dL_law_627 ?_
    refine v_aload_n dL_law_629 rfl rfl ?_
    refine k_L_189 dL_law_630 rfl (r_thrown htr hC) hC.1 (by omega) (by omega) (by omega) (Nat.le_of_ble_eq_true rfl) (fun r630 M9 h9 => ?_) (fun _ _ h9 => h9.elim)
    obtain ⟨rfl, e9⟩ := h9
    subst M9
    refine v_iload dL_law_633 rfl ?_
    refine v_icmp_eq (tgt := 640) dL_law_635 (by decide) (fun h635 => ?_) (fun h635 => ?_)
    · refine v_iload dL_law_640 rfl ?_
      refine v_if_ne (tgt := 657) dL_law_642 (by decide) (fun h642 => ?_) (fun h642 => ?_)
      · refine v_goto (tgt := 3320) dL_law_657 (by decide) ?_
        refine V.wid (k' := k0 + 8) (n' := n0 + 600) (by omega) (by omega) (kk _ _ _ _ ?_)
        exact ⟨kd, q, a, e8, v, sv, sa, ch, _, tx, tn, Ls, ea, fl, w, _, _, _, _, _, _, _, _, _, _, _, _, _, hP8.fs (Frm.fs (S := fun r => r = 30) hF9 rfl) (fun r h => by omega), hC, hS.up, ⟨⟨_, hOA⟩, ko⟩, ⟨_, hOD⟩, ko2⟩
      · exact absurd h642 fcI_nz
    · exact absurd rfl h635
theorem vx_unload {v : Int32 → Int32} {k : Int32} {id : Int32} (h : ¬ vdTakeOff v k id = 0) : (exV (vdTakeOff v k id) = "java/lang/IndexOutOfBoundsException" ∧ fcI 5 (vdTakeOff v k id) = 1) ∨ (exV (vdTakeOff v k id) = "java/util/NoSuchElementException" ∧ fcI 5 (vdTakeOff v k id) = 2) ∨ (exV (vdTakeOff v k id) = "java/lang/IllegalStateException" ∧ fcI 5 (vdTakeOff v k id) = 3) := by
  have z : vdTakeOff v k id = 0 ∨ vdTakeOff v k id = 1 ∨ vdTakeOff v k id = 3 ∨ vdTakeOff v k id = 4 := by
    unfold vdTakeOff
    (repeat' split) <;> decide
  rcases z with z | z | z | z <;> rw [z] at h ⊢ <;> first | exact absurd rfl h | exact Or.inl ⟨rfl, rfl⟩ | exact Or.inr (Or.inl ⟨rfl, rfl⟩) | exact Or.inr (Or.inr (⟨rfl, rfl⟩))
theorem dL_law_660 : decode cL_law 660 = .ok (.aload_n 1, 1) := by decide +kernel
theorem dL_law_661 : decode cL_law 661 = .ok (.aload_n 0, 1) := by decide +kernel
theorem dL_law_662 : decode cL_law 662 = .ok (.iload 5, 2) := by decide +kernel
theorem dL_law_664 : decode cL_law 664 = .ok (.iconst 1, 1) := by decide +kernel
theorem dL_law_665 : decode cL_law 665 = .ok (.iadd, 1) := by decide +kernel
theorem dL_law_666 : decode cL_law 666 = .ok (.iaload, 1) := by decide +kernel
theorem dL_law_667 : decode cL_law 667 = .ok (.aload_n 0, 1) := by decide +kernel
theorem dL_law_668 : decode cL_law 668 = .ok (.iload 5, 2) := by decide +kernel
theorem dL_law_670 : decode cL_law 670 = .ok (.iconst 2, 1) := by decide +kernel
theorem dL_law_671 : decode cL_law 671 = .ok (.iadd, 1) := by decide +kernel
theorem dL_law_672 : decode cL_law 672 = .ok (.iaload, 1) := by decide +kernel
theorem dL_law_673 : decode cL_law 673 = .ok (.aload_n 3, 1) := by decide +kernel
theorem dL_law_674 : decode cL_law 674 = .ok (.invokestatic 207, 3) := by decide +kernel
theorem dL_law_677 : decode cL_law 677 = .ok (.istore 6, 2) := by decide +kernel
theorem dL_law_679 : decode cL_law 679 = .ok (.aload_n 2, 1) := by decide +kernel
theorem dL_law_680 : decode cL_law 680 = .ok (.aload_n 0, 1) := by decide +kernel
theorem dL_law_681 : decode cL_law 681 = .ok (.iload 5, 2) := by decide +kernel
theorem dL_law_683 : decode cL_law 683 = .ok (.iconst 1, 1) := by decide +kernel
theorem dL_law_684 : decode cL_law 684 = .ok (.iadd, 1) := by decide +kernel
theorem dL_law_685 : decode cL_law 685 = .ok (.iaload, 1) := by decide +kernel
theorem dL_law_686 : decode cL_law 686 = .ok (.aload_n 0, 1) := by decide +kernel
theorem dL_law_687 : decode cL_law 687 = .ok (.iload 5, 2) := by decide +kernel
theorem dL_law_689 : decode cL_law 689 = .ok (.iconst 2, 1) := by decide +kernel
theorem dL_law_690 : decode cL_law 690 = .ok (.iadd, 1) := by decide +kernel
theorem dL_law_691 : decode cL_law 691 = .ok (.iaload, 1) := by decide +kernel
theorem dL_law_692 : decode cL_law 692 = .ok (.invokevirtual 209, 3) := by decide +kernel
theorem dL_law_695 : decode cL_law 695 = .ok (.istore 7, 2) := by decide +kernel
theorem dL_law_697 : decode cL_law 697 = .ok (.aload_n 2, 1) := by decide +kernel
theorem dL_law_698 : decode cL_law 698 = .ok (.invokevirtual 189, 3) := by decide +kernel
theorem dL_law_701 : decode cL_law 701 = .ok (.iload 6, 2) := by decide +kernel
theorem dL_law_703 : decode cL_law 703 = .ok (.if_icmp .eq 5, 3) := by decide +kernel
theorem dL_law_706 : decode cL_law 706 = .ok (.iconst 0, 1) := by decide +kernel
theorem dL_law_707 : decode cL_law 707 = .ok (.ireturn, 1) := by decide +kernel
theorem dL_law_708 : decode cL_law 708 = .ok (.iload 6, 2) := by decide +kernel
theorem dL_law_710 : decode cL_law 710 = .ok (.ifCond .ne 15, 3) := by decide +kernel
theorem dL_law_713 : decode cL_law 713 = .ok (.aload_n 3, 1) := by decide +kernel
theorem dL_law_714 : decode cL_law 714 = .ok (.iconst 0, 1) := by decide +kernel
theorem dL_law_715 : decode cL_law 715 = .ok (.laload, 1) := by decide +kernel
theorem dL_law_716 : decode cL_law 716 = .ok (.iload 7, 2) := by decide +kernel
theorem dL_law_718 : decode cL_law 718 = .ok (.i2l, 1) := by decide +kernel
theorem dL_law_719 : decode cL_law 719 = .ok (.lcmp, 1) := by decide +kernel
theorem dL_law_720 : decode cL_law 720 = .ok (.ifCond .eq 5, 3) := by decide +kernel
theorem dL_law_723 : decode cL_law 723 = .ok (.iconst 0, 1) := by decide +kernel
theorem dL_law_724 : decode cL_law 724 = .ok (.ireturn, 1) := by decide +kernel
theorem dL_law_725 : decode cL_law 725 = .ok (.goto 2595, 3) := by decide +kernel
set_option maxRecDepth 100000 in
set_option maxHeartbeats 4000000 in
theorem law_5 {l : Launch} {g : Nat → Nat} {nm ds : String} {tb : List ExceptionTableEntry} {L mc ms : Nat} {Po : Res → LH → Prop} {X : CX} {M : LH} {k0 n0 : Nat} (htr : l.stackTraces = false) {b SN : Nat} {xs : Nat → Int32} (hX : Sc b SN xs X) {kd : Nat → Nat} {p : Nat} {q a : Nat → Nat} {e8 : Int32 → Nat} {v : Int32 → Int32} {sv : Int32} {sa : Int32 → Int32} {ch : Int32} {pa tx : Int32 → Int32} {tn : Int32} {Ls : List Int32} {ea fl : Int32} {m : Nat} {w : Nat → Nat} {t bf he en wr dg : Int32} {b4 fr th bs li lf to : Int32 → Int32} {out outD : Nat} {N : Nat} (hP : Pg kd M p q a e8 v sv sa ch pa tx tn Ls ea fl) (hM : Md kd 30 M m w t ch ea fl sv bf tn he en (nI Ls.length) wr dg v b4 sa pa fr th bs tx li lf to) (hS : Lw N v sv sa ch pa tn Ls ea fl li) (hN : N ≤ 512) {h0 : Nat → Int64} (hO : M out = some (la 1 h0)) (ko : kd out = 31) {h2 : Nat → UInt64} (hO2 : M outD = some (da 1 h2)) (ko2 : kd outD = 31) {i : Int32} (hi : ∀ j : Int32, 1 ≤ j → j ≤ 5 → 0 ≤ i + j ∧ (i + j).toNatClampNeg < SN) (hL : 30 ≤ L) (hk : k0 + 8 ≤ mc) (hn : n0 + 600 ≤ ms) {z6 z7 z8 : Option Value} (kk : ∀ (M' : LH) (z6 z7 z8 : Option Value), LI p m out outD (N + 1) M' → V l g ⟨"SledgePostLaw", nm, ds⟩ cL_law (some .boolean) tb L mc ms Po X M' (k0 + 8) (n0 + 600) 3320 [some (.ref b), some (.ref p), some (.ref m), some (.ref out), some (.ref outD), some (.int i), z6, z7, z8] []) : V l g ⟨"SledgePostLaw", nm, ds⟩ cL_law (some .boolean) tb L mc ms Po X M k0 n0 660 [some (.ref b), some (.ref p), some (.ref m), some (.ref out), some (.ref outD), some (.int i), z6, z7, z8] [] := by
  obtain ⟨hG, hSy, hv4⟩ := hS.1
  obtain ⟨-, -, -, -, ⟨tn0, tn60⟩, ⟨ea1, fl1⟩, ⟨hTl, hLs⟩, c0, c8⟩ := _root_.id hS
  obtain ⟨h461, h46⟩ := hS.1.r hN
  obtain ⟨hs0, old0, ⟨hpO, -⟩, -⟩ := _root_.id hP
  refine v_aload_n dL_law_660 rfl rfl ?_
  refine v_aload_n dL_law_661 rfl rfl ?_
  refine v_iload dL_law_662 rfl ?_
  refine v_iconst (v := 1) dL_law_664 (by decide) ?_
  refine v_iadd dL_law_665 ?_
  refine v_sld hX dL_law_666 (hi 1 (by decide) (by decide)).1 (hi 1 (by decide) (by decide)).2 ?_
  refine v_aload_n dL_law_667 rfl rfl ?_
  refine v_iload dL_law_668 rfl ?_
  refine v_iconst (v := 2) dL_law_670 (by decide) ?_
  refine v_iadd dL_law_671 ?_
  refine v_sld hX dL_law_672 (hi 2 (by decide) (by decide)).1 (hi 2 (by decide) (by decide)).2 ?_
  refine v_aload_n dL_law_673 rfl rfl ?_
  refine kl_207 dL_law_674 rfl (w_L_unload htr (f_unload htr hP (xs (i + 1).toNatClampNeg) (xs (i + 2).toNatClampNeg)) hpO (fun r M9 h9 => ⟨_, (h9.2.2.elim (fun _ z => z.2.2) out (by rw [ko]; decide)).trans hO⟩) (fun E M9 h9 => by obtain ⟨e1, rfl, -, -⟩ := h9; rcases vx_unload e1 with ⟨e2, -⟩ | ⟨e2, -⟩ | ⟨e2, -⟩ <;> simp [e2])) (by omega) (by omega) (by omega) (Nat.le_of_ble_eq_true rfl) (fun r9 M9 h9 => ?_) (fun _ _ h9 => h9.elim)
  rcases h9 with ⟨rfl, r, M8, h8, ⟨hvd, rfl, pa1, hPa, hP8, hF8⟩, hh, rfl⟩ | ⟨E, ⟨hvd, hE0, hP8, hF8⟩, hE⟩
  · skip
    have f31 : Fs kd (fun r => r = 31) M8 (hup M8 out (la 1 h8)) := fun x hx => hup_n (fun z => hx (by rw [z]; exact ko))
    have hP9 := hP8.fs f31 (fun r h => by omega)
    have hM9 := (hM.tp (hF8.t 30 (Nat.le_refl _))).tp (f31.tp (by decide))
    have hO9 := up_k (e' := la 1 h8) ((hF8 outD (by rw [ko2]; decide)).trans hO2) ((hF8 out (by rw [ko]; decide)).trans hO) da_la
    refine v_istore_6 dL_law_677 ?_
    refine v_aload_n dL_law_679 rfl rfl ?_
    refine v_aload_n dL_law_680 rfl rfl ?_
    refine v_iload dL_law_681 rfl ?_
    refine v_iconst (v := 1) dL_law_683 (by decide) ?_
    refine v_iadd dL_law_684 ?_
    refine v_sld hX dL_law_685 (hi 1 (by decide) (by decide)).1 (hi 1 (by decide) (by decide)).2 ?_
    refine v_aload_n dL_law_686 rfl rfl ?_
    refine v_iload dL_law_687 rfl ?_
    refine v_iconst (v := 2) dL_law_689 (by decide) ?_
    refine v_iadd dL_law_690 ?_
    refine v_sld hX dL_law_691 (hi 2 (by decide) (by decide)).1 (hi 2 (by decide) (by decide)).2 ?_
    refine k_L_209 dL_law_692 rfl (r_unload htr hM9 hG c0 c8 (xs (i + 1).toNatClampNeg) (xs (i + 2).toNatClampNeg)) hM9.1 (by omega) (by omega) (by omega) (Nat.le_of_ble_eq_true rfl) (fun r692 M9 h9 => ?_) (fun _ _ h9 => h9.elim)
    obtain ⟨b5, pa2, h9, hF9⟩ := h9
    rcases h9 with ⟨-, rfl, hPa2, hC⟩ | ⟨hv2, -⟩
    rotate_left
    · exact absurd hvd hv2
    have hOA := LR1 (kd := kd) hup_s ko hF9
    have hOD := LR1 hO9 ko2 hF9
    refine v_istore_7 dL_law_695 ?_
    refine v_aload_n dL_law_697 rfl rfl ?_
    refine k_L_189 dL_law_698 rfl (r_thrown htr hC) hC.1 (by omega) (by omega) (by omega) (Nat.le_of_ble_eq_true rfl) (fun r698 M9 h9 => ?_) (fun _ _ h9 => h9.elim)
    obtain ⟨rfl, e9⟩ := h9
    subst M9
    refine v_iload dL_law_701 rfl ?_
    refine v_icmp_eq (tgt := 708) dL_law_703 (by decide) (fun h703 => ?_) (fun h703 => ?_)
    · refine v_iload dL_law_708 rfl ?_
      refine v_if_ne (tgt := 725) dL_law_710 (by decide) (fun h710 => ?_) (fun h710 => ?_)
      · exact absurd rfl h710
      · refine v_aload_n dL_law_713 rfl rfl ?_
        refine v_iconst (v := 0) dL_law_714 (by decide) ?_
        refine v_lald dL_law_715 hOA ?_
        refine v_iload dL_law_716 rfl ?_
        refine v_i2l dL_law_718 ?_
        refine v_lcmp dL_law_719 ?_
        rw [hh, lg_self]
        refine v_if_eq (tgt := 725) dL_law_720 (by decide) (fun h720 => ?_) (fun h720 => ?_)
        · refine v_goto (tgt := 3320) dL_law_725 (by decide) ?_
          refine V.wid (k' := k0 + 8) (n' := n0 + 600) (by omega) (by omega) (kk _ _ _ _ ?_)
          exact ⟨kd, q, a, e8, _, sv, sa, _, pa2, tx, tn, Ls, ea, fl, w, _, _, _, _, _, _, _, _, _, _, _, _, _, (hP9.fs (Frm.fs (S := fun r => r = 30) hF9 rfl) (fun r h => by omega)).pa (PaS.un c0 c8 hPa hPa2), hC, hS.ch (hS.1.go hN (S := (fun j : Int32 => ([(xs (i + 1).toNatClampNeg), (xs (i + 2).toNatClampNeg)] : List Int32).getD j.toNatClampNeg 0)) (i := 5) (by decide) hvd ⟨rfl, rfl⟩) hPa2, ⟨⟨_, hOA⟩, ko⟩, ⟨_, hOD⟩, ko2⟩
        · exact absurd rfl h720
    · exact absurd rfl h703
  · skip
    have hM9 := hM.tp (hF8.t 30 (Nat.le_refl _))
    have hO8 := (hF8 out (by rw [ko]; decide)).trans hO
    have hO9 := (hF8 outD (by rw [ko2]; decide)).trans hO2
    have hr : r9 = fcI 5 (vdTakeOff v (xs (i + 1).toNatClampNeg) (xs (i + 2).toNatClampNeg)) := by
      rcases vx_unload hvd with ⟨x1, x2⟩ | ⟨x1, x2⟩ | ⟨x1, x2⟩ <;> rcases hE with ⟨x3, x4⟩ | ⟨x3, x4⟩ | ⟨x3, x4⟩ <;> first | exact x4.trans x2.symm | exact absurd (x3.symm.trans (hE0.trans x1)) (by decide)
    subst hr
    refine v_istore_6 dL_law_677 ?_
    refine v_aload_n dL_law_679 rfl rfl ?_
    refine v_aload_n dL_law_680 rfl rfl ?_
    refine v_iload dL_law_681 rfl ?_
    refine v_iconst (v := 1) dL_law_683 (by decide) ?_
    refine v_iadd dL_law_684 ?_
    refine v_sld hX dL_law_685 (hi 1 (by decide) (by decide)).1 (hi 1 (by decide) (by decide)).2 ?_
    refine v_aload_n dL_law_686 rfl rfl ?_
    refine v_iload dL_law_687 rfl ?_
    refine v_iconst (v := 2) dL_law_689 (by decide) ?_
    refine v_iadd dL_law_690 ?_
    refine v_sld hX dL_law_691 (hi 2 (by decide) (by decide)).1 (hi 2 (by decide) (by decide)).2 ?_
    refine k_L_209 dL_law_692 rfl (r_unload htr hM9 hG c0 c8 (xs (i + 1).toNatClampNeg) (xs (i + 2).toNatClampNeg)) hM9.1 (by omega) (by omega) (by omega) (Nat.le_of_ble_eq_true rfl) (fun r692 M9 h9 => ?_) (fun _ _ h9 => h9.elim)
    obtain ⟨b5, pa2, h9, hF9⟩ := h9
    rcases h9 with ⟨hv2, -⟩ | ⟨-, rfl, pa2q, rfl, hC⟩
    · exact absurd hv2 hvd
    have hOA := LR1 hO8 ko hF9
    have hOD := LR1 hO9 ko2 hF9
    refine v_istore_7 dL_law_695 ?_
    refine v_aload_n dL_law_697 rfl rfl ?_
    refine k_L_189 dL_law_698 rfl (r_thrown htr hC) hC.1 (by omega) (by omega) (by omega) (Nat.le_of_ble_eq_true rfl) (fun r698 M9 h9 => ?_) (fun _ _ h9 => h9.elim)
    obtain ⟨rfl, e9⟩ := h9
    subst M9
    refine v_iload dL_law_701 rfl ?_
    refine v_icmp_eq (tgt := 708) dL_law_703 (by decide) (fun h703 => ?_) (fun h703 => ?_)
    · refine v_iload dL_law_708 rfl ?_
      refine v_if_ne (tgt := 725) dL_law_710 (by decide) (fun h710 => ?_) (fun h710 => ?_)
      · refine v_goto (tgt := 3320) dL_law_725 (by decide) ?_
        refine V.wid (k' := k0 + 8) (n' := n0 + 600) (by omega) (by omega) (kk _ _ _ _ ?_)
        exact ⟨kd, q, a, e8, v, sv, sa, ch, _, tx, tn, Ls, ea, fl, w, _, _, _, _, _, _, _, _, _, _, _, _, _, hP8.fs (Frm.fs (S := fun r => r = 30) hF9 rfl) (fun r h => by omega), hC, hS.up, ⟨⟨_, hOA⟩, ko⟩, ⟨_, hOD⟩, ko2⟩
      · exact absurd h710 fcI_nz
    · exact absurd rfl h703
theorem vx_loadBest {v : Int32 → Int32} {k : Int32} (h : ¬ vdBest v k = 0) : (exV (vdBest v k) = "java/lang/IndexOutOfBoundsException" ∧ fcI 6 (vdBest v k) = 1) ∨ (exV (vdBest v k) = "java/lang/IllegalStateException" ∧ fcI 6 (vdBest v k) = 2) := by
  have z : vdBest v k = 0 ∨ vdBest v k = 1 ∨ vdBest v k = 4 := by
    unfold vdBest
    (repeat' split) <;> decide
  rcases z with z | z | z <;> rw [z] at h ⊢ <;> first | exact absurd rfl h | exact Or.inl ⟨rfl, rfl⟩ | exact Or.inr (⟨rfl, rfl⟩)
theorem dL_law_728 : decode cL_law 728 = .ok (.aload_n 1, 1) := by decide +kernel
theorem dL_law_729 : decode cL_law 729 = .ok (.aload_n 0, 1) := by decide +kernel
theorem dL_law_730 : decode cL_law 730 = .ok (.iload 5, 2) := by decide +kernel
theorem dL_law_732 : decode cL_law 732 = .ok (.iconst 1, 1) := by decide +kernel
theorem dL_law_733 : decode cL_law 733 = .ok (.iadd, 1) := by decide +kernel
theorem dL_law_734 : decode cL_law 734 = .ok (.iaload, 1) := by decide +kernel
theorem dL_law_735 : decode cL_law 735 = .ok (.aload_n 3, 1) := by decide +kernel
theorem dL_law_736 : decode cL_law 736 = .ok (.invokestatic 210, 3) := by decide +kernel
theorem dL_law_739 : decode cL_law 739 = .ok (.istore 6, 2) := by decide +kernel
theorem dL_law_741 : decode cL_law 741 = .ok (.aload_n 2, 1) := by decide +kernel
theorem dL_law_742 : decode cL_law 742 = .ok (.aload_n 0, 1) := by decide +kernel
theorem dL_law_743 : decode cL_law 743 = .ok (.iload 5, 2) := by decide +kernel
theorem dL_law_745 : decode cL_law 745 = .ok (.iconst 1, 1) := by decide +kernel
theorem dL_law_746 : decode cL_law 746 = .ok (.iadd, 1) := by decide +kernel
theorem dL_law_747 : decode cL_law 747 = .ok (.iaload, 1) := by decide +kernel
theorem dL_law_748 : decode cL_law 748 = .ok (.invokevirtual 213, 3) := by decide +kernel
theorem dL_law_751 : decode cL_law 751 = .ok (.istore 7, 2) := by decide +kernel
theorem dL_law_753 : decode cL_law 753 = .ok (.aload_n 2, 1) := by decide +kernel
theorem dL_law_754 : decode cL_law 754 = .ok (.invokevirtual 189, 3) := by decide +kernel
theorem dL_law_757 : decode cL_law 757 = .ok (.iload 6, 2) := by decide +kernel
theorem dL_law_759 : decode cL_law 759 = .ok (.if_icmp .eq 5, 3) := by decide +kernel
theorem dL_law_762 : decode cL_law 762 = .ok (.iconst 0, 1) := by decide +kernel
theorem dL_law_763 : decode cL_law 763 = .ok (.ireturn, 1) := by decide +kernel
theorem dL_law_764 : decode cL_law 764 = .ok (.iload 6, 2) := by decide +kernel
theorem dL_law_766 : decode cL_law 766 = .ok (.ifCond .ne 15, 3) := by decide +kernel
theorem dL_law_769 : decode cL_law 769 = .ok (.aload_n 3, 1) := by decide +kernel
theorem dL_law_770 : decode cL_law 770 = .ok (.iconst 0, 1) := by decide +kernel
theorem dL_law_771 : decode cL_law 771 = .ok (.laload, 1) := by decide +kernel
theorem dL_law_772 : decode cL_law 772 = .ok (.iload 7, 2) := by decide +kernel
theorem dL_law_774 : decode cL_law 774 = .ok (.i2l, 1) := by decide +kernel
theorem dL_law_775 : decode cL_law 775 = .ok (.lcmp, 1) := by decide +kernel
theorem dL_law_776 : decode cL_law 776 = .ok (.ifCond .eq 5, 3) := by decide +kernel
theorem dL_law_779 : decode cL_law 779 = .ok (.iconst 0, 1) := by decide +kernel
theorem dL_law_780 : decode cL_law 780 = .ok (.ireturn, 1) := by decide +kernel
theorem dL_law_781 : decode cL_law 781 = .ok (.goto 2539, 3) := by decide +kernel
set_option maxRecDepth 100000 in
set_option maxHeartbeats 4000000 in
theorem law_6 {l : Launch} {g : Nat → Nat} {nm ds : String} {tb : List ExceptionTableEntry} {L mc ms : Nat} {Po : Res → LH → Prop} {X : CX} {M : LH} {k0 n0 : Nat} (htr : l.stackTraces = false) {b SN : Nat} {xs : Nat → Int32} (hX : Sc b SN xs X) {kd : Nat → Nat} {p : Nat} {q a : Nat → Nat} {e8 : Int32 → Nat} {v : Int32 → Int32} {sv : Int32} {sa : Int32 → Int32} {ch : Int32} {pa tx : Int32 → Int32} {tn : Int32} {Ls : List Int32} {ea fl : Int32} {m : Nat} {w : Nat → Nat} {t bf he en wr dg : Int32} {b4 fr th bs li lf to : Int32 → Int32} {out outD : Nat} {N : Nat} (hP : Pg kd M p q a e8 v sv sa ch pa tx tn Ls ea fl) (hM : Md kd 30 M m w t ch ea fl sv bf tn he en (nI Ls.length) wr dg v b4 sa pa fr th bs tx li lf to) (hS : Lw N v sv sa ch pa tn Ls ea fl li) (hN : N ≤ 512) {h0 : Nat → Int64} (hO : M out = some (la 1 h0)) (ko : kd out = 31) {h2 : Nat → UInt64} (hO2 : M outD = some (da 1 h2)) (ko2 : kd outD = 31) {i : Int32} (hi : ∀ j : Int32, 1 ≤ j → j ≤ 5 → 0 ≤ i + j ∧ (i + j).toNatClampNeg < SN) (hL : 30 ≤ L) (hk : k0 + 8 ≤ mc) (hn : n0 + 600 ≤ ms) {z6 z7 z8 : Option Value} (kk : ∀ (M' : LH) (z6 z7 z8 : Option Value), LI p m out outD (N + 1) M' → V l g ⟨"SledgePostLaw", nm, ds⟩ cL_law (some .boolean) tb L mc ms Po X M' (k0 + 8) (n0 + 600) 3320 [some (.ref b), some (.ref p), some (.ref m), some (.ref out), some (.ref outD), some (.int i), z6, z7, z8] []) : V l g ⟨"SledgePostLaw", nm, ds⟩ cL_law (some .boolean) tb L mc ms Po X M k0 n0 728 [some (.ref b), some (.ref p), some (.ref m), some (.ref out), some (.ref outD), some (.int i), z6, z7, z8] [] := by
  obtain ⟨hG, hSy, hv4⟩ := hS.1
  obtain ⟨-, -, -, -, ⟨tn0, tn60⟩, ⟨ea1, fl1⟩, ⟨hTl, hLs⟩, c0, c8⟩ := _root_.id hS
  obtain ⟨h461, h46⟩ := hS.1.r hN
  obtain ⟨hs0, old0, ⟨hpO, -⟩, -⟩ := _root_.id hP
  refine v_aload_n dL_law_728 rfl rfl ?_
  refine v_aload_n dL_law_729 rfl rfl ?_
  refine v_iload dL_law_730 rfl ?_
  refine v_iconst (v := 1) dL_law_732 (by decide) ?_
  refine v_iadd dL_law_733 ?_
  refine v_sld hX dL_law_734 (hi 1 (by decide) (by decide)).1 (hi 1 (by decide) (by decide)).2 ?_
  refine v_aload_n dL_law_735 rfl rfl ?_
  refine kl_210 dL_law_736 rfl (w_L_loadBest htr (f_loadBest htr hP (xs (i + 1).toNatClampNeg)) hpO (fun r M9 h9 => ⟨_, (h9.2.2.elim (fun _ z => z.2.2) out (by rw [ko]; decide)).trans hO⟩) (fun E M9 h9 => by obtain ⟨e1, rfl, -, -⟩ := h9; rcases vx_loadBest e1 with ⟨e2, -⟩ | ⟨e2, -⟩ <;> simp [e2])) (by omega) (by omega) (by omega) (Nat.le_of_ble_eq_true rfl) (fun r9 M9 h9 => ?_) (fun _ _ h9 => h9.elim)
  rcases h9 with ⟨rfl, r, M8, h8, ⟨hvd, rfl, pa1, hPa, hP8, hF8⟩, hh, rfl⟩ | ⟨E, ⟨hvd, hE0, hP8, hF8⟩, hE⟩
  · skip
    have f31 : Fs kd (fun r => r = 31) M8 (hup M8 out (la 1 h8)) := fun x hx => hup_n (fun z => hx (by rw [z]; exact ko))
    have hP9 := hP8.fs f31 (fun r h => by omega)
    have hM9 := (hM.tp (hF8.t 30 (Nat.le_refl _))).tp (f31.tp (by decide))
    have hO9 := up_k (e' := la 1 h8) ((hF8 outD (by rw [ko2]; decide)).trans hO2) ((hF8 out (by rw [ko]; decide)).trans hO) da_la
    refine v_istore_6 dL_law_739 ?_
    refine v_aload_n dL_law_741 rfl rfl ?_
    refine v_aload_n dL_law_742 rfl rfl ?_
    refine v_iload dL_law_743 rfl ?_
    refine v_iconst (v := 1) dL_law_745 (by decide) ?_
    refine v_iadd dL_law_746 ?_
    refine v_sld hX dL_law_747 (hi 1 (by decide) (by decide)).1 (hi 1 (by decide) (by decide)).2 ?_
    refine k_L_213 dL_law_748 rfl (r_loadBest htr hM9 hG c0 c8 (xs (i + 1).toNatClampNeg)) hM9.1 (by omega) (by omega) (by omega) (Nat.le_of_ble_eq_true rfl) (fun r748 M9 h9 => ?_) (fun _ _ h9 => h9.elim)
    obtain ⟨b5, pa2, bf9, th9, h9, hF9⟩ := h9
    rcases h9 with ⟨-, rfl, hPa2, hC⟩ | ⟨hv2, -⟩
    rotate_left
    · exact absurd hvd hv2
    have hOA := LR1 (kd := kd) hup_s ko hF9
    have hOD := LR1 hO9 ko2 hF9
    refine v_istore_7 dL_law_751 ?_
    refine v_aload_n dL_law_753 rfl rfl ?_
    refine k_L_189 dL_law_754 rfl (r_thrown htr hC) hC.1 (by omega) (by omega) (by omega) (Nat.le_of_ble_eq_true rfl) (fun r754 M9 h9 => ?_) (fun _ _ h9 => h9.elim)
    obtain ⟨rfl, e9⟩ := h9
    subst M9
    refine v_iload dL_law_757 rfl ?_
    refine v_icmp_eq (tgt := 764) dL_law_759 (by decide) (fun h759 => ?_) (fun h759 => ?_)
    · refine v_iload dL_law_764 rfl ?_
      refine v_if_ne (tgt := 781) dL_law_766 (by decide) (fun h766 => ?_) (fun h766 => ?_)
      · exact absurd rfl h766
      · refine v_aload_n dL_law_769 rfl rfl ?_
        refine v_iconst (v := 0) dL_law_770 (by decide) ?_
        refine v_lald dL_law_771 hOA ?_
        refine v_iload dL_law_772 rfl ?_
        refine v_i2l dL_law_774 ?_
        refine v_lcmp dL_law_775 ?_
        rw [hh, lg_self]
        refine v_if_eq (tgt := 781) dL_law_776 (by decide) (fun h776 => ?_) (fun h776 => ?_)
        · refine v_goto (tgt := 3320) dL_law_781 (by decide) ?_
          refine V.wid (k' := k0 + 8) (n' := n0 + 600) (by omega) (by omega) (kk _ _ _ _ ?_)
          exact ⟨kd, q, a, e8, _, sv, sa, _, pa2, tx, tn, Ls, ea, fl, w, _, _, _, _, _, _, _, _, _, _, _, _, _, (hP9.fs (Frm.fs (S := fun r => r = 30) hF9 rfl) (fun r h => by omega)).pa (PaS.un c0 c8 hPa hPa2), hC, hS.ch (hS.1.go hN (S := (fun j : Int32 => ([(xs (i + 1).toNatClampNeg)] : List Int32).getD j.toNatClampNeg 0)) (i := 6) (by decide) hvd ⟨rfl, rfl⟩) hPa2, ⟨⟨_, hOA⟩, ko⟩, ⟨_, hOD⟩, ko2⟩
        · exact absurd rfl h776
    · exact absurd rfl h759
  · skip
    have hM9 := hM.tp (hF8.t 30 (Nat.le_refl _))
    have hO8 := (hF8 out (by rw [ko]; decide)).trans hO
    have hO9 := (hF8 outD (by rw [ko2]; decide)).trans hO2
    have hr : r9 = fcI 6 (vdBest v (xs (i + 1).toNatClampNeg)) := by
      rcases vx_loadBest hvd with ⟨x1, x2⟩ | ⟨x1, x2⟩ <;> rcases hE with ⟨x3, x4⟩ | ⟨x3, x4⟩ <;> first | exact x4.trans x2.symm | exact absurd (x3.symm.trans (hE0.trans x1)) (by decide)
    subst hr
    refine v_istore_6 dL_law_739 ?_
    refine v_aload_n dL_law_741 rfl rfl ?_
    refine v_aload_n dL_law_742 rfl rfl ?_
    refine v_iload dL_law_743 rfl ?_
    refine v_iconst (v := 1) dL_law_745 (by decide) ?_
    refine v_iadd dL_law_746 ?_
    refine v_sld hX dL_law_747 (hi 1 (by decide) (by decide)).1 (hi 1 (by decide) (by decide)).2 ?_
    refine k_L_213 dL_law_748 rfl (r_loadBest htr hM9 hG c0 c8 (xs (i + 1).toNatClampNeg)) hM9.1 (by omega) (by omega) (by omega) (Nat.le_of_ble_eq_true rfl) (fun r748 M9 h9 => ?_) (fun _ _ h9 => h9.elim)
    obtain ⟨b5, pa2, bf9, th9, h9, hF9⟩ := h9
    rcases h9 with ⟨hv2, -⟩ | ⟨-, rfl, pa2q, rfl, hC⟩
    · exact absurd hv2 hvd
    have hOA := LR1 hO8 ko hF9
    have hOD := LR1 hO9 ko2 hF9
    refine v_istore_7 dL_law_751 ?_
    refine v_aload_n dL_law_753 rfl rfl ?_
    refine k_L_189 dL_law_754 rfl (r_thrown htr hC) hC.1 (by omega) (by omega) (by omega) (Nat.le_of_ble_eq_true rfl) (fun r754 M9 h9 => ?_) (fun _ _ h9 => h9.elim)
    obtain ⟨rfl, e9⟩ := h9
    subst M9
    refine v_iload dL_law_757 rfl ?_
    refine v_icmp_eq (tgt := 764) dL_law_759 (by decide) (fun h759 => ?_) (fun h759 => ?_)
    · refine v_iload dL_law_764 rfl ?_
      refine v_if_ne (tgt := 781) dL_law_766 (by decide) (fun h766 => ?_) (fun h766 => ?_)
      · refine v_goto (tgt := 3320) dL_law_781 (by decide) ?_
        refine V.wid (k' := k0 + 8) (n' := n0 + 600) (by omega) (by omega) (kk _ _ _ _ ?_)
        exact ⟨kd, q, a, e8, v, sv, sa, ch, _, tx, tn, Ls, ea, fl, w, _, _, _, _, _, _, _, _, _, _, _, _, _, hP8.fs (Frm.fs (S := fun r => r = 30) hF9 rfl) (fun r h => by omega), hC, hS.up, ⟨⟨_, hOA⟩, ko⟩, ⟨_, hOD⟩, ko2⟩
      · exact absurd h766 fcI_nz
    · exact absurd rfl h759
theorem vx_setTemperature {n : Int32} (h : ¬ vdDeg n = 0) : (exV (vdDeg n) = "java/lang/IllegalArgumentException" ∧ fcI 8 (vdDeg n) = 1) := by
  have z : vdDeg n = 0 ∨ vdDeg n = 2 := by
    unfold vdDeg
    (repeat' split) <;> decide
  rcases z with z | z <;> rw [z] at h ⊢ <;> first | exact absurd rfl h | exact ⟨rfl, rfl⟩
theorem dL_law_852 : decode cL_law 852 = .ok (.aload_n 1, 1) := by decide +kernel
theorem dL_law_853 : decode cL_law 853 = .ok (.aload_n 0, 1) := by decide +kernel
theorem dL_law_854 : decode cL_law 854 = .ok (.iload 5, 2) := by decide +kernel
theorem dL_law_856 : decode cL_law 856 = .ok (.iconst 1, 1) := by decide +kernel
theorem dL_law_857 : decode cL_law 857 = .ok (.iadd, 1) := by decide +kernel
theorem dL_law_858 : decode cL_law 858 = .ok (.iaload, 1) := by decide +kernel
theorem dL_law_859 : decode cL_law 859 = .ok (.aload_n 3, 1) := by decide +kernel
theorem dL_law_860 : decode cL_law 860 = .ok (.invokestatic 217, 3) := by decide +kernel
theorem dL_law_863 : decode cL_law 863 = .ok (.istore 6, 2) := by decide +kernel
theorem dL_law_865 : decode cL_law 865 = .ok (.aload_n 2, 1) := by decide +kernel
theorem dL_law_866 : decode cL_law 866 = .ok (.aload_n 0, 1) := by decide +kernel
theorem dL_law_867 : decode cL_law 867 = .ok (.iload 5, 2) := by decide +kernel
theorem dL_law_869 : decode cL_law 869 = .ok (.iconst 1, 1) := by decide +kernel
theorem dL_law_870 : decode cL_law 870 = .ok (.iadd, 1) := by decide +kernel
theorem dL_law_871 : decode cL_law 871 = .ok (.iaload, 1) := by decide +kernel
theorem dL_law_872 : decode cL_law 872 = .ok (.invokevirtual 219, 3) := by decide +kernel
theorem dL_law_875 : decode cL_law 875 = .ok (.istore 7, 2) := by decide +kernel
theorem dL_law_877 : decode cL_law 877 = .ok (.aload_n 2, 1) := by decide +kernel
theorem dL_law_878 : decode cL_law 878 = .ok (.invokevirtual 189, 3) := by decide +kernel
theorem dL_law_881 : decode cL_law 881 = .ok (.iload 6, 2) := by decide +kernel
theorem dL_law_883 : decode cL_law 883 = .ok (.if_icmp .eq 5, 3) := by decide +kernel
theorem dL_law_886 : decode cL_law 886 = .ok (.iconst 0, 1) := by decide +kernel
theorem dL_law_887 : decode cL_law 887 = .ok (.ireturn, 1) := by decide +kernel
theorem dL_law_888 : decode cL_law 888 = .ok (.iload 6, 2) := by decide +kernel
theorem dL_law_890 : decode cL_law 890 = .ok (.ifCond .ne 15, 3) := by decide +kernel
theorem dL_law_893 : decode cL_law 893 = .ok (.aload_n 3, 1) := by decide +kernel
theorem dL_law_894 : decode cL_law 894 = .ok (.iconst 0, 1) := by decide +kernel
theorem dL_law_895 : decode cL_law 895 = .ok (.laload, 1) := by decide +kernel
theorem dL_law_896 : decode cL_law 896 = .ok (.iload 7, 2) := by decide +kernel
theorem dL_law_898 : decode cL_law 898 = .ok (.i2l, 1) := by decide +kernel
theorem dL_law_899 : decode cL_law 899 = .ok (.lcmp, 1) := by decide +kernel
theorem dL_law_900 : decode cL_law 900 = .ok (.ifCond .eq 5, 3) := by decide +kernel
theorem dL_law_903 : decode cL_law 903 = .ok (.iconst 0, 1) := by decide +kernel
theorem dL_law_904 : decode cL_law 904 = .ok (.ireturn, 1) := by decide +kernel
theorem dL_law_905 : decode cL_law 905 = .ok (.goto 2415, 3) := by decide +kernel
set_option maxRecDepth 100000 in
set_option maxHeartbeats 4000000 in
theorem law_8 {l : Launch} {g : Nat → Nat} {nm ds : String} {tb : List ExceptionTableEntry} {L mc ms : Nat} {Po : Res → LH → Prop} {X : CX} {M : LH} {k0 n0 : Nat} (htr : l.stackTraces = false) {b SN : Nat} {xs : Nat → Int32} (hX : Sc b SN xs X) {kd : Nat → Nat} {p : Nat} {q a : Nat → Nat} {e8 : Int32 → Nat} {v : Int32 → Int32} {sv : Int32} {sa : Int32 → Int32} {ch : Int32} {pa tx : Int32 → Int32} {tn : Int32} {Ls : List Int32} {ea fl : Int32} {m : Nat} {w : Nat → Nat} {t bf he en wr dg : Int32} {b4 fr th bs li lf to : Int32 → Int32} {out outD : Nat} {N : Nat} (hP : Pg kd M p q a e8 v sv sa ch pa tx tn Ls ea fl) (hM : Md kd 30 M m w t ch ea fl sv bf tn he en (nI Ls.length) wr dg v b4 sa pa fr th bs tx li lf to) (hS : Lw N v sv sa ch pa tn Ls ea fl li) (hN : N ≤ 512) {h0 : Nat → Int64} (hO : M out = some (la 1 h0)) (ko : kd out = 31) {h2 : Nat → UInt64} (hO2 : M outD = some (da 1 h2)) (ko2 : kd outD = 31) {i : Int32} (hi : ∀ j : Int32, 1 ≤ j → j ≤ 5 → 0 ≤ i + j ∧ (i + j).toNatClampNeg < SN) (hL : 30 ≤ L) (hk : k0 + 8 ≤ mc) (hn : n0 + 600 ≤ ms) {z6 z7 z8 : Option Value} (kk : ∀ (M' : LH) (z6 z7 z8 : Option Value), LI p m out outD (N + 1) M' → V l g ⟨"SledgePostLaw", nm, ds⟩ cL_law (some .boolean) tb L mc ms Po X M' (k0 + 8) (n0 + 600) 3320 [some (.ref b), some (.ref p), some (.ref m), some (.ref out), some (.ref outD), some (.int i), z6, z7, z8] []) : V l g ⟨"SledgePostLaw", nm, ds⟩ cL_law (some .boolean) tb L mc ms Po X M k0 n0 852 [some (.ref b), some (.ref p), some (.ref m), some (.ref out), some (.ref outD), some (.int i), z6, z7, z8] [] := by
  obtain ⟨hG, hSy, hv4⟩ := hS.1
  obtain ⟨-, -, -, -, ⟨tn0, tn60⟩, ⟨ea1, fl1⟩, ⟨hTl, hLs⟩, c0, c8⟩ := _root_.id hS
  obtain ⟨h461, h46⟩ := hS.1.r hN
  obtain ⟨hs0, old0, ⟨hpO, -⟩, -⟩ := _root_.id hP
  refine v_aload_n dL_law_852 rfl rfl ?_
  refine v_aload_n dL_law_853 rfl rfl ?_
  refine v_iload dL_law_854 rfl ?_
  refine v_iconst (v := 1) dL_law_856 (by decide) ?_
  refine v_iadd dL_law_857 ?_
  refine v_sld hX dL_law_858 (hi 1 (by decide) (by decide)).1 (hi 1 (by decide) (by decide)).2 ?_
  refine v_aload_n dL_law_859 rfl rfl ?_
  refine kl_217 dL_law_860 rfl (w_L_setTemperature htr (f_setTemperature htr hP (xs (i + 1).toNatClampNeg)) hpO (fun r M9 h9 => ⟨_, (h9.2.2.elim (fun _ z => z.2.2) out (by rw [ko]; decide)).trans hO⟩) (fun E M9 h9 => by obtain ⟨e1, rfl, -, -⟩ := h9; exact (vx_setTemperature e1).1)) (by omega) (by omega) (by omega) (Nat.le_of_ble_eq_true rfl) (fun r9 M9 h9 => ?_) (fun _ _ h9 => h9.elim)
  rcases h9 with ⟨rfl, r, M8, h8, ⟨hvd, rfl, pa1, hPa, hP8, hF8⟩, hh, rfl⟩ | ⟨E, ⟨hvd, hE0, hP8, hF8⟩, hE⟩
  · skip
    have f31 : Fs kd (fun r => r = 31) M8 (hup M8 out (la 1 h8)) := fun x hx => hup_n (fun z => hx (by rw [z]; exact ko))
    have hP9 := hP8.fs f31 (fun r h => by omega)
    have hM9 := (hM.tp (hF8.t 30 (Nat.le_refl _))).tp (f31.tp (by decide))
    have hO9 := up_k (e' := la 1 h8) ((hF8 outD (by rw [ko2]; decide)).trans hO2) ((hF8 out (by rw [ko]; decide)).trans hO) da_la
    refine v_istore_6 dL_law_863 ?_
    refine v_aload_n dL_law_865 rfl rfl ?_
    refine v_aload_n dL_law_866 rfl rfl ?_
    refine v_iload dL_law_867 rfl ?_
    refine v_iconst (v := 1) dL_law_869 (by decide) ?_
    refine v_iadd dL_law_870 ?_
    refine v_sld hX dL_law_871 (hi 1 (by decide) (by decide)).1 (hi 1 (by decide) (by decide)).2 ?_
    refine k_L_219 dL_law_872 rfl (r_setTemperature htr hM9 hG c0 c8 (xs (i + 1).toNatClampNeg)) hM9.1 (by omega) (by omega) (by omega) (Nat.le_of_ble_eq_true rfl) (fun r872 M9 h9 => ?_) (fun _ _ h9 => h9.elim)
    obtain ⟨b5, pa2, h9, hF9⟩ := h9
    rcases h9 with ⟨-, rfl, hPa2, hC⟩ | ⟨hv2, -⟩
    rotate_left
    · exact absurd hvd hv2
    have hOA := LR1 (kd := kd) hup_s ko hF9
    have hOD := LR1 hO9 ko2 hF9
    refine v_istore_7 dL_law_875 ?_
    refine v_aload_n dL_law_877 rfl rfl ?_
    refine k_L_189 dL_law_878 rfl (r_thrown htr hC) hC.1 (by omega) (by omega) (by omega) (Nat.le_of_ble_eq_true rfl) (fun r878 M9 h9 => ?_) (fun _ _ h9 => h9.elim)
    obtain ⟨rfl, e9⟩ := h9
    subst M9
    refine v_iload dL_law_881 rfl ?_
    refine v_icmp_eq (tgt := 888) dL_law_883 (by decide) (fun h883 => ?_) (fun h883 => ?_)
    · refine v_iload dL_law_888 rfl ?_
      refine v_if_ne (tgt := 905) dL_law_890 (by decide) (fun h890 => ?_) (fun h890 => ?_)
      · exact absurd rfl h890
      · refine v_aload_n dL_law_893 rfl rfl ?_
        refine v_iconst (v := 0) dL_law_894 (by decide) ?_
        refine v_lald dL_law_895 hOA ?_
        refine v_iload dL_law_896 rfl ?_
        refine v_i2l dL_law_898 ?_
        refine v_lcmp dL_law_899 ?_
        rw [hh, lg_self]
        refine v_if_eq (tgt := 905) dL_law_900 (by decide) (fun h900 => ?_) (fun h900 => ?_)
        · refine v_goto (tgt := 3320) dL_law_905 (by decide) ?_
          refine V.wid (k' := k0 + 8) (n' := n0 + 600) (by omega) (by omega) (kk _ _ _ _ ?_)
          exact ⟨kd, q, a, e8, _, sv, sa, _, pa2, tx, tn, Ls, ea, fl, w, _, _, _, _, _, _, _, _, _, _, _, _, _, (hP9.fs (Frm.fs (S := fun r => r = 30) hF9 rfl) (fun r h => by omega)).pa (PaS.un c0 c8 hPa hPa2), hC, hS.ch (hS.1.go hN (S := (fun j : Int32 => ([(xs (i + 1).toNatClampNeg)] : List Int32).getD j.toNatClampNeg 0)) (i := 8) (by decide) hvd ⟨rfl, rfl⟩) hPa2, ⟨⟨_, hOA⟩, ko⟩, ⟨_, hOD⟩, ko2⟩
        · exact absurd rfl h900
    · exact absurd rfl h883
  · skip
    have hM9 := hM.tp (hF8.t 30 (Nat.le_refl _))
    have hO8 := (hF8 out (by rw [ko]; decide)).trans hO
    have hO9 := (hF8 outD (by rw [ko2]; decide)).trans hO2
    have hr : r9 = fcI 8 (vdDeg (xs (i + 1).toNatClampNeg)) := by
      obtain ⟨x1, x2⟩ := vx_setTemperature hvd
      exact hE.2.trans x2.symm
    subst hr
    refine v_istore_6 dL_law_863 ?_
    refine v_aload_n dL_law_865 rfl rfl ?_
    refine v_aload_n dL_law_866 rfl rfl ?_
    refine v_iload dL_law_867 rfl ?_
    refine v_iconst (v := 1) dL_law_869 (by decide) ?_
    refine v_iadd dL_law_870 ?_
    refine v_sld hX dL_law_871 (hi 1 (by decide) (by decide)).1 (hi 1 (by decide) (by decide)).2 ?_
    refine k_L_219 dL_law_872 rfl (r_setTemperature htr hM9 hG c0 c8 (xs (i + 1).toNatClampNeg)) hM9.1 (by omega) (by omega) (by omega) (Nat.le_of_ble_eq_true rfl) (fun r872 M9 h9 => ?_) (fun _ _ h9 => h9.elim)
    obtain ⟨b5, pa2, h9, hF9⟩ := h9
    rcases h9 with ⟨hv2, -⟩ | ⟨-, rfl, pa2q, rfl, hC⟩
    · exact absurd hv2 hvd
    have hOA := LR1 hO8 ko hF9
    have hOD := LR1 hO9 ko2 hF9
    refine v_istore_7 dL_law_875 ?_
    refine v_aload_n dL_law_877 rfl rfl ?_
    refine k_L_189 dL_law_878 rfl (r_thrown htr hC) hC.1 (by omega) (by omega) (by omega) (Nat.le_of_ble_eq_true rfl) (fun r878 M9 h9 => ?_) (fun _ _ h9 => h9.elim)
    obtain ⟨rfl, e9⟩ := h9
    subst M9
    refine v_iload dL_law_881 rfl ?_
    refine v_icmp_eq (tgt := 888) dL_law_883 (by decide) (fun h883 => ?_) (fun h883 => ?_)
    · refine v_iload dL_law_888 rfl ?_
      refine v_if_ne (tgt := 905) dL_law_890 (by decide) (fun h890 => ?_) (fun h890 => ?_)
      · refine v_goto (tgt := 3320) dL_law_905 (by decide) ?_
        refine V.wid (k' := k0 + 8) (n' := n0 + 600) (by omega) (by omega) (kk _ _ _ _ ?_)
        exact ⟨kd, q, a, e8, v, sv, sa, ch, _, tx, tn, Ls, ea, fl, w, _, _, _, _, _, _, _, _, _, _, _, _, _, hP8.fs (Frm.fs (S := fun r => r = 30) hF9 rfl) (fun r h => by omega), hC, hS.up, ⟨⟨_, hOA⟩, ko⟩, ⟨_, hOD⟩, ko2⟩
      · exact absurd h890 fcI_nz
    · exact absurd rfl h883
theorem vx_advance {n : Int32} (h : ¬ vdHrs n = 0) : (exV (vdHrs n) = "java/lang/IllegalArgumentException" ∧ fcI 9 (vdHrs n) = 1) := by
  have z : vdHrs n = 0 ∨ vdHrs n = 2 := by
    unfold vdHrs
    (repeat' split) <;> decide
  rcases z with z | z <;> rw [z] at h ⊢ <;> first | exact absurd rfl h | exact ⟨rfl, rfl⟩
theorem dL_law_908 : decode cL_law 908 = .ok (.aload_n 1, 1) := by decide +kernel
theorem dL_law_909 : decode cL_law 909 = .ok (.aload_n 0, 1) := by decide +kernel
theorem dL_law_910 : decode cL_law 910 = .ok (.iload 5, 2) := by decide +kernel
theorem dL_law_912 : decode cL_law 912 = .ok (.iconst 1, 1) := by decide +kernel
theorem dL_law_913 : decode cL_law 913 = .ok (.iadd, 1) := by decide +kernel
theorem dL_law_914 : decode cL_law 914 = .ok (.iaload, 1) := by decide +kernel
theorem dL_law_915 : decode cL_law 915 = .ok (.aload_n 3, 1) := by decide +kernel
theorem dL_law_916 : decode cL_law 916 = .ok (.invokestatic 220, 3) := by decide +kernel
theorem dL_law_919 : decode cL_law 919 = .ok (.istore 6, 2) := by decide +kernel
theorem dL_law_921 : decode cL_law 921 = .ok (.aload_n 2, 1) := by decide +kernel
theorem dL_law_922 : decode cL_law 922 = .ok (.aload_n 0, 1) := by decide +kernel
theorem dL_law_923 : decode cL_law 923 = .ok (.iload 5, 2) := by decide +kernel
theorem dL_law_925 : decode cL_law 925 = .ok (.iconst 1, 1) := by decide +kernel
theorem dL_law_926 : decode cL_law 926 = .ok (.iadd, 1) := by decide +kernel
theorem dL_law_927 : decode cL_law 927 = .ok (.iaload, 1) := by decide +kernel
theorem dL_law_928 : decode cL_law 928 = .ok (.invokevirtual 222, 3) := by decide +kernel
theorem dL_law_931 : decode cL_law 931 = .ok (.istore 7, 2) := by decide +kernel
theorem dL_law_933 : decode cL_law 933 = .ok (.aload_n 2, 1) := by decide +kernel
theorem dL_law_934 : decode cL_law 934 = .ok (.invokevirtual 189, 3) := by decide +kernel
theorem dL_law_937 : decode cL_law 937 = .ok (.iload 6, 2) := by decide +kernel
theorem dL_law_939 : decode cL_law 939 = .ok (.if_icmp .eq 5, 3) := by decide +kernel
theorem dL_law_942 : decode cL_law 942 = .ok (.iconst 0, 1) := by decide +kernel
theorem dL_law_943 : decode cL_law 943 = .ok (.ireturn, 1) := by decide +kernel
theorem dL_law_944 : decode cL_law 944 = .ok (.iload 6, 2) := by decide +kernel
theorem dL_law_946 : decode cL_law 946 = .ok (.ifCond .ne 15, 3) := by decide +kernel
theorem dL_law_949 : decode cL_law 949 = .ok (.aload_n 3, 1) := by decide +kernel
theorem dL_law_950 : decode cL_law 950 = .ok (.iconst 0, 1) := by decide +kernel
theorem dL_law_951 : decode cL_law 951 = .ok (.laload, 1) := by decide +kernel
theorem dL_law_952 : decode cL_law 952 = .ok (.iload 7, 2) := by decide +kernel
theorem dL_law_954 : decode cL_law 954 = .ok (.i2l, 1) := by decide +kernel
theorem dL_law_955 : decode cL_law 955 = .ok (.lcmp, 1) := by decide +kernel
theorem dL_law_956 : decode cL_law 956 = .ok (.ifCond .eq 5, 3) := by decide +kernel
theorem dL_law_959 : decode cL_law 959 = .ok (.iconst 0, 1) := by decide +kernel
theorem dL_law_960 : decode cL_law 960 = .ok (.ireturn, 1) := by decide +kernel
theorem dL_law_961 : decode cL_law 961 = .ok (.goto 2359, 3) := by decide +kernel
set_option maxRecDepth 100000 in
set_option maxHeartbeats 4000000 in
theorem law_9 {l : Launch} {g : Nat → Nat} {nm ds : String} {tb : List ExceptionTableEntry} {L mc ms : Nat} {Po : Res → LH → Prop} {X : CX} {M : LH} {k0 n0 : Nat} (htr : l.stackTraces = false) {b SN : Nat} {xs : Nat → Int32} (hX : Sc b SN xs X) {kd : Nat → Nat} {p : Nat} {q a : Nat → Nat} {e8 : Int32 → Nat} {v : Int32 → Int32} {sv : Int32} {sa : Int32 → Int32} {ch : Int32} {pa tx : Int32 → Int32} {tn : Int32} {Ls : List Int32} {ea fl : Int32} {m : Nat} {w : Nat → Nat} {t bf he en wr dg : Int32} {b4 fr th bs li lf to : Int32 → Int32} {out outD : Nat} {N : Nat} (hP : Pg kd M p q a e8 v sv sa ch pa tx tn Ls ea fl) (hM : Md kd 30 M m w t ch ea fl sv bf tn he en (nI Ls.length) wr dg v b4 sa pa fr th bs tx li lf to) (hS : Lw N v sv sa ch pa tn Ls ea fl li) (hN : N ≤ 512) {h0 : Nat → Int64} (hO : M out = some (la 1 h0)) (ko : kd out = 31) {h2 : Nat → UInt64} (hO2 : M outD = some (da 1 h2)) (ko2 : kd outD = 31) {i : Int32} (hi : ∀ j : Int32, 1 ≤ j → j ≤ 5 → 0 ≤ i + j ∧ (i + j).toNatClampNeg < SN) (hL : 30 ≤ L) (hk : k0 + 8 ≤ mc) (hn : n0 + 600 ≤ ms) {z6 z7 z8 : Option Value} (kk : ∀ (M' : LH) (z6 z7 z8 : Option Value), LI p m out outD (N + 1) M' → V l g ⟨"SledgePostLaw", nm, ds⟩ cL_law (some .boolean) tb L mc ms Po X M' (k0 + 8) (n0 + 600) 3320 [some (.ref b), some (.ref p), some (.ref m), some (.ref out), some (.ref outD), some (.int i), z6, z7, z8] []) : V l g ⟨"SledgePostLaw", nm, ds⟩ cL_law (some .boolean) tb L mc ms Po X M k0 n0 908 [some (.ref b), some (.ref p), some (.ref m), some (.ref out), some (.ref outD), some (.int i), z6, z7, z8] [] := by
  obtain ⟨hG, hSy, hv4⟩ := hS.1
  obtain ⟨-, -, -, -, ⟨tn0, tn60⟩, ⟨ea1, fl1⟩, ⟨hTl, hLs⟩, c0, c8⟩ := _root_.id hS
  obtain ⟨h461, h46⟩ := hS.1.r hN
  obtain ⟨hs0, old0, ⟨hpO, -⟩, -⟩ := _root_.id hP
  refine v_aload_n dL_law_908 rfl rfl ?_
  refine v_aload_n dL_law_909 rfl rfl ?_
  refine v_iload dL_law_910 rfl ?_
  refine v_iconst (v := 1) dL_law_912 (by decide) ?_
  refine v_iadd dL_law_913 ?_
  refine v_sld hX dL_law_914 (hi 1 (by decide) (by decide)).1 (hi 1 (by decide) (by decide)).2 ?_
  refine v_aload_n dL_law_915 rfl rfl ?_
  refine kl_220 dL_law_916 rfl (w_L_advance htr (f_advance htr hP (xs (i + 1).toNatClampNeg)) hpO (fun r M9 h9 => ⟨_, (h9.2.2.elim (fun _ z => z.2.2) out (by rw [ko]; decide)).trans hO⟩) (fun E M9 h9 => by obtain ⟨e1, rfl, -, -⟩ := h9; exact (vx_advance e1).1)) (by omega) (by omega) (by omega) (Nat.le_of_ble_eq_true rfl) (fun r9 M9 h9 => ?_) (fun _ _ h9 => h9.elim)
  rcases h9 with ⟨rfl, r, M8, h8, ⟨hvd, rfl, pa1, hPa, hP8, hF8⟩, hh, rfl⟩ | ⟨E, ⟨hvd, hE0, hP8, hF8⟩, hE⟩
  · skip
    have f31 : Fs kd (fun r => r = 31) M8 (hup M8 out (la 1 h8)) := fun x hx => hup_n (fun z => hx (by rw [z]; exact ko))
    have hP9 := hP8.fs f31 (fun r h => by omega)
    have hM9 := (hM.tp (hF8.t 30 (Nat.le_refl _))).tp (f31.tp (by decide))
    have hO9 := up_k (e' := la 1 h8) ((hF8 outD (by rw [ko2]; decide)).trans hO2) ((hF8 out (by rw [ko]; decide)).trans hO) da_la
    refine v_istore_6 dL_law_919 ?_
    refine v_aload_n dL_law_921 rfl rfl ?_
    refine v_aload_n dL_law_922 rfl rfl ?_
    refine v_iload dL_law_923 rfl ?_
    refine v_iconst (v := 1) dL_law_925 (by decide) ?_
    refine v_iadd dL_law_926 ?_
    refine v_sld hX dL_law_927 (hi 1 (by decide) (by decide)).1 (hi 1 (by decide) (by decide)).2 ?_
    refine k_L_222 dL_law_928 rfl (r_advance htr hM9 hG c0 c8 (xs (i + 1).toNatClampNeg)) hM9.1 (by omega) (by omega) (by omega) (Nat.le_of_ble_eq_true rfl) (fun r928 M9 h9 => ?_) (fun _ _ h9 => h9.elim)
    obtain ⟨b5, pa2, h9, hF9⟩ := h9
    rcases h9 with ⟨-, rfl, hPa2, hC⟩ | ⟨hv2, -⟩
    rotate_left
    · exact absurd hvd hv2
    have hOA := LR1 (kd := kd) hup_s ko hF9
    have hOD := LR1 hO9 ko2 hF9
    refine v_istore_7 dL_law_931 ?_
    refine v_aload_n dL_law_933 rfl rfl ?_
    refine k_L_189 dL_law_934 rfl (r_thrown htr hC) hC.1 (by omega) (by omega) (by omega) (Nat.le_of_ble_eq_true rfl) (fun r934 M9 h9 => ?_) (fun _ _ h9 => h9.elim)
    obtain ⟨rfl, e9⟩ := h9
    subst M9
    refine v_iload dL_law_937 rfl ?_
    refine v_icmp_eq (tgt := 944) dL_law_939 (by decide) (fun h939 => ?_) (fun h939 => ?_)
    · refine v_iload dL_law_944 rfl ?_
      refine v_if_ne (tgt := 961) dL_law_946 (by decide) (fun h946 => ?_) (fun h946 => ?_)
      · exact absurd rfl h946
      · refine v_aload_n dL_law_949 rfl rfl ?_
        refine v_iconst (v := 0) dL_law_950 (by decide) ?_
        refine v_lald dL_law_951 hOA ?_
        refine v_iload dL_law_952 rfl ?_
        refine v_i2l dL_law_954 ?_
        refine v_lcmp dL_law_955 ?_
        rw [hh, lg_self]
        refine v_if_eq (tgt := 961) dL_law_956 (by decide) (fun h956 => ?_) (fun h956 => ?_)
        · refine v_goto (tgt := 3320) dL_law_961 (by decide) ?_
          refine V.wid (k' := k0 + 8) (n' := n0 + 600) (by omega) (by omega) (kk _ _ _ _ ?_)
          exact ⟨kd, q, a, e8, _, sv, sa, _, pa2, tx, tn, Ls, ea, fl, w, _, _, _, _, _, _, _, _, _, _, _, _, _, (hP9.fs (Frm.fs (S := fun r => r = 30) hF9 rfl) (fun r h => by omega)).pa (PaS.un c0 c8 hPa hPa2), hC, hS.ch (hS.1.go hN (S := (fun j : Int32 => ([(xs (i + 1).toNatClampNeg)] : List Int32).getD j.toNatClampNeg 0)) (i := 9) (by decide) hvd ⟨rfl, rfl⟩) hPa2, ⟨⟨_, hOA⟩, ko⟩, ⟨_, hOD⟩, ko2⟩
        · exact absurd rfl h956
    · exact absurd rfl h939
  · skip
    have hM9 := hM.tp (hF8.t 30 (Nat.le_refl _))
    have hO8 := (hF8 out (by rw [ko]; decide)).trans hO
    have hO9 := (hF8 outD (by rw [ko2]; decide)).trans hO2
    have hr : r9 = fcI 9 (vdHrs (xs (i + 1).toNatClampNeg)) := by
      obtain ⟨x1, x2⟩ := vx_advance hvd
      exact hE.2.trans x2.symm
    subst hr
    refine v_istore_6 dL_law_919 ?_
    refine v_aload_n dL_law_921 rfl rfl ?_
    refine v_aload_n dL_law_922 rfl rfl ?_
    refine v_iload dL_law_923 rfl ?_
    refine v_iconst (v := 1) dL_law_925 (by decide) ?_
    refine v_iadd dL_law_926 ?_
    refine v_sld hX dL_law_927 (hi 1 (by decide) (by decide)).1 (hi 1 (by decide) (by decide)).2 ?_
    refine k_L_222 dL_law_928 rfl (r_advance htr hM9 hG c0 c8 (xs (i + 1).toNatClampNeg)) hM9.1 (by omega) (by omega) (by omega) (Nat.le_of_ble_eq_true rfl) (fun r928 M9 h9 => ?_) (fun _ _ h9 => h9.elim)
    obtain ⟨b5, pa2, h9, hF9⟩ := h9
    rcases h9 with ⟨hv2, -⟩ | ⟨-, rfl, pa2q, rfl, hC⟩
    · exact absurd hv2 hvd
    have hOA := LR1 hO8 ko hF9
    have hOD := LR1 hO9 ko2 hF9
    refine v_istore_7 dL_law_931 ?_
    refine v_aload_n dL_law_933 rfl rfl ?_
    refine k_L_189 dL_law_934 rfl (r_thrown htr hC) hC.1 (by omega) (by omega) (by omega) (Nat.le_of_ble_eq_true rfl) (fun r934 M9 h9 => ?_) (fun _ _ h9 => h9.elim)
    obtain ⟨rfl, e9⟩ := h9
    subst M9
    refine v_iload dL_law_937 rfl ?_
    refine v_icmp_eq (tgt := 944) dL_law_939 (by decide) (fun h939 => ?_) (fun h939 => ?_)
    · refine v_iload dL_law_944 rfl ?_
      refine v_if_ne (tgt := 961) dL_law_946 (by decide) (fun h946 => ?_) (fun h946 => ?_)
      · refine v_goto (tgt := 3320) dL_law_961 (by decide) ?_
        refine V.wid (k' := k0 + 8) (n' := n0 + 600) (by omega) (by omega) (kk _ _ _ _ ?_)
        exact ⟨kd, q, a, e8, v, sv, sa, ch, _, tx, tn, Ls, ea, fl, w, _, _, _, _, _, _, _, _, _, _, _, _, _, hP8.fs (Frm.fs (S := fun r => r = 30) hF9 rfl) (fun r h => by omega), hC, hS.up, ⟨⟨_, hOA⟩, ko⟩, ⟨_, hOD⟩, ko2⟩
      · exact absurd h946 fcI_nz
    · exact absurd rfl h939
