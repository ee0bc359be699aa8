/-! ===== the law: undo, restore, the script's marks ===== -/
theorem Pg.vx {kd : Nat → Nat} {p : Nat} {q a : Nat → Nat} {e8 : Int32 → Nat} {v : Int32 → Int32} {sv : Int32} {sa : Int32 → Int32} {ch : Int32} {pa tx : Int32 → Int32} {tn : Int32} {Ls : List Int32} {ea fl : Int32} {M : LH} {v2 : Int32 → Int32} (h : Pg kd M p q a e8 v sv sa ch pa tx tn Ls ea fl) (e : Ag v v2) : Pg kd M p q a e8 v2 sv sa ch pa tx tn Ls ea fl := by
  obtain ⟨h1, o1, ⟨b1, b2, b3, b4, b5, b6⟩, r⟩ := h
  exact ⟨h1, o1, ⟨b1, b2, b3, b4, b5.ext e, b6⟩, r⟩
theorem m1_no {x : Int32} (h : -1 ≤ x) (h1 : ¬ x = -1) : 0 ≤ x := by lia
theorem m1_y {x : Int32} (h : 0 ≤ x) (e : x = -1) : False := by
  rw [e] at h
  exact absurd h (by decide)
theorem Lw.un {v : Int32 → Int32} {sv : Int32} {sa : Int32 → Int32} {ch : Int32} {pa : Int32 → Int32} {tn : Int32} {Ls : List Int32} {ea fl : Int32} {li : Int32 → Int32} {N : Nat} (h : Lw N v sv sa ch pa tn Ls ea fl li) (c1 : ¬ ch = 0) : Lw (N + 1) (cpF (fun j => pa ((ch - 1) * 150 + j)) v) sv sa (ch - 1) pa tn Ls ea fl li := by
  obtain ⟨s1, s2, s3, s4, s5, s6, s7, s8, s9⟩ := h.up
  have k1 : 0 ≤ ch - 1 := by clear s1 s2 s3 s7; lia
  have k2 : ch - 1 < ch := by clear s1 s2 s3 s7; lia
  exact ⟨(s3 (ch - 1) k1 k2).ag ag_cpF, s2, fun k a b => s3 k a (Int32.lt_trans b k2), s4, s5, s6, s7, k1, Int32.le_trans (Int32.le_of_lt k2) s9⟩
theorem Lw.re {v : Int32 → Int32} {sv : Int32} {sa : Int32 → Int32} {ch : Int32} {pa : Int32 → Int32} {tn : Int32} {Ls : List Int32} {ea fl : Int32} {li : Int32 → Int32} {N : Nat} (h : Lw N v sv sa ch pa tn Ls ea fl li) (c1 : ¬ sv = 0) : Lw (N + 1) (cpF sa v) sv sa 0 pa tn Ls ea fl li := by
  obtain ⟨s1, s2, s3, s4, s5, s6, s7, s8, s9⟩ := h.up
  exact ⟨(s2 c1).ag ag_cpF, s2, fun k a b => absurd b (Int32.not_lt.mpr a), s4, s5, s6, s7, by decide, by decide⟩
theorem dL_law_3219 : decode cL_law 3219 = .ok (.aload_n 1, 1) := by decide +kernel
theorem dL_law_3220 : decode cL_law 3220 = .ok (.aload_n 3, 1) := by decide +kernel
theorem dL_law_3221 : decode cL_law 3221 = .ok (.invokestatic 373, 3) := by decide +kernel
theorem dL_law_3224 : decode cL_law 3224 = .ok (.istore 6, 2) := by decide +kernel
theorem dL_law_3226 : decode cL_law 3226 = .ok (.aload_n 2, 1) := by decide +kernel
theorem dL_law_3227 : decode cL_law 3227 = .ok (.invokevirtual 375, 3) := by decide +kernel
theorem dL_law_3230 : decode cL_law 3230 = .ok (.istore 7, 2) := by decide +kernel
theorem dL_law_3232 : decode cL_law 3232 = .ok (.aload_n 2, 1) := by decide +kernel
theorem dL_law_3233 : decode cL_law 3233 = .ok (.invokevirtual 189, 3) := by decide +kernel
theorem dL_law_3236 : decode cL_law 3236 = .ok (.iload 6, 2) := by decide +kernel
theorem dL_law_3238 : decode cL_law 3238 = .ok (.if_icmp .eq 5, 3) := by decide +kernel
theorem dL_law_3241 : decode cL_law 3241 = .ok (.iconst 0, 1) := by decide +kernel
theorem dL_law_3242 : decode cL_law 3242 = .ok (.ireturn, 1) := by decide +kernel
theorem dL_law_3243 : decode cL_law 3243 = .ok (.iload 6, 2) := by decide +kernel
theorem dL_law_3245 : decode cL_law 3245 = .ok (.ifCond .ne 15, 3) := by decide +kernel
theorem dL_law_3248 : decode cL_law 3248 = .ok (.aload_n 3, 1) := by decide +kernel
theorem dL_law_3249 : decode cL_law 3249 = .ok (.iconst 0, 1) := by decide +kernel
theorem dL_law_3250 : decode cL_law 3250 = .ok (.laload, 1) := by decide +kernel
theorem dL_law_3251 : decode cL_law 3251 = .ok (.iload 7, 2) := by decide +kernel
theorem dL_law_3253 : decode cL_law 3253 = .ok (.i2l, 1) := by decide +kernel
theorem dL_law_3254 : decode cL_law 3254 = .ok (.lcmp, 1) := by decide +kernel
theorem dL_law_3255 : decode cL_law 3255 = .ok (.ifCond .eq 5, 3) := by decide +kernel
theorem dL_law_3258 : decode cL_law 3258 = .ok (.iconst 0, 1) := by decide +kernel
theorem dL_law_3259 : decode cL_law 3259 = .ok (.ireturn, 1) := by decide +kernel
theorem dL_law_3260 : decode cL_law 3260 = .ok (.goto 60, 3) := by decide +kernel
set_option maxRecDepth 100000 in
set_option maxHeartbeats 4000000 in
theorem law_56 {l : Launch} {g : Nat → Nat} {nm ds : String} {tb : List ExceptionTableEntry} {L mc ms : Nat} {Po : Res → LH → Prop} {X : CX} {M : LH} {k0 n0 : Nat} (htr : l.stackTraces = false) {b SN : Nat} {xs : Nat → Int32} (hX : Sc b SN xs X) {kd : Nat → Nat} {p : Nat} {q a : Nat → Nat} {e8 : Int32 → Nat} {v : Int32 → Int32} {sv : Int32} {sa : Int32 → Int32} {ch : Int32} {pa tx : Int32 → Int32} {tn : Int32} {Ls : List Int32} {ea fl : Int32} {m : Nat} {w : Nat → Nat} {t bf he en wr dg : Int32} {b4 fr th bs li lf to : Int32 → Int32} {out outD : Nat} {N : Nat} (hP : Pg kd M p q a e8 v sv sa ch pa tx tn Ls ea fl) (hM : Md kd 30 M m w t ch ea fl sv bf tn he en (nI Ls.length) wr dg v b4 sa pa fr th bs tx li lf to) (hS : Lw N v sv sa ch pa tn Ls ea fl li) (hN : N ≤ 512) {h0 : Nat → Int64} (hO : M out = some (la 1 h0)) (ko : kd out = 31) {h2 : Nat → UInt64} (hO2 : M outD = some (da 1 h2)) (ko2 : kd outD = 31) {i : Int32} (hi : ∀ j : Int32, 1 ≤ j → j ≤ 5 → 0 ≤ i + j ∧ (i + j).toNatClampNeg < SN) (hL : 30 ≤ L) (hk : k0 + 8 ≤ mc) (hn : n0 + 600 ≤ ms) {z6 z7 z8 : Option Value} (kk : ∀ (M' : LH) (z6 z7 z8 : Option Value), LI p m out outD (N + 1) M' → V l g ⟨"SledgePostLaw", nm, ds⟩ cL_law (some .boolean) tb L mc ms Po X M' (k0 + 8) (n0 + 600) 3320 [some (.ref b), some (.ref p), some (.ref m), some (.ref out), some (.ref outD), some (.int i), z6, z7, z8] []) : V l g ⟨"SledgePostLaw", nm, ds⟩ cL_law (some .boolean) tb L mc ms Po X M k0 n0 3219 [some (.ref b), some (.ref p), some (.ref m), some (.ref out), some (.ref outD), some (.int i), z6, z7, z8] [] := by
  obtain ⟨hG, hSy, hv4⟩ := hS.1
  obtain ⟨-, -, -, -, ⟨tn0, tn60⟩, ⟨ea1, fl1⟩, ⟨hTl, hLs⟩, c0, c8⟩ := _root_.id hS
  obtain ⟨h461, h46⟩ := hS.1.r hN
  obtain ⟨hs0, old0, ⟨hpO, -⟩, -⟩ := _root_.id hP
  refine v_aload_n dL_law_3219 rfl rfl ?_
  refine v_aload_n dL_law_3220 rfl rfl ?_
  refine kl_373 dL_law_3221 rfl (w_L_undo htr (f_undo htr hP ) hpO (fun r M9 h9 => ⟨_, (h9.2.2.2 out (by rw [ko]; decide)).trans hO⟩) (fun E M9 h9 => h9.2.1)) (by omega) (by omega) (by omega) (Nat.le_of_ble_eq_true rfl) (fun r9 M9 h9 => ?_) (fun _ _ h9 => h9.elim)
  rcases h9 with ⟨rfl, r, M8, h8, ⟨hc, rfl, hP8, hF8⟩, hh, rfl⟩ | ⟨E, ⟨hc, hE0, hP8, hF8⟩, hE⟩
  · skip
    have f31 : Fs kd (fun r => r = 31) M8 (hup M8 out (la 1 h8)) := fun x hx => hup_n (fun z => hx (by rw [z]; exact ko))
    have hP9 := hP8.fs f31 (fun r h => by omega)
    have hM9 := (hM.tp (hF8.t 30 (Nat.le_refl _))).tp (f31.tp (by decide))
    have hO9 := up_k (e' := la 1 h8) ((hF8 outD (by rw [ko2]; decide)).trans hO2) ((hF8 out (by rw [ko]; decide)).trans hO) da_la
    refine v_istore_6 dL_law_3224 ?_
    refine v_aload_n dL_law_3226 rfl rfl ?_
    refine k_L_375 dL_law_3227 rfl (r_undo htr hM9 c0 c8) hM9.1 (by omega) (by omega) (by omega) (Nat.le_of_ble_eq_true rfl) (fun r3227 M9 h9 => ?_) (fun _ _ h9 => h9.elim)
    obtain ⟨h9, hF9⟩ := h9
    rcases h9 with ⟨-, rfl, hC⟩ | ⟨hn, -⟩
    rotate_left
    · exact absurd hn hc
    have hOA := LR1 (kd := kd) hup_s ko hF9
    have hOD := LR1 hO9 ko2 hF9
    refine v_istore_7 dL_law_3230 ?_
    refine v_aload_n dL_law_3232 rfl rfl ?_
    refine k_L_189 dL_law_3233 rfl (r_thrown htr hC) hC.1 (by omega) (by omega) (by omega) (Nat.le_of_ble_eq_true rfl) (fun r3233 M9 h9 => ?_) (fun _ _ h9 => h9.elim)
    obtain ⟨rfl, e9⟩ := h9
    subst M9
    refine v_iload dL_law_3236 rfl ?_
    refine v_icmp_eq (tgt := 3243) dL_law_3238 (by decide) (fun h3238 => ?_) (fun h3238 => ?_)
    · refine v_iload dL_law_3243 rfl ?_
      refine v_if_ne (tgt := 3260) dL_law_3245 (by decide) (fun h3245 => ?_) (fun h3245 => ?_)
      · exact absurd rfl h3245
      · refine v_aload_n dL_law_3248 rfl rfl ?_
        refine v_iconst (v := 0) dL_law_3249 (by decide) ?_
        refine v_lald dL_law_3250 hOA ?_
        refine v_iload dL_law_3251 rfl ?_
        refine v_i2l dL_law_3253 ?_
        refine v_lcmp dL_law_3254 ?_
        rw [hh, lg_self]
        refine v_if_eq (tgt := 3260) dL_law_3255 (by decide) (fun h3255 => ?_) (fun h3255 => ?_)
        · refine v_goto (tgt := 3320) dL_law_3260 (by decide) ?_
          refine V.wid (k' := k0 + 8) (n' := n0 + 600) (by omega) (by omega) (kk _ _ _ _ ?_)
          exact ⟨kd, q, a, e8, _, sv, sa, _, pa, tx, tn, Ls, ea, fl, w, _, _, _, _, _, _, _, _, _, _, _, _, _, ((hP9.fs (Frm.fs (S := fun r => r = 30) hF9 rfl) (fun r h => by omega))).vx ag_cpF, hC, hS.un hc, ⟨⟨_, hOA⟩, ko⟩, ⟨_, hOD⟩, ko2⟩
        · exact absurd rfl h3255
    · exact absurd rfl h3238
  · skip
    have hM9 := hM.tp (hF8.t 30 (Nat.le_refl _))
    have hO8 := (hF8 out (by rw [ko]; decide)).trans hO
    have hO9 := (hF8 outD (by rw [ko2]; decide)).trans hO2
    obtain ⟨-, rfl⟩ := hE
    refine v_istore_6 dL_law_3224 ?_
    refine v_aload_n dL_law_3226 rfl rfl ?_
    refine k_L_375 dL_law_3227 rfl (r_undo htr hM9 c0 c8) hM9.1 (by omega) (by omega) (by omega) (Nat.le_of_ble_eq_true rfl) (fun r3227 M9 h9 => ?_) (fun _ _ h9 => h9.elim)
    obtain ⟨h9, hF9⟩ := h9
    rcases h9 with ⟨hn, -⟩ | ⟨-, rfl, hC⟩
    · exact absurd hc hn
    have hOA := LR1 hO8 ko hF9
    have hOD := LR1 hO9 ko2 hF9
    refine v_istore_7 dL_law_3230 ?_
    refine v_aload_n dL_law_3232 rfl rfl ?_
    refine k_L_189 dL_law_3233 rfl (r_thrown htr hC) hC.1 (by omega) (by omega) (by omega) (Nat.le_of_ble_eq_true rfl) (fun r3233 M9 h9 => ?_) (fun _ _ h9 => h9.elim)
    obtain ⟨rfl, e9⟩ := h9
    subst M9
    refine v_iload dL_law_3236 rfl ?_
    refine v_icmp_eq (tgt := 3243) dL_law_3238 (by decide) (fun h3238 => ?_) (fun h3238 => ?_)
    · refine v_iload dL_law_3243 rfl ?_
      refine v_if_ne (tgt := 3260) dL_law_3245 (by decide) (fun h3245 => ?_) (fun h3245 => ?_)
      · refine v_goto (tgt := 3320) dL_law_3260 (by decide) ?_
        refine V.wid (k' := k0 + 8) (n' := n0 + 600) (by omega) (by omega) (kk _ _ _ _ ?_)
        exact ⟨kd, q, a, e8, v, _, sa, _, pa, tx, tn, Ls, _, _, w, _, _, _, _, _, _, _, _, _, _, _, _, _, (hP8.fs (Frm.fs (S := fun r => r = 30) hF9 rfl) (fun r h => by omega)), hC, hS.up, ⟨⟨_, hOA⟩, ko⟩, ⟨_, hOD⟩, ko2⟩
      · exact absurd h3245 (by decide)
    · exact absurd rfl h3238
theorem dL_law_3276 : decode cL_law 3276 = .ok (.aload_n 1, 1) := by decide +kernel
theorem dL_law_3277 : decode cL_law 3277 = .ok (.aload_n 3, 1) := by decide +kernel
theorem dL_law_3278 : decode cL_law 3278 = .ok (.invokestatic 380, 3) := by decide +kernel
theorem dL_law_3281 : decode cL_law 3281 = .ok (.istore 6, 2) := by decide +kernel
theorem dL_law_3283 : decode cL_law 3283 = .ok (.aload_n 2, 1) := by decide +kernel
theorem dL_law_3284 : decode cL_law 3284 = .ok (.invokevirtual 382, 3) := by decide +kernel
theorem dL_law_3287 : decode cL_law 3287 = .ok (.istore 7, 2) := by decide +kernel
theorem dL_law_3289 : decode cL_law 3289 = .ok (.aload_n 2, 1) := by decide +kernel
theorem dL_law_3290 : decode cL_law 3290 = .ok (.invokevirtual 189, 3) := by decide +kernel
theorem dL_law_3293 : decode cL_law 3293 = .ok (.iload 6, 2) := by decide +kernel
theorem dL_law_3295 : decode cL_law 3295 = .ok (.if_icmp .eq 5, 3) := by decide +kernel
theorem dL_law_3298 : decode cL_law 3298 = .ok (.iconst 0, 1) := by decide +kernel
theorem dL_law_3299 : decode cL_law 3299 = .ok (.ireturn, 1) := by decide +kernel
theorem dL_law_3300 : decode cL_law 3300 = .ok (.iload 6, 2) := by decide +kernel
theorem dL_law_3302 : decode cL_law 3302 = .ok (.ifCond .ne 15, 3) := by decide +kernel
theorem dL_law_3305 : decode cL_law 3305 = .ok (.aload_n 3, 1) := by decide +kernel
theorem dL_law_3306 : decode cL_law 3306 = .ok (.iconst 0, 1) := by decide +kernel
theorem dL_law_3307 : decode cL_law 3307 = .ok (.laload, 1) := by decide +kernel
theorem dL_law_3308 : decode cL_law 3308 = .ok (.iload 7, 2) := by decide +kernel
theorem dL_law_3310 : decode cL_law 3310 = .ok (.i2l, 1) := by decide +kernel
theorem dL_law_3311 : decode cL_law 3311 = .ok (.lcmp, 1) := by decide +kernel
theorem dL_law_3312 : decode cL_law 3312 = .ok (.ifCond .eq 5, 3) := by decide +kernel
theorem dL_law_3315 : decode cL_law 3315 = .ok (.iconst 0, 1) := by decide +kernel
theorem dL_law_3316 : decode cL_law 3316 = .ok (.ireturn, 1) := by decide +kernel
theorem dL_law_3317 : decode cL_law 3317 = .ok (.goto 3, 3) := by decide +kernel
set_option maxRecDepth 100000 in
set_option maxHeartbeats 4000000 in
theorem law_58 {l : Launch} {g : Nat → Nat} {nm ds : String} {tb : List ExceptionTableEntry} {L mc ms : Nat} {Po : Res → LH → Prop} {X : CX} {M : LH} {k0 n0 : Nat} (htr : l.stackTraces = false) {b SN : Nat} {xs : Nat → Int32} (hX : Sc b SN xs X) {kd : Nat → Nat} {p : Nat} {q a : Nat → Nat} {e8 : Int32 → Nat} {v : Int32 → Int32} {sv : Int32} {sa : Int32 → Int32} {ch : Int32} {pa tx : Int32 → Int32} {tn : Int32} {Ls : List Int32} {ea fl : Int32} {m : Nat} {w : Nat → Nat} {t bf he en wr dg : Int32} {b4 fr th bs li lf to : Int32 → Int32} {out outD : Nat} {N : Nat} (hP : Pg kd M p q a e8 v sv sa ch pa tx tn Ls ea fl) (hM : Md kd 30 M m w t ch ea fl sv bf tn he en (nI Ls.length) wr dg v b4 sa pa fr th bs tx li lf to) (hS : Lw N v sv sa ch pa tn Ls ea fl li) (hN : N ≤ 512) {h0 : Nat → Int64} (hO : M out = some (la 1 h0)) (ko : kd out = 31) {h2 : Nat → UInt64} (hO2 : M outD = some (da 1 h2)) (ko2 : kd outD = 31) {i : Int32} (hi : ∀ j : Int32, 1 ≤ j → j ≤ 5 → 0 ≤ i + j ∧ (i + j).toNatClampNeg < SN) (hL : 30 ≤ L) (hk : k0 + 8 ≤ mc) (hn : n0 + 600 ≤ ms) {z6 z7 z8 : Option Value} (kk : ∀ (M' : LH) (z6 z7 z8 : Option Value), LI p m out outD (N + 1) M' → V l g ⟨"SledgePostLaw", nm, ds⟩ cL_law (some .boolean) tb L mc ms Po X M' (k0 + 8) (n0 + 600) 3320 [some (.ref b), some (.ref p), some (.ref m), some (.ref out), some (.ref outD), some (.int i), z6, z7, z8] []) : V l g ⟨"SledgePostLaw", nm, ds⟩ cL_law (some .boolean) tb L mc ms Po X M k0 n0 3276 [some (.ref b), some (.ref p), some (.ref m), some (.ref out), some (.ref outD), some (.int i), z6, z7, z8] [] := by
  obtain ⟨hG, hSy, hv4⟩ := hS.1
  obtain ⟨-, -, -, -, ⟨tn0, tn60⟩, ⟨ea1, fl1⟩, ⟨hTl, hLs⟩, c0, c8⟩ := _root_.id hS
  obtain ⟨h461, h46⟩ := hS.1.r hN
  obtain ⟨hs0, old0, ⟨hpO, -⟩, -⟩ := _root_.id hP
  refine v_aload_n dL_law_3276 rfl rfl ?_
  refine v_aload_n dL_law_3277 rfl rfl ?_
  refine kl_380 dL_law_3278 rfl (w_L_restore htr (f_restore htr hP ) hpO (fun r M9 h9 => ⟨_, (h9.2.2.2 out (by rw [ko]; decide)).trans hO⟩) (fun E M9 h9 => h9.2.1)) (by omega) (by omega) (by omega) (Nat.le_of_ble_eq_true rfl) (fun r9 M9 h9 => ?_) (fun _ _ h9 => h9.elim)
  rcases h9 with ⟨rfl, r, M8, h8, ⟨hc, rfl, hP8, hF8⟩, hh, rfl⟩ | ⟨E, ⟨hc, hE0, hP8, hF8⟩, hE⟩
  · skip
    have f31 : Fs kd (fun r => r = 31) M8 (hup M8 out (la 1 h8)) := fun x hx => hup_n (fun z => hx (by rw [z]; exact ko))
    have hP9 := hP8.fs f31 (fun r h => by omega)
    have hM9 := (hM.tp (hF8.t 30 (Nat.le_refl _))).tp (f31.tp (by decide))
    have hO9 := up_k (e' := la 1 h8) ((hF8 outD (by rw [ko2]; decide)).trans hO2) ((hF8 out (by rw [ko]; decide)).trans hO) da_la
    refine v_istore_6 dL_law_3281 ?_
    refine v_aload_n dL_law_3283 rfl rfl ?_
    refine k_L_382 dL_law_3284 rfl (r_restore htr hM9) hM9.1 (by omega) (by omega) (by omega) (Nat.le_of_ble_eq_true rfl) (fun r3284 M9 h9 => ?_) (fun _ _ h9 => h9.elim)
    obtain ⟨h9, hF9⟩ := h9
    rcases h9 with ⟨-, rfl, hC⟩ | ⟨hn, -⟩
    rotate_left
    · exact absurd hn hc
    have hOA := LR1 (kd := kd) hup_s ko hF9
    have hOD := LR1 hO9 ko2 hF9
    refine v_istore_7 dL_law_3287 ?_
    refine v_aload_n dL_law_3289 rfl rfl ?_
    refine k_L_189 dL_law_3290 rfl (r_thrown htr hC) hC.1 (by omega) (by omega) (by omega) (Nat.le_of_ble_eq_true rfl) (fun r3290 M9 h9 => ?_) (fun _ _ h9 => h9.elim)
    obtain ⟨rfl, e9⟩ := h9
    subst M9
    refine v_iload dL_law_3293 rfl ?_
    refine v_icmp_eq (tgt := 3300) dL_law_3295 (by decide) (fun h3295 => ?_) (fun h3295 => ?_)
    · refine v_iload dL_law_3300 rfl ?_
      refine v_if_ne (tgt := 3317) dL_law_3302 (by decide) (fun h3302 => ?_) (fun h3302 => ?_)
      · exact absurd rfl h3302
      · refine v_aload_n dL_law_3305 rfl rfl ?_
        refine v_iconst (v := 0) dL_law_3306 (by decide) ?_
        refine v_lald dL_law_3307 hOA ?_
        refine v_iload dL_law_3308 rfl ?_
        refine v_i2l dL_law_3310 ?_
        refine v_lcmp dL_law_3311 ?_
        rw [hh, lg_self]
        refine v_if_eq (tgt := 3317) dL_law_3312 (by decide) (fun h3312 => ?_) (fun h3312 => ?_)
        · refine v_goto (tgt := 3320) dL_law_3317 (by decide) ?_
          refine V.wid (k' := k0 + 8) (n' := n0 + 600) (by omega) (by omega) (kk _ _ _ _ ?_)
          exact ⟨kd, q, a, e8, _, sv, sa, _, pa, tx, tn, Ls, ea, fl, w, _, _, _, _, _, _, _, _, _, _, _, _, _, ((hP9.fs (Frm.fs (S := fun r => r = 30) hF9 rfl) (fun r h => by omega))).vx ag_cpF, hC, hS.re hc, ⟨⟨_, hOA⟩, ko⟩, ⟨_, hOD⟩, ko2⟩
        · exact absurd rfl h3312
    · exact absurd rfl h3295
  · skip
    have hM9 := hM.tp (hF8.t 30 (Nat.le_refl _))
    have hO8 := (hF8 out (by rw [ko]; decide)).trans hO
    have hO9 := (hF8 outD (by rw [ko2]; decide)).trans hO2
    obtain ⟨-, rfl⟩ := hE
    refine v_istore_6 dL_law_3281 ?_
    refine v_aload_n dL_law_3283 rfl rfl ?_
    refine k_L_382 dL_law_3284 rfl (r_restore htr hM9) hM9.1 (by omega) (by omega) (by omega) (Nat.le_of_ble_eq_true rfl) (fun r3284 M9 h9 => ?_) (fun _ _ h9 => h9.elim)
    obtain ⟨h9, hF9⟩ := h9
    rcases h9 with ⟨hn, -⟩ | ⟨-, rfl, hC⟩
    · exact absurd hc hn
    have hOA := LR1 hO8 ko hF9
    have hOD := LR1 hO9 ko2 hF9
    refine v_istore_7 dL_law_3287 ?_
    refine v_aload_n dL_law_3289 rfl rfl ?_
    refine k_L_189 dL_law_3290 rfl (r_thrown htr hC) hC.1 (by omega) (by omega) (by omega) (Nat.le_of_ble_eq_true rfl) (fun r3290 M9 h9 => ?_) (fun _ _ h9 => h9.elim)
    obtain ⟨rfl, e9⟩ := h9
    subst M9
    refine v_iload dL_law_3293 rfl ?_
    refine v_icmp_eq (tgt := 3300) dL_law_3295 (by decide) (fun h3295 => ?_) (fun h3295 => ?_)
    · refine v_iload dL_law_3300 rfl ?_
      refine v_if_ne (tgt := 3317) dL_law_3302 (by decide) (fun h3302 => ?_) (fun h3302 => ?_)
      · refine v_goto (tgt := 3320) dL_law_3317 (by decide) ?_
        refine V.wid (k' := k0 + 8) (n' := n0 + 600) (by omega) (by omega) (kk _ _ _ _ ?_)
        exact ⟨kd, q, a, e8, v, _, sa, _, pa, tx, tn, Ls, _, _, w, _, _, _, _, _, _, _, _, _, _, _, _, _, (hP8.fs (Frm.fs (S := fun r => r = 30) hF9 rfl) (fun r h => by omega)), hC, hS.up, ⟨⟨_, hOA⟩, ko⟩, ⟨_, hOD⟩, ko2⟩
      · exact absurd h3302 (by decide)
    · exact absurd rfl h3295
theorem dL_law_3131 : decode cL_law 3131 = .ok (.aload_n 1, 1) := by decide +kernel
theorem dL_law_3132 : decode cL_law 3132 = .ok (.aload_n 3, 1) := by decide +kernel
theorem dL_law_3133 : decode cL_law 3133 = .ok (.invokestatic 367, 3) := by decide +kernel
theorem dL_law_3136 : decode cL_law 3136 = .ok (.istore 6, 2) := by decide +kernel
theorem dL_law_3138 : decode cL_law 3138 = .ok (.aload_n 2, 1) := by decide +kernel
theorem dL_law_3139 : decode cL_law 3139 = .ok (.invokevirtual 369, 3) := by decide +kernel
theorem dL_law_3142 : decode cL_law 3142 = .ok (.istore 7, 2) := by decide +kernel
theorem dL_law_3144 : decode cL_law 3144 = .ok (.aload_n 2, 1) := by decide +kernel
theorem dL_law_3145 : decode cL_law 3145 = .ok (.invokevirtual 189, 3) := by decide +kernel
theorem dL_law_3148 : decode cL_law 3148 = .ok (.iload 6, 2) := by decide +kernel
theorem dL_law_3150 : decode cL_law 3150 = .ok (.if_icmp .eq 5, 3) := by decide +kernel
theorem dL_law_3153 : decode cL_law 3153 = .ok (.iconst 0, 1) := by decide +kernel
theorem dL_law_3154 : decode cL_law 3154 = .ok (.ireturn, 1) := by decide +kernel
theorem dL_law_3155 : decode cL_law 3155 = .ok (.iload 6, 2) := by decide +kernel
theorem dL_law_3157 : decode cL_law 3157 = .ok (.ifCond .ne 15, 3) := by decide +kernel
theorem dL_law_3160 : decode cL_law 3160 = .ok (.aload_n 3, 1) := by decide +kernel
theorem dL_law_3161 : decode cL_law 3161 = .ok (.iconst 0, 1) := by decide +kernel
theorem dL_law_3162 : decode cL_law 3162 = .ok (.laload, 1) := by decide +kernel
theorem dL_law_3163 : decode cL_law 3163 = .ok (.iload 7, 2) := by decide +kernel
theorem dL_law_3165 : decode cL_law 3165 = .ok (.i2l, 1) := by decide +kernel
theorem dL_law_3166 : decode cL_law 3166 = .ok (.lcmp, 1) := by decide +kernel
theorem dL_law_3167 : decode cL_law 3167 = .ok (.ifCond .eq 5, 3) := by decide +kernel
theorem dL_law_3170 : decode cL_law 3170 = .ok (.iconst 0, 1) := by decide +kernel
theorem dL_law_3171 : decode cL_law 3171 = .ok (.ireturn, 1) := by decide +kernel
theorem dL_law_3172 : decode cL_law 3172 = .ok (.goto 148, 3) := by decide +kernel
set_option maxRecDepth 100000 in
set_option maxHeartbeats 4000000 in
theorem law_54 {l : Launch} {g : Nat → Nat} {nm ds : String} {tb : List ExceptionTableEntry} {L mc ms : Nat} {Po : Res → LH → Prop} {X : CX} {M : LH} {k0 n0 : Nat} (htr : l.stackTraces = false) {b SN : Nat} {xs : Nat → Int32} (hX : Sc b SN xs X) {kd : Nat → Nat} {p : Nat} {q a : Nat → Nat} {e8 : Int32 → Nat} {v : Int32 → Int32} {sv : Int32} {sa : Int32 → Int32} {ch : Int32} {pa tx : Int32 → Int32} {tn : Int32} {Ls : List Int32} {ea fl : Int32} {m : Nat} {w : Nat → Nat} {t bf he en wr dg : Int32} {b4 fr th bs li lf to : Int32 → Int32} {out outD : Nat} {N : Nat} (hP : Pg kd M p q a e8 v sv sa ch pa tx tn Ls ea fl) (hM : Md kd 30 M m w t ch ea fl sv bf tn he en (nI Ls.length) wr dg v b4 sa pa fr th bs tx li lf to) (hS : Lw N v sv sa ch pa tn Ls ea fl li) (hN : N ≤ 512) {h0 : Nat → Int64} (hO : M out = some (la 1 h0)) (ko : kd out = 31) {h2 : Nat → UInt64} (hO2 : M outD = some (da 1 h2)) (ko2 : kd outD = 31) {i : Int32} (hi : ∀ j : Int32, 1 ≤ j → j ≤ 5 → 0 ≤ i + j ∧ (i + j).toNatClampNeg < SN) (hL : 30 ≤ L) (hk : k0 + 8 ≤ mc) (hn : n0 + 600 ≤ ms) {z6 z7 z8 : Option Value} (kk : ∀ (M' : LH) (z6 z7 z8 : Option Value), LI p m out outD (N + 1) M' → V l g ⟨"SledgePostLaw", nm, ds⟩ cL_law (some .boolean) tb L mc ms Po X M' (k0 + 8) (n0 + 600) 3320 [some (.ref b), some (.ref p), some (.ref m), some (.ref out), some (.ref outD), some (.int i), z6, z7, z8] []) : V l g ⟨"SledgePostLaw", nm, ds⟩ cL_law (some .boolean) tb L mc ms Po X M k0 n0 3131 [some (.ref b), some (.ref p), some (.ref m), some (.ref out), some (.ref outD), some (.int i), z6, z7, z8] [] := by
  obtain ⟨hG, hSy, hv4⟩ := hS.1
  obtain ⟨-, -, -, -, ⟨tn0, tn60⟩, ⟨ea1, fl1⟩, ⟨hTl, hLs⟩, c0, c8⟩ := _root_.id hS
  obtain ⟨h461, h46⟩ := hS.1.r hN
  obtain ⟨hs0, old0, ⟨hpO, -⟩, -⟩ := _root_.id hP
  refine v_aload_n dL_law_3131 rfl rfl ?_
  refine v_aload_n dL_law_3132 rfl rfl ?_
  refine kl_367 dL_law_3133 rfl (w_L_errorPosition htr (f_errorPosition htr hP ) hpO (fun r M9 h9 => ⟨_, (h9.2.2.2 out (by rw [ko]; decide)).trans hO⟩) (fun E M9 h9 => h9.2.1)) (by omega) (by omega) (by omega) (Nat.le_of_ble_eq_true rfl) (fun r9 M9 h9 => ?_) (fun _ _ h9 => h9.elim)
  rcases h9 with ⟨rfl, r, M8, h8, ⟨hc, rfl, hP8, hF8⟩, hh, rfl⟩ | ⟨E, ⟨hc, hE0, hP8, hF8⟩, hE⟩
  · skip
    have f31 : Fs kd (fun r => r = 31) M8 (hup M8 out (la 1 h8)) := fun x hx => hup_n (fun z => hx (by rw [z]; exact ko))
    have hP9 := hP8.fs f31 (fun r h => by omega)
    have hM9 := (hM.tp (hF8.t 30 (Nat.le_refl _))).tp (f31.tp (by decide))
    have hO9 := up_k (e' := la 1 h8) ((hF8 outD (by rw [ko2]; decide)).trans hO2) ((hF8 out (by rw [ko]; decide)).trans hO) da_la
    refine v_istore_6 dL_law_3136 ?_
    refine v_aload_n dL_law_3138 rfl rfl ?_
    refine k_L_369 dL_law_3139 rfl (r_errorPosition htr hM9) hM9.1 (by omega) (by omega) (by omega) (Nat.le_of_ble_eq_true rfl) (fun r3139 M9 h9 => ?_) (fun _ _ h9 => h9.elim)
    obtain ⟨h9, hF9⟩ := h9
    rcases h9 with ⟨-, rfl, hC⟩ | ⟨hn, -⟩
    rotate_left
    · first | exact absurd hn (Int32.not_lt.mpr (m1_no ea1 hc)) | exact absurd (m1_no ea1 hc) hn
    have hOA := LR1 (kd := kd) hup_s ko hF9
    have hOD := LR1 hO9 ko2 hF9
    refine v_istore_7 dL_law_3142 ?_
    refine v_aload_n dL_law_3144 rfl rfl ?_
    refine k_L_189 dL_law_3145 rfl (r_thrown htr hC) hC.1 (by omega) (by omega) (by omega) (Nat.le_of_ble_eq_true rfl) (fun r3145 M9 h9 => ?_) (fun _ _ h9 => h9.elim)
    obtain ⟨rfl, e9⟩ := h9
    subst M9
    refine v_iload dL_law_3148 rfl ?_
    refine v_icmp_eq (tgt := 3155) dL_law_3150 (by decide) (fun h3150 => ?_) (fun h3150 => ?_)
    · refine v_iload dL_law_3155 rfl ?_
      refine v_if_ne (tgt := 3172) dL_law_3157 (by decide) (fun h3157 => ?_) (fun h3157 => ?_)
      · exact absurd rfl h3157
      · refine v_aload_n dL_law_3160 rfl rfl ?_
        refine v_iconst (v := 0) dL_law_3161 (by decide) ?_
        refine v_lald dL_law_3162 hOA ?_
        refine v_iload dL_law_3163 rfl ?_
        refine v_i2l dL_law_3165 ?_
        refine v_lcmp dL_law_3166 ?_
        rw [hh, lg_self]
        refine v_if_eq (tgt := 3172) dL_law_3167 (by decide) (fun h3167 => ?_) (fun h3167 => ?_)
        · refine v_goto (tgt := 3320) dL_law_3172 (by decide) ?_
          refine V.wid (k' := k0 + 8) (n' := n0 + 600) (by omega) (by omega) (kk _ _ _ _ ?_)
          exact ⟨kd, q, a, e8, v, _, sa, _, pa, tx, tn, Ls, _, _, w, _, _, _, _, _, _, _, _, _, _, _, _, _, (hP9.fs (Frm.fs (S := fun r => r = 30) hF9 rfl) (fun r h => by omega)), hC, hS.up, ⟨⟨_, hOA⟩, ko⟩, ⟨_, hOD⟩, ko2⟩
        · exact absurd rfl h3167
    · exact absurd rfl h3150
  · skip
    have hM9 := hM.tp (hF8.t 30 (Nat.le_refl _))
    have hO8 := (hF8 out (by rw [ko]; decide)).trans hO
    have hO9 := (hF8 outD (by rw [ko2]; decide)).trans hO2
    obtain ⟨-, rfl⟩ := hE
    refine v_istore_6 dL_law_3136 ?_
    refine v_aload_n dL_law_3138 rfl rfl ?_
    refine k_L_369 dL_law_3139 rfl (r_errorPosition htr hM9) hM9.1 (by omega) (by omega) (by omega) (Nat.le_of_ble_eq_true rfl) (fun r3139 M9 h9 => ?_) (fun _ _ h9 => h9.elim)
    obtain ⟨h9, hF9⟩ := h9
    rcases h9 with ⟨hn, -⟩ | ⟨-, rfl, hC⟩
    · exact (m1_y hn hc).elim
    have hOA := LR1 hO8 ko hF9
    have hOD := LR1 hO9 ko2 hF9
    refine v_istore_7 dL_law_3142 ?_
    refine v_aload_n dL_law_3144 rfl rfl ?_
    refine k_L_189 dL_law_3145 rfl (r_thrown htr hC) hC.1 (by omega) (by omega) (by omega) (Nat.le_of_ble_eq_true rfl) (fun r3145 M9 h9 => ?_) (fun _ _ h9 => h9.elim)
    obtain ⟨rfl, e9⟩ := h9
    subst M9
    refine v_iload dL_law_3148 rfl ?_
    refine v_icmp_eq (tgt := 3155) dL_law_3150 (by decide) (fun h3150 => ?_) (fun h3150 => ?_)
    · refine v_iload dL_law_3155 rfl ?_
      refine v_if_ne (tgt := 3172) dL_law_3157 (by decide) (fun h3157 => ?_) (fun h3157 => ?_)
      · refine v_goto (tgt := 3320) dL_law_3172 (by decide) ?_
        refine V.wid (k' := k0 + 8) (n' := n0 + 600) (by omega) (by omega) (kk _ _ _ _ ?_)
        exact ⟨kd, q, a, e8, v, _, sa, _, pa, tx, tn, Ls, _, _, w, _, _, _, _, _, _, _, _, _, _, _, _, _, (hP8.fs (Frm.fs (S := fun r => r = 30) hF9 rfl) (fun r h => by omega)), hC, hS.up, ⟨⟨_, hOA⟩, ko⟩, ⟨_, hOD⟩, ko2⟩
      · exact absurd h3157 (by decide)
    · exact absurd rfl h3150
theorem dL_law_3175 : decode cL_law 3175 = .ok (.aload_n 1, 1) := by decide +kernel
theorem dL_law_3176 : decode cL_law 3176 = .ok (.aload_n 3, 1) := by decide +kernel
theorem dL_law_3177 : decode cL_law 3177 = .ok (.invokestatic 370, 3) := by decide +kernel
theorem dL_law_3180 : decode cL_law 3180 = .ok (.istore 6, 2) := by decide +kernel
theorem dL_law_3182 : decode cL_law 3182 = .ok (.aload_n 2, 1) := by decide +kernel
theorem dL_law_3183 : decode cL_law 3183 = .ok (.invokevirtual 372, 3) := by decide +kernel
theorem dL_law_3186 : decode cL_law 3186 = .ok (.istore 7, 2) := by decide +kernel
theorem dL_law_3188 : decode cL_law 3188 = .ok (.aload_n 2, 1) := by decide +kernel
theorem dL_law_3189 : decode cL_law 3189 = .ok (.invokevirtual 189, 3) := by decide +kernel
theorem dL_law_3192 : decode cL_law 3192 = .ok (.iload 6, 2) := by decide +kernel
theorem dL_law_3194 : decode cL_law 3194 = .ok (.if_icmp .eq 5, 3) := by decide +kernel
theorem dL_law_3197 : decode cL_law 3197 = .ok (.iconst 0, 1) := by decide +kernel
theorem dL_law_3198 : decode cL_law 3198 = .ok (.ireturn, 1) := by decide +kernel
theorem dL_law_3199 : decode cL_law 3199 = .ok (.iload 6, 2) := by decide +kernel
theorem dL_law_3201 : decode cL_law 3201 = .ok (.ifCond .ne 15, 3) := by decide +kernel
theorem dL_law_3204 : decode cL_law 3204 = .ok (.aload_n 3, 1) := by decide +kernel
theorem dL_law_3205 : decode cL_law 3205 = .ok (.iconst 0, 1) := by decide +kernel
theorem dL_law_3206 : decode cL_law 3206 = .ok (.laload, 1) := by decide +kernel
theorem dL_law_3207 : decode cL_law 3207 = .ok (.iload 7, 2) := by decide +kernel
theorem dL_law_3209 : decode cL_law 3209 = .ok (.i2l, 1) := by decide +kernel
theorem dL_law_3210 : decode cL_law 3210 = .ok (.lcmp, 1) := by decide +kernel
theorem dL_law_3211 : decode cL_law 3211 = .ok (.ifCond .eq 5, 3) := by decide +kernel
theorem dL_law_3214 : decode cL_law 3214 = .ok (.iconst 0, 1) := by decide +kernel
theorem dL_law_3215 : decode cL_law 3215 = .ok (.ireturn, 1) := by decide +kernel
theorem dL_law_3216 : decode cL_law 3216 = .ok (.goto 104, 3) := by decide +kernel
set_option maxRecDepth 100000 in
set_option maxHeartbeats 4000000 in
theorem law_55 {l : Launch} {g : Nat → Nat} {nm ds : String} {tb : List ExceptionTableEntry} {L mc ms : Nat} {Po : Res → LH → Prop} {X : CX} {M : LH} {k0 n0 : Nat} (htr : l.stackTraces = false) {b SN : Nat} {xs : Nat → Int32} (hX : Sc b SN xs X) {kd : Nat → Nat} {p : Nat} {q a : Nat → Nat} {e8 : Int32 → Nat} {v : Int32 → Int32} {sv : Int32} {sa : Int32 → Int32} {ch : Int32} {pa tx : Int32 → Int32} {tn : Int32} {Ls : List Int32} {ea fl : Int32} {m : Nat} {w : Nat → Nat} {t bf he en wr dg : Int32} {b4 fr th bs li lf to : Int32 → Int32} {out outD : Nat} {N : Nat} (hP : Pg kd M p q a e8 v sv sa ch pa tx tn Ls ea fl) (hM : Md kd 30 M m w t ch ea fl sv bf tn he en (nI Ls.length) wr dg v b4 sa pa fr th bs tx li lf to) (hS : Lw N v sv sa ch pa tn Ls ea fl li) (hN : N ≤ 512) {h0 : Nat → Int64} (hO : M out = some (la 1 h0)) (ko : kd out = 31) {h2 : Nat → UInt64} (hO2 : M outD = some (da 1 h2)) (ko2 : kd outD = 31) {i : Int32} (hi : ∀ j : Int32, 1 ≤ j → j ≤ 5 → 0 ≤ i + j ∧ (i + j).toNatClampNeg < SN) (hL : 30 ≤ L) (hk : k0 + 8 ≤ mc) (hn : n0 + 600 ≤ ms) {z6 z7 z8 : Option Value} (kk : ∀ (M' : LH) (z6 z7 z8 : Option Value), LI p m out outD (N + 1) M' → V l g ⟨"SledgePostLaw", nm, ds⟩ cL_law (some .boolean) tb L mc ms Po X M' (k0 + 8) (n0 + 600) 3320 [some (.ref b), some (.ref p), some (.ref m), some (.ref out), some (.ref outD), some (.int i), z6, z7, z8] []) : V l g ⟨"SledgePostLaw", nm, ds⟩ cL_law (some .boolean) tb L mc ms Po X M k0 n0 3175 [some (.ref b), some (.ref p), some (.ref m), some (.ref out), some (.ref outD), some (.int i), z6, z7, z8] [] := by
  obtain ⟨hG, hSy, hv4⟩ := hS.1
  obtain ⟨-, -, -, -, ⟨tn0, tn60⟩, ⟨ea1, fl1⟩, ⟨hTl, hLs⟩, c0, c8⟩ := _root_.id hS
  obtain ⟨h461, h46⟩ := hS.1.r hN
  obtain ⟨hs0, old0, ⟨hpO, -⟩, -⟩ := _root_.id hP
  refine v_aload_n dL_law_3175 rfl rfl ?_
  refine v_aload_n dL_law_3176 rfl rfl ?_
  refine kl_370 dL_law_3177 rfl (w_L_failedCommand htr (f_failedCommand htr hP ) hpO (fun r M9 h9 => ⟨_, (h9.2.2.2 out (by rw [ko]; decide)).trans hO⟩) (fun E M9 h9 => h9.2.1)) (by omega) (by omega) (by omega) (Nat.le_of_ble_eq_true rfl) (fun r9 M9 h9 => ?_) (fun _ _ h9 => h9.elim)
  rcases h9 with ⟨rfl, r, M8, h8, ⟨hc, rfl, hP8, hF8⟩, hh, rfl⟩ | ⟨E, ⟨hc, hE0, hP8, hF8⟩, hE⟩
  · skip
    have f31 : Fs kd (fun r => r = 31) M8 (hup M8 out (la 1 h8)) := fun x hx => hup_n (fun z => hx (by rw [z]; exact ko))
    have hP9 := hP8.fs f31 (fun r h => by omega)
    have hM9 := (hM.tp (hF8.t 30 (Nat.le_refl _))).tp (f31.tp (by decide))
    have hO9 := up_k (e' := la 1 h8) ((hF8 outD (by rw [ko2]; decide)).trans hO2) ((hF8 out (by rw [ko]; decide)).trans hO) da_la
    refine v_istore_6 dL_law_3180 ?_
    refine v_aload_n dL_law_3182 rfl rfl ?_
    refine k_L_372 dL_law_3183 rfl (r_failedCommand htr hM9) hM9.1 (by omega) (by omega) (by omega) (Nat.le_of_ble_eq_true rfl) (fun r3183 M9 h9 => ?_) (fun _ _ h9 => h9.elim)
    obtain ⟨h9, hF9⟩ := h9
    rcases h9 with ⟨-, rfl, hC⟩ | ⟨hn, -⟩
    rotate_left
    · first | exact absurd hn (Int32.not_lt.mpr (m1_no fl1 hc)) | exact absurd (m1_no fl1 hc) hn
    have hOA := LR1 (kd := kd) hup_s ko hF9
    have hOD := LR1 hO9 ko2 hF9
    refine v_istore_7 dL_law_3186 ?_
    refine v_aload_n dL_law_3188 rfl rfl ?_
    refine k_L_189 dL_law_3189 rfl (r_thrown htr hC) hC.1 (by omega) (by omega) (by omega) (Nat.le_of_ble_eq_true rfl) (fun r3189 M9 h9 => ?_) (fun _ _ h9 => h9.elim)
    obtain ⟨rfl, e9⟩ := h9
    subst M9
    refine v_iload dL_law_3192 rfl ?_
    refine v_icmp_eq (tgt := 3199) dL_law_3194 (by decide) (fun h3194 => ?_) (fun h3194 => ?_)
    · refine v_iload dL_law_3199 rfl ?_
      refine v_if_ne (tgt := 3216) dL_law_3201 (by decide) (fun h3201 => ?_) (fun h3201 => ?_)
      · exact absurd rfl h3201
      · refine v_aload_n dL_law_3204 rfl rfl ?_
        refine v_iconst (v := 0) dL_law_3205 (by decide) ?_
        refine v_lald dL_law_3206 hOA ?_
        refine v_iload dL_law_3207 rfl ?_
        refine v_i2l dL_law_3209 ?_
        refine v_lcmp dL_law_3210 ?_
        rw [hh, lg_self]
        refine v_if_eq (tgt := 3216) dL_law_3211 (by decide) (fun h3211 => ?_) (fun h3211 => ?_)
        · refine v_goto (tgt := 3320) dL_law_3216 (by decide) ?_
          refine V.wid (k' := k0 + 8) (n' := n0 + 600) (by omega) (by omega) (kk _ _ _ _ ?_)
          exact ⟨kd, q, a, e8, v, _, sa, _, pa, tx, tn, Ls, _, _, w, _, _, _, _, _, _, _, _, _, _, _, _, _, (hP9.fs (Frm.fs (S := fun r => r = 30) hF9 rfl) (fun r h => by omega)), hC, hS.up, ⟨⟨_, hOA⟩, ko⟩, ⟨_, hOD⟩, ko2⟩
        · exact absurd rfl h3211
    · exact absurd rfl h3194
  · skip
    have hM9 := hM.tp (hF8.t 30 (Nat.le_refl _))
    have hO8 := (hF8 out (by rw [ko]; decide)).trans hO
    have hO9 := (hF8 outD (by rw [ko2]; decide)).trans hO2
    obtain ⟨-, rfl⟩ := hE
    refine v_istore_6 dL_law_3180 ?_
    refine v_aload_n dL_law_3182 rfl rfl ?_
    refine k_L_372 dL_law_3183 rfl (r_failedCommand htr hM9) hM9.1 (by omega) (by omega) (by omega) (Nat.le_of_ble_eq_true rfl) (fun r3183 M9 h9 => ?_) (fun _ _ h9 => h9.elim)
    obtain ⟨h9, hF9⟩ := h9
    rcases h9 with ⟨hn, -⟩ | ⟨-, rfl, hC⟩
    · exact (m1_y hn hc).elim
    have hOA := LR1 hO8 ko hF9
    have hOD := LR1 hO9 ko2 hF9
    refine v_istore_7 dL_law_3186 ?_
    refine v_aload_n dL_law_3188 rfl rfl ?_
    refine k_L_189 dL_law_3189 rfl (r_thrown htr hC) hC.1 (by omega) (by omega) (by omega) (Nat.le_of_ble_eq_true rfl) (fun r3189 M9 h9 => ?_) (fun _ _ h9 => h9.elim)
    obtain ⟨rfl, e9⟩ := h9
    subst M9
    refine v_iload dL_law_3192 rfl ?_
    refine v_icmp_eq (tgt := 3199) dL_law_3194 (by decide) (fun h3194 => ?_) (fun h3194 => ?_)
    · refine v_iload dL_law_3199 rfl ?_
      refine v_if_ne (tgt := 3216) dL_law_3201 (by decide) (fun h3201 => ?_) (fun h3201 => ?_)
      · refine v_goto (tgt := 3320) dL_law_3216 (by decide) ?_
        refine V.wid (k' := k0 + 8) (n' := n0 + 600) (by omega) (by omega) (kk _ _ _ _ ?_)
        exact ⟨kd, q, a, e8, v, _, sa, _, pa, tx, tn, Ls, _, _, w, _, _, _, _, _, _, _, _, _, _, _, _, _, (hP8.fs (Frm.fs (S := fun r => r = 30) hF9 rfl) (fun r h => by omega)), hC, hS.up, ⟨⟨_, hOA⟩, ko⟩, ⟨_, hOD⟩, ko2⟩
      · exact absurd h3201 (by decide)
    · exact absurd rfl h3194
