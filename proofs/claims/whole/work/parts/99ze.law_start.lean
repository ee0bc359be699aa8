/-! ===== the law: its start ===== -/
theorem dL_law_0 : decode cL_law 0 = .ok (.new 8, 3) := by decide +kernel
theorem dL_law_3 : decode cL_law 3 = .ok (.dup, 1) := by decide +kernel
theorem dL_law_4 : decode cL_law 4 = .ok (.invokespecial 179, 3) := by decide +kernel
theorem dL_law_7 : decode cL_law 7 = .ok (.astore_n 1, 1) := by decide +kernel
theorem dL_law_8 : decode cL_law 8 = .ok (.new 180, 3) := by decide +kernel
theorem dL_law_11 : decode cL_law 11 = .ok (.dup, 1) := by decide +kernel
theorem dL_law_12 : decode cL_law 12 = .ok (.invokespecial 182, 3) := by decide +kernel
theorem dL_law_15 : decode cL_law 15 = .ok (.astore_n 2, 1) := by decide +kernel
theorem dL_law_16 : decode cL_law 16 = .ok (.iconst 1, 1) := by decide +kernel
theorem dL_law_17 : decode cL_law 17 = .ok (.newarray .long, 2) := by decide +kernel
theorem dL_law_19 : decode cL_law 19 = .ok (.astore_n 3, 1) := by decide +kernel
theorem dL_law_20 : decode cL_law 20 = .ok (.iconst 1, 1) := by decide +kernel
theorem dL_law_21 : decode cL_law 21 = .ok (.newarray .double, 2) := by decide +kernel
theorem dL_law_23 : decode cL_law 23 = .ok (.astore 4, 2) := by decide +kernel
theorem dL_law_25 : decode cL_law 25 = .ok (.iconst 0, 1) := by decide +kernel
theorem dL_law_26 : decode cL_law 26 = .ok (.istore 5, 2) := by decide +kernel
section VNL
variable {l : Launch} {g : Nat → Nat} {y : MethodName} {cc : ByteArray} {rt : Option FieldType} {tb : List ExceptionTableEntry} {L mc ms : Nat} {Po : Res → LH → Prop} {X : CX} {M : LH} {k n pc : Nat} {ls : List (Option Value)} {rest : List Value}
theorem v_newl (hd : decode cc pc = .ok (.newarray .long, 2)) (hk : k + 1 ≤ mc) (hn : n + 1 ≤ ms) (kk : ∀ q : Nat, M q = none → V l g y cc rt tb L mc ms Po X (hup M q (la 1 (fun _ => 0))) (k + 1) (n + 1) (pc + 2) (ls) (.ref q :: rest)) : V l g y cc rt tb L mc ms Po X M (k) (n) (pc) (ls) (.int 1 :: rest) := by
  obtain ⟨p, e, s, m, args, below, meth, c, A⟩ := X
  intro ok H locs la' hW hS hl
  obtain ⟨D, ws, tys, hP, hK, hD, hL⟩ := hW
  have hts := ok.2.2.2.2.1
  refine va_newa ok.1 ok.2.1 (atype := .long) (hts _ (Ut_of (mt_10 73 rfl) rfl)) (ty := .long) rfl hK hP hD hS ok.2.2.2.2.2.1 (a0 := (1, .inr (.inl (fun _ => 0)))) (N' := 1) (fun cA => rfl) (by decide) rfl (by decide) hk hn hd (fun q cA H1 hK1 hP1 hD1 hS1 => ?_)
  have hq : M q = none := by
    cases h : M q with
    | none => rfl
    | some e9 =>
      obtain ⟨k9, ve, hk9, -⟩ := hL q e9 h
      have hlt := (List.getElem?_eq_some_iff.mp hk9).1
      have := hD1.1 k9 ws.length (q, ve) (q, .inl (cA, (1, .inr (.inl (fun _ => 0))))) (by rw [List.getElem?_append_left hlt]; exact hk9) (by simp) rfl
      omega
  exact kk q hq ok H1 locs la' ⟨D, _, _, hP1, hK1, hD1, Lk_push hL ⟨cA, tys.length, rfl, by simp⟩⟩ hS1 hl
theorem v_newd (hd : decode cc pc = .ok (.newarray .double, 2)) (hk : k + 1 ≤ mc) (hn : n + 1 ≤ ms) (kk : ∀ q : Nat, M q = none → V l g y cc rt tb L mc ms Po X (hup M q (da 1 (fun _ => 0))) (k + 1) (n + 1) (pc + 2) (ls) (.ref q :: rest)) : V l g y cc rt tb L mc ms Po X M (k) (n) (pc) (ls) (.int 1 :: rest) := by
  obtain ⟨p, e, s, m, args, below, meth, c, A⟩ := X
  intro ok H locs la' hW hS hl
  obtain ⟨D, ws, tys, hP, hK, hD, hL⟩ := hW
  have hts := ok.2.2.2.2.1
  refine va_newa ok.1 ok.2.1 (atype := .double) (hts _ (Ut_of (mt_10 74 rfl) rfl)) (ty := .double) rfl hK hP hD hS ok.2.2.2.2.2.1 (a0 := (1, .inr (.inr (.inr (.inl (fun _ => 0)))))) (N' := 1) (fun cA => rfl) (by decide) rfl (by decide) hk hn hd (fun q cA H1 hK1 hP1 hD1 hS1 => ?_)
  have hq : M q = none := by
    cases h : M q with
    | none => rfl
    | some e9 =>
      obtain ⟨k9, ve, hk9, -⟩ := hL q e9 h
      have hlt := (List.getElem?_eq_some_iff.mp hk9).1
      have := hD1.1 k9 ws.length (q, ve) (q, .inl (cA, (1, .inr (.inr (.inr (.inl (fun _ => 0))))))) (by rw [List.getElem?_append_left hlt]; exact hk9) (by simp) rfl
      omega
  exact kk q hq ok H1 locs la' ⟨D, _, _, hP1, hK1, hD1, Lk_push hL ⟨cA, tys.length, rfl, by simp⟩⟩ hS1 hl
end VNL
section PGA
variable {kd kd' : Nat → Nat} {M M' : LH} {p : Nat} {q a : Nat → Nat} {e8 : Int32 → Nat} {v : Int32 → Int32} {sv : Int32} {sa : Int32 → Int32} {ch : Int32} {pa tx : Int32 → Int32} {tn : Int32} {Ls : List Int32} {ea fl : Int32}
theorem RdO.al (h : RdO kd M a tx tn Ls) (t : Al kd kd' M M') : RdO kd' M' a tx tn Ls := by
  obtain ⟨vt, ct, f0, cm, at9, nc, NN, vo, co, c1, ⟨r0, r1, ⟨⟨ml, r2⟩, r3, r4⟩, r5, r6, r7, r8, r9, r10⟩, c3, c4, ⟨s1, ⟨fo, ⟨⟨ml2, s2⟩, s3, s4⟩, s5⟩, s6⟩, c6, c7, c8⟩ := h
  exact ⟨vt, ct, f0, cm, at9, nc, NN, vo, co, c1, ⟨t.c r0, t.c r1, ⟨⟨ml, t.c r2⟩, t.c r3, r4⟩, r5, r6, (t.k r0).trans r7, (t.k r1).trans r8, (fun z => r9 ((t.k r2).symm.trans z)), (fun z => r10 ((t.k r3).symm.trans z))⟩, (t.k r2).trans c3, (t.k r3).trans c4, ⟨s1, ⟨fo, ⟨⟨ml2, t.c s2⟩, t.c s3, s4⟩, s5⟩, s6⟩, (t.k s2).trans c6, (t.k s3).trans c7, c8⟩
theorem Pg.al (h : Pg kd M p q a e8 v sv sa ch pa tx tn Ls ea fl) (t : Al kd kd' M M') : Pg kd' M' p q a e8 v sv sa ch pa tx tn Ls ea fl := by
  obtain ⟨h1, o1, b, r⟩ := h
  have tq : TQ kd kd' M M' := fun r _ _ _ => t r
  exact ⟨h1, o1, b.tq tq (b.2.2.2.2.2.2.2.2.2.al t), r.tq tq⟩
end PGA
theorem LG_0 : LG 0 (fun _ => 0) := ⟨Good_0, fun _ _ _ _ _ _ => rfl, by decide⟩
theorem Lw_0 : Lw 0 (fun _ => 0) 0 (fun _ => 0) 0 (fun _ => 0) 0 [] (-1) (-1) (fun _ => 0) := ⟨LG_0, fun _ => LG_0, fun _ _ _ => LG_0, Or.inl rfl, ⟨by decide, by decide⟩, ⟨by decide, by decide⟩, ⟨fun j h => absurd h (Nat.not_lt_zero _), by decide⟩, by decide, by decide⟩
set_option maxRecDepth 100000 in
set_option maxHeartbeats 4000000 in
theorem law_start {l : Launch} {g : Nat → Nat} {nm ds : String} {tb : List ExceptionTableEntry} {L mc ms : Nat} {Po : Res → LH → Prop} {X : CX} (htr : l.stackTraces = false) {b SN : Nat} {xs : Nat → Int32} (hX : Sc b SN xs X) (hSN : SN ≤ 3072) (hL : 30 ≤ L) (hPo : ∀ M : LH, Po (.inl (some (.int 1))) M) (hmc : 5000 ≤ mc) (hms : 320000 ≤ ms) : V l g ⟨"SledgePostLaw", nm, ds⟩ cL_law (some .boolean) tb L mc ms Po X (fun _ => none) 0 0 0 [some (.ref b), none, none, none, none, none, none, none, none] [] := by
  refine vn_L_8 dL_law_0 rfl (by omega) (by omega) (fun p p0 => ?_)
  refine v_dup dL_law_3 rfl ?_
  refine ki_L_179 dL_law_4 rfl (c_newPost htr (kd := fun _ => 21) hup_s rfl) (by omega) (by omega) (by omega) (Nat.le_of_ble_eq_true rfl) (fun M1 h9 => ?_) (fun _ _ h9 => h9.elim)
  obtain ⟨kd1, q, a, e8, hk1, hg1, hP⟩ := h9
  refine v_astore_1 dL_law_7 ?_
  refine vn_L_180 dL_law_8 rfl (by omega) (by omega) (fun m m0 => ?_)
  refine v_dup dL_law_11 rfl ?_
  refine ki_L_182 dL_law_12 rfl (c_newModel htr (kd := ks kd1 m 30) hup_s ks_s) (by omega) (by omega) (by omega) (Nat.le_of_ble_eq_true rfl) (fun M2 h9 => ?_) (fun _ _ h9 => h9.elim)
  obtain ⟨kd3, w, hk3, hg3, hMd⟩ := h9
  refine v_astore_2 dL_law_15 ?_
  refine v_iconst (v := 1) dL_law_16 (by decide) ?_
  refine v_newl dL_law_17 (by omega) (by omega) (fun out o0 => ?_)
  refine v_astore_3 dL_law_19 ?_
  refine v_iconst (v := 1) dL_law_20 (by decide) ?_
  refine v_newd dL_law_21 (by omega) (by omega) (fun outD d0 => ?_)
  refine v_astore_4 dL_law_23 ?_
  refine v_iconst (v := 0) dL_law_25 (by decide) ?_
  refine v_istore_5 dL_law_26 ?_
  have al1 : Al kd1 kd3 M1 M2 := Al.mk m0 hg3 hk3
  have al2 : Al kd3 (ks kd3 out 31) M2 (hup M2 out (la 1 (fun _ => 0))) := Al.new o0
  have al3 : Al (ks kd3 out 31) (ks (ks kd3 out 31) outD 31) (hup M2 out (la 1 (fun _ => 0))) (hup (hup M2 out (la 1 (fun _ => 0))) outD (da 1 (fun _ => 0))) := Al.new d0
  have hP5 := (hP (fun _ => 0) (fun _ => 0) (fun _ => 0)).al (al1.tr (al2.tr al3))
  have hM5 := hMd.tp ((al2.tr al3) 30)
  exact law_loop htr hX hSN hL hPo 512 0 rfl _ _ _ _ _ _ ⟨_, q, a, e8, (fun _ => 0), 0, (fun _ => 0), 0, (fun _ => 0), (fun _ => 0), 0, [], -1, -1, w, _, _, _, _, _, _, _, _, _, _, _, _, _, hP5, hM5, Lw_0, ⟨⟨_, al3.c hup_s⟩, (al3.k hup_s).trans ks_s⟩, ⟨_, hup_s⟩, ks_s⟩ (by omega) (by omega)
