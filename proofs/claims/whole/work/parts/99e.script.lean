/-! ===== the face: a script is run ===== -/
theorem ex_max {P : Nat → Prop} (h0 : P 0) (n : Nat) (hn : ¬ P n) : ∃ m, P m ∧ ¬ P (m + 1) := by
  induction n with
  | zero => exact absurd h0 hn
  | succ n ih =>
    by_cases q : P n
    · exact ⟨n, q, hn⟩
    · exact ih q
theorem cm_tot {tx : Int32 → Int32} {en he : Int32} : (∃ e, cmE tx en he e) ∨ ∃ i e ns, cmG tx en he i e ns := by
  obtain ⟨n, ⟨i, hi, hm⟩, hno⟩ := ex_max (P := fun n => ∃ i, i < 10 ∧ mtW (sgS tx en he) i n) ⟨0, by decide, mtW_0⟩ 8 (fun ⟨i, hi, hm⟩ => by have := mt_7' hm hi; omega)
  by_cases q : ∃ i, i < 10 ∧ mtW (sgS tx en he) i n ∧ (wrd i).length = n
  · obtain ⟨j, hj, hm2, e⟩ := q
    rw [← e] at hm2
    rcases h : prs tx en (prt j) (he + nI (wrd j).length, false) with ⟨⟨e9, b⟩, ns⟩
    cases b with
    | true => exact Or.inl ⟨e9, Or.inr ⟨j, hj, hm2, by rw [h]⟩⟩
    | false => exact Or.inr ⟨j, e9, ns, hj, hm2, h⟩
  · exact Or.inl ⟨he + nI n, Or.inl ⟨n, rfl, ⟨i, hi, hm⟩, fun j hj z => q ⟨j, hj, z.1, z.2⟩, fun j hj z => hno ⟨j, hj, z⟩⟩⟩
theorem cmE_un {tx : Int32 → Int32} {en he e e' : Int32} (e0 : 0 ≤ he) (e61 : he ≤ 60) (e60 : en ≤ 60) (h : cmE tx en he e) (h2 : cmE tx en he e') : e = e' := by
  obtain ⟨k0, hk0, q⟩ := FR_E e0 e61 e60 h
  obtain ⟨k1, hk1, q1⟩ := FR_E e0 e61 e60 h2
  have a := (q k0 _ _ _ hk0 (FR_of hk0)).2.2 rfl
  have b := (q1 k0 _ _ _ hk0 (FR_of hk0)).2.1
  have c := (q1 k1 _ _ _ hk1 (FR_of hk1)).2.2 rfl
  have d := (q k1 _ _ _ hk1 (FR_of hk1)).2.1
  rw [a] at b
  rw [c] at d
  exact Int32.le_antisymm b d
theorem scE_un {tx : Int32 → Int32} {en : Int32} (e60 : en ≤ 60) : ∀ (f f' : Nat) (he e e' : Int32), 0 ≤ he → he ≤ 60 → scE tx en f he e → scE tx en f' he e' → e = e' := by
  intro f
  induction f with
  | zero => exact fun _ _ _ _ _ _ h => h.elim
  | succ f ih =>
    intro f' he e e' a b h h2
    match f', h2 with
    | f' + 1, h2 =>
      rcases h with h | ⟨i, e1, ns, hG, hl, h⟩
      · rcases h2 with h2 | ⟨i2, e2, ns2, hG2, hl2, h2⟩
        · exact cmE_un a b e60 h h2
        · exact (cm_ex a b e60 hG2 h).elim
      · rcases h2 with h2 | ⟨i2, e2, ns2, hG2, hl2, h2⟩
        · exact (cm_ex a b e60 hG h2).elim
        · obtain ⟨-, rfl, -⟩ := cm_un hG hG2
          obtain ⟨-, x0, -, -⟩ := cmG_lt a b e60 hG
          obtain ⟨y0, y1, -, -⟩ := lt_60 e60 x0 hl
          rcases h with ⟨n1, rfl⟩ | ⟨n1, h⟩
          · rcases h2 with ⟨n2, rfl⟩ | ⟨n2, h2⟩
            · rfl
            · exact absurd n2 n1
          · rcases h2 with ⟨n2, rfl⟩ | ⟨n2, h2⟩
            · exact absurd n1 n2
            · exact ih f' _ e e' y0 y1 h h2
/-- a text has the form of a script, or an error in it -/
theorem sc_ex {tx : Int32 → Int32} {en : Int32} (e60 : en ≤ 60) : ∀ (n : Nat) (he : Int32), 0 ≤ he → he ≤ 60 → 60 - he.toNatClampNeg ≤ n → (∃ f e, scE tx en f he e) ∨ ∃ cs, scG tx en cs he := by
  intro n
  induction n with
  | zero =>
    intro he a b hn
    rcases cm_tot (tx := tx) (en := en) (he := he) with ⟨e, h⟩ | ⟨i, e, ns, hG⟩
    · exact Or.inl ⟨1, e, Or.inl h⟩
    · obtain ⟨-, -, -, x⟩ := cmG_lt a b e60 hG
      have z := tc_lt a (Int32.lt_of_lt_of_le x e60)
      have e6 : (60 : Int32).toNatClampNeg = 60 := rfl
      omega
  | succ n ih =>
    intro he a b hn
    rcases cm_tot (tx := tx) (en := en) (he := he) with ⟨e, h⟩ | ⟨i, e, ns, hG⟩
    · exact Or.inl ⟨1, e, Or.inl h⟩
    · obtain ⟨x0, x1, x2, x3⟩ := cmG_lt a b e60 hG
      by_cases hl : e < en
      · by_cases h59 : sgN tx en e = 59
        · obtain ⟨y0, y1, y2, y3⟩ := lt_60 e60 x1 hl
          have z := tc_lt a (show he < e by clear ih hG h59; lia)
          rcases ih (e + 1) y0 y1 (by omega) with ⟨f, e9, h⟩ | ⟨cs, h⟩
          · exact Or.inl ⟨f + 1, e9, Or.inr ⟨i, e, ns, hG, hl, Or.inr ⟨h59, h⟩⟩⟩
          · exact Or.inr ⟨(i, ns) :: cs, e, hG, Or.inr ⟨hl, h59, h⟩⟩
        · exact Or.inl ⟨1, e, Or.inr ⟨i, e, ns, hG, hl, Or.inl ⟨h59, rfl⟩⟩⟩
      · exact Or.inr ⟨[(i, ns)], e, hG, Or.inl ⟨rfl, hl⟩⟩
section PGR
variable {kd : Nat → Nat} {p : Nat} {q a : Nat → Nat} {e8 : Int32 → Nat} {hs old : Int32} {v : Int32 → Int32} {sv : Int32} {sa : Int32 → Int32} {ch : Int32} {pa tx : Int32 → Int32} {tn : Int32} {Ls : List Int32} {ea fl : Int32} {M M' : LH}
theorem Rr.fs {vt ct : Nat} {f0 : Int32 → Int32} {cm : Nat} {at9 nc : Int32} {NN : Int32 → Int32} {S : Nat → Prop} (h : Rr kd 22 M (a 4) (a 5) vt (a 6) (nI (cpc ct)) tn tx f0 cm at9 nc NN) (c3 : kd (a 5) = 23) (c4 : kd vt = 0) (f : Fs kd S M M') (h0 : ¬ S 0) (h22 : ¬ S 22) (h23 : ¬ S 23) : Rr kd 22 M' (a 4) (a 5) vt (a 6) (nI (cpc ct)) tn tx f0 cm at9 nc NN := by
  obtain ⟨r0, r1, ⟨⟨ml, r2⟩, r3, r4⟩, r5, r6, r7, r8, r9, r10⟩ := h
  exact ⟨(f _ (by rw [r7]; exact h22)).trans r0, (f _ (by rw [r8]; exact h22)).trans r1, ⟨⟨ml, (f _ (by rw [c3]; exact h23)).trans r2⟩, (f _ (by rw [c4]; exact h0)).trans r3, r4⟩, r5, r6, r7, r8, r9, r10⟩
/-- the reader has read -/
theorem PgB.rdr {vt ct : Nat} {f0 : Int32 → Int32} {cm : Nat} {at9 nc : Int32} {NN : Int32 → Int32} {vo co : Nat} (hB : PgB kd M p q a e8 hs old v ch tx tn Ls ea fl) (c1 : ct ≤ 3) (_ : Rr kd 22 M (a 4) (a 5) vt (a 6) (nI (cpc ct)) tn tx f0 cm at9 nc NN) (c3 : kd (a 5) = 23) (c4 : kd vt = 0) (hSo : SbC M (a 7) vo co Ls) (c6 : kd (a 7) = 24) (c7 : kd vo = 0) (c8 : ¬ vt = vo) {cm' : Nat} {at' nc' : Int32} {NN' : Int32 → Int32} (hR' : Rr kd 22 M' (a 4) (a 5) vt (a 6) (nI (cpc ct)) tn tx f0 cm' at' nc' NN') (f : Frm kd 22 M M') : PgB kd M' p q a e8 hs old v ch tx tn Ls ea fl := by
  have f2 : Fs kd (fun r => r = 22) M M' := Frm.fs f rfl
  obtain ⟨g1, g2, g3, g4, g5, g6, g7, g8, g9, g10⟩ := hB
  obtain ⟨s1, ⟨fo, ⟨⟨ml2, s2⟩, s3, s4⟩, s5⟩, s6⟩ := hSo
  exact ⟨(f2 _ (by rw [g3]; decide)).trans g1, (f2 _ (by rw [g4]; decide)).trans g2, g3, g4, g5.tp (f2.tp (by decide)), g6.tp (f2.tp (by decide)), g7.tp (f2.tp (by decide)), g8.tp (f2.tp (by decide)), fun j j0 j1 => (g9 j j0 j1).tp (f2.tp (by have := tc_lt j0 j1; have e : (8 : Int32).toNatClampNeg = 8 := rfl; omega)), vt, ct, f0, cm', at', nc', NN', vo, co, c1, hR', c3, c4, ⟨s1, ⟨fo, ⟨⟨ml2, (f2 _ (by rw [c6]; decide)).trans s2⟩, (f2 _ (by rw [c7]; decide)).trans s3, s4⟩, s5⟩, s6⟩, c6, c7, c8⟩
end PGR
theorem dX11_runCommands_0 : decode cX11_runCommands 0 = .ok (.iconst 0, 1) := by decide +kernel
theorem dX11_runCommands_1 : decode cX11_runCommands 1 = .ok (.istore_n 2, 1) := by decide +kernel
theorem dX11_runCommands_2 : decode cX11_runCommands 2 = .ok (.iconst 0, 1) := by decide +kernel
theorem dX11_runCommands_3 : decode cX11_runCommands 3 = .ok (.istore_n 3, 1) := by decide +kernel
theorem dX11_runCommands_4 : decode cX11_runCommands 4 = .ok (.iload_n 3, 1) := by decide +kernel
theorem dX11_runCommands_5 : decode cX11_runCommands 5 = .ok (.iload_n 1, 1) := by decide +kernel
theorem dX11_runCommands_6 : decode cX11_runCommands 6 = .ok (.if_icmp .ge 79, 3) := by decide +kernel
theorem dX11_runCommands_9 : decode cX11_runCommands 9 = .ok (.aload_n 0, 1) := by decide +kernel
theorem dX11_runCommands_10 : decode cX11_runCommands 10 = .ok (.getfield 34, 3) := by decide +kernel
theorem dX11_runCommands_13 : decode cX11_runCommands 13 = .ok (.iload_n 2, 1) := by decide +kernel
theorem dX11_runCommands_14 : decode cX11_runCommands 14 = .ok (.invokevirtual 455, 3) := by decide +kernel
theorem dX11_runCommands_17 : decode cX11_runCommands 17 = .ok (.pop, 1) := by decide +kernel
theorem dX11_runCommands_18 : decode cX11_runCommands 18 = .ok (.aload_n 0, 1) := by decide +kernel
theorem dX11_runCommands_19 : decode cX11_runCommands 19 = .ok (.getfield 10, 3) := by decide +kernel
theorem dX11_runCommands_22 : decode cX11_runCommands 22 = .ok (.aload_n 0, 1) := by decide +kernel
theorem dX11_runCommands_23 : decode cX11_runCommands 23 = .ok (.getfield 34, 3) := by decide +kernel
theorem dX11_runCommands_26 : decode cX11_runCommands 26 = .ok (.getfield 458, 3) := by decide +kernel
theorem dX11_runCommands_29 : decode cX11_runCommands 29 = .ok (.aload_n 0, 1) := by decide +kernel
theorem dX11_runCommands_30 : decode cX11_runCommands 30 = .ok (.getfield 34, 3) := by decide +kernel
theorem dX11_runCommands_33 : decode cX11_runCommands 33 = .ok (.getfield 462, 3) := by decide +kernel
theorem dX11_runCommands_36 : decode cX11_runCommands 36 = .ok (.invokevirtual 465, 3) := by decide +kernel
theorem dX11_runCommands_39 : decode cX11_runCommands 39 = .ok (.getstatic 469, 3) := by decide +kernel
theorem dX11_runCommands_42 : decode cX11_runCommands 42 = .ok (.if_acmp .eq 5, 3) := by decide +kernel
theorem dX11_runCommands_45 : decode cX11_runCommands 45 = .ok (.iload_n 3, 1) := by decide +kernel
theorem dX11_runCommands_46 : decode cX11_runCommands 46 = .ok (.ireturn, 1) := by decide +kernel
theorem dX11_runCommands_47 : decode cX11_runCommands 47 = .ok (.aload_n 0, 1) := by decide +kernel
theorem dX11_runCommands_48 : decode cX11_runCommands 48 = .ok (.getfield 10, 3) := by decide +kernel
theorem dX11_runCommands_51 : decode cX11_runCommands 51 = .ok (.aload_n 0, 1) := by decide +kernel
theorem dX11_runCommands_52 : decode cX11_runCommands 52 = .ok (.getfield 34, 3) := by decide +kernel
theorem dX11_runCommands_55 : decode cX11_runCommands 55 = .ok (.getfield 458, 3) := by decide +kernel
theorem dX11_runCommands_58 : decode cX11_runCommands 58 = .ok (.aload_n 0, 1) := by decide +kernel
theorem dX11_runCommands_59 : decode cX11_runCommands 59 = .ok (.getfield 34, 3) := by decide +kernel
theorem dX11_runCommands_62 : decode cX11_runCommands 62 = .ok (.getfield 462, 3) := by decide +kernel
theorem dX11_runCommands_65 : decode cX11_runCommands 65 = .ok (.invokevirtual 472, 3) := by decide +kernel
theorem dX11_runCommands_68 : decode cX11_runCommands 68 = .ok (.pop, 1) := by decide +kernel
theorem dX11_runCommands_69 : decode cX11_runCommands 69 = .ok (.aload_n 0, 1) := by decide +kernel
theorem dX11_runCommands_70 : decode cX11_runCommands 70 = .ok (.getfield 34, 3) := by decide +kernel
theorem dX11_runCommands_73 : decode cX11_runCommands 73 = .ok (.getfield 476, 3) := by decide +kernel
theorem dX11_runCommands_76 : decode cX11_runCommands 76 = .ok (.iconst 1, 1) := by decide +kernel
theorem dX11_runCommands_77 : decode cX11_runCommands 77 = .ok (.iadd, 1) := by decide +kernel
theorem dX11_runCommands_78 : decode cX11_runCommands 78 = .ok (.istore_n 2, 1) := by decide +kernel
theorem dX11_runCommands_79 : decode cX11_runCommands 79 = .ok (.iinc 3 1, 3) := by decide +kernel
theorem dX11_runCommands_82 : decode cX11_runCommands 82 = .ok (.goto (-78), 3) := by decide +kernel
theorem dX11_runCommands_85 : decode cX11_runCommands 85 = .ok (.iconst (-1), 1) := by decide +kernel
theorem dX11_runCommands_86 : decode cX11_runCommands 86 = .ok (.ireturn, 1) := by decide +kernel
set_option maxRecDepth 100000 in
set_option maxHeartbeats 4000000 in
theorem c_runCommands {l : Launch} {g : Nat → Nat} {M : LH} (htr : l.stackTraces = false) {kd : Nat → Nat} {p : Nat} {q a : Nat → Nat} {e8 : Int32 → Nat} {hs old : Int32} {v : Int32 → Int32} {ch : Int32} {tx : Int32 → Int32} {tn : Int32} {Ls : List Int32} {ea fl : Int32} (hB : PgB kd M p q a e8 hs old v ch tx tn Ls ea fl) {cs : List (Nat × List Int32)} (hcs : scG tx tn cs 0) (h4 : (v 4).toInt + 61 < 1000000) : K_X11_runCommands l g 9 0 0 [.ref p, .int (nI cs.length)] M (RI (fun x M9 => ((x = -1 ∧ ∃ v', rnG cs v v' ∧ PgB kd M9 p q a e8 hs old v' ch tx tn Ls ea fl) ∨ (∃ k v', rnB cs v k ∧ x = nI k ∧ PgB kd M9 p q a e8 hs old v' ch tx tn Ls ea fl)) ∧ Fs kd (fun r => r = 1 ∨ r = 20 ∨ r = 22) M M9) nX) := by
  refine Ko_X11_runCommands htr (fun X => ?_)
  obtain ⟨-, -, -, -, -, -, -, -, -, hROq⟩ := _root_.id hB
  obtain ⟨_, _, _, _, _, _, _, _, _, _, hRq, -⟩ := hROq
  have e60 : tn ≤ 60 := hRq.2.2.2.2.1
  have tn0 : 0 ≤ tn := hRq.2.2.1.2.2.1
  have h61 := (scG_61 tn0 e60 hcs).1
  refine V.inj (fun hj => ?_)
  have key : ∀ (cs1 : List (Nat × List Int32)) (st : Int32) (j : Nat) (v1 : Int32 → Int32) (M1 : LH), j + cs1.length = cs.length → (cs1 = [] ∨ scG tx tn cs1 st ∧ 0 ≤ st ∧ st ≤ 60) → (∀ v', rnG cs1 v1 v' → rnG cs v v') → (∀ k, rnB cs1 v1 k → rnB cs v (j + k)) → (v1 4).toInt + (cs1.length : Int) < 1000000 → PgB kd M1 p q a e8 hs old v1 ch tx tn Ls ea fl → Fs kd (fun r => r = 1 ∨ r = 20 ∨ r = 22) M M1 → V l g yX11_runCommands cX11_runCommands ((some .int)) [] 9 0 0 (RI (fun x M9 => ((x = -1 ∧ ∃ v', rnG cs v v' ∧ PgB kd M9 p q a e8 hs old v' ch tx tn Ls ea fl) ∨ (∃ k v', rnB cs v k ∧ x = nI k ∧ PgB kd M9 p q a e8 hs old v' ch tx tn Ls ea fl)) ∧ Fs kd (fun r => r = 1 ∨ r = 20 ∨ r = 22) M M9) nX) X M1 0 0 4 [some (.ref p), some (.int (nI cs.length)), some (.int st), some (.int (nI j))] [] := by
    clear hB hRq
    intro cs1
    induction cs1 with
    | nil =>
      intro st j v1 M1 hl hs h1 h2 h4 hB hF
      obtain rfl : j = cs.length := hl
      have hO := hB.1
      refine v_iload_n dX11_runCommands_4 rfl rfl ?_
      refine v_iload_n dX11_runCommands_5 rfl rfl ?_
      refine v_icmp_ge (tgt := 85) dX11_runCommands_6 (by decide) (fun h6 => ?_) (fun h6 => ?_)
      · refine v_iconst (v := (-1)) dX11_runCommands_85 (by decide) ?_
        exact v_iret dX11_runCommands_86 rfl ⟨Or.inl ⟨rfl, v1, h1 v1 rfl, hB⟩, hF⟩ (by omega) (by omega)
      · exact absurd (Int32.le_refl _) h6
    | cons c cs1 ih =>
      intro st j v1 M1 hl hs h1 h2 h4 hB hF
      rcases hs with z | ⟨⟨e1, hG9, h3⟩, st0, st6⟩
      · exact absurd z (by simp)
      have hi10 := hG9.1
      have hjl : nI j < nI cs.length := nI_lt (by rw [List.length_cons] at hl; omega) (by omega)
      have h41 : v1 4 < 1000000 := by
        have e : (1000000 : Int32).toInt = 1000000 := rfl
        rw [List.length_cons] at h4
        rw [i_lt, e]
        omega
      obtain ⟨hO, hE8, hkp, hk3, ⟨ad, sl, le, fg, tp, F, hC⟩, hK, hS2, hS3, hS8, hRO⟩ := _root_.id hB
      obtain ⟨hDk, -⟩ := _root_.id hK
      obtain ⟨vt, ct, f0, cm, at9, nc, NN, vo, co, c1, hRr, c3, c4, hSo, c6, c7, c8⟩ := _root_.id hRO
      obtain ⟨hA, hNB, hSB, hTX, e60, hkA, hkN, hkb, hkv⟩ := _root_.id hRr
      obtain ⟨⟨ml, hBb⟩, hVv, en0, enN, hN9, hfb⟩ := _root_.id hSB
      refine v_iload_n dX11_runCommands_4 rfl rfl ?_
      refine v_iload_n dX11_runCommands_5 rfl rfl ?_
      refine v_icmp_ge (tgt := 85) dX11_runCommands_6 (by decide) (fun h6 => ?_) (fun h6 => ?_)
      · exact absurd h6 (Int32.not_le.mpr hjl)
      · refine v_aload_n dX11_runCommands_9 rfl rfl ?_
        refine gf_X11_34 dX11_runCommands_10 rfl hO ?_
        refine v_iload_n dX11_runCommands_13 rfl rfl ?_
        refine k_X11_455 dX11_runCommands_14 rfl (c_readCommandG htr hRr hG9 st0 st6) hA (Nat.le_of_ble_eq_true rfl) (by omega) (by omega) (Nat.le_of_ble_eq_true rfl) (fun r14 M9 h9 => ?_) (fun _ _ h9 => h9.elim)
        obtain ⟨h91, NN9, nc9, hT9, hRr9, f9⟩ := h9
        rw [h91]
        clear h91
        have hB := hB.rdr c1 hRr c3 c4 hSo c6 c7 c8 hRr9 f9
        have hF := hF.tr (Frm.fs (S := fun r => r = 1 ∨ r = 20 ∨ r = 22) f9 (by decide))
        obtain ⟨hO, hE8, hkp, hk3, ⟨ad, sl, le, fg, tp, F, hC⟩, hK, hS2, hS3, hS8, hRO⟩ := _root_.id hB
        obtain ⟨hDk, -⟩ := _root_.id hK
        obtain ⟨hA, hNB, -⟩ := _root_.id hRr9
        refine v_pop dX11_runCommands_17 rfl ?_
        refine v_aload_n dX11_runCommands_18 rfl rfl ?_
        refine gf_X11_10 dX11_runCommands_19 rfl hO ?_
        refine v_aload_n dX11_runCommands_22 rfl rfl ?_
        refine gf_X11_34 dX11_runCommands_23 rfl hO ?_
        refine gf_X11_458 dX11_runCommands_26 rfl hA ?_
        refine v_aload_n dX11_runCommands_29 rfl rfl ?_
        refine gf_X11_34 dX11_runCommands_30 rfl hO ?_
        refine gf_X11_462 dX11_runCommands_33 rfl hA ?_
        refine k_X11_465 dX11_runCommands_36 rfl (c_judge htr hC hK hNB hi10) hDk (Nat.le_of_ble_eq_true rfl) (by omega) (by omega) (Nat.le_of_ble_eq_true rfl) (fun r36 M9 h9 => ?_) (fun _ _ h9 => h9.elim)
        obtain ⟨x9, hx9, rfl, hxo, k9, f9⟩ := h9
        have hRr9 := Rr.fs hRr9 c3 c4 (Frm.fs (S := fun r => r = 20) f9 rfl) (by decide) (by decide) (by decide)
        have hB := hB.now (Fr2.b f9) (StX.tp ⟨_, _, _, _, _, _, hC⟩ ((Frm.fs (S := fun r => r = 20) f9 rfl).tp (by decide))) k9
        have hF := hF.tr (Frm.fs (S := fun r => r = 1 ∨ r = 20 ∨ r = 22) f9 (by decide))
        obtain ⟨hO, hE8, hkp, hk3, ⟨ad, sl, le, fg, tp, F, hC⟩, hK, hS2, hS3, hS8, hRO⟩ := _root_.id hB
        obtain ⟨hDk, -⟩ := _root_.id hK
        obtain ⟨hA, hNB, -⟩ := _root_.id hRr9
        refine gs_X11_469 dX11_runCommands_39 rfl ?_
        refine v_acmp_eq (tgt := 47) dX11_runCommands_42 (by decide) (fun h42 => ?_) (fun h42 => ?_)
        · have hok : okJ v1 NN9 c.1 := hxo.mp (hj _ _ hx9 (by decide) (by first | exact h42 | exact h42.symm))
          refine v_aload_n dX11_runCommands_47 rfl rfl ?_
          refine gf_X11_10 dX11_runCommands_48 rfl hO ?_
          refine v_aload_n dX11_runCommands_51 rfl rfl ?_
          refine gf_X11_34 dX11_runCommands_52 rfl hO ?_
          refine gf_X11_458 dX11_runCommands_55 rfl hA ?_
          refine v_aload_n dX11_runCommands_58 rfl rfl ?_
          refine gf_X11_34 dX11_runCommands_59 rfl hO ?_
          refine gf_X11_462 dX11_runCommands_62 rfl hA ?_
          refine k_X11_472 dX11_runCommands_65 rfl (c_carryOut htr hC hK hNB hi10 hok h41) hDk (Nat.le_of_ble_eq_true rfl) (by omega) (by omega) (Nat.le_of_ble_eq_true rfl) (fun r65 M9 h9 => ?_) (fun _ _ h9 => h9.elim)
          obtain ⟨v2, hd9, t9, k9, f9⟩ := h9
          have hRr9 := Rr.fs hRr9 c3 c4 (Fr2.fs (S := fun r => r = 1 ∨ r = 20) f9 (by decide) (by decide)) (by decide) (by decide) (by decide)
          have hG1 : Good v1 := hC.toG
          have hdk := dd_ok hi10 hG1 h41 hok hd9
          have hB := hB.now f9 (StX.e t9) k9
          have hF := hF.tr (Fr2.fs (S := fun r => r = 1 ∨ r = 20 ∨ r = 22) f9 (by decide) (by decide))
          obtain ⟨hO, hE8, hkp, hk3, -, hK, hS2, hS3, hS8, hRO⟩ := _root_.id hB
          obtain ⟨hA, hNB, -⟩ := _root_.id hRr9
          refine v_pop dX11_runCommands_68 rfl ?_
          refine v_aload_n dX11_runCommands_69 rfl rfl ?_
          refine gf_X11_34 dX11_runCommands_70 rfl hO ?_
          refine gf_X11_476 dX11_runCommands_73 rfl hA ?_
          refine v_iconst (v := 1) dX11_runCommands_76 (by decide) ?_
          refine v_iadd dX11_runCommands_77 ?_
          refine v_istore_2 dX11_runCommands_78 ?_
          refine v_iinc_3 dX11_runCommands_79 rfl ?_
          refine v_goto (tgt := 4) dX11_runCommands_82 (by decide) ?_
          rw [show nI j + Int32.ofInt 1 = nI (j + 1) from nI_1 j]
          have ho := (ok_ns hi10 (fun j hj => hT9 j (by rw [cmG_len hG9]; exact hj))).1.mp hok
          have hd := ((ok_ns hi10 (fun j hj => hT9 j (by rw [cmG_len hG9]; exact hj))).2 _ _).mp hd9
          refine ih (e1 + 1) (j + 1) v2 _ (by rw [List.length_cons] at hl; omega) ?_ (fun v' h => h1 v' ⟨ho, v2, _, hd, h⟩) (fun k h => by rw [show j + 1 + k = j + (k + 1) by omega]; exact h2 (k + 1) (Or.inr ⟨ho, v2, _, hd, k, rfl, h⟩)) ?_ hB hF
          · rcases h3 with ⟨z, -⟩ | ⟨q1, q2, q3⟩
            · exact Or.inl z
            · obtain ⟨x1, x2, x3, x4⟩ := cmG_lt st0 st6 e60 hG9
              obtain ⟨y0, y1, -, -⟩ := lt_60 e60 x2 q1
              exact Or.inr ⟨q3, y0, y1⟩
          · exact (dd_4 hG1 h4 hdk.2.2).1
        · have hnok : ¬ okJ v1 NN9 c.1 := fun z => h42 (by rw [hxo.mpr z])
          refine v_iload_n dX11_runCommands_45 rfl rfl ?_
          exact v_iret dX11_runCommands_46 rfl ⟨Or.inr ⟨j, v1, (by have z := h2 0 (Or.inl ⟨fun z => hnok ((ok_ns hi10 (fun j hj => hT9 j (by rw [cmG_len hG9]; exact hj))).1.mpr z), rfl⟩); rwa [Nat.add_zero] at z), rfl, hB⟩, hF⟩ (by omega) (by omega)
  refine v_iconst (v := 0) dX11_runCommands_0 (by decide) ?_
  refine v_istore_2 dX11_runCommands_1 ?_
  refine v_iconst (v := 0) dX11_runCommands_2 (by decide) ?_
  refine v_istore_3 dX11_runCommands_3 ?_
  exact key cs 0 0 v _ (Nat.zero_add _) (Or.inr ⟨hcs, Int32.le_refl _, by decide⟩) (fun _ h => h) (fun k h => by rw [Nat.zero_add]; exact h) (by omega) hB Fs.rf
theorem rnB_lt : ∀ (cs : List (Nat × List Int32)) (σ : Int32 → Int32) (k : Nat), rnB cs σ k → k < cs.length := by
  intro cs
  induction cs with
  | nil => exact fun _ _ h => h.elim
  | cons c cs ih =>
    intro σ k h
    rcases h with ⟨-, rfl⟩ | ⟨-, σ1, x, -, k', rfl, h⟩
    · exact Nat.zero_lt_succ _
    · have := ih _ _ h
      rw [List.length_cons]
      omega
theorem dX11_runScript_0 : decode cX11_runScript 0 = .ok (.aload_n 0, 1) := by decide +kernel
theorem dX11_runScript_1 : decode cX11_runScript 1 = .ok (.getfield 34, 3) := by decide +kernel
theorem dX11_runScript_4 : decode cX11_runScript 4 = .ok (.invokevirtual 367, 3) := by decide +kernel
theorem dX11_runScript_7 : decode cX11_runScript 7 = .ok (.istore_n 1, 1) := by decide +kernel
theorem dX11_runScript_8 : decode cX11_runScript 8 = .ok (.iload_n 1, 1) := by decide +kernel
theorem dX11_runScript_9 : decode cX11_runScript 9 = .ok (.iconst (-1), 1) := by decide +kernel
theorem dX11_runScript_10 : decode cX11_runScript 10 = .ok (.if_icmp .eq 30, 3) := by decide +kernel
theorem dX11_runScript_13 : decode cX11_runScript 13 = .ok (.aload_n 0, 1) := by decide +kernel
theorem dX11_runScript_14 : decode cX11_runScript 14 = .ok (.getfield 34, 3) := by decide +kernel
theorem dX11_runScript_17 : decode cX11_runScript 17 = .ok (.getfield 359, 3) := by decide +kernel
theorem dX11_runScript_20 : decode cX11_runScript 20 = .ok (.iconst 0, 1) := by decide +kernel
theorem dX11_runScript_21 : decode cX11_runScript 21 = .ok (.invokevirtual 332, 3) := by decide +kernel
theorem dX11_runScript_24 : decode cX11_runScript 24 = .ok (.aload_n 0, 1) := by decide +kernel
theorem dX11_runScript_25 : decode cX11_runScript 25 = .ok (.iload_n 1, 1) := by decide +kernel
theorem dX11_runScript_26 : decode cX11_runScript 26 = .ok (.putfield 41, 3) := by decide +kernel
theorem dX11_runScript_29 : decode cX11_runScript 29 = .ok (.new 285, 3) := by decide +kernel
theorem dX11_runScript_32 : decode cX11_runScript 32 = .ok (.dup, 1) := by decide +kernel
theorem dX11_runScript_33 : decode cX11_runScript 33 = .ok (.ldc_w 370, 3) := by decide +kernel
theorem dX11_runScript_36 : decode cX11_runScript 36 = .ok (.invokespecial 289, 3) := by decide +kernel
theorem dX11_runScript_39 : decode cX11_runScript 39 = .ok (.athrow, 1) := by decide +kernel
theorem dX11_runScript_40 : decode cX11_runScript 40 = .ok (.aload_n 0, 1) := by decide +kernel
theorem dX11_runScript_41 : decode cX11_runScript 41 = .ok (.getfield 34, 3) := by decide +kernel
theorem dX11_runScript_44 : decode cX11_runScript 44 = .ok (.invokevirtual 372, 3) := by decide +kernel
theorem dX11_runScript_47 : decode cX11_runScript 47 = .ok (.istore_n 2, 1) := by decide +kernel
theorem dX11_runScript_48 : decode cX11_runScript 48 = .ok (.aload_n 0, 1) := by decide +kernel
theorem dX11_runScript_49 : decode cX11_runScript 49 = .ok (.getfield 38, 3) := by decide +kernel
theorem dX11_runScript_52 : decode cX11_runScript 52 = .ok (.aload_n 0, 1) := by decide +kernel
theorem dX11_runScript_53 : decode cX11_runScript 53 = .ok (.getfield 20, 3) := by decide +kernel
theorem dX11_runScript_56 : decode cX11_runScript 56 = .ok (.invokevirtual 375, 3) := by decide +kernel
theorem dX11_runScript_59 : decode cX11_runScript 59 = .ok (.aload_n 0, 1) := by decide +kernel
theorem dX11_runScript_60 : decode cX11_runScript 60 = .ok (.iload_n 2, 1) := by decide +kernel
theorem dX11_runScript_61 : decode cX11_runScript 61 = .ok (.invokevirtual 378, 3) := by decide +kernel
theorem dX11_runScript_64 : decode cX11_runScript 64 = .ok (.istore_n 3, 1) := by decide +kernel
theorem dX11_runScript_65 : decode cX11_runScript 65 = .ok (.aload_n 0, 1) := by decide +kernel
theorem dX11_runScript_66 : decode cX11_runScript 66 = .ok (.getfield 34, 3) := by decide +kernel
theorem dX11_runScript_69 : decode cX11_runScript 69 = .ok (.getfield 359, 3) := by decide +kernel
theorem dX11_runScript_72 : decode cX11_runScript 72 = .ok (.iconst 0, 1) := by decide +kernel
theorem dX11_runScript_73 : decode cX11_runScript 73 = .ok (.invokevirtual 332, 3) := by decide +kernel
theorem dX11_runScript_76 : decode cX11_runScript 76 = .ok (.iload_n 3, 1) := by decide +kernel
theorem dX11_runScript_77 : decode cX11_runScript 77 = .ok (.iconst (-1), 1) := by decide +kernel
theorem dX11_runScript_78 : decode cX11_runScript 78 = .ok (.if_icmp .eq 30, 3) := by decide +kernel
theorem dX11_runScript_81 : decode cX11_runScript 81 = .ok (.aload_n 0, 1) := by decide +kernel
theorem dX11_runScript_82 : decode cX11_runScript 82 = .ok (.getfield 20, 3) := by decide +kernel
theorem dX11_runScript_85 : decode cX11_runScript 85 = .ok (.aload_n 0, 1) := by decide +kernel
theorem dX11_runScript_86 : decode cX11_runScript 86 = .ok (.getfield 38, 3) := by decide +kernel
theorem dX11_runScript_89 : decode cX11_runScript 89 = .ok (.invokevirtual 375, 3) := by decide +kernel
theorem dX11_runScript_92 : decode cX11_runScript 92 = .ok (.aload_n 0, 1) := by decide +kernel
theorem dX11_runScript_93 : decode cX11_runScript 93 = .ok (.iload_n 3, 1) := by decide +kernel
theorem dX11_runScript_94 : decode cX11_runScript 94 = .ok (.putfield 45, 3) := by decide +kernel
theorem dX11_runScript_97 : decode cX11_runScript 97 = .ok (.new 362, 3) := by decide +kernel
theorem dX11_runScript_100 : decode cX11_runScript 100 = .ok (.dup, 1) := by decide +kernel
theorem dX11_runScript_101 : decode cX11_runScript 101 = .ok (.ldc_w 381, 3) := by decide +kernel
theorem dX11_runScript_104 : decode cX11_runScript 104 = .ok (.invokespecial 366, 3) := by decide +kernel
theorem dX11_runScript_107 : decode cX11_runScript 107 = .ok (.athrow, 1) := by decide +kernel
theorem dX11_runScript_108 : decode cX11_runScript 108 = .ok (.aload_n 0, 1) := by decide +kernel
theorem dX11_runScript_109 : decode cX11_runScript 109 = .ok (.aload_n 0, 1) := by decide +kernel
theorem dX11_runScript_110 : decode cX11_runScript 110 = .ok (.getfield 38, 3) := by decide +kernel
theorem dX11_runScript_113 : decode cX11_runScript 113 = .ok (.invokevirtual 63, 3) := by decide +kernel
theorem dX11_runScript_116 : decode cX11_runScript 116 = .ok (.iload_n 2, 1) := by decide +kernel
theorem dX11_runScript_117 : decode cX11_runScript 117 = .ok (.ireturn, 1) := by decide +kernel
set_option maxRecDepth 100000 in
set_option maxHeartbeats 4000000 in
theorem f_runScript {l : Launch} {g : Nat → Nat} {M : LH} (htr : l.stackTraces = false) {kd : Nat → Nat} {p : Nat} {q a : Nat → Nat} {e8 : Int32 → Nat} {v : Int32 → Int32} {sv : Int32} {sa : Int32 → Int32} {ch : Int32} {pa tx : Int32 → Int32} {tn : Int32} {Ls : List Int32} {ea fl : Int32} (hP : Pg kd M p q a e8 v sv sa ch pa tx tn Ls ea fl) (h4 : (v 4).toInt + 61 < 1000000) : K_X11_runScript l g 12 3 20 [.ref p] M (RI (fun x M9 => ∃ cs v', scG tx tn cs 0 ∧ rnG cs v v' ∧ x = nI cs.length ∧ ∃ kd' pa', PaS ch pa v pa' ∧ Pg kd' M9 p q a e8 v' sv sa ((if ch = 8 then 7 else ch) + 1) pa' tx 0 Ls ea fl ∧ T30 kd kd' M M9) (fun E M9 => (∃ fu e, scE tx tn fu 0 e ∧ E = exV 2 ∧ ∃ kd', Pg kd' M9 p q a e8 v sv sa ch pa tx 0 Ls e fl ∧ T30 kd kd' M M9) ∨ (∃ cs k, scG tx tn cs 0 ∧ rnB cs v k ∧ E = exV 4 ∧ ∃ kd', Pg kd' M9 p q a e8 v sv sa ch pa tx 0 Ls ea (nI k) ∧ T30 kd kd' M M9))) := by
  refine Ko_X11_runScript htr (fun X => ?_)
  obtain ⟨hs, old, hB, hR⟩ := _root_.id hP
  obtain ⟨hO, hE8, hkp, hk3, hX0, hK, hS2, hS3, hS8, hRO⟩ := _root_.id hB
  obtain ⟨vt, ct, f0, cm, at9, nc, NN, vo, co, c1, hRr, c3, c4, hSo, c6, c7, c8⟩ := _root_.id hRO
  obtain ⟨hA, hNB, hSB, hTX, e60, hkA, hkN, hkb, hkv⟩ := _root_.id hRr
  obtain ⟨⟨ml, hBb⟩, hVv, en0, enN, hN9, hfb⟩ := _root_.id hSB
  have e60q : tn ≤ 60 := e60
  have tn0 : 0 ≤ tn := en0
  rcases sc_ex (tx := tx) e60 60 0 (Int32.le_refl _) (by decide) (Nat.sub_le _ _) with ⟨fu, e, hsc⟩ | ⟨cs, hsc⟩
  · have e0 := (scE_in e60 fu 0 e (Int32.le_refl _) (by decide) hsc).1
    refine v_aload_n dX11_runScript_0 rfl rfl ?_
    refine gf_X11_34 dX11_runScript_1 rfl hO ?_
    refine k_X11_367 dX11_runScript_4 rfl (c_findErrorE htr hRr hsc) hA (Nat.le_of_ble_eq_true rfl) (by omega) (by omega) (Nat.le_of_ble_eq_true rfl) (fun r4 M9 h9 => ?_) (fun _ _ h9 => h9.elim)
    obtain ⟨h91, cm9, at91, NN9, nc9, hRr9, f9⟩ := h9
    rw [h91]
    have hB := hB.rdr c1 hRr c3 c4 hSo c6 c7 c8 hRr9 f9
    have f22 : Fs kd (fun r => r = 22) M M9 := Frm.fs f9 rfl
    have hR := hR.fs f22 (by decide) (fun i hi => by omega)
    have hF1 : F30 kd M M9 := f22.f30 (fun r h => by omega)
    obtain ⟨hO, hE8, hkp, hk3, hX0, hK, hS2, hS3, hS8, hRO⟩ := _root_.id hB
    obtain ⟨vt, ct, f0, cm, at9, nc, NN, vo, co, c1, hRr, c3, c4, hSo, c6, c7, c8⟩ := _root_.id hRO
    obtain ⟨hA, hNB, hSB, hTX, e60, hkA, hkN, hkb, hkv⟩ := _root_.id hRr
    obtain ⟨⟨ml, hBb⟩, hVv, en0, enN, hN9, hfb⟩ := _root_.id hSB
    refine v_istore_1 dX11_runScript_7 ?_
    refine v_iload_n dX11_runScript_8 rfl rfl ?_
    refine v_iconst (v := (-1)) dX11_runScript_9 (by decide) ?_
    refine v_icmp_eq (tgt := 40) dX11_runScript_10 (by decide) (fun h10 => ?_) (fun h10 => ?_)
    · exact absurd h10 (fun z => by rw [z] at e0; exact absurd e0 (by decide))
    · refine v_aload_n dX11_runScript_13 rfl rfl ?_
      refine gf_X11_34 dX11_runScript_14 rfl hO ?_
      refine gf_X11_359 dX11_runScript_17 rfl hA ?_
      refine v_iconst (v := 0) dX11_runScript_20 (by decide) ?_
      refine k_X11_332 dX11_runScript_21 rfl (c_setL htr hSB) hBb (Nat.le_of_ble_eq_true rfl) (by omega) (by omega) (Nat.le_of_ble_eq_true rfl) (fun M9 h9 => ?_) (fun _ _ h9 => h9.elim)
      obtain ⟨h91, hF9⟩ := h9
      obtain ⟨hB, hT9⟩ := hB.txt c1 hRr c3 c4 hSo c6 c7 c8 (tx' := tx) c1 h91 (fun j j0 j1 => absurd j1 (Int32.not_lt.mpr j0)) (by decide) hF9 (Or.inl rfl)
      have hR := hR.tq hT9
      obtain ⟨hO, hE8, hkp, hk3, hX0, hK, hS2, hS3, hS8, hRO⟩ := _root_.id hB
      refine v_aload_n dX11_runScript_24 rfl rfl ?_
      refine v_iload_n dX11_runScript_25 rfl rfl ?_
      refine pf_X11_41 dX11_runScript_26 rfl hO ?_
      refine V.pgb (PgB.own hB) (up21 hkp Fs.rf) (fun M1 hB hF => ?_)
      exact th_X11_285_370 dX11_runScript_29 dX11_runScript_32 dX11_runScript_33 dX11_runScript_36 dX11_runScript_39 rfl (Nat.le_of_ble_eq_true rfl) (Or.inl ⟨fu, e, hsc, rfl, _, ⟨_, _, hB, hR.fs hF (by decide) (fun i hi => by omega)⟩, hF1.t.tr (hT9.t.tr (hF.f30 (fun r h => by omega)).t)⟩) (by omega) (by omega)
  · skip
    refine v_aload_n dX11_runScript_0 rfl rfl ?_
    refine gf_X11_34 dX11_runScript_1 rfl hO ?_
    refine k_X11_367 dX11_runScript_4 rfl (c_findErrorG htr hRr hsc) hA (Nat.le_of_ble_eq_true rfl) (by omega) (by omega) (Nat.le_of_ble_eq_true rfl) (fun r4 M9 h9 => ?_) (fun _ _ h9 => h9.elim)
    obtain ⟨h91, cm9, at91, NN9, nc9, hRr9, f9⟩ := h9
    rw [h91]
    have hB := hB.rdr c1 hRr c3 c4 hSo c6 c7 c8 hRr9 f9
    have f22 : Fs kd (fun r => r = 22) M M9 := Frm.fs f9 rfl
    have hR := hR.fs f22 (by decide) (fun i hi => by omega)
    have hF1 : F30 kd M M9 := f22.f30 (fun r h => by omega)
    obtain ⟨hO, hE8, hkp, hk3, hX0, hK, hS2, hS3, hS8, hRO⟩ := _root_.id hB
    obtain ⟨vt, ct, f0, cm, at9, nc, NN, vo, co, c1, hRr, c3, c4, hSo, c6, c7, c8⟩ := _root_.id hRO
    obtain ⟨hA, hNB, hSB, hTX, e60, hkA, hkN, hkb, hkv⟩ := _root_.id hRr
    obtain ⟨⟨ml, hBb⟩, hVv, en0, enN, hN9, hfb⟩ := _root_.id hSB
    refine v_istore_1 dX11_runScript_7 ?_
    refine v_iload_n dX11_runScript_8 rfl rfl ?_
    refine v_iconst (v := (-1)) dX11_runScript_9 (by decide) ?_
    refine v_icmp_eq (tgt := 40) dX11_runScript_10 (by decide) (fun h10 => ?_) (fun h10 => ?_)
    · refine v_aload_n dX11_runScript_40 rfl rfl ?_
      refine gf_X11_34 dX11_runScript_41 rfl hO ?_
      refine k_X11_372 dX11_runScript_44 rfl (c_countCommands htr hRr) hA (Nat.le_of_ble_eq_true rfl) (by omega) (by omega) (Nat.le_of_ble_eq_true rfl) (fun r44 M9 h9 => ?_) (fun _ _ h9 => h9.elim)
      obtain ⟨h91, e9⟩ := h9
      rw [h91, ← (scG_61 tn0 e60q hsc).2]
      subst M9
      obtain ⟨ad, sl, le, fg, tp, F, hC⟩ := _root_.id hX0
      refine v_istore_2 dX11_runScript_47 ?_
      refine v_aload_n dX11_runScript_48 rfl rfl ?_
      refine gf_X11_38 dX11_runScript_49 rfl hO ?_
      refine v_aload_n dX11_runScript_52 rfl rfl ?_
      refine gf_X11_20 dX11_runScript_53 rfl hO ?_
      obtain ⟨adT, slT, leT, cT, FT, hSC⟩ := _root_.id hS3
      refine k_X11_375 dX11_runScript_56 rfl (c_copySt htr hSC hC (by decide)) hSC.1 (Nat.le_of_ble_eq_true rfl) (by omega) (by omega) (Nat.le_of_ble_eq_true rfl) (fun M9 h9 => ?_) (fun _ _ h9 => h9.elim)
      obtain ⟨⟨F9, h91⟩, h92⟩ := h9
      have hX3 : StX kd 3 M9 (a 2) v := ⟨_, _, _, _, _, _, h91⟩
      have hB := hB.bs h92 hX3.s
      have f3 : Fs kd (fun r => r = 3) _ M9 := Frm.fs h92 rfl
      have hR := hR.fs f3 (by decide) (fun i hi => by omega)
      have hF2 := hF1.tr (Frm.f30 h92 (by decide))
      obtain ⟨hO, hE8, hkp, hk3, hX0, hK, hS2, hS3, hS8, hRO⟩ := _root_.id hB
      refine v_aload_n dX11_runScript_59 rfl rfl ?_
      refine v_iload_n dX11_runScript_60 rfl rfl ?_
      refine k_X11_378 dX11_runScript_61 rfl (c_runCommands htr hB hsc h4) hO (Nat.le_of_ble_eq_true rfl) (by omega) (by omega) (Nat.le_of_ble_eq_true rfl) (fun r61 M9 h9 => ?_) (fun _ _ h9 => h9.elim)
      obtain ⟨h9, f9⟩ := h9
      have hX3 := hX3.tp (f9.tp (by decide))
      have hR := hR.fs f9 (by decide) (fun i hi => by omega)
      have hF3 := hF2.tr (f9.f30 (fun r h => by omega))
      rcases h9 with ⟨h91, v2, hr9, hB⟩ | ⟨k9, v2, hr9, h91, hB⟩
      · rw [h91]
        obtain ⟨hO, hE8, hkp, hk3, hX0, hK, hS2, hS3, hS8, hRO⟩ := _root_.id hB
        obtain ⟨vt, ct, f0, cm, at9, nc, NN, vo, co, c1, hRr, c3, c4, hSo, c6, c7, c8⟩ := _root_.id hRO
        obtain ⟨hA, hNB, hSB, hTX, e60, hkA, hkN, hkb, hkv⟩ := _root_.id hRr
        obtain ⟨⟨ml, hBb⟩, hVv, en0, enN, hN9, hfb⟩ := _root_.id hSB
        refine v_istore_3 dX11_runScript_64 ?_
        refine v_aload_n dX11_runScript_65 rfl rfl ?_
        refine gf_X11_34 dX11_runScript_66 rfl hO ?_
        refine gf_X11_359 dX11_runScript_69 rfl hA ?_
        refine v_iconst (v := 0) dX11_runScript_72 (by decide) ?_
        refine k_X11_332 dX11_runScript_73 rfl (c_setL htr hSB) hBb (Nat.le_of_ble_eq_true rfl) (by omega) (by omega) (Nat.le_of_ble_eq_true rfl) (fun M9 h9 => ?_) (fun _ _ h9 => h9.elim)
        obtain ⟨h91, hF9⟩ := h9
        obtain ⟨hB, hT9⟩ := hB.txt c1 hRr c3 c4 hSo c6 c7 c8 (tx' := tx) c1 h91 (fun j j0 j1 => absurd j1 (Int32.not_lt.mpr j0)) (by decide) hF9 (Or.inl rfl)
        have hR := hR.tq hT9
        have hX3 := hX3.tp (hT9 3 (by decide) (by decide) (by decide))
        obtain ⟨hO, hE8, hkp, hk3, hX0, hK, hS2, hS3, hS8, hRO⟩ := _root_.id hB
        refine v_iload_n dX11_runScript_76 rfl rfl ?_
        refine v_iconst (v := (-1)) dX11_runScript_77 (by decide) ?_
        refine v_icmp_eq (tgt := 108) dX11_runScript_78 (by decide) (fun h78 => ?_) (fun h78 => ?_)
        · refine v_aload_n dX11_runScript_108 rfl rfl ?_
          refine v_aload_n dX11_runScript_109 rfl rfl ?_
          refine gf_X11_38 dX11_runScript_110 rfl hO ?_
          refine k_X11_63 dX11_runScript_113 rfl (c_remember htr hB hR hX3 (by decide)) hO (Nat.le_of_ble_eq_true rfl) (by omega) (by omega) (Nat.le_of_ble_eq_true rfl) (fun M9 h9 => ?_) (fun _ _ h9 => h9.elim)
          obtain ⟨pa1, hPa, hP, hF5⟩ := h9
          refine v_iload_n dX11_runScript_116 rfl rfl ?_
          exact v_iret dX11_runScript_117 rfl ⟨cs, v2, hsc, hr9, rfl, _, pa1, hPa, hP, hF3.t.tr (hT9.t.tr hF5.t)⟩ (by omega) (by omega)
        · exact absurd rfl h78
      · rw [h91]
        have kn9 : 0 ≤ nI k9 := nI_pos' (by have z := rnB_lt _ _ _ hr9; have := (scG_61 tn0 e60q hsc).1; omega)
        obtain ⟨hO, hE8, hkp, hk3, hX0, hK, hS2, hS3, hS8, hRO⟩ := _root_.id hB
        obtain ⟨vt, ct, f0, cm, at9, nc, NN, vo, co, c1, hRr, c3, c4, hSo, c6, c7, c8⟩ := _root_.id hRO
        obtain ⟨hA, hNB, hSB, hTX, e60, hkA, hkN, hkb, hkv⟩ := _root_.id hRr
        obtain ⟨⟨ml, hBb⟩, hVv, en0, enN, hN9, hfb⟩ := _root_.id hSB
        refine v_istore_3 dX11_runScript_64 ?_
        refine v_aload_n dX11_runScript_65 rfl rfl ?_
        refine gf_X11_34 dX11_runScript_66 rfl hO ?_
        refine gf_X11_359 dX11_runScript_69 rfl hA ?_
        refine v_iconst (v := 0) dX11_runScript_72 (by decide) ?_
        refine k_X11_332 dX11_runScript_73 rfl (c_setL htr hSB) hBb (Nat.le_of_ble_eq_true rfl) (by omega) (by omega) (Nat.le_of_ble_eq_true rfl) (fun M9 h9 => ?_) (fun _ _ h9 => h9.elim)
        obtain ⟨h91, hF9⟩ := h9
        obtain ⟨hB, hT9⟩ := hB.txt c1 hRr c3 c4 hSo c6 c7 c8 (tx' := tx) c1 h91 (fun j j0 j1 => absurd j1 (Int32.not_lt.mpr j0)) (by decide) hF9 (Or.inl rfl)
        have hR := hR.tq hT9
        have hX3 := hX3.tp (hT9 3 (by decide) (by decide) (by decide))
        obtain ⟨hO, hE8, hkp, hk3, hX0, hK, hS2, hS3, hS8, hRO⟩ := _root_.id hB
        refine v_iload_n dX11_runScript_76 rfl rfl ?_
        refine v_iconst (v := (-1)) dX11_runScript_77 (by decide) ?_
        refine v_icmp_eq (tgt := 108) dX11_runScript_78 (by decide) (fun h78 => ?_) (fun h78 => ?_)
        · exact absurd h78 (fun z => by have q := kn9; rw [z] at q; exact absurd q (by decide))
        · obtain ⟨adS, slS, leS, fgS, tpS, FS, hSR3⟩ := _root_.id hX3
          obtain ⟨ad1, sl1, le1, cT1, FT1, hSC1⟩ := hX0.s
          refine v_aload_n dX11_runScript_81 rfl rfl ?_
          refine gf_X11_20 dX11_runScript_82 rfl hO ?_
          refine v_aload_n dX11_runScript_85 rfl rfl ?_
          refine gf_X11_38 dX11_runScript_86 rfl hO ?_
          refine k_X11_375 dX11_runScript_89 rfl (c_copySt htr hSC1 hSR3 (by decide)) hSC1.1 (Nat.le_of_ble_eq_true rfl) (by omega) (by omega) (Nat.le_of_ble_eq_true rfl) (fun M9 h9 => ?_) (fun _ _ h9 => h9.elim)
          obtain ⟨⟨F9, h91⟩, h92⟩ := h9
          have hB := hB.cp h92 ⟨_, _, _, _, _, _, h91⟩
          have hR := hR.fs (Frm.fs (S := fun r => r = 1) h92 rfl) (by decide) (fun i hi => by omega)
          have hF5 := Frm.f30 h92 (by decide)
          obtain ⟨hO, hE8, hkp, hk3, hX0, hK, hS2, hS3, hS8, hRO⟩ := _root_.id hB
          refine v_aload_n dX11_runScript_92 rfl rfl ?_
          refine v_iload_n dX11_runScript_93 rfl rfl ?_
          refine pf_X11_45 dX11_runScript_94 rfl hO ?_
          refine V.pgb (PgB.own hB) (up21 hkp Fs.rf) (fun M1 hB hF => ?_)
          exact th_X11_362_381 dX11_runScript_97 dX11_runScript_100 dX11_runScript_101 dX11_runScript_104 dX11_runScript_107 rfl (Nat.le_of_ble_eq_true rfl) (Or.inr ⟨cs, k9, hsc, hr9, rfl, _, ⟨_, _, hB, hR.fs hF (by decide) (fun i hi => by omega)⟩, hF3.t.tr (hT9.t.tr (hF5.t.tr (hF.f30 (fun r h => by omega)).t))⟩) (by omega) (by omega)
    · exact absurd rfl h10
