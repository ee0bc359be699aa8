/-! ===== the face: what allocates ===== -/
section VAP
variable {l : Launch} {g : Nat → Nat} {y : MethodName} {cc : ByteArray} {rt : Option FieldType} {tb : List ExceptionTableEntry} {L mc ms : Nat} {Po : Res → LH → Prop} {X : CX} {M : LH} {k n pc : Nat} {ls : List (Option Value)} {rest : List Value}
theorem ap_c {b v v0 c k0 n0 : Nat} {Ls : List Int32} {x : Int32} {M0 : LH} (htr : l.stackTraces = false) (hd : decode cc pc = .ok (.invokevirtual 339, 3)) (ho : y.cls = "SledgePost") (hS : SbC M b v c Ls) (hT : BT b v0 M0 M v) (hb0 : ¬ M0 b = none) (hl : Ls.length + 1 ≤ 142) (hx0 : 0 ≤ x) (hx1 : x < 128) (hL : 5 ≤ L) (hmc : 3 + k0 ≤ mc) (hms : 246 + n0 ≤ ms) (hrs : (rest.map fun v => v.category).sum ≤ 8)
    (kk : ∀ (M9 : LH) (v' c' : Nat), SbC M9 b v' c' (Ls ++ [x]) → BT b v0 M0 M9 v' → V l g y cc rt tb L mc ms Po X (M9) (c' + k0) (ssc c' + n0) (pc + 3) (ls) (.ref b :: rest)) : V l g y cc rt tb L mc ms Po X (M) (c + k0) (ssc c + n0) (pc) (ls) (.int x :: .ref b :: rest) := by
  obtain ⟨hc3, ⟨f, hSb, hTl⟩, hlc⟩ := hS
  obtain ⟨b1, b2, b3, b4⟩ := cpc_b c hc3
  have hnb := hSb.nb
  have hrc := hSb.1
  obtain ⟨ml, hrc⟩ := hrc
  have e1 : nI Ls.length + 1 = nI (Ls.length + 1) := nI_1 _
  have fin : ∀ (c' : Nat), c' ≤ 3 → gN (nI (cpc c)) (nI (Ls.length + 1)) = nI (cpc c') → Ls.length + 1 ≤ cpc c' → c + gc (nI (cpc c)) (nI (Ls.length + 1)) = c' → ssc c + gs (nI (cpc c)) (nI (Ls.length + 1)) = ssc c' → V l g y cc rt tb L mc ms Po X (M) (c + k0) (ssc c + n0) (pc) (ls) (.int x :: .ref b :: rest) := by
    intro c' hc' g1 g2 g3 g4
    have s3 : ∀ c, c ≤ 3 → ssc c ≤ 246 := by decide
    have s4 := s3 c' hc'
    refine k_X11_339 hd ho (c_appC htr hSb hx0 hx1 b4) hrc hL (by rw [e1]; omega) (by rw [e1]; omega) hrs (fun r M9 h9 => ?_) (fun _ _ h9 => h9.elim)
    obtain ⟨rfl, v', f', hS9, hk9, hx9, hF9, hv9⟩ := h9
    rw [e1] at hS9 ⊢
    rw [g1] at hS9
    rw [show c + k0 + gc (nI (cpc c)) (nI (Ls.length + 1)) = c' + k0 by omega, show ssc c + n0 + gs (nI (cpc c)) (nI (Ls.length + 1)) = ssc c' + n0 by omega]
    refine kk M9 v' c' ⟨hc', ⟨f', by rw [List.length_append]; exact hS9, hTl.app (by omega) hk9 (fun i hi => ?_)⟩, by rw [List.length_append]; exact g2⟩ (hT.go hb0 hnb hF9 hv9)
    obtain rfl : i = 0 := by have : i < 1 := hi; omega
    exact hx9
  by_cases h : Ls.length + 1 ≤ cpc c
  · obtain ⟨a1, a2, a3⟩ := cpc_no hc3 h
    exact fin c hc3 a1 h (by rw [a2, Nat.add_zero]) (by rw [a3, Nat.add_zero])
  · have hc2 : c ≤ 2 := by
      rcases (by omega : c = 3 ∨ c ≤ 2) with e | e
      · rw [e] at h
        exact absurd (show Ls.length + 1 ≤ 142 by omega) h
      · exact e
    obtain ⟨a1, a2, a3⟩ := cpc_yes hc2 (by omega : cpc c < Ls.length + 1) (by omega)
    obtain ⟨d1, d2, d3, d4⟩ := cpc_g c hc2
    exact fin (c + 1) (by omega) a1 (by omega) (by rw [a2]) (by rw [a3]; exact d3)
theorem ap_i {b v v0 c k0 n0 : Nat} {Ls : List Int32} {z : Nat} {M0 : LH} (htr : l.stackTraces = false) (hd : decode cc pc = .ok (.invokevirtual 335, 3)) (ho : y.cls = "SledgePost") (hS : SbC M b v c Ls) (hT : BT b v0 M0 M v) (hb0 : ¬ M0 b = none) (hl : Ls.length + 6 ≤ 142) (hz : z < 1000000) (hL : 5 ≤ L) (hmc : 3 + k0 ≤ mc) (hms : 246 + n0 ≤ ms) (hrs : (rest.map fun v => v.category).sum ≤ 8)
    (kk : ∀ (M9 : LH) (v' c' : Nat), SbC M9 b v' c' (Ls ++ num (nI z)) → BT b v0 M0 M9 v' → V l g y cc rt tb L mc ms Po X (M9) (c' + k0) (ssc c' + n0) (pc + 3) (ls) (.ref b :: rest)) : V l g y cc rt tb L mc ms Po X (M) (c + k0) (ssc c + n0) (pc) (ls) (.int (nI z) :: .ref b :: rest) := by
  obtain ⟨hc3, ⟨f, hSb, hTl⟩, hlc⟩ := hS
  obtain ⟨b1, b2, b3, b4⟩ := cpc_b c hc3
  have hnb := hSb.nb
  have hrc := hSb.1
  obtain ⟨ml, hrc⟩ := hrc
  obtain ⟨n1, n2⟩ := num_c hz
  have hk6 := dl6_le (n := z)
  have fin : ∀ (c' : Nat), c' ≤ 3 → gN (nI (cpc c)) (nI (Ls.length + dl6 z)) = nI (cpc c') → Ls.length + dl6 z ≤ cpc c' → c + gc (nI (cpc c)) (nI (Ls.length + dl6 z)) = c' → ssc c + gs (nI (cpc c)) (nI (Ls.length + dl6 z)) = ssc c' → V l g y cc rt tb L mc ms Po X (M) (c + k0) (ssc c + n0) (pc) (ls) (.int (nI z) :: .ref b :: rest) := by
    intro c' hc' g1 g2 g3 g4
    have s3 : ∀ c, c ≤ 3 → ssc c ≤ 246 := by decide
    have s4 := s3 c' hc'
    refine k_X11_335 hd ho (c_appI htr hSb hz (by omega) b3 b4) hrc hL (by omega) (by omega) hrs (fun r M9 h9 => ?_) (fun _ _ h9 => h9.elim)
    obtain ⟨rfl, v', f', hS9, hk9, hx9, hF9, hv9⟩ := h9
    rw [g1] at hS9
    rw [show c + k0 + gc (nI (cpc c)) (nI (Ls.length + dl6 z)) = c' + k0 by omega, show ssc c + n0 + gs (nI (cpc c)) (nI (Ls.length + dl6 z)) = ssc c' + n0 by omega]
    refine kk M9 v' c' ⟨hc', ⟨f', by rw [List.length_append, n2, n1]; exact hS9, hTl.app (by omega) hk9 (fun i hi => hx9 i (by rw [n2, n1] at hi; exact hi))⟩, by rw [List.length_append, n2, n1]; exact g2⟩ (hT.go hb0 hnb hF9 hv9)
  by_cases h : Ls.length + dl6 z ≤ cpc c
  · obtain ⟨a1, a2, a3⟩ := cpc_no hc3 h
    exact fin c hc3 a1 h (by rw [a2, Nat.add_zero]) (by rw [a3, Nat.add_zero])
  · have hc2 : c ≤ 2 := by
      rcases (by omega : c = 3 ∨ c ≤ 2) with e | e
      · rw [e] at h
        exact absurd (show Ls.length + dl6 z ≤ 142 by omega) h
      · exact e
    obtain ⟨a1, a2, a3⟩ := cpc_yes hc2 (by omega : cpc c < Ls.length + dl6 z) (by omega)
    obtain ⟨d1, d2, d3, d4⟩ := cpc_g c hc2
    exact fin (c + 1) (by omega) a1 (by omega) (by rw [a2]) (by rw [a3]; exact d3)
theorem ap_x {b v v0 c k0 n0 : Nat} {Ls : List Int32} {x : Int32} {M0 : LH} (htr : l.stackTraces = false) (hd : decode cc pc = .ok (.invokevirtual 335, 3)) (ho : y.cls = "SledgePost") (hS : SbC M b v c Ls) (hT : BT b v0 M0 M v) (hb0 : ¬ M0 b = none) (hl : Ls.length + 6 ≤ 142) (hx0 : 0 ≤ x) (hx1 : x < 1000000) (hL : 5 ≤ L) (hmc : 3 + k0 ≤ mc) (hms : 246 + n0 ≤ ms) (hrs : (rest.map fun v => v.category).sum ≤ 8)
    (kk : ∀ (M9 : LH) (v' c' : Nat), SbC M9 b v' c' (Ls ++ num x) → BT b v0 M0 M9 v' → V l g y cc rt tb L mc ms Po X (M9) (c' + k0) (ssc c' + n0) (pc + 3) (ls) (.ref b :: rest)) : V l g y cc rt tb L mc ms Po X (M) (c + k0) (ssc c + n0) (pc) (ls) (.int x :: .ref b :: rest) := by
  obtain ⟨z, hz, rfl⟩ : ∃ z, z < 1000000 ∧ x = nI z := ⟨x.toNatClampNeg, by have z := tc_lt hx0 hx1; have e : (1000000 : Int32).toNatClampNeg = 1000000 := rfl; omega, (tc_nI hx0).symm⟩
  exact ap_i htr hd ho hS hT hb0 hl hz hL hmc hms hrs kk
end VAP
/-- what stands in the other regions stays there -/
def TQ (kd kd' : Nat → Nat) (M M' : LH) : Prop := ∀ r, ¬ r = 0 → ¬ r = 23 → ¬ r = 24 → Tp kd kd' r M M'
/-- the same of the regions of the law -/
def T30 (kd kd' : Nat → Nat) (M M' : LH) : Prop := ∀ r, 30 ≤ r → Tp kd kd' r M M'
theorem TQ.t {kd kd' : Nat → Nat} {M M' : LH} (h : TQ kd kd' M M') : T30 kd kd' M M' := fun r hr => h r (by omega) (by omega) (by omega)
theorem F30.t {kd : Nat → Nat} {M M' : LH} (h : F30 kd M M') : T30 kd kd M M' := fun r hr x e hx hM => ⟨(h x (by omega)).trans hM, hx⟩
theorem T30.tr {k1 k2 k3 : Nat → Nat} {M1 M2 M3 : LH} (h : T30 k1 k2 M1 M2) (h2 : T30 k2 k3 M2 M3) : T30 k1 k3 M1 M3 := fun r hr => Tp.tr (h r hr) (h2 r hr)
def kz (kd : Nat → Nat) (v : Nat) : Nat → Nat := fun x => if x = v then 0 else kd x
section KZ
variable {kd : Nat → Nat} {M M' : LH} {b v v' : Nat}
theorem kz_ne (kv : kd v = 0) (hv : v' = v ∨ M v' = none) {x : Nat} {e : Ec} (hM : M x = some e) (hx : ¬ kd x = 0) : kz kd v' x = kd x := by
  refine if_neg (fun z => ?_)
  rcases hv with w | w
  · exact hx (by rw [z, w]; exact kv)
  · rw [← z, hM] at w
    simp at w
theorem kz_0 {x : Nat} (hx : kd x = 0) : kz kd v' x = 0 := by
  unfold kz
  split
  · rfl
  · exact hx
theorem kz_tq (kb : kd b = 23 ∨ kd b = 24) (kv : kd v = 0) (hF : FB b v M M') (hv : v' = v ∨ M v' = none) : TQ kd (kz kd v') M M' := fun r h0 h23 h24 x e hx hM => ⟨hF x e hM (fun z => by rw [← hx, z] at h23 h24; exact kb.elim h23 h24) (fun z => h0 (by rw [← hx, z]; exact kv)), (kz_ne kv hv hM (by rw [hx]; exact h0)).trans hx⟩
theorem FB.keep (kb : kd b = 23 ∨ kd b = 24) (kv : kd v = 0) (hF : FB b v M M') : TQ kd kd M M' := fun r h0 h23 h24 x e hx hM => ⟨hF x e hM (fun z => by rw [← hx, z] at h23 h24; exact kb.elim h23 h24) (fun z => h0 (by rw [← hx, z]; exact kv)), hx⟩
end KZ
section PGQ
variable {kd : Nat → Nat} {p : Nat} {q a : Nat → Nat} {e8 : Int32 → Nat} {hs old : Int32} {v : Int32 → Int32} {sv : Int32} {sa : Int32 → Int32} {ch : Int32} {pa tx : Int32 → Int32} {tn : Int32} {Ls : List Int32} {ea fl : Int32} {M M' : LH} {kd' : Nat → Nat} {tx' : Int32 → Int32} {tn' : Int32} {Ls' : List Int32}
theorem PgB.tq (h : PgB kd M p q a e8 hs old v ch tx tn Ls ea fl) (t : TQ kd kd' M M') (hR : RdO kd' M' a tx' tn' Ls') : PgB kd' M' p q a e8 hs old v ch tx' tn' Ls' ea fl := by
  obtain ⟨g1, g2, g3, g4, g5, g6, g7, g8, g9, g10⟩ := h
  have t21 := t 21 (by decide) (by decide) (by decide)
  exact ⟨(t21 _ _ g3 g1).1, (t21 _ _ g4 g2).1, (t21 _ _ g3 g1).2, (t21 _ _ g4 g2).2, g5.tp (t 1 (by decide) (by decide) (by decide)), g6.tp (t 20 (by decide) (by decide) (by decide)), g7.tp (t 2 (by decide) (by decide) (by decide)), g8.tp (t 3 (by decide) (by decide) (by decide)), fun i i0 i1 => by
    have z := tc_lt i0 i1
    have e : (8 : Int32).toNatClampNeg = 8 := rfl
    exact (g9 i i0 i1).tp (t _ (by omega) (by omega) (by omega)), hR⟩
theorem PgR.tq (h : PgR kd M a e8 hs old sv sa ch pa) (t : TQ kd kd' M M') : PgR kd' M' a e8 hs old sv sa ch pa := by
  obtain ⟨g1, g2, g3, g4, g5, g6, g7, g8⟩ := h
  refine ⟨g1, g2, fun z => (g3 z).tp (t 2 (by decide) (by decide) (by decide)), g4, g5, g6, g7, fun k k0 k1 => ?_⟩
  have e := md8_0 g4 g5 k0 (Int32.lt_of_lt_of_le k1 g7)
  have z := tc_lt e.1 e.2
  have e8 : (8 : Int32).toNatClampNeg = 8 := rfl
  exact (g8 k k0 k1).tp (t _ (by omega) (by omega) (by omega))
/-- the text builder has changed -/
theorem PgB.txt {vt ct : Nat} {f0 : Int32 → Int32} {cm : Nat} {at9 nc : Int32} {NN : Int32 → Int32} {vo co : Nat} (hB : PgB kd M p q a e8 hs old v ch tx tn Ls ea fl) (c1 : ct ≤ 3) (hRr : Rr kd 22 M (a 4) (a 5) vt (a 6) (nI (cpc ct)) tn tx f0 cm at9 nc NN) (c3 : kd (a 5) = 23) (c4 : kd vt = 0) (hSo : SbC M (a 7) vo co Ls) (c6 : kd (a 7) = 24) (c7 : kd vo = 0) (c8 : ¬ vt = vo) {v1 c' : Nat} {f' : Int32 → Int32} (hc' : c' ≤ 3) (hS : Sb M' (a 5) v1 (nI (cpc c')) tn' f') (hk : ∀ j, 0 ≤ j → j < tn' → f' j = tx' j) (h60 : tn' ≤ 60) (hF : FB (a 5) vt M M') (hv : v1 = vt ∨ M v1 = none) : PgB (kz kd v1) M' p q a e8 hs old v ch tx' tn' Ls ea fl ∧ TQ kd (kz kd v1) M M' := by
  have t := kz_tq (Or.inl c3) c4 hF hv
  refine ⟨hB.tq t ?_, t⟩
  obtain ⟨r0, r1, ⟨⟨ml, r2⟩, r3, r4⟩, r5, r6, r7, r8, r9, r10⟩ := hRr
  obtain ⟨s1, ⟨fo, ⟨⟨ml2, s2⟩, s3, s4⟩, s5⟩, s6⟩ := hSo
  have t22 := t 22 (by decide) (by decide) (by decide)
  have kb : kz kd v1 (a 5) = 23 := (kz_ne c4 hv r2 (by rw [c3]; decide)).trans c3
  have kv1 : kz kd v1 v1 = 0 := if_pos rfl
  refine ⟨v1, c', f', cm, at9, nc, NN, vo, co, hc', ⟨(t22 _ _ r7 r0).1, (t22 _ _ r8 r1).1, hS, hk, h60, (t22 _ _ r7 r0).2, (t22 _ _ r8 r1).2, by rw [kb]; decide, by rw [kv1]; decide⟩, kb, kv1, ⟨s1, ⟨fo, ⟨⟨ml2, hF _ _ s2 (fun z => by rw [z, c3] at c6; exact absurd c6 (by decide)) (fun z => by rw [z, c4] at c6; exact absurd c6 (by decide))⟩, hF _ _ s3 (fun z => by rw [z, c3] at c7; exact absurd c7 (by decide)) (fun z => c8 z.symm), s4⟩, s5⟩, s6⟩, (kz_ne c4 hv s2 (by rw [c6]; decide)).trans c6, kz_0 c7, fun z => ?_⟩
  rcases hv with w | w
  · exact c8 (w.symm.trans z)
  · rw [z, s3] at w
    simp at w
/-- the output builder has changed -/
theorem PgB.out {vt ct : Nat} {f0 : Int32 → Int32} {cm : Nat} {at9 nc : Int32} {NN : Int32 → Int32} {vo co : Nat} (hB : PgB kd M p q a e8 hs old v ch tx tn Ls ea fl) (c1 : ct ≤ 3) (hRr : Rr kd 22 M (a 4) (a 5) vt (a 6) (nI (cpc ct)) tn tx f0 cm at9 nc NN) (c3 : kd (a 5) = 23) (c4 : kd vt = 0) (hSo : SbC M (a 7) vo co Ls) (c6 : kd (a 7) = 24) (c7 : kd vo = 0) (c8 : ¬ vt = vo) {v1 c' : Nat} (hT : BT (a 7) vo M M' v1) (hS : SbC M' (a 7) v1 c' Ls') : PgB (kz kd v1) M' p q a e8 hs old v ch tx tn Ls' ea fl ∧ TQ kd (kz kd v1) M M' := by
  obtain ⟨hF, hv⟩ := hT
  have t := kz_tq (Or.inr c6) c7 hF hv
  refine ⟨hB.tq t ?_, t⟩
  obtain ⟨r0, r1, ⟨⟨ml, r2⟩, r3, r4⟩, r5, r6, r7, r8, r9, r10⟩ := hRr
  obtain ⟨s1, ⟨fo, ⟨⟨ml2, s2⟩, s3, s4⟩, s5⟩, s6⟩ := hSo
  have t22 := t 22 (by decide) (by decide) (by decide)
  have kb : kz kd v1 (a 5) = 23 := (kz_ne c7 hv r2 (by rw [c3]; decide)).trans c3
  have kvt : kz kd v1 vt = 0 := kz_0 c4
  refine ⟨vt, ct, f0, cm, at9, nc, NN, v1, c', c1, ⟨(t22 _ _ r7 r0).1, (t22 _ _ r8 r1).1, ⟨⟨ml, hF _ _ r2 (fun z => by rw [z, c6] at c3; exact absurd c3 (by decide)) (fun z => by rw [z, c7] at c3; exact absurd c3 (by decide))⟩, hF _ _ r3 (fun z => by rw [z, c6] at c4; exact absurd c4 (by decide)) c8, r4⟩, r5, r6, (t22 _ _ r7 r0).2, (t22 _ _ r8 r1).2, by rw [kb]; decide, by rw [kvt]; decide⟩, kb, kvt, hS, (kz_ne c7 hv s2 (by rw [c6]; decide)).trans c6, if_pos rfl, fun z => ?_⟩
  rcases hv with w | w
  · exact c8 (z.trans w)
  · rw [← z, r3] at w
    simp at w
end PGQ
theorem cpc_step {ct : Nat} {tn : Int32} (hc : ct ≤ 3) (t0 : 0 ≤ tn) (t6 : tn < 60) : ∃ c', c' ≤ 3 ∧ gN (nI (cpc ct)) (tn + 1) = nI (cpc c') ∧ gc (nI (cpc ct)) (tn + 1) ≤ 1 ∧ gs (nI (cpc ct)) (tn + 1) ≤ 142 := by
  obtain ⟨m, hm, rfl⟩ := nI_lm (n := 60) t0 t6 (by decide)
  rw [nI_1]
  by_cases h : m + 1 ≤ cpc ct
  · obtain ⟨a1, a2, a3⟩ := cpc_no hc h
    exact ⟨ct, hc, a1, by omega, by omega⟩
  · have hc2 : ct ≤ 2 := by
      rcases (by omega : ct = 3 ∨ ct ≤ 2) with e | e
      · rw [e] at h
        exact absurd (show m + 1 ≤ 142 by omega) h
      · exact e
    obtain ⟨a1, a2, a3⟩ := cpc_yes hc2 (by omega : cpc ct < m + 1) (by omega)
    have b := (cpc_b (ct + 1) (by omega)).1
    exact ⟨ct + 1, by omega, a1, by omega, by omega⟩
theorem dX11_type_0 : decode cX11_type 0 = .ok (.iload_n 1, 1) := by decide +kernel
theorem dX11_type_1 : decode cX11_type 1 = .ok (.bipush 32, 2) := by decide +kernel
theorem dX11_type_3 : decode cX11_type 3 = .ok (.if_icmp .lt 9, 3) := by decide +kernel
theorem dX11_type_6 : decode cX11_type 6 = .ok (.iload_n 1, 1) := by decide +kernel
theorem dX11_type_7 : decode cX11_type 7 = .ok (.bipush 126, 2) := by decide +kernel
theorem dX11_type_9 : decode cX11_type 9 = .ok (.if_icmp .le 14, 3) := by decide +kernel
theorem dX11_type_12 : decode cX11_type 12 = .ok (.new 285, 3) := by decide +kernel
theorem dX11_type_15 : decode cX11_type 15 = .ok (.dup, 1) := by decide +kernel
theorem dX11_type_16 : decode cX11_type 16 = .ok (.ldc_w 357, 3) := by decide +kernel
theorem dX11_type_19 : decode cX11_type 19 = .ok (.invokespecial 289, 3) := by decide +kernel
theorem dX11_type_22 : decode cX11_type 22 = .ok (.athrow, 1) := by decide +kernel
theorem dX11_type_23 : decode cX11_type 23 = .ok (.aload_n 0, 1) := by decide +kernel
theorem dX11_type_24 : decode cX11_type 24 = .ok (.getfield 34, 3) := by decide +kernel
theorem dX11_type_27 : decode cX11_type 27 = .ok (.getfield 359, 3) := by decide +kernel
theorem dX11_type_30 : decode cX11_type 30 = .ok (.invokevirtual 342, 3) := by decide +kernel
theorem dX11_type_33 : decode cX11_type 33 = .ok (.bipush 60, 2) := by decide +kernel
theorem dX11_type_35 : decode cX11_type 35 = .ok (.if_icmp .lt 14, 3) := by decide +kernel
theorem dX11_type_38 : decode cX11_type 38 = .ok (.new 362, 3) := by decide +kernel
theorem dX11_type_41 : decode cX11_type 41 = .ok (.dup, 1) := by decide +kernel
theorem dX11_type_42 : decode cX11_type 42 = .ok (.ldc_w 364, 3) := by decide +kernel
theorem dX11_type_45 : decode cX11_type 45 = .ok (.invokespecial 366, 3) := by decide +kernel
theorem dX11_type_48 : decode cX11_type 48 = .ok (.athrow, 1) := by decide +kernel
theorem dX11_type_49 : decode cX11_type 49 = .ok (.aload_n 0, 1) := by decide +kernel
theorem dX11_type_50 : decode cX11_type 50 = .ok (.getfield 34, 3) := by decide +kernel
theorem dX11_type_53 : decode cX11_type 53 = .ok (.getfield 359, 3) := by decide +kernel
theorem dX11_type_56 : decode cX11_type 56 = .ok (.iload_n 1, 1) := by decide +kernel
theorem dX11_type_57 : decode cX11_type 57 = .ok (.invokevirtual 339, 3) := by decide +kernel
theorem dX11_type_60 : decode cX11_type 60 = .ok (.pop, 1) := by decide +kernel
theorem dX11_type_61 : decode cX11_type 61 = .ok (.aload_n 0, 1) := by decide +kernel
theorem dX11_type_62 : decode cX11_type 62 = .ok (.getfield 34, 3) := by decide +kernel
theorem dX11_type_65 : decode cX11_type 65 = .ok (.getfield 359, 3) := by decide +kernel
theorem dX11_type_68 : decode cX11_type 68 = .ok (.invokevirtual 342, 3) := by decide +kernel
theorem dX11_type_71 : decode cX11_type 71 = .ok (.ireturn, 1) := by decide +kernel
set_option maxRecDepth 100000 in
set_option maxHeartbeats 4000000 in
theorem f_type {l : Launch} {g : Nat → Nat} {M : LH} (htr : l.stackTraces = false) {kd : Nat → Nat} {p : Nat} {q a : Nat → Nat} {e8 : Int32 → Nat} {v : Int32 → Int32} {sv : Int32} {sa : Int32 → Int32} {ch : Int32} {pa tx : Int32 → Int32} {tn : Int32} {Ls : List Int32} {ea fl : Int32} (hP : Pg kd M p q a e8 v sv sa ch pa tx tn Ls ea fl) (c : Int32) : K_X11_type l g 5 3 160 [.ref p, .int c] M (RI (fun x M9 => (32 ≤ c ∧ c ≤ 126) ∧ ¬ tn = 60 ∧ x = tn + 1 ∧ ∃ kd', Pg kd' M9 p q a e8 v sv sa ch pa (ui tx tn c) (tn + 1) Ls ea fl ∧ T30 kd kd' M M9) (fun E M9 => ((¬ (32 ≤ c ∧ c ≤ 126) ∧ E = exV 2) ∨ ((32 ≤ c ∧ c ≤ 126) ∧ tn = 60 ∧ E = exV 4)) ∧ Pg kd M9 p q a e8 v sv sa ch pa tx tn Ls ea fl ∧ F30 kd M M9)) := by
  refine Ko_X11_type htr (fun X => ?_)
  obtain ⟨hs, old, hB, hR⟩ := _root_.id hP
  obtain ⟨hO, hE8, hkp, hk3, ⟨ad, sl, le, fg, tp, F, hC⟩, hK, hS2, hS3, hS8, hRO⟩ := _root_.id hB
  obtain ⟨vt, ct, f0, cm, at9, nc, NN, vo, co, c1, hRr, c3, c4, hSo, c6, c7, c8⟩ := _root_.id hRO
  obtain ⟨hA, hNB, hSB, hTX, e60, hkA, hkN, hkb, hkv⟩ := _root_.id hRr
  obtain ⟨⟨ml, hBb⟩, hVv, en0, enN, hN9, hfb⟩ := _root_.id hSB
  refine v_iload_n dX11_type_0 rfl rfl ?_
  refine v_bipush (v := (32)) dX11_type_1 (by decide) ?_
  refine v_icmp_lt (tgt := 12) dX11_type_3 (by decide) (fun h3 => ?_) (fun h3 => ?_)
  · exact th_X11_285_357 dX11_type_12 dX11_type_15 dX11_type_16 dX11_type_19 dX11_type_22 rfl (Nat.le_of_ble_eq_true rfl) ⟨(by first | exact Or.inl ⟨fun z => absurd z.1 (Int32.not_le.mpr h3), rfl⟩ | exact Or.inl ⟨fun z => h9q z.2, rfl⟩ | exact Or.inr ⟨⟨Int32.not_lt.mp h3, h9q⟩, (by clear hB hP hR hC hK hS2 hS3 hS8 hRO hRr hSo hTX hfb; lia), rfl⟩), hP, F30.rf⟩ (by omega) (by omega)
  · refine v_iload_n dX11_type_6 rfl rfl ?_
    refine v_bipush (v := (126)) dX11_type_7 (by decide) ?_
    refine v_icmp_le (tgt := 23) dX11_type_9 (by decide) (fun h9q => ?_) (fun h9q => ?_)
    · refine v_aload_n dX11_type_23 rfl rfl ?_
      refine gf_X11_34 dX11_type_24 rfl hO ?_
      refine gf_X11_359 dX11_type_27 rfl hA ?_
      refine k_X11_342 dX11_type_30 rfl (c_len4 htr hSB) hBb (Nat.le_of_ble_eq_true rfl) (by omega) (by omega) (Nat.le_of_ble_eq_true rfl) (fun r30 M9 h9 => ?_) (fun _ _ h9 => h9.elim)
      obtain ⟨h91, e9⟩ := h9
      rw [h91]
      subst M9
      refine v_bipush (v := (60)) dX11_type_33 (by decide) ?_
      refine v_icmp_lt (tgt := 49) dX11_type_35 (by decide) (fun h35 => ?_) (fun h35 => ?_)
      · have k32 : 32 ≤ c := Int32.not_lt.mp h3
        have t60 : tn < 60 := h35
        have cb4 := (cpc_b ct c1).2.2.2
        obtain ⟨c', g0, g1, g2, g3⟩ := cpc_step c1 en0 t60
        refine v_aload_n dX11_type_49 rfl rfl ?_
        refine gf_X11_34 dX11_type_50 rfl hO ?_
        refine gf_X11_359 dX11_type_53 rfl hA ?_
        refine v_iload_n dX11_type_56 rfl rfl ?_
        refine k_X11_339 dX11_type_57 rfl (c_appC htr hSB (Int32.le_trans (by decide) k32) (Int32.lt_of_le_of_lt h9q (by decide)) cb4) hBb (Nat.le_of_ble_eq_true rfl) (by omega) (by omega) (Nat.le_of_ble_eq_true rfl) (fun r57 M9 h9 => ?_) (fun _ _ h9 => h9.elim)
        obtain ⟨rfl, v1, f1, hS1, hk1, hx1, hF1, hv1⟩ := h9
        rw [g1] at hS1
        obtain ⟨hB, hT9⟩ := hB.txt c1 hRr c3 c4 hSo c6 c7 c8 (tx' := ui tx tn c) g0 hS1 (fun j j0 j1 => by
          by_cases e : j = tn
          · rw [e, hx1, ui_s]
          · have j2 : j < tn := by clear hB hP hR hC hK hS2 hS3 hS8 hRO hRr hSo hTX hfb hk1; lia
            rw [ui_n e, hk1 j j0 j2, hTX j j0 j2]) (by clear hB hP hR hC hK hS2 hS3 hS8 hRO hRr hSo hTX hfb hk1; lia) hF1 hv1
        have hR := hR.tq hT9
        obtain ⟨hO, hE8, hkp, hk3, -, -, -, -, -, hRO⟩ := _root_.id hB
        obtain ⟨vt, ct, f0, cm, at9, nc, NN, vo, co, c1, hRr, c3, c4, hSo, c6, c7, c8⟩ := _root_.id hRO
        obtain ⟨hA, hNB, hSB, hTX, e60, hkA, hkN, hkb, hkv⟩ := _root_.id hRr
        obtain ⟨⟨ml, hBb⟩, hVv, en0, enN, hN9, hfb⟩ := _root_.id hSB
        refine v_pop dX11_type_60 rfl ?_
        refine v_aload_n dX11_type_61 rfl rfl ?_
        refine gf_X11_34 dX11_type_62 rfl hO ?_
        refine gf_X11_359 dX11_type_65 rfl hA ?_
        refine k_X11_342 dX11_type_68 rfl (c_len4 htr hSB) hBb (Nat.le_of_ble_eq_true rfl) (by omega) (by omega) (Nat.le_of_ble_eq_true rfl) (fun r68 M9 h9 => ?_) (fun _ _ h9 => h9.elim)
        obtain ⟨h91, e9⟩ := h9
        rw [h91]
        subst M9
        exact v_iret dX11_type_71 rfl ⟨⟨k32, h9q⟩, (fun z => by rw [z] at t60; exact absurd t60 (by decide)), rfl, _, ⟨_, _, hB, hR⟩, hT9.t⟩ (by omega) (by omega)
      · exact th_X11_362_364 dX11_type_38 dX11_type_41 dX11_type_42 dX11_type_45 dX11_type_48 rfl (Nat.le_of_ble_eq_true rfl) ⟨(by first | exact Or.inl ⟨fun z => absurd z.1 (Int32.not_le.mpr h3), rfl⟩ | exact Or.inl ⟨fun z => h9q z.2, rfl⟩ | exact Or.inr ⟨⟨Int32.not_lt.mp h3, h9q⟩, (by clear hB hP hR hC hK hS2 hS3 hS8 hRO hRr hSo hTX hfb; lia), rfl⟩), hP, F30.rf⟩ (by omega) (by omega)
    · exact th_X11_285_357 dX11_type_12 dX11_type_15 dX11_type_16 dX11_type_19 dX11_type_22 rfl (Nat.le_of_ble_eq_true rfl) ⟨(by first | exact Or.inl ⟨fun z => absurd z.1 (Int32.not_le.mpr h3), rfl⟩ | exact Or.inl ⟨fun z => h9q z.2, rfl⟩ | exact Or.inr ⟨⟨Int32.not_lt.mp h3, h9q⟩, (by clear hB hP hR hC hK hS2 hS3 hS8 hRO hRr hSo hTX hfb; lia), rfl⟩), hP, F30.rf⟩ (by omega) (by omega)
