/-! ===== the face: an earlier state is kept ===== -/
theorem md8_A : ∀ o, o < 8 → ∀ k, k < 7 → md8 (md8 (nI o + 1) + nI k) = md8 (nI o + (nI k + 1)) ∧ ¬ md8 (md8 (nI o + 1) + nI k) = md8 (md8 (nI o + 1) + 7) := by decide +kernel
theorem md8_B : ∀ o, o < 8 → ∀ c, c < 8 → ∀ k, k < c → ¬ md8 (nI o + nI k) = md8 (nI o + nI c) := by decide +kernel
theorem nI_lm {x : Int32} {n : Nat} (h0 : 0 ≤ x) (h1 : x < nI n) (hn : n < 1000) : ∃ m, m < n ∧ x = nI m := by
  have q := tc_lt h0 h1
  rw [nI_clamp (by omega)] at q
  exact ⟨_, q, (tc_nI h0).symm⟩
theorem md8_ne {x y : Int32} (hx : 0 ≤ x) (hy : 0 ≤ y) (h : ¬ x = y) : ¬ 10 + x.toNatClampNeg = 10 + y.toNatClampNeg := fun z => h (by rw [← tc_nI hx, ← tc_nI hy, show x.toNatClampNeg = y.toNatClampNeg by omega])
theorem PaS_ex {ch : Int32} {pa b4 : Int32 → Int32} (h0 : 0 ≤ ch) (h8 : ch ≤ 8) : ∃ pa', PaS ch pa b4 pa' := ⟨_, PaS_of h0 h8 rfl⟩
/-- what the past must tell of a call's new past is one -/
theorem PaS.un {ch : Int32} {pa b4 p1 p2 : Int32 → Int32} (h0 : 0 ≤ ch) (h8 : ch ≤ 8) (h1 : PaS ch pa b4 p1) (h2 : PaS ch pa b4 p2) : ∀ k, 0 ≤ k → k < ((if ch = 8 then 7 else ch) + 1) → Ag (fun j => p1 (k * 150 + j)) (fun j => p2 (k * 150 + j)) := fun k k0 k1 j j0 j1 => by
  by_cases e : k < (if ch = 8 then 7 else ch)
  · exact (h1.1 k j k0 e j0 j1).trans (h2.1 k j k0 e j0 j1).symm
  · have e2 : k = (if ch = 8 then 7 else ch) := by
      clear h1 h2
      split at e <;> split at k1 <;> rename_i q1 q2 <;> first | rw [if_pos (by assumption)]; lia | rw [if_neg (by assumption)]; lia
    rw [e2]
    exact (h1.2 j j0 j1).trans (h2.2 j j0 j1).symm
theorem PgR.pa {kd : Nat → Nat} {M : LH} {a : Nat → Nat} {e8 : Int32 → Nat} {hs old sv : Int32} {sa : Int32 → Int32} {ch : Int32} {pa p2 : Int32 → Int32} (h : PgR kd M a e8 hs old sv sa ch pa) (e : ∀ k, 0 ≤ k → k < ch → Ag (fun j => pa (k * 150 + j)) (fun j => p2 (k * 150 + j))) : PgR kd M a e8 hs old sv sa ch p2 := by
  obtain ⟨g1, g2, g3, g4, g5, g6, g7, g8⟩ := h
  exact ⟨g1, g2, g3, g4, g5, g6, g7, fun k k0 k1 => (g8 k k0 k1).ext (e k k0 k1)⟩
theorem Pg.pa {kd : Nat → Nat} {p : Nat} {q a : Nat → Nat} {e8 : Int32 → Nat} {v : Int32 → Int32} {sv : Int32} {sa : Int32 → Int32} {ch : Int32} {pa tx : Int32 → Int32} {tn : Int32} {Ls : List Int32} {ea fl : Int32} {M : LH} {p2 : Int32 → Int32} (h : Pg kd M p q a e8 v sv sa ch pa tx tn Ls ea fl) (e : ∀ k, 0 ≤ k → k < ch → Ag (fun j => pa (k * 150 + j)) (fun j => p2 (k * 150 + j))) : Pg kd M p q a e8 v sv sa ch p2 tx tn Ls ea fl := by
  obtain ⟨h1, o1, b, r⟩ := h
  exact ⟨h1, o1, b, r.pa e⟩
/-- the object's own fields change -/
theorem PgB.own {kd : Nat → Nat} {p : Nat} {q a : Nat → Nat} {e8 : Int32 → Nat} {hs old : Int32} {v : Int32 → Int32} {ch : Int32} {tx : Int32 → Int32} {tn : Int32} {Ls : List Int32} {ea fl : Int32} {M : LH} (h : PgB kd M p q a e8 hs old v ch tx tn Ls ea fl) {hs' old' ch' ea' fl' : Int32} : PgB kd (hup M p (ob 9 [.ref (q 0), .ref (a 0), .ref (a 1), .int hs', .ref (a 3), .int old', .int ch', .ref (a 4), .ref (a 2), .int ea', .int fl', .ref (a 7)])) p q a e8 hs' old' v ch' tx tn Ls ea' fl' := by
  obtain ⟨g1, g2, g3, g4, g5, g6, g7, g8, g9, g10⟩ := h
  have f : Fs kd (fun r => r = 21) M (hup M p (ob 9 [.ref (q 0), .ref (a 0), .ref (a 1), .int hs', .ref (a 3), .int old', .int ch', .ref (a 4), .ref (a 2), .int ea', .int fl', .ref (a 7)])) := fun x hx => hup_n (fun z => hx (by rw [z]; exact g3))
  exact ⟨hup_s, (hup_n (ne_of_cell g2 g1 (fun z => nomatch z))).trans g2, g3, g4, g5.tp (f.tp (by decide)), g6.tp (f.tp (by decide)), g7.tp (f.tp (by decide)), g8.tp (f.tp (by decide)), fun i i0 i1 => (g9 i i0 i1).tp (f.tp (by have := tc_lt i0 i1; have e : (8 : Int32).toNatClampNeg = 8 := rfl; omega)), g10.fs f (by decide) (by decide) (by decide) (by decide)⟩
/-- one of the earlier states changes -/
theorem PgB.er {kd : Nat → Nat} {p : Nat} {q a : Nat → Nat} {e8 : Int32 → Nat} {hs old : Int32} {v : Int32 → Int32} {ch : Int32} {tx : Int32 → Int32} {tn : Int32} {Ls : List Int32} {ea fl : Int32} {M M' : LH} (h : PgB kd M p q a e8 hs old v ch tx tn Ls ea fl) {i : Int32} (i0 : 0 ≤ i) (i8 : i < 8) (f : Frm kd (10 + i.toNatClampNeg) M M') (hX : StS kd (10 + i.toNatClampNeg) M' (e8 i)) : PgB kd M' p q a e8 hs old v ch tx tn Ls ea fl := by
  obtain ⟨g1, g2, g3, g4, g5, g6, g7, g8, g9, g10⟩ := h
  have hi : i.toNatClampNeg < 8 := tc_lt i0 i8
  have f2 : Fs kd (fun r => r = 10 + i.toNatClampNeg) M M' := Frm.fs f rfl
  refine ⟨(f2 _ (by rw [g3]; omega)).trans g1, (f2 _ (by rw [g4]; omega)).trans g2, g3, g4, g5.tp (f2.tp (by omega)), g6.tp (f2.tp (by omega)), g7.tp (f2.tp (by omega)), g8.tp (f2.tp (by omega)), fun j j0 j1 => ?_, g10.fs f2 (by omega) (by omega) (by omega) (by omega)⟩
  by_cases e : j = i
  · rw [e]; exact hX
  · exact (g9 j j0 j1).tp (f2.tp (md8_ne j0 i0 e))
/-- the ring behind a call -/
theorem md8_0 {x k : Int32} (x0 : 0 ≤ x) (x8 : x < 8) (k0 : 0 ≤ k) (k8 : k < 8) : 0 ≤ md8 (x + k) ∧ md8 (x + k) < 8 := (md8_v (by lia) (by lia)).2
theorem rg8 {o2 k : Int32} (o0 : 0 ≤ o2) (o8 : o2 < 8) (k0 : 0 ≤ k) (k8 : k < 8) : ¬ 10 + (md8 (o2 + k)).toNatClampNeg = 21 := by
  obtain ⟨a, b⟩ := md8_0 o0 o8 k0 k8
  have z := tc_lt a b
  have e : (8 : Int32).toNatClampNeg = 8 := rfl
  omega
theorem lt8 {k c : Int32} (c0 : 0 ≤ c) (c8 : c < 8) (h : k < c + 1) : k < 8 := by lia
theorem ring_put {kd : Nat → Nat} {M M' : LH} {e8 : Int32 → Nat} {o2 c2 : Int32} {pa' σ : Int32 → Int32} (o0 : 0 ≤ o2) (o8 : o2 < 8) (c0 : 0 ≤ c2) (c8 : c2 < 8)
    (hk : ∀ k, 0 ≤ k → k < c2 → StX kd (10 + (md8 (o2 + k)).toNatClampNeg) M (e8 (md8 (o2 + k))) (fun j => pa' (k * 150 + j)))
    (f : Frm kd (10 + (md8 (o2 + c2)).toNatClampNeg) M M') (hX : StX kd (10 + (md8 (o2 + c2)).toNatClampNeg) M' (e8 (md8 (o2 + c2))) σ) (hl : ∀ j, 0 ≤ j → j < 150 → pa' (c2 * 150 + j) = σ j) :
    ∀ k, 0 ≤ k → k < c2 + 1 → StX kd (10 + (md8 (o2 + k)).toNatClampNeg) M' (e8 (md8 (o2 + k))) (fun j => pa' (k * 150 + j)) := by
  intro k k0 k1
  by_cases e : k = c2
  · rw [e]
    exact hX.ext (fun j j0 j1 => (hl j j0 j1).symm)
  · have k2 : k < c2 := by clear hk hX hl; lia
    have f2 : Fs kd (fun r => r = 10 + (md8 (o2 + c2)).toNatClampNeg) M M' := Frm.fs f rfl
    refine (hk k k0 k2).tp (f2.tp (md8_ne (md8_0 o0 o8 k0 (Int32.lt_trans k2 c8)).1 (md8_0 o0 o8 c0 c8).1 ?_))
    obtain ⟨oN, q1, rfl⟩ := nI_lm (n := 8) o0 o8 (by decide)
    obtain ⟨cN, q2, rfl⟩ := nI_lm (n := 8) c0 c8 (by decide)
    obtain ⟨kN, q3, rfl⟩ := nI_lm (n := cN) k0 k2 (by omega)
    exact md8_B oN q1 cN q2 kN q3
theorem ring_a {kd : Nat → Nat} {M : LH} {e8 : Int32 → Nat} {old : Int32} {pa pa' σ : Int32 → Int32} (o0 : 0 ≤ old) (o8 : old < 8) (hP : PaS 8 pa σ pa')
    (h : ∀ k, 0 ≤ k → k < 8 → StX kd (10 + (md8 (old + k)).toNatClampNeg) M (e8 (md8 (old + k))) (fun j => pa (k * 150 + j))) :
    ∀ k, 0 ≤ k → k < 7 → StX kd (10 + (md8 (md8 (old + 1) + k)).toNatClampNeg) M (e8 (md8 (md8 (old + 1) + k))) (fun j => pa' (k * 150 + j)) := by
  intro k k0 k1
  have z := (h (k + 1) (by clear h hP; lia) (by clear h hP; lia)).ext (τ := fun j => pa' (k * 150 + j)) (fun j j0 j1 => (hP.1 k j k0 k1 j0 j1).symm)
  obtain ⟨oN, q1, rfl⟩ := nI_lm (n := 8) o0 o8 (by decide)
  obtain ⟨kN, q3, rfl⟩ := nI_lm (n := 7) k0 k1 (by decide)
  rw [(md8_A oN q1 kN q3).1]
  exact z
section VPG
variable {l : Launch} {g : Nat → Nat} {y : MethodName} {cc : ByteArray} {rt : Option FieldType} {tb : List ExceptionTableEntry} {L mc ms : Nat} {Po : Res → LH → Prop} {X : CX} {M : LH} {k n pc : Nat} {ls : List (Option Value)} {rest : List Value}
theorem V.pgb {kd : Nat → Nat} {p : Nat} {q a : Nat → Nat} {e8 : Int32 → Nat} {hs old : Int32} {v : Int32 → Int32} {ch : Int32} {tx : Int32 → Int32} {tn : Int32} {Ls : List Int32} {ea fl : Int32} {M0 : LH} (hB : PgB kd M p q a e8 hs old v ch tx tn Ls ea fl) (hF : Fs kd (fun r => r = 21) M0 M) (H : ∀ M1 : LH, PgB kd M1 p q a e8 hs old v ch tx tn Ls ea fl → Fs kd (fun r => r = 21) M0 M1 → V l g y cc rt tb L mc ms Po X (M1) (k) (n) (pc) (ls) (rest)) : V l g y cc rt tb L mc ms Po X (M) (k) (n) (pc) (ls) (rest) := H M hB hF
end VPG
theorem up21 {kd : Nat → Nat} {M0 M : LH} {p : Nat} {e : Ec} (h : kd p = 21) (hF : Fs kd (fun r => r = 21) M0 M) : Fs kd (fun r => r = 21) M0 (hup M p e) := hF.tr (fun x hx => hup_n (fun z => hx (by rw [z]; exact h)))
theorem Tp.tr {k1 k2 k3 : Nat → Nat} {r : Nat} {M1 M2 M3 : LH} (h : Tp k1 k2 r M1 M2) (h2 : Tp k2 k3 r M2 M3) : Tp k1 k3 r M1 M3 := fun x e hx hM => h2 x e (h x e hx hM).2 (h x e hx hM).1
theorem dX11_remember_0 : decode cX11_remember 0 = .ok (.aload_n 0, 1) := by decide +kernel
theorem dX11_remember_1 : decode cX11_remember 1 = .ok (.getfield 387, 3) := by decide +kernel
theorem dX11_remember_4 : decode cX11_remember 4 = .ok (.bipush 8, 2) := by decide +kernel
theorem dX11_remember_6 : decode cX11_remember 6 = .ok (.if_icmp .ne 26, 3) := by decide +kernel
theorem dX11_remember_9 : decode cX11_remember 9 = .ok (.aload_n 0, 1) := by decide +kernel
theorem dX11_remember_10 : decode cX11_remember 10 = .ok (.aload_n 0, 1) := by decide +kernel
theorem dX11_remember_11 : decode cX11_remember 11 = .ok (.getfield 392, 3) := by decide +kernel
theorem dX11_remember_14 : decode cX11_remember 14 = .ok (.iconst 1, 1) := by decide +kernel
theorem dX11_remember_15 : decode cX11_remember 15 = .ok (.iadd, 1) := by decide +kernel
theorem dX11_remember_16 : decode cX11_remember 16 = .ok (.bipush 8, 2) := by decide +kernel
theorem dX11_remember_18 : decode cX11_remember 18 = .ok (.irem, 1) := by decide +kernel
theorem dX11_remember_19 : decode cX11_remember 19 = .ok (.putfield 392, 3) := by decide +kernel
theorem dX11_remember_22 : decode cX11_remember 22 = .ok (.aload_n 0, 1) := by decide +kernel
theorem dX11_remember_23 : decode cX11_remember 23 = .ok (.dup, 1) := by decide +kernel
theorem dX11_remember_24 : decode cX11_remember 24 = .ok (.getfield 387, 3) := by decide +kernel
theorem dX11_remember_27 : decode cX11_remember 27 = .ok (.iconst 1, 1) := by decide +kernel
theorem dX11_remember_28 : decode cX11_remember 28 = .ok (.isub, 1) := by decide +kernel
theorem dX11_remember_29 : decode cX11_remember 29 = .ok (.putfield 387, 3) := by decide +kernel
theorem dX11_remember_32 : decode cX11_remember 32 = .ok (.aload_n 0, 1) := by decide +kernel
theorem dX11_remember_33 : decode cX11_remember 33 = .ok (.getfield 27, 3) := by decide +kernel
theorem dX11_remember_36 : decode cX11_remember 36 = .ok (.aload_n 0, 1) := by decide +kernel
theorem dX11_remember_37 : decode cX11_remember 37 = .ok (.getfield 392, 3) := by decide +kernel
theorem dX11_remember_40 : decode cX11_remember 40 = .ok (.aload_n 0, 1) := by decide +kernel
theorem dX11_remember_41 : decode cX11_remember 41 = .ok (.getfield 387, 3) := by decide +kernel
theorem dX11_remember_44 : decode cX11_remember 44 = .ok (.iadd, 1) := by decide +kernel
theorem dX11_remember_45 : decode cX11_remember 45 = .ok (.bipush 8, 2) := by decide +kernel
theorem dX11_remember_47 : decode cX11_remember 47 = .ok (.irem, 1) := by decide +kernel
theorem dX11_remember_48 : decode cX11_remember 48 = .ok (.aaload, 1) := by decide +kernel
theorem dX11_remember_49 : decode cX11_remember 49 = .ok (.aload_n 1, 1) := by decide +kernel
theorem dX11_remember_50 : decode cX11_remember 50 = .ok (.invokevirtual 375, 3) := by decide +kernel
theorem dX11_remember_53 : decode cX11_remember 53 = .ok (.aload_n 0, 1) := by decide +kernel
theorem dX11_remember_54 : decode cX11_remember 54 = .ok (.dup, 1) := by decide +kernel
theorem dX11_remember_55 : decode cX11_remember 55 = .ok (.getfield 387, 3) := by decide +kernel
theorem dX11_remember_58 : decode cX11_remember 58 = .ok (.iconst 1, 1) := by decide +kernel
theorem dX11_remember_59 : decode cX11_remember 59 = .ok (.iadd, 1) := by decide +kernel
theorem dX11_remember_60 : decode cX11_remember 60 = .ok (.putfield 387, 3) := by decide +kernel
theorem dX11_remember_63 : decode cX11_remember 63 = .ok (.return_, 1) := by decide +kernel
set_option maxRecDepth 100000 in
set_option maxHeartbeats 4000000 in
theorem c_remember {l : Launch} {g : Nat → Nat} {M : LH} (htr : l.stackTraces = false) {kd : Nat → Nat} {p : Nat} {q a : Nat → Nat} {e8 : Int32 → Nat} {hs old : Int32} {v : Int32 → Int32} {sv : Int32} {sa : Int32 → Int32} {ch : Int32} {pa tx : Int32 → Int32} {tn : Int32} {Ls : List Int32} {ea fl : Int32} (hB : PgB kd M p q a e8 hs old v ch tx tn Ls ea fl) (hR : PgR kd M a e8 hs old sv sa ch pa) {rs s : Nat} {σ : Int32 → Int32} (hX : StX kd rs M s σ) (hrs : rs < 10) : K_X11_remember l g 2 0 0 [.ref p, .ref s] M (RV (fun M9 => ∃ pa', PaS ch pa σ pa' ∧ Pg kd M9 p q a e8 v sv sa ((if ch = 8 then 7 else ch) + 1) pa' tx tn Ls ea fl ∧ F30 kd M M9) nX) := by
  refine Ko_X11_remember htr (fun X => ?_)
  obtain ⟨hO, hE8, hkp, hk3, hX0, hK, hS2, hS3, hS8, hRO⟩ := _root_.id hB
  obtain ⟨r1, r2, r3, r4, r5, r6, r7, r8⟩ := _root_.id hR
  obtain ⟨pa1, hPa⟩ := PaS_ex (pa := pa) (b4 := σ) r6 r7
  refine v_aload_n dX11_remember_0 rfl rfl ?_
  refine gf_X11_387 dX11_remember_1 rfl hO ?_
  refine v_bipush (v := (8)) dX11_remember_4 (by decide) ?_
  refine v_icmp_ne (tgt := 32) dX11_remember_6 (by decide) (fun h6 => ?_) (fun h6 => ?_)
  · have e8n : ¬ ch = 8 := by assumption
    have c28 : ch < 8 := by clear r8 hPa hX hR hB hX0 hK hS2 hS3 hS8 hRO; lia
    have o20 := r4
    have o28 := r5
    have c20 := r6
    have hF : Fs kd (fun r => r = 21) M M := Fs.rf
    refine v_aload_n dX11_remember_32 rfl rfl ?_
    refine gf_X11_27 dX11_remember_33 rfl hO ?_
    refine v_aload_n dX11_remember_36 rfl rfl ?_
    refine gf_X11_392 dX11_remember_37 rfl hO ?_
    refine v_aload_n dX11_remember_40 rfl rfl ?_
    refine gf_X11_387 dX11_remember_41 rfl hO ?_
    refine v_iadd dX11_remember_44 ?_
    refine v_bipush (v := (8)) dX11_remember_45 (by decide) ?_
    refine v_irem dX11_remember_47 (by decide) ?_
    rw [show old + ch - (old + ch) / 8 * 8 = md8 (old + ch) from rfl]
    have i0 := md8_0 (x := old) (k := ch) o20 o28 c20 c28
    obtain ⟨adT, slT, leT, cT, FT, hSC⟩ := hS8 _ i0.1 i0.2
    obtain ⟨adS, slS, leS, fgS, tpS, FS, hSR⟩ := hX.tp (hF.tp (by omega))
    have rne : ¬ rs = 10 + (md8 (old + ch)).toNatClampNeg := by omega
    refine v_aald1 dX11_remember_48 hE8 i0.1 i0.2 rfl ?_
    refine v_aload_n dX11_remember_49 rfl rfl ?_
    refine k_X11_375 dX11_remember_50 rfl (c_copySt htr hSC hSR rne) hSC.1 (Nat.le_of_ble_eq_true rfl) (by omega) (by omega) (Nat.le_of_ble_eq_true rfl) (fun M9 h9 => ?_) (fun _ _ h9 => h9.elim)
    obtain ⟨⟨F9, h91⟩, h92⟩ := h9
    have hB := PgB.er hB i0.1 i0.2 h92 ⟨_, _, _, _, _, StR.toC h91⟩
    have hX9 : StX kd _ M9 _ σ := ⟨_, _, _, _, _, _, h91⟩
    have hF9 : F30 kd M M9 := (hF.f30 (fun r h => by omega)).tr (Frm.f30 h92 (by have := tc_lt i0.1 i0.2; have e : (8 : Int32).toNatClampNeg = 8 := rfl; omega))
    obtain ⟨hO, hE8, hkp, hk3, hX0, hK, hS2, hS3, hS8, hRO⟩ := _root_.id hB
    refine v_aload_n dX11_remember_53 rfl rfl ?_
    refine v_dup dX11_remember_54 rfl ?_
    refine gf_X11_387 dX11_remember_55 rfl hO ?_
    refine v_iconst (v := 1) dX11_remember_58 (by decide) ?_
    refine v_iadd dX11_remember_59 ?_
    refine pf_X11_387 dX11_remember_60 rfl hO ?_
    refine V.pgb (PgB.own hB) (up21 hkp Fs.rf) (fun M2 hB hF2 => ?_)
    exact v_vret dX11_remember_63 rfl (by
          refine ⟨pa1, hPa, ⟨hs, old, ?_, r1, r2, fun z => (r3 z).tp (Tp.tr (hF.tp (by decide)) (Tp.tr ((Frm.fs (S := fun r => r = 10 + (md8 (old + ch)).toNatClampNeg) h92 rfl).tp (by omega)) (hF2.tp (by decide)))), o20, o28, ?_, ?_, ?_⟩, hF9.tr (hF2.f30 (fun r h => by omega))⟩
          · rw [if_neg e8n]; exact hB
          · rw [if_neg e8n]; clear r8 hPa hX hR hB hX0 hK hS2 hS3 hS8 hRO; lia
          · rw [if_neg e8n]; clear r8 hPa hX hR hB hX0 hK hS2 hS3 hS8 hRO; lia
          · rw [if_neg e8n]
            exact fun k k0 k1 => ((ring_put o20 o28 c20 c28 (fun k k0 k1 => ((fun k k0 k1 => (r8 k k0 k1).ext (fun j j0 j1 => ((hPa.1 k j k0 (by rw [if_neg e8n]; exact k1) j0 j1).trans (if_neg e8n)).symm)) k k0 k1).tp (hF.tp (rg8 o20 o28 k0 (Int32.lt_trans k1 c28)))) h92 hX9 (fun j j0 j1 => by have q := hPa.2 j j0 j1; rw [if_neg e8n] at q; exact q)) k k0 k1).tp (hF2.tp (rg8 o20 o28 k0 (lt8 c20 c28 k1)))) (by omega) (by omega)
  · skip
    have e8' : ch = 8 := by first | assumption | exact Classical.not_not.mp (by assumption)
    subst e8'
    have o2_ := md8_0 (x := old) (k := 1) r4 r5 (by decide) (by decide)
    obtain ⟨o20, o28⟩ := o2_
    have c20 : (0 : Int32) ≤ 7 := by decide
    have c28 : (7 : Int32) < 8 := by decide
    have hF : Fs kd (fun r => r = 21) M M := Fs.rf
    refine v_aload_n dX11_remember_9 rfl rfl ?_
    refine v_aload_n dX11_remember_10 rfl rfl ?_
    refine gf_X11_392 dX11_remember_11 rfl hO ?_
    refine v_iconst (v := 1) dX11_remember_14 (by decide) ?_
    refine v_iadd dX11_remember_15 ?_
    refine v_bipush (v := (8)) dX11_remember_16 (by decide) ?_
    refine v_irem dX11_remember_18 (by decide) ?_
    rw [show old + 1 - (old + 1) / 8 * 8 = md8 (old + 1) from rfl]
    refine pf_X11_392 dX11_remember_19 rfl hO ?_
    refine V.pgb (PgB.own hB) (up21 hkp hF) (fun M1 hB hF => ?_)
    obtain ⟨hO, hE8, hkp, hk3, hX0, hK, hS2, hS3, hS8, hRO⟩ := _root_.id hB
    refine v_aload_n dX11_remember_22 rfl rfl ?_
    refine v_dup dX11_remember_23 rfl ?_
    refine gf_X11_387 dX11_remember_24 rfl hO ?_
    refine v_iconst (v := 1) dX11_remember_27 (by decide) ?_
    refine v_isub dX11_remember_28 ?_
    refine pf_X11_387 dX11_remember_29 rfl hO ?_
    refine V.pgb (PgB.own hB) (up21 hkp hF) (fun M1 hB hF => ?_)
    rw [show (8 : Int32) - 1 = 7 by decide] at hB
    obtain ⟨hO, hE8, hkp, hk3, hX0, hK, hS2, hS3, hS8, hRO⟩ := _root_.id hB
    refine v_aload_n dX11_remember_32 rfl rfl ?_
    refine gf_X11_27 dX11_remember_33 rfl hO ?_
    refine v_aload_n dX11_remember_36 rfl rfl ?_
    refine gf_X11_392 dX11_remember_37 rfl hO ?_
    refine v_aload_n dX11_remember_40 rfl rfl ?_
    refine gf_X11_387 dX11_remember_41 rfl hO ?_
    refine v_iadd dX11_remember_44 ?_
    refine v_bipush (v := (8)) dX11_remember_45 (by decide) ?_
    refine v_irem dX11_remember_47 (by decide) ?_
    rw [show (md8 (old + 1)) + 7 - ((md8 (old + 1)) + 7) / 8 * 8 = md8 ((md8 (old + 1)) + 7) from rfl]
    have i0 := md8_0 (x := (md8 (old + 1))) (k := 7) o20 o28 c20 c28
    obtain ⟨adT, slT, leT, cT, FT, hSC⟩ := hS8 _ i0.1 i0.2
    obtain ⟨adS, slS, leS, fgS, tpS, FS, hSR⟩ := hX.tp (hF.tp (by omega))
    have rne : ¬ rs = 10 + (md8 ((md8 (old + 1)) + 7)).toNatClampNeg := by omega
    refine v_aald1 dX11_remember_48 hE8 i0.1 i0.2 rfl ?_
    refine v_aload_n dX11_remember_49 rfl rfl ?_
    refine k_X11_375 dX11_remember_50 rfl (c_copySt htr hSC hSR rne) hSC.1 (Nat.le_of_ble_eq_true rfl) (by omega) (by omega) (Nat.le_of_ble_eq_true rfl) (fun M9 h9 => ?_) (fun _ _ h9 => h9.elim)
    obtain ⟨⟨F9, h91⟩, h92⟩ := h9
    have hB := PgB.er hB i0.1 i0.2 h92 ⟨_, _, _, _, _, StR.toC h91⟩
    have hX9 : StX kd _ M9 _ σ := ⟨_, _, _, _, _, _, h91⟩
    have hF9 : F30 kd M M9 := (hF.f30 (fun r h => by omega)).tr (Frm.f30 h92 (by have := tc_lt i0.1 i0.2; have e : (8 : Int32).toNatClampNeg = 8 := rfl; omega))
    obtain ⟨hO, hE8, hkp, hk3, hX0, hK, hS2, hS3, hS8, hRO⟩ := _root_.id hB
    refine v_aload_n dX11_remember_53 rfl rfl ?_
    refine v_dup dX11_remember_54 rfl ?_
    refine gf_X11_387 dX11_remember_55 rfl hO ?_
    refine v_iconst (v := 1) dX11_remember_58 (by decide) ?_
    refine v_iadd dX11_remember_59 ?_
    refine pf_X11_387 dX11_remember_60 rfl hO ?_
    refine V.pgb (PgB.own hB) (up21 hkp Fs.rf) (fun M2 hB hF2 => ?_)
    exact v_vret dX11_remember_63 rfl (by
          refine ⟨pa1, hPa, ⟨hs, (md8 (old + 1)), ?_, r1, r2, fun z => (r3 z).tp (Tp.tr (hF.tp (by decide)) (Tp.tr ((Frm.fs (S := fun r => r = 10 + (md8 ((md8 (old + 1)) + 7)).toNatClampNeg) h92 rfl).tp (by omega)) (hF2.tp (by decide)))), o20, o28, ?_, ?_, ?_⟩, hF9.tr (hF2.f30 (fun r h => by omega))⟩
          · exact hB
          · decide
          · decide
          · skip
            exact fun k k0 k1 => ((ring_put o20 o28 c20 c28 (fun k k0 k1 => ((ring_a r4 r5 hPa r8) k k0 k1).tp (hF.tp (rg8 o20 o28 k0 (Int32.lt_trans k1 c28)))) h92 hX9 (fun j j0 j1 => hPa.2 j j0 j1)) k k0 k1).tp (hF2.tp (rg8 o20 o28 k0 (lt8 c20 c28 k1)))) (by omega) (by omega)
