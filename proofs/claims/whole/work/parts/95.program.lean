/-! ===== the program as one thing ===== -/
/-- the rest of a division by 8 -/
def md8 (x : Int32) : Int32 := x - x / 8 * 8
theorem md8_n : ∀ n, n < 16 → md8 (nI n) = nI (n % 8) := by decide
theorem md8_v {x : Int32} (h0 : 0 ≤ x) (h1 : x < 16) : md8 x = (if x < 8 then x else x - 8) ∧ 0 ≤ md8 x ∧ md8 x < 8 := by
  have k : ∀ n, n < 16 → md8 (nI n) = (if nI n < 8 then nI n else nI n - 8) ∧ 0 ≤ md8 (nI n) ∧ md8 (nI n) < 8 := by decide
  have q := tc_lt h0 h1
  have e : (16 : Int32).toNatClampNeg = 16 := rfl
  have z := k x.toNatClampNeg (by omega)
  rwa [tc_nI h0] at z
/-- the regions S may have been written, no other -/
def Fs (kd : Nat → Nat) (S : Nat → Prop) (M M' : LH) : Prop := ∀ x, ¬ S (kd x) → M' x = M x
theorem Fs.rf {kd : Nat → Nat} {S : Nat → Prop} {M : LH} : Fs kd S M M := fun _ _ => rfl
theorem Fs.tr {kd : Nat → Nat} {S : Nat → Prop} {M M' M'' : LH} (h : Fs kd S M M') (h2 : Fs kd S M' M'') : Fs kd S M M'' := fun x a => (h2 x a).trans (h x a)
theorem Fs.mono {kd : Nat → Nat} {S S' : Nat → Prop} {M M' : LH} (h : Fs kd S M M') (hs : ∀ r, S r → S' r) : Fs kd S' M M' := fun x a => h x (fun z => a (hs _ z))
theorem Frm.fs {kd : Nat → Nat} {r : Nat} {S : Nat → Prop} {M M' : LH} (h : Frm kd r M M') (hs : S r) : Fs kd S M M' := fun x a => h x (fun z => a (by rw [z]; exact hs))
theorem Fr2.fs {kd : Nat → Nat} {r D : Nat} {S : Nat → Prop} {M M' : LH} (h : Fr2 kd r D M M') (hs : S r) (hd : S D) : Fs kd S M M' := fun x a => h x (fun z => a (by rw [z]; exact hs)) (fun z => a (by rw [z]; exact hd))
/-- what stands in region r stays, there and in that region -/
def Tp (kd kd' : Nat → Nat) (r : Nat) (M M' : LH) : Prop := ∀ x e, kd x = r → M x = some e → M' x = some e ∧ kd' x = r
theorem Fs.tp {kd : Nat → Nat} {S : Nat → Prop} {r : Nat} {M M' : LH} (h : Fs kd S M M') (hr : ¬ S r) : Tp kd kd r M M' := fun x e hx hM => ⟨(h x (by rw [hx]; exact hr)).trans hM, hx⟩
theorem StC.tp {kd kd' : Nat → Nat} {r : Nat} {M M' : LH} {a : Nat} {ad : Nat → Nat} {sl le : Int32 → Nat} {c : Nat → Int32} {F : Nat → Int32 → Int32} (h : StC kd r M a ad sl le c F) (t : Tp kd kd' r M M') : StC kd' r M' a ad sl le c F := by
  obtain ⟨h1, h2, h3, h4, h5, h6, ⟨k1, k2, k3, k4, k5, k6⟩, h8⟩ := h
  exact ⟨(t _ _ k1 h1).1, (t _ _ k2 h2).1, (t _ _ k3 h3).1, (t _ _ k4 h4).1, fun i a b => (t _ _ (k5 i a b) (h5 i a b)).1, fun i a b => (t _ _ (k6 i a b) (h6 i a b)).1, ⟨(t _ _ k1 h1).2, (t _ _ k2 h2).2, (t _ _ k3 h3).2, (t _ _ k4 h4).2, fun i a b => (t _ _ (k5 i a b) (h5 i a b)).2, fun i a b => (t _ _ (k6 i a b) (h6 i a b)).2⟩, h8⟩
theorem Dk.tp {kd kd' : Nat → Nat} {D r : Nat} {M M' : LH} {a : Nat} {q : Nat → Nat} (h : Dk kd D r M a q) (t : Tp kd kd' D M M') : Dk kd' D r M' a q := by
  obtain ⟨h1, h2, ⟨f1, h3⟩, ⟨f2, h4⟩, h5, ⟨f3, h6⟩, h7, ⟨f4, h8⟩, ⟨k0, k2, k3, k4, k5, k6, k7, k8⟩, h10, h11⟩ := h
  exact ⟨(t _ _ k0 h1).1, (t _ _ k2 h2).1, ⟨f1, (t _ _ k3 h3).1⟩, ⟨f2, (t _ _ k4 h4).1⟩, (t _ _ k5 h5).1, ⟨f3, (t _ _ k6 h6).1⟩, (t _ _ k7 h7).1, ⟨f4, (t _ _ k8 h8).1⟩, ⟨(t _ _ k0 h1).2, (t _ _ k2 h2).2, (t _ _ k3 h3).2, (t _ _ k4 h4).2, (t _ _ k5 h5).2, (t _ _ k6 h6).2, (t _ _ k7 h7).2, (t _ _ k8 h8).2⟩, h10, h11⟩
theorem Md.tp {kd : Nat → Nat} {r m : Nat} {w : Nat → Nat} {t ch ea fl sv bf tn he en ln wr dg : Int32} {v b4 sa pa fr th bs tx li lf to : Int32 → Int32} {kd' : Nat → Nat} {M M' : LH} (h : Md kd r M m w t ch ea fl sv bf tn he en ln wr dg v b4 sa pa fr th bs tx li lf to) (t' : Tp kd kd' r M M') : Md kd' r M' m w t ch ea fl sv bf tn he en ln wr dg v b4 sa pa fr th bs tx li lf to := by
  obtain ⟨g0, g5, g6, g7, g8, g9, g10, g11, g13, g14, g15, g16, g17, g18, ⟨k0, k5, k6, k7, k8, k9, k10, k11, k13, k14, k15, k16, k17, k18⟩, gn⟩ := h
  exact ⟨(t' _ _ k0 g0).1, (t' _ _ k5 g5).1, (t' _ _ k6 g6).1, (t' _ _ k7 g7).1, (t' _ _ k8 g8).1, (t' _ _ k9 g9).1, (t' _ _ k10 g10).1, (t' _ _ k11 g11).1, (t' _ _ k13 g13).1, (t' _ _ k14 g14).1, (t' _ _ k15 g15).1, (t' _ _ k16 g16).1, (t' _ _ k17 g17).1, (t' _ _ k18 g18).1, ⟨(t' _ _ k0 g0).2, (t' _ _ k5 g5).2, (t' _ _ k6 g6).2, (t' _ _ k7 g7).2, (t' _ _ k8 g8).2, (t' _ _ k9 g9).2, (t' _ _ k10 g10).2, (t' _ _ k11 g11).2, (t' _ _ k13 g13).2, (t' _ _ k14 g14).2, (t' _ _ k15 g15).2, (t' _ _ k16 g16).2, (t' _ _ k17 g17).2, (t' _ _ k18 g18).2⟩, gn⟩
/-- a State of region r that holds σ; one that holds anything -/
def StX (kd : Nat → Nat) (r : Nat) (M : LH) (a : Nat) (σ : Int32 → Int32) : Prop := ∃ ad sl le fg tp F, StR kd r M a ad sl le fg tp F σ
def StS (kd : Nat → Nat) (r : Nat) (M : LH) (a : Nat) : Prop := ∃ ad sl le c F, StC kd r M a ad sl le c F
section SX
variable {kd kd' : Nat → Nat} {r a : Nat} {M M' : LH} {σ τ : Int32 → Int32}
theorem StX.s (h : StX kd r M a σ) : StS kd r M a := by
  obtain ⟨ad, sl, le, fg, tp, F, h⟩ := h
  exact ⟨ad, sl, le, _, F, StR.toC h⟩
theorem StX.good (h : StX kd r M a σ) : Good σ := by
  obtain ⟨ad, sl, le, fg, tp, F, h⟩ := h
  exact StR.toG h
theorem StX.tp (h : StX kd r M a σ) (t : Tp kd kd' r M M') : StX kd' r M' a σ := by
  obtain ⟨ad, sl, le, fg, tp, F, h⟩ := h
  exact ⟨ad, sl, le, fg, tp, F, StR.of (StC.tp (StR.toC h) t) (StR.toR h) (StR.toG h)⟩
theorem StS.tp (h : StS kd r M a) (t : Tp kd kd' r M M') : StS kd' r M' a := by
  obtain ⟨ad, sl, le, c, F, h⟩ := h
  exact ⟨ad, sl, le, c, F, StC.tp h t⟩
theorem StX.ext (h : StX kd r M a σ) (e : Ag σ τ) : StX kd r M a τ := by
  obtain ⟨ad, sl, le, fg, tp, F, h⟩ := h
  exact ⟨ad, sl, le, fg, tp, F, StR.ext e h⟩
theorem StX.e {ad : Nat → Nat} {sl : Int32 → Nat} (h : StE kd r M a ad sl σ) : StX kd r M a σ := by
  obtain ⟨le, fg, tp, F, h⟩ := h
  exact ⟨ad, sl, le, fg, tp, F, h⟩
end SX
/-- the two builders: the reader's text, the output -/
def RdO (kd : Nat → Nat) (M : LH) (a : Nat → Nat) (tx : Int32 → Int32) (tn : Int32) (Ls : List Int32) : Prop :=
  ∃ (vt ct : Nat) (f : Int32 → Int32) (cm : Nat) (at9 nc : Int32) (NN : Int32 → Int32) (vo co : Nat), ct ≤ 3 ∧ Rr kd 22 M (a 4) (a 5) vt (a 6) (nI (cpc ct)) tn tx f cm at9 nc NN ∧ kd (a 5) = 23 ∧ kd vt = 0 ∧ SbC M (a 7) vo co Ls ∧ kd (a 7) = 24 ∧ kd vo = 0 ∧ ¬ vt = vo
/-- the object itself and what it holds, but for the states kept -/
def PgB (kd : Nat → Nat) (M : LH) (p : Nat) (q a : Nat → Nat) (e8 : Int32 → Nat) (hs old : Int32) (v : Int32 → Int32) (ch : Int32) (tx : Int32 → Int32) (tn : Int32) (Ls : List Int32) (ea fl : Int32) : Prop :=
  M p = some (ob 9 [.ref (q 0), .ref (a 0), .ref (a 1), .int hs, .ref (a 3), .int old, .int ch, .ref (a 4), .ref (a 2), .int ea, .int fl, .ref (a 7)]) ∧ M (a 3) = some (ra "SledgePost$State" 8 (fun i => some (e8 i))) ∧ kd p = 21 ∧ kd (a 3) = 21 ∧ StX kd 1 M (a 0) v ∧ Dk kd 20 1 M (a 0) q ∧ StS kd 2 M (a 1) ∧ StS kd 3 M (a 2) ∧ (∀ i, 0 ≤ i → i < 8 → StS kd (10 + i.toNatClampNeg) M (e8 i)) ∧ RdO kd M a tx tn Ls
/-- the states kept: the snapshot, the ring -/
def PgR (kd : Nat → Nat) (M : LH) (a : Nat → Nat) (e8 : Int32 → Nat) (hs old sv : Int32) (sa : Int32 → Int32) (ch : Int32) (pa : Int32 → Int32) : Prop :=
  (hs = 0 ∨ hs = 1) ∧ (hs = 0 ↔ sv = 0) ∧ (¬ sv = 0 → StX kd 2 M (a 1) sa) ∧ 0 ≤ old ∧ old < 8 ∧ 0 ≤ ch ∧ ch ≤ 8 ∧ ∀ k, 0 ≤ k → k < ch → StX kd (10 + (md8 (old + k)).toNatClampNeg) M (e8 (md8 (old + k))) (fun j => pa (k * 150 + j))
def Pg (kd : Nat → Nat) (M : LH) (p : Nat) (q a : Nat → Nat) (e8 : Int32 → Nat) (v : Int32 → Int32) (sv : Int32) (sa : Int32 → Int32) (ch : Int32) (pa tx : Int32 → Int32) (tn : Int32) (Ls : List Int32) (ea fl : Int32) : Prop := ∃ hs old, PgB kd M p q a e8 hs old v ch tx tn Ls ea fl ∧ PgR kd M a e8 hs old sv sa ch pa
section PG
variable {kd : Nat → Nat} {p : Nat} {q a : Nat → Nat} {e8 : Int32 → Nat} {hs old : Int32} {v : Int32 → Int32} {sv : Int32} {sa : Int32 → Int32} {ch : Int32} {pa tx : Int32 → Int32} {tn : Int32} {Ls : List Int32} {ea fl : Int32} {M M' : LH}
theorem RdO.fs {S : Nat → Prop} (h : RdO kd M a tx tn Ls) (f : Fs kd S M M') (h0 : ¬ S 0) (h22 : ¬ S 22) (h23 : ¬ S 23) (h24 : ¬ S 24) : RdO kd M' a tx tn Ls := by
  obtain ⟨vt, ct, f0, cm, at9, nc, NN, vo, co, c1, ⟨r0, r1, ⟨⟨ml, r2⟩, r3, r4⟩, r5, r6, r7, r8, r9, r10⟩, c3, c4, ⟨s1, ⟨fo, ⟨⟨ml2, s2⟩, s3, s4⟩, s5⟩, s6⟩, c6, c7, c8⟩ := h
  refine ⟨vt, ct, f0, cm, at9, nc, NN, vo, co, c1, ⟨(f _ (by rw [r7]; exact h22)).trans r0, (f _ (by rw [r8]; exact h22)).trans r1, ⟨⟨ml, (f _ (by rw [c3]; exact h23)).trans r2⟩, (f _ (by rw [c4]; exact h0)).trans r3, r4⟩, r5, r6, r7, r8, r9, r10⟩, c3, c4, ⟨s1, ⟨fo, ⟨⟨ml2, (f _ (by rw [c6]; exact h24)).trans s2⟩, (f _ (by rw [c7]; exact h0)).trans s3, s4⟩, s5⟩, s6⟩, c6, c7, c8⟩
theorem PgR.fs {S : Nat → Prop} (h : PgR kd M a e8 hs old sv sa ch pa) (f : Fs kd S M M') (h2 : ¬ S 2) (h10 : ∀ i, i < 8 → ¬ S (10 + i)) : PgR kd M' a e8 hs old sv sa ch pa := by
  obtain ⟨g1, g2, g3, g4, g5, g6, g7, g8⟩ := h
  refine ⟨g1, g2, fun z => (g3 z).tp (f.tp h2), g4, g5, g6, g7, fun k k0 k1 => (g8 k k0 k1).tp (f.tp (h10 _ ?_))⟩
  have e := (md8_v (x := old + k) (by clear g8; lia) (by clear g8; lia)).2
  have q := tc_lt e.1 e.2
  exact q
theorem PgB.fs {S : Nat → Prop} (h : PgB kd M p q a e8 hs old v ch tx tn Ls ea fl) (f : Fs kd S M M') (h30 : ∀ r, S r → 30 ≤ r) : PgB kd M' p q a e8 hs old v ch tx tn Ls ea fl := by
  have n : ∀ r, r < 30 → ¬ S r := fun r hr z => by have := h30 r z; omega
  obtain ⟨g1, g2, g3, g4, g5, g6, g7, g8, g9, g10⟩ := h
  refine ⟨(f _ (by rw [g3]; exact n _ (by decide))).trans g1, (f _ (by rw [g4]; exact n _ (by decide))).trans g2, g3, g4, g5.tp (f.tp (n _ (by decide))), g6.tp (f.tp (n _ (by decide))), g7.tp (f.tp (n _ (by decide))), g8.tp (f.tp (n _ (by decide))), fun i i0 i1 => (g9 i i0 i1).tp (f.tp (n _ (by have := tc_lt i0 i1; have e : (8 : Int32).toNatClampNeg = 8 := rfl; omega))), g10.fs f (n _ (by decide)) (n _ (by decide)) (n _ (by decide)) (n _ (by decide))⟩
theorem Pg.fs {S : Nat → Prop} (h : Pg kd M p q a e8 v sv sa ch pa tx tn Ls ea fl) (f : Fs kd S M M') (h30 : ∀ r, S r → 30 ≤ r) : Pg kd M' p q a e8 v sv sa ch pa tx tn Ls ea fl := by
  obtain ⟨h1, o1, b, r⟩ := h
  exact ⟨h1, o1, b.fs f h30, r.fs f (fun z => by have := h30 _ z; omega) (fun i hi z => by have := h30 _ z; omega)⟩
/-- the living state changes, or the desk's rows -/
theorem PgB.now {v' : Int32 → Int32} (h : PgB kd M p q a e8 hs old v ch tx tn Ls ea fl) (f : Fr2 kd 1 20 M M') (hX : StX kd 1 M' (a 0) v') (hK : Dk kd 20 1 M' (a 0) q) : PgB kd M' p q a e8 hs old v' ch tx tn Ls ea fl := by
  have f2 : Fs kd (fun r => r = 1 ∨ r = 20) M M' := f.fs (Or.inl rfl) (Or.inr rfl)
  have n : ∀ r, ¬ r = 1 → ¬ r = 20 → ¬ (r = 1 ∨ r = 20) := fun r h1 h2 z => z.elim h1 h2
  obtain ⟨g1, g2, g3, g4, g5, g6, g7, g8, g9, g10⟩ := h
  exact ⟨(f2 _ (by rw [g3]; decide)).trans g1, (f2 _ (by rw [g4]; decide)).trans g2, g3, g4, hX, hK, g7.tp (f2.tp (by decide)), g8.tp (f2.tp (by decide)), fun i i0 i1 => (g9 i i0 i1).tp (f2.tp (by have := tc_lt i0 i1; have e : (8 : Int32).toNatClampNeg = 8 := rfl; omega)), g10.fs f2 (by decide) (by decide) (by decide) (by decide)⟩
theorem Pg.now {v' : Int32 → Int32} (h : Pg kd M p q a e8 v sv sa ch pa tx tn Ls ea fl) (f : Fr2 kd 1 20 M M') (hX : StX kd 1 M' (a 0) v') (hK : Dk kd 20 1 M' (a 0) q) : Pg kd M' p q a e8 v' sv sa ch pa tx tn Ls ea fl := by
  have f2 : Fs kd (fun r => r = 1 ∨ r = 20) M M' := f.fs (Or.inl rfl) (Or.inr rfl)
  obtain ⟨h1, o1, b, r⟩ := h
  exact ⟨h1, o1, b.now f hX hK, r.fs f2 (by decide) (fun i hi => by omega)⟩
theorem Pg.desk (h : Pg kd M p q a e8 v sv sa ch pa tx tn Ls ea fl) (f : Frm kd 20 M M') (hK : Dk kd 20 1 M' (a 0) q) : Pg kd M' p q a e8 v sv sa ch pa tx tn Ls ea fl := by
  obtain ⟨h1, o1, b, r⟩ := _root_.id h
  exact h.now (Fr2.b f) (b.2.2.2.2.1.tp ((Frm.fs (S := fun r => r = 20) f rfl).tp (by decide))) hK
theorem Pg.st (h : Pg kd M p q a e8 v sv sa ch pa tx tn Ls ea fl) (f : Frm kd 1 M M') {v' : Int32 → Int32} (hX : StX kd 1 M' (a 0) v') : Pg kd M' p q a e8 v' sv sa ch pa tx tn Ls ea fl := by
  obtain ⟨h1, o1, b, r⟩ := _root_.id h
  exact h.now (Fr2.a f) hX (b.2.2.2.2.2.1.tp ((Frm.fs (S := fun r => r = 1) f rfl).tp (by decide)))
/-- frames as the law sees them: nothing from region 30 on was written -/
def F30 (kd : Nat → Nat) (M M' : LH) : Prop := ∀ x, 30 ≤ kd x → M' x = M x
theorem F30.rf : F30 kd M M := fun _ _ => rfl
theorem F30.tr {M'' : LH} (h : F30 kd M M') (h2 : F30 kd M' M'') : F30 kd M M'' := fun x a => (h2 x a).trans (h x a)
theorem Frm.f30 {r : Nat} (h : Frm kd r M M') (hr : r < 30) : F30 kd M M' := fun x a => h x (fun z => by omega)
theorem Fr2.f30 {r D : Nat} (h : Fr2 kd r D M M') (hr : r < 30) (hd : D < 30) : F30 kd M M' := fun x a => h x (fun z => by omega) (fun z => by omega)
theorem Fs.f30 {S : Nat → Prop} (h : Fs kd S M M') (hr : ∀ r, S r → r < 30) : F30 kd M M' := fun x a => h x (fun z => by have := hr _ z; omega)
end PG
