/-! ===== the law: what holds between two calls ===== -/
/-- a state of the post after N calls of the law -/
def LG (N : Nat) (σ : Int32 → Int32) : Prop := Good σ ∧ Sy σ ∧ (σ 4).toInt ≤ 61 * (N : Int)
def Lw (N : Nat) (v : Int32 → Int32) (sv : Int32) (sa : Int32 → Int32) (ch : Int32) (pa : Int32 → Int32) (tn : Int32) (Ls : List Int32) (ea fl : Int32) (li : Int32 → Int32) : Prop :=
  LG N v ∧ (¬ sv = 0 → LG N sa) ∧ (∀ k, 0 ≤ k → k < ch → LG N (fun j => pa (k * 150 + j))) ∧ (sv = 0 ∨ sv = 1) ∧ (0 ≤ tn ∧ tn ≤ 60) ∧ (-1 ≤ ea ∧ -1 ≤ fl) ∧ (Tl li Ls ∧ Ls.length ≤ 120) ∧ 0 ≤ ch ∧ ch ≤ 8
def LI (p m out outD : Nat) (N : Nat) (M : LH) : Prop := ∃ (kd : Nat → Nat) (q a : Nat → Nat) (e8 : Int32 → Nat) (v : Int32 → Int32) (sv : Int32) (sa : Int32 → Int32) (ch : Int32) (pa tx : Int32 → Int32) (tn : Int32) (Ls : List Int32) (ea fl : Int32) (w : Nat → Nat) (t bf he en wr dg : Int32) (b4 fr th bs li lf to : Int32 → Int32),
  Pg kd M p q a e8 v sv sa ch pa tx tn Ls ea fl ∧ Md kd 30 M m w t ch ea fl sv bf tn he en (nI Ls.length) wr dg v b4 sa pa fr th bs tx li lf to ∧ Lw N v sv sa ch pa tn Ls ea fl li ∧ ((∃ h, M out = some (la 1 h)) ∧ kd out = 31) ∧ (∃ h, M outD = some (da 1 h)) ∧ kd outD = 31
theorem LG.ag {N : Nat} {σ τ : Int32 → Int32} (h : LG N σ) (e : Ag σ τ) : LG N τ := ⟨Good.ext h.1 e, Sy.ext e h.2.1, by rw [← e 4 (by decide) (by decide)]; exact h.2.2⟩
theorem LG.up {N : Nat} {σ : Int32 → Int32} (h : LG N σ) : LG (N + 1) σ := ⟨h.1, h.2.1, by have := h.2.2; omega⟩
theorem LG.r {N : Nat} {σ : Int32 → Int32} (h : LG N σ) (hN : N ≤ 512) : (σ 4).toInt + 61 < 1000000 ∧ σ 4 < 1000000 := by
  have e : (1000000 : Int32).toInt = 1000000 := rfl
  have z := h.2.2
  refine ⟨by omega, by rw [i_lt, e]; omega⟩
/-- a deed -/
theorem LG.go {N : Nat} {σ σ' S : Int32 → Int32} {i : Nat} {x : Int32} (h : LG N σ) (hN : N ≤ 512) (hi : i < 10) (hok : okJ σ S i) (hd : ddS σ S i σ' x) : LG (N + 1) σ' := by
  obtain ⟨h1, h2, h3⟩ := dd_ok hi h.1 (h.r hN).2 hok hd
  refine ⟨h1, h2 h.2.1, ?_⟩
  have z := (dd_4 (n := 0) h.1 (by have := (h.r hN).1; omega) h3).2.2
  have y := h.2.2
  omega
theorem Lw.up {v : Int32 → Int32} {sv : Int32} {sa : Int32 → Int32} {ch : Int32} {pa : Int32 → Int32} {tn : Int32} {Ls : List Int32} {ea fl : Int32} {li : Int32 → Int32} {N : Nat} (h : Lw N v sv sa ch pa tn Ls ea fl li) : Lw (N + 1) v sv sa ch pa tn Ls ea fl li := by
  obtain ⟨h1, h2, h3, h4⟩ := h
  exact ⟨h1.up, fun z => (h2 z).up, fun k k0 k1 => (h3 k k0 k1).up, h4⟩
/-- a call that changes the post -/
theorem Lw.ch {v : Int32 → Int32} {sv : Int32} {sa : Int32 → Int32} {ch : Int32} {pa : Int32 → Int32} {tn : Int32} {Ls : List Int32} {ea fl : Int32} {li : Int32 → Int32} {N : Nat} {v' pa' : Int32 → Int32} (h : Lw N v sv sa ch pa tn Ls ea fl li) (hv : LG (N + 1) v') (hP : PaS ch pa v pa') : Lw (N + 1) v' sv sa ((if ch = 8 then 7 else ch) + 1) pa' tn Ls ea fl li := by
  obtain ⟨h1, h2, h3, h4, h5, h6, h7, h8, h9⟩ := h
  refine ⟨hv, fun z => (h2 z).up, fun k k0 k1 => ?_, h4, h5, h6, h7, ?_, ?_⟩
  · by_cases e8 : ch = 8
    · rw [if_pos e8] at k1
      by_cases e : k < 7
      · refine (h3 (k + 1) (by clear h1 h2 h3 hv hP; lia) (by clear h1 h2 h3 hv hP; lia)).up.ag (fun j j0 j1 => ?_)
        have z := hP.1 k j k0 (by rw [if_pos e8]; exact e) j0 j1
        rw [if_pos e8] at z
        exact z.symm
      · have e7 : k = 7 := by clear h1 h2 h3 hv hP; lia
        refine h1.up.ag (fun j j0 j1 => ?_)
        have z := hP.2 j j0 j1
        rw [if_pos e8] at z
        rw [e7]
        exact z.symm
    · rw [if_neg e8] at k1
      by_cases e : k < ch
      · refine (h3 k k0 e).up.ag (fun j j0 j1 => ?_)
        have z := hP.1 k j k0 (by rw [if_neg e8]; exact e) j0 j1
        rw [if_neg e8] at z
        exact z.symm
      · have e7 : k = ch := by clear h1 h2 h3 hv hP; lia
        refine h1.up.ag (fun j j0 j1 => ?_)
        have z := hP.2 j j0 j1
        rw [if_neg e8] at z
        rw [e7]
        exact z.symm
  · split <;> clear h1 h2 h3 hv hP <;> lia
  · split <;> clear h1 h2 h3 hv hP <;> lia
section LO
variable {kd : Nat → Nat} {p : Nat} {q a : Nat → Nat} {e8 : Int32 → Nat} {v : Int32 → Int32} {sv : Int32} {sa : Int32 → Int32} {ch : Int32} {pa tx : Int32 → Int32} {tn : Int32} {Ls : List Int32} {ea fl : Int32} {m : Nat} {w : Nat → Nat} {t bf he en wr dg : Int32} {b4 fr th bs li lf to : Int32 → Int32} {out outD : Nat} {N : Nat} {M M' : LH} {e : Ec}
/-- the law's own row is written -/
theorem LO (hP : Pg kd M p q a e8 v sv sa ch pa tx tn Ls ea fl) (hM : Md kd 30 M m w t ch ea fl sv bf tn he en (nI Ls.length) wr dg v b4 sa pa fr th bs tx li lf to) (ko : kd out = 31) : Pg kd (hup M out e) p q a e8 v sv sa ch pa tx tn Ls ea fl ∧ Md kd 30 (hup M out e) m w t ch ea fl sv bf tn he en (nI Ls.length) wr dg v b4 sa pa fr th bs tx li lf to := by
  have f : Fs kd (fun r => r = 31) M (hup M out e) := fun x hx => hup_n (fun z => hx (by rw [z]; exact ko))
  exact ⟨hP.fs f (fun r h => by omega), hM.tp (f.tp (by decide))⟩
/-- the reference has moved -/
theorem LR (hP : Pg kd M p q a e8 v sv sa ch pa tx tn Ls ea fl) (f : Frm kd 30 M M') : Pg kd M' p q a e8 v sv sa ch pa tx tn Ls ea fl := hP.fs (Frm.fs (S := fun r => r = 30) f rfl) (fun r h => by omega)
theorem LR1 {x : Nat} (h : M x = some e) (kx : kd x = 31) (f : Frm kd 30 M M') : M' x = some e := (f x (by rw [kx]; decide)).trans h
end LO
