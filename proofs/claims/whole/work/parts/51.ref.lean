/-! ===== the reference: its object and its rows ===== -/
def wdI (j : Int32) : Int32 := ([115, 116, 97, 116, 105, 111, 110, 114, 111, 97, 100, 32, 115, 108, 101, 100, 103, 101, 32, 112, 111, 115, 116, 32, 108, 111, 97, 100, 32, 117, 110, 108, 111, 97, 100, 32, 98, 101, 115, 116, 32, 103, 111, 32, 104, 101, 97, 116, 32, 119, 97, 105, 116] : List Int32).getD j.toNatClampNeg 0
def waI (j : Int32) : Int32 := ([0, 7, 12, 19, 24, 29, 36, 41, 44, 49, 53] : List Int32).getD j.toNatClampNeg 0
/-- the reference's object at m over M, of region r: its scalars, its rows -/
def Md (kd : Nat → Nat) (r : Nat) (M : LH) (m : Nat) (w : Nat → Nat) (t ch ea fl sv bf tn he en ln wr dg : Int32) (v b4 sa pa fr th bs tx li lf to : Int32 → Int32) : Prop :=
  M m = some (ob 10 [.int t, .int ch, .int ea, .int fl, .int sv, .ref (w 5), .ref (w 6), .ref (w 7), .ref (w 8), .ref (w 9), .ref (w 10), .ref (w 11), .int bf, .ref (w 13), .ref (w 14), .ref (w 15), .ref (w 16), .ref (w 17), .ref (w 18), .int tn, .int he, .int en, .int ln, .int wr, .int dg]) ∧ M (w 5) = some (ia 150 v) ∧ M (w 6) = some (ia 150 b4) ∧ M (w 7) = some (ia 150 sa) ∧ M (w 8) = some (ia 1200 pa) ∧ M (w 9) = some (ia 49 fr) ∧ M (w 10) = some (ia 12 th) ∧ M (w 11) = some (ia 896 bs) ∧ M (w 13) = some (ia 60 tx) ∧ M (w 14) = some (ia 120 li) ∧ M (w 15) = some (ia 10 lf) ∧ M (w 16) = some (ia 6 to) ∧ M (w 17) = some (ia 53 wdI) ∧ M (w 18) = some (ia 11 waI) ∧
  (kd m = r ∧ kd (w 5) = r ∧ kd (w 6) = r ∧ kd (w 7) = r ∧ kd (w 8) = r ∧ kd (w 9) = r ∧ kd (w 10) = r ∧ kd (w 11) = r ∧ kd (w 13) = r ∧ kd (w 14) = r ∧ kd (w 15) = r ∧ kd (w 16) = r ∧ kd (w 17) = r ∧ kd (w 18) = r) ∧ ∀ i j, 5 ≤ i → i < 19 → 5 ≤ j → j < 19 → w i = w j → i = j
section MD
variable {kd : Nat → Nat} {r m : Nat} {w : Nat → Nat} {t ch ea fl sv bf tn he en ln wr dg : Int32} {v b4 sa pa fr th bs tx li lf to : Int32 → Int32} {M : LH}
theorem Md.kd_sc (hC : Md kd r M m w t ch ea fl sv bf tn he en ln wr dg v b4 sa pa fr th bs tx li lf to) : kd m = r := hC.2.2.2.2.2.2.2.2.2.2.2.2.2.2.1.1
theorem Md.kd_r5 (hC : Md kd r M m w t ch ea fl sv bf tn he en ln wr dg v b4 sa pa fr th bs tx li lf to) : kd (w 5) = r := hC.2.2.2.2.2.2.2.2.2.2.2.2.2.2.1.2.1
theorem Md.kd_r6 (hC : Md kd r M m w t ch ea fl sv bf tn he en ln wr dg v b4 sa pa fr th bs tx li lf to) : kd (w 6) = r := hC.2.2.2.2.2.2.2.2.2.2.2.2.2.2.1.2.2.1
theorem Md.kd_r7 (hC : Md kd r M m w t ch ea fl sv bf tn he en ln wr dg v b4 sa pa fr th bs tx li lf to) : kd (w 7) = r := hC.2.2.2.2.2.2.2.2.2.2.2.2.2.2.1.2.2.2.1
theorem Md.kd_r8 (hC : Md kd r M m w t ch ea fl sv bf tn he en ln wr dg v b4 sa pa fr th bs tx li lf to) : kd (w 8) = r := hC.2.2.2.2.2.2.2.2.2.2.2.2.2.2.1.2.2.2.2.1
theorem Md.kd_r9 (hC : Md kd r M m w t ch ea fl sv bf tn he en ln wr dg v b4 sa pa fr th bs tx li lf to) : kd (w 9) = r := hC.2.2.2.2.2.2.2.2.2.2.2.2.2.2.1.2.2.2.2.2.1
theorem Md.kd_r10 (hC : Md kd r M m w t ch ea fl sv bf tn he en ln wr dg v b4 sa pa fr th bs tx li lf to) : kd (w 10) = r := hC.2.2.2.2.2.2.2.2.2.2.2.2.2.2.1.2.2.2.2.2.2.1
theorem Md.kd_r11 (hC : Md kd r M m w t ch ea fl sv bf tn he en ln wr dg v b4 sa pa fr th bs tx li lf to) : kd (w 11) = r := hC.2.2.2.2.2.2.2.2.2.2.2.2.2.2.1.2.2.2.2.2.2.2.1
theorem Md.kd_r13 (hC : Md kd r M m w t ch ea fl sv bf tn he en ln wr dg v b4 sa pa fr th bs tx li lf to) : kd (w 13) = r := hC.2.2.2.2.2.2.2.2.2.2.2.2.2.2.1.2.2.2.2.2.2.2.2.1
theorem Md.kd_r14 (hC : Md kd r M m w t ch ea fl sv bf tn he en ln wr dg v b4 sa pa fr th bs tx li lf to) : kd (w 14) = r := hC.2.2.2.2.2.2.2.2.2.2.2.2.2.2.1.2.2.2.2.2.2.2.2.2.1
theorem Md.kd_r15 (hC : Md kd r M m w t ch ea fl sv bf tn he en ln wr dg v b4 sa pa fr th bs tx li lf to) : kd (w 15) = r := hC.2.2.2.2.2.2.2.2.2.2.2.2.2.2.1.2.2.2.2.2.2.2.2.2.2.1
theorem Md.kd_r16 (hC : Md kd r M m w t ch ea fl sv bf tn he en ln wr dg v b4 sa pa fr th bs tx li lf to) : kd (w 16) = r := hC.2.2.2.2.2.2.2.2.2.2.2.2.2.2.1.2.2.2.2.2.2.2.2.2.2.2.1
theorem Md.kd_r17 (hC : Md kd r M m w t ch ea fl sv bf tn he en ln wr dg v b4 sa pa fr th bs tx li lf to) : kd (w 17) = r := hC.2.2.2.2.2.2.2.2.2.2.2.2.2.2.1.2.2.2.2.2.2.2.2.2.2.2.2.1
theorem Md.kd_r18 (hC : Md kd r M m w t ch ea fl sv bf tn he en ln wr dg v b4 sa pa fr th bs tx li lf to) : kd (w 18) = r := hC.2.2.2.2.2.2.2.2.2.2.2.2.2.2.1.2.2.2.2.2.2.2.2.2.2.2.2.2
theorem Md.sc (hC : Md kd r M m w t ch ea fl sv bf tn he en ln wr dg v b4 sa pa fr th bs tx li lf to) {t' ch' ea' fl' sv' bf' tn' he' en' ln' wr' dg' : Int32} : Md kd r (hup M m (ob 10 [.int t', .int ch', .int ea', .int fl', .int sv', .ref (w 5), .ref (w 6), .ref (w 7), .ref (w 8), .ref (w 9), .ref (w 10), .ref (w 11), .int bf', .ref (w 13), .ref (w 14), .ref (w 15), .ref (w 16), .ref (w 17), .ref (w 18), .int tn', .int he', .int en', .int ln', .int wr', .int dg'])) m w t' ch' ea' fl' sv' bf' tn' he' en' ln' wr' dg' v b4 sa pa fr th bs tx li lf to := by
  obtain ⟨g0, g5, g6, g7, g8, g9, g10, g11, g13, g14, g15, g16, g17, g18, gk, gn⟩ := hC
  exact ⟨hup_s, (hup_n (ne_of_cell g5 g0 ob_ia.symm)).trans g5, (hup_n (ne_of_cell g6 g0 ob_ia.symm)).trans g6, (hup_n (ne_of_cell g7 g0 ob_ia.symm)).trans g7, (hup_n (ne_of_cell g8 g0 ob_ia.symm)).trans g8, (hup_n (ne_of_cell g9 g0 ob_ia.symm)).trans g9, (hup_n (ne_of_cell g10 g0 ob_ia.symm)).trans g10, (hup_n (ne_of_cell g11 g0 ob_ia.symm)).trans g11, (hup_n (ne_of_cell g13 g0 ob_ia.symm)).trans g13, (hup_n (ne_of_cell g14 g0 ob_ia.symm)).trans g14, (hup_n (ne_of_cell g15 g0 ob_ia.symm)).trans g15, (hup_n (ne_of_cell g16 g0 ob_ia.symm)).trans g16, (hup_n (ne_of_cell g17 g0 ob_ia.symm)).trans g17, (hup_n (ne_of_cell g18 g0 ob_ia.symm)).trans g18, gk, gn⟩
theorem Md.r5 (hC : Md kd r M m w t ch ea fl sv bf tn he en ln wr dg v b4 sa pa fr th bs tx li lf to) {f' : Int32 → Int32} : Md kd r (hup M (w 5) (ia 150 f')) m w t ch ea fl sv bf tn he en ln wr dg f' b4 sa pa fr th bs tx li lf to := by
  obtain ⟨g0, g5, g6, g7, g8, g9, g10, g11, g13, g14, g15, g16, g17, g18, gk, gn⟩ := hC
  exact ⟨(hup_n (ne_of_cell g0 g5 ob_ia)).trans g0, hup_s, (hup_n (fun z => absurd (gn 6 5 (by decide) (by decide) (by decide) (by decide) z) (by decide))).trans g6, (hup_n (fun z => absurd (gn 7 5 (by decide) (by decide) (by decide) (by decide) z) (by decide))).trans g7, (hup_n (fun z => absurd (gn 8 5 (by decide) (by decide) (by decide) (by decide) z) (by decide))).trans g8, (hup_n (fun z => absurd (gn 9 5 (by decide) (by decide) (by decide) (by decide) z) (by decide))).trans g9, (hup_n (fun z => absurd (gn 10 5 (by decide) (by decide) (by decide) (by decide) z) (by decide))).trans g10, (hup_n (fun z => absurd (gn 11 5 (by decide) (by decide) (by decide) (by decide) z) (by decide))).trans g11, (hup_n (fun z => absurd (gn 13 5 (by decide) (by decide) (by decide) (by decide) z) (by decide))).trans g13, (hup_n (fun z => absurd (gn 14 5 (by decide) (by decide) (by decide) (by decide) z) (by decide))).trans g14, (hup_n (fun z => absurd (gn 15 5 (by decide) (by decide) (by decide) (by decide) z) (by decide))).trans g15, (hup_n (fun z => absurd (gn 16 5 (by decide) (by decide) (by decide) (by decide) z) (by decide))).trans g16, (hup_n (fun z => absurd (gn 17 5 (by decide) (by decide) (by decide) (by decide) z) (by decide))).trans g17, (hup_n (fun z => absurd (gn 18 5 (by decide) (by decide) (by decide) (by decide) z) (by decide))).trans g18, gk, gn⟩
theorem Md.r6 (hC : Md kd r M m w t ch ea fl sv bf tn he en ln wr dg v b4 sa pa fr th bs tx li lf to) {f' : Int32 → Int32} : Md kd r (hup M (w 6) (ia 150 f')) m w t ch ea fl sv bf tn he en ln wr dg v f' sa pa fr th bs tx li lf to := by
  obtain ⟨g0, g5, g6, g7, g8, g9, g10, g11, g13, g14, g15, g16, g17, g18, gk, gn⟩ := hC
  exact ⟨(hup_n (ne_of_cell g0 g6 ob_ia)).trans g0, (hup_n (fun z => absurd (gn 5 6 (by decide) (by decide) (by decide) (by decide) z) (by decide))).trans g5, hup_s, (hup_n (fun z => absurd (gn 7 6 (by decide) (by decide) (by decide) (by decide) z) (by decide))).trans g7, (hup_n (fun z => absurd (gn 8 6 (by decide) (by decide) (by decide) (by decide) z) (by decide))).trans g8, (hup_n (fun z => absurd (gn 9 6 (by decide) (by decide) (by decide) (by decide) z) (by decide))).trans g9, (hup_n (fun z => absurd (gn 10 6 (by decide) (by decide) (by decide) (by decide) z) (by decide))).trans g10, (hup_n (fun z => absurd (gn 11 6 (by decide) (by decide) (by decide) (by decide) z) (by decide))).trans g11, (hup_n (fun z => absurd (gn 13 6 (by decide) (by decide) (by decide) (by decide) z) (by decide))).trans g13, (hup_n (fun z => absurd (gn 14 6 (by decide) (by decide) (by decide) (by decide) z) (by decide))).trans g14, (hup_n (fun z => absurd (gn 15 6 (by decide) (by decide) (by decide) (by decide) z) (by decide))).trans g15, (hup_n (fun z => absurd (gn 16 6 (by decide) (by decide) (by decide) (by decide) z) (by decide))).trans g16, (hup_n (fun z => absurd (gn 17 6 (by decide) (by decide) (by decide) (by decide) z) (by decide))).trans g17, (hup_n (fun z => absurd (gn 18 6 (by decide) (by decide) (by decide) (by decide) z) (by decide))).trans g18, gk, gn⟩
theorem Md.r7 (hC : Md kd r M m w t ch ea fl sv bf tn he en ln wr dg v b4 sa pa fr th bs tx li lf to) {f' : Int32 → Int32} : Md kd r (hup M (w 7) (ia 150 f')) m w t ch ea fl sv bf tn he en ln wr dg v b4 f' pa fr th bs tx li lf to := by
  obtain ⟨g0, g5, g6, g7, g8, g9, g10, g11, g13, g14, g15, g16, g17, g18, gk, gn⟩ := hC
  exact ⟨(hup_n (ne_of_cell g0 g7 ob_ia)).trans g0, (hup_n (fun z => absurd (gn 5 7 (by decide) (by decide) (by decide) (by decide) z) (by decide))).trans g5, (hup_n (fun z => absurd (gn 6 7 (by decide) (by decide) (by decide) (by decide) z) (by decide))).trans g6, hup_s, (hup_n (fun z => absurd (gn 8 7 (by decide) (by decide) (by decide) (by decide) z) (by decide))).trans g8, (hup_n (fun z => absurd (gn 9 7 (by decide) (by decide) (by decide) (by decide) z) (by decide))).trans g9, (hup_n (fun z => absurd (gn 10 7 (by decide) (by decide) (by decide) (by decide) z) (by decide))).trans g10, (hup_n (fun z => absurd (gn 11 7 (by decide) (by decide) (by decide) (by decide) z) (by decide))).trans g11, (hup_n (fun z => absurd (gn 13 7 (by decide) (by decide) (by decide) (by decide) z) (by decide))).trans g13, (hup_n (fun z => absurd (gn 14 7 (by decide) (by decide) (by decide) (by decide) z) (by decide))).trans g14, (hup_n (fun z => absurd (gn 15 7 (by decide) (by decide) (by decide) (by decide) z) (by decide))).trans g15, (hup_n (fun z => absurd (gn 16 7 (by decide) (by decide) (by decide) (by decide) z) (by decide))).trans g16, (hup_n (fun z => absurd (gn 17 7 (by decide) (by decide) (by decide) (by decide) z) (by decide))).trans g17, (hup_n (fun z => absurd (gn 18 7 (by decide) (by decide) (by decide) (by decide) z) (by decide))).trans g18, gk, gn⟩
theorem Md.r8 (hC : Md kd r M m w t ch ea fl sv bf tn he en ln wr dg v b4 sa pa fr th bs tx li lf to) {f' : Int32 → Int32} : Md kd r (hup M (w 8) (ia 1200 f')) m w t ch ea fl sv bf tn he en ln wr dg v b4 sa f' fr th bs tx li lf to := by
  obtain ⟨g0, g5, g6, g7, g8, g9, g10, g11, g13, g14, g15, g16, g17, g18, gk, gn⟩ := hC
  exact ⟨(hup_n (ne_of_cell g0 g8 ob_ia)).trans g0, (hup_n (fun z => absurd (gn 5 8 (by decide) (by decide) (by decide) (by decide) z) (by decide))).trans g5, (hup_n (fun z => absurd (gn 6 8 (by decide) (by decide) (by decide) (by decide) z) (by decide))).trans g6, (hup_n (fun z => absurd (gn 7 8 (by decide) (by decide) (by decide) (by decide) z) (by decide))).trans g7, hup_s, (hup_n (fun z => absurd (gn 9 8 (by decide) (by decide) (by decide) (by decide) z) (by decide))).trans g9, (hup_n (fun z => absurd (gn 10 8 (by decide) (by decide) (by decide) (by decide) z) (by decide))).trans g10, (hup_n (fun z => absurd (gn 11 8 (by decide) (by decide) (by decide) (by decide) z) (by decide))).trans g11, (hup_n (fun z => absurd (gn 13 8 (by decide) (by decide) (by decide) (by decide) z) (by decide))).trans g13, (hup_n (fun z => absurd (gn 14 8 (by decide) (by decide) (by decide) (by decide) z) (by decide))).trans g14, (hup_n (fun z => absurd (gn 15 8 (by decide) (by decide) (by decide) (by decide) z) (by decide))).trans g15, (hup_n (fun z => absurd (gn 16 8 (by decide) (by decide) (by decide) (by decide) z) (by decide))).trans g16, (hup_n (fun z => absurd (gn 17 8 (by decide) (by decide) (by decide) (by decide) z) (by decide))).trans g17, (hup_n (fun z => absurd (gn 18 8 (by decide) (by decide) (by decide) (by decide) z) (by decide))).trans g18, gk, gn⟩
theorem Md.r9 (hC : Md kd r M m w t ch ea fl sv bf tn he en ln wr dg v b4 sa pa fr th bs tx li lf to) {f' : Int32 → Int32} : Md kd r (hup M (w 9) (ia 49 f')) m w t ch ea fl sv bf tn he en ln wr dg v b4 sa pa f' th bs tx li lf to := by
  obtain ⟨g0, g5, g6, g7, g8, g9, g10, g11, g13, g14, g15, g16, g17, g18, gk, gn⟩ := hC
  exact ⟨(hup_n (ne_of_cell g0 g9 ob_ia)).trans g0, (hup_n (fun z => absurd (gn 5 9 (by decide) (by decide) (by decide) (by decide) z) (by decide))).trans g5, (hup_n (fun z => absurd (gn 6 9 (by decide) (by decide) (by decide) (by decide) z) (by decide))).trans g6, (hup_n (fun z => absurd (gn 7 9 (by decide) (by decide) (by decide) (by decide) z) (by decide))).trans g7, (hup_n (fun z => absurd (gn 8 9 (by decide) (by decide) (by decide) (by decide) z) (by decide))).trans g8, hup_s, (hup_n (fun z => absurd (gn 10 9 (by decide) (by decide) (by decide) (by decide) z) (by decide))).trans g10, (hup_n (fun z => absurd (gn 11 9 (by decide) (by decide) (by decide) (by decide) z) (by decide))).trans g11, (hup_n (fun z => absurd (gn 13 9 (by decide) (by decide) (by decide) (by decide) z) (by decide))).trans g13, (hup_n (fun z => absurd (gn 14 9 (by decide) (by decide) (by decide) (by decide) z) (by decide))).trans g14, (hup_n (fun z => absurd (gn 15 9 (by decide) (by decide) (by decide) (by decide) z) (by decide))).trans g15, (hup_n (fun z => absurd (gn 16 9 (by decide) (by decide) (by decide) (by decide) z) (by decide))).trans g16, (hup_n (fun z => absurd (gn 17 9 (by decide) (by decide) (by decide) (by decide) z) (by decide))).trans g17, (hup_n (fun z => absurd (gn 18 9 (by decide) (by decide) (by decide) (by decide) z) (by decide))).trans g18, gk, gn⟩
theorem Md.r10 (hC : Md kd r M m w t ch ea fl sv bf tn he en ln wr dg v b4 sa pa fr th bs tx li lf to) {f' : Int32 → Int32} : Md kd r (hup M (w 10) (ia 12 f')) m w t ch ea fl sv bf tn he en ln wr dg v b4 sa pa fr f' bs tx li lf to := by
  obtain ⟨g0, g5, g6, g7, g8, g9, g10, g11, g13, g14, g15, g16, g17, g18, gk, gn⟩ := hC
  exact ⟨(hup_n (ne_of_cell g0 g10 ob_ia)).trans g0, (hup_n (fun z => absurd (gn 5 10 (by decide) (by decide) (by decide) (by decide) z) (by decide))).trans g5, (hup_n (fun z => absurd (gn 6 10 (by decide) (by decide) (by decide) (by decide) z) (by decide))).trans g6, (hup_n (fun z => absurd (gn 7 10 (by decide) (by decide) (by decide) (by decide) z) (by decide))).trans g7, (hup_n (fun z => absurd (gn 8 10 (by decide) (by decide) (by decide) (by decide) z) (by decide))).trans g8, (hup_n (fun z => absurd (gn 9 10 (by decide) (by decide) (by decide) (by decide) z) (by decide))).trans g9, hup_s, (hup_n (fun z => absurd (gn 11 10 (by decide) (by decide) (by decide) (by decide) z) (by decide))).trans g11, (hup_n (fun z => absurd (gn 13 10 (by decide) (by decide) (by decide) (by decide) z) (by decide))).trans g13, (hup_n (fun z => absurd (gn 14 10 (by decide) (by decide) (by decide) (by decide) z) (by decide))).trans g14, (hup_n (fun z => absurd (gn 15 10 (by decide) (by decide) (by decide) (by decide) z) (by decide))).trans g15, (hup_n (fun z => absurd (gn 16 10 (by decide) (by decide) (by decide) (by decide) z) (by decide))).trans g16, (hup_n (fun z => absurd (gn 17 10 (by decide) (by decide) (by decide) (by decide) z) (by decide))).trans g17, (hup_n (fun z => absurd (gn 18 10 (by decide) (by decide) (by decide) (by decide) z) (by decide))).trans g18, gk, gn⟩
theorem Md.r11 (hC : Md kd r M m w t ch ea fl sv bf tn he en ln wr dg v b4 sa pa fr th bs tx li lf to) {f' : Int32 → Int32} : Md kd r (hup M (w 11) (ia 896 f')) m w t ch ea fl sv bf tn he en ln wr dg v b4 sa pa fr th f' tx li lf to := by
  obtain ⟨g0, g5, g6, g7, g8, g9, g10, g11, g13, g14, g15, g16, g17, g18, gk, gn⟩ := hC
  exact ⟨(hup_n (ne_of_cell g0 g11 ob_ia)).trans g0, (hup_n (fun z => absurd (gn 5 11 (by decide) (by decide) (by decide) (by decide) z) (by decide))).trans g5, (hup_n (fun z => absurd (gn 6 11 (by decide) (by decide) (by decide) (by decide) z) (by decide))).trans g6, (hup_n (fun z => absurd (gn 7 11 (by decide) (by decide) (by decide) (by decide) z) (by decide))).trans g7, (hup_n (fun z => absurd (gn 8 11 (by decide) (by decide) (by decide) (by decide) z) (by decide))).trans g8, (hup_n (fun z => absurd (gn 9 11 (by decide) (by decide) (by decide) (by decide) z) (by decide))).trans g9, (hup_n (fun z => absurd (gn 10 11 (by decide) (by decide) (by decide) (by decide) z) (by decide))).trans g10, hup_s, (hup_n (fun z => absurd (gn 13 11 (by decide) (by decide) (by decide) (by decide) z) (by decide))).trans g13, (hup_n (fun z => absurd (gn 14 11 (by decide) (by decide) (by decide) (by decide) z) (by decide))).trans g14, (hup_n (fun z => absurd (gn 15 11 (by decide) (by decide) (by decide) (by decide) z) (by decide))).trans g15, (hup_n (fun z => absurd (gn 16 11 (by decide) (by decide) (by decide) (by decide) z) (by decide))).trans g16, (hup_n (fun z => absurd (gn 17 11 (by decide) (by decide) (by decide) (by decide) z) (by decide))).trans g17, (hup_n (fun z => absurd (gn 18 11 (by decide) (by decide) (by decide) (by decide) z) (by decide))).trans g18, gk, gn⟩
theorem Md.r13 (hC : Md kd r M m w t ch ea fl sv bf tn he en ln wr dg v b4 sa pa fr th bs tx li lf to) {f' : Int32 → Int32} : Md kd r (hup M (w 13) (ia 60 f')) m w t ch ea fl sv bf tn he en ln wr dg v b4 sa pa fr th bs f' li lf to := by
  obtain ⟨g0, g5, g6, g7, g8, g9, g10, g11, g13, g14, g15, g16, g17, g18, gk, gn⟩ := hC
  exact ⟨(hup_n (ne_of_cell g0 g13 ob_ia)).trans g0, (hup_n (fun z => absurd (gn 5 13 (by decide) (by decide) (by decide) (by decide) z) (by decide))).trans g5, (hup_n (fun z => absurd (gn 6 13 (by decide) (by decide) (by decide) (by decide) z) (by decide))).trans g6, (hup_n (fun z => absurd (gn 7 13 (by decide) (by decide) (by decide) (by decide) z) (by decide))).trans g7, (hup_n (fun z => absurd (gn 8 13 (by decide) (by decide) (by decide) (by decide) z) (by decide))).trans g8, (hup_n (fun z => absurd (gn 9 13 (by decide) (by decide) (by decide) (by decide) z) (by decide))).trans g9, (hup_n (fun z => absurd (gn 10 13 (by decide) (by decide) (by decide) (by decide) z) (by decide))).trans g10, (hup_n (fun z => absurd (gn 11 13 (by decide) (by decide) (by decide) (by decide) z) (by decide))).trans g11, hup_s, (hup_n (fun z => absurd (gn 14 13 (by decide) (by decide) (by decide) (by decide) z) (by decide))).trans g14, (hup_n (fun z => absurd (gn 15 13 (by decide) (by decide) (by decide) (by decide) z) (by decide))).trans g15, (hup_n (fun z => absurd (gn 16 13 (by decide) (by decide) (by decide) (by decide) z) (by decide))).trans g16, (hup_n (fun z => absurd (gn 17 13 (by decide) (by decide) (by decide) (by decide) z) (by decide))).trans g17, (hup_n (fun z => absurd (gn 18 13 (by decide) (by decide) (by decide) (by decide) z) (by decide))).trans g18, gk, gn⟩
theorem Md.r14 (hC : Md kd r M m w t ch ea fl sv bf tn he en ln wr dg v b4 sa pa fr th bs tx li lf to) {f' : Int32 → Int32} : Md kd r (hup M (w 14) (ia 120 f')) m w t ch ea fl sv bf tn he en ln wr dg v b4 sa pa fr th bs tx f' lf to := by
  obtain ⟨g0, g5, g6, g7, g8, g9, g10, g11, g13, g14, g15, g16, g17, g18, gk, gn⟩ := hC
  exact ⟨(hup_n (ne_of_cell g0 g14 ob_ia)).trans g0, (hup_n (fun z => absurd (gn 5 14 (by decide) (by decide) (by decide) (by decide) z) (by decide))).trans g5, (hup_n (fun z => absurd (gn 6 14 (by decide) (by decide) (by decide) (by decide) z) (by decide))).trans g6, (hup_n (fun z => absurd (gn 7 14 (by decide) (by decide) (by decide) (by decide) z) (by decide))).trans g7, (hup_n (fun z => absurd (gn 8 14 (by decide) (by decide) (by decide) (by decide) z) (by decide))).trans g8, (hup_n (fun z => absurd (gn 9 14 (by decide) (by decide) (by decide) (by decide) z) (by decide))).trans g9, (hup_n (fun z => absurd (gn 10 14 (by decide) (by decide) (by decide) (by decide) z) (by decide))).trans g10, (hup_n (fun z => absurd (gn 11 14 (by decide) (by decide) (by decide) (by decide) z) (by decide))).trans g11, (hup_n (fun z => absurd (gn 13 14 (by decide) (by decide) (by decide) (by decide) z) (by decide))).trans g13, hup_s, (hup_n (fun z => absurd (gn 15 14 (by decide) (by decide) (by decide) (by decide) z) (by decide))).trans g15, (hup_n (fun z => absurd (gn 16 14 (by decide) (by decide) (by decide) (by decide) z) (by decide))).trans g16, (hup_n (fun z => absurd (gn 17 14 (by decide) (by decide) (by decide) (by decide) z) (by decide))).trans g17, (hup_n (fun z => absurd (gn 18 14 (by decide) (by decide) (by decide) (by decide) z) (by decide))).trans g18, gk, gn⟩
theorem Md.r15 (hC : Md kd r M m w t ch ea fl sv bf tn he en ln wr dg v b4 sa pa fr th bs tx li lf to) {f' : Int32 → Int32} : Md kd r (hup M (w 15) (ia 10 f')) m w t ch ea fl sv bf tn he en ln wr dg v b4 sa pa fr th bs tx li f' to := by
  obtain ⟨g0, g5, g6, g7, g8, g9, g10, g11, g13, g14, g15, g16, g17, g18, gk, gn⟩ := hC
  exact ⟨(hup_n (ne_of_cell g0 g15 ob_ia)).trans g0, (hup_n (fun z => absurd (gn 5 15 (by decide) (by decide) (by decide) (by decide) z) (by decide))).trans g5, (hup_n (fun z => absurd (gn 6 15 (by decide) (by decide) (by decide) (by decide) z) (by decide))).trans g6, (hup_n (fun z => absurd (gn 7 15 (by decide) (by decide) (by decide) (by decide) z) (by decide))).trans g7, (hup_n (fun z => absurd (gn 8 15 (by decide) (by decide) (by decide) (by decide) z) (by decide))).trans g8, (hup_n (fun z => absurd (gn 9 15 (by decide) (by decide) (by decide) (by decide) z) (by decide))).trans g9, (hup_n (fun z => absurd (gn 10 15 (by decide) (by decide) (by decide) (by decide) z) (by decide))).trans g10, (hup_n (fun z => absurd (gn 11 15 (by decide) (by decide) (by decide) (by decide) z) (by decide))).trans g11, (hup_n (fun z => absurd (gn 13 15 (by decide) (by decide) (by decide) (by decide) z) (by decide))).trans g13, (hup_n (fun z => absurd (gn 14 15 (by decide) (by decide) (by decide) (by decide) z) (by decide))).trans g14, hup_s, (hup_n (fun z => absurd (gn 16 15 (by decide) (by decide) (by decide) (by decide) z) (by decide))).trans g16, (hup_n (fun z => absurd (gn 17 15 (by decide) (by decide) (by decide) (by decide) z) (by decide))).trans g17, (hup_n (fun z => absurd (gn 18 15 (by decide) (by decide) (by decide) (by decide) z) (by decide))).trans g18, gk, gn⟩
theorem Md.r16 (hC : Md kd r M m w t ch ea fl sv bf tn he en ln wr dg v b4 sa pa fr th bs tx li lf to) {f' : Int32 → Int32} : Md kd r (hup M (w 16) (ia 6 f')) m w t ch ea fl sv bf tn he en ln wr dg v b4 sa pa fr th bs tx li lf f' := by
  obtain ⟨g0, g5, g6, g7, g8, g9, g10, g11, g13, g14, g15, g16, g17, g18, gk, gn⟩ := hC
  exact ⟨(hup_n (ne_of_cell g0 g16 ob_ia)).trans g0, (hup_n (fun z => absurd (gn 5 16 (by decide) (by decide) (by decide) (by decide) z) (by decide))).trans g5, (hup_n (fun z => absurd (gn 6 16 (by decide) (by decide) (by decide) (by decide) z) (by decide))).trans g6, (hup_n (fun z => absurd (gn 7 16 (by decide) (by decide) (by decide) (by decide) z) (by decide))).trans g7, (hup_n (fun z => absurd (gn 8 16 (by decide) (by decide) (by decide) (by decide) z) (by decide))).trans g8, (hup_n (fun z => absurd (gn 9 16 (by decide) (by decide) (by decide) (by decide) z) (by decide))).trans g9, (hup_n (fun z => absurd (gn 10 16 (by decide) (by decide) (by decide) (by decide) z) (by decide))).trans g10, (hup_n (fun z => absurd (gn 11 16 (by decide) (by decide) (by decide) (by decide) z) (by decide))).trans g11, (hup_n (fun z => absurd (gn 13 16 (by decide) (by decide) (by decide) (by decide) z) (by decide))).trans g13, (hup_n (fun z => absurd (gn 14 16 (by decide) (by decide) (by decide) (by decide) z) (by decide))).trans g14, (hup_n (fun z => absurd (gn 15 16 (by decide) (by decide) (by decide) (by decide) z) (by decide))).trans g15, hup_s, (hup_n (fun z => absurd (gn 17 16 (by decide) (by decide) (by decide) (by decide) z) (by decide))).trans g17, (hup_n (fun z => absurd (gn 18 16 (by decide) (by decide) (by decide) (by decide) z) (by decide))).trans g18, gk, gn⟩
end MD
section VMD
variable {l : Launch} {g : Nat → Nat} {y : MethodName} {cc : ByteArray} {rt : Option FieldType} {tb : List ExceptionTableEntry} {L mc ms : Nat} {Po : Res → LH → Prop} {X : CX} {M : LH} {k n pc : Nat} {ls : List (Option Value)} {rest : List Value}
theorem V.md {kd : Nat → Nat} {r m : Nat} {w : Nat → Nat} {t ch ea fl sv bf tn he en ln wr dg : Int32} {v b4 sa pa fr th bs tx li lf to : Int32 → Int32} {M0 : LH} (hC : Md kd r M m w t ch ea fl sv bf tn he en ln wr dg v b4 sa pa fr th bs tx li lf to) (hF : Frm kd r M0 M) (H : ∀ M1 : LH, Md kd r M1 m w t ch ea fl sv bf tn he en ln wr dg v b4 sa pa fr th bs tx li lf to → Frm kd r M0 M1 → V l g y cc rt tb L mc ms Po X (M1) (k) (n) (pc) (ls) (rest)) : V l g y cc rt tb L mc ms Po X (M) (k) (n) (pc) (ls) (rest) := H M hC hF
end VMD
theorem dX12_thrown_0 : decode cX12_thrown 0 = .ok (.aload_n 0, 1) := by decide +kernel
theorem dX12_thrown_1 : decode cX12_thrown 1 = .ok (.getfield 56, 3) := by decide +kernel
theorem dX12_thrown_4 : decode cX12_thrown 4 = .ok (.ireturn, 1) := by decide +kernel
set_option maxRecDepth 100000 in
set_option maxHeartbeats 4000000 in
theorem r_thrown {l : Launch} {g : Nat → Nat} {M : LH} (htr : l.stackTraces = false) {kd : Nat → Nat} {r m : Nat} {w : Nat → Nat} {t ch ea fl sv bf tn he en ln wr dg : Int32} {v b4 sa pa fr th bs tx li lf to : Int32 → Int32} (hC : Md kd r M m w t ch ea fl sv bf tn he en ln wr dg v b4 sa pa fr th bs tx li lf to) : K_X12_thrown l g 0 0 0 [.ref m] M (RI (fun x M9 => x = t ∧ M9 = M) nX) := by
  refine Ko_X12_thrown htr (fun X => ?_)
  obtain ⟨hMo, hw5, hw6, hw7, hw8, hw9, hw10, hw11, hw13, hw14, hw15, hw16, hw17, hw18, -⟩ := _root_.id hC
  have hF : Frm kd r M M := Frm.rf
  refine v_aload_n dX12_thrown_0 rfl rfl ?_
  refine gf_X12_56 dX12_thrown_1 rfl hMo ?_
  exact v_iret dX12_thrown_4 rfl ⟨rfl, rfl⟩ (by omega) (by omega)
theorem dX12_fail_0 : decode cX12_fail 0 = .ok (.aload_n 0, 1) := by decide +kernel
theorem dX12_fail_1 : decode cX12_fail 1 = .ok (.iload_n 1, 1) := by decide +kernel
theorem dX12_fail_2 : decode cX12_fail 2 = .ok (.putfield 56, 3) := by decide +kernel
theorem dX12_fail_5 : decode cX12_fail 5 = .ok (.iconst 0, 1) := by decide +kernel
theorem dX12_fail_6 : decode cX12_fail 6 = .ok (.ireturn, 1) := by decide +kernel
set_option maxRecDepth 100000 in
set_option maxHeartbeats 4000000 in
theorem r_fail {l : Launch} {g : Nat → Nat} {M : LH} (htr : l.stackTraces = false) {kd : Nat → Nat} {r m : Nat} {w : Nat → Nat} {t ch ea fl sv bf tn he en ln wr dg : Int32} {v b4 sa pa fr th bs tx li lf to : Int32 → Int32} (hC : Md kd r M m w t ch ea fl sv bf tn he en ln wr dg v b4 sa pa fr th bs tx li lf to) (p : Int32) : K_X12_fail l g 0 0 0 [.ref m, .int p] M (RI (fun x M9 => x = 0 ∧ Md kd r M9 m w p ch ea fl sv bf tn he en ln wr dg v b4 sa pa fr th bs tx li lf to ∧ Frm kd r M M9) nX) := by
  refine Ko_X12_fail htr (fun X => ?_)
  obtain ⟨hMo, hw5, hw6, hw7, hw8, hw9, hw10, hw11, hw13, hw14, hw15, hw16, hw17, hw18, -⟩ := _root_.id hC
  have hF : Frm kd r M M := Frm.rf
  refine v_aload_n dX12_fail_0 rfl rfl ?_
  refine v_iload_n dX12_fail_1 rfl rfl ?_
  refine pf_X12_56 dX12_fail_2 rfl hMo ?_
  refine V.md (Md.sc hC) (Frm.tr hF (Frm.up (hC.kd_sc))) (fun M1 hC hF => ?_)
  obtain ⟨hMo, hw5, hw6, hw7, hw8, hw9, hw10, hw11, hw13, hw14, hw15, hw16, hw17, hw18, -⟩ := _root_.id hC
  refine v_iconst (v := 0) dX12_fail_5 (by decide) ?_
  exact v_iret dX12_fail_6 rfl ⟨rfl, hC, hF⟩ (by omega) (by omega)
theorem dX12_isIn_0 : decode cX12_isIn 0 = .ok (.iload_n 0, 1) := by decide +kernel
theorem dX12_isIn_1 : decode cX12_isIn 1 = .ok (.iload_n 1, 1) := by decide +kernel
theorem dX12_isIn_2 : decode cX12_isIn 2 = .ok (.if_icmp .lt 12, 3) := by decide +kernel
theorem dX12_isIn_5 : decode cX12_isIn 5 = .ok (.iload_n 0, 1) := by decide +kernel
theorem dX12_isIn_6 : decode cX12_isIn 6 = .ok (.iload_n 2, 1) := by decide +kernel
theorem dX12_isIn_7 : decode cX12_isIn 7 = .ok (.if_icmp .gt 7, 3) := by decide +kernel
theorem dX12_isIn_10 : decode cX12_isIn 10 = .ok (.iconst 1, 1) := by decide +kernel
theorem dX12_isIn_11 : decode cX12_isIn 11 = .ok (.goto 4, 3) := by decide +kernel
theorem dX12_isIn_14 : decode cX12_isIn 14 = .ok (.iconst 0, 1) := by decide +kernel
theorem dX12_isIn_15 : decode cX12_isIn 15 = .ok (.ireturn, 1) := by decide +kernel
set_option maxRecDepth 100000 in
set_option maxHeartbeats 4000000 in
theorem r_isIn {l : Launch} {g : Nat → Nat} {M : LH} (htr : l.stackTraces = false) (x p q : Int32) : K_X12_isIn l g 0 0 0 [.int x, .int p, .int q] M (RI (fun v M9 => v = (if p ≤ x ∧ x ≤ q then 1 else 0) ∧ M9 = M) nX) := by
  refine Ko_X12_isIn htr (fun X => ?_)
  refine v_iload_n dX12_isIn_0 rfl rfl ?_
  refine v_iload_n dX12_isIn_1 rfl rfl ?_
  refine v_icmp_lt (tgt := 14) dX12_isIn_2 (by decide) (fun h2 => ?_) (fun h2 => ?_)
  · refine v_iconst (v := 0) dX12_isIn_14 (by decide) ?_
    exact v_zret dX12_isIn_15 rfl (by first | rfl | assumption) ⟨by grind, rfl⟩ (by omega) (by omega)
  · refine v_iload_n dX12_isIn_5 rfl rfl ?_
    refine v_iload_n dX12_isIn_6 rfl rfl ?_
    refine v_icmp_gt (tgt := 14) dX12_isIn_7 (by decide) (fun h7 => ?_) (fun h7 => ?_)
    · refine v_iconst (v := 0) dX12_isIn_14 (by decide) ?_
      exact v_zret dX12_isIn_15 rfl (by first | rfl | assumption) ⟨by grind, rfl⟩ (by omega) (by omega)
    · refine v_iconst (v := 1) dX12_isIn_10 (by decide) ?_
      refine v_goto (tgt := 15) dX12_isIn_11 (by decide) ?_
      exact v_zret dX12_isIn_15 rfl (by first | rfl | assumption) ⟨by grind, rfl⟩ (by omega) (by omega)
theorem dX12_in_0 : decode cX12_in 0 = .ok (.bipush 57, 2) := by decide +kernel
theorem dX12_in_2 : decode cX12_in 2 = .ok (.iconst 3, 1) := by decide +kernel
theorem dX12_in_3 : decode cX12_in 3 = .ok (.iload_n 0, 1) := by decide +kernel
theorem dX12_in_4 : decode cX12_in 4 = .ok (.imul, 1) := by decide +kernel
theorem dX12_in_5 : decode cX12_in 5 = .ok (.iadd, 1) := by decide +kernel
theorem dX12_in_6 : decode cX12_in 6 = .ok (.iload_n 1, 1) := by decide +kernel
theorem dX12_in_7 : decode cX12_in 7 = .ok (.iadd, 1) := by decide +kernel
theorem dX12_in_8 : decode cX12_in 8 = .ok (.ireturn, 1) := by decide +kernel
set_option maxRecDepth 100000 in
set_option maxHeartbeats 4000000 in
theorem r_in {l : Launch} {g : Nat → Nat} {M : LH} (htr : l.stackTraces = false) (k z : Int32) : K_X12_in l g 0 0 0 [.int k, .int z] M (RI (fun v M9 => v = 57 + 3 * k + z ∧ M9 = M) nX) := by
  refine Ko_X12_in htr (fun X => ?_)
  refine v_bipush (v := (57)) dX12_in_0 (by decide) ?_
  refine v_iconst (v := 3) dX12_in_2 (by decide) ?_
  refine v_iload_n dX12_in_3 rfl rfl ?_
  refine v_imul dX12_in_4 ?_
  refine v_iadd dX12_in_5 ?_
  refine v_iload_n dX12_in_6 rfl rfl ?_
  refine v_iadd dX12_in_7 ?_
  exact v_iret dX12_in_8 rfl ⟨rfl, rfl⟩ (by omega) (by omega)
theorem dX12_of_0 : decode cX12_of 0 = .ok (.bipush 66, 2) := by decide +kernel
theorem dX12_of_2 : decode cX12_of 2 = .ok (.bipush 7, 2) := by decide +kernel
theorem dX12_of_4 : decode cX12_of 4 = .ok (.iload_n 0, 1) := by decide +kernel
theorem dX12_of_5 : decode cX12_of 5 = .ok (.imul, 1) := by decide +kernel
theorem dX12_of_6 : decode cX12_of 6 = .ok (.iadd, 1) := by decide +kernel
theorem dX12_of_7 : decode cX12_of 7 = .ok (.iload_n 1, 1) := by decide +kernel
theorem dX12_of_8 : decode cX12_of 8 = .ok (.iadd, 1) := by decide +kernel
theorem dX12_of_9 : decode cX12_of 9 = .ok (.ireturn, 1) := by decide +kernel
set_option maxRecDepth 100000 in
set_option maxHeartbeats 4000000 in
theorem r_of {l : Launch} {g : Nat → Nat} {M : LH} (htr : l.stackTraces = false) (k z : Int32) : K_X12_of l g 0 0 0 [.int k, .int z] M (RI (fun v M9 => v = 66 + 7 * k + z ∧ M9 = M) nX) := by
  refine Ko_X12_of htr (fun X => ?_)
  refine v_bipush (v := (66)) dX12_of_0 (by decide) ?_
  refine v_bipush (v := (7)) dX12_of_2 (by decide) ?_
  refine v_iload_n dX12_of_4 rfl rfl ?_
  refine v_imul dX12_of_5 ?_
  refine v_iadd dX12_of_6 ?_
  refine v_iload_n dX12_of_7 rfl rfl ?_
  refine v_iadd dX12_of_8 ?_
  exact v_iret dX12_of_9 rfl ⟨rfl, rfl⟩ (by omega) (by omega)
theorem dX12_isStation_0 : decode cX12_isStation 0 = .ok (.iload_n 1, 1) := by decide +kernel
theorem dX12_isStation_1 : decode cX12_isStation 1 = .ok (.iconst 0, 1) := by decide +kernel
theorem dX12_isStation_2 : decode cX12_isStation 2 = .ok (.aload_n 0, 1) := by decide +kernel
theorem dX12_isStation_3 : decode cX12_isStation 3 = .ok (.getfield 16, 3) := by decide +kernel
theorem dX12_isStation_6 : decode cX12_isStation 6 = .ok (.iconst 5, 1) := by decide +kernel
theorem dX12_isStation_7 : decode cX12_isStation 7 = .ok (.iaload, 1) := by decide +kernel
theorem dX12_isStation_8 : decode cX12_isStation 8 = .ok (.iconst 1, 1) := by decide +kernel
theorem dX12_isStation_9 : decode cX12_isStation 9 = .ok (.isub, 1) := by decide +kernel
theorem dX12_isStation_10 : decode cX12_isStation 10 = .ok (.invokestatic 66, 3) := by decide +kernel
theorem dX12_isStation_13 : decode cX12_isStation 13 = .ok (.ireturn, 1) := by decide +kernel
set_option maxRecDepth 100000 in
set_option maxHeartbeats 4000000 in
theorem r_isStation {l : Launch} {g : Nat → Nat} {M : LH} (htr : l.stackTraces = false) {kd : Nat → Nat} {r m : Nat} {w : Nat → Nat} {t ch ea fl sv bf tn he en ln wr dg : Int32} {v b4 sa pa fr th bs tx li lf to : Int32 → Int32} (hC : Md kd r M m w t ch ea fl sv bf tn he en ln wr dg v b4 sa pa fr th bs tx li lf to) (hG : Good v) (s : Int32) : K_X12_isStation l g 1 0 0 [.ref m, .int s] M (RI (fun x M9 => x = (if hst v s then 1 else 0) ∧ M9 = M) nX) := by
  refine Ko_X12_isStation htr (fun X => ?_)
  obtain ⟨hMo, hw5, hw6, hw7, hw8, hw9, hw10, hw11, hw13, hw14, hw15, hw16, hw17, hw18, -⟩ := _root_.id hC
  have hF : Frm kd r M M := Frm.rf
  obtain ⟨hg1, hg2, hg3, hg4, hg5, hg6, hg7, hg8, hgL, hgS, -⟩ := _root_.id hG
  clear hgL hgS
  refine v_iload_n dX12_isStation_0 rfl rfl ?_
  refine v_iconst (v := 0) dX12_isStation_1 (by decide) ?_
  refine v_aload_n dX12_isStation_2 rfl rfl ?_
  refine gf_X12_16 dX12_isStation_3 rfl hMo ?_
  refine v_iconst (v := 5) dX12_isStation_6 (by decide) ?_
  refine v_iald dX12_isStation_7 hw5 (by lia) (by lia) ?_
  refine v_iconst (v := 1) dX12_isStation_8 (by decide) ?_
  refine v_isub dX12_isStation_9 ?_
  refine k_X12_66 dX12_isStation_10 rfl (r_isIn htr s 0 _) (Nat.le_of_ble_eq_true rfl) (by omega) (by omega) (Nat.le_of_ble_eq_true rfl) (fun r10 M9 h9 => ?_) (fun _ _ h9 => h9.elim)
  obtain ⟨rfl, e9⟩ := h9
  subst M9
  exact v_zret dX12_isStation_13 rfl (by split <;> rfl)  ⟨by (unfold hst; congr 1; exact propext ⟨fun z => ⟨z.1, by have z2 := z.2; lia⟩, fun z => ⟨z.1, by have z2 := z.2; lia⟩⟩), rfl⟩ (by omega) (by omega)
theorem dX12_isSledge_0 : decode cX12_isSledge 0 = .ok (.iload_n 1, 1) := by decide +kernel
theorem dX12_isSledge_1 : decode cX12_isSledge 1 = .ok (.iconst 0, 1) := by decide +kernel
theorem dX12_isSledge_2 : decode cX12_isSledge 2 = .ok (.aload_n 0, 1) := by decide +kernel
theorem dX12_isSledge_3 : decode cX12_isSledge 3 = .ok (.getfield 16, 3) := by decide +kernel
theorem dX12_isSledge_6 : decode cX12_isSledge 6 = .ok (.bipush 6, 2) := by decide +kernel
theorem dX12_isSledge_8 : decode cX12_isSledge 8 = .ok (.iaload, 1) := by decide +kernel
theorem dX12_isSledge_9 : decode cX12_isSledge 9 = .ok (.iconst 1, 1) := by decide +kernel
theorem dX12_isSledge_10 : decode cX12_isSledge 10 = .ok (.isub, 1) := by decide +kernel
theorem dX12_isSledge_11 : decode cX12_isSledge 11 = .ok (.invokestatic 66, 3) := by decide +kernel
theorem dX12_isSledge_14 : decode cX12_isSledge 14 = .ok (.ireturn, 1) := by decide +kernel
set_option maxRecDepth 100000 in
set_option maxHeartbeats 4000000 in
theorem r_isSledge {l : Launch} {g : Nat → Nat} {M : LH} (htr : l.stackTraces = false) {kd : Nat → Nat} {r m : Nat} {w : Nat → Nat} {t ch ea fl sv bf tn he en ln wr dg : Int32} {v b4 sa pa fr th bs tx li lf to : Int32 → Int32} (hC : Md kd r M m w t ch ea fl sv bf tn he en ln wr dg v b4 sa pa fr th bs tx li lf to) (hG : Good v) (s : Int32) : K_X12_isSledge l g 1 0 0 [.ref m, .int s] M (RI (fun x M9 => x = (if hsl v s then 1 else 0) ∧ M9 = M) nX) := by
  refine Ko_X12_isSledge htr (fun X => ?_)
  obtain ⟨hMo, hw5, hw6, hw7, hw8, hw9, hw10, hw11, hw13, hw14, hw15, hw16, hw17, hw18, -⟩ := _root_.id hC
  have hF : Frm kd r M M := Frm.rf
  obtain ⟨hg1, hg2, hg3, hg4, hg5, hg6, hg7, hg8, hgL, hgS, -⟩ := _root_.id hG
  clear hgL hgS
  refine v_iload_n dX12_isSledge_0 rfl rfl ?_
  refine v_iconst (v := 0) dX12_isSledge_1 (by decide) ?_
  refine v_aload_n dX12_isSledge_2 rfl rfl ?_
  refine gf_X12_16 dX12_isSledge_3 rfl hMo ?_
  refine v_bipush (v := (6)) dX12_isSledge_6 (by decide) ?_
  refine v_iald dX12_isSledge_8 hw5 (by lia) (by lia) ?_
  refine v_iconst (v := 1) dX12_isSledge_9 (by decide) ?_
  refine v_isub dX12_isSledge_10 ?_
  refine k_X12_66 dX12_isSledge_11 rfl (r_isIn htr s 0 _) (Nat.le_of_ble_eq_true rfl) (by omega) (by omega) (Nat.le_of_ble_eq_true rfl) (fun r11 M9 h9 => ?_) (fun _ _ h9 => h9.elim)
  obtain ⟨rfl, e9⟩ := h9
  subst M9
  exact v_zret dX12_isSledge_14 rfl (by split <;> rfl)  ⟨by (unfold hsl; congr 1; exact propext ⟨fun z => ⟨z.1, by have z2 := z.2; lia⟩, fun z => ⟨z.1, by have z2 := z.2; lia⟩⟩), rfl⟩ (by omega) (by omega)
theorem dX12_find_0 : decode cX12_find 0 = .ok (.iconst 0, 1) := by decide +kernel
theorem dX12_find_1 : decode cX12_find 1 = .ok (.istore_n 2, 1) := by decide +kernel
theorem dX12_find_2 : decode cX12_find 2 = .ok (.iload_n 2, 1) := by decide +kernel
theorem dX12_find_3 : decode cX12_find 3 = .ok (.aload_n 0, 1) := by decide +kernel
theorem dX12_find_4 : decode cX12_find 4 = .ok (.getfield 16, 3) := by decide +kernel
theorem dX12_find_7 : decode cX12_find 7 = .ok (.bipush 7, 2) := by decide +kernel
theorem dX12_find_9 : decode cX12_find 9 = .ok (.iaload, 1) := by decide +kernel
theorem dX12_find_10 : decode cX12_find 10 = .ok (.if_icmp .ge 25, 3) := by decide +kernel
theorem dX12_find_13 : decode cX12_find 13 = .ok (.aload_n 0, 1) := by decide +kernel
theorem dX12_find_14 : decode cX12_find 14 = .ok (.getfield 16, 3) := by decide +kernel
theorem dX12_find_17 : decode cX12_find 17 = .ok (.iload_n 2, 1) := by decide +kernel
theorem dX12_find_18 : decode cX12_find 18 = .ok (.iconst 0, 1) := by decide +kernel
theorem dX12_find_19 : decode cX12_find 19 = .ok (.invokestatic 70, 3) := by decide +kernel
theorem dX12_find_22 : decode cX12_find 22 = .ok (.iaload, 1) := by decide +kernel
theorem dX12_find_23 : decode cX12_find 23 = .ok (.iload_n 1, 1) := by decide +kernel
theorem dX12_find_24 : decode cX12_find 24 = .ok (.if_icmp .ne 5, 3) := by decide +kernel
theorem dX12_find_27 : decode cX12_find 27 = .ok (.iload_n 2, 1) := by decide +kernel
theorem dX12_find_28 : decode cX12_find 28 = .ok (.ireturn, 1) := by decide +kernel
theorem dX12_find_29 : decode cX12_find 29 = .ok (.iinc 2 1, 3) := by decide +kernel
theorem dX12_find_32 : decode cX12_find 32 = .ok (.goto (-30), 3) := by decide +kernel
theorem dX12_find_35 : decode cX12_find 35 = .ok (.iconst (-1), 1) := by decide +kernel
theorem dX12_find_36 : decode cX12_find 36 = .ok (.ireturn, 1) := by decide +kernel
set_option maxRecDepth 100000 in
set_option maxHeartbeats 4000000 in
theorem r_find {l : Launch} {g : Nat → Nat} {M : LH} (htr : l.stackTraces = false) {kd : Nat → Nat} {r m : Nat} {w : Nat → Nat} {t ch ea fl sv bf tn he en ln wr dg : Int32} {v b4 sa pa fr th bs tx li lf to : Int32 → Int32} (hC : Md kd r M m w t ch ea fl sv bf tn he en ln wr dg v b4 sa pa fr th bs tx li lf to) (hG : Good v) (id : Int32) : K_X12_find l g 1 0 0 [.ref m, .int id] M (RI (fun x M9 => x = find v id ∧ M9 = M) nX) := by
  refine Ko_X12_find htr (fun X => ?_)
  obtain ⟨hMo, hw5, hw6, hw7, hw8, hw9, hw10, hw11, hw13, hw14, hw15, hw16, hw17, hw18, -⟩ := _root_.id hC
  have hF : Frm kd r M M := Frm.rf
  obtain ⟨hg1, hg2, hg3, hg4, hg5, hg6, hg7, hg8, hgL, hgS, -⟩ := _root_.id hG
  clear hgL hgS
  have key : ∀ i, 0 ≤ i → i ≤ v 7 → find v id = fstU (fun i => decide (lt v i 0 = id)) (v 7) i → V l g yX12_find cX12_find ((some .int)) [] 1 0 0 (RI (fun x M9 => x = find v id ∧ M9 = M) nX) X M 0 0 2 [some (.ref m), some (.int id), some (.int i)] [] := by
    refine up_ind _ (fun i h0 h1 ih hv => ?_)
    refine v_iload_n dX12_find_2 rfl rfl ?_
    refine v_aload_n dX12_find_3 rfl rfl ?_
    refine gf_X12_16 dX12_find_4 rfl hMo ?_
    refine v_bipush (v := (7)) dX12_find_7 (by decide) ?_
    refine v_iald dX12_find_9 hw5 (by lia) (by lia) ?_
    refine v_icmp_ge (tgt := 35) dX12_find_10 (by decide) (fun h10 => ?_) (fun h10 => ?_)
    · have hi : i = v 7 := by clear ih hv; lia
      subst hi
      refine v_iconst (v := (-1)) dX12_find_35 (by decide) ?_
      exact v_iret dX12_find_36 rfl ⟨(hv.trans (fstU_n _ _)).symm, rfl⟩ (by omega) (by omega)
    · have hi : i < v 7 := by clear ih hv; lia
      have hi12 : i < 12 := by clear ih hv; lia
      rw [fstU_1 h0 hi] at hv
      refine v_aload_n dX12_find_13 rfl rfl ?_
      refine gf_X12_16 dX12_find_14 rfl hMo ?_
      refine v_iload_n dX12_find_17 rfl rfl ?_
      refine v_iconst (v := 0) dX12_find_18 (by decide) ?_
      refine k_X12_70 dX12_find_19 rfl (r_of htr i 0) (Nat.le_of_ble_eq_true rfl) (by omega) (by omega) (Nat.le_of_ble_eq_true rfl) (fun r19 M9 h9 => ?_) (fun _ _ h9 => h9.elim)
      obtain ⟨rfl, e9⟩ := h9
      subst M9
      refine v_iald dX12_find_22 hw5 (by clear ih hv; lia) (by clear ih hv; lia) ?_
      refine v_iload_n dX12_find_23 rfl rfl ?_
      refine v_icmp_ne (tgt := 29) dX12_find_24 (by decide) (fun h24 => ?_) (fun h24 => ?_)
      · refine v_iinc_2 dX12_find_29 rfl ?_
        refine v_goto (tgt := 2) dX12_find_32 (by decide) ?_
        exact ih hi (hv.trans (if_neg (by simpa using (by first | assumption | exact Classical.not_not.mp (by assumption)))))
      · refine v_iload_n dX12_find_27 rfl rfl ?_
        exact v_iret dX12_find_28 rfl ⟨(hv.trans (if_pos (by simpa using (by first | assumption | exact Classical.not_not.mp (by assumption))))).symm, rfl⟩ (by omega) (by omega)
  refine v_iconst (v := 0) dX12_find_0 (by decide) ?_
  refine v_istore_2 dX12_find_1 ?_
  exact key 0 (by lia) hg5 rfl

theorem dX12_loadOn_0 : decode cX12_loadOn 0 = .ok (.iconst 0, 1) := by decide +kernel
theorem dX12_loadOn_1 : decode cX12_loadOn 1 = .ok (.istore_n 2, 1) := by decide +kernel
theorem dX12_loadOn_2 : decode cX12_loadOn 2 = .ok (.iconst 0, 1) := by decide +kernel
theorem dX12_loadOn_3 : decode cX12_loadOn 3 = .ok (.istore_n 3, 1) := by decide +kernel
theorem dX12_loadOn_4 : decode cX12_loadOn 4 = .ok (.iload_n 3, 1) := by decide +kernel
theorem dX12_loadOn_5 : decode cX12_loadOn 5 = .ok (.aload_n 0, 1) := by decide +kernel
theorem dX12_loadOn_6 : decode cX12_loadOn 6 = .ok (.getfield 16, 3) := by decide +kernel
theorem dX12_loadOn_9 : decode cX12_loadOn 9 = .ok (.bipush 7, 2) := by decide +kernel
theorem dX12_loadOn_11 : decode cX12_loadOn 11 = .ok (.iaload, 1) := by decide +kernel
theorem dX12_loadOn_12 : decode cX12_loadOn 12 = .ok (.if_icmp .ge 44, 3) := by decide +kernel
theorem dX12_loadOn_15 : decode cX12_loadOn 15 = .ok (.iload_n 2, 1) := by decide +kernel
theorem dX12_loadOn_16 : decode cX12_loadOn 16 = .ok (.aload_n 0, 1) := by decide +kernel
theorem dX12_loadOn_17 : decode cX12_loadOn 17 = .ok (.getfield 16, 3) := by decide +kernel
theorem dX12_loadOn_20 : decode cX12_loadOn 20 = .ok (.iload_n 3, 1) := by decide +kernel
theorem dX12_loadOn_21 : decode cX12_loadOn 21 = .ok (.bipush 6, 2) := by decide +kernel
theorem dX12_loadOn_23 : decode cX12_loadOn 23 = .ok (.invokestatic 70, 3) := by decide +kernel
theorem dX12_loadOn_26 : decode cX12_loadOn 26 = .ok (.iaload, 1) := by decide +kernel
theorem dX12_loadOn_27 : decode cX12_loadOn 27 = .ok (.bipush 10, 2) := by decide +kernel
theorem dX12_loadOn_29 : decode cX12_loadOn 29 = .ok (.iload_n 1, 1) := by decide +kernel
theorem dX12_loadOn_30 : decode cX12_loadOn 30 = .ok (.iadd, 1) := by decide +kernel
theorem dX12_loadOn_31 : decode cX12_loadOn 31 = .ok (.if_icmp .ne 16, 3) := by decide +kernel
theorem dX12_loadOn_34 : decode cX12_loadOn 34 = .ok (.aload_n 0, 1) := by decide +kernel
theorem dX12_loadOn_35 : decode cX12_loadOn 35 = .ok (.getfield 16, 3) := by decide +kernel
theorem dX12_loadOn_38 : decode cX12_loadOn 38 = .ok (.iload_n 3, 1) := by decide +kernel
theorem dX12_loadOn_39 : decode cX12_loadOn 39 = .ok (.iconst 2, 1) := by decide +kernel
theorem dX12_loadOn_40 : decode cX12_loadOn 40 = .ok (.invokestatic 70, 3) := by decide +kernel
theorem dX12_loadOn_43 : decode cX12_loadOn 43 = .ok (.iaload, 1) := by decide +kernel
theorem dX12_loadOn_44 : decode cX12_loadOn 44 = .ok (.goto 4, 3) := by decide +kernel
theorem dX12_loadOn_47 : decode cX12_loadOn 47 = .ok (.iconst 0, 1) := by decide +kernel
theorem dX12_loadOn_48 : decode cX12_loadOn 48 = .ok (.iadd, 1) := by decide +kernel
theorem dX12_loadOn_49 : decode cX12_loadOn 49 = .ok (.istore_n 2, 1) := by decide +kernel
theorem dX12_loadOn_50 : decode cX12_loadOn 50 = .ok (.iinc 3 1, 3) := by decide +kernel
theorem dX12_loadOn_53 : decode cX12_loadOn 53 = .ok (.goto (-49), 3) := by decide +kernel
theorem dX12_loadOn_56 : decode cX12_loadOn 56 = .ok (.iload_n 2, 1) := by decide +kernel
theorem dX12_loadOn_57 : decode cX12_loadOn 57 = .ok (.ireturn, 1) := by decide +kernel
set_option maxRecDepth 100000 in
set_option maxHeartbeats 4000000 in
theorem r_loadOn {l : Launch} {g : Nat → Nat} {M : LH} (htr : l.stackTraces = false) {kd : Nat → Nat} {r m : Nat} {w : Nat → Nat} {t ch ea fl sv bf tn he en ln wr dg : Int32} {v b4 sa pa fr th bs tx li lf to : Int32 → Int32} (hC : Md kd r M m w t ch ea fl sv bf tn he en ln wr dg v b4 sa pa fr th bs tx li lf to) (hG : Good v) (k : Int32) : K_X12_loadOn l g 1 0 0 [.ref m, .int k] M (RI (fun x M9 => x = loadOn v k ∧ M9 = M) nX) := by
  refine Ko_X12_loadOn htr (fun X => ?_)
  obtain ⟨hMo, hw5, hw6, hw7, hw8, hw9, hw10, hw11, hw13, hw14, hw15, hw16, hw17, hw18, -⟩ := _root_.id hC
  have hF : Frm kd r M M := Frm.rf
  obtain ⟨hg1, hg2, hg3, hg4, hg5, hg6, hg7, hg8, hgL, hgS, -⟩ := _root_.id hG
  clear hgL hgS
  have key : ∀ i, 0 ≤ i → i ≤ v 7 → ∀ s, s = sumU (fun i => if lt v i 6 = 10 + k then lt v i 2 else 0) i → V l g yX12_loadOn cX12_loadOn ((some .int)) [] 1 0 0 (RI (fun x M9 => x = loadOn v k ∧ M9 = M) nX) X M 0 0 4 [some (.ref m), some (.int k), some (.int s), some (.int i)] [] := by
    refine up_ind _ (fun i h0 h1 ih s hv => ?_)
    refine v_iload_n dX12_loadOn_4 rfl rfl ?_
    refine v_aload_n dX12_loadOn_5 rfl rfl ?_
    refine gf_X12_16 dX12_loadOn_6 rfl hMo ?_
    refine v_bipush (v := (7)) dX12_loadOn_9 (by decide) ?_
    refine v_iald dX12_loadOn_11 hw5 (by lia) (by lia) ?_
    refine v_icmp_ge (tgt := 56) dX12_loadOn_12 (by decide) (fun h12 => ?_) (fun h12 => ?_)
    · have hi : i = v 7 := by clear ih hv; lia
      subst hi
      refine v_iload_n dX12_loadOn_56 rfl rfl ?_
      exact v_iret dX12_loadOn_57 rfl ⟨hv, rfl⟩ (by omega) (by omega)
    · have hi : i < v 7 := by clear ih hv; lia
      have hi12 : i < 12 := by clear ih hv; lia
      refine v_iload_n dX12_loadOn_15 rfl rfl ?_
      refine v_aload_n dX12_loadOn_16 rfl rfl ?_
      refine gf_X12_16 dX12_loadOn_17 rfl hMo ?_
      refine v_iload_n dX12_loadOn_20 rfl rfl ?_
      refine v_bipush (v := (6)) dX12_loadOn_21 (by decide) ?_
      refine k_X12_70 dX12_loadOn_23 rfl (r_of htr i 6) (Nat.le_of_ble_eq_true rfl) (by omega) (by omega) (Nat.le_of_ble_eq_true rfl) (fun r23 M9 h9 => ?_) (fun _ _ h9 => h9.elim)
      obtain ⟨rfl, e9⟩ := h9
      subst M9
      refine v_iald dX12_loadOn_26 hw5 (by clear ih hv; lia) (by clear ih hv; lia) ?_
      refine v_bipush (v := (10)) dX12_loadOn_27 (by decide) ?_
      refine v_iload_n dX12_loadOn_29 rfl rfl ?_
      refine v_iadd dX12_loadOn_30 ?_
      refine v_icmp_ne (tgt := 47) dX12_loadOn_31 (by decide) (fun h31 => ?_) (fun h31 => ?_)
      · refine v_iconst (v := 0) dX12_loadOn_47 (by decide) ?_
        refine v_iadd dX12_loadOn_48 ?_
        refine v_istore_2 dX12_loadOn_49 ?_
        refine v_iinc_3 dX12_loadOn_50 rfl ?_
        refine v_goto (tgt := 4) dX12_loadOn_53 (by decide) ?_
        refine ih hi _ ?_
        rw [sumU_1 h0 hi, hv]
        first
          | exact congrArg _ (if_pos (by first | assumption | exact Classical.not_not.mp (by assumption))).symm
          | exact congrArg _ (if_neg (by assumption)).symm
      · refine v_aload_n dX12_loadOn_34 rfl rfl ?_
        refine gf_X12_16 dX12_loadOn_35 rfl hMo ?_
        refine v_iload_n dX12_loadOn_38 rfl rfl ?_
        refine v_iconst (v := 2) dX12_loadOn_39 (by decide) ?_
        refine k_X12_70 dX12_loadOn_40 rfl (r_of htr i 2) (Nat.le_of_ble_eq_true rfl) (by omega) (by omega) (Nat.le_of_ble_eq_true rfl) (fun r40 M9 h9 => ?_) (fun _ _ h9 => h9.elim)
        obtain ⟨rfl, e9⟩ := h9
        subst M9
        refine v_iald dX12_loadOn_43 hw5 (by clear ih hv; lia) (by clear ih hv; lia) ?_
        refine v_goto (tgt := 48) dX12_loadOn_44 (by decide) ?_
        refine v_iadd dX12_loadOn_48 ?_
        refine v_istore_2 dX12_loadOn_49 ?_
        refine v_iinc_3 dX12_loadOn_50 rfl ?_
        refine v_goto (tgt := 4) dX12_loadOn_53 (by decide) ?_
        refine ih hi _ ?_
        rw [sumU_1 h0 hi, hv]
        first
          | exact congrArg _ (if_pos (by first | assumption | exact Classical.not_not.mp (by assumption))).symm
          | exact congrArg _ (if_neg (by assumption)).symm
  refine v_iconst (v := 0) dX12_loadOn_0 (by decide) ?_
  refine v_istore_2 dX12_loadOn_1 ?_
  refine v_iconst (v := 0) dX12_loadOn_2 (by decide) ?_
  refine v_istore_3 dX12_loadOn_3 ?_
  exact key 0 (by lia) hg5 0 rfl

/-- 150 words laid over others -/
def cpF (G F : Int32 → Int32) : Int32 → Int32 := fun j => if 0 ≤ j ∧ j < 150 then G j else F j
def cpN (G F : Int32 → Int32) (i : Int32) : Int32 → Int32 := fun j => if 0 ≤ j ∧ j < i then G j else F j
theorem cpN_0 {G F : Int32 → Int32} : cpN G F 0 = F := by
  funext j
  exact if_neg (fun z => absurd z.2 (Int32.not_lt.mpr z.1))
theorem cpN_1 {G F : Int32 → Int32} {i : Int32} (h0 : 0 ≤ i) (h1 : i < 150) : ui (cpN G F i) i (G i) = cpN G F (i + 1) := by
  funext j
  unfold ui cpN
  by_cases e : j = i
  · rw [if_pos e, if_pos (by rw [e]; exact ⟨h0, by lia⟩), e]
  · rw [if_neg e]
    by_cases q : 0 ≤ j ∧ j < i
    · rw [if_pos q, if_pos ⟨q.1, by have := q.2; lia⟩]
    · rw [if_neg q, if_neg (fun z => q ⟨z.1, by have := z.2; lia⟩)]
theorem cpF_in {G F : Int32 → Int32} {j : Int32} (h0 : 0 ≤ j) (h1 : j < 150) : cpF G F j = G j := if_pos ⟨h0, h1⟩
theorem dX12_lays_0 : decode cX12_lays 0 = .ok (.iconst 0, 1) := by decide +kernel
theorem dX12_lays_1 : decode cX12_lays 1 = .ok (.istore_n 2, 1) := by decide +kernel
theorem dX12_lays_2 : decode cX12_lays 2 = .ok (.iload_n 2, 1) := by decide +kernel
theorem dX12_lays_3 : decode cX12_lays 3 = .ok (.sipush 150, 3) := by decide +kernel
theorem dX12_lays_6 : decode cX12_lays 6 = .ok (.if_icmp .ge 15, 3) := by decide +kernel
theorem dX12_lays_9 : decode cX12_lays 9 = .ok (.aload_n 0, 1) := by decide +kernel
theorem dX12_lays_10 : decode cX12_lays 10 = .ok (.iload_n 2, 1) := by decide +kernel
theorem dX12_lays_11 : decode cX12_lays 11 = .ok (.aload_n 1, 1) := by decide +kernel
theorem dX12_lays_12 : decode cX12_lays 12 = .ok (.iload_n 2, 1) := by decide +kernel
theorem dX12_lays_13 : decode cX12_lays 13 = .ok (.iaload, 1) := by decide +kernel
theorem dX12_lays_14 : decode cX12_lays 14 = .ok (.iastore, 1) := by decide +kernel
theorem dX12_lays_15 : decode cX12_lays 15 = .ok (.iinc 2 1, 3) := by decide +kernel
theorem dX12_lays_18 : decode cX12_lays 18 = .ok (.goto (-16), 3) := by decide +kernel
theorem dX12_lays_21 : decode cX12_lays 21 = .ok (.return_, 1) := by decide +kernel
set_option maxRecDepth 100000 in
set_option maxHeartbeats 4000000 in
theorem r_lays {l : Launch} {g : Nat → Nat} {M : LH} (htr : l.stackTraces = false) {a b : Nat} {F G : Int32 → Int32} (ha : M a = some (ia 150 F)) (hb : M b = some (ia 150 G)) (hab : ¬ b = a) : K_X12_lays l g 0 0 0 [.ref a, .ref b] M (RV (fun M9 => M9 = hup M a (ia 150 (cpF G F))) nX) := by
  refine Ko_X12_lays htr (fun X => ?_)
  have key : ∀ i, 0 ≤ i → i ≤ 150 → V l g yX12_lays cX12_lays (none) [] 0 0 0 (RV (fun M9 => M9 = hup M a (ia 150 (cpF G F))) nX) X (hup M a (ia 150 (cpN G F i))) 0 0 2 [some (.ref a), some (.ref b), some (.int i)] [] := by
    refine up_ind _ (fun i h0 h1 ih => ?_)
    refine v_iload_n dX12_lays_2 rfl rfl ?_
    refine v_sipush (v := (150)) dX12_lays_3 (by decide) ?_
    refine v_icmp_ge (tgt := 21) dX12_lays_6 (by decide) (fun h6 => ?_) (fun h6 => ?_)
    · have hi : i = 150 := by clear ih; lia
      subst hi
      exact v_vret dX12_lays_21 rfl rfl (by omega) (by omega)
    · have hi : i < 150 := by clear ih; lia
      refine v_aload_n dX12_lays_9 rfl rfl ?_
      refine v_iload_n dX12_lays_10 rfl rfl ?_
      refine v_aload_n dX12_lays_11 rfl rfl ?_
      refine v_iload_n dX12_lays_12 rfl rfl ?_
      refine v_iald dX12_lays_13 ((hup_n hab).trans hb) h0 hi ?_
      refine v_iast dX12_lays_14 hup_s h0 hi ?_
      rw [hup_hup, cpN_1 h0 hi]
      refine v_iinc_2 dX12_lays_15 rfl ?_
      refine v_goto (tgt := 2) dX12_lays_18 (by decide) ?_
      exact ih hi
  refine v_iconst (v := 0) dX12_lays_0 (by decide) ?_
  refine v_istore_2 dX12_lays_1 ?_
  have hk := key 0 (by lia) (by lia)
  rw [cpN_0, hup_id ha] at hk
  exact hk

