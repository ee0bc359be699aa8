/-! ===== the reference: before and behind a call; the distances ===== -/
theorem dX12_begins_0 : decode cX12_begins 0 = .ok (.aload_n 0, 1) := by decide +kernel
theorem dX12_begins_1 : decode cX12_begins 1 = .ok (.iconst 0, 1) := by decide +kernel
theorem dX12_begins_2 : decode cX12_begins 2 = .ok (.putfield 56, 3) := by decide +kernel
theorem dX12_begins_5 : decode cX12_begins 5 = .ok (.aload_n 0, 1) := by decide +kernel
theorem dX12_begins_6 : decode cX12_begins 6 = .ok (.getfield 20, 3) := by decide +kernel
theorem dX12_begins_9 : decode cX12_begins 9 = .ok (.aload_n 0, 1) := by decide +kernel
theorem dX12_begins_10 : decode cX12_begins 10 = .ok (.getfield 16, 3) := by decide +kernel
theorem dX12_begins_13 : decode cX12_begins 13 = .ok (.invokestatic 59, 3) := by decide +kernel
theorem dX12_begins_16 : decode cX12_begins 16 = .ok (.return_, 1) := by decide +kernel
set_option maxRecDepth 100000 in
set_option maxHeartbeats 4000000 in
theorem r_begins {l : Launch} {g : Nat → Nat} {M : LH} (htr : l.stackTraces = false) {kd : Nat → Nat} {r m : Nat} {w : Nat → Nat} {t ch ea fl sv bf tn he en ln wr dg : Int32} {v b4 sa pa fr th bs tx li lf to : Int32 → Int32} (hC : Md kd r M m w t ch ea fl sv bf tn he en ln wr dg v b4 sa pa fr th bs tx li lf to) : K_X12_begins l g 1 0 0 [.ref m] M (RV (fun M9 => Md kd r M9 m w 0 ch ea fl sv bf tn he en ln wr dg v (cpF v b4) sa pa fr th bs tx li lf to ∧ Frm kd r M M9) nX) := by
  refine Ko_X12_begins htr (fun X => ?_)
  obtain ⟨hMo, hw5, hw6, hw7, hw8, hw9, hw10, hw11, hw13, hw14, hw15, hw16, hw17, hw18, -⟩ := _root_.id hC
  have hF : Frm kd r M M := Frm.rf
  refine v_aload_n dX12_begins_0 rfl rfl ?_
  refine v_iconst (v := 0) dX12_begins_1 (by decide) ?_
  refine pf_X12_56 dX12_begins_2 rfl hMo ?_
  refine V.md (Md.sc hC) (Frm.tr hF (Frm.up (hC.kd_sc))) (fun M1 hC hF => ?_)
  obtain ⟨hMo, hw5, hw6, hw7, hw8, hw9, hw10, hw11, hw13, hw14, hw15, hw16, hw17, hw18, -⟩ := _root_.id hC
  refine v_aload_n dX12_begins_5 rfl rfl ?_
  refine gf_X12_20 dX12_begins_6 rfl hMo ?_
  refine v_aload_n dX12_begins_9 rfl rfl ?_
  refine gf_X12_16 dX12_begins_10 rfl hMo ?_
  refine k_X12_59 dX12_begins_13 rfl (r_lays htr hw6 hw5 (fun z => absurd (hC.2.2.2.2.2.2.2.2.2.2.2.2.2.2.2 5 6 (by decide) (by decide) (by decide) (by decide) z) (by decide))) (Nat.le_of_ble_eq_true rfl) (by omega) (by omega) (Nat.le_of_ble_eq_true rfl) (fun M9 h9 => ?_) (fun _ _ h9 => h9.elim)
  subst h9
  exact v_vret dX12_begins_16 rfl ⟨Md.r6 hC, Frm.tr hF (Frm.up hC.kd_r6)⟩ (by omega) (by omega)
/-- the past behind a call: the oldest falls off where there are eight -/
def PaS (ch : Int32) (pa b4 pa' : Int32 → Int32) : Prop := (∀ k j, 0 ≤ k → k < (if ch = 8 then 7 else ch) → 0 ≤ j → j < 150 → pa' (k * 150 + j) = if ch = 8 then pa ((k + 1) * 150 + j) else pa (k * 150 + j)) ∧ ∀ j, 0 ≤ j → j < 150 → pa' ((if ch = 8 then 7 else ch) * 150 + j) = b4 j
def lyN (b4 pa : Int32 → Int32) (c i : Int32) : Int32 → Int32 := fun j => if c * 150 ≤ j ∧ j < c * 150 + i then b4 (j - c * 150) else pa j
theorem lyN_0 {b4 pa : Int32 → Int32} {c : Int32} : lyN b4 pa c 0 = pa := by
  funext j
  exact if_neg (fun z => absurd z.2 (by have := z.1; lia))
theorem lyN_1 {b4 pa : Int32 → Int32} {c i : Int32} (c0 : 0 ≤ c) (c8 : c < 8) (h0 : 0 ≤ i) (h1 : i < 150) : ui (lyN b4 pa c i) (c * 150 + i) (b4 i) = lyN b4 pa c (i + 1) := by
  funext j
  unfold ui lyN
  by_cases e : j = c * 150 + i
  · rw [if_pos e, if_pos (by constructor <;> lia), show j - c * 150 = i by lia]
  · rw [if_neg e]
    by_cases q : c * 150 ≤ j ∧ j < c * 150 + i
    · rw [if_pos q, if_pos (by constructor <;> lia)]
    · rw [if_neg q, if_neg (fun z => q (by constructor <;> lia))]
def mvN (pa : Int32 → Int32) (i : Int32) : Int32 → Int32 := fun j => if 0 ≤ j ∧ j < i then pa (j + 150) else pa j
theorem mvN_0 {pa : Int32 → Int32} : mvN pa 0 = pa := by
  funext j
  exact if_neg (fun z => absurd z.2 (Int32.not_lt.mpr z.1))
theorem mvN_1 {pa : Int32 → Int32} {i : Int32} (h0 : 0 ≤ i) (h1 : i < 1050) : ui (mvN pa i) i (mvN pa i (i + 150)) = mvN pa (i + 1) := by
  funext j
  unfold ui mvN
  by_cases e : j = i
  · rw [if_pos e, if_neg (fun z => absurd z.2 (by lia)), if_pos (by constructor <;> lia), e]
  · rw [if_neg e]
    by_cases q : 0 ≤ j ∧ j < i
    · rw [if_pos q, if_pos (by constructor <;> lia)]
    · rw [if_neg q, if_neg (fun z => q (by constructor <;> lia))]
theorem PaS_of {ch : Int32} {pa b4 pa1 : Int32 → Int32} (h0 : 0 ≤ ch) (h8 : ch ≤ 8) (h1 : pa1 = if ch = 8 then mvN pa 1050 else pa) : PaS ch pa b4 (lyN b4 pa1 (if ch = 8 then 7 else ch) 150) := by
  constructor
  · intro k j k0 k1 j0 j1
    unfold lyN
    by_cases e : ch = 8
    · rw [if_pos e] at k1 h1 ⊢
      rw [if_pos e]
      rw [if_neg (fun z => absurd z.1 (by lia)), h1]
      unfold mvN
      rw [if_pos (by constructor <;> lia), show k * 150 + j + 150 = (k + 1) * 150 + j by lia]
    · rw [if_neg e] at k1 h1 ⊢
      rw [if_neg e]
      rw [if_neg (fun z => absurd z.1 (by lia)), h1]
  · intro j j0 j1
    unfold lyN
    by_cases e : ch = 8
    · rw [if_pos e, if_pos (by constructor <;> lia)]
      congr 1
      lia
    · rw [if_neg e, if_pos (by constructor <;> lia)]
      congr 1
      lia
theorem dX12_ends_0 : decode cX12_ends 0 = .ok (.aload_n 0, 1) := by decide +kernel
theorem dX12_ends_1 : decode cX12_ends 1 = .ok (.getfield 56, 3) := by decide +kernel
theorem dX12_ends_4 : decode cX12_ends 4 = .ok (.ifCond .eq 16, 3) := by decide +kernel
theorem dX12_ends_7 : decode cX12_ends 7 = .ok (.aload_n 0, 1) := by decide +kernel
theorem dX12_ends_8 : decode cX12_ends 8 = .ok (.getfield 16, 3) := by decide +kernel
theorem dX12_ends_11 : decode cX12_ends 11 = .ok (.aload_n 0, 1) := by decide +kernel
theorem dX12_ends_12 : decode cX12_ends 12 = .ok (.getfield 20, 3) := by decide +kernel
theorem dX12_ends_15 : decode cX12_ends 15 = .ok (.invokestatic 59, 3) := by decide +kernel
theorem dX12_ends_18 : decode cX12_ends 18 = .ok (.iconst 0, 1) := by decide +kernel
theorem dX12_ends_19 : decode cX12_ends 19 = .ok (.ireturn, 1) := by decide +kernel
theorem dX12_ends_20 : decode cX12_ends 20 = .ok (.aload_n 0, 1) := by decide +kernel
theorem dX12_ends_21 : decode cX12_ends 21 = .ok (.getfield 63, 3) := by decide +kernel
theorem dX12_ends_24 : decode cX12_ends 24 = .ok (.bipush 8, 2) := by decide +kernel
theorem dX12_ends_26 : decode cX12_ends 26 = .ok (.if_icmp .ne 44, 3) := by decide +kernel
theorem dX12_ends_29 : decode cX12_ends 29 = .ok (.iconst 0, 1) := by decide +kernel
theorem dX12_ends_30 : decode cX12_ends 30 = .ok (.istore_n 2, 1) := by decide +kernel
theorem dX12_ends_31 : decode cX12_ends 31 = .ok (.iload_n 2, 1) := by decide +kernel
theorem dX12_ends_32 : decode cX12_ends 32 = .ok (.sipush 1050, 3) := by decide +kernel
theorem dX12_ends_35 : decode cX12_ends 35 = .ok (.if_icmp .ge 25, 3) := by decide +kernel
theorem dX12_ends_38 : decode cX12_ends 38 = .ok (.aload_n 0, 1) := by decide +kernel
theorem dX12_ends_39 : decode cX12_ends 39 = .ok (.getfield 26, 3) := by decide +kernel
theorem dX12_ends_42 : decode cX12_ends 42 = .ok (.iload_n 2, 1) := by decide +kernel
theorem dX12_ends_43 : decode cX12_ends 43 = .ok (.aload_n 0, 1) := by decide +kernel
theorem dX12_ends_44 : decode cX12_ends 44 = .ok (.getfield 26, 3) := by decide +kernel
theorem dX12_ends_47 : decode cX12_ends 47 = .ok (.iload_n 2, 1) := by decide +kernel
theorem dX12_ends_48 : decode cX12_ends 48 = .ok (.sipush 150, 3) := by decide +kernel
theorem dX12_ends_51 : decode cX12_ends 51 = .ok (.iadd, 1) := by decide +kernel
theorem dX12_ends_52 : decode cX12_ends 52 = .ok (.iaload, 1) := by decide +kernel
theorem dX12_ends_53 : decode cX12_ends 53 = .ok (.iastore, 1) := by decide +kernel
theorem dX12_ends_54 : decode cX12_ends 54 = .ok (.iinc 2 1, 3) := by decide +kernel
theorem dX12_ends_57 : decode cX12_ends 57 = .ok (.goto (-26), 3) := by decide +kernel
theorem dX12_ends_60 : decode cX12_ends 60 = .ok (.aload_n 0, 1) := by decide +kernel
theorem dX12_ends_61 : decode cX12_ends 61 = .ok (.dup, 1) := by decide +kernel
theorem dX12_ends_62 : decode cX12_ends 62 = .ok (.getfield 63, 3) := by decide +kernel
theorem dX12_ends_65 : decode cX12_ends 65 = .ok (.iconst 1, 1) := by decide +kernel
theorem dX12_ends_66 : decode cX12_ends 66 = .ok (.isub, 1) := by decide +kernel
theorem dX12_ends_67 : decode cX12_ends 67 = .ok (.putfield 63, 3) := by decide +kernel
theorem dX12_ends_70 : decode cX12_ends 70 = .ok (.iconst 0, 1) := by decide +kernel
theorem dX12_ends_71 : decode cX12_ends 71 = .ok (.istore_n 2, 1) := by decide +kernel
theorem dX12_ends_72 : decode cX12_ends 72 = .ok (.iload_n 2, 1) := by decide +kernel
theorem dX12_ends_73 : decode cX12_ends 73 = .ok (.sipush 150, 3) := by decide +kernel
theorem dX12_ends_76 : decode cX12_ends 76 = .ok (.if_icmp .ge 30, 3) := by decide +kernel
theorem dX12_ends_79 : decode cX12_ends 79 = .ok (.aload_n 0, 1) := by decide +kernel
theorem dX12_ends_80 : decode cX12_ends 80 = .ok (.getfield 26, 3) := by decide +kernel
theorem dX12_ends_83 : decode cX12_ends 83 = .ok (.aload_n 0, 1) := by decide +kernel
theorem dX12_ends_84 : decode cX12_ends 84 = .ok (.getfield 63, 3) := by decide +kernel
theorem dX12_ends_87 : decode cX12_ends 87 = .ok (.sipush 150, 3) := by decide +kernel
theorem dX12_ends_90 : decode cX12_ends 90 = .ok (.imul, 1) := by decide +kernel
theorem dX12_ends_91 : decode cX12_ends 91 = .ok (.iload_n 2, 1) := by decide +kernel
theorem dX12_ends_92 : decode cX12_ends 92 = .ok (.iadd, 1) := by decide +kernel
theorem dX12_ends_93 : decode cX12_ends 93 = .ok (.aload_n 0, 1) := by decide +kernel
theorem dX12_ends_94 : decode cX12_ends 94 = .ok (.getfield 20, 3) := by decide +kernel
theorem dX12_ends_97 : decode cX12_ends 97 = .ok (.iload_n 2, 1) := by decide +kernel
theorem dX12_ends_98 : decode cX12_ends 98 = .ok (.iaload, 1) := by decide +kernel
theorem dX12_ends_99 : decode cX12_ends 99 = .ok (.iastore, 1) := by decide +kernel
theorem dX12_ends_100 : decode cX12_ends 100 = .ok (.iinc 2 1, 3) := by decide +kernel
theorem dX12_ends_103 : decode cX12_ends 103 = .ok (.goto (-31), 3) := by decide +kernel
theorem dX12_ends_106 : decode cX12_ends 106 = .ok (.aload_n 0, 1) := by decide +kernel
theorem dX12_ends_107 : decode cX12_ends 107 = .ok (.dup, 1) := by decide +kernel
theorem dX12_ends_108 : decode cX12_ends 108 = .ok (.getfield 63, 3) := by decide +kernel
theorem dX12_ends_111 : decode cX12_ends 111 = .ok (.iconst 1, 1) := by decide +kernel
theorem dX12_ends_112 : decode cX12_ends 112 = .ok (.iadd, 1) := by decide +kernel
theorem dX12_ends_113 : decode cX12_ends 113 = .ok (.putfield 63, 3) := by decide +kernel
theorem dX12_ends_116 : decode cX12_ends 116 = .ok (.iload_n 1, 1) := by decide +kernel
theorem dX12_ends_117 : decode cX12_ends 117 = .ok (.ireturn, 1) := by decide +kernel
set_option maxRecDepth 100000 in
set_option maxHeartbeats 4000000 in
theorem r_ends {l : Launch} {g : Nat → Nat} {M : LH} (htr : l.stackTraces = false) {kd : Nat → Nat} {r m : Nat} {w : Nat → Nat} {t ch ea fl sv bf tn he en ln wr dg : Int32} {v b4 sa pa fr th bs tx li lf to : Int32 → Int32} (hC : Md kd r M m w t ch ea fl sv bf tn he en ln wr dg v b4 sa pa fr th bs tx li lf to) (is : Int32) (hch0 : 0 ≤ ch) (hch8 : ch ≤ 8) : K_X12_ends l g 1 0 0 [.ref m, .int is] M (RI (fun x M9 => ((¬ t = 0 ∧ x = 0 ∧ Md kd r M9 m w t ch ea fl sv bf tn he en ln wr dg (cpF b4 v) b4 sa pa fr th bs tx li lf to) ∨ (t = 0 ∧ x = is ∧ ∃ pa', PaS ch pa b4 pa' ∧ Md kd r M9 m w t ((if ch = 8 then 7 else ch) + 1) ea fl sv bf tn he en ln wr dg v b4 sa pa' fr th bs tx li lf to)) ∧ Frm kd r M M9) nX) := by
  refine Ko_X12_ends htr (fun X => ?_)
  obtain ⟨hMo, hw5, hw6, hw7, hw8, hw9, hw10, hw11, hw13, hw14, hw15, hw16, hw17, hw18, -⟩ := _root_.id hC
  have hF : Frm kd r M M := Frm.rf
  have key2 : ∀ i, 0 ≤ i → i ≤ 150 → ∀ (M1 : LH) (ch1 : Int32) (pa1 : Int32 → Int32), t = 0 → ch1 = (if ch = 8 then 7 else ch) → pa1 = (if ch = 8 then mvN pa 1050 else pa) → Md kd r M1 m w t ch1 ea fl sv bf tn he en ln wr dg v b4 sa (lyN b4 pa1 ch1 i) fr th bs tx li lf to → Frm kd r M M1 → V l g yX12_ends cX12_ends ((some .int)) [] 1 0 0 (RI (fun x M9 => ((¬ t = 0 ∧ x = 0 ∧ Md kd r M9 m w t ch ea fl sv bf tn he en ln wr dg (cpF b4 v) b4 sa pa fr th bs tx li lf to) ∨ (t = 0 ∧ x = is ∧ ∃ pa', PaS ch pa b4 pa' ∧ Md kd r M9 m w t ((if ch = 8 then 7 else ch) + 1) ea fl sv bf tn he en ln wr dg v b4 sa pa' fr th bs tx li lf to)) ∧ Frm kd r M M9) nX) X M1 0 0 72 [some (.ref m), some (.int is), some (.int i)] [] := by
    clear hC hF hMo hw5 hw6 hw7 hw8 hw9 hw10 hw11 hw13 hw14 hw15 hw16 hw17 hw18
    refine up_ind _ (fun i h0 h1 ih M1 ch1 pa1 ht hc hp hC hF => ?_)
    obtain ⟨hMo, hw5, hw6, hw7, hw8, hw9, hw10, hw11, hw13, hw14, hw15, hw16, hw17, hw18, -⟩ := _root_.id hC
    have c0 : 0 ≤ ch1 := by rw [hc]; clear ih; split <;> lia
    have c8 : ch1 < 8 := by rw [hc]; clear ih; split <;> lia
    refine v_iload_n dX12_ends_72 rfl rfl ?_
    refine v_sipush (v := (150)) dX12_ends_73 (by decide) ?_
    refine v_icmp_ge (tgt := 106) dX12_ends_76 (by decide) (fun h76 => ?_) (fun h76 => ?_)
    · have hi : i = 150 := by clear ih hC hF hMo hw5 hw6 hw7 hw8 hw9 hw10 hw11 hw13 hw14 hw15 hw16 hw17 hw18 hc hp; lia
      subst hi
      refine v_aload_n dX12_ends_106 rfl rfl ?_
      refine v_dup dX12_ends_107 rfl ?_
      refine gf_X12_63 dX12_ends_108 rfl hMo ?_
      refine v_iconst (v := 1) dX12_ends_111 (by decide) ?_
      refine v_iadd dX12_ends_112 ?_
      refine pf_X12_63 dX12_ends_113 rfl hMo ?_
      refine V.md (Md.sc hC) (Frm.tr hF (Frm.up (hC.kd_sc))) (fun M1 hC hF => ?_)
      obtain ⟨hMo, hw5, hw6, hw7, hw8, hw9, hw10, hw11, hw13, hw14, hw15, hw16, hw17, hw18, -⟩ := _root_.id hC
      refine v_iload_n dX12_ends_116 rfl rfl ?_
      exact v_iret dX12_ends_117 rfl ⟨Or.inr ⟨ht, rfl, lyN b4 pa1 ch1 150, (by rw [hc]; exact PaS_of hch0 hch8 hp), (by rw [hc] at hC; exact hc ▸ hC)⟩, hF⟩ (by omega) (by omega)
    · have hi : i < 150 := by clear ih hC hF hMo hw5 hw6 hw7 hw8 hw9 hw10 hw11 hw13 hw14 hw15 hw16 hw17 hw18 hc hp; lia
      refine v_aload_n dX12_ends_79 rfl rfl ?_
      refine gf_X12_26 dX12_ends_80 rfl hMo ?_
      refine v_aload_n dX12_ends_83 rfl rfl ?_
      refine gf_X12_63 dX12_ends_84 rfl hMo ?_
      refine v_sipush (v := (150)) dX12_ends_87 (by decide) ?_
      refine v_imul dX12_ends_90 ?_
      refine v_iload_n dX12_ends_91 rfl rfl ?_
      refine v_iadd dX12_ends_92 ?_
      refine v_aload_n dX12_ends_93 rfl rfl ?_
      refine gf_X12_20 dX12_ends_94 rfl hMo ?_
      refine v_iload_n dX12_ends_97 rfl rfl ?_
      refine v_iald dX12_ends_98 hw6 h0 hi ?_
      refine v_iast dX12_ends_99 hw8 (by clear ih hC hF hMo hw5 hw6 hw7 hw8 hw9 hw10 hw11 hw13 hw14 hw15 hw16 hw17 hw18 hc hp; lia) (by clear ih hC hF hMo hw5 hw6 hw7 hw8 hw9 hw10 hw11 hw13 hw14 hw15 hw16 hw17 hw18 hc hp; lia) ?_
      refine V.md (Md.r8 hC) (Frm.tr hF (Frm.up (hC.kd_r8))) (fun M1 hC hF => ?_)
      obtain ⟨hMo, hw5, hw6, hw7, hw8, hw9, hw10, hw11, hw13, hw14, hw15, hw16, hw17, hw18, -⟩ := _root_.id hC
      refine v_iinc_2 dX12_ends_100 rfl ?_
      refine v_goto (tgt := 72) dX12_ends_103 (by decide) ?_
      rw [lyN_1 c0 c8 h0 hi] at hC
      exact ih hi M1 ch1 pa1 ht hc hp hC hF
  have key1 : ∀ i, 0 ≤ i → i ≤ 1050 → ∀ (M1 : LH), t = 0 → ch = 8 → Md kd r M1 m w t ch ea fl sv bf tn he en ln wr dg v b4 sa (mvN pa i) fr th bs tx li lf to → Frm kd r M M1 → V l g yX12_ends cX12_ends ((some .int)) [] 1 0 0 (RI (fun x M9 => ((¬ t = 0 ∧ x = 0 ∧ Md kd r M9 m w t ch ea fl sv bf tn he en ln wr dg (cpF b4 v) b4 sa pa fr th bs tx li lf to) ∨ (t = 0 ∧ x = is ∧ ∃ pa', PaS ch pa b4 pa' ∧ Md kd r M9 m w t ((if ch = 8 then 7 else ch) + 1) ea fl sv bf tn he en ln wr dg v b4 sa pa' fr th bs tx li lf to)) ∧ Frm kd r M M9) nX) X M1 0 0 31 [some (.ref m), some (.int is), some (.int i)] [] := by
    clear hC hF hMo hw5 hw6 hw7 hw8 hw9 hw10 hw11 hw13 hw14 hw15 hw16 hw17 hw18
    refine up_ind _ (fun i h0 h1 ih M1 ht hc hC hF => ?_)
    obtain ⟨hMo, hw5, hw6, hw7, hw8, hw9, hw10, hw11, hw13, hw14, hw15, hw16, hw17, hw18, -⟩ := _root_.id hC
    refine v_iload_n dX12_ends_31 rfl rfl ?_
    refine v_sipush (v := (1050)) dX12_ends_32 (by decide) ?_
    refine v_icmp_ge (tgt := 60) dX12_ends_35 (by decide) (fun h35 => ?_) (fun h35 => ?_)
    · have hi : i = 1050 := by clear ih key2 hC hF hMo hw5 hw6 hw7 hw8 hw9 hw10 hw11 hw13 hw14 hw15 hw16 hw17 hw18 hc; lia
      subst hi
      refine v_aload_n dX12_ends_60 rfl rfl ?_
      refine v_dup dX12_ends_61 rfl ?_
      refine gf_X12_63 dX12_ends_62 rfl hMo ?_
      refine v_iconst (v := 1) dX12_ends_65 (by decide) ?_
      refine v_isub dX12_ends_66 ?_
      refine pf_X12_63 dX12_ends_67 rfl hMo ?_
      refine V.md (Md.sc hC) (Frm.tr hF (Frm.up (hC.kd_sc))) (fun M1 hC hF => ?_)
      obtain ⟨hMo, hw5, hw6, hw7, hw8, hw9, hw10, hw11, hw13, hw14, hw15, hw16, hw17, hw18, -⟩ := _root_.id hC
      refine v_iconst (v := 0) dX12_ends_70 (by decide) ?_
      refine v_istore_2 dX12_ends_71 ?_
      have hk := key2 0 (by decide) (by decide) M1 (ch - 1) (mvN pa 1050) ht (by rw [if_pos hc, hc]; decide) (if_pos hc).symm
      rw [lyN_0] at hk
      exact hk hC hF
    · have hi : i < 1050 := by clear ih key2 hC hF hMo hw5 hw6 hw7 hw8 hw9 hw10 hw11 hw13 hw14 hw15 hw16 hw17 hw18 hc; lia
      refine v_aload_n dX12_ends_38 rfl rfl ?_
      refine gf_X12_26 dX12_ends_39 rfl hMo ?_
      refine v_iload_n dX12_ends_42 rfl rfl ?_
      refine v_aload_n dX12_ends_43 rfl rfl ?_
      refine gf_X12_26 dX12_ends_44 rfl hMo ?_
      refine v_iload_n dX12_ends_47 rfl rfl ?_
      refine v_sipush (v := (150)) dX12_ends_48 (by decide) ?_
      refine v_iadd dX12_ends_51 ?_
      refine v_iald dX12_ends_52 hw8 (by clear ih key2 hC hF hMo hw5 hw6 hw7 hw8 hw9 hw10 hw11 hw13 hw14 hw15 hw16 hw17 hw18 hc; lia) (by clear ih key2 hC hF hMo hw5 hw6 hw7 hw8 hw9 hw10 hw11 hw13 hw14 hw15 hw16 hw17 hw18 hc; lia) ?_
      refine v_iast dX12_ends_53 hw8 (by clear ih key2 hC hF hMo hw5 hw6 hw7 hw8 hw9 hw10 hw11 hw13 hw14 hw15 hw16 hw17 hw18 hc; lia) (by clear ih key2 hC hF hMo hw5 hw6 hw7 hw8 hw9 hw10 hw11 hw13 hw14 hw15 hw16 hw17 hw18 hc; lia) ?_
      refine V.md (Md.r8 hC) (Frm.tr hF (Frm.up (hC.kd_r8))) (fun M1 hC hF => ?_)
      obtain ⟨hMo, hw5, hw6, hw7, hw8, hw9, hw10, hw11, hw13, hw14, hw15, hw16, hw17, hw18, -⟩ := _root_.id hC
      refine v_iinc_2 dX12_ends_54 rfl ?_
      refine v_goto (tgt := 31) dX12_ends_57 (by decide) ?_
      rw [mvN_1 h0 hi] at hC
      exact ih hi M1 ht hc hC hF
  refine v_aload_n dX12_ends_0 rfl rfl ?_
  refine gf_X12_56 dX12_ends_1 rfl hMo ?_
  refine v_if_eq (tgt := 20) dX12_ends_4 (by decide) (fun h4 => ?_) (fun h4 => ?_)
  · refine v_aload_n dX12_ends_20 rfl rfl ?_
    refine gf_X12_63 dX12_ends_21 rfl hMo ?_
    refine v_bipush (v := (8)) dX12_ends_24 (by decide) ?_
    refine v_icmp_ne (tgt := 70) dX12_ends_26 (by decide) (fun h26 => ?_) (fun h26 => ?_)
    · refine v_iconst (v := 0) dX12_ends_70 (by decide) ?_
      refine v_istore_2 dX12_ends_71 ?_
      have hk := key2 0 (by decide) (by decide) M ch pa h4 (if_neg (by assumption)).symm (if_neg (by assumption)).symm
      rw [lyN_0] at hk
      exact hk hC hF
    · refine v_iconst (v := 0) dX12_ends_29 (by decide) ?_
      refine v_istore_2 dX12_ends_30 ?_
      have hk := key1 0 (by decide) (by decide) M h4 (by first | assumption | exact Classical.not_not.mp (by assumption))
      rw [mvN_0] at hk
      exact hk hC hF
  · refine v_aload_n dX12_ends_7 rfl rfl ?_
    refine gf_X12_16 dX12_ends_8 rfl hMo ?_
    refine v_aload_n dX12_ends_11 rfl rfl ?_
    refine gf_X12_20 dX12_ends_12 rfl hMo ?_
    refine k_X12_59 dX12_ends_15 rfl (r_lays htr hw5 hw6 (fun z => absurd (hC.2.2.2.2.2.2.2.2.2.2.2.2.2.2.2 6 5 (by decide) (by decide) (by decide) (by decide) z) (by decide))) (Nat.le_of_ble_eq_true rfl) (by omega) (by omega) (Nat.le_of_ble_eq_true rfl) (fun M9 h9 => ?_) (fun _ _ h9 => h9.elim)
    subst h9
    refine v_iconst (v := 0) dX12_ends_18 (by decide) ?_
    exact v_iret dX12_ends_19 rfl ⟨Or.inl ⟨h4, rfl, Md.r5 hC⟩, Frm.tr hF (Frm.up hC.kd_r5)⟩ (by omega) (by omega)

/-- the reference's distances -/
def dirT (σ : Int32 → Int32) (x y : Int32) : Int32 := if x = y then 0 else if 0 < rd σ x y then rd σ x y else 10000
def tau (x : Int) : Int := if x < 1000000 then x else 10000
def FRok (σ f : Int32 → Int32) : Prop := ∀ x y, 0 ≤ x → x < σ 5 → 0 ≤ y → y < σ 5 → ∃ b : Int, IsD σ 1000000 x y b ∧ 0 ≤ b ∧ (b ≤ 2560 ∨ b = 1000000) ∧ (f (x * 7 + y)).toInt = tau b
def RdG (σ : Int32 → Int32) : Prop := ∀ a b, 0 ≤ a → a < 7 → 0 ≤ b → b < 7 → 0 ≤ rd σ a b ∧ rd σ a b ≤ 20 ∧ (0 < rd σ a b → a < σ 5 ∧ b < σ 5 ∧ ¬ a = b)
theorem rd_7 {σ : Int32 → Int32} {a b : Int32} (a0 : 0 ≤ a) (a1 : a < 7) (b0 : 0 ≤ b) (b1 : b < 7) : rd (ui σ 5 7) a b = rd σ a b := by
  unfold rd
  exact ui_n (by lia)
theorem Wk7 {σ : Int32 → Int32} (h5 : σ 5 ≤ 7) (hR : RdG σ) {a : Int32} : ∀ (k : Nat) (b : Int32) (d : Int), 0 ≤ b → b < 7 → (Wk (ui σ 5 7) k a b d ↔ Wk σ k a b d) := by
  intro k
  induction k with
  | zero => exact fun _ _ _ _ => Iff.rfl
  | succ k ih =>
    intro b d b0 b1
    constructor
    · rintro ⟨c, c0, c1, hr, hw⟩
      rw [ui_s] at c1
      rw [rd_7 c0 c1 b0 b1] at hr hw
      exact ⟨c, c0, ((hR c b c0 c1 b0 b1).2.2 hr).1, hr, (ih c _ c0 c1).mp hw⟩
    · rintro ⟨c, c0, c1, hr, hw⟩
      have c7 : c < 7 := by lia
      refine ⟨c, c0, by rw [ui_s]; exact c7, by rw [rd_7 c0 c7 b0 b1]; exact hr, ?_⟩
      rw [rd_7 c0 c7 b0 b1]
      exact (ih c _ c0 c7).mpr hw
theorem IsD7 {σ : Int32 → Int32} (h5 : σ 5 ≤ 7) (hR : RdG σ) {a b : Int32} {v far : Int} (b0 : 0 ≤ b) (b1 : b < 7) (h : IsD (ui σ 5 7) far a b v) : IsD σ far a b v := by
  have e : ∀ d, Wks (ui σ 5 7) a b d ↔ Wks σ a b d := fun d => ⟨fun ⟨k, hk⟩ => ⟨k, (Wk7 h5 hR k b d b0 b1).mp hk⟩, fun ⟨k, hk⟩ => ⟨k, (Wk7 h5 hR k b d b0 b1).mpr hk⟩⟩
  rcases h with ⟨q1, q2, q3⟩ | ⟨q1, q2⟩
  · exact Or.inl ⟨q1, (e v).mp q2, fun d hd => q3 d ((e d).mpr hd)⟩
  · exact Or.inr ⟨q1, fun d hd => q2 d ((e d).mpr hd)⟩
theorem Rds7 {σ : Int32 → Int32} (hR : RdG σ) : Rds (ui σ 5 7) := by
  intro a b a0 a1 b0 b1
  rw [ui_s] at a1 b1
  rw [rd_7 a0 a1 b0 b1]
  obtain ⟨q1, q2, -⟩ := hR a b a0 a1 b0 b1
  have p1 := i_le.mp q1
  have p2 := i_le.mp q2
  rw [i_0] at p1
  have e20 : (20 : Int32).toInt = 20 := rfl
  rw [e20] at p2
  exact ⟨p1, p2, by rw [i_lt, i_0]⟩
def InvR (σ : Int32 → Int32) (m : Int32) (f : Int32 → Int32) : Prop := ∃ (B : Int32 → Int32 → Int), FJ (ui σ 5 7) m (20 * 2 ^ m.toNatClampNeg) B ∧ ∀ x y, 0 ≤ x → x < 7 → 0 ≤ y → y < 7 → (f (x * 7 + y)).toInt = tau (B x y)
theorem InvR.z {σ f : Int32 → Int32} (hR : RdG σ) (h : ∀ x y, 0 ≤ x → x < 7 → 0 ≤ y → y < 7 → f (x * 7 + y) = dirT σ x y) : InvR σ 0 f := by
  refine ⟨fun a b => (dirW (ui σ 5 7) a b).toInt, ?_, fun x y x0 x1 y0 y1 => ?_⟩
  · exact FJ.z (by rw [ui_s]; decide) (Rds7 hR)
  · rw [h x y x0 x1 y0 y1]
    show _ = tau (dirW (ui σ 5 7) x y).toInt
    unfold dirT dirW
    rw [rd_7 x0 x1 y0 y1]
    obtain ⟨q1, q2, -⟩ := hR x y x0 x1 y0 y1
    have p1 := i_le.mp q1
    have p2 := i_le.mp q2
    rw [i_0] at p1
    have e20 : (20 : Int32).toInt = 20 := rfl
    rw [e20] at p2
    by_cases e : x = y
    · rw [if_pos e, if_pos e]
      decide
    · rw [if_neg e, if_neg e]
      by_cases e2 : 0 < rd σ x y
      · rw [if_pos e2, if_pos e2]
        unfold tau
        rw [if_pos (by omega)]
      · rw [if_neg e2, if_neg e2]
        decide
theorem pow_7 {k : Nat} (h : k < 7) : (20 : Int) * 2 ^ k ≤ 1280 := by
  have a : (2 : Nat) ^ k ≤ 2 ^ 6 := Nat.pow_le_pow_right (by decide) (by omega)
  have b : ((2 : Nat) ^ k : Int) ≤ ((2 : Nat) ^ 6 : Nat) := by exact_mod_cast a
  have c : (((2 : Nat) ^ 6 : Nat) : Int) = 64 := rfl
  rw [c] at b
  have d : ((2 : Nat) : Int) = 2 := rfl
  rw [d] at b
  omega
theorem InvR.d0 {σ f : Int32 → Int32} {m : Int32} (h : InvR σ m f) (m0 : 0 ≤ m) (m1 : m < 7) : f (m * 7 + m) = 0 := by
  obtain ⟨B, hB, he⟩ := h
  have q := he m m m0 m1 m0 m1
  rw [hB.1 m m0 (by rw [ui_s]; exact m1)] at q
  exact Int32.toInt_inj.mp q
theorem InvR.s {σ f f' : Int32 → Int32} {m : Int32} (h : InvR σ m f) (m0 : 0 ≤ m) (m1 : m < 7) (hq : ∀ x y, 0 ≤ x → x < 7 → 0 ≤ y → y < 7 → f' (x * 7 + y) = mn7 f m x y) : InvR σ (m + 1) f' := by
  obtain ⟨B, hB, he⟩ := h
  have hm7 := tc_lt m0 m1
  have e7 : (7 : Int32).toNatClampNeg = 7 := rfl
  have hK := pow_7 (k := m.toNatClampNeg) (by omega)
  have s7 : (ui σ 5 7) 5 = 7 := ui_s
  have hs := hB.step (B' := fun a b => if B a m + B m b < B a b then B a m + B m b else B a b) (by rw [s7]; decide) m0 (by rw [s7]; exact m1) (pow_0 _) (fun a b _ _ _ _ => rfl)
  refine ⟨fun a b => if B a m + B m b < B a b then B a m + B m b else B a b, ?_, fun x y x0 x1 y0 y1 => ?_⟩
  · rw [(tc_i1 m0 m1).1, pow_2]
    exact hs
  · rw [hq x y x0 x1 y0 y1]
    have p1 := hB.2 x m x0 (by rw [s7]; exact x1) m0 (by rw [s7]; exact m1)
    have p2 := hB.2 m y m0 (by rw [s7]; exact m1) y0 (by rw [s7]; exact y1)
    have p3 := hB.2 x y x0 (by rw [s7]; exact x1) y0 (by rw [s7]; exact y1)
    have q1 := he x m x0 x1 m0 m1
    have q2 := he m y m0 m1 y0 y1
    have q3 := he x y x0 x1 y0 y1
    have b1 := p1.2.1
    have b2 := p2.2.1
    have b3 := p3.2.1
    have c1 : B x m < 1000000 → B x m ≤ 1280 := fun z => by have := (b1 z).2; omega
    have c2 : B m y < 1000000 → B m y ≤ 1280 := fun z => by have := (b2 z).2; omega
    have c3 : B x y < 1000000 → B x y ≤ 1280 := fun z => by have := (b3 z).2; omega
    have r1 := p1.1
    have r2 := p2.1
    have r3 := p3.1
    clear b1 b2 b3 p1 p2 p3 hs hB he hq
    have t1 : 0 ≤ (f (x * 7 + m)).toInt ∧ (f (x * 7 + m)).toInt ≤ 10000 := by
      rw [q1]; unfold tau; split <;> omega
    have t2 : 0 ≤ (f (m * 7 + y)).toInt ∧ (f (m * 7 + y)).toInt ≤ 10000 := by
      rw [q2]; unfold tau; split <;> omega
    have e1 : (f (x * 7 + m) + f (m * 7 + y)).toInt = (f (x * 7 + m)).toInt + (f (m * 7 + y)).toInt := i_add (by omega) (by omega)
    have hmn : (mn7 f m x y).toInt = if (f (x * 7 + m)).toInt + (f (m * 7 + y)).toInt < (f (x * 7 + y)).toInt then (f (x * 7 + m)).toInt + (f (m * 7 + y)).toInt else (f (x * 7 + y)).toInt := by
      unfold mn7
      by_cases q : f (x * 7 + m) + f (m * 7 + y) < f (x * 7 + y)
      · rw [if_pos q, if_pos (by rw [← e1]; exact i_lt.mp q), e1]
      · rw [if_neg q, if_neg (fun z => q (i_lt.mpr (by rw [e1]; exact z)))]
    rw [hmn, q1, q2, q3]
    show _ = tau (if B x m + B m y < B x y then B x m + B m y else B x y)
    clear hmn e1 t1 t2 q1 q2 q3
    generalize B x m = u at *
    generalize B m y = w at *
    generalize B x y = z at *
    unfold tau
    (repeat split) <;> omega
theorem InvR.ok {σ f : Int32 → Int32} (h5 : σ 5 ≤ 7) (hR : RdG σ) (h : InvR σ 7 f) : FRok σ f := by
  intro x y x0 x1 y0 y1
  obtain ⟨B, hB, he⟩ := h
  have s7 : (ui σ 5 7) 5 = 7 := ui_s
  have y7 : y < 7 := by lia
  have x7 : x < 7 := by lia
  have q := FJ.done (Rds7 hR) (by decide) (by rw [s7]; exact hB : FJ (ui σ 5 7) ((ui σ 5 7) 5) (20 * 2 ^ (7 : Int32).toNatClampNeg) B) x y x0 (by rw [s7]; exact x7) y0 (by rw [s7]; exact y7)
  exact ⟨B x y, IsD7 h5 hR y0 y7 q.1, q.2.1, q.2.2, he x y x0 x7 y0 y7⟩
theorem dX12_reaches_0 : decode cX12_reaches 0 = .ok (.iconst 0, 1) := by decide +kernel
theorem dX12_reaches_1 : decode cX12_reaches 1 = .ok (.istore_n 1, 1) := by decide +kernel
theorem dX12_reaches_2 : decode cX12_reaches 2 = .ok (.iload_n 1, 1) := by decide +kernel
theorem dX12_reaches_3 : decode cX12_reaches 3 = .ok (.bipush 7, 2) := by decide +kernel
theorem dX12_reaches_5 : decode cX12_reaches 5 = .ok (.if_icmp .ge 80, 3) := by decide +kernel
theorem dX12_reaches_8 : decode cX12_reaches 8 = .ok (.iconst 0, 1) := by decide +kernel
theorem dX12_reaches_9 : decode cX12_reaches 9 = .ok (.istore_n 2, 1) := by decide +kernel
theorem dX12_reaches_10 : decode cX12_reaches 10 = .ok (.iload_n 2, 1) := by decide +kernel
theorem dX12_reaches_11 : decode cX12_reaches 11 = .ok (.bipush 7, 2) := by decide +kernel
theorem dX12_reaches_13 : decode cX12_reaches 13 = .ok (.if_icmp .ge 66, 3) := by decide +kernel
theorem dX12_reaches_16 : decode cX12_reaches 16 = .ok (.aload_n 0, 1) := by decide +kernel
theorem dX12_reaches_17 : decode cX12_reaches 17 = .ok (.getfield 29, 3) := by decide +kernel
theorem dX12_reaches_20 : decode cX12_reaches 20 = .ok (.bipush 7, 2) := by decide +kernel
theorem dX12_reaches_22 : decode cX12_reaches 22 = .ok (.iload_n 1, 1) := by decide +kernel
theorem dX12_reaches_23 : decode cX12_reaches 23 = .ok (.imul, 1) := by decide +kernel
theorem dX12_reaches_24 : decode cX12_reaches 24 = .ok (.iload_n 2, 1) := by decide +kernel
theorem dX12_reaches_25 : decode cX12_reaches 25 = .ok (.iadd, 1) := by decide +kernel
theorem dX12_reaches_26 : decode cX12_reaches 26 = .ok (.iload_n 1, 1) := by decide +kernel
theorem dX12_reaches_27 : decode cX12_reaches 27 = .ok (.iload_n 2, 1) := by decide +kernel
theorem dX12_reaches_28 : decode cX12_reaches 28 = .ok (.if_icmp .ne 7, 3) := by decide +kernel
theorem dX12_reaches_31 : decode cX12_reaches 31 = .ok (.iconst 0, 1) := by decide +kernel
theorem dX12_reaches_32 : decode cX12_reaches 32 = .ok (.goto 40, 3) := by decide +kernel
theorem dX12_reaches_35 : decode cX12_reaches 35 = .ok (.aload_n 0, 1) := by decide +kernel
theorem dX12_reaches_36 : decode cX12_reaches 36 = .ok (.getfield 16, 3) := by decide +kernel
theorem dX12_reaches_39 : decode cX12_reaches 39 = .ok (.bipush 8, 2) := by decide +kernel
theorem dX12_reaches_41 : decode cX12_reaches 41 = .ok (.bipush 7, 2) := by decide +kernel
theorem dX12_reaches_43 : decode cX12_reaches 43 = .ok (.iload_n 1, 1) := by decide +kernel
theorem dX12_reaches_44 : decode cX12_reaches 44 = .ok (.imul, 1) := by decide +kernel
theorem dX12_reaches_45 : decode cX12_reaches 45 = .ok (.iadd, 1) := by decide +kernel
theorem dX12_reaches_46 : decode cX12_reaches 46 = .ok (.iload_n 2, 1) := by decide +kernel
theorem dX12_reaches_47 : decode cX12_reaches 47 = .ok (.iadd, 1) := by decide +kernel
theorem dX12_reaches_48 : decode cX12_reaches 48 = .ok (.iaload, 1) := by decide +kernel
theorem dX12_reaches_49 : decode cX12_reaches 49 = .ok (.ifCond .le 20, 3) := by decide +kernel
theorem dX12_reaches_52 : decode cX12_reaches 52 = .ok (.aload_n 0, 1) := by decide +kernel
theorem dX12_reaches_53 : decode cX12_reaches 53 = .ok (.getfield 16, 3) := by decide +kernel
theorem dX12_reaches_56 : decode cX12_reaches 56 = .ok (.bipush 8, 2) := by decide +kernel
theorem dX12_reaches_58 : decode cX12_reaches 58 = .ok (.bipush 7, 2) := by decide +kernel
theorem dX12_reaches_60 : decode cX12_reaches 60 = .ok (.iload_n 1, 1) := by decide +kernel
theorem dX12_reaches_61 : decode cX12_reaches 61 = .ok (.imul, 1) := by decide +kernel
theorem dX12_reaches_62 : decode cX12_reaches 62 = .ok (.iadd, 1) := by decide +kernel
theorem dX12_reaches_63 : decode cX12_reaches 63 = .ok (.iload_n 2, 1) := by decide +kernel
theorem dX12_reaches_64 : decode cX12_reaches 64 = .ok (.iadd, 1) := by decide +kernel
theorem dX12_reaches_65 : decode cX12_reaches 65 = .ok (.iaload, 1) := by decide +kernel
theorem dX12_reaches_66 : decode cX12_reaches 66 = .ok (.goto 6, 3) := by decide +kernel
theorem dX12_reaches_69 : decode cX12_reaches 69 = .ok (.sipush 10000, 3) := by decide +kernel
theorem dX12_reaches_72 : decode cX12_reaches 72 = .ok (.iastore, 1) := by decide +kernel
theorem dX12_reaches_73 : decode cX12_reaches 73 = .ok (.iinc 2 1, 3) := by decide +kernel
theorem dX12_reaches_76 : decode cX12_reaches 76 = .ok (.goto (-66), 3) := by decide +kernel
theorem dX12_reaches_79 : decode cX12_reaches 79 = .ok (.iinc 1 1, 3) := by decide +kernel
theorem dX12_reaches_82 : decode cX12_reaches 82 = .ok (.goto (-80), 3) := by decide +kernel
theorem dX12_reaches_85 : decode cX12_reaches 85 = .ok (.iconst 0, 1) := by decide +kernel
theorem dX12_reaches_86 : decode cX12_reaches 86 = .ok (.istore_n 1, 1) := by decide +kernel
theorem dX12_reaches_87 : decode cX12_reaches 87 = .ok (.iload_n 1, 1) := by decide +kernel
theorem dX12_reaches_88 : decode cX12_reaches 88 = .ok (.bipush 7, 2) := by decide +kernel
theorem dX12_reaches_90 : decode cX12_reaches 90 = .ok (.if_icmp .ge 91, 3) := by decide +kernel
theorem dX12_reaches_93 : decode cX12_reaches 93 = .ok (.iconst 0, 1) := by decide +kernel
theorem dX12_reaches_94 : decode cX12_reaches 94 = .ok (.istore_n 2, 1) := by decide +kernel
theorem dX12_reaches_95 : decode cX12_reaches 95 = .ok (.iload_n 2, 1) := by decide +kernel
theorem dX12_reaches_96 : decode cX12_reaches 96 = .ok (.bipush 7, 2) := by decide +kernel
theorem dX12_reaches_98 : decode cX12_reaches 98 = .ok (.if_icmp .ge 77, 3) := by decide +kernel
theorem dX12_reaches_101 : decode cX12_reaches 101 = .ok (.iconst 0, 1) := by decide +kernel
theorem dX12_reaches_102 : decode cX12_reaches 102 = .ok (.istore_n 3, 1) := by decide +kernel
theorem dX12_reaches_103 : decode cX12_reaches 103 = .ok (.iload_n 3, 1) := by decide +kernel
theorem dX12_reaches_104 : decode cX12_reaches 104 = .ok (.bipush 7, 2) := by decide +kernel
theorem dX12_reaches_106 : decode cX12_reaches 106 = .ok (.if_icmp .ge 63, 3) := by decide +kernel
theorem dX12_reaches_109 : decode cX12_reaches 109 = .ok (.aload_n 0, 1) := by decide +kernel
theorem dX12_reaches_110 : decode cX12_reaches 110 = .ok (.getfield 29, 3) := by decide +kernel
theorem dX12_reaches_113 : decode cX12_reaches 113 = .ok (.bipush 7, 2) := by decide +kernel
theorem dX12_reaches_115 : decode cX12_reaches 115 = .ok (.iload_n 2, 1) := by decide +kernel
theorem dX12_reaches_116 : decode cX12_reaches 116 = .ok (.imul, 1) := by decide +kernel
theorem dX12_reaches_117 : decode cX12_reaches 117 = .ok (.iload_n 1, 1) := by decide +kernel
theorem dX12_reaches_118 : decode cX12_reaches 118 = .ok (.iadd, 1) := by decide +kernel
theorem dX12_reaches_119 : decode cX12_reaches 119 = .ok (.iaload, 1) := by decide +kernel
theorem dX12_reaches_120 : decode cX12_reaches 120 = .ok (.aload_n 0, 1) := by decide +kernel
theorem dX12_reaches_121 : decode cX12_reaches 121 = .ok (.getfield 29, 3) := by decide +kernel
theorem dX12_reaches_124 : decode cX12_reaches 124 = .ok (.bipush 7, 2) := by decide +kernel
theorem dX12_reaches_126 : decode cX12_reaches 126 = .ok (.iload_n 1, 1) := by decide +kernel
theorem dX12_reaches_127 : decode cX12_reaches 127 = .ok (.imul, 1) := by decide +kernel
theorem dX12_reaches_128 : decode cX12_reaches 128 = .ok (.iload_n 3, 1) := by decide +kernel
theorem dX12_reaches_129 : decode cX12_reaches 129 = .ok (.iadd, 1) := by decide +kernel
theorem dX12_reaches_130 : decode cX12_reaches 130 = .ok (.iaload, 1) := by decide +kernel
theorem dX12_reaches_131 : decode cX12_reaches 131 = .ok (.iadd, 1) := by decide +kernel
theorem dX12_reaches_132 : decode cX12_reaches 132 = .ok (.istore 4, 2) := by decide +kernel
theorem dX12_reaches_134 : decode cX12_reaches 134 = .ok (.iload 4, 2) := by decide +kernel
theorem dX12_reaches_136 : decode cX12_reaches 136 = .ok (.aload_n 0, 1) := by decide +kernel
theorem dX12_reaches_137 : decode cX12_reaches 137 = .ok (.getfield 29, 3) := by decide +kernel
theorem dX12_reaches_140 : decode cX12_reaches 140 = .ok (.bipush 7, 2) := by decide +kernel
theorem dX12_reaches_142 : decode cX12_reaches 142 = .ok (.iload_n 2, 1) := by decide +kernel
theorem dX12_reaches_143 : decode cX12_reaches 143 = .ok (.imul, 1) := by decide +kernel
theorem dX12_reaches_144 : decode cX12_reaches 144 = .ok (.iload_n 3, 1) := by decide +kernel
theorem dX12_reaches_145 : decode cX12_reaches 145 = .ok (.iadd, 1) := by decide +kernel
theorem dX12_reaches_146 : decode cX12_reaches 146 = .ok (.iaload, 1) := by decide +kernel
theorem dX12_reaches_147 : decode cX12_reaches 147 = .ok (.if_icmp .ge 16, 3) := by decide +kernel
theorem dX12_reaches_150 : decode cX12_reaches 150 = .ok (.aload_n 0, 1) := by decide +kernel
theorem dX12_reaches_151 : decode cX12_reaches 151 = .ok (.getfield 29, 3) := by decide +kernel
theorem dX12_reaches_154 : decode cX12_reaches 154 = .ok (.bipush 7, 2) := by decide +kernel
theorem dX12_reaches_156 : decode cX12_reaches 156 = .ok (.iload_n 2, 1) := by decide +kernel
theorem dX12_reaches_157 : decode cX12_reaches 157 = .ok (.imul, 1) := by decide +kernel
theorem dX12_reaches_158 : decode cX12_reaches 158 = .ok (.iload_n 3, 1) := by decide +kernel
theorem dX12_reaches_159 : decode cX12_reaches 159 = .ok (.iadd, 1) := by decide +kernel
theorem dX12_reaches_160 : decode cX12_reaches 160 = .ok (.iload 4, 2) := by decide +kernel
theorem dX12_reaches_162 : decode cX12_reaches 162 = .ok (.iastore, 1) := by decide +kernel
theorem dX12_reaches_163 : decode cX12_reaches 163 = .ok (.iinc 3 1, 3) := by decide +kernel
theorem dX12_reaches_166 : decode cX12_reaches 166 = .ok (.goto (-63), 3) := by decide +kernel
theorem dX12_reaches_169 : decode cX12_reaches 169 = .ok (.iinc 2 1, 3) := by decide +kernel
theorem dX12_reaches_172 : decode cX12_reaches 172 = .ok (.goto (-77), 3) := by decide +kernel
theorem dX12_reaches_175 : decode cX12_reaches 175 = .ok (.iinc 1 1, 3) := by decide +kernel
theorem dX12_reaches_178 : decode cX12_reaches 178 = .ok (.goto (-91), 3) := by decide +kernel
theorem dX12_reaches_181 : decode cX12_reaches 181 = .ok (.return_, 1) := by decide +kernel
set_option maxRecDepth 100000 in
set_option maxHeartbeats 4000000 in
theorem r_reaches {l : Launch} {g : Nat → Nat} {M : LH} (htr : l.stackTraces = false) {kd : Nat → Nat} {r m : Nat} {w : Nat → Nat} {t ch ea fl sv bf tn he en ln wr dg : Int32} {v b4 sa pa fr th bs tx li lf to : Int32 → Int32} (hC : Md kd r M m w t ch ea fl sv bf tn he en ln wr dg v b4 sa pa fr th bs tx li lf to) (hG : Good v) : K_X12_reaches l g 0 0 0 [.ref m] M (RV (fun M9 => ∃ f', FRok v f' ∧ Md kd r M9 m w t ch ea fl sv bf tn he en ln wr dg v b4 sa pa f' th bs tx li lf to ∧ Frm kd r M M9) nX) := by
  refine Ko_X12_reaches htr (fun X => ?_)
  obtain ⟨hMo, hw5, hw6, hw7, hw8, hw9, hw10, hw11, hw13, hw14, hw15, hw16, hw17, hw18, -⟩ := _root_.id hC
  have hF : Frm kd r M M := Frm.rf
  obtain ⟨hg1, hg2, hg3, hg4, hg5, hg6, hg7, hg8, hgL, hgS, -⟩ := _root_.id hG
  have hR : RdG v := hG.2.2.2.2.2.2.2.2.2.2.1
  clear hgL hgS
  have keyA : ∀ b, 0 ≤ b → b ≤ 7 → ∀ (M1 : LH) (f' : Int32 → Int32) (z2 z3 z4 : Option Value), InvR v b f' → Md kd r M1 m w t ch ea fl sv bf tn he en ln wr dg v b4 sa pa f' th bs tx li lf to → Frm kd r M M1 → V l g yX12_reaches cX12_reaches (none) [] 0 0 0 (RV (fun M9 => ∃ f', FRok v f' ∧ Md kd r M9 m w t ch ea fl sv bf tn he en ln wr dg v b4 sa pa f' th bs tx li lf to ∧ Frm kd r M M9) nX) X M1 0 0 87 [some (.ref m), some (.int b), z2, z3, z4] [] := by
    clear hC hF hMo hw5 hw6 hw7 hw8 hw9 hw10 hw11 hw13 hw14 hw15 hw16 hw17 hw18
    refine up_ind _ (fun b h0 h1 ih M1 f0 z2 z3 z4 hI hC hF => ?_)
    by_cases hb : b < 7
    · have hz := hI.d0 h0 hb
      have fin := fun (M1 : LH) (f' : Int32 → Int32) (z2 z3 z4 : Option Value) (hq : ∀ x y, 0 ≤ x → x < 7 → 0 ≤ y → y < 7 → f' (x * 7 + y) = mn7 f0 b x y) => ih hb M1 f' z2 z3 z4 (hI.s h0 hb hq)
      clear ih hI
      have key1 : ∀ i, 0 ≤ i → i ≤ 7 → ∀ (M1 : LH) (f' : Int32 → Int32) (z3 z4 : Option Value), Tb 7 i 0 (mn7 f0 b) (fun x y => f0 (x * 7 + y)) f' → Md kd r M1 m w t ch ea fl sv bf tn he en ln wr dg v b4 sa pa f' th bs tx li lf to → Frm kd r M M1 → V l g yX12_reaches cX12_reaches (none) [] 0 0 0 (RV (fun M9 => ∃ f', FRok v f' ∧ Md kd r M9 m w t ch ea fl sv bf tn he en ln wr dg v b4 sa pa f' th bs tx li lf to ∧ Frm kd r M M9) nX) X M1 0 0 95 [some (.ref m), some (.int b), some (.int i), z3, z4] [] := by
        clear hC hF
        refine up_ind _ (fun i i0 i1 ih M1 f' z3 z4 hv hC hF => ?_)
        have key2 : i < 7 → ∀ j, 0 ≤ j → j ≤ 7 → ∀ (M1 : LH) (f' : Int32 → Int32) (z4 : Option Value), Tb 7 i j (mn7 f0 b) (fun x y => f0 (x * 7 + y)) f' → Md kd r M1 m w t ch ea fl sv bf tn he en ln wr dg v b4 sa pa f' th bs tx li lf to → Frm kd r M M1 → V l g yX12_reaches cX12_reaches (none) [] 0 0 0 (RV (fun M9 => ∃ f', FRok v f' ∧ Md kd r M9 m w t ch ea fl sv bf tn he en ln wr dg v b4 sa pa f' th bs tx li lf to ∧ Frm kd r M M9) nX) X M1 0 0 103 [some (.ref m), some (.int b), some (.int i), some (.int j), z4] [] := by
          intro hi
          clear hC hF hv
          refine up_ind _ (fun j k0 k1 jh M1 f' z4 hv hC hF => ?_)
          obtain ⟨hMo, hw5, hw6, hw7, hw8, hw9, hw10, hw11, hw13, hw14, hw15, hw16, hw17, hw18, -⟩ := _root_.id hC
          refine v_iload_n dX12_reaches_103 rfl rfl ?_
          refine v_bipush (v := (7)) dX12_reaches_104 (by decide) ?_
          refine v_icmp_ge (tgt := 169) dX12_reaches_106 (by decide) (fun h106 => ?_) (fun h106 => ?_)
          · have hj : j = 7 := by clear hC hF hMo hw5 hw6 hw7 hw8 hw9 hw10 hw11 hw13 hw14 hw15 hw16 hw17 hw18 hv jh ih fin; lia
            subst hj
            refine v_iinc_2 dX12_reaches_169 rfl ?_
            refine v_goto (tgt := 95) dX12_reaches_172 (by decide) ?_
            exact ih hi M1 f' _ _ (hv.row (by decide) hi) hC hF
          · have hj : j < 7 := by clear hC hF hMo hw5 hw6 hw7 hw8 hw9 hw10 hw11 hw13 hw14 hw15 hw16 hw17 hw18 hv jh ih fin; lia
            obtain ⟨b0, b1⟩ := cell_in i0 hi k0 hj
            obtain ⟨a0, a1⟩ := cell_in i0 hi h0 hb
            obtain ⟨d0, d1⟩ := cell_in h0 hb k0 hj
            have e1 := hv.colm hz h0 hb i0 hi
            have e2 := hv.rowm hz h0 hb k0 hj
            have e3 := hv.hr i0 hi k0 hj
            rw [← Int32.mul_comm 7 i] at a0 a1 b0 b1
            rw [← Int32.mul_comm 7 b] at d0 d1
            refine v_aload_n dX12_reaches_109 rfl rfl ?_
            refine gf_X12_29 dX12_reaches_110 rfl hMo ?_
            refine v_bipush (v := (7)) dX12_reaches_113 (by decide) ?_
            refine v_iload_n dX12_reaches_115 rfl rfl ?_
            refine v_imul dX12_reaches_116 ?_
            refine v_iload_n dX12_reaches_117 rfl rfl ?_
            refine v_iadd dX12_reaches_118 ?_
            refine v_iald dX12_reaches_119 hw9 a0 a1 ?_
            refine v_aload_n dX12_reaches_120 rfl rfl ?_
            refine gf_X12_29 dX12_reaches_121 rfl hMo ?_
            refine v_bipush (v := (7)) dX12_reaches_124 (by decide) ?_
            refine v_iload_n dX12_reaches_126 rfl rfl ?_
            refine v_imul dX12_reaches_127 ?_
            refine v_iload_n dX12_reaches_128 rfl rfl ?_
            refine v_iadd dX12_reaches_129 ?_
            refine v_iald dX12_reaches_130 hw9 d0 d1 ?_
            refine v_iadd dX12_reaches_131 ?_
            refine v_istore_4 dX12_reaches_132 ?_
            refine v_iload dX12_reaches_134 rfl ?_
            refine v_aload_n dX12_reaches_136 rfl rfl ?_
            refine gf_X12_29 dX12_reaches_137 rfl hMo ?_
            refine v_bipush (v := (7)) dX12_reaches_140 (by decide) ?_
            refine v_iload_n dX12_reaches_142 rfl rfl ?_
            refine v_imul dX12_reaches_143 ?_
            refine v_iload_n dX12_reaches_144 rfl rfl ?_
            refine v_iadd dX12_reaches_145 ?_
            refine v_iald dX12_reaches_146 hw9 b0 b1 ?_
            refine v_icmp_ge (tgt := 163) dX12_reaches_147 (by decide) (fun h147 => ?_) (fun h147 => ?_)
            · refine v_iinc_3 dX12_reaches_163 rfl ?_
              refine v_goto (tgt := 103) dX12_reaches_166 (by decide) ?_
              rw [Int32.mul_comm 7 i, Int32.mul_comm 7 b, e1, e2, e3] at h147
              first
                | (rw [Int32.mul_comm 7 i, Int32.mul_comm 7 b, e1, e2] at hC
                   exact jh hj M1 _ _ (hv.step (by decide) i0 hi k0 hj (by unfold mn7; rw [if_pos (Int32.not_le.mp h147)])) hC hF)
                | (have hs := hv.step (v := f' (i * 7 + j)) (by decide) i0 hi k0 hj (by unfold mn7; rw [if_neg (Int32.not_lt.mpr h147), e3])
                   rw [ui_self] at hs
                   exact jh hj M1 _ _ hs hC hF)
            · refine v_aload_n dX12_reaches_150 rfl rfl ?_
              refine gf_X12_29 dX12_reaches_151 rfl hMo ?_
              refine v_bipush (v := (7)) dX12_reaches_154 (by decide) ?_
              refine v_iload_n dX12_reaches_156 rfl rfl ?_
              refine v_imul dX12_reaches_157 ?_
              refine v_iload_n dX12_reaches_158 rfl rfl ?_
              refine v_iadd dX12_reaches_159 ?_
              refine v_iload dX12_reaches_160 rfl ?_
              refine v_iast dX12_reaches_162 hw9 b0 b1 ?_
              refine V.md (Md.r9 hC) (Frm.tr hF (Frm.up (hC.kd_r9))) (fun M1 hC hF => ?_)
              obtain ⟨hMo, hw5, hw6, hw7, hw8, hw9, hw10, hw11, hw13, hw14, hw15, hw16, hw17, hw18, -⟩ := _root_.id hC
              refine v_iinc_3 dX12_reaches_163 rfl ?_
              refine v_goto (tgt := 103) dX12_reaches_166 (by decide) ?_
              rw [Int32.mul_comm 7 i, Int32.mul_comm 7 b, e1, e2, e3] at h147
              first
                | (rw [Int32.mul_comm 7 i, Int32.mul_comm 7 b, e1, e2] at hC
                   exact jh hj M1 _ _ (hv.step (by decide) i0 hi k0 hj (by unfold mn7; rw [if_pos (Int32.not_le.mp h147)])) hC hF)
                | (have hs := hv.step (v := f' (i * 7 + j)) (by decide) i0 hi k0 hj (by unfold mn7; rw [if_neg (Int32.not_lt.mpr h147), e3])
                   rw [ui_self] at hs
                   exact jh hj M1 _ _ hs hC hF)
        refine v_iload_n dX12_reaches_95 rfl rfl ?_
        refine v_bipush (v := (7)) dX12_reaches_96 (by decide) ?_
        refine v_icmp_ge (tgt := 175) dX12_reaches_98 (by decide) (fun h98 => ?_) (fun h98 => ?_)
        · have hi : i = 7 := by clear hC hF hv ih key2 fin; lia
          subst hi
          refine v_iinc_1 dX12_reaches_175 rfl ?_
          refine v_goto (tgt := 87) dX12_reaches_178 (by decide) ?_
          exact fin M1 f' _ _ _ hv.all hC hF
        · have hi : i < 7 := by clear hC hF hv ih key2 fin; lia
          refine v_iconst (v := 0) dX12_reaches_101 (by decide) ?_
          refine v_istore_3 dX12_reaches_102 ?_
          exact key2 hi 0 (by decide) (by decide) M1 f' _ hv hC hF
      refine v_iload_n dX12_reaches_87 rfl rfl ?_
      refine v_bipush (v := (7)) dX12_reaches_88 (by decide) ?_
      refine v_icmp_ge (tgt := 181) dX12_reaches_90 (by decide) (fun h90 => ?_) (fun h90 => ?_)
      · exact absurd hb (Int32.not_lt.mpr h90)
      · refine v_iconst (v := 0) dX12_reaches_93 (by decide) ?_
        refine v_istore_2 dX12_reaches_94 ?_
        exact key1 0 (by decide) (by decide) M1 f0 _ _ Tb.z hC hF
    · have hbe : b = 7 := by clear ih hI hC hF; lia
      subst hbe
      refine v_iload_n dX12_reaches_87 rfl rfl ?_
      refine v_bipush (v := (7)) dX12_reaches_88 (by decide) ?_
      refine v_icmp_ge (tgt := 181) dX12_reaches_90 (by decide) (fun h90 => ?_) (fun h90 => ?_)
      · exact v_vret dX12_reaches_181 rfl ⟨f0, hI.ok hg2 hR, hC, hF⟩ (by omega) (by omega)
      · exact absurd (Int32.le_refl _) h90
  have key1 : ∀ i, 0 ≤ i → i ≤ 7 → ∀ (M1 : LH) (f' : Int32 → Int32) (z2 z3 z4 : Option Value), Tb 7 i 0 (dirT v) (fun x y => fr (x * 7 + y)) f' → Md kd r M1 m w t ch ea fl sv bf tn he en ln wr dg v b4 sa pa f' th bs tx li lf to → Frm kd r M M1 → V l g yX12_reaches cX12_reaches (none) [] 0 0 0 (RV (fun M9 => ∃ f', FRok v f' ∧ Md kd r M9 m w t ch ea fl sv bf tn he en ln wr dg v b4 sa pa f' th bs tx li lf to ∧ Frm kd r M M9) nX) X M1 0 0 2 [some (.ref m), some (.int i), z2, z3, z4] [] := by
    clear hC hF hMo hw5 hw6 hw7 hw8 hw9 hw10 hw11 hw13 hw14 hw15 hw16 hw17 hw18
    refine up_ind _ (fun i i0 i1 ih M1 f' z2 z3 z4 hv hC hF => ?_)
    have key2 : i < 7 → ∀ j, 0 ≤ j → j ≤ 7 → ∀ (M1 : LH) (f' : Int32 → Int32) (z3 z4 : Option Value), Tb 7 i j (dirT v) (fun x y => fr (x * 7 + y)) f' → Md kd r M1 m w t ch ea fl sv bf tn he en ln wr dg v b4 sa pa f' th bs tx li lf to → Frm kd r M M1 → V l g yX12_reaches cX12_reaches (none) [] 0 0 0 (RV (fun M9 => ∃ f', FRok v f' ∧ Md kd r M9 m w t ch ea fl sv bf tn he en ln wr dg v b4 sa pa f' th bs tx li lf to ∧ Frm kd r M M9) nX) X M1 0 0 10 [some (.ref m), some (.int i), some (.int j), z3, z4] [] := by
      intro hi
      clear hC hF hv
      refine up_ind _ (fun j k0 k1 jh M1 f' z3 z4 hv hC hF => ?_)
      obtain ⟨hMo, hw5, hw6, hw7, hw8, hw9, hw10, hw11, hw13, hw14, hw15, hw16, hw17, hw18, -⟩ := _root_.id hC
      refine v_iload_n dX12_reaches_10 rfl rfl ?_
      refine v_bipush (v := (7)) dX12_reaches_11 (by decide) ?_
      refine v_icmp_ge (tgt := 79) dX12_reaches_13 (by decide) (fun h13 => ?_) (fun h13 => ?_)
      · have hj : j = 7 := by clear hC hF hMo hw5 hw6 hw7 hw8 hw9 hw10 hw11 hw13 hw14 hw15 hw16 hw17 hw18 hv jh ih keyA; lia
        subst hj
        refine v_iinc_1 dX12_reaches_79 rfl ?_
        refine v_goto (tgt := 2) dX12_reaches_82 (by decide) ?_
        exact ih hi M1 f' _ _ _ (hv.row (by decide) hi) hC hF
      · have hj : j < 7 := by clear hC hF hMo hw5 hw6 hw7 hw8 hw9 hw10 hw11 hw13 hw14 hw15 hw16 hw17 hw18 hv jh ih keyA; lia
        refine v_aload_n dX12_reaches_16 rfl rfl ?_
        refine gf_X12_29 dX12_reaches_17 rfl hMo ?_
        refine v_bipush (v := (7)) dX12_reaches_20 (by decide) ?_
        refine v_iload_n dX12_reaches_22 rfl rfl ?_
        refine v_imul dX12_reaches_23 ?_
        refine v_iload_n dX12_reaches_24 rfl rfl ?_
        refine v_iadd dX12_reaches_25 ?_
        refine v_iload_n dX12_reaches_26 rfl rfl ?_
        refine v_iload_n dX12_reaches_27 rfl rfl ?_
        refine v_icmp_ne (tgt := 35) dX12_reaches_28 (by decide) (fun h28 => ?_) (fun h28 => ?_)
        · refine v_aload_n dX12_reaches_35 rfl rfl ?_
          refine gf_X12_16 dX12_reaches_36 rfl hMo ?_
          refine v_bipush (v := (8)) dX12_reaches_39 (by decide) ?_
          refine v_bipush (v := (7)) dX12_reaches_41 (by decide) ?_
          refine v_iload_n dX12_reaches_43 rfl rfl ?_
          refine v_imul dX12_reaches_44 ?_
          refine v_iadd dX12_reaches_45 ?_
          refine v_iload_n dX12_reaches_46 rfl rfl ?_
          refine v_iadd dX12_reaches_47 ?_
          refine v_iald dX12_reaches_48 hw5 (by clear hC hF hMo hw5 hw6 hw7 hw8 hw9 hw10 hw11 hw13 hw14 hw15 hw16 hw17 hw18 hv jh ih keyA; lia) (by clear hC hF hMo hw5 hw6 hw7 hw8 hw9 hw10 hw11 hw13 hw14 hw15 hw16 hw17 hw18 hv jh ih keyA; lia) ?_
          refine v_if_le (tgt := 69) dX12_reaches_49 (by decide) (fun h49 => ?_) (fun h49 => ?_)
          · refine v_sipush (v := (10000)) dX12_reaches_69 (by decide) ?_
            refine v_iast dX12_reaches_72 hw9 (by clear hC hF hMo hw5 hw6 hw7 hw8 hw9 hw10 hw11 hw13 hw14 hw15 hw16 hw17 hw18 hv jh ih keyA; lia) (by clear hC hF hMo hw5 hw6 hw7 hw8 hw9 hw10 hw11 hw13 hw14 hw15 hw16 hw17 hw18 hv jh ih keyA; lia) ?_
            refine V.md (Md.r9 hC) (Frm.tr hF (Frm.up (hC.kd_r9))) (fun M1 hC hF => ?_)
            obtain ⟨hMo, hw5, hw6, hw7, hw8, hw9, hw10, hw11, hw13, hw14, hw15, hw16, hw17, hw18, -⟩ := _root_.id hC
            refine v_iinc_2 dX12_reaches_73 rfl ?_
            refine v_goto (tgt := 10) dX12_reaches_76 (by decide) ?_
            rw [Int32.mul_comm 7 i] at hC
            refine jh hj M1 _ _ _ (hv.step (by decide) i0 hi k0 hj ?_) hC hF
            unfold dirT rd
            first
              | rw [if_pos (by assumption)]
              | rw [if_neg (by assumption), if_pos (by first | assumption | exact Int32.not_le.mp (by assumption)), Int32.mul_comm 7 i]
              | rw [if_neg (by assumption), if_neg (by first | assumption | exact Int32.not_lt.mpr (by assumption))]
          · refine v_aload_n dX12_reaches_52 rfl rfl ?_
            refine gf_X12_16 dX12_reaches_53 rfl hMo ?_
            refine v_bipush (v := (8)) dX12_reaches_56 (by decide) ?_
            refine v_bipush (v := (7)) dX12_reaches_58 (by decide) ?_
            refine v_iload_n dX12_reaches_60 rfl rfl ?_
            refine v_imul dX12_reaches_61 ?_
            refine v_iadd dX12_reaches_62 ?_
            refine v_iload_n dX12_reaches_63 rfl rfl ?_
            refine v_iadd dX12_reaches_64 ?_
            refine v_iald dX12_reaches_65 hw5 (by clear hC hF hMo hw5 hw6 hw7 hw8 hw9 hw10 hw11 hw13 hw14 hw15 hw16 hw17 hw18 hv jh ih keyA; lia) (by clear hC hF hMo hw5 hw6 hw7 hw8 hw9 hw10 hw11 hw13 hw14 hw15 hw16 hw17 hw18 hv jh ih keyA; lia) ?_
            refine v_goto (tgt := 72) dX12_reaches_66 (by decide) ?_
            refine v_iast dX12_reaches_72 hw9 (by clear hC hF hMo hw5 hw6 hw7 hw8 hw9 hw10 hw11 hw13 hw14 hw15 hw16 hw17 hw18 hv jh ih keyA; lia) (by clear hC hF hMo hw5 hw6 hw7 hw8 hw9 hw10 hw11 hw13 hw14 hw15 hw16 hw17 hw18 hv jh ih keyA; lia) ?_
            refine V.md (Md.r9 hC) (Frm.tr hF (Frm.up (hC.kd_r9))) (fun M1 hC hF => ?_)
            obtain ⟨hMo, hw5, hw6, hw7, hw8, hw9, hw10, hw11, hw13, hw14, hw15, hw16, hw17, hw18, -⟩ := _root_.id hC
            refine v_iinc_2 dX12_reaches_73 rfl ?_
            refine v_goto (tgt := 10) dX12_reaches_76 (by decide) ?_
            rw [Int32.mul_comm 7 i] at hC
            refine jh hj M1 _ _ _ (hv.step (by decide) i0 hi k0 hj ?_) hC hF
            unfold dirT rd
            first
              | rw [if_pos (by assumption)]
              | rw [if_neg (by assumption), if_pos (by first | assumption | exact Int32.not_le.mp (by assumption)), Int32.mul_comm 7 i]
              | rw [if_neg (by assumption), if_neg (by first | assumption | exact Int32.not_lt.mpr (by assumption))]
        · refine v_iconst (v := 0) dX12_reaches_31 (by decide) ?_
          refine v_goto (tgt := 72) dX12_reaches_32 (by decide) ?_
          refine v_iast dX12_reaches_72 hw9 (by clear hC hF hMo hw5 hw6 hw7 hw8 hw9 hw10 hw11 hw13 hw14 hw15 hw16 hw17 hw18 hv jh ih keyA; lia) (by clear hC hF hMo hw5 hw6 hw7 hw8 hw9 hw10 hw11 hw13 hw14 hw15 hw16 hw17 hw18 hv jh ih keyA; lia) ?_
          refine V.md (Md.r9 hC) (Frm.tr hF (Frm.up (hC.kd_r9))) (fun M1 hC hF => ?_)
          obtain ⟨hMo, hw5, hw6, hw7, hw8, hw9, hw10, hw11, hw13, hw14, hw15, hw16, hw17, hw18, -⟩ := _root_.id hC
          refine v_iinc_2 dX12_reaches_73 rfl ?_
          refine v_goto (tgt := 10) dX12_reaches_76 (by decide) ?_
          rw [Int32.mul_comm 7 i] at hC
          refine jh hj M1 _ _ _ (hv.step (by decide) i0 hi k0 hj ?_) hC hF
          unfold dirT rd
          first
            | rw [if_pos (by assumption)]
            | rw [if_neg (by assumption), if_pos (by first | assumption | exact Int32.not_le.mp (by assumption)), Int32.mul_comm 7 i]
            | rw [if_neg (by assumption), if_neg (by first | assumption | exact Int32.not_lt.mpr (by assumption))]
    refine v_iload_n dX12_reaches_2 rfl rfl ?_
    refine v_bipush (v := (7)) dX12_reaches_3 (by decide) ?_
    refine v_icmp_ge (tgt := 85) dX12_reaches_5 (by decide) (fun h5 => ?_) (fun h5 => ?_)
    · have hi : i = 7 := by clear hC hF hv ih key2 keyA; lia
      subst hi
      refine v_iconst (v := 0) dX12_reaches_85 (by decide) ?_
      refine v_istore_1 dX12_reaches_86 ?_
      exact keyA 0 (by decide) (by decide) M1 f' _ _ _ (InvR.z hR hv.all) hC hF
    · have hi : i < 7 := by clear hC hF hv ih key2 keyA; lia
      refine v_iconst (v := 0) dX12_reaches_8 (by decide) ?_
      refine v_istore_2 dX12_reaches_9 ?_
      exact key2 hi 0 (by decide) (by decide) M1 f' _ _ hv hC hF
  refine v_iconst (v := 0) dX12_reaches_0 (by decide) ?_
  refine v_istore_1 dX12_reaches_1 ?_
  exact key1 0 (by decide) (by decide) M fr none none none Tb.z hC hF

theorem dX12_apart_0 : decode cX12_apart 0 = .ok (.aload_n 0, 1) := by decide +kernel
theorem dX12_apart_1 : decode cX12_apart 1 = .ok (.getfield 29, 3) := by decide +kernel
theorem dX12_apart_4 : decode cX12_apart 4 = .ok (.bipush 7, 2) := by decide +kernel
theorem dX12_apart_6 : decode cX12_apart 6 = .ok (.iload_n 1, 1) := by decide +kernel
theorem dX12_apart_7 : decode cX12_apart 7 = .ok (.imul, 1) := by decide +kernel
theorem dX12_apart_8 : decode cX12_apart 8 = .ok (.iload_n 2, 1) := by decide +kernel
theorem dX12_apart_9 : decode cX12_apart 9 = .ok (.iadd, 1) := by decide +kernel
theorem dX12_apart_10 : decode cX12_apart 10 = .ok (.iaload, 1) := by decide +kernel
theorem dX12_apart_11 : decode cX12_apart 11 = .ok (.ireturn, 1) := by decide +kernel
set_option maxRecDepth 100000 in
set_option maxHeartbeats 4000000 in
theorem r_apart {l : Launch} {g : Nat → Nat} {M : LH} (htr : l.stackTraces = false) {kd : Nat → Nat} {r m : Nat} {w : Nat → Nat} {t ch ea fl sv bf tn he en ln wr dg : Int32} {v b4 sa pa fr th bs tx li lf to : Int32 → Int32} (hC : Md kd r M m w t ch ea fl sv bf tn he en ln wr dg v b4 sa pa fr th bs tx li lf to) {a b : Int32} (a0 : 0 ≤ a) (a1 : a < 7) (b0 : 0 ≤ b) (b1 : b < 7) : K_X12_apart l g 0 0 0 [.ref m, .int a, .int b] M (RI (fun x M9 => x = fr (a * 7 + b) ∧ M9 = M) nX) := by
  refine Ko_X12_apart htr (fun X => ?_)
  obtain ⟨hMo, hw5, hw6, hw7, hw8, hw9, hw10, hw11, hw13, hw14, hw15, hw16, hw17, hw18, -⟩ := _root_.id hC
  have hF : Frm kd r M M := Frm.rf
  obtain ⟨c0, c1⟩ := cell_in a0 a1 b0 b1
  rw [← Int32.mul_comm 7 a] at c0 c1 ⊢
  refine v_aload_n dX12_apart_0 rfl rfl ?_
  refine gf_X12_29 dX12_apart_1 rfl hMo ?_
  refine v_bipush (v := (7)) dX12_apart_4 (by decide) ?_
  refine v_iload_n dX12_apart_6 rfl rfl ?_
  refine v_imul dX12_apart_7 ?_
  refine v_iload_n dX12_apart_8 rfl rfl ?_
  refine v_iadd dX12_apart_9 ?_
  refine v_iald dX12_apart_10 hw9 (by lia) (by lia) ?_
  exact v_iret dX12_apart_11 rfl ⟨rfl, rfl⟩ (by omega) (by omega)
