/-! ===== builders: a number is appended; what a builder holds as a list ===== -/
theorem num_c {z : Nat} (hz : z < 1000000) : (dgs z (dl6 z)).length = dl6 z ∧ num (nI z) = dgs z (dl6 z) := ⟨dgs_len _, (num_nI hz (dl6_DL hz)).symm⟩
theorem dJ5_append_c97b9_0 : decode cJ5_append_c97b9 0 = .ok (.aload_n 0, 1) := by decide +kernel
theorem dJ5_append_c97b9_1 : decode cJ5_append_c97b9 1 = .ok (.getfield 79, 3) := by decide +kernel
theorem dJ5_append_c97b9_4 : decode cJ5_append_c97b9 4 = .ok (.istore_n 2, 1) := by decide +kernel
theorem dJ5_append_c97b9_5 : decode cJ5_append_c97b9 5 = .ok (.iload_n 2, 1) := by decide +kernel
theorem dJ5_append_c97b9_6 : decode cJ5_append_c97b9 6 = .ok (.iload_n 1, 1) := by decide +kernel
theorem dJ5_append_c97b9_7 : decode cJ5_append_c97b9 7 = .ok (.invokestatic 245, 3) := by decide +kernel
theorem dJ5_append_c97b9_10 : decode cJ5_append_c97b9 10 = .ok (.iadd, 1) := by decide +kernel
theorem dJ5_append_c97b9_11 : decode cJ5_append_c97b9 11 = .ok (.istore_n 3, 1) := by decide +kernel
theorem dJ5_append_c97b9_12 : decode cJ5_append_c97b9 12 = .ok (.aload_n 0, 1) := by decide +kernel
theorem dJ5_append_c97b9_13 : decode cJ5_append_c97b9 13 = .ok (.iload_n 3, 1) := by decide +kernel
theorem dJ5_append_c97b9_14 : decode cJ5_append_c97b9 14 = .ok (.invokevirtual 100, 3) := by decide +kernel
theorem dJ5_append_c97b9_17 : decode cJ5_append_c97b9 17 = .ok (.aload_n 0, 1) := by decide +kernel
theorem dJ5_append_c97b9_18 : decode cJ5_append_c97b9 18 = .ok (.invokevirtual 83, 3) := by decide +kernel
theorem dJ5_append_c97b9_21 : decode cJ5_append_c97b9 21 = .ok (.ifCond .eq 16, 3) := by decide +kernel
theorem dJ5_append_c97b9_24 : decode cJ5_append_c97b9 24 = .ok (.iload_n 1, 1) := by decide +kernel
theorem dJ5_append_c97b9_25 : decode cJ5_append_c97b9 25 = .ok (.iload_n 3, 1) := by decide +kernel
theorem dJ5_append_c97b9_26 : decode cJ5_append_c97b9 26 = .ok (.aload_n 0, 1) := by decide +kernel
theorem dJ5_append_c97b9_27 : decode cJ5_append_c97b9 27 = .ok (.getfield 15, 3) := by decide +kernel
theorem dJ5_append_c97b9_30 : decode cJ5_append_c97b9 30 = .ok (.invokestatic 248, 3) := by decide +kernel
theorem dJ5_append_c97b9_33 : decode cJ5_append_c97b9 33 = .ok (.pop, 1) := by decide +kernel
theorem dJ5_append_c97b9_34 : decode cJ5_append_c97b9 34 = .ok (.goto 14, 3) := by decide +kernel
theorem dJ5_append_c97b9_37 : decode cJ5_append_c97b9 37 = .ok (.iload_n 1, 1) := by decide +kernel
theorem dJ5_append_c97b9_38 : decode cJ5_append_c97b9 38 = .ok (.iload_n 2, 1) := by decide +kernel
theorem dJ5_append_c97b9_39 : decode cJ5_append_c97b9 39 = .ok (.iload_n 3, 1) := by decide +kernel
theorem dJ5_append_c97b9_40 : decode cJ5_append_c97b9 40 = .ok (.aload_n 0, 1) := by decide +kernel
theorem dJ5_append_c97b9_41 : decode cJ5_append_c97b9 41 = .ok (.getfield 15, 3) := by decide +kernel
theorem dJ5_append_c97b9_44 : decode cJ5_append_c97b9 44 = .ok (.invokestatic 251, 3) := by decide +kernel
theorem dJ5_append_c97b9_47 : decode cJ5_append_c97b9 47 = .ok (.pop, 1) := by decide +kernel
theorem dJ5_append_c97b9_48 : decode cJ5_append_c97b9 48 = .ok (.aload_n 0, 1) := by decide +kernel
theorem dJ5_append_c97b9_49 : decode cJ5_append_c97b9 49 = .ok (.iload_n 3, 1) := by decide +kernel
theorem dJ5_append_c97b9_50 : decode cJ5_append_c97b9 50 = .ok (.putfield 79, 3) := by decide +kernel
theorem dJ5_append_c97b9_53 : decode cJ5_append_c97b9 53 = .ok (.aload_n 0, 1) := by decide +kernel
theorem dJ5_append_c97b9_54 : decode cJ5_append_c97b9 54 = .ok (.areturn, 1) := by decide +kernel
set_option maxRecDepth 100000 in
set_option maxHeartbeats 4000000 in
theorem c_appI5 {l : Launch} {g : Nat → Nat} {M : LH} (htr : l.stackTraces = false) {z c : Nat} {b v : Nat} {N : Int32} {f : Int32 → Int32} (hS : Sb M b v N (nI c) f) (hz : z < 1000000) (hc : c ≤ 4000) (hN16 : 16 ≤ N) (hN4 : N ≤ 4000) : K_J5_append_c97b9 l g 3 (gc N (nI (c + dl6 z))) (gs N (nI (c + dl6 z))) [.ref b, .int (nI z)] M (RA (fun r M9 => r = b ∧ ∃ v' f', Sb M9 b v' (gN N (nI (c + dl6 z))) (nI (c + dl6 z)) f' ∧ (∀ j, 0 ≤ j → j < nI c → f' j = f j) ∧ (∀ i, i < dl6 z → f' (nI (c + i)) = (num (nI z)).getD i 0) ∧ FB b v M M9 ∧ (v' = v ∨ M v' = none)) nX) := by
  refine Ko_J5_append_c97b9 htr (fun X => ?_)
  have N0 : 0 ≤ N := Int32.le_trans hS.2.2.1 hS.2.2.2.1
  have hS0 := hS
  have hk6 := dl6_le (n := z)
  have hm0 : 0 ≤ nI (c + dl6 z) := nI_pos' (by omega)
  have hcN := hS.2.2.2.1
  have hm2 : nI (c + dl6 z) ≤ 2 * N + 2 := by
    have e : nI (c + dl6 z) = nI c + nI (dl6 z) := (nI_plus c (dl6 z)).symm
    have e6 : 0 ≤ nI (dl6 z) ∧ nI (dl6 z) ≤ 6 := (by decide : ∀ k, k ≤ 6 → 0 ≤ nI k ∧ nI k ≤ 6) _ hk6
    have c0 : 0 ≤ nI c := hS.2.2.1
    rw [e]
    clear hS hS0 hm0
    lia
  obtain ⟨⟨ml, hb9⟩, hv9, hn0, hnN, hN9, hf9⟩ := hS
  refine v_aload_n dJ5_append_c97b9_0 rfl rfl ?_
  refine gf_J5_79 dJ5_append_c97b9_1 rfl hb9 ?_
  refine v_istore_2 dJ5_append_c97b9_4 ?_
  refine v_iload_n dJ5_append_c97b9_5 rfl rfl ?_
  refine v_iload_n dJ5_append_c97b9_6 rfl rfl ?_
  refine k_J5_245 dJ5_append_c97b9_7 rfl (c_size htr hz) (Nat.le_of_ble_eq_true rfl) (by omega) (by omega) (Nat.le_of_ble_eq_true rfl) (fun r7 M9 h9 => ?_) (fun _ _ h9 => h9.elim)
  obtain ⟨rfl, e9⟩ := h9
  subst M9
  refine v_iadd dJ5_append_c97b9_10 ?_
  rw [nI_plus c (dl6 z)]
  refine v_istore_3 dJ5_append_c97b9_11 ?_
  refine v_aload_n dJ5_append_c97b9_12 rfl rfl ?_
  refine v_iload_n dJ5_append_c97b9_13 rfl rfl ?_
  refine k_J5_100 dJ5_append_c97b9_14 rfl (c_ensure htr hS0 (m := (nI (c + dl6 z))) hm0 hm2 hN4) hb9 (Nat.le_of_ble_eq_true rfl) (by omega) (by omega) (Nat.le_of_ble_eq_true rfl) (fun M9 h9 => ?_) (fun _ _ h9 => h9.elim)
  obtain ⟨v1, f1, hS1, hk1, hF1, hv1⟩ := h9
  have nv1 := hS1.ne
  have hS1c := hS1
  obtain ⟨⟨ml1, hb1⟩, hv91, hn01, hnN1, hN91, hf91⟩ := hS1
  have hn1 : nI (c + dl6 z) ≤ gN N (nI (c + dl6 z)) := by
    unfold gN
    split
    · assumption
    · exact hm2
  have hg0 : 0 ≤ gN N (nI (c + dl6 z)) := Int32.le_trans hm0 hn1
  refine v_aload_n dJ5_append_c97b9_17 rfl rfl ?_
  refine k_J5_83 dJ5_append_c97b9_18 rfl (c_isL5 htr hb1) hb1 (Nat.le_of_ble_eq_true rfl) (by omega) (by omega) (Nat.le_of_ble_eq_true rfl) (fun r18 M9 h9 => ?_) (fun _ _ h9 => h9.elim)
  obtain ⟨rfl, e9⟩ := h9
  subst M9
  refine v_if_eq (tgt := 37) dJ5_append_c97b9_21 (by decide) (fun h21 => ?_) (fun h21 => ?_)
  · exact absurd (show (1 : Int32) = 0 from h21) (by decide)
  · refine v_iload_n dJ5_append_c97b9_24 rfl rfl ?_
    refine v_iload_n dJ5_append_c97b9_25 rfl rfl ?_
    refine v_aload_n dJ5_append_c97b9_26 rfl rfl ?_
    refine gf_J5_15 dJ5_append_c97b9_27 rfl hb1 ?_
    refine k_J5_248 dJ5_append_c97b9_30 rfl (c_chars htr hv91 hg0 hN91 hf91 hz (dl6_DL hz) (by omega) hn1) (Nat.le_of_ble_eq_true rfl) (by omega) (by omega) (Nat.le_of_ble_eq_true rfl) (fun r30 M9 h9 => ?_) (fun _ _ h9 => h9.elim)
    obtain ⟨F, rfl, hWr, hFb⟩ := h9
    have nbv : ¬ b = v1 := fun z => nv1 z.symm
    refine v_pop dJ5_append_c97b9_33 rfl ?_
    refine v_goto (tgt := 48) dJ5_append_c97b9_34 (by decide) ?_
    refine v_aload_n dJ5_append_c97b9_48 rfl rfl ?_
    refine v_iload_n dJ5_append_c97b9_49 rfl rfl ?_
    refine pf_J5_79 dJ5_append_c97b9_50 rfl ((hup_n nbv).trans hb1) ?_
    refine v_aload_n dJ5_append_c97b9_53 rfl rfl ?_
    exact v_aret dJ5_append_c97b9_54 rfl (by
      refine ⟨rfl, v1, F, ⟨⟨ml1, hup_s⟩, (hup_n nv1).trans hup_s, hm0, hn1, hN91, hFb⟩, fun j j0 j1 => ?_, fun i hi => by rw [(num_c hz).2]; exact hWr.num i hi, fun y e hy hb hn => ?_, hv1⟩
      · have q := hWr.2 j.toNatClampNeg (by have := tc_lt j0 j1; rw [nI_clamp (by omega)] at this; omega) (Or.inl (by have := tc_lt j0 j1; rw [nI_clamp (by omega)] at this; exact this))
        rw [tc_nI j0] at q
        exact q.trans (hk1 j j0 j1)
      · exact (hup_n hb).trans ((hup_n (fun z => by (rcases hv1 with w | w; exact hn (z.trans w); rw [z, w] at hy; simp at hy))).trans (hF1 y e hy hb hn))) (by omega) (by omega)
theorem dJ4_append_bf812_0 : decode cJ4_append_bf812 0 = .ok (.aload_n 0, 1) := by decide +kernel
theorem dJ4_append_bf812_1 : decode cJ4_append_bf812 1 = .ok (.iload_n 1, 1) := by decide +kernel
theorem dJ4_append_bf812_2 : decode cJ4_append_bf812 2 = .ok (.invokespecial 53, 3) := by decide +kernel
theorem dJ4_append_bf812_5 : decode cJ4_append_bf812 5 = .ok (.pop, 1) := by decide +kernel
theorem dJ4_append_bf812_6 : decode cJ4_append_bf812 6 = .ok (.aload_n 0, 1) := by decide +kernel
theorem dJ4_append_bf812_7 : decode cJ4_append_bf812 7 = .ok (.areturn, 1) := by decide +kernel
set_option maxRecDepth 100000 in
set_option maxHeartbeats 4000000 in
theorem c_appI {l : Launch} {g : Nat → Nat} {M : LH} (htr : l.stackTraces = false) {z c : Nat} {b v : Nat} {N : Int32} {f : Int32 → Int32} (hS : Sb M b v N (nI c) f) (hz : z < 1000000) (hc : c ≤ 4000) (hN16 : 16 ≤ N) (hN4 : N ≤ 4000) : K_J4_append_bf812 l g 4 (gc N (nI (c + dl6 z))) (gs N (nI (c + dl6 z))) [.ref b, .int (nI z)] M (RA (fun r M9 => r = b ∧ ∃ v' f', Sb M9 b v' (gN N (nI (c + dl6 z))) (nI (c + dl6 z)) f' ∧ (∀ j, 0 ≤ j → j < nI c → f' j = f j) ∧ (∀ i, i < dl6 z → f' (nI (c + i)) = (num (nI z)).getD i 0) ∧ FB b v M M9 ∧ (v' = v ∨ M v' = none)) nX) := by
  refine Ko_J4_append_bf812 htr (fun X => ?_)
  have hS0 := hS
  obtain ⟨⟨ml, hb9⟩, hv9, hn0, hnN, hN9, hf9⟩ := hS
  refine v_aload_n dJ4_append_bf812_0 rfl rfl ?_
  refine v_iload_n dJ4_append_bf812_1 rfl rfl ?_
  refine k_J4_53 dJ4_append_bf812_2 rfl (c_appI5 htr hS0 hz hc hN16 hN4) hb9 (Nat.le_of_ble_eq_true rfl) (by omega) (by omega) (Nat.le_of_ble_eq_true rfl) (fun r2 M9 h9 => ?_) (fun _ _ h9 => h9.elim)
  obtain ⟨h91, h92⟩ := h9
  refine v_pop dJ4_append_bf812_5 rfl ?_
  refine v_aload_n dJ4_append_bf812_6 rfl rfl ?_
  exact v_aret dJ4_append_bf812_7 rfl ⟨rfl, h92⟩ (by omega) (by omega)
/-- a builder at b holds the signs Ls; its row at v is of the c-th length -/
def cpc (c : Nat) : Nat := ([16, 34, 70, 142] : List Nat).getD c 142
def ssc (c : Nat) : Nat := ([0, 34, 104, 246] : List Nat).getD c 246
def SbC (M : LH) (b v c : Nat) (Ls : List Int32) : Prop := c ≤ 3 ∧ (∃ f, Sb M b v (nI (cpc c)) (nI Ls.length) f ∧ Tl f Ls) ∧ Ls.length ≤ cpc c
theorem cpc_b : ∀ c, c ≤ 3 → cpc c ≤ 142 ∧ 16 ≤ cpc c ∧ 16 ≤ nI (cpc c) ∧ nI (cpc c) ≤ 4000 := by decide
theorem cpc_g : ∀ c, c ≤ 2 → 2 * nI (cpc c) + 2 = nI (cpc (c + 1)) ∧ (2 * nI (cpc c) + 2).toNatClampNeg = cpc (c + 1) ∧ ssc c + cpc (c + 1) = ssc (c + 1) ∧ cpc c + 7 ≤ cpc (c + 1) := by decide
theorem cpc_no {c m : Nat} (hc : c ≤ 3) (h : m ≤ cpc c) : gN (nI (cpc c)) (nI m) = nI (cpc c) ∧ gc (nI (cpc c)) (nI m) = 0 ∧ gs (nI (cpc c)) (nI m) = 0 := by
  have hb := (cpc_b c hc).1
  have q : nI m ≤ nI (cpc c) := nI_le h (by omega)
  exact ⟨if_pos q, if_pos q, if_pos q⟩
theorem cpc_yes {c m : Nat} (hc : c ≤ 2) (h : cpc c < m) (hm : m ≤ 1000) : gN (nI (cpc c)) (nI m) = nI (cpc (c + 1)) ∧ gc (nI (cpc c)) (nI m) = 1 ∧ gs (nI (cpc c)) (nI m) = cpc (c + 1) := by
  have q : ¬ nI m ≤ nI (cpc c) := nI_ge h (by omega)
  obtain ⟨a, b, -⟩ := cpc_g c hc
  exact ⟨(if_neg q).trans a, if_neg q, (if_neg q).trans b⟩
theorem Tl.app {f f' : Int32 → Int32} {Ls L2 : List Int32} (h : Tl f Ls) (hl : Ls.length ≤ 1000) (h1 : ∀ j, 0 ≤ j → j < nI Ls.length → f' j = f j) (h2 : ∀ i, i < L2.length → f' (nI (Ls.length + i)) = L2.getD i 0) : Tl f' (Ls ++ L2) := by
  intro j hj
  rw [List.length_append] at hj
  by_cases e : j < Ls.length
  · rw [h1 (nI j) (nI_pos' (by omega)) (nI_lt e (by omega)), h j e, List.getD_eq_getElem?_getD, List.getD_eq_getElem?_getD, List.getElem?_append_left e]
  · obtain ⟨i, rfl⟩ : ∃ i, j = Ls.length + i := ⟨j - Ls.length, by omega⟩
    rw [h2 i (by omega), List.getD_eq_getElem?_getD, List.getD_eq_getElem?_getD, List.getElem?_append_right (by omega), Nat.add_sub_cancel_left]
/-- what came of a builder since M0, where its row stood at v0 -/
def BT (b v0 : Nat) (M0 M : LH) (v : Nat) : Prop := FB b v0 M0 M ∧ (v = v0 ∨ M0 v = none)
theorem BT.rf {b v : Nat} {M : LH} : BT b v M M v := ⟨FB.rf, Or.inl rfl⟩
theorem BT.go {b v0 v v' : Nat} {M0 M M9 : LH} (h : BT b v0 M0 M v) (hb : ¬ M0 b = none) (hb1 : ¬ M b = none) (h2 : FB b v M M9) (h3 : v' = v ∨ M v' = none) : BT b v0 M0 M9 v' := ⟨FB.tr h.1 h.2 h2, FB.fr h.1 hb h.2 h3 hb1⟩
section VB
variable {l : Launch} {g : Nat → Nat} {y : MethodName} {cc : ByteArray} {rt : Option FieldType} {tb : List ExceptionTableEntry} {L mc ms : Nat} {Po : Res → LH → Prop} {X : CX} {M : LH} {k n pc : Nat} {ls : List (Option Value)} {rest : List Value}
theorem ap_C {b v v0 c : Nat} {Ls : List Int32} {x : Int32} {M0 : LH} (htr : l.stackTraces = false) (hd : decode cc pc = .ok (.invokevirtual 339, 3)) (ho : y.cls = "SledgePost") (hS : SbC M b v c Ls) (hT : BT b v0 M0 M v) (hb0 : ¬ M0 b = none) (hl : Ls.length + 1 ≤ 142) (hx0 : 0 ≤ x) (hx1 : x < 128) (hL : 5 ≤ L) (hmc : 3 ≤ mc) (hms : 246 ≤ ms) (hrs : (rest.map fun v => v.category).sum ≤ 8)
    (kk : ∀ (M9 : LH) (v' c' : Nat), SbC M9 b v' c' (Ls ++ [x]) → BT b v0 M0 M9 v' → V l g y cc rt tb L mc ms Po X (M9) (c') (ssc c') (pc + 3) (ls) (.ref b :: rest)) : V l g y cc rt tb L mc ms Po X (M) (c) (ssc c) (pc) (ls) (.int x :: .ref b :: rest) := by
  obtain ⟨hc3, ⟨f, hSb, hTl⟩, hlc⟩ := hS
  obtain ⟨b1, b2, b3, b4⟩ := cpc_b c hc3
  have hnb := hSb.nb
  have hrc := hSb.1
  obtain ⟨ml, hrc⟩ := hrc
  have e1 : nI Ls.length + 1 = nI (Ls.length + 1) := nI_1 _
  have fin : ∀ (c' : Nat), c' ≤ 3 → gN (nI (cpc c)) (nI (Ls.length + 1)) = nI (cpc c') → Ls.length + 1 ≤ cpc c' → c + gc (nI (cpc c)) (nI (Ls.length + 1)) = c' → ssc c + gs (nI (cpc c)) (nI (Ls.length + 1)) = ssc c' → V l g y cc rt tb L mc ms Po X (M) (c) (ssc c) (pc) (ls) (.int x :: .ref b :: rest) := by
    intro c' hc' g1 g2 g3 g4
    have s3 : ∀ c, c ≤ 3 → ssc c ≤ 246 := by decide
    have s4 := s3 c' hc'
    refine k_X11_339 hd ho (c_appC htr hSb hx0 hx1 b4) hrc hL (by rw [e1]; omega) (by rw [e1]; omega) hrs (fun r M9 h9 => ?_) (fun _ _ h9 => h9.elim)
    obtain ⟨rfl, v', f', hS9, hk9, hx9, hF9, hv9⟩ := h9
    rw [e1] at hS9 ⊢
    rw [g1] at hS9
    rw [g3, g4]
    refine kk M9 v' c' ⟨hc', ⟨f', by rw [List.length_append]; exact hS9, hTl.app (by omega) hk9 (fun i hi => ?_)⟩, by rw [List.length_append]; exact g2⟩ (hT.go hb0 hnb hF9 hv9)
    obtain rfl : i = 0 := by have : i < 1 := hi; omega
    exact hx9
  by_cases h : Ls.length + 1 ≤ cpc c
  · obtain ⟨a1, a2, a3⟩ := cpc_no hc3 h
    exact fin c hc3 a1 h (by rw [a2, Nat.add_zero]) (by rw [a3, Nat.add_zero])
  · have hc2 : c ≤ 2 := by
      rcases (by omega : c = 3 ∨ c ≤ 2) with e | e
      · rw [e] at h
        exact absurd (show Ls.length + 1 ≤ 142 from hl) h
      · exact e
    obtain ⟨a1, a2, a3⟩ := cpc_yes hc2 (by omega : cpc c < Ls.length + 1) (by omega)
    obtain ⟨d1, d2, d3, d4⟩ := cpc_g c hc2
    exact fin (c + 1) (by omega) a1 (by omega) (by rw [a2]) (by rw [a3]; exact d3)
theorem ap_I {b v v0 c z : Nat} {Ls : List Int32} {M0 : LH} (htr : l.stackTraces = false) (hd : decode cc pc = .ok (.invokevirtual 335, 3)) (ho : y.cls = "SledgePost") (hS : SbC M b v c Ls) (hT : BT b v0 M0 M v) (hb0 : ¬ M0 b = none) (hl : Ls.length + 6 ≤ 142) (hz : z < 1000000) (hL : 5 ≤ L) (hmc : 3 ≤ mc) (hms : 246 ≤ ms) (hrs : (rest.map fun v => v.category).sum ≤ 8)
    (kk : ∀ (M9 : LH) (v' c' : Nat), SbC M9 b v' c' (Ls ++ num (nI z)) → BT b v0 M0 M9 v' → V l g y cc rt tb L mc ms Po X (M9) (c') (ssc c') (pc + 3) (ls) (.ref b :: rest)) : V l g y cc rt tb L mc ms Po X (M) (c) (ssc c) (pc) (ls) (.int (nI z) :: .ref b :: rest) := by
  obtain ⟨hc3, ⟨f, hSb, hTl⟩, hlc⟩ := hS
  obtain ⟨b1, b2, b3, b4⟩ := cpc_b c hc3
  have hnb := hSb.nb
  have hrc := hSb.1
  obtain ⟨ml, hrc⟩ := hrc
  obtain ⟨n1, n2⟩ := num_c hz
  have hk6 := dl6_le (n := z)
  have fin : ∀ (c' : Nat), c' ≤ 3 → gN (nI (cpc c)) (nI (Ls.length + dl6 z)) = nI (cpc c') → Ls.length + dl6 z ≤ cpc c' → c + gc (nI (cpc c)) (nI (Ls.length + dl6 z)) = c' → ssc c + gs (nI (cpc c)) (nI (Ls.length + dl6 z)) = ssc c' → V l g y cc rt tb L mc ms Po X (M) (c) (ssc c) (pc) (ls) (.int (nI z) :: .ref b :: rest) := by
    intro c' hc' g1 g2 g3 g4
    have s3 : ∀ c, c ≤ 3 → ssc c ≤ 246 := by decide
    have s4 := s3 c' hc'
    refine k_X11_335 hd ho (c_appI htr hSb hz (by omega) b3 b4) hrc hL (by omega) (by omega) hrs (fun r M9 h9 => ?_) (fun _ _ h9 => h9.elim)
    obtain ⟨rfl, v', f', hS9, hk9, hx9, hF9, hv9⟩ := h9
    rw [g1] at hS9
    rw [g3, g4]
    refine kk M9 v' c' ⟨hc', ⟨f', by rw [List.length_append, n2, n1]; exact hS9, hTl.app (by omega) hk9 (fun i hi => hx9 i (by rw [n2, n1] at hi; exact hi))⟩, by rw [List.length_append, n2, n1]; exact g2⟩ (hT.go hb0 hnb hF9 hv9)
  by_cases h : Ls.length + dl6 z ≤ cpc c
  · obtain ⟨a1, a2, a3⟩ := cpc_no hc3 h
    exact fin c hc3 a1 h (by rw [a2, Nat.add_zero]) (by rw [a3, Nat.add_zero])
  · have hc2 : c ≤ 2 := by
      rcases (by omega : c = 3 ∨ c ≤ 2) with e | e
      · rw [e] at h
        exact absurd (show Ls.length + dl6 z ≤ 142 by omega) h
      · exact e
    obtain ⟨a1, a2, a3⟩ := cpc_yes hc2 (by omega : cpc c < Ls.length + dl6 z) (by omega)
    obtain ⟨d1, d2, d3, d4⟩ := cpc_g c hc2
    exact fin (c + 1) (by omega) a1 (by omega) (by rw [a2]) (by rw [a3]; exact d3)
end VB
