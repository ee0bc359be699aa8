/-! ===== the reader: a command; the whole script ===== -/
theorem cmE_ge {tx : Int32 → Int32} {en he e : Int32} (e0 : 0 ≤ he) (e61 : he ≤ 60) (e60 : en ≤ 60) (hE : cmE tx en he e) : he ≤ e ∧ e ≤ 60 ∧ 0 ≤ e := by
  rcases hE with ⟨n, rfl, ⟨i, hi, hm⟩, -⟩ | ⟨i, hi, hm, hp⟩
  · obtain ⟨a, b⟩ := mtW_in hm hi e0 e61 e60
    have h := at_le e0 e61 (Nat.zero_le n) (by have := mt_7' hm hi; omega)
    rw [show he + nI 0 = he from Int32.add_zero he] at h
    exact ⟨h, b, a⟩
  · obtain ⟨p0, p1⟩ := mtW_in hm hi e0 e61 e60
    have q := prs_in (tx := tx) e60 (prt i) (he + nI (wrd i).length, false) p0 p1
    rw [hp] at q
    have h := at_le e0 e61 (Nat.zero_le (wrd i).length) (by have := wrd_7 i hi; omega)
    rw [show he + nI 0 = he from Int32.add_zero he] at h
    exact ⟨Int32.le_trans h q.1, q.2.2, q.2.1⟩
theorem dX7_readCommand_0 : decode cX7_readCommand 0 = .ok (.iload_n 1, 1) := by decide +kernel
theorem dX7_readCommand_1 : decode cX7_readCommand 1 = .ok (.istore_n 2, 1) := by decide +kernel
theorem dX7_readCommand_2 : decode cX7_readCommand 2 = .ok (.iconst 0, 1) := by decide +kernel
theorem dX7_readCommand_3 : decode cX7_readCommand 3 = .ok (.istore_n 3, 1) := by decide +kernel
theorem dX7_readCommand_4 : decode cX7_readCommand 4 = .ok (.iload_n 3, 1) := by decide +kernel
theorem dX7_readCommand_5 : decode cX7_readCommand 5 = .ok (.getstatic 50, 3) := by decide +kernel
theorem dX7_readCommand_8 : decode cX7_readCommand 8 = .ok (.arraylength, 1) := by decide +kernel
theorem dX7_readCommand_9 : decode cX7_readCommand 9 = .ok (.if_icmp .ge 54, 3) := by decide +kernel
theorem dX7_readCommand_12 : decode cX7_readCommand 12 = .ok (.aload_n 0, 1) := by decide +kernel
theorem dX7_readCommand_13 : decode cX7_readCommand 13 = .ok (.iload_n 1, 1) := by decide +kernel
theorem dX7_readCommand_14 : decode cX7_readCommand 14 = .ok (.putfield 35, 3) := by decide +kernel
theorem dX7_readCommand_17 : decode cX7_readCommand 17 = .ok (.aload_n 0, 1) := by decide +kernel
theorem dX7_readCommand_18 : decode cX7_readCommand 18 = .ok (.iconst 0, 1) := by decide +kernel
theorem dX7_readCommand_19 : decode cX7_readCommand 19 = .ok (.putfield 54, 3) := by decide +kernel
theorem dX7_readCommand_22 : decode cX7_readCommand 22 = .ok (.aload_n 0, 1) := by decide +kernel
theorem dX7_readCommand_23 : decode cX7_readCommand 23 = .ok (.getstatic 50, 3) := by decide +kernel
theorem dX7_readCommand_26 : decode cX7_readCommand 26 = .ok (.iload_n 3, 1) := by decide +kernel
theorem dX7_readCommand_27 : decode cX7_readCommand 27 = .ok (.aaload, 1) := by decide +kernel
theorem dX7_readCommand_28 : decode cX7_readCommand 28 = .ok (.getfield 57, 3) := by decide +kernel
theorem dX7_readCommand_31 : decode cX7_readCommand 31 = .ok (.invokevirtual 61, 3) := by decide +kernel
theorem dX7_readCommand_34 : decode cX7_readCommand 34 = .ok (.ifCond .eq 14, 3) := by decide +kernel
theorem dX7_readCommand_37 : decode cX7_readCommand 37 = .ok (.aload_n 0, 1) := by decide +kernel
theorem dX7_readCommand_38 : decode cX7_readCommand 38 = .ok (.getstatic 50, 3) := by decide +kernel
theorem dX7_readCommand_41 : decode cX7_readCommand 41 = .ok (.iload_n 3, 1) := by decide +kernel
theorem dX7_readCommand_42 : decode cX7_readCommand 42 = .ok (.aaload, 1) := by decide +kernel
theorem dX7_readCommand_43 : decode cX7_readCommand 43 = .ok (.putfield 24, 3) := by decide +kernel
theorem dX7_readCommand_46 : decode cX7_readCommand 46 = .ok (.iconst 1, 1) := by decide +kernel
theorem dX7_readCommand_47 : decode cX7_readCommand 47 = .ok (.ireturn, 1) := by decide +kernel
theorem dX7_readCommand_48 : decode cX7_readCommand 48 = .ok (.iload_n 2, 1) := by decide +kernel
theorem dX7_readCommand_49 : decode cX7_readCommand 49 = .ok (.aload_n 0, 1) := by decide +kernel
theorem dX7_readCommand_50 : decode cX7_readCommand 50 = .ok (.getfield 35, 3) := by decide +kernel
theorem dX7_readCommand_53 : decode cX7_readCommand 53 = .ok (.invokestatic 65, 3) := by decide +kernel
theorem dX7_readCommand_56 : decode cX7_readCommand 56 = .ok (.istore_n 2, 1) := by decide +kernel
theorem dX7_readCommand_57 : decode cX7_readCommand 57 = .ok (.iinc 3 1, 3) := by decide +kernel
theorem dX7_readCommand_60 : decode cX7_readCommand 60 = .ok (.goto (-56), 3) := by decide +kernel
theorem dX7_readCommand_63 : decode cX7_readCommand 63 = .ok (.aload_n 0, 1) := by decide +kernel
theorem dX7_readCommand_64 : decode cX7_readCommand 64 = .ok (.iload_n 2, 1) := by decide +kernel
theorem dX7_readCommand_65 : decode cX7_readCommand 65 = .ok (.putfield 35, 3) := by decide +kernel
theorem dX7_readCommand_68 : decode cX7_readCommand 68 = .ok (.iconst 0, 1) := by decide +kernel
theorem dX7_readCommand_69 : decode cX7_readCommand 69 = .ok (.ireturn, 1) := by decide +kernel
set_option maxRecDepth 100000 in
set_option maxHeartbeats 4000000 in
theorem c_readCommandG {l : Launch} {g : Nat → Nat} {M : LH} (htr : l.stackTraces = false) {kd : Nat → Nat} {R a b v nb : Nat} {N en : Int32} {tx f : Int32 → Int32} {cm : Nat} {at9 nc : Int32} {NN : Int32 → Int32} (hC : Rr kd R M a b v nb N en tx f cm at9 nc NN) {st e : Int32} {i : Nat} {ns : List Int32} (hc : cmG tx en st i e ns) (s0 : 0 ≤ st) (s1 : st ≤ 60) : K_X7_readCommand l g 8 0 0 [.ref a, .int st] M (RI (fun x M9 => x = 1 ∧ ∃ NN' nc', Tl NN' ns ∧ Rr kd R M9 a b v nb N en tx f (g (10 + i)) e nc' NN' ∧ Frm kd R M M9) nX) := by
  refine Ko_X7_readCommand htr (fun X => ?_)
  obtain ⟨hA, hNB, hSB, hTX, e60, hkA, hkN, hkb, hkv⟩ := _root_.id hC
  obtain ⟨⟨ml, hBb⟩, hVv, en0, -, -, hfb⟩ := _root_.id hSB
  have hF : Frm kd R M M := Frm.rf
  have key : ∀ fe j, j + fe = 10 → ∀ (M1 : LH) (fu : Int32) (cm1 : Nat) (at1 nc1 : Int32) (N1 : Int32 → Int32), j ≤ i → Rr kd R M1 a b v nb N en tx f cm1 at1 nc1 N1 → Frm kd R M M1 → V l g yX7_readCommand cX7_readCommand ((some .boolean)) [] 8 0 0 (RI (fun x M9 => x = 1 ∧ ∃ NN' nc', Tl NN' ns ∧ Rr kd R M9 a b v nb N en tx f (g (10 + i)) e nc' NN' ∧ Frm kd R M M9) nX) X M1 0 0 4 [some (.ref a), some (.int st), some (.int fu), some (.int (nI j))] [] := by
    clear hC hA hNB hSB hTX hfb hVv hBb hF hkA hkN hkb hkv
    intro fe
    induction fe with
    | zero =>
      intro j hj M1 fu cm1 at1 nc1 N1 hv hC hF
      obtain ⟨hA, hNB, hSB, hTX, e60, hkA, hkN, hkb, hkv⟩ := _root_.id hC
      obtain ⟨⟨ml, hBb⟩, hVv, en0, -, -, hfb⟩ := _root_.id hSB
      exact absurd hv (by have := hc.1; omega)
    | succ fe ih =>
      intro j hj M1 fu cm1 at1 nc1 N1 hv hC hF
      obtain ⟨hA, hNB, hSB, hTX, e60, hkA, hkN, hkb, hkv⟩ := _root_.id hC
      obtain ⟨⟨ml, hBb⟩, hVv, en0, -, -, hfb⟩ := _root_.id hSB
      have hj10 : j < 10 := by omega
      obtain ⟨j0, j1, -⟩ := nI_10 j hj10
      refine v_iload_n dX7_readCommand_4 rfl rfl ?_
      refine gs_X7_50 dX7_readCommand_5 rfl ?_
      refine v_tL dX7_readCommand_8 (fun A U H h => h.o 4 rfl) (v := 10) (by decide) ?_
      refine v_icmp_ge (tgt := 63) dX7_readCommand_9 (by decide) (fun h9 => ?_) (fun h9 => ?_)
      · exact absurd ((nI_11b j (by omega)).mp h9) (by omega)
      · refine v_aload_n dX7_readCommand_12 rfl rfl ?_
        refine v_iload_n dX7_readCommand_13 rfl rfl ?_
        refine pf_X7_35 dX7_readCommand_14 rfl hA ?_
        refine V.rr (Rr.sc hC) (Frm.tr hF (Frm.up hkA)) (fun M1 hC hF => ?_)
        obtain ⟨hA, hNB, hSB, hTX, e60, hkA, hkN, hkb, hkv⟩ := _root_.id hC
        obtain ⟨⟨ml, hBb⟩, hVv, en0, -, -, hfb⟩ := _root_.id hSB
        refine v_aload_n dX7_readCommand_17 rfl rfl ?_
        refine v_iconst (v := 0) dX7_readCommand_18 (by decide) ?_
        refine pf_X7_54 dX7_readCommand_19 rfl hA ?_
        refine V.rr (Rr.sc hC) (Frm.tr hF (Frm.up hkA)) (fun M1 hC hF => ?_)
        obtain ⟨hA, hNB, hSB, hTX, e60, hkA, hkN, hkb, hkv⟩ := _root_.id hC
        obtain ⟨⟨ml, hBb⟩, hVv, en0, -, -, hfb⟩ := _root_.id hSB
        refine v_aload_n dX7_readCommand_22 rfl rfl ?_
        refine gs_X7_50 dX7_readCommand_23 rfl ?_
        refine v_iload_n dX7_readCommand_26 rfl rfl ?_
        refine v_tA dX7_readCommand_27 (fun A U H h => h.o 4 rfl) j0 (by rw [nI_S2 j hj10]; exact hj10) (v := .ref (g (10 + j))) (by rw [nI_S2 j hj10]) ?_
        refine v_gC dX7_readCommand_28 rfl (fun A U H h => h.c hj10 2 rfl) (Ut_of (mt_10 113 rfl) rfl) ?_
        refine k_X7_61 dX7_readCommand_31 rfl (c_readForm htr hj10 hC s0 s1) hA (Nat.le_of_ble_eq_true rfl) (by omega) (by omega) (Nat.le_of_ble_eq_true rfl) (fun r31 M9 h9 => ?_) (fun _ _ h9 => h9.elim)
        obtain ⟨N2, nc2, h9q, hC, hF9⟩ := h9
        have hF := Frm.tr hF hF9
        obtain ⟨hA, hNB, hSB, hTX, e60, hkA, hkN, hkb, hkv⟩ := _root_.id hC
        obtain ⟨⟨ml, hBb⟩, hVv, en0, -, -, hfb⟩ := _root_.id hSB
        have hfr := FR_of (tx := tx) (en := en) (he := st) hj10
        refine v_if_eq (tgt := 48) dX7_readCommand_34 (by decide) (fun h34 => ?_) (fun h34 => ?_)
        · have hne : ¬ j = i := fun z => by
            rcases FR_G hc hj10 hfr with ⟨-, b, -⟩ | ⟨b, -⟩
            · rcases h9q with ⟨-, rfl, -⟩ | ⟨b2, -⟩
              · exact absurd h34 (by decide)
              · exact b2 b
            · exact b z
          refine v_iload_n dX7_readCommand_48 rfl rfl ?_
          refine v_aload_n dX7_readCommand_49 rfl rfl ?_
          refine gf_X7_35 dX7_readCommand_50 rfl hA ?_
          refine mm_X7_65 dX7_readCommand_53 rfl (Nat.le_of_ble_eq_true rfl) (by omega) (by omega) ?_
          refine v_istore_2 dX7_readCommand_56 ?_
          refine v_iinc_3 dX7_readCommand_57 rfl ?_
          refine v_goto (tgt := 4) dX7_readCommand_60 (by decide) ?_
          rw [show nI j + Int32.ofInt 1 = nI (j + 1) from nI_1 j]
          exact ih (j + 1) (by omega) _ _ _ _ _ _ (by omega) hC hF
        · obtain ⟨b1, -, hT2⟩ := h9q.resolve_right (fun z => h34 z.2)
          obtain ⟨hji, -, he9, hn9⟩ := (FR_G hc hj10 hfr).resolve_right (fun z => by rw [b1] at z; exact absurd z.2 (by decide))
          subst hji
          rw [he9] at hC
          rw [hn9] at hT2
          obtain ⟨hA, hNB, hSB, hTX, e60, hkA, hkN, hkb, hkv⟩ := _root_.id hC
          obtain ⟨⟨ml, hBb⟩, hVv, en0, -, -, hfb⟩ := _root_.id hSB
          refine v_aload_n dX7_readCommand_37 rfl rfl ?_
          refine gs_X7_50 dX7_readCommand_38 rfl ?_
          refine v_iload_n dX7_readCommand_41 rfl rfl ?_
          refine v_tA dX7_readCommand_42 (fun A U H h => h.o 4 rfl) j0 (by rw [nI_S2 j hj10]; exact hj10) (v := .ref (g (10 + j))) (by rw [nI_S2 j hj10]) ?_
          refine pf_X7_24 dX7_readCommand_43 rfl hA ?_
          refine V.rr (Rr.sc hC) (Frm.tr hF (Frm.up hkA)) (fun M1 hC hF => ?_)
          obtain ⟨hA, hNB, hSB, hTX, e60, hkA, hkN, hkb, hkv⟩ := _root_.id hC
          obtain ⟨⟨ml, hBb⟩, hVv, en0, -, -, hfb⟩ := _root_.id hSB
          refine v_iconst (v := 1) dX7_readCommand_46 (by decide) ?_
          exact v_zret dX7_readCommand_47 rfl (by first | rfl | assumption) ⟨rfl, _, _, hT2, hC, hF⟩ (by omega) (by omega)
  refine v_iload_n dX7_readCommand_0 rfl rfl ?_
  refine v_istore_2 dX7_readCommand_1 ?_
  refine v_iconst (v := 0) dX7_readCommand_2 (by decide) ?_
  refine v_istore_3 dX7_readCommand_3 ?_
  exact key 10 0 rfl M st cm at9 nc NN (Nat.zero_le _) hC hF
set_option maxRecDepth 100000 in
set_option maxHeartbeats 4000000 in
theorem c_readCommandE {l : Launch} {g : Nat → Nat} {M : LH} (htr : l.stackTraces = false) {kd : Nat → Nat} {R a b v nb : Nat} {N en : Int32} {tx f : Int32 → Int32} {cm : Nat} {at9 nc : Int32} {NN : Int32 → Int32} (hC : Rr kd R M a b v nb N en tx f cm at9 nc NN) {st e : Int32} (hc : cmE tx en st e) (s0 : 0 ≤ st) (s1 : st ≤ 60) : K_X7_readCommand l g 8 0 0 [.ref a, .int st] M (RI (fun x M9 => x = 0 ∧ ∃ NN' nc', Rr kd R M9 a b v nb N en tx f cm e nc' NN' ∧ Frm kd R M M9) nX) := by
  refine Ko_X7_readCommand htr (fun X => ?_)
  obtain ⟨hA, hNB, hSB, hTX, e60, hkA, hkN, hkb, hkv⟩ := _root_.id hC
  obtain ⟨⟨ml, hBb⟩, hVv, en0, -, -, hfb⟩ := _root_.id hSB
  have hF : Frm kd R M M := Frm.rf
  obtain ⟨k0, hk10, hk0⟩ := FR_E s0 s1 e60 hc
  have st_le : st ≤ e := (cmE_ge s0 s1 e60 hc).1
  have key : ∀ fe j, j + fe = 10 → ∀ (M1 : LH) (fu : Int32) (cm1 : Nat) (at1 nc1 : Int32) (N1 : Int32 → Int32), fu ≤ e ∧ (k0 < j → fu = e) → Rr kd R M1 a b v nb N en tx f cm at1 nc1 N1 → Frm kd R M M1 → V l g yX7_readCommand cX7_readCommand ((some .boolean)) [] 8 0 0 (RI (fun x M9 => x = 0 ∧ ∃ NN' nc', Rr kd R M9 a b v nb N en tx f cm e nc' NN' ∧ Frm kd R M M9) nX) X M1 0 0 4 [some (.ref a), some (.int st), some (.int fu), some (.int (nI j))] [] := by
    clear hC hA hNB hSB hTX hfb hVv hBb hF hkA hkN hkb hkv
    intro fe
    induction fe with
    | zero =>
      intro j hj M1 fu cm1 at1 nc1 N1 hv hC hF
      obtain ⟨hA, hNB, hSB, hTX, e60, hkA, hkN, hkb, hkv⟩ := _root_.id hC
      obtain ⟨⟨ml, hBb⟩, hVv, en0, -, -, hfb⟩ := _root_.id hSB
      refine v_iload_n dX7_readCommand_4 rfl rfl ?_
      refine gs_X7_50 dX7_readCommand_5 rfl ?_
      refine v_tL dX7_readCommand_8 (fun A U H h => h.o 4 rfl) (v := 10) (by decide) ?_
      refine v_icmp_ge (tgt := 63) dX7_readCommand_9 (by decide) (fun h9 => ?_) (fun h9 => ?_)
      · refine v_aload_n dX7_readCommand_63 rfl rfl ?_
        refine v_iload_n dX7_readCommand_64 rfl rfl ?_
        refine pf_X7_35 dX7_readCommand_65 rfl hA ?_
        refine V.rr (Rr.sc hC) (Frm.tr hF (Frm.up hkA)) (fun M1 hC hF => ?_)
        obtain ⟨hA, hNB, hSB, hTX, e60, hkA, hkN, hkb, hkv⟩ := _root_.id hC
        obtain ⟨⟨ml, hBb⟩, hVv, en0, -, -, hfb⟩ := _root_.id hSB
        refine v_iconst (v := 0) dX7_readCommand_68 (by decide) ?_
        exact v_zret dX7_readCommand_69 rfl (by first | rfl | assumption) ⟨rfl, _, _, (by rw [hv.2 (by omega)] at hC; exact hC), hF⟩ (by omega) (by omega)
      · exact absurd (by rw [show j = 10 by omega]; decide) h9
    | succ fe ih =>
      intro j hj M1 fu cm1 at1 nc1 N1 hv hC hF
      obtain ⟨hA, hNB, hSB, hTX, e60, hkA, hkN, hkb, hkv⟩ := _root_.id hC
      obtain ⟨⟨ml, hBb⟩, hVv, en0, -, -, hfb⟩ := _root_.id hSB
      have hj10 : j < 10 := by omega
      obtain ⟨j0, j1, -⟩ := nI_10 j hj10
      refine v_iload_n dX7_readCommand_4 rfl rfl ?_
      refine gs_X7_50 dX7_readCommand_5 rfl ?_
      refine v_tL dX7_readCommand_8 (fun A U H h => h.o 4 rfl) (v := 10) (by decide) ?_
      refine v_icmp_ge (tgt := 63) dX7_readCommand_9 (by decide) (fun h9 => ?_) (fun h9 => ?_)
      · exact absurd ((nI_11b j (by omega)).mp h9) (by omega)
      · refine v_aload_n dX7_readCommand_12 rfl rfl ?_
        refine v_iload_n dX7_readCommand_13 rfl rfl ?_
        refine pf_X7_35 dX7_readCommand_14 rfl hA ?_
        refine V.rr (Rr.sc hC) (Frm.tr hF (Frm.up hkA)) (fun M1 hC hF => ?_)
        obtain ⟨hA, hNB, hSB, hTX, e60, hkA, hkN, hkb, hkv⟩ := _root_.id hC
        obtain ⟨⟨ml, hBb⟩, hVv, en0, -, -, hfb⟩ := _root_.id hSB
        refine v_aload_n dX7_readCommand_17 rfl rfl ?_
        refine v_iconst (v := 0) dX7_readCommand_18 (by decide) ?_
        refine pf_X7_54 dX7_readCommand_19 rfl hA ?_
        refine V.rr (Rr.sc hC) (Frm.tr hF (Frm.up hkA)) (fun M1 hC hF => ?_)
        obtain ⟨hA, hNB, hSB, hTX, e60, hkA, hkN, hkb, hkv⟩ := _root_.id hC
        obtain ⟨⟨ml, hBb⟩, hVv, en0, -, -, hfb⟩ := _root_.id hSB
        refine v_aload_n dX7_readCommand_22 rfl rfl ?_
        refine gs_X7_50 dX7_readCommand_23 rfl ?_
        refine v_iload_n dX7_readCommand_26 rfl rfl ?_
        refine v_tA dX7_readCommand_27 (fun A U H h => h.o 4 rfl) j0 (by rw [nI_S2 j hj10]; exact hj10) (v := .ref (g (10 + j))) (by rw [nI_S2 j hj10]) ?_
        refine v_gC dX7_readCommand_28 rfl (fun A U H h => h.c hj10 2 rfl) (Ut_of (mt_10 113 rfl) rfl) ?_
        refine k_X7_61 dX7_readCommand_31 rfl (c_readForm htr hj10 hC s0 s1) hA (Nat.le_of_ble_eq_true rfl) (by omega) (by omega) (Nat.le_of_ble_eq_true rfl) (fun r31 M9 h9 => ?_) (fun _ _ h9 => h9.elim)
        obtain ⟨N2, nc2, h9q, hC, hF9⟩ := h9
        have hF := Frm.tr hF hF9
        obtain ⟨hA, hNB, hSB, hTX, e60, hkA, hkN, hkb, hkv⟩ := _root_.id hC
        obtain ⟨⟨ml, hBb⟩, hVv, en0, -, -, hfb⟩ := _root_.id hSB
        have hfr := FR_of (tx := tx) (en := en) (he := st) hj10
        refine v_if_eq (tgt := 48) dX7_readCommand_34 (by decide) (fun h34 => ?_) (fun h34 => ?_)
        · obtain ⟨hb, hle, heq⟩ := hk0 j _ _ _ hj10 hfr
          refine v_iload_n dX7_readCommand_48 rfl rfl ?_
          refine v_aload_n dX7_readCommand_49 rfl rfl ?_
          refine gf_X7_35 dX7_readCommand_50 rfl hA ?_
          refine mm_X7_65 dX7_readCommand_53 rfl (Nat.le_of_ble_eq_true rfl) (by omega) (by omega) ?_
          refine v_istore_2 dX7_readCommand_56 ?_
          refine v_iinc_3 dX7_readCommand_57 rfl ?_
          refine v_goto (tgt := 4) dX7_readCommand_60 (by decide) ?_
          rw [show nI j + Int32.ofInt 1 = nI (j + 1) from nI_1 j]
          refine ih (j + 1) (by omega) _ _ cm1 _ _ _ ⟨?_, fun hk => ?_⟩ hC hF
          · split
            · exact hle
            · exact hv.1
          · rcases (by omega : j = k0 ∨ k0 < j) with z | z
            · have q := heq z
              have q2 := hv.1
              rw [q]
              split
              · rfl
              · rename_i q3
                exact Int32.le_antisymm q2 (Int32.not_lt.mp q3)
            · have q := hv.2 z
              rw [q]
              rw [if_neg (Int32.not_lt.mpr hle)]
        · have b1 := (h9q.resolve_right (fun z => h34 z.2)).1
          exact absurd b1 (by rw [(hk0 j _ _ _ hj10 hfr).1]; exact Bool.false_ne_true)
  refine v_iload_n dX7_readCommand_0 rfl rfl ?_
  refine v_istore_2 dX7_readCommand_1 ?_
  refine v_iconst (v := 0) dX7_readCommand_2 (by decide) ?_
  refine v_istore_3 dX7_readCommand_3 ?_
  exact key 10 0 rfl M st cm at9 nc NN ⟨st_le, fun z => absurd z (Nat.not_lt_zero _)⟩ hC hF
