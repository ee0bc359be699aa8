/-! ===== the law: two ways to fail ===== -/
theorem dL_law_1668 : decode cL_law 1668 = .ok (.aload_n 1, 1) := by decide +kernel
theorem dL_law_1669 : decode cL_law 1669 = .ok (.aload_n 0, 1) := by decide +kernel
theorem dL_law_1670 : decode cL_law 1670 = .ok (.iload 5, 2) := by decide +kernel
theorem dL_law_1672 : decode cL_law 1672 = .ok (.iconst 1, 1) := by decide +kernel
theorem dL_law_1673 : decode cL_law 1673 = .ok (.iadd, 1) := by decide +kernel
theorem dL_law_1674 : decode cL_law 1674 = .ok (.iaload, 1) := by decide +kernel
theorem dL_law_1675 : decode cL_law 1675 = .ok (.aload_n 0, 1) := by decide +kernel
theorem dL_law_1676 : decode cL_law 1676 = .ok (.iload 5, 2) := by decide +kernel
theorem dL_law_1678 : decode cL_law 1678 = .ok (.iconst 2, 1) := by decide +kernel
theorem dL_law_1679 : decode cL_law 1679 = .ok (.iadd, 1) := by decide +kernel
theorem dL_law_1680 : decode cL_law 1680 = .ok (.iaload, 1) := by decide +kernel
theorem dL_law_1681 : decode cL_law 1681 = .ok (.aload_n 3, 1) := by decide +kernel
theorem dL_law_1682 : decode cL_law 1682 = .ok (.invokestatic 264, 3) := by decide +kernel
theorem dL_law_1685 : decode cL_law 1685 = .ok (.istore 6, 2) := by decide +kernel
theorem dL_law_1687 : decode cL_law 1687 = .ok (.aload_n 2, 1) := by decide +kernel
theorem dL_law_1688 : decode cL_law 1688 = .ok (.aload_n 0, 1) := by decide +kernel
theorem dL_law_1689 : decode cL_law 1689 = .ok (.iload 5, 2) := by decide +kernel
theorem dL_law_1691 : decode cL_law 1691 = .ok (.iconst 1, 1) := by decide +kernel
theorem dL_law_1692 : decode cL_law 1692 = .ok (.iadd, 1) := by decide +kernel
theorem dL_law_1693 : decode cL_law 1693 = .ok (.iaload, 1) := by decide +kernel
theorem dL_law_1694 : decode cL_law 1694 = .ok (.aload_n 0, 1) := by decide +kernel
theorem dL_law_1695 : decode cL_law 1695 = .ok (.iload 5, 2) := by decide +kernel
theorem dL_law_1697 : decode cL_law 1697 = .ok (.iconst 2, 1) := by decide +kernel
theorem dL_law_1698 : decode cL_law 1698 = .ok (.iadd, 1) := by decide +kernel
theorem dL_law_1699 : decode cL_law 1699 = .ok (.iaload, 1) := by decide +kernel
theorem dL_law_1700 : decode cL_law 1700 = .ok (.invokevirtual 266, 3) := by decide +kernel
theorem dL_law_1703 : decode cL_law 1703 = .ok (.istore 7, 2) := by decide +kernel
theorem dL_law_1705 : decode cL_law 1705 = .ok (.aload_n 2, 1) := by decide +kernel
theorem dL_law_1706 : decode cL_law 1706 = .ok (.invokevirtual 189, 3) := by decide +kernel
theorem dL_law_1709 : decode cL_law 1709 = .ok (.iload 6, 2) := by decide +kernel
theorem dL_law_1711 : decode cL_law 1711 = .ok (.if_icmp .eq 5, 3) := by decide +kernel
theorem dL_law_1714 : decode cL_law 1714 = .ok (.iconst 0, 1) := by decide +kernel
theorem dL_law_1715 : decode cL_law 1715 = .ok (.ireturn, 1) := by decide +kernel
theorem dL_law_1716 : decode cL_law 1716 = .ok (.iload 6, 2) := by decide +kernel
theorem dL_law_1718 : decode cL_law 1718 = .ok (.ifCond .ne 15, 3) := by decide +kernel
theorem dL_law_1721 : decode cL_law 1721 = .ok (.aload_n 3, 1) := by decide +kernel
theorem dL_law_1722 : decode cL_law 1722 = .ok (.iconst 0, 1) := by decide +kernel
theorem dL_law_1723 : decode cL_law 1723 = .ok (.laload, 1) := by decide +kernel
theorem dL_law_1724 : decode cL_law 1724 = .ok (.iload 7, 2) := by decide +kernel
theorem dL_law_1726 : decode cL_law 1726 = .ok (.i2l, 1) := by decide +kernel
theorem dL_law_1727 : decode cL_law 1727 = .ok (.lcmp, 1) := by decide +kernel
theorem dL_law_1728 : decode cL_law 1728 = .ok (.ifCond .eq 5, 3) := by decide +kernel
theorem dL_law_1731 : decode cL_law 1731 = .ok (.iconst 0, 1) := by decide +kernel
theorem dL_law_1732 : decode cL_law 1732 = .ok (.ireturn, 1) := by decide +kernel
theorem dL_law_1733 : decode cL_law 1733 = .ok (.goto 1587, 3) := by decide +kernel
set_option maxRecDepth 100000 in
set_option maxHeartbeats 4000000 in
theorem law_23 {l : Launch} {g : Nat → Nat} {nm ds : String} {tb : List ExceptionTableEntry} {L mc ms : Nat} {Po : Res → LH → Prop} {X : CX} {M : LH} {k0 n0 : Nat} (htr : l.stackTraces = false) {b SN : Nat} {xs : Nat → Int32} (hX : Sc b SN xs X) {kd : Nat → Nat} {p : Nat} {q a : Nat → Nat} {e8 : Int32 → Nat} {v : Int32 → Int32} {sv : Int32} {sa : Int32 → Int32} {ch : Int32} {pa tx : Int32 → Int32} {tn : Int32} {Ls : List Int32} {ea fl : Int32} {m : Nat} {w : Nat → Nat} {t bf he en wr dg : Int32} {b4 fr th bs li lf to : Int32 → Int32} {out outD : Nat} {N : Nat} (hP : Pg kd M p q a e8 v sv sa ch pa tx tn Ls ea fl) (hM : Md kd 30 M m w t ch ea fl sv bf tn he en (nI Ls.length) wr dg v b4 sa pa fr th bs tx li lf to) (hS : Lw N v sv sa ch pa tn Ls ea fl li) (hN : N ≤ 512) {h0 : Nat → Int64} (hO : M out = some (la 1 h0)) (ko : kd out = 31) {h2 : Nat → UInt64} (hO2 : M outD = some (da 1 h2)) (ko2 : kd outD = 31) {i : Int32} (hi : ∀ j : Int32, 1 ≤ j → j ≤ 5 → 0 ≤ i + j ∧ (i + j).toNatClampNeg < SN) (hL : 30 ≤ L) (hk : k0 + 8 ≤ mc) (hn : n0 + 600 ≤ ms) {z6 z7 z8 : Option Value} (kk : ∀ (M' : LH) (z6 z7 z8 : Option Value), LI p m out outD (N + 1) M' → V l g ⟨"SledgePostLaw", nm, ds⟩ cL_law (some .boolean) tb L mc ms Po X M' (k0 + 8) (n0 + 600) 3320 [some (.ref b), some (.ref p), some (.ref m), some (.ref out), some (.ref outD), some (.int i), z6, z7, z8] []) : V l g ⟨"SledgePostLaw", nm, ds⟩ cL_law (some .boolean) tb L mc ms Po X M k0 n0 1668 [some (.ref b), some (.ref p), some (.ref m), some (.ref out), some (.ref outD), some (.int i), z6, z7, z8] [] := by
  obtain ⟨hG, hSy, hv4⟩ := hS.1
  obtain ⟨-, -, -, -, ⟨tn0, tn60⟩, ⟨ea1, fl1⟩, ⟨hTl, hLs⟩, c0, c8⟩ := _root_.id hS
  obtain ⟨h461, h46⟩ := hS.1.r hN
  obtain ⟨hs0, old0, ⟨hpO, -⟩, -⟩ := _root_.id hP
  refine v_aload_n dL_law_1668 rfl rfl ?_
  refine v_aload_n dL_law_1669 rfl rfl ?_
  refine v_iload dL_law_1670 rfl ?_
  refine v_iconst (v := 1) dL_law_1672 (by decide) ?_
  refine v_iadd dL_law_1673 ?_
  refine v_sld hX dL_law_1674 (hi 1 (by decide) (by decide)).1 (hi 1 (by decide) (by decide)).2 ?_
  refine v_aload_n dL_law_1675 rfl rfl ?_
  refine v_iload dL_law_1676 rfl ?_
  refine v_iconst (v := 2) dL_law_1678 (by decide) ?_
  refine v_iadd dL_law_1679 ?_
  refine v_sld hX dL_law_1680 (hi 2 (by decide) (by decide)).1 (hi 2 (by decide) (by decide)).2 ?_
  refine v_aload_n dL_law_1681 rfl rfl ?_
  refine kl_264 dL_law_1682 rfl (w_L_letterOn htr (f_letterOn htr hP (xs (i + 1).toNatClampNeg) (xs (i + 2).toNatClampNeg)) hpO (fun r M9 h9 => ⟨_, (h9.2.2.2.2 out (by rw [ko]; decide)).trans hO⟩) (fun E M9 h9 => h9.1.elim (fun z => Or.inl z.2) (fun z => Or.inr z.2.2))) (by omega) (by omega) (by omega) (Nat.le_of_ble_eq_true rfl) (fun r9 M9 h9 => ?_) (fun _ _ h9 => h9.elim)
  rcases h9 with ⟨rfl, r, M8, h8, ⟨hc1, hc2, rfl, hP8, hF8⟩, hh, rfl⟩ | ⟨E, ⟨hx, hP8, hF8⟩, hE⟩
  · skip
    have f31 : Fs kd (fun r => r = 31) M8 (hup M8 out (la 1 h8)) := fun x hx => hup_n (fun z => hx (by rw [z]; exact ko))
    have hP9 := hP8.fs f31 (fun r h => by omega)
    have hM9 := (hM.tp (hF8.t 30 (Nat.le_refl _))).tp (f31.tp (by decide))
    have hO9 := up_k (e' := la 1 h8) ((hF8 outD (by rw [ko2]; decide)).trans hO2) ((hF8 out (by rw [ko]; decide)).trans hO) da_la
    refine v_istore_6 dL_law_1685 ?_
    refine v_aload_n dL_law_1687 rfl rfl ?_
    refine v_aload_n dL_law_1688 rfl rfl ?_
    refine v_iload dL_law_1689 rfl ?_
    refine v_iconst (v := 1) dL_law_1691 (by decide) ?_
    refine v_iadd dL_law_1692 ?_
    refine v_sld hX dL_law_1693 (hi 1 (by decide) (by decide)).1 (hi 1 (by decide) (by decide)).2 ?_
    refine v_aload_n dL_law_1694 rfl rfl ?_
    refine v_iload dL_law_1695 rfl ?_
    refine v_iconst (v := 2) dL_law_1697 (by decide) ?_
    refine v_iadd dL_law_1698 ?_
    refine v_sld hX dL_law_1699 (hi 2 (by decide) (by decide)).1 (hi 2 (by decide) (by decide)).2 ?_
    refine k_L_266 dL_law_1700 rfl (r_letterOn htr hM9 hG (xs (i + 1).toNatClampNeg) (xs (i + 2).toNatClampNeg)) hM9.1 (by omega) (by omega) (by omega) (Nat.le_of_ble_eq_true rfl) (fun r1700 M9 h9 => ?_) (fun _ _ h9 => h9.elim)
    obtain ⟨y0, h9, hF9⟩ := h9
    rcases h9 with ⟨-, -, rfl, hC⟩ | ⟨-, hn, -⟩ | ⟨hn, -⟩
    rotate_left
    · first | exact absurd hc2 hn | exact absurd hn hc2
    · exact absurd hc1 hn
    have hOA := LR1 (kd := kd) hup_s ko hF9
    have hOD := LR1 hO9 ko2 hF9
    refine v_istore_7 dL_law_1703 ?_
    refine v_aload_n dL_law_1705 rfl rfl ?_
    refine k_L_189 dL_law_1706 rfl (r_thrown htr hC) hC.1 (by omega) (by omega) (by omega) (Nat.le_of_ble_eq_true rfl) (fun r1706 M9 h9 => ?_) (fun _ _ h9 => h9.elim)
    obtain ⟨rfl, e9⟩ := h9
    subst M9
    refine v_iload dL_law_1709 rfl ?_
    refine v_icmp_eq (tgt := 1716) dL_law_1711 (by decide) (fun h1711 => ?_) (fun h1711 => ?_)
    · refine v_iload dL_law_1716 rfl ?_
      refine v_if_ne (tgt := 1733) dL_law_1718 (by decide) (fun h1718 => ?_) (fun h1718 => ?_)
      · exact absurd rfl h1718
      · refine v_aload_n dL_law_1721 rfl rfl ?_
        refine v_iconst (v := 0) dL_law_1722 (by decide) ?_
        refine v_lald dL_law_1723 hOA ?_
        refine v_iload dL_law_1724 rfl ?_
        refine v_i2l dL_law_1726 ?_
        refine v_lcmp dL_law_1727 ?_
        rw [hh, lg_self]
        refine v_if_eq (tgt := 1733) dL_law_1728 (by decide) (fun h1728 => ?_) (fun h1728 => ?_)
        · refine v_goto (tgt := 3320) dL_law_1733 (by decide) ?_
          refine V.wid (k' := k0 + 8) (n' := n0 + 600) (by omega) (by omega) (kk _ _ _ _ ?_)
          exact ⟨kd, q, a, e8, v, _, sa, _, pa, tx, tn, Ls, _, _, w, _, _, _, _, _, _, _, _, _, _, _, _, _, (hP9.fs (Frm.fs (S := fun r => r = 30) hF9 rfl) (fun r h => by omega)), hC, hS.up, ⟨⟨_, hOA⟩, ko⟩, ⟨_, hOD⟩, ko2⟩
        · exact absurd rfl h1728
    · exact absurd rfl h1711
  · skip
    have hM9 := hM.tp (hF8.t 30 (Nat.le_refl _))
    have hO8 := (hF8 out (by rw [ko]; decide)).trans hO
    have hO9 := (hF8 outD (by rw [ko2]; decide)).trans hO2
    rcases hx with ⟨hc1, hE0⟩ | ⟨hc1, hc2, hE0⟩
    · obtain ⟨-, rfl⟩ := hE.resolve_right (fun z => absurd (hE0.symm.trans z.1) (by decide))
      refine v_istore_6 dL_law_1685 ?_
      refine v_aload_n dL_law_1687 rfl rfl ?_
      refine v_aload_n dL_law_1688 rfl rfl ?_
      refine v_iload dL_law_1689 rfl ?_
      refine v_iconst (v := 1) dL_law_1691 (by decide) ?_
      refine v_iadd dL_law_1692 ?_
      refine v_sld hX dL_law_1693 (hi 1 (by decide) (by decide)).1 (hi 1 (by decide) (by decide)).2 ?_
      refine v_aload_n dL_law_1694 rfl rfl ?_
      refine v_iload dL_law_1695 rfl ?_
      refine v_iconst (v := 2) dL_law_1697 (by decide) ?_
      refine v_iadd dL_law_1698 ?_
      refine v_sld hX dL_law_1699 (hi 2 (by decide) (by decide)).1 (hi 2 (by decide) (by decide)).2 ?_
      refine k_L_266 dL_law_1700 rfl (r_letterOn htr hM9 hG (xs (i + 1).toNatClampNeg) (xs (i + 2).toNatClampNeg)) hM9.1 (by omega) (by omega) (by omega) (Nat.le_of_ble_eq_true rfl) (fun r1700 M9 h9 => ?_) (fun _ _ h9 => h9.elim)
      obtain ⟨y0, h9, hF9⟩ := h9
      rcases h9 with ⟨hn, -⟩ | ⟨hn, -⟩ | ⟨-, rfl, hC⟩
      · exact absurd hn hc1
      · exact absurd hn hc1
      have hOA := LR1 (kd := kd) hO8 ko hF9
      have hOD := LR1 hO9 ko2 hF9
      refine v_istore_7 dL_law_1703 ?_
      refine v_aload_n dL_law_1705 rfl rfl ?_
      refine k_L_189 dL_law_1706 rfl (r_thrown htr hC) hC.1 (by omega) (by omega) (by omega) (Nat.le_of_ble_eq_true rfl) (fun r1706 M9 h9 => ?_) (fun _ _ h9 => h9.elim)
      obtain ⟨rfl, e9⟩ := h9
      subst M9
      refine v_iload dL_law_1709 rfl ?_
      refine v_icmp_eq (tgt := 1716) dL_law_1711 (by decide) (fun h1711 => ?_) (fun h1711 => ?_)
      · refine v_iload dL_law_1716 rfl ?_
        refine v_if_ne (tgt := 1733) dL_law_1718 (by decide) (fun h1718 => ?_) (fun h1718 => ?_)
        · refine v_goto (tgt := 3320) dL_law_1733 (by decide) ?_
          refine V.wid (k' := k0 + 8) (n' := n0 + 600) (by omega) (by omega) (kk _ _ _ _ ?_)
          exact ⟨kd, q, a, e8, v, _, sa, _, pa, tx, tn, Ls, _, _, w, _, _, _, _, _, _, _, _, _, _, _, _, _, (hP8.fs (Frm.fs (S := fun r => r = 30) hF9 rfl) (fun r h => by omega)), hC, hS.up, ⟨⟨_, hOA⟩, ko⟩, ⟨_, hOD⟩, ko2⟩
        · exact absurd h1718 (by decide)
      · exact absurd rfl h1711
    · obtain ⟨-, rfl⟩ := hE.resolve_left (fun z => absurd (hE0.symm.trans z.1) (by decide))
      refine v_istore_6 dL_law_1685 ?_
      refine v_aload_n dL_law_1687 rfl rfl ?_
      refine v_aload_n dL_law_1688 rfl rfl ?_
      refine v_iload dL_law_1689 rfl ?_
      refine v_iconst (v := 1) dL_law_1691 (by decide) ?_
      refine v_iadd dL_law_1692 ?_
      refine v_sld hX dL_law_1693 (hi 1 (by decide) (by decide)).1 (hi 1 (by decide) (by decide)).2 ?_
      refine v_aload_n dL_law_1694 rfl rfl ?_
      refine v_iload dL_law_1695 rfl ?_
      refine v_iconst (v := 2) dL_law_1697 (by decide) ?_
      refine v_iadd dL_law_1698 ?_
      refine v_sld hX dL_law_1699 (hi 2 (by decide) (by decide)).1 (hi 2 (by decide) (by decide)).2 ?_
      refine k_L_266 dL_law_1700 rfl (r_letterOn htr hM9 hG (xs (i + 1).toNatClampNeg) (xs (i + 2).toNatClampNeg)) hM9.1 (by omega) (by omega) (by omega) (Nat.le_of_ble_eq_true rfl) (fun r1700 M9 h9 => ?_) (fun _ _ h9 => h9.elim)
      obtain ⟨y0, h9, hF9⟩ := h9
      rcases h9 with ⟨-, hn, -⟩ | ⟨-, -, rfl, hC⟩ | ⟨hn, -⟩
      · first | exact absurd hc2 hn | exact absurd hn hc2
      rotate_left
      · exact absurd hc1 hn
      have hOA := LR1 (kd := kd) hO8 ko hF9
      have hOD := LR1 hO9 ko2 hF9
      refine v_istore_7 dL_law_1703 ?_
      refine v_aload_n dL_law_1705 rfl rfl ?_
      refine k_L_189 dL_law_1706 rfl (r_thrown htr hC) hC.1 (by omega) (by omega) (by omega) (Nat.le_of_ble_eq_true rfl) (fun r1706 M9 h9 => ?_) (fun _ _ h9 => h9.elim)
      obtain ⟨rfl, e9⟩ := h9
      subst M9
      refine v_iload dL_law_1709 rfl ?_
      refine v_icmp_eq (tgt := 1716) dL_law_1711 (by decide) (fun h1711 => ?_) (fun h1711 => ?_)
      · refine v_iload dL_law_1716 rfl ?_
        refine v_if_ne (tgt := 1733) dL_law_1718 (by decide) (fun h1718 => ?_) (fun h1718 => ?_)
        · refine v_goto (tgt := 3320) dL_law_1733 (by decide) ?_
          refine V.wid (k' := k0 + 8) (n' := n0 + 600) (by omega) (by omega) (kk _ _ _ _ ?_)
          exact ⟨kd, q, a, e8, v, _, sa, _, pa, tx, tn, Ls, _, _, w, _, _, _, _, _, _, _, _, _, _, _, _, _, (hP8.fs (Frm.fs (S := fun r => r = 30) hF9 rfl) (fun r h => by omega)), hC, hS.up, ⟨⟨_, hOA⟩, ko⟩, ⟨_, hOD⟩, ko2⟩
        · exact absurd h1718 (by decide)
      · exact absurd rfl h1711
theorem dL_law_2596 : decode cL_law 2596 = .ok (.aload_n 1, 1) := by decide +kernel
theorem dL_law_2597 : decode cL_law 2597 = .ok (.aload_n 0, 1) := by decide +kernel
theorem dL_law_2598 : decode cL_law 2598 = .ok (.iload 5, 2) := by decide +kernel
theorem dL_law_2600 : decode cL_law 2600 = .ok (.iconst 1, 1) := by decide +kernel
theorem dL_law_2601 : decode cL_law 2601 = .ok (.iadd, 1) := by decide +kernel
theorem dL_law_2602 : decode cL_law 2602 = .ok (.iaload, 1) := by decide +kernel
theorem dL_law_2603 : decode cL_law 2603 = .ok (.aload_n 3, 1) := by decide +kernel
theorem dL_law_2604 : decode cL_law 2604 = .ok (.invokestatic 316, 3) := by decide +kernel
theorem dL_law_2607 : decode cL_law 2607 = .ok (.istore 6, 2) := by decide +kernel
theorem dL_law_2609 : decode cL_law 2609 = .ok (.aload_n 2, 1) := by decide +kernel
theorem dL_law_2610 : decode cL_law 2610 = .ok (.aload_n 0, 1) := by decide +kernel
theorem dL_law_2611 : decode cL_law 2611 = .ok (.iload 5, 2) := by decide +kernel
theorem dL_law_2613 : decode cL_law 2613 = .ok (.iconst 1, 1) := by decide +kernel
theorem dL_law_2614 : decode cL_law 2614 = .ok (.iadd, 1) := by decide +kernel
theorem dL_law_2615 : decode cL_law 2615 = .ok (.iaload, 1) := by decide +kernel
theorem dL_law_2616 : decode cL_law 2616 = .ok (.invokevirtual 318, 3) := by decide +kernel
theorem dL_law_2619 : decode cL_law 2619 = .ok (.istore 7, 2) := by decide +kernel
theorem dL_law_2621 : decode cL_law 2621 = .ok (.aload_n 2, 1) := by decide +kernel
theorem dL_law_2622 : decode cL_law 2622 = .ok (.invokevirtual 189, 3) := by decide +kernel
theorem dL_law_2625 : decode cL_law 2625 = .ok (.iload 6, 2) := by decide +kernel
theorem dL_law_2627 : decode cL_law 2627 = .ok (.if_icmp .eq 5, 3) := by decide +kernel
theorem dL_law_2630 : decode cL_law 2630 = .ok (.iconst 0, 1) := by decide +kernel
theorem dL_law_2631 : decode cL_law 2631 = .ok (.ireturn, 1) := by decide +kernel
theorem dL_law_2632 : decode cL_law 2632 = .ok (.iload 6, 2) := by decide +kernel
theorem dL_law_2634 : decode cL_law 2634 = .ok (.ifCond .ne 15, 3) := by decide +kernel
theorem dL_law_2637 : decode cL_law 2637 = .ok (.aload_n 3, 1) := by decide +kernel
theorem dL_law_2638 : decode cL_law 2638 = .ok (.iconst 0, 1) := by decide +kernel
theorem dL_law_2639 : decode cL_law 2639 = .ok (.laload, 1) := by decide +kernel
theorem dL_law_2640 : decode cL_law 2640 = .ok (.iload 7, 2) := by decide +kernel
theorem dL_law_2642 : decode cL_law 2642 = .ok (.i2l, 1) := by decide +kernel
theorem dL_law_2643 : decode cL_law 2643 = .ok (.lcmp, 1) := by decide +kernel
theorem dL_law_2644 : decode cL_law 2644 = .ok (.ifCond .eq 5, 3) := by decide +kernel
theorem dL_law_2647 : decode cL_law 2647 = .ok (.iconst 0, 1) := by decide +kernel
theorem dL_law_2648 : decode cL_law 2648 = .ok (.ireturn, 1) := by decide +kernel
theorem dL_law_2649 : decode cL_law 2649 = .ok (.goto 671, 3) := by decide +kernel
set_option maxRecDepth 100000 in
set_option maxHeartbeats 4000000 in
theorem law_40 {l : Launch} {g : Nat → Nat} {nm ds : String} {tb : List ExceptionTableEntry} {L mc ms : Nat} {Po : Res → LH → Prop} {X : CX} {M : LH} {k0 n0 : Nat} (htr : l.stackTraces = false) {b SN : Nat} {xs : Nat → Int32} (hX : Sc b SN xs X) {kd : Nat → Nat} {p : Nat} {q a : Nat → Nat} {e8 : Int32 → Nat} {v : Int32 → Int32} {sv : Int32} {sa : Int32 → Int32} {ch : Int32} {pa tx : Int32 → Int32} {tn : Int32} {Ls : List Int32} {ea fl : Int32} {m : Nat} {w : Nat → Nat} {t bf he en wr dg : Int32} {b4 fr th bs li lf to : Int32 → Int32} {out outD : Nat} {N : Nat} (hP : Pg kd M p q a e8 v sv sa ch pa tx tn Ls ea fl) (hM : Md kd 30 M m w t ch ea fl sv bf tn he en (nI Ls.length) wr dg v b4 sa pa fr th bs tx li lf to) (hS : Lw N v sv sa ch pa tn Ls ea fl li) (hN : N ≤ 512) {h0 : Nat → Int64} (hO : M out = some (la 1 h0)) (ko : kd out = 31) {h2 : Nat → UInt64} (hO2 : M outD = some (da 1 h2)) (ko2 : kd outD = 31) {i : Int32} (hi : ∀ j : Int32, 1 ≤ j → j ≤ 5 → 0 ≤ i + j ∧ (i + j).toNatClampNeg < SN) (hL : 30 ≤ L) (hk : k0 + 8 ≤ mc) (hn : n0 + 600 ≤ ms) {z6 z7 z8 : Option Value} (kk : ∀ (M' : LH) (z6 z7 z8 : Option Value), LI p m out outD (N + 1) M' → V l g ⟨"SledgePostLaw", nm, ds⟩ cL_law (some .boolean) tb L mc ms Po X M' (k0 + 8) (n0 + 600) 3320 [some (.ref b), some (.ref p), some (.ref m), some (.ref out), some (.ref outD), some (.int i), z6, z7, z8] []) : V l g ⟨"SledgePostLaw", nm, ds⟩ cL_law (some .boolean) tb L mc ms Po X M k0 n0 2596 [some (.ref b), some (.ref p), some (.ref m), some (.ref out), some (.ref outD), some (.int i), z6, z7, z8] [] := by
  obtain ⟨hG, hSy, hv4⟩ := hS.1
  obtain ⟨-, -, -, -, ⟨tn0, tn60⟩, ⟨ea1, fl1⟩, ⟨hTl, hLs⟩, c0, c8⟩ := _root_.id hS
  obtain ⟨h461, h46⟩ := hS.1.r hN
  obtain ⟨hs0, old0, ⟨hpO, -⟩, -⟩ := _root_.id hP
  refine v_aload_n dL_law_2596 rfl rfl ?_
  refine v_aload_n dL_law_2597 rfl rfl ?_
  refine v_iload dL_law_2598 rfl ?_
  refine v_iconst (v := 1) dL_law_2600 (by decide) ?_
  refine v_iadd dL_law_2601 ?_
  refine v_sld hX dL_law_2602 (hi 1 (by decide) (by decide)).1 (hi 1 (by decide) (by decide)).2 ?_
  refine v_aload_n dL_law_2603 rfl rfl ?_
  refine kl_316 dL_law_2604 rfl (w_L_letterByCode htr (f_letterByCode htr hP (xs (i + 1).toNatClampNeg)) hpO (fun r M9 h9 => ⟨_, (h9.2.2.2.2 out (by rw [ko]; decide)).trans hO⟩) (fun E M9 h9 => h9.1.elim (fun z => Or.inl z.2) (fun z => Or.inr z.2.2))) (by omega) (by omega) (by omega) (Nat.le_of_ble_eq_true rfl) (fun r9 M9 h9 => ?_) (fun _ _ h9 => h9.elim)
  rcases h9 with ⟨rfl, r, M8, h8, ⟨hc1, hc2, rfl, hP8, hF8⟩, hh, rfl⟩ | ⟨E, ⟨hx, hP8, hF8⟩, hE⟩
  · skip
    have f31 : Fs kd (fun r => r = 31) M8 (hup M8 out (la 1 h8)) := fun x hx => hup_n (fun z => hx (by rw [z]; exact ko))
    have hP9 := hP8.fs f31 (fun r h => by omega)
    have hM9 := (hM.tp (hF8.t 30 (Nat.le_refl _))).tp (f31.tp (by decide))
    have hO9 := up_k (e' := la 1 h8) ((hF8 outD (by rw [ko2]; decide)).trans hO2) ((hF8 out (by rw [ko]; decide)).trans hO) da_la
    refine v_istore_6 dL_law_2607 ?_
    refine v_aload_n dL_law_2609 rfl rfl ?_
    refine v_aload_n dL_law_2610 rfl rfl ?_
    refine v_iload dL_law_2611 rfl ?_
    refine v_iconst (v := 1) dL_law_2613 (by decide) ?_
    refine v_iadd dL_law_2614 ?_
    refine v_sld hX dL_law_2615 (hi 1 (by decide) (by decide)).1 (hi 1 (by decide) (by decide)).2 ?_
    refine k_L_318 dL_law_2616 rfl (r_letterByCode htr hM9 hG (xs (i + 1).toNatClampNeg)) hM9.1 (by omega) (by omega) (by omega) (Nat.le_of_ble_eq_true rfl) (fun r2616 M9 h9 => ?_) (fun _ _ h9 => h9.elim)
    obtain ⟨h9, hF9⟩ := h9
    rcases h9 with ⟨-, -, rfl, hC⟩ | ⟨-, hn, -⟩ | ⟨hn, -⟩
    rotate_left
    · first | exact absurd hc2 hn | exact absurd hn hc2
    · exact absurd hc1 hn
    have hOA := LR1 (kd := kd) hup_s ko hF9
    have hOD := LR1 hO9 ko2 hF9
    refine v_istore_7 dL_law_2619 ?_
    refine v_aload_n dL_law_2621 rfl rfl ?_
    refine k_L_189 dL_law_2622 rfl (r_thrown htr hC) hC.1 (by omega) (by omega) (by omega) (Nat.le_of_ble_eq_true rfl) (fun r2622 M9 h9 => ?_) (fun _ _ h9 => h9.elim)
    obtain ⟨rfl, e9⟩ := h9
    subst M9
    refine v_iload dL_law_2625 rfl ?_
    refine v_icmp_eq (tgt := 2632) dL_law_2627 (by decide) (fun h2627 => ?_) (fun h2627 => ?_)
    · refine v_iload dL_law_2632 rfl ?_
      refine v_if_ne (tgt := 2649) dL_law_2634 (by decide) (fun h2634 => ?_) (fun h2634 => ?_)
      · exact absurd rfl h2634
      · refine v_aload_n dL_law_2637 rfl rfl ?_
        refine v_iconst (v := 0) dL_law_2638 (by decide) ?_
        refine v_lald dL_law_2639 hOA ?_
        refine v_iload dL_law_2640 rfl ?_
        refine v_i2l dL_law_2642 ?_
        refine v_lcmp dL_law_2643 ?_
        rw [hh, lg_self]
        refine v_if_eq (tgt := 2649) dL_law_2644 (by decide) (fun h2644 => ?_) (fun h2644 => ?_)
        · refine v_goto (tgt := 3320) dL_law_2649 (by decide) ?_
          refine V.wid (k' := k0 + 8) (n' := n0 + 600) (by omega) (by omega) (kk _ _ _ _ ?_)
          exact ⟨kd, q, a, e8, v, _, sa, _, pa, tx, tn, Ls, _, _, w, _, _, _, _, _, _, _, _, _, _, _, _, _, (hP9.fs (Frm.fs (S := fun r => r = 30) hF9 rfl) (fun r h => by omega)), hC, hS.up, ⟨⟨_, hOA⟩, ko⟩, ⟨_, hOD⟩, ko2⟩
        · exact absurd rfl h2644
    · exact absurd rfl h2627
  · skip
    have hM9 := hM.tp (hF8.t 30 (Nat.le_refl _))
    have hO8 := (hF8 out (by rw [ko]; decide)).trans hO
    have hO9 := (hF8 outD (by rw [ko2]; decide)).trans hO2
    rcases hx with ⟨hc1, hE0⟩ | ⟨hc1, hc2, hE0⟩
    · obtain ⟨-, rfl⟩ := hE.resolve_right (fun z => absurd (hE0.symm.trans z.1) (by decide))
      refine v_istore_6 dL_law_2607 ?_
      refine v_aload_n dL_law_2609 rfl rfl ?_
      refine v_aload_n dL_law_2610 rfl rfl ?_
      refine v_iload dL_law_2611 rfl ?_
      refine v_iconst (v := 1) dL_law_2613 (by decide) ?_
      refine v_iadd dL_law_2614 ?_
      refine v_sld hX dL_law_2615 (hi 1 (by decide) (by decide)).1 (hi 1 (by decide) (by decide)).2 ?_
      refine k_L_318 dL_law_2616 rfl (r_letterByCode htr hM9 hG (xs (i + 1).toNatClampNeg)) hM9.1 (by omega) (by omega) (by omega) (Nat.le_of_ble_eq_true rfl) (fun r2616 M9 h9 => ?_) (fun _ _ h9 => h9.elim)
      obtain ⟨h9, hF9⟩ := h9
      rcases h9 with ⟨hn, -⟩ | ⟨hn, -⟩ | ⟨-, rfl, hC⟩
      · exact absurd hn hc1
      · exact absurd hn hc1
      have hOA := LR1 (kd := kd) hO8 ko hF9
      have hOD := LR1 hO9 ko2 hF9
      refine v_istore_7 dL_law_2619 ?_
      refine v_aload_n dL_law_2621 rfl rfl ?_
      refine k_L_189 dL_law_2622 rfl (r_thrown htr hC) hC.1 (by omega) (by omega) (by omega) (Nat.le_of_ble_eq_true rfl) (fun r2622 M9 h9 => ?_) (fun _ _ h9 => h9.elim)
      obtain ⟨rfl, e9⟩ := h9
      subst M9
      refine v_iload dL_law_2625 rfl ?_
      refine v_icmp_eq (tgt := 2632) dL_law_2627 (by decide) (fun h2627 => ?_) (fun h2627 => ?_)
      · refine v_iload dL_law_2632 rfl ?_
        refine v_if_ne (tgt := 2649) dL_law_2634 (by decide) (fun h2634 => ?_) (fun h2634 => ?_)
        · refine v_goto (tgt := 3320) dL_law_2649 (by decide) ?_
          refine V.wid (k' := k0 + 8) (n' := n0 + 600) (by omega) (by omega) (kk _ _ _ _ ?_)
          exact ⟨kd, q, a, e8, v, _, sa, _, pa, tx, tn, Ls, _, _, w, _, _, _, _, _, _, _, _, _, _, _, _, _, (hP8.fs (Frm.fs (S := fun r => r = 30) hF9 rfl) (fun r h => by omega)), hC, hS.up, ⟨⟨_, hOA⟩, ko⟩, ⟨_, hOD⟩, ko2⟩
        · exact absurd h2634 (by decide)
      · exact absurd rfl h2627
    · obtain ⟨-, rfl⟩ := hE.resolve_left (fun z => absurd (hE0.symm.trans z.1) (by decide))
      refine v_istore_6 dL_law_2607 ?_
      refine v_aload_n dL_law_2609 rfl rfl ?_
      refine v_aload_n dL_law_2610 rfl rfl ?_
      refine v_iload dL_law_2611 rfl ?_
      refine v_iconst (v := 1) dL_law_2613 (by decide) ?_
      refine v_iadd dL_law_2614 ?_
      refine v_sld hX dL_law_2615 (hi 1 (by decide) (by decide)).1 (hi 1 (by decide) (by decide)).2 ?_
      refine k_L_318 dL_law_2616 rfl (r_letterByCode htr hM9 hG (xs (i + 1).toNatClampNeg)) hM9.1 (by omega) (by omega) (by omega) (Nat.le_of_ble_eq_true rfl) (fun r2616 M9 h9 => ?_) (fun _ _ h9 => h9.elim)
      obtain ⟨h9, hF9⟩ := h9
      rcases h9 with ⟨-, hn, -⟩ | ⟨-, -, rfl, hC⟩ | ⟨hn, -⟩
      · first | exact absurd hc2 hn | exact absurd hn hc2
      rotate_left
      · exact absurd hc1 hn
      have hOA := LR1 (kd := kd) hO8 ko hF9
      have hOD := LR1 hO9 ko2 hF9
      refine v_istore_7 dL_law_2619 ?_
      refine v_aload_n dL_law_2621 rfl rfl ?_
      refine k_L_189 dL_law_2622 rfl (r_thrown htr hC) hC.1 (by omega) (by omega) (by omega) (Nat.le_of_ble_eq_true rfl) (fun r2622 M9 h9 => ?_) (fun _ _ h9 => h9.elim)
      obtain ⟨rfl, e9⟩ := h9
      subst M9
      refine v_iload dL_law_2625 rfl ?_
      refine v_icmp_eq (tgt := 2632) dL_law_2627 (by decide) (fun h2627 => ?_) (fun h2627 => ?_)
      · refine v_iload dL_law_2632 rfl ?_
        refine v_if_ne (tgt := 2649) dL_law_2634 (by decide) (fun h2634 => ?_) (fun h2634 => ?_)
        · refine v_goto (tgt := 3320) dL_law_2649 (by decide) ?_
          refine V.wid (k' := k0 + 8) (n' := n0 + 600) (by omega) (by omega) (kk _ _ _ _ ?_)
          exact ⟨kd, q, a, e8, v, _, sa, _, pa, tx, tn, Ls, _, _, w, _, _, _, _, _, _, _, _, _, _, _, _, _, (hP8.fs (Frm.fs (S := fun r => r = 30) hF9 rfl) (fun r h => by omega)), hC, hS.up, ⟨⟨_, hOA⟩, ko⟩, ⟨_, hOD⟩, ko2⟩
        · exact absurd h2634 (by decide)
      · exact absurd rfl h2627
