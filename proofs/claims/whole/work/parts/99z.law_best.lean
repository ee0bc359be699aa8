/-! ===== the law: the best load asked ===== -/
theorem dL_law_1736 : decode cL_law 1736 = .ok (.aload_n 1, 1) := by decide +kernel
theorem dL_law_1737 : decode cL_law 1737 = .ok (.aload_n 0, 1) := by decide +kernel
theorem dL_law_1738 : decode cL_law 1738 = .ok (.iload 5, 2) := by decide +kernel
theorem dL_law_1740 : decode cL_law 1740 = .ok (.iconst 1, 1) := by decide +kernel
theorem dL_law_1741 : decode cL_law 1741 = .ok (.iadd, 1) := by decide +kernel
theorem dL_law_1742 : decode cL_law 1742 = .ok (.iaload, 1) := by decide +kernel
theorem dL_law_1743 : decode cL_law 1743 = .ok (.aload_n 3, 1) := by decide +kernel
theorem dL_law_1744 : decode cL_law 1744 = .ok (.invokestatic 267, 3) := by decide +kernel
theorem dL_law_1747 : decode cL_law 1747 = .ok (.istore 6, 2) := by decide +kernel
theorem dL_law_1749 : decode cL_law 1749 = .ok (.aload_n 2, 1) := by decide +kernel
theorem dL_law_1750 : decode cL_law 1750 = .ok (.aload_n 0, 1) := by decide +kernel
theorem dL_law_1751 : decode cL_law 1751 = .ok (.iload 5, 2) := by decide +kernel
theorem dL_law_1753 : decode cL_law 1753 = .ok (.iconst 1, 1) := by decide +kernel
theorem dL_law_1754 : decode cL_law 1754 = .ok (.iadd, 1) := by decide +kernel
theorem dL_law_1755 : decode cL_law 1755 = .ok (.iaload, 1) := by decide +kernel
theorem dL_law_1756 : decode cL_law 1756 = .ok (.invokevirtual 269, 3) := by decide +kernel
theorem dL_law_1759 : decode cL_law 1759 = .ok (.istore 7, 2) := by decide +kernel
theorem dL_law_1761 : decode cL_law 1761 = .ok (.aload_n 2, 1) := by decide +kernel
theorem dL_law_1762 : decode cL_law 1762 = .ok (.invokevirtual 189, 3) := by decide +kernel
theorem dL_law_1765 : decode cL_law 1765 = .ok (.iload 6, 2) := by decide +kernel
theorem dL_law_1767 : decode cL_law 1767 = .ok (.if_icmp .eq 5, 3) := by decide +kernel
theorem dL_law_1770 : decode cL_law 1770 = .ok (.iconst 0, 1) := by decide +kernel
theorem dL_law_1771 : decode cL_law 1771 = .ok (.ireturn, 1) := by decide +kernel
theorem dL_law_1772 : decode cL_law 1772 = .ok (.iload 6, 2) := by decide +kernel
theorem dL_law_1774 : decode cL_law 1774 = .ok (.ifCond .ne 15, 3) := by decide +kernel
theorem dL_law_1777 : decode cL_law 1777 = .ok (.aload_n 3, 1) := by decide +kernel
theorem dL_law_1778 : decode cL_law 1778 = .ok (.iconst 0, 1) := by decide +kernel
theorem dL_law_1779 : decode cL_law 1779 = .ok (.laload, 1) := by decide +kernel
theorem dL_law_1780 : decode cL_law 1780 = .ok (.iload 7, 2) := by decide +kernel
theorem dL_law_1782 : decode cL_law 1782 = .ok (.i2l, 1) := by decide +kernel
theorem dL_law_1783 : decode cL_law 1783 = .ok (.lcmp, 1) := by decide +kernel
theorem dL_law_1784 : decode cL_law 1784 = .ok (.ifCond .eq 5, 3) := by decide +kernel
theorem dL_law_1787 : decode cL_law 1787 = .ok (.iconst 0, 1) := by decide +kernel
theorem dL_law_1788 : decode cL_law 1788 = .ok (.ireturn, 1) := by decide +kernel
theorem dL_law_1789 : decode cL_law 1789 = .ok (.goto 1531, 3) := by decide +kernel
set_option maxRecDepth 100000 in
set_option maxHeartbeats 4000000 in
theorem law_24 {l : Launch} {g : Nat → Nat} {nm ds : String} {tb : List ExceptionTableEntry} {L mc ms : Nat} {Po : Res → LH → Prop} {X : CX} {M : LH} {k0 n0 : Nat} (htr : l.stackTraces = false) {b SN : Nat} {xs : Nat → Int32} (hX : Sc b SN xs X) {kd : Nat → Nat} {p : Nat} {q a : Nat → Nat} {e8 : Int32 → Nat} {v : Int32 → Int32} {sv : Int32} {sa : Int32 → Int32} {ch : Int32} {pa tx : Int32 → Int32} {tn : Int32} {Ls : List Int32} {ea fl : Int32} {m : Nat} {w : Nat → Nat} {t bf he en wr dg : Int32} {b4 fr th bs li lf to : Int32 → Int32} {out outD : Nat} {N : Nat} (hP : Pg kd M p q a e8 v sv sa ch pa tx tn Ls ea fl) (hM : Md kd 30 M m w t ch ea fl sv bf tn he en (nI Ls.length) wr dg v b4 sa pa fr th bs tx li lf to) (hS : Lw N v sv sa ch pa tn Ls ea fl li) (hN : N ≤ 512) {h0 : Nat → Int64} (hO : M out = some (la 1 h0)) (ko : kd out = 31) {h2 : Nat → UInt64} (hO2 : M outD = some (da 1 h2)) (ko2 : kd outD = 31) {i : Int32} (hi : ∀ j : Int32, 1 ≤ j → j ≤ 5 → 0 ≤ i + j ∧ (i + j).toNatClampNeg < SN) (hL : 30 ≤ L) (hk : k0 + 8 ≤ mc) (hn : n0 + 600 ≤ ms) {z6 z7 z8 : Option Value} (kk : ∀ (M' : LH) (z6 z7 z8 : Option Value), LI p m out outD (N + 1) M' → V l g ⟨"SledgePostLaw", nm, ds⟩ cL_law (some .boolean) tb L mc ms Po X M' (k0 + 8) (n0 + 600) 3320 [some (.ref b), some (.ref p), some (.ref m), some (.ref out), some (.ref outD), some (.int i), z6, z7, z8] []) : V l g ⟨"SledgePostLaw", nm, ds⟩ cL_law (some .boolean) tb L mc ms Po X M k0 n0 1736 [some (.ref b), some (.ref p), some (.ref m), some (.ref out), some (.ref outD), some (.int i), z6, z7, z8] [] := by
  obtain ⟨hG, hSy, hv4⟩ := hS.1
  obtain ⟨-, -, -, -, ⟨tn0, tn60⟩, ⟨ea1, fl1⟩, ⟨hTl, hLs⟩, c0, c8⟩ := _root_.id hS
  obtain ⟨h461, h46⟩ := hS.1.r hN
  obtain ⟨hs0, old0, ⟨hpO, -⟩, -⟩ := _root_.id hP
  refine v_aload_n dL_law_1736 rfl rfl ?_
  refine v_aload_n dL_law_1737 rfl rfl ?_
  refine v_iload dL_law_1738 rfl ?_
  refine v_iconst (v := 1) dL_law_1740 (by decide) ?_
  refine v_iadd dL_law_1741 ?_
  refine v_sld hX dL_law_1742 (hi 1 (by decide) (by decide)).1 (hi 1 (by decide) (by decide)).2 ?_
  refine v_aload_n dL_law_1743 rfl rfl ?_
  refine kl_267 dL_law_1744 rfl (w_L_bestLoadFee htr (f_bestLoadFee htr hP (xs (i + 1).toNatClampNeg)) hpO (fun r M9 h9 => ⟨_, (h9.2.2.2 out (by rw [ko]; decide)).trans hO⟩) (fun E M9 h9 => (vx_loadBest h9.1).elim (fun z => Or.inl (h9.2.1.trans z.1)) (fun z => Or.inr (h9.2.1.trans z.1)))) (by omega) (by omega) (by omega) (Nat.le_of_ble_eq_true rfl) (fun r9 M9 h9 => ?_) (fun _ _ h9 => h9.elim)
  rcases h9 with ⟨rfl, r, M8, h8, ⟨hv, rfl, hP8, hF8⟩, hh, rfl⟩ | ⟨E, ⟨hv, hE1, hP8, hF8⟩, hE⟩
  · skip
    have f31 : Fs kd (fun r => r = 31) M8 (hup M8 out (la 1 h8)) := fun x hx => hup_n (fun z => hx (by rw [z]; exact ko))
    have hP9 := hP8.fs f31 (fun r h => by omega)
    have hM9 := (hM.tp (hF8.t 30 (Nat.le_refl _))).tp (f31.tp (by decide))
    have hO9 := up_k (e' := la 1 h8) ((hF8 outD (by rw [ko2]; decide)).trans hO2) ((hF8 out (by rw [ko]; decide)).trans hO) da_la
    obtain ⟨hc1, hc2⟩ := vdBest_0 hv
    refine v_istore_6 dL_law_1747 ?_
    refine v_aload_n dL_law_1749 rfl rfl ?_
    refine v_aload_n dL_law_1750 rfl rfl ?_
    refine v_iload dL_law_1751 rfl ?_
    refine v_iconst (v := 1) dL_law_1753 (by decide) ?_
    refine v_iadd dL_law_1754 ?_
    refine v_sld hX dL_law_1755 (hi 1 (by decide) (by decide)).1 (hi 1 (by decide) (by decide)).2 ?_
    refine k_L_269 dL_law_1756 rfl (r_bestLoadFee htr hM9 hG (xs (i + 1).toNatClampNeg)) hM9.1 (by omega) (by omega) (by omega) (Nat.le_of_ble_eq_true rfl) (fun r1756 M9 h9 => ?_) (fun _ _ h9 => h9.elim)
    obtain ⟨y0, y1, h9, hF9⟩ := h9
    rcases h9 with ⟨-, -, rfl, hC⟩ | ⟨-, hn, -⟩ | ⟨hn, -⟩
    rotate_left
    · first | exact absurd hc2 hn | exact absurd hn hc2
    · exact absurd hc1 hn
    have hOA := LR1 (kd := kd) hup_s ko hF9
    have hOD := LR1 hO9 ko2 hF9
    refine v_istore_7 dL_law_1759 ?_
    refine v_aload_n dL_law_1761 rfl rfl ?_
    refine k_L_189 dL_law_1762 rfl (r_thrown htr hC) hC.1 (by omega) (by omega) (by omega) (Nat.le_of_ble_eq_true rfl) (fun r1762 M9 h9 => ?_) (fun _ _ h9 => h9.elim)
    obtain ⟨rfl, e9⟩ := h9
    subst M9
    refine v_iload dL_law_1765 rfl ?_
    refine v_icmp_eq (tgt := 1772) dL_law_1767 (by decide) (fun h1767 => ?_) (fun h1767 => ?_)
    · refine v_iload dL_law_1772 rfl ?_
      refine v_if_ne (tgt := 1789) dL_law_1774 (by decide) (fun h1774 => ?_) (fun h1774 => ?_)
      · exact absurd rfl h1774
      · refine v_aload_n dL_law_1777 rfl rfl ?_
        refine v_iconst (v := 0) dL_law_1778 (by decide) ?_
        refine v_lald dL_law_1779 hOA ?_
        refine v_iload dL_law_1780 rfl ?_
        refine v_i2l dL_law_1782 ?_
        refine v_lcmp dL_law_1783 ?_
        rw [hh, lg_self]
        refine v_if_eq (tgt := 1789) dL_law_1784 (by decide) (fun h1784 => ?_) (fun h1784 => ?_)
        · refine v_goto (tgt := 3320) dL_law_1789 (by decide) ?_
          refine V.wid (k' := k0 + 8) (n' := n0 + 600) (by omega) (by omega) (kk _ _ _ _ ?_)
          exact ⟨kd, q, a, e8, v, _, sa, _, pa, tx, tn, Ls, _, _, w, _, _, _, _, _, _, _, _, _, _, _, _, _, (hP9.fs (Frm.fs (S := fun r => r = 30) hF9 rfl) (fun r h => by omega)), hC, hS.up, ⟨⟨_, hOA⟩, ko⟩, ⟨_, hOD⟩, ko2⟩
        · exact absurd rfl h1784
    · exact absurd rfl h1767
  · skip
    have hM9 := hM.tp (hF8.t 30 (Nat.le_refl _))
    have hO8 := (hF8 out (by rw [ko]; decide)).trans hO
    have hO9 := (hF8 outD (by rw [ko2]; decide)).trans hO2
    have hx : (¬ hsl v (xs (i + 1).toNatClampNeg) ∧ E = exV 1) ∨ (hsl v (xs (i + 1).toNatClampNeg) ∧ 0 < sd v (xs (i + 1).toNatClampNeg) 2 ∧ E = exV 4) := by
      by_cases c1 : hsl v (xs (i + 1).toNatClampNeg)
      · by_cases c2 : 0 < sd v (xs (i + 1).toNatClampNeg) 2
        · exact Or.inr ⟨c1, c2, hE1.trans (congrArg exV (vdBest_4 c1 c2))⟩
        · exact absurd (vdBest_z c1 c2) hv
      · exact Or.inl ⟨c1, hE1.trans (congrArg exV (vdBest_1 c1))⟩
    rcases hx with ⟨hc1, hE0⟩ | ⟨hc1, hc2, hE0⟩
    · obtain ⟨-, rfl⟩ := hE.resolve_right (fun z => absurd (hE0.symm.trans z.1) (by decide))
      refine v_istore_6 dL_law_1747 ?_
      refine v_aload_n dL_law_1749 rfl rfl ?_
      refine v_aload_n dL_law_1750 rfl rfl ?_
      refine v_iload dL_law_1751 rfl ?_
      refine v_iconst (v := 1) dL_law_1753 (by decide) ?_
      refine v_iadd dL_law_1754 ?_
      refine v_sld hX dL_law_1755 (hi 1 (by decide) (by decide)).1 (hi 1 (by decide) (by decide)).2 ?_
      refine k_L_269 dL_law_1756 rfl (r_bestLoadFee htr hM9 hG (xs (i + 1).toNatClampNeg)) hM9.1 (by omega) (by omega) (by omega) (Nat.le_of_ble_eq_true rfl) (fun r1756 M9 h9 => ?_) (fun _ _ h9 => h9.elim)
      obtain ⟨y0, y1, h9, hF9⟩ := h9
      rcases h9 with ⟨hn, -⟩ | ⟨hn, -⟩ | ⟨-, rfl, hC⟩
      · exact absurd hn hc1
      · exact absurd hn hc1
      have hOA := LR1 (kd := kd) hO8 ko hF9
      have hOD := LR1 hO9 ko2 hF9
      refine v_istore_7 dL_law_1759 ?_
      refine v_aload_n dL_law_1761 rfl rfl ?_
      refine k_L_189 dL_law_1762 rfl (r_thrown htr hC) hC.1 (by omega) (by omega) (by omega) (Nat.le_of_ble_eq_true rfl) (fun r1762 M9 h9 => ?_) (fun _ _ h9 => h9.elim)
      obtain ⟨rfl, e9⟩ := h9
      subst M9
      refine v_iload dL_law_1765 rfl ?_
      refine v_icmp_eq (tgt := 1772) dL_law_1767 (by decide) (fun h1767 => ?_) (fun h1767 => ?_)
      · refine v_iload dL_law_1772 rfl ?_
        refine v_if_ne (tgt := 1789) dL_law_1774 (by decide) (fun h1774 => ?_) (fun h1774 => ?_)
        · refine v_goto (tgt := 3320) dL_law_1789 (by decide) ?_
          refine V.wid (k' := k0 + 8) (n' := n0 + 600) (by omega) (by omega) (kk _ _ _ _ ?_)
          exact ⟨kd, q, a, e8, v, _, sa, _, pa, tx, tn, Ls, _, _, w, _, _, _, _, _, _, _, _, _, _, _, _, _, (hP8.fs (Frm.fs (S := fun r => r = 30) hF9 rfl) (fun r h => by omega)), hC, hS.up, ⟨⟨_, hOA⟩, ko⟩, ⟨_, hOD⟩, ko2⟩
        · exact absurd h1774 (by decide)
      · exact absurd rfl h1767
    · obtain ⟨-, rfl⟩ := hE.resolve_left (fun z => absurd (hE0.symm.trans z.1) (by decide))
      refine v_istore_6 dL_law_1747 ?_
      refine v_aload_n dL_law_1749 rfl rfl ?_
      refine v_aload_n dL_law_1750 rfl rfl ?_
      refine v_iload dL_law_1751 rfl ?_
      refine v_iconst (v := 1) dL_law_1753 (by decide) ?_
      refine v_iadd dL_law_1754 ?_
      refine v_sld hX dL_law_1755 (hi 1 (by decide) (by decide)).1 (hi 1 (by decide) (by decide)).2 ?_
      refine k_L_269 dL_law_1756 rfl (r_bestLoadFee htr hM9 hG (xs (i + 1).toNatClampNeg)) hM9.1 (by omega) (by omega) (by omega) (Nat.le_of_ble_eq_true rfl) (fun r1756 M9 h9 => ?_) (fun _ _ h9 => h9.elim)
      obtain ⟨y0, y1, h9, hF9⟩ := h9
      rcases h9 with ⟨-, hn, -⟩ | ⟨-, -, rfl, hC⟩ | ⟨hn, -⟩
      · first | exact absurd hc2 hn | exact absurd hn hc2
      rotate_left
      · exact absurd hc1 hn
      have hOA := LR1 (kd := kd) hO8 ko hF9
      have hOD := LR1 hO9 ko2 hF9
      refine v_istore_7 dL_law_1759 ?_
      refine v_aload_n dL_law_1761 rfl rfl ?_
      refine k_L_189 dL_law_1762 rfl (r_thrown htr hC) hC.1 (by omega) (by omega) (by omega) (Nat.le_of_ble_eq_true rfl) (fun r1762 M9 h9 => ?_) (fun _ _ h9 => h9.elim)
      obtain ⟨rfl, e9⟩ := h9
      subst M9
      refine v_iload dL_law_1765 rfl ?_
      refine v_icmp_eq (tgt := 1772) dL_law_1767 (by decide) (fun h1767 => ?_) (fun h1767 => ?_)
      · refine v_iload dL_law_1772 rfl ?_
        refine v_if_ne (tgt := 1789) dL_law_1774 (by decide) (fun h1774 => ?_) (fun h1774 => ?_)
        · refine v_goto (tgt := 3320) dL_law_1789 (by decide) ?_
          refine V.wid (k' := k0 + 8) (n' := n0 + 600) (by omega) (by omega) (kk _ _ _ _ ?_)
          exact ⟨kd, q, a, e8, v, _, sa, _, pa, tx, tn, Ls, _, _, w, _, _, _, _, _, _, _, _, _, _, _, _, _, (hP8.fs (Frm.fs (S := fun r => r = 30) hF9 rfl) (fun r h => by omega)), hC, hS.up, ⟨⟨_, hOA⟩, ko⟩, ⟨_, hOD⟩, ko2⟩
        · exact absurd h1774 (by decide)
      · exact absurd rfl h1767
theorem dL_law_1792 : decode cL_law 1792 = .ok (.aload_n 1, 1) := by decide +kernel
theorem dL_law_1793 : decode cL_law 1793 = .ok (.aload_n 0, 1) := by decide +kernel
theorem dL_law_1794 : decode cL_law 1794 = .ok (.iload 5, 2) := by decide +kernel
theorem dL_law_1796 : decode cL_law 1796 = .ok (.iconst 1, 1) := by decide +kernel
theorem dL_law_1797 : decode cL_law 1797 = .ok (.iadd, 1) := by decide +kernel
theorem dL_law_1798 : decode cL_law 1798 = .ok (.iaload, 1) := by decide +kernel
theorem dL_law_1799 : decode cL_law 1799 = .ok (.aload_n 3, 1) := by decide +kernel
theorem dL_law_1800 : decode cL_law 1800 = .ok (.invokestatic 270, 3) := by decide +kernel
theorem dL_law_1803 : decode cL_law 1803 = .ok (.istore 6, 2) := by decide +kernel
theorem dL_law_1805 : decode cL_law 1805 = .ok (.aload_n 2, 1) := by decide +kernel
theorem dL_law_1806 : decode cL_law 1806 = .ok (.aload_n 0, 1) := by decide +kernel
theorem dL_law_1807 : decode cL_law 1807 = .ok (.iload 5, 2) := by decide +kernel
theorem dL_law_1809 : decode cL_law 1809 = .ok (.iconst 1, 1) := by decide +kernel
theorem dL_law_1810 : decode cL_law 1810 = .ok (.iadd, 1) := by decide +kernel
theorem dL_law_1811 : decode cL_law 1811 = .ok (.iaload, 1) := by decide +kernel
theorem dL_law_1812 : decode cL_law 1812 = .ok (.invokevirtual 272, 3) := by decide +kernel
theorem dL_law_1815 : decode cL_law 1815 = .ok (.istore 7, 2) := by decide +kernel
theorem dL_law_1817 : decode cL_law 1817 = .ok (.aload_n 2, 1) := by decide +kernel
theorem dL_law_1818 : decode cL_law 1818 = .ok (.invokevirtual 189, 3) := by decide +kernel
theorem dL_law_1821 : decode cL_law 1821 = .ok (.iload 6, 2) := by decide +kernel
theorem dL_law_1823 : decode cL_law 1823 = .ok (.if_icmp .eq 5, 3) := by decide +kernel
theorem dL_law_1826 : decode cL_law 1826 = .ok (.iconst 0, 1) := by decide +kernel
theorem dL_law_1827 : decode cL_law 1827 = .ok (.ireturn, 1) := by decide +kernel
theorem dL_law_1828 : decode cL_law 1828 = .ok (.iload 6, 2) := by decide +kernel
theorem dL_law_1830 : decode cL_law 1830 = .ok (.ifCond .ne 15, 3) := by decide +kernel
theorem dL_law_1833 : decode cL_law 1833 = .ok (.aload_n 3, 1) := by decide +kernel
theorem dL_law_1834 : decode cL_law 1834 = .ok (.iconst 0, 1) := by decide +kernel
theorem dL_law_1835 : decode cL_law 1835 = .ok (.laload, 1) := by decide +kernel
theorem dL_law_1836 : decode cL_law 1836 = .ok (.iload 7, 2) := by decide +kernel
theorem dL_law_1838 : decode cL_law 1838 = .ok (.i2l, 1) := by decide +kernel
theorem dL_law_1839 : decode cL_law 1839 = .ok (.lcmp, 1) := by decide +kernel
theorem dL_law_1840 : decode cL_law 1840 = .ok (.ifCond .eq 5, 3) := by decide +kernel
theorem dL_law_1843 : decode cL_law 1843 = .ok (.iconst 0, 1) := by decide +kernel
theorem dL_law_1844 : decode cL_law 1844 = .ok (.ireturn, 1) := by decide +kernel
theorem dL_law_1845 : decode cL_law 1845 = .ok (.goto 1475, 3) := by decide +kernel
set_option maxRecDepth 100000 in
set_option maxHeartbeats 4000000 in
theorem law_25 {l : Launch} {g : Nat → Nat} {nm ds : String} {tb : List ExceptionTableEntry} {L mc ms : Nat} {Po : Res → LH → Prop} {X : CX} {M : LH} {k0 n0 : Nat} (htr : l.stackTraces = false) {b SN : Nat} {xs : Nat → Int32} (hX : Sc b SN xs X) {kd : Nat → Nat} {p : Nat} {q a : Nat → Nat} {e8 : Int32 → Nat} {v : Int32 → Int32} {sv : Int32} {sa : Int32 → Int32} {ch : Int32} {pa tx : Int32 → Int32} {tn : Int32} {Ls : List Int32} {ea fl : Int32} {m : Nat} {w : Nat → Nat} {t bf he en wr dg : Int32} {b4 fr th bs li lf to : Int32 → Int32} {out outD : Nat} {N : Nat} (hP : Pg kd M p q a e8 v sv sa ch pa tx tn Ls ea fl) (hM : Md kd 30 M m w t ch ea fl sv bf tn he en (nI Ls.length) wr dg v b4 sa pa fr th bs tx li lf to) (hS : Lw N v sv sa ch pa tn Ls ea fl li) (hN : N ≤ 512) {h0 : Nat → Int64} (hO : M out = some (la 1 h0)) (ko : kd out = 31) {h2 : Nat → UInt64} (hO2 : M outD = some (da 1 h2)) (ko2 : kd outD = 31) {i : Int32} (hi : ∀ j : Int32, 1 ≤ j → j ≤ 5 → 0 ≤ i + j ∧ (i + j).toNatClampNeg < SN) (hL : 30 ≤ L) (hk : k0 + 8 ≤ mc) (hn : n0 + 600 ≤ ms) {z6 z7 z8 : Option Value} (kk : ∀ (M' : LH) (z6 z7 z8 : Option Value), LI p m out outD (N + 1) M' → V l g ⟨"SledgePostLaw", nm, ds⟩ cL_law (some .boolean) tb L mc ms Po X M' (k0 + 8) (n0 + 600) 3320 [some (.ref b), some (.ref p), some (.ref m), some (.ref out), some (.ref outD), some (.int i), z6, z7, z8] []) : V l g ⟨"SledgePostLaw", nm, ds⟩ cL_law (some .boolean) tb L mc ms Po X M k0 n0 1792 [some (.ref b), some (.ref p), some (.ref m), some (.ref out), some (.ref outD), some (.int i), z6, z7, z8] [] := by
  obtain ⟨hG, hSy, hv4⟩ := hS.1
  obtain ⟨-, -, -, -, ⟨tn0, tn60⟩, ⟨ea1, fl1⟩, ⟨hTl, hLs⟩, c0, c8⟩ := _root_.id hS
  obtain ⟨h461, h46⟩ := hS.1.r hN
  obtain ⟨hs0, old0, ⟨hpO, -⟩, -⟩ := _root_.id hP
  refine v_aload_n dL_law_1792 rfl rfl ?_
  refine v_aload_n dL_law_1793 rfl rfl ?_
  refine v_iload dL_law_1794 rfl ?_
  refine v_iconst (v := 1) dL_law_1796 (by decide) ?_
  refine v_iadd dL_law_1797 ?_
  refine v_sld hX dL_law_1798 (hi 1 (by decide) (by decide)).1 (hi 1 (by decide) (by decide)).2 ?_
  refine v_aload_n dL_law_1799 rfl rfl ?_
  refine kl_270 dL_law_1800 rfl (w_L_bestLoadFeeByTrying htr (f_bestLoadFeeByTrying htr hP (xs (i + 1).toNatClampNeg)) hpO (fun r M9 h9 => ⟨_, (h9.2.2.2 out (by rw [ko]; decide)).trans hO⟩) (fun E M9 h9 => (vx_loadBest h9.1).elim (fun z => Or.inl (h9.2.1.trans z.1)) (fun z => Or.inr (h9.2.1.trans z.1)))) (by omega) (by omega) (by omega) (Nat.le_of_ble_eq_true rfl) (fun r9 M9 h9 => ?_) (fun _ _ h9 => h9.elim)
  rcases h9 with ⟨rfl, r, M8, h8, ⟨hv, rfl, hP8, hF8⟩, hh, rfl⟩ | ⟨E, ⟨hv, hE1, hP8, hF8⟩, hE⟩
  · skip
    have f31 : Fs kd (fun r => r = 31) M8 (hup M8 out (la 1 h8)) := fun x hx => hup_n (fun z => hx (by rw [z]; exact ko))
    have hP9 := hP8.fs f31 (fun r h => by omega)
    have hM9 := (hM.tp (hF8.t 30 (Nat.le_refl _))).tp (f31.tp (by decide))
    have hO9 := up_k (e' := la 1 h8) ((hF8 outD (by rw [ko2]; decide)).trans hO2) ((hF8 out (by rw [ko]; decide)).trans hO) da_la
    obtain ⟨hc1, hc2⟩ := vdBest_0 hv
    refine v_istore_6 dL_law_1803 ?_
    refine v_aload_n dL_law_1805 rfl rfl ?_
    refine v_aload_n dL_law_1806 rfl rfl ?_
    refine v_iload dL_law_1807 rfl ?_
    refine v_iconst (v := 1) dL_law_1809 (by decide) ?_
    refine v_iadd dL_law_1810 ?_
    refine v_sld hX dL_law_1811 (hi 1 (by decide) (by decide)).1 (hi 1 (by decide) (by decide)).2 ?_
    refine k_L_272 dL_law_1812 rfl (r_bestLoadFeeByTrying htr hM9 hG (xs (i + 1).toNatClampNeg)) hM9.1 (by omega) (by omega) (by omega) (Nat.le_of_ble_eq_true rfl) (fun r1812 M9 h9 => ?_) (fun _ _ h9 => h9.elim)
    obtain ⟨y0, y1, h9, hF9⟩ := h9
    rcases h9 with ⟨-, -, rfl, hC⟩ | ⟨-, hn, -⟩ | ⟨hn, -⟩
    rotate_left
    · first | exact absurd hc2 hn | exact absurd hn hc2
    · exact absurd hc1 hn
    have hOA := LR1 (kd := kd) hup_s ko hF9
    have hOD := LR1 hO9 ko2 hF9
    refine v_istore_7 dL_law_1815 ?_
    refine v_aload_n dL_law_1817 rfl rfl ?_
    refine k_L_189 dL_law_1818 rfl (r_thrown htr hC) hC.1 (by omega) (by omega) (by omega) (Nat.le_of_ble_eq_true rfl) (fun r1818 M9 h9 => ?_) (fun _ _ h9 => h9.elim)
    obtain ⟨rfl, e9⟩ := h9
    subst M9
    refine v_iload dL_law_1821 rfl ?_
    refine v_icmp_eq (tgt := 1828) dL_law_1823 (by decide) (fun h1823 => ?_) (fun h1823 => ?_)
    · refine v_iload dL_law_1828 rfl ?_
      refine v_if_ne (tgt := 1845) dL_law_1830 (by decide) (fun h1830 => ?_) (fun h1830 => ?_)
      · exact absurd rfl h1830
      · refine v_aload_n dL_law_1833 rfl rfl ?_
        refine v_iconst (v := 0) dL_law_1834 (by decide) ?_
        refine v_lald dL_law_1835 hOA ?_
        refine v_iload dL_law_1836 rfl ?_
        refine v_i2l dL_law_1838 ?_
        refine v_lcmp dL_law_1839 ?_
        rw [hh, lg_self]
        refine v_if_eq (tgt := 1845) dL_law_1840 (by decide) (fun h1840 => ?_) (fun h1840 => ?_)
        · refine v_goto (tgt := 3320) dL_law_1845 (by decide) ?_
          refine V.wid (k' := k0 + 8) (n' := n0 + 600) (by omega) (by omega) (kk _ _ _ _ ?_)
          exact ⟨kd, q, a, e8, v, _, sa, _, pa, tx, tn, Ls, _, _, w, _, _, _, _, _, _, _, _, _, _, _, _, _, (hP9.fs (Frm.fs (S := fun r => r = 30) hF9 rfl) (fun r h => by omega)), hC, hS.up, ⟨⟨_, hOA⟩, ko⟩, ⟨_, hOD⟩, ko2⟩
        · exact absurd rfl h1840
    · exact absurd rfl h1823
  · skip
    have hM9 := hM.tp (hF8.t 30 (Nat.le_refl _))
    have hO8 := (hF8 out (by rw [ko]; decide)).trans hO
    have hO9 := (hF8 outD (by rw [ko2]; decide)).trans hO2
    have hx : (¬ hsl v (xs (i + 1).toNatClampNeg) ∧ E = exV 1) ∨ (hsl v (xs (i + 1).toNatClampNeg) ∧ 0 < sd v (xs (i + 1).toNatClampNeg) 2 ∧ E = exV 4) := by
      by_cases c1 : hsl v (xs (i + 1).toNatClampNeg)
      · by_cases c2 : 0 < sd v (xs (i + 1).toNatClampNeg) 2
        · exact Or.inr ⟨c1, c2, hE1.trans (congrArg exV (vdBest_4 c1 c2))⟩
        · exact absurd (vdBest_z c1 c2) hv
      · exact Or.inl ⟨c1, hE1.trans (congrArg exV (vdBest_1 c1))⟩
    rcases hx with ⟨hc1, hE0⟩ | ⟨hc1, hc2, hE0⟩
    · obtain ⟨-, rfl⟩ := hE.resolve_right (fun z => absurd (hE0.symm.trans z.1) (by decide))
      refine v_istore_6 dL_law_1803 ?_
      refine v_aload_n dL_law_1805 rfl rfl ?_
      refine v_aload_n dL_law_1806 rfl rfl ?_
      refine v_iload dL_law_1807 rfl ?_
      refine v_iconst (v := 1) dL_law_1809 (by decide) ?_
      refine v_iadd dL_law_1810 ?_
      refine v_sld hX dL_law_1811 (hi 1 (by decide) (by decide)).1 (hi 1 (by decide) (by decide)).2 ?_
      refine k_L_272 dL_law_1812 rfl (r_bestLoadFeeByTrying htr hM9 hG (xs (i + 1).toNatClampNeg)) hM9.1 (by omega) (by omega) (by omega) (Nat.le_of_ble_eq_true rfl) (fun r1812 M9 h9 => ?_) (fun _ _ h9 => h9.elim)
      obtain ⟨y0, y1, h9, hF9⟩ := h9
      rcases h9 with ⟨hn, -⟩ | ⟨hn, -⟩ | ⟨-, rfl, hC⟩
      · exact absurd hn hc1
      · exact absurd hn hc1
      have hOA := LR1 (kd := kd) hO8 ko hF9
      have hOD := LR1 hO9 ko2 hF9
      refine v_istore_7 dL_law_1815 ?_
      refine v_aload_n dL_law_1817 rfl rfl ?_
      refine k_L_189 dL_law_1818 rfl (r_thrown htr hC) hC.1 (by omega) (by omega) (by omega) (Nat.le_of_ble_eq_true rfl) (fun r1818 M9 h9 => ?_) (fun _ _ h9 => h9.elim)
      obtain ⟨rfl, e9⟩ := h9
      subst M9
      refine v_iload dL_law_1821 rfl ?_
      refine v_icmp_eq (tgt := 1828) dL_law_1823 (by decide) (fun h1823 => ?_) (fun h1823 => ?_)
      · refine v_iload dL_law_1828 rfl ?_
        refine v_if_ne (tgt := 1845) dL_law_1830 (by decide) (fun h1830 => ?_) (fun h1830 => ?_)
        · refine v_goto (tgt := 3320) dL_law_1845 (by decide) ?_
          refine V.wid (k' := k0 + 8) (n' := n0 + 600) (by omega) (by omega) (kk _ _ _ _ ?_)
          exact ⟨kd, q, a, e8, v, _, sa, _, pa, tx, tn, Ls, _, _, w, _, _, _, _, _, _, _, _, _, _, _, _, _, (hP8.fs (Frm.fs (S := fun r => r = 30) hF9 rfl) (fun r h => by omega)), hC, hS.up, ⟨⟨_, hOA⟩, ko⟩, ⟨_, hOD⟩, ko2⟩
        · exact absurd h1830 (by decide)
      · exact absurd rfl h1823
    · obtain ⟨-, rfl⟩ := hE.resolve_left (fun z => absurd (hE0.symm.trans z.1) (by decide))
      refine v_istore_6 dL_law_1803 ?_
      refine v_aload_n dL_law_1805 rfl rfl ?_
      refine v_aload_n dL_law_1806 rfl rfl ?_
      refine v_iload dL_law_1807 rfl ?_
      refine v_iconst (v := 1) dL_law_1809 (by decide) ?_
      refine v_iadd dL_law_1810 ?_
      refine v_sld hX dL_law_1811 (hi 1 (by decide) (by decide)).1 (hi 1 (by decide) (by decide)).2 ?_
      refine k_L_272 dL_law_1812 rfl (r_bestLoadFeeByTrying htr hM9 hG (xs (i + 1).toNatClampNeg)) hM9.1 (by omega) (by omega) (by omega) (Nat.le_of_ble_eq_true rfl) (fun r1812 M9 h9 => ?_) (fun _ _ h9 => h9.elim)
      obtain ⟨y0, y1, h9, hF9⟩ := h9
      rcases h9 with ⟨-, hn, -⟩ | ⟨-, -, rfl, hC⟩ | ⟨hn, -⟩
      · first | exact absurd hc2 hn | exact absurd hn hc2
      rotate_left
      · exact absurd hc1 hn
      have hOA := LR1 (kd := kd) hO8 ko hF9
      have hOD := LR1 hO9 ko2 hF9
      refine v_istore_7 dL_law_1815 ?_
      refine v_aload_n dL_law_1817 rfl rfl ?_
      refine k_L_189 dL_law_1818 rfl (r_thrown htr hC) hC.1 (by omega) (by omega) (by omega) (Nat.le_of_ble_eq_true rfl) (fun r1818 M9 h9 => ?_) (fun _ _ h9 => h9.elim)
      obtain ⟨rfl, e9⟩ := h9
      subst M9
      refine v_iload dL_law_1821 rfl ?_
      refine v_icmp_eq (tgt := 1828) dL_law_1823 (by decide) (fun h1823 => ?_) (fun h1823 => ?_)
      · refine v_iload dL_law_1828 rfl ?_
        refine v_if_ne (tgt := 1845) dL_law_1830 (by decide) (fun h1830 => ?_) (fun h1830 => ?_)
        · refine v_goto (tgt := 3320) dL_law_1845 (by decide) ?_
          refine V.wid (k' := k0 + 8) (n' := n0 + 600) (by omega) (by omega) (kk _ _ _ _ ?_)
          exact ⟨kd, q, a, e8, v, _, sa, _, pa, tx, tn, Ls, _, _, w, _, _, _, _, _, _, _, _, _, _, _, _, _, (hP8.fs (Frm.fs (S := fun r => r = 30) hF9 rfl) (fun r h => by omega)), hC, hS.up, ⟨⟨_, hOA⟩, ko⟩, ⟨_, hOD⟩, ko2⟩
        · exact absurd h1830 (by decide)
      · exact absurd rfl h1823
