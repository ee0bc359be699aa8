/-! ===== the law: send, round trips, hours ===== -/
theorem vdGo_e {v : Int32 → Int32} {k s w w' : Int32} (h : hsl v k → hst v s → IsD v 1000000 (sd v k 1) s w.toInt ∨ (0 < sd v k 2 ∨ sd v k 1 = s)) (h2 : hsl v k → hst v s → IsD v 1000000 (sd v k 1) s w'.toInt ∨ (0 < sd v k 2 ∨ sd v k 1 = s)) : vdGo v k s w' = vdGo v k s w := by
  unfold vdGo
  by_cases c1 : hsl v k ∧ hst v s
  · by_cases c2 : 0 < sd v k 2 ∨ sd v k 1 = s
    · rw [if_neg (fun z => z c1), if_pos c2, if_neg (fun z => z c1), if_pos c2]
    · have e := i_eq.mpr (((h c1.1 c1.2).resolve_right c2).uniq ((h2 c1.1 c1.2).resolve_right c2))
      rw [e]
  · rw [if_pos c1, if_pos c1]
theorem vx_send {v : Int32 → Int32} {k s w : Int32} (h : ¬ vdGo v k s w = 0) : (exV (vdGo v k s w) = "java/lang/IndexOutOfBoundsException" ∧ fcI 7 (vdGo v k s w) = 1) ∨ (exV (vdGo v k s w) = "java/lang/IllegalStateException" ∧ fcI 7 (vdGo v k s w) = 2) ∨ (exV (vdGo v k s w) = "java/lang/UnsupportedOperationException" ∧ fcI 7 (vdGo v k s w) = 3) := by
  have z : vdGo v k s w = 0 ∨ vdGo v k s w = 1 ∨ vdGo v k s w = 4 ∨ vdGo v k s w = 5 := by
    unfold vdGo
    (repeat' split) <;> decide
  rcases z with z | z | z | z <;> rw [z] at h ⊢ <;> first | exact absurd rfl h | exact Or.inl ⟨rfl, rfl⟩ | exact Or.inr (Or.inl ⟨rfl, rfl⟩) | exact Or.inr (Or.inr ⟨rfl, rfl⟩)
theorem nat_least {P : Nat → Prop} : ∀ n, P n → ∃ m, P m ∧ ∀ k, P k → m ≤ k := by
  intro n
  induction n using Nat.strongRecOn with
  | ind n ih =>
    intro h
    by_cases c : ∃ k, k < n ∧ P k
    · obtain ⟨k, k1, k2⟩ := c
      exact ih k k1 k2
    · exact ⟨n, h, fun k hk => Nat.le_of_not_lt (fun z => c ⟨k, z, hk⟩)⟩
theorem IsD.any {v : Int32 → Int32} (hG : Good v) {a b : Int32} (a0 : 0 ≤ a) (a1 : a < 7) (b0 : 0 ≤ b) (b1 : b < 7) : ∃ w, IsD v 1000000 a b w := by
  by_cases c : ∃ d, Wks v a b d
  · obtain ⟨d, hd⟩ := c
    obtain ⟨d', hd', le⟩ := hd.short hG a0 a1 b0 b1
    have d0 := hd'.b hG b0 b1
    obtain ⟨n, rfl⟩ : ∃ n : Nat, d' = (n : Int) := ⟨d'.toNat, by omega⟩
    obtain ⟨m, h1, h2⟩ := nat_least (P := fun n => Wks v a b (n : Int)) n hd'
    have q := h2 n hd'
    refine ⟨(m : Int), Or.inl ⟨by omega, h1, fun e he => ?_⟩⟩
    have e0 := he.b hG b0 b1
    obtain ⟨e', rfl⟩ : ∃ n : Nat, e = (n : Int) := ⟨e.toNat, by omega⟩
    have q := h2 e' he
    omega
  · exact ⟨1000000, Or.inr ⟨rfl, fun d hd => c ⟨d, hd⟩⟩⟩
theorem ddx_ex {v : Int32 → Int32} (hG : Good v) (x : Int32) : ∃ dd : Int32 → Int32 → Int, ∀ a b, Rch v x a → Rch v x b → IsD v 1000000 a b (dd a b) := by
  classical
  refine ⟨fun a b => if h : ∃ w, IsD v 1000000 a b w then Classical.choose h else 0, fun a b ha hb => ?_⟩
  have h5 := hG.2.1
  have e := IsD.any hG ha.1 (Int32.lt_of_lt_of_le ha.2.1 h5) hb.1 (Int32.lt_of_lt_of_le hb.2.1 h5)
  dsimp only
  rw [dif_pos e]
  exact Classical.choose_spec e
theorem dX12_roundTripByOrders_0 : decode cX12_roundTripByOrders 0 = .ok (.aload_n 0, 1) := by decide +kernel
theorem dX12_roundTripByOrders_1 : decode cX12_roundTripByOrders 1 = .ok (.iload_n 1, 1) := by decide +kernel
theorem dX12_roundTripByOrders_2 : decode cX12_roundTripByOrders 2 = .ok (.invokevirtual 177, 3) := by decide +kernel
theorem dX12_roundTripByOrders_5 : decode cX12_roundTripByOrders 5 = .ok (.ireturn, 1) := by decide +kernel
set_option maxRecDepth 100000 in
set_option maxHeartbeats 4000000 in
theorem r_roundTripByOrders {l : Launch} {g : Nat → Nat} {M : LH} (htr : l.stackTraces = false) {kd : Nat → Nat} {r m : Nat} {w : Nat → Nat} {t ch ea fl sv bf tn he en ln wr dg : Int32} {v b4 sa pa fr th bs tx li lf to : Int32 → Int32} (hC : Md kd r M m w t ch ea fl sv bf tn he en ln wr dg v b4 sa pa fr th bs tx li lf to) (hG : Good v) (hS : Sy v) (k : Int32) {dd : Int32 → Int32 → Int} (hdI : hsl v k → ∀ a b, Rch v (sd v k 1) a → Rch v (sd v k 1) b → IsD v 1000000 a b (dd a b)) : K_X12_roundTripByOrders l g 3 0 0 [.ref m, .int k] M (RI (fun x M9 => ∃ fr' th' bs', ((hsl v k ∧ hwK v k ∧ Lst dd (sd v k 1) (goN v k (v 7).toNatClampNeg) (sd v k 1) x.toInt ∧ Md kd r M9 m w 0 ch ea fl sv bf tn he en ln wr dg v b4 sa pa fr' th' bs' tx li lf to) ∨ (hsl v k ∧ ¬ hwK v k ∧ x = 0 ∧ Md kd r M9 m w 2 ch ea fl sv bf tn he en ln wr dg v b4 sa pa fr' th' bs tx li lf to) ∨ (¬ hsl v k ∧ x = 0 ∧ Md kd r M9 m w 1 ch ea fl sv bf tn he en ln wr dg v b4 sa pa fr th bs tx li lf to)) ∧ Frm kd r M M9) nX) := by
  refine Ko_X12_roundTripByOrders htr (fun X => ?_)
  obtain ⟨hMo, hw5, hw6, hw7, hw8, hw9, hw10, hw11, hw13, hw14, hw15, hw16, hw17, hw18, -⟩ := _root_.id hC
  have hF : Frm kd r M M := Frm.rf
  obtain ⟨hg1, hg2, hg3, hg4, hg5, hg6, hg7, hg8, hgL, hgS, -⟩ := _root_.id hG
  refine v_aload_n dX12_roundTripByOrders_0 rfl rfl ?_
  refine v_iload_n dX12_roundTripByOrders_1 rfl rfl ?_
  refine k_X12_177 dX12_roundTripByOrders_2 rfl (r_roundTrip htr hC hG hS k hdI) hMo (Nat.le_of_ble_eq_true rfl) (by omega) (by omega) (Nat.le_of_ble_eq_true rfl) (fun r2 M9 h9 => ?_) (fun _ _ h9 => h9.elim)
  exact v_iret dX12_roundTripByOrders_5 rfl h9 (by omega) (by omega)
theorem dL_law_784 : decode cL_law 784 = .ok (.aload_n 1, 1) := by decide +kernel
theorem dL_law_785 : decode cL_law 785 = .ok (.aload_n 0, 1) := by decide +kernel
theorem dL_law_786 : decode cL_law 786 = .ok (.iload 5, 2) := by decide +kernel
theorem dL_law_788 : decode cL_law 788 = .ok (.iconst 1, 1) := by decide +kernel
theorem dL_law_789 : decode cL_law 789 = .ok (.iadd, 1) := by decide +kernel
theorem dL_law_790 : decode cL_law 790 = .ok (.iaload, 1) := by decide +kernel
theorem dL_law_791 : decode cL_law 791 = .ok (.aload_n 0, 1) := by decide +kernel
theorem dL_law_792 : decode cL_law 792 = .ok (.iload 5, 2) := by decide +kernel
theorem dL_law_794 : decode cL_law 794 = .ok (.iconst 2, 1) := by decide +kernel
theorem dL_law_795 : decode cL_law 795 = .ok (.iadd, 1) := by decide +kernel
theorem dL_law_796 : decode cL_law 796 = .ok (.iaload, 1) := by decide +kernel
theorem dL_law_797 : decode cL_law 797 = .ok (.aload_n 3, 1) := by decide +kernel
theorem dL_law_798 : decode cL_law 798 = .ok (.invokestatic 214, 3) := by decide +kernel
theorem dL_law_801 : decode cL_law 801 = .ok (.istore 6, 2) := by decide +kernel
theorem dL_law_803 : decode cL_law 803 = .ok (.aload_n 2, 1) := by decide +kernel
theorem dL_law_804 : decode cL_law 804 = .ok (.aload_n 0, 1) := by decide +kernel
theorem dL_law_805 : decode cL_law 805 = .ok (.iload 5, 2) := by decide +kernel
theorem dL_law_807 : decode cL_law 807 = .ok (.iconst 1, 1) := by decide +kernel
theorem dL_law_808 : decode cL_law 808 = .ok (.iadd, 1) := by decide +kernel
theorem dL_law_809 : decode cL_law 809 = .ok (.iaload, 1) := by decide +kernel
theorem dL_law_810 : decode cL_law 810 = .ok (.aload_n 0, 1) := by decide +kernel
theorem dL_law_811 : decode cL_law 811 = .ok (.iload 5, 2) := by decide +kernel
theorem dL_law_813 : decode cL_law 813 = .ok (.iconst 2, 1) := by decide +kernel
theorem dL_law_814 : decode cL_law 814 = .ok (.iadd, 1) := by decide +kernel
theorem dL_law_815 : decode cL_law 815 = .ok (.iaload, 1) := by decide +kernel
theorem dL_law_816 : decode cL_law 816 = .ok (.invokevirtual 216, 3) := by decide +kernel
theorem dL_law_819 : decode cL_law 819 = .ok (.istore 7, 2) := by decide +kernel
theorem dL_law_821 : decode cL_law 821 = .ok (.aload_n 2, 1) := by decide +kernel
theorem dL_law_822 : decode cL_law 822 = .ok (.invokevirtual 189, 3) := by decide +kernel
theorem dL_law_825 : decode cL_law 825 = .ok (.iload 6, 2) := by decide +kernel
theorem dL_law_827 : decode cL_law 827 = .ok (.if_icmp .eq 5, 3) := by decide +kernel
theorem dL_law_830 : decode cL_law 830 = .ok (.iconst 0, 1) := by decide +kernel
theorem dL_law_831 : decode cL_law 831 = .ok (.ireturn, 1) := by decide +kernel
theorem dL_law_832 : decode cL_law 832 = .ok (.iload 6, 2) := by decide +kernel
theorem dL_law_834 : decode cL_law 834 = .ok (.ifCond .ne 15, 3) := by decide +kernel
theorem dL_law_837 : decode cL_law 837 = .ok (.aload_n 3, 1) := by decide +kernel
theorem dL_law_838 : decode cL_law 838 = .ok (.iconst 0, 1) := by decide +kernel
theorem dL_law_839 : decode cL_law 839 = .ok (.laload, 1) := by decide +kernel
theorem dL_law_840 : decode cL_law 840 = .ok (.iload 7, 2) := by decide +kernel
theorem dL_law_842 : decode cL_law 842 = .ok (.i2l, 1) := by decide +kernel
theorem dL_law_843 : decode cL_law 843 = .ok (.lcmp, 1) := by decide +kernel
theorem dL_law_844 : decode cL_law 844 = .ok (.ifCond .eq 5, 3) := by decide +kernel
theorem dL_law_847 : decode cL_law 847 = .ok (.iconst 0, 1) := by decide +kernel
theorem dL_law_848 : decode cL_law 848 = .ok (.ireturn, 1) := by decide +kernel
theorem dL_law_849 : decode cL_law 849 = .ok (.goto 2471, 3) := by decide +kernel
set_option maxRecDepth 100000 in
set_option maxHeartbeats 4000000 in
theorem law_7 {l : Launch} {g : Nat → Nat} {nm ds : String} {tb : List ExceptionTableEntry} {L mc ms : Nat} {Po : Res → LH → Prop} {X : CX} {M : LH} {k0 n0 : Nat} (htr : l.stackTraces = false) {b SN : Nat} {xs : Nat → Int32} (hX : Sc b SN xs X) {kd : Nat → Nat} {p : Nat} {q a : Nat → Nat} {e8 : Int32 → Nat} {v : Int32 → Int32} {sv : Int32} {sa : Int32 → Int32} {ch : Int32} {pa tx : Int32 → Int32} {tn : Int32} {Ls : List Int32} {ea fl : Int32} {m : Nat} {w : Nat → Nat} {t bf he en wr dg : Int32} {b4 fr th bs li lf to : Int32 → Int32} {out outD : Nat} {N : Nat} (hP : Pg kd M p q a e8 v sv sa ch pa tx tn Ls ea fl) (hM : Md kd 30 M m w t ch ea fl sv bf tn he en (nI Ls.length) wr dg v b4 sa pa fr th bs tx li lf to) (hS : Lw N v sv sa ch pa tn Ls ea fl li) (hN : N ≤ 512) {h0 : Nat → Int64} (hO : M out = some (la 1 h0)) (ko : kd out = 31) {h2 : Nat → UInt64} (hO2 : M outD = some (da 1 h2)) (ko2 : kd outD = 31) {i : Int32} (hi : ∀ j : Int32, 1 ≤ j → j ≤ 5 → 0 ≤ i + j ∧ (i + j).toNatClampNeg < SN) (hL : 30 ≤ L) (hk : k0 + 8 ≤ mc) (hn : n0 + 600 ≤ ms) {z6 z7 z8 : Option Value} (kk : ∀ (M' : LH) (z6 z7 z8 : Option Value), LI p m out outD (N + 1) M' → V l g ⟨"SledgePostLaw", nm, ds⟩ cL_law (some .boolean) tb L mc ms Po X M' (k0 + 8) (n0 + 600) 3320 [some (.ref b), some (.ref p), some (.ref m), some (.ref out), some (.ref outD), some (.int i), z6, z7, z8] []) : V l g ⟨"SledgePostLaw", nm, ds⟩ cL_law (some .boolean) tb L mc ms Po X M k0 n0 784 [some (.ref b), some (.ref p), some (.ref m), some (.ref out), some (.ref outD), some (.int i), z6, z7, z8] [] := by
  obtain ⟨hG, hSy, hv4⟩ := hS.1
  obtain ⟨-, -, -, -, ⟨tn0, tn60⟩, ⟨ea1, fl1⟩, ⟨hTl, hLs⟩, c0, c8⟩ := _root_.id hS
  obtain ⟨h461, h46⟩ := hS.1.r hN
  obtain ⟨hs0, old0, ⟨hpO, -⟩, -⟩ := _root_.id hP
  refine v_aload_n dL_law_784 rfl rfl ?_
  refine v_aload_n dL_law_785 rfl rfl ?_
  refine v_iload dL_law_786 rfl ?_
  refine v_iconst (v := 1) dL_law_788 (by decide) ?_
  refine v_iadd dL_law_789 ?_
  refine v_sld hX dL_law_790 (hi 1 (by decide) (by decide)).1 (hi 1 (by decide) (by decide)).2 ?_
  refine v_aload_n dL_law_791 rfl rfl ?_
  refine v_iload dL_law_792 rfl ?_
  refine v_iconst (v := 2) dL_law_794 (by decide) ?_
  refine v_iadd dL_law_795 ?_
  refine v_sld hX dL_law_796 (hi 2 (by decide) (by decide)).1 (hi 2 (by decide) (by decide)).2 ?_
  refine v_aload_n dL_law_797 rfl rfl ?_
  refine kl_214 dL_law_798 rfl (w_L_send htr (f_send htr hP (xs (i + 1).toNatClampNeg) (xs (i + 2).toNatClampNeg)) hpO (fun r M9 h9 => (h9.elim (fun _ z => z.2.2.2.elim (fun _ y => ⟨_, (y.2.2 out (by rw [ko]; decide)).trans hO⟩)))) (fun E M9 h9 => by obtain ⟨w0, -, e1, rfl, -, -⟩ := h9; rcases vx_send e1 with ⟨e2, -⟩ | ⟨e2, -⟩ | ⟨e2, -⟩ <;> simp [e2])) (by omega) (by omega) (by omega) (Nat.le_of_ble_eq_true rfl) (fun r9 M9 h9 => ?_) (fun _ _ h9 => h9.elim)
  rcases h9 with ⟨rfl, r, M8, h8, ⟨w0, hw0, hvd, hIx, pa1, hPa, hP8, hF8⟩, hh, rfl⟩ | ⟨E, ⟨w0, hw0, hvd, hE0, hP8, hF8⟩, hE⟩
  · skip
    have f31 : Fs kd (fun r => r = 31) M8 (hup M8 out (la 1 h8)) := fun x hx => hup_n (fun z => hx (by rw [z]; exact ko))
    have hP9 := hP8.fs f31 (fun r h => by omega)
    have hM9 := (hM.tp (hF8.t 30 (Nat.le_refl _))).tp (f31.tp (by decide))
    have hO9 := up_k (e' := la 1 h8) ((hF8 outD (by rw [ko2]; decide)).trans hO2) ((hF8 out (by rw [ko]; decide)).trans hO) da_la
    obtain ⟨o1, o2, o3, o4⟩ := (vdGo_0 hw0).mp hvd
    refine v_istore_6 dL_law_801 ?_
    refine v_aload_n dL_law_803 rfl rfl ?_
    refine v_aload_n dL_law_804 rfl rfl ?_
    refine v_iload dL_law_805 rfl ?_
    refine v_iconst (v := 1) dL_law_807 (by decide) ?_
    refine v_iadd dL_law_808 ?_
    refine v_sld hX dL_law_809 (hi 1 (by decide) (by decide)).1 (hi 1 (by decide) (by decide)).2 ?_
    refine v_aload_n dL_law_810 rfl rfl ?_
    refine v_iload dL_law_811 rfl ?_
    refine v_iconst (v := 2) dL_law_813 (by decide) ?_
    refine v_iadd dL_law_814 ?_
    refine v_sld hX dL_law_815 (hi 2 (by decide) (by decide)).1 (hi 2 (by decide) (by decide)).2 ?_
    refine k_L_216 dL_law_816 rfl (r_send htr hM9 hG c0 c8 (xs (i + 1).toNatClampNeg) (xs (i + 2).toNatClampNeg)) hM9.1 (by omega) (by omega) (by omega) (Nat.le_of_ble_eq_true rfl) (fun r816 M9 h9 => ?_) (fun _ _ h9 => h9.elim)
    obtain ⟨b5, pa2, w9, f9, hw9, h9, hF9⟩ := h9
    have e9 : w9 = r := i_eq.mpr (((hw9 o1 o2).resolve_right o3).uniq hIx)
    subst e9
    rw [vdGo_e hw0 hw9] at h9
    rcases h9 with ⟨-, rfl, hPa2, hC⟩ | ⟨hv2, -⟩
    rotate_left
    · exact absurd hvd hv2
    have hOA := LR1 (kd := kd) hup_s ko hF9
    have hOD := LR1 hO9 ko2 hF9
    refine v_istore_7 dL_law_819 ?_
    refine v_aload_n dL_law_821 rfl rfl ?_
    refine k_L_189 dL_law_822 rfl (r_thrown htr hC) hC.1 (by omega) (by omega) (by omega) (Nat.le_of_ble_eq_true rfl) (fun r822 M9 h9 => ?_) (fun _ _ h9 => h9.elim)
    obtain ⟨rfl, e9⟩ := h9
    subst M9
    refine v_iload dL_law_825 rfl ?_
    refine v_icmp_eq (tgt := 832) dL_law_827 (by decide) (fun h827 => ?_) (fun h827 => ?_)
    · refine v_iload dL_law_832 rfl ?_
      refine v_if_ne (tgt := 849) dL_law_834 (by decide) (fun h834 => ?_) (fun h834 => ?_)
      · exact absurd rfl h834
      · refine v_aload_n dL_law_837 rfl rfl ?_
        refine v_iconst (v := 0) dL_law_838 (by decide) ?_
        refine v_lald dL_law_839 hOA ?_
        refine v_iload dL_law_840 rfl ?_
        refine v_i2l dL_law_842 ?_
        refine v_lcmp dL_law_843 ?_
        rw [hh, lg_self]
        refine v_if_eq (tgt := 849) dL_law_844 (by decide) (fun h844 => ?_) (fun h844 => ?_)
        · refine v_goto (tgt := 3320) dL_law_849 (by decide) ?_
          refine V.wid (k' := k0 + 8) (n' := n0 + 600) (by omega) (by omega) (kk _ _ _ _ ?_)
          exact ⟨kd, q, a, e8, _, sv, sa, _, pa2, tx, tn, Ls, ea, fl, w, _, _, _, _, _, _, _, _, _, _, _, _, _, ((hP9.fs (Frm.fs (S := fun r => r = 30) hF9 rfl) (fun r h => by omega))).pa (PaS.un c0 c8 hPa hPa2), hC, hS.ch (hS.1.go hN (S := (fun j : Int32 => ([(xs (i + 1).toNatClampNeg), (xs (i + 2).toNatClampNeg)] : List Int32).getD j.toNatClampNeg 0)) (i := 7) (by decide) ⟨o1, o2, o3, o4⟩ ⟨hIx, rfl⟩) hPa2, ⟨⟨_, hOA⟩, ko⟩, ⟨_, hOD⟩, ko2⟩
        · exact absurd rfl h844
    · exact absurd rfl h827
  · skip
    have hM9 := hM.tp (hF8.t 30 (Nat.le_refl _))
    have hO8 := (hF8 out (by rw [ko]; decide)).trans hO
    have hO9 := (hF8 outD (by rw [ko2]; decide)).trans hO2
    have hr : r9 = fcI 7 (vdGo v (xs (i + 1).toNatClampNeg) (xs (i + 2).toNatClampNeg) w0) := by
      rcases vx_send hvd with ⟨x1, x2⟩ | ⟨x1, x2⟩ | ⟨x1, x2⟩ <;> rcases hE with ⟨x3, x4⟩ | ⟨x3, x4⟩ | ⟨x3, x4⟩ <;> first | exact x4.trans x2.symm | exact absurd (x3.symm.trans (hE0.trans x1)) (by decide)
    subst hr
    refine v_istore_6 dL_law_801 ?_
    refine v_aload_n dL_law_803 rfl rfl ?_
    refine v_aload_n dL_law_804 rfl rfl ?_
    refine v_iload dL_law_805 rfl ?_
    refine v_iconst (v := 1) dL_law_807 (by decide) ?_
    refine v_iadd dL_law_808 ?_
    refine v_sld hX dL_law_809 (hi 1 (by decide) (by decide)).1 (hi 1 (by decide) (by decide)).2 ?_
    refine v_aload_n dL_law_810 rfl rfl ?_
    refine v_iload dL_law_811 rfl ?_
    refine v_iconst (v := 2) dL_law_813 (by decide) ?_
    refine v_iadd dL_law_814 ?_
    refine v_sld hX dL_law_815 (hi 2 (by decide) (by decide)).1 (hi 2 (by decide) (by decide)).2 ?_
    refine k_L_216 dL_law_816 rfl (r_send htr hM9 hG c0 c8 (xs (i + 1).toNatClampNeg) (xs (i + 2).toNatClampNeg)) hM9.1 (by omega) (by omega) (by omega) (Nat.le_of_ble_eq_true rfl) (fun r816 M9 h9 => ?_) (fun _ _ h9 => h9.elim)
    obtain ⟨b5, pa2, w9, f9, hw9, h9, hF9⟩ := h9
    rw [vdGo_e hw0 hw9] at h9
    rcases h9 with ⟨hv2, -⟩ | ⟨-, rfl, pa2q, rfl, hC⟩
    · exact absurd hv2 hvd
    have hOA := LR1 (kd := kd) hO8 ko hF9
    have hOD := LR1 hO9 ko2 hF9
    refine v_istore_7 dL_law_819 ?_
    refine v_aload_n dL_law_821 rfl rfl ?_
    refine k_L_189 dL_law_822 rfl (r_thrown htr hC) hC.1 (by omega) (by omega) (by omega) (Nat.le_of_ble_eq_true rfl) (fun r822 M9 h9 => ?_) (fun _ _ h9 => h9.elim)
    obtain ⟨rfl, e9⟩ := h9
    subst M9
    refine v_iload dL_law_825 rfl ?_
    refine v_icmp_eq (tgt := 832) dL_law_827 (by decide) (fun h827 => ?_) (fun h827 => ?_)
    · refine v_iload dL_law_832 rfl ?_
      refine v_if_ne (tgt := 849) dL_law_834 (by decide) (fun h834 => ?_) (fun h834 => ?_)
      · refine v_goto (tgt := 3320) dL_law_849 (by decide) ?_
        refine V.wid (k' := k0 + 8) (n' := n0 + 600) (by omega) (by omega) (kk _ _ _ _ ?_)
        exact ⟨kd, q, a, e8, v, _, sa, _, _, tx, tn, Ls, _, _, w, _, _, _, _, _, _, _, _, _, _, _, _, _, (hP8.fs (Frm.fs (S := fun r => r = 30) hF9 rfl) (fun r h => by omega)), hC, hS.up, ⟨⟨_, hOA⟩, ko⟩, ⟨_, hOD⟩, ko2⟩
      · exact absurd h834 (by first | decide | exact fcI_nz)
    · exact absurd rfl h827
theorem dL_law_1848 : decode cL_law 1848 = .ok (.aload_n 1, 1) := by decide +kernel
theorem dL_law_1849 : decode cL_law 1849 = .ok (.aload_n 0, 1) := by decide +kernel
theorem dL_law_1850 : decode cL_law 1850 = .ok (.iload 5, 2) := by decide +kernel
theorem dL_law_1852 : decode cL_law 1852 = .ok (.iconst 1, 1) := by decide +kernel
theorem dL_law_1853 : decode cL_law 1853 = .ok (.iadd, 1) := by decide +kernel
theorem dL_law_1854 : decode cL_law 1854 = .ok (.iaload, 1) := by decide +kernel
theorem dL_law_1855 : decode cL_law 1855 = .ok (.aload_n 3, 1) := by decide +kernel
theorem dL_law_1856 : decode cL_law 1856 = .ok (.invokestatic 273, 3) := by decide +kernel
theorem dL_law_1859 : decode cL_law 1859 = .ok (.istore 6, 2) := by decide +kernel
theorem dL_law_1861 : decode cL_law 1861 = .ok (.aload_n 2, 1) := by decide +kernel
theorem dL_law_1862 : decode cL_law 1862 = .ok (.aload_n 0, 1) := by decide +kernel
theorem dL_law_1863 : decode cL_law 1863 = .ok (.iload 5, 2) := by decide +kernel
theorem dL_law_1865 : decode cL_law 1865 = .ok (.iconst 1, 1) := by decide +kernel
theorem dL_law_1866 : decode cL_law 1866 = .ok (.iadd, 1) := by decide +kernel
theorem dL_law_1867 : decode cL_law 1867 = .ok (.iaload, 1) := by decide +kernel
theorem dL_law_1868 : decode cL_law 1868 = .ok (.invokevirtual 275, 3) := by decide +kernel
theorem dL_law_1871 : decode cL_law 1871 = .ok (.istore 7, 2) := by decide +kernel
theorem dL_law_1873 : decode cL_law 1873 = .ok (.aload_n 2, 1) := by decide +kernel
theorem dL_law_1874 : decode cL_law 1874 = .ok (.invokevirtual 189, 3) := by decide +kernel
theorem dL_law_1877 : decode cL_law 1877 = .ok (.iload 6, 2) := by decide +kernel
theorem dL_law_1879 : decode cL_law 1879 = .ok (.if_icmp .eq 5, 3) := by decide +kernel
theorem dL_law_1882 : decode cL_law 1882 = .ok (.iconst 0, 1) := by decide +kernel
theorem dL_law_1883 : decode cL_law 1883 = .ok (.ireturn, 1) := by decide +kernel
theorem dL_law_1884 : decode cL_law 1884 = .ok (.iload 6, 2) := by decide +kernel
theorem dL_law_1886 : decode cL_law 1886 = .ok (.ifCond .ne 15, 3) := by decide +kernel
theorem dL_law_1889 : decode cL_law 1889 = .ok (.aload_n 3, 1) := by decide +kernel
theorem dL_law_1890 : decode cL_law 1890 = .ok (.iconst 0, 1) := by decide +kernel
theorem dL_law_1891 : decode cL_law 1891 = .ok (.laload, 1) := by decide +kernel
theorem dL_law_1892 : decode cL_law 1892 = .ok (.iload 7, 2) := by decide +kernel
theorem dL_law_1894 : decode cL_law 1894 = .ok (.i2l, 1) := by decide +kernel
theorem dL_law_1895 : decode cL_law 1895 = .ok (.lcmp, 1) := by decide +kernel
theorem dL_law_1896 : decode cL_law 1896 = .ok (.ifCond .eq 5, 3) := by decide +kernel
theorem dL_law_1899 : decode cL_law 1899 = .ok (.iconst 0, 1) := by decide +kernel
theorem dL_law_1900 : decode cL_law 1900 = .ok (.ireturn, 1) := by decide +kernel
theorem dL_law_1901 : decode cL_law 1901 = .ok (.goto 1419, 3) := by decide +kernel
set_option maxRecDepth 100000 in
set_option maxHeartbeats 4000000 in
theorem law_26 {l : Launch} {g : Nat → Nat} {nm ds : String} {tb : List ExceptionTableEntry} {L mc ms : Nat} {Po : Res → LH → Prop} {X : CX} {M : LH} {k0 n0 : Nat} (htr : l.stackTraces = false) {b SN : Nat} {xs : Nat → Int32} (hX : Sc b SN xs X) {kd : Nat → Nat} {p : Nat} {q a : Nat → Nat} {e8 : Int32 → Nat} {v : Int32 → Int32} {sv : Int32} {sa : Int32 → Int32} {ch : Int32} {pa tx : Int32 → Int32} {tn : Int32} {Ls : List Int32} {ea fl : Int32} {m : Nat} {w : Nat → Nat} {t bf he en wr dg : Int32} {b4 fr th bs li lf to : Int32 → Int32} {out outD : Nat} {N : Nat} (hP : Pg kd M p q a e8 v sv sa ch pa tx tn Ls ea fl) (hM : Md kd 30 M m w t ch ea fl sv bf tn he en (nI Ls.length) wr dg v b4 sa pa fr th bs tx li lf to) (hS : Lw N v sv sa ch pa tn Ls ea fl li) (hN : N ≤ 512) {h0 : Nat → Int64} (hO : M out = some (la 1 h0)) (ko : kd out = 31) {h2 : Nat → UInt64} (hO2 : M outD = some (da 1 h2)) (ko2 : kd outD = 31) {i : Int32} (hi : ∀ j : Int32, 1 ≤ j → j ≤ 5 → 0 ≤ i + j ∧ (i + j).toNatClampNeg < SN) (hL : 30 ≤ L) (hk : k0 + 8 ≤ mc) (hn : n0 + 600 ≤ ms) {z6 z7 z8 : Option Value} (kk : ∀ (M' : LH) (z6 z7 z8 : Option Value), LI p m out outD (N + 1) M' → V l g ⟨"SledgePostLaw", nm, ds⟩ cL_law (some .boolean) tb L mc ms Po X M' (k0 + 8) (n0 + 600) 3320 [some (.ref b), some (.ref p), some (.ref m), some (.ref out), some (.ref outD), some (.int i), z6, z7, z8] []) : V l g ⟨"SledgePostLaw", nm, ds⟩ cL_law (some .boolean) tb L mc ms Po X M k0 n0 1848 [some (.ref b), some (.ref p), some (.ref m), some (.ref out), some (.ref outD), some (.int i), z6, z7, z8] [] := by
  obtain ⟨hG, hSy, hv4⟩ := hS.1
  obtain ⟨-, -, -, -, ⟨tn0, tn60⟩, ⟨ea1, fl1⟩, ⟨hTl, hLs⟩, c0, c8⟩ := _root_.id hS
  obtain ⟨h461, h46⟩ := hS.1.r hN
  obtain ⟨hs0, old0, ⟨hpO, -⟩, -⟩ := _root_.id hP
  obtain ⟨ddx, hdd⟩ := ddx_ex hG (sd v (xs (i + 1).toNatClampNeg) 1)
  refine v_aload_n dL_law_1848 rfl rfl ?_
  refine v_aload_n dL_law_1849 rfl rfl ?_
  refine v_iload dL_law_1850 rfl ?_
  refine v_iconst (v := 1) dL_law_1852 (by decide) ?_
  refine v_iadd dL_law_1853 ?_
  refine v_sld hX dL_law_1854 (hi 1 (by decide) (by decide)).1 (hi 1 (by decide) (by decide)).2 ?_
  refine v_aload_n dL_law_1855 rfl rfl ?_
  refine kl_273 dL_law_1856 rfl (w_L_roundTrip htr (f_roundTrip htr hP (xs (i + 1).toNatClampNeg) hSy) hpO (fun r M9 h9 => ⟨_, (h9.2.2.2.2 out (by rw [ko]; decide)).trans hO⟩) (fun E M9 h9 => h9.1.elim (fun z => Or.inl z.2) (fun z => Or.inr z.2.2))) (by omega) (by omega) (by omega) (Nat.le_of_ble_eq_true rfl) (fun r9 M9 h9 => ?_) (fun _ _ h9 => h9.elim)
  rcases h9 with ⟨rfl, r, M8, h8, ⟨hc1, hc2, ⟨ff, hff, hq⟩, hP8, hF8⟩, hh, rfl⟩ | ⟨E, ⟨hx, hP8, hF8⟩, hE⟩
  · skip
    have f31 : Fs kd (fun r => r = 31) M8 (hup M8 out (la 1 h8)) := fun x hx => hup_n (fun z => hx (by rw [z]; exact ko))
    have hP9 := hP8.fs f31 (fun r h => by omega)
    have hM9 := (hM.tp (hF8.t 30 (Nat.le_refl _))).tp (f31.tp (by decide))
    have hO9 := up_k (e' := la 1 h8) ((hF8 outD (by rw [ko2]; decide)).trans hO2) ((hF8 out (by rw [ko]; decide)).trans hO) da_la
    refine v_istore_6 dL_law_1859 ?_
    refine v_aload_n dL_law_1861 rfl rfl ?_
    refine v_aload_n dL_law_1862 rfl rfl ?_
    refine v_iload dL_law_1863 rfl ?_
    refine v_iconst (v := 1) dL_law_1865 (by decide) ?_
    refine v_iadd dL_law_1866 ?_
    refine v_sld hX dL_law_1867 (hi 1 (by decide) (by decide)).1 (hi 1 (by decide) (by decide)).2 ?_
    refine k_L_275 dL_law_1868 rfl (r_roundTrip htr hM9 hG hSy (xs (i + 1).toNatClampNeg) (dd := dF ff) (fun _ a b ha hb => hff a b ha.1 ha.2.1 hb.1 hb.2.1)) hM9.1 (by omega) (by omega) (by omega) (Nat.le_of_ble_eq_true rfl) (fun r1868 M9 h9 => ?_) (fun _ _ h9 => h9.elim)
    obtain ⟨y1, y2, y3, h9, hF9⟩ := h9
    rcases h9 with ⟨-, -, hq1, hC⟩ | ⟨-, hn, -⟩ | ⟨hn, -⟩
    rotate_left
    · exact absurd hc2 hn
    · exact absurd hc1 hn
    obtain rfl := i_eq.mpr (hq.uniq hq1)
    have hOA := LR1 (kd := kd) hup_s ko hF9
    have hOD := LR1 hO9 ko2 hF9
    refine v_istore_7 dL_law_1871 ?_
    refine v_aload_n dL_law_1873 rfl rfl ?_
    refine k_L_189 dL_law_1874 rfl (r_thrown htr hC) hC.1 (by omega) (by omega) (by omega) (Nat.le_of_ble_eq_true rfl) (fun r1874 M9 h9 => ?_) (fun _ _ h9 => h9.elim)
    obtain ⟨rfl, e9⟩ := h9
    subst M9
    refine v_iload dL_law_1877 rfl ?_
    refine v_icmp_eq (tgt := 1884) dL_law_1879 (by decide) (fun h1879 => ?_) (fun h1879 => ?_)
    · refine v_iload dL_law_1884 rfl ?_
      refine v_if_ne (tgt := 1901) dL_law_1886 (by decide) (fun h1886 => ?_) (fun h1886 => ?_)
      · exact absurd rfl h1886
      · refine v_aload_n dL_law_1889 rfl rfl ?_
        refine v_iconst (v := 0) dL_law_1890 (by decide) ?_
        refine v_lald dL_law_1891 hOA ?_
        refine v_iload dL_law_1892 rfl ?_
        refine v_i2l dL_law_1894 ?_
        refine v_lcmp dL_law_1895 ?_
        rw [hh, lg_self]
        refine v_if_eq (tgt := 1901) dL_law_1896 (by decide) (fun h1896 => ?_) (fun h1896 => ?_)
        · refine v_goto (tgt := 3320) dL_law_1901 (by decide) ?_
          refine V.wid (k' := k0 + 8) (n' := n0 + 600) (by omega) (by omega) (kk _ _ _ _ ?_)
          exact ⟨kd, q, a, e8, v, _, sa, _, pa, tx, tn, Ls, _, _, w, _, _, _, _, _, _, _, _, _, _, _, _, _, (hP9.fs (Frm.fs (S := fun r => r = 30) hF9 rfl) (fun r h => by omega)), hC, hS.up, ⟨⟨_, hOA⟩, ko⟩, ⟨_, hOD⟩, ko2⟩
        · exact absurd rfl h1896
    · exact absurd rfl h1879
  · skip
    have hM9 := hM.tp (hF8.t 30 (Nat.le_refl _))
    have hO8 := (hF8 out (by rw [ko]; decide)).trans hO
    have hO9 := (hF8 outD (by rw [ko2]; decide)).trans hO2
    rcases hx with ⟨hc1, hE0⟩ | ⟨hc1, hc2, hE0⟩
    · obtain ⟨-, rfl⟩ := hE.resolve_right (fun z => absurd (hE0.symm.trans z.1) (by decide))
      refine v_istore_6 dL_law_1859 ?_
      refine v_aload_n dL_law_1861 rfl rfl ?_
      refine v_aload_n dL_law_1862 rfl rfl ?_
      refine v_iload dL_law_1863 rfl ?_
      refine v_iconst (v := 1) dL_law_1865 (by decide) ?_
      refine v_iadd dL_law_1866 ?_
      refine v_sld hX dL_law_1867 (hi 1 (by decide) (by decide)).1 (hi 1 (by decide) (by decide)).2 ?_
      refine k_L_275 dL_law_1868 rfl (r_roundTrip htr hM9 hG hSy (xs (i + 1).toNatClampNeg) (dd := ddx) (fun _ a b ha hb => hdd a b ha hb)) hM9.1 (by omega) (by omega) (by omega) (Nat.le_of_ble_eq_true rfl) (fun r1868 M9 h9 => ?_) (fun _ _ h9 => h9.elim)
      obtain ⟨y1, y2, y3, h9, hF9⟩ := h9
      rcases h9 with ⟨hn, -⟩ | ⟨hn, -⟩ | ⟨-, rfl, hC⟩
      · exact absurd hn hc1
      · exact absurd hn hc1
      have hOA := LR1 (kd := kd) hO8 ko hF9
      have hOD := LR1 hO9 ko2 hF9
      refine v_istore_7 dL_law_1871 ?_
      refine v_aload_n dL_law_1873 rfl rfl ?_
      refine k_L_189 dL_law_1874 rfl (r_thrown htr hC) hC.1 (by omega) (by omega) (by omega) (Nat.le_of_ble_eq_true rfl) (fun r1874 M9 h9 => ?_) (fun _ _ h9 => h9.elim)
      obtain ⟨rfl, e9⟩ := h9
      subst M9
      refine v_iload dL_law_1877 rfl ?_
      refine v_icmp_eq (tgt := 1884) dL_law_1879 (by decide) (fun h1879 => ?_) (fun h1879 => ?_)
      · refine v_iload dL_law_1884 rfl ?_
        refine v_if_ne (tgt := 1901) dL_law_1886 (by decide) (fun h1886 => ?_) (fun h1886 => ?_)
        · refine v_goto (tgt := 3320) dL_law_1901 (by decide) ?_
          refine V.wid (k' := k0 + 8) (n' := n0 + 600) (by omega) (by omega) (kk _ _ _ _ ?_)
          exact ⟨kd, q, a, e8, v, _, sa, _, pa, tx, tn, Ls, _, _, w, _, _, _, _, _, _, _, _, _, _, _, _, _, (hP8.fs (Frm.fs (S := fun r => r = 30) hF9 rfl) (fun r h => by omega)), hC, hS.up, ⟨⟨_, hOA⟩, ko⟩, ⟨_, hOD⟩, ko2⟩
        · exact absurd h1886 (by decide)
      · exact absurd rfl h1879
    · obtain ⟨-, rfl⟩ := hE.resolve_left (fun z => absurd (hE0.symm.trans z.1) (by decide))
      refine v_istore_6 dL_law_1859 ?_
      refine v_aload_n dL_law_1861 rfl rfl ?_
      refine v_aload_n dL_law_1862 rfl rfl ?_
      refine v_iload dL_law_1863 rfl ?_
      refine v_iconst (v := 1) dL_law_1865 (by decide) ?_
      refine v_iadd dL_law_1866 ?_
      refine v_sld hX dL_law_1867 (hi 1 (by decide) (by decide)).1 (hi 1 (by decide) (by decide)).2 ?_
      refine k_L_275 dL_law_1868 rfl (r_roundTrip htr hM9 hG hSy (xs (i + 1).toNatClampNeg) (dd := ddx) (fun _ a b ha hb => hdd a b ha hb)) hM9.1 (by omega) (by omega) (by omega) (Nat.le_of_ble_eq_true rfl) (fun r1868 M9 h9 => ?_) (fun _ _ h9 => h9.elim)
      obtain ⟨y1, y2, y3, h9, hF9⟩ := h9
      rcases h9 with ⟨-, hn, -⟩ | ⟨-, -, rfl, hC⟩ | ⟨hn, -⟩
      · first | exact absurd hc2 hn | exact absurd hn hc2
      rotate_left
      · exact absurd hc1 hn
      have hOA := LR1 (kd := kd) hO8 ko hF9
      have hOD := LR1 hO9 ko2 hF9
      refine v_istore_7 dL_law_1871 ?_
      refine v_aload_n dL_law_1873 rfl rfl ?_
      refine k_L_189 dL_law_1874 rfl (r_thrown htr hC) hC.1 (by omega) (by omega) (by omega) (Nat.le_of_ble_eq_true rfl) (fun r1874 M9 h9 => ?_) (fun _ _ h9 => h9.elim)
      obtain ⟨rfl, e9⟩ := h9
      subst M9
      refine v_iload dL_law_1877 rfl ?_
      refine v_icmp_eq (tgt := 1884) dL_law_1879 (by decide) (fun h1879 => ?_) (fun h1879 => ?_)
      · refine v_iload dL_law_1884 rfl ?_
        refine v_if_ne (tgt := 1901) dL_law_1886 (by decide) (fun h1886 => ?_) (fun h1886 => ?_)
        · refine v_goto (tgt := 3320) dL_law_1901 (by decide) ?_
          refine V.wid (k' := k0 + 8) (n' := n0 + 600) (by omega) (by omega) (kk _ _ _ _ ?_)
          exact ⟨kd, q, a, e8, v, _, sa, _, pa, tx, tn, Ls, _, _, w, _, _, _, _, _, _, _, _, _, _, _, _, _, (hP8.fs (Frm.fs (S := fun r => r = 30) hF9 rfl) (fun r h => by omega)), hC, hS.up, ⟨⟨_, hOA⟩, ko⟩, ⟨_, hOD⟩, ko2⟩
        · exact absurd h1886 (by decide)
      · exact absurd rfl h1879
theorem dL_law_1904 : decode cL_law 1904 = .ok (.aload_n 1, 1) := by decide +kernel
theorem dL_law_1905 : decode cL_law 1905 = .ok (.aload_n 0, 1) := by decide +kernel
theorem dL_law_1906 : decode cL_law 1906 = .ok (.iload 5, 2) := by decide +kernel
theorem dL_law_1908 : decode cL_law 1908 = .ok (.iconst 1, 1) := by decide +kernel
theorem dL_law_1909 : decode cL_law 1909 = .ok (.iadd, 1) := by decide +kernel
theorem dL_law_1910 : decode cL_law 1910 = .ok (.iaload, 1) := by decide +kernel
theorem dL_law_1911 : decode cL_law 1911 = .ok (.aload_n 3, 1) := by decide +kernel
theorem dL_law_1912 : decode cL_law 1912 = .ok (.invokestatic 276, 3) := by decide +kernel
theorem dL_law_1915 : decode cL_law 1915 = .ok (.istore 6, 2) := by decide +kernel
theorem dL_law_1917 : decode cL_law 1917 = .ok (.aload_n 2, 1) := by decide +kernel
theorem dL_law_1918 : decode cL_law 1918 = .ok (.aload_n 0, 1) := by decide +kernel
theorem dL_law_1919 : decode cL_law 1919 = .ok (.iload 5, 2) := by decide +kernel
theorem dL_law_1921 : decode cL_law 1921 = .ok (.iconst 1, 1) := by decide +kernel
theorem dL_law_1922 : decode cL_law 1922 = .ok (.iadd, 1) := by decide +kernel
theorem dL_law_1923 : decode cL_law 1923 = .ok (.iaload, 1) := by decide +kernel
theorem dL_law_1924 : decode cL_law 1924 = .ok (.invokevirtual 278, 3) := by decide +kernel
theorem dL_law_1927 : decode cL_law 1927 = .ok (.istore 7, 2) := by decide +kernel
theorem dL_law_1929 : decode cL_law 1929 = .ok (.aload_n 2, 1) := by decide +kernel
theorem dL_law_1930 : decode cL_law 1930 = .ok (.invokevirtual 189, 3) := by decide +kernel
theorem dL_law_1933 : decode cL_law 1933 = .ok (.iload 6, 2) := by decide +kernel
theorem dL_law_1935 : decode cL_law 1935 = .ok (.if_icmp .eq 5, 3) := by decide +kernel
theorem dL_law_1938 : decode cL_law 1938 = .ok (.iconst 0, 1) := by decide +kernel
theorem dL_law_1939 : decode cL_law 1939 = .ok (.ireturn, 1) := by decide +kernel
theorem dL_law_1940 : decode cL_law 1940 = .ok (.iload 6, 2) := by decide +kernel
theorem dL_law_1942 : decode cL_law 1942 = .ok (.ifCond .ne 15, 3) := by decide +kernel
theorem dL_law_1945 : decode cL_law 1945 = .ok (.aload_n 3, 1) := by decide +kernel
theorem dL_law_1946 : decode cL_law 1946 = .ok (.iconst 0, 1) := by decide +kernel
theorem dL_law_1947 : decode cL_law 1947 = .ok (.laload, 1) := by decide +kernel
theorem dL_law_1948 : decode cL_law 1948 = .ok (.iload 7, 2) := by decide +kernel
theorem dL_law_1950 : decode cL_law 1950 = .ok (.i2l, 1) := by decide +kernel
theorem dL_law_1951 : decode cL_law 1951 = .ok (.lcmp, 1) := by decide +kernel
theorem dL_law_1952 : decode cL_law 1952 = .ok (.ifCond .eq 5, 3) := by decide +kernel
theorem dL_law_1955 : decode cL_law 1955 = .ok (.iconst 0, 1) := by decide +kernel
theorem dL_law_1956 : decode cL_law 1956 = .ok (.ireturn, 1) := by decide +kernel
theorem dL_law_1957 : decode cL_law 1957 = .ok (.goto 1363, 3) := by decide +kernel
set_option maxRecDepth 100000 in
set_option maxHeartbeats 4000000 in
theorem law_27 {l : Launch} {g : Nat → Nat} {nm ds : String} {tb : List ExceptionTableEntry} {L mc ms : Nat} {Po : Res → LH → Prop} {X : CX} {M : LH} {k0 n0 : Nat} (htr : l.stackTraces = false) {b SN : Nat} {xs : Nat → Int32} (hX : Sc b SN xs X) {kd : Nat → Nat} {p : Nat} {q a : Nat → Nat} {e8 : Int32 → Nat} {v : Int32 → Int32} {sv : Int32} {sa : Int32 → Int32} {ch : Int32} {pa tx : Int32 → Int32} {tn : Int32} {Ls : List Int32} {ea fl : Int32} {m : Nat} {w : Nat → Nat} {t bf he en wr dg : Int32} {b4 fr th bs li lf to : Int32 → Int32} {out outD : Nat} {N : Nat} (hP : Pg kd M p q a e8 v sv sa ch pa tx tn Ls ea fl) (hM : Md kd 30 M m w t ch ea fl sv bf tn he en (nI Ls.length) wr dg v b4 sa pa fr th bs tx li lf to) (hS : Lw N v sv sa ch pa tn Ls ea fl li) (hN : N ≤ 512) {h0 : Nat → Int64} (hO : M out = some (la 1 h0)) (ko : kd out = 31) {h2 : Nat → UInt64} (hO2 : M outD = some (da 1 h2)) (ko2 : kd outD = 31) {i : Int32} (hi : ∀ j : Int32, 1 ≤ j → j ≤ 5 → 0 ≤ i + j ∧ (i + j).toNatClampNeg < SN) (hL : 30 ≤ L) (hk : k0 + 8 ≤ mc) (hn : n0 + 600 ≤ ms) {z6 z7 z8 : Option Value} (kk : ∀ (M' : LH) (z6 z7 z8 : Option Value), LI p m out outD (N + 1) M' → V l g ⟨"SledgePostLaw", nm, ds⟩ cL_law (some .boolean) tb L mc ms Po X M' (k0 + 8) (n0 + 600) 3320 [some (.ref b), some (.ref p), some (.ref m), some (.ref out), some (.ref outD), some (.int i), z6, z7, z8] []) : V l g ⟨"SledgePostLaw", nm, ds⟩ cL_law (some .boolean) tb L mc ms Po X M k0 n0 1904 [some (.ref b), some (.ref p), some (.ref m), some (.ref out), some (.ref outD), some (.int i), z6, z7, z8] [] := by
  obtain ⟨hG, hSy, hv4⟩ := hS.1
  obtain ⟨-, -, -, -, ⟨tn0, tn60⟩, ⟨ea1, fl1⟩, ⟨hTl, hLs⟩, c0, c8⟩ := _root_.id hS
  obtain ⟨h461, h46⟩ := hS.1.r hN
  obtain ⟨hs0, old0, ⟨hpO, -⟩, -⟩ := _root_.id hP
  obtain ⟨ddx, hdd⟩ := ddx_ex hG (sd v (xs (i + 1).toNatClampNeg) 1)
  refine v_aload_n dL_law_1904 rfl rfl ?_
  refine v_aload_n dL_law_1905 rfl rfl ?_
  refine v_iload dL_law_1906 rfl ?_
  refine v_iconst (v := 1) dL_law_1908 (by decide) ?_
  refine v_iadd dL_law_1909 ?_
  refine v_sld hX dL_law_1910 (hi 1 (by decide) (by decide)).1 (hi 1 (by decide) (by decide)).2 ?_
  refine v_aload_n dL_law_1911 rfl rfl ?_
  refine kl_276 dL_law_1912 rfl (w_L_roundTripByOrders htr (f_roundTripByOrders htr hP (xs (i + 1).toNatClampNeg) hSy) hpO (fun r M9 h9 => ⟨_, (h9.2.2.2.2 out (by rw [ko]; decide)).trans hO⟩) (fun E M9 h9 => h9.1.elim (fun z => Or.inl z.2) (fun z => Or.inr z.2.2))) (by omega) (by omega) (by omega) (Nat.le_of_ble_eq_true rfl) (fun r9 M9 h9 => ?_) (fun _ _ h9 => h9.elim)
  rcases h9 with ⟨rfl, r, M8, h8, ⟨hc1, hc2, ⟨ff, hff, hq⟩, hP8, hF8⟩, hh, rfl⟩ | ⟨E, ⟨hx, hP8, hF8⟩, hE⟩
  · skip
    have f31 : Fs kd (fun r => r = 31) M8 (hup M8 out (la 1 h8)) := fun x hx => hup_n (fun z => hx (by rw [z]; exact ko))
    have hP9 := hP8.fs f31 (fun r h => by omega)
    have hM9 := (hM.tp (hF8.t 30 (Nat.le_refl _))).tp (f31.tp (by decide))
    have hO9 := up_k (e' := la 1 h8) ((hF8 outD (by rw [ko2]; decide)).trans hO2) ((hF8 out (by rw [ko]; decide)).trans hO) da_la
    refine v_istore_6 dL_law_1915 ?_
    refine v_aload_n dL_law_1917 rfl rfl ?_
    refine v_aload_n dL_law_1918 rfl rfl ?_
    refine v_iload dL_law_1919 rfl ?_
    refine v_iconst (v := 1) dL_law_1921 (by decide) ?_
    refine v_iadd dL_law_1922 ?_
    refine v_sld hX dL_law_1923 (hi 1 (by decide) (by decide)).1 (hi 1 (by decide) (by decide)).2 ?_
    refine k_L_278 dL_law_1924 rfl (r_roundTripByOrders htr hM9 hG hSy (xs (i + 1).toNatClampNeg) (dd := dF ff) (fun _ a b ha hb => hff a b ha.1 ha.2.1 hb.1 hb.2.1)) hM9.1 (by omega) (by omega) (by omega) (Nat.le_of_ble_eq_true rfl) (fun r1924 M9 h9 => ?_) (fun _ _ h9 => h9.elim)
    obtain ⟨y1, y2, y3, h9, hF9⟩ := h9
    rcases h9 with ⟨-, -, hq1, hC⟩ | ⟨-, hn, -⟩ | ⟨hn, -⟩
    rotate_left
    · exact absurd hc2 hn
    · exact absurd hc1 hn
    obtain rfl := i_eq.mpr (hq.uniq hq1)
    have hOA := LR1 (kd := kd) hup_s ko hF9
    have hOD := LR1 hO9 ko2 hF9
    refine v_istore_7 dL_law_1927 ?_
    refine v_aload_n dL_law_1929 rfl rfl ?_
    refine k_L_189 dL_law_1930 rfl (r_thrown htr hC) hC.1 (by omega) (by omega) (by omega) (Nat.le_of_ble_eq_true rfl) (fun r1930 M9 h9 => ?_) (fun _ _ h9 => h9.elim)
    obtain ⟨rfl, e9⟩ := h9
    subst M9
    refine v_iload dL_law_1933 rfl ?_
    refine v_icmp_eq (tgt := 1940) dL_law_1935 (by decide) (fun h1935 => ?_) (fun h1935 => ?_)
    · refine v_iload dL_law_1940 rfl ?_
      refine v_if_ne (tgt := 1957) dL_law_1942 (by decide) (fun h1942 => ?_) (fun h1942 => ?_)
      · exact absurd rfl h1942
      · refine v_aload_n dL_law_1945 rfl rfl ?_
        refine v_iconst (v := 0) dL_law_1946 (by decide) ?_
        refine v_lald dL_law_1947 hOA ?_
        refine v_iload dL_law_1948 rfl ?_
        refine v_i2l dL_law_1950 ?_
        refine v_lcmp dL_law_1951 ?_
        rw [hh, lg_self]
        refine v_if_eq (tgt := 1957) dL_law_1952 (by decide) (fun h1952 => ?_) (fun h1952 => ?_)
        · refine v_goto (tgt := 3320) dL_law_1957 (by decide) ?_
          refine V.wid (k' := k0 + 8) (n' := n0 + 600) (by omega) (by omega) (kk _ _ _ _ ?_)
          exact ⟨kd, q, a, e8, v, _, sa, _, pa, tx, tn, Ls, _, _, w, _, _, _, _, _, _, _, _, _, _, _, _, _, (hP9.fs (Frm.fs (S := fun r => r = 30) hF9 rfl) (fun r h => by omega)), hC, hS.up, ⟨⟨_, hOA⟩, ko⟩, ⟨_, hOD⟩, ko2⟩
        · exact absurd rfl h1952
    · exact absurd rfl h1935
  · skip
    have hM9 := hM.tp (hF8.t 30 (Nat.le_refl _))
    have hO8 := (hF8 out (by rw [ko]; decide)).trans hO
    have hO9 := (hF8 outD (by rw [ko2]; decide)).trans hO2
    rcases hx with ⟨hc1, hE0⟩ | ⟨hc1, hc2, hE0⟩
    · obtain ⟨-, rfl⟩ := hE.resolve_right (fun z => absurd (hE0.symm.trans z.1) (by decide))
      refine v_istore_6 dL_law_1915 ?_
      refine v_aload_n dL_law_1917 rfl rfl ?_
      refine v_aload_n dL_law_1918 rfl rfl ?_
      refine v_iload dL_law_1919 rfl ?_
      refine v_iconst (v := 1) dL_law_1921 (by decide) ?_
      refine v_iadd dL_law_1922 ?_
      refine v_sld hX dL_law_1923 (hi 1 (by decide) (by decide)).1 (hi 1 (by decide) (by decide)).2 ?_
      refine k_L_278 dL_law_1924 rfl (r_roundTripByOrders htr hM9 hG hSy (xs (i + 1).toNatClampNeg) (dd := ddx) (fun _ a b ha hb => hdd a b ha hb)) hM9.1 (by omega) (by omega) (by omega) (Nat.le_of_ble_eq_true rfl) (fun r1924 M9 h9 => ?_) (fun _ _ h9 => h9.elim)
      obtain ⟨y1, y2, y3, h9, hF9⟩ := h9
      rcases h9 with ⟨hn, -⟩ | ⟨hn, -⟩ | ⟨-, rfl, hC⟩
      · exact absurd hn hc1
      · exact absurd hn hc1
      have hOA := LR1 (kd := kd) hO8 ko hF9
      have hOD := LR1 hO9 ko2 hF9
      refine v_istore_7 dL_law_1927 ?_
      refine v_aload_n dL_law_1929 rfl rfl ?_
      refine k_L_189 dL_law_1930 rfl (r_thrown htr hC) hC.1 (by omega) (by omega) (by omega) (Nat.le_of_ble_eq_true rfl) (fun r1930 M9 h9 => ?_) (fun _ _ h9 => h9.elim)
      obtain ⟨rfl, e9⟩ := h9
      subst M9
      refine v_iload dL_law_1933 rfl ?_
      refine v_icmp_eq (tgt := 1940) dL_law_1935 (by decide) (fun h1935 => ?_) (fun h1935 => ?_)
      · refine v_iload dL_law_1940 rfl ?_
        refine v_if_ne (tgt := 1957) dL_law_1942 (by decide) (fun h1942 => ?_) (fun h1942 => ?_)
        · refine v_goto (tgt := 3320) dL_law_1957 (by decide) ?_
          refine V.wid (k' := k0 + 8) (n' := n0 + 600) (by omega) (by omega) (kk _ _ _ _ ?_)
          exact ⟨kd, q, a, e8, v, _, sa, _, pa, tx, tn, Ls, _, _, w, _, _, _, _, _, _, _, _, _, _, _, _, _, (hP8.fs (Frm.fs (S := fun r => r = 30) hF9 rfl) (fun r h => by omega)), hC, hS.up, ⟨⟨_, hOA⟩, ko⟩, ⟨_, hOD⟩, ko2⟩
        · exact absurd h1942 (by decide)
      · exact absurd rfl h1935
    · obtain ⟨-, rfl⟩ := hE.resolve_left (fun z => absurd (hE0.symm.trans z.1) (by decide))
      refine v_istore_6 dL_law_1915 ?_
      refine v_aload_n dL_law_1917 rfl rfl ?_
      refine v_aload_n dL_law_1918 rfl rfl ?_
      refine v_iload dL_law_1919 rfl ?_
      refine v_iconst (v := 1) dL_law_1921 (by decide) ?_
      refine v_iadd dL_law_1922 ?_
      refine v_sld hX dL_law_1923 (hi 1 (by decide) (by decide)).1 (hi 1 (by decide) (by decide)).2 ?_
      refine k_L_278 dL_law_1924 rfl (r_roundTripByOrders htr hM9 hG hSy (xs (i + 1).toNatClampNeg) (dd := ddx) (fun _ a b ha hb => hdd a b ha hb)) hM9.1 (by omega) (by omega) (by omega) (Nat.le_of_ble_eq_true rfl) (fun r1924 M9 h9 => ?_) (fun _ _ h9 => h9.elim)
      obtain ⟨y1, y2, y3, h9, hF9⟩ := h9
      rcases h9 with ⟨-, hn, -⟩ | ⟨-, -, rfl, hC⟩ | ⟨hn, -⟩
      · first | exact absurd hc2 hn | exact absurd hn hc2
      rotate_left
      · exact absurd hc1 hn
      have hOA := LR1 (kd := kd) hO8 ko hF9
      have hOD := LR1 hO9 ko2 hF9
      refine v_istore_7 dL_law_1927 ?_
      refine v_aload_n dL_law_1929 rfl rfl ?_
      refine k_L_189 dL_law_1930 rfl (r_thrown htr hC) hC.1 (by omega) (by omega) (by omega) (Nat.le_of_ble_eq_true rfl) (fun r1930 M9 h9 => ?_) (fun _ _ h9 => h9.elim)
      obtain ⟨rfl, e9⟩ := h9
      subst M9
      refine v_iload dL_law_1933 rfl ?_
      refine v_icmp_eq (tgt := 1940) dL_law_1935 (by decide) (fun h1935 => ?_) (fun h1935 => ?_)
      · refine v_iload dL_law_1940 rfl ?_
        refine v_if_ne (tgt := 1957) dL_law_1942 (by decide) (fun h1942 => ?_) (fun h1942 => ?_)
        · refine v_goto (tgt := 3320) dL_law_1957 (by decide) ?_
          refine V.wid (k' := k0 + 8) (n' := n0 + 600) (by omega) (by omega) (kk _ _ _ _ ?_)
          exact ⟨kd, q, a, e8, v, _, sa, _, pa, tx, tn, Ls, _, _, w, _, _, _, _, _, _, _, _, _, _, _, _, _, (hP8.fs (Frm.fs (S := fun r => r = 30) hF9 rfl) (fun r h => by omega)), hC, hS.up, ⟨⟨_, hOA⟩, ko⟩, ⟨_, hOD⟩, ko2⟩
        · exact absurd h1942 (by decide)
      · exact absurd rfl h1935
theorem dL_law_2428 : decode cL_law 2428 = .ok (.aload_n 1, 1) := by decide +kernel
theorem dL_law_2429 : decode cL_law 2429 = .ok (.aload_n 0, 1) := by decide +kernel
theorem dL_law_2430 : decode cL_law 2430 = .ok (.iload 5, 2) := by decide +kernel
theorem dL_law_2432 : decode cL_law 2432 = .ok (.iconst 1, 1) := by decide +kernel
theorem dL_law_2433 : decode cL_law 2433 = .ok (.iadd, 1) := by decide +kernel
theorem dL_law_2434 : decode cL_law 2434 = .ok (.iaload, 1) := by decide +kernel
theorem dL_law_2435 : decode cL_law 2435 = .ok (.aload_n 3, 1) := by decide +kernel
theorem dL_law_2436 : decode cL_law 2436 = .ok (.invokestatic 307, 3) := by decide +kernel
theorem dL_law_2439 : decode cL_law 2439 = .ok (.istore 6, 2) := by decide +kernel
theorem dL_law_2441 : decode cL_law 2441 = .ok (.aload_n 2, 1) := by decide +kernel
theorem dL_law_2442 : decode cL_law 2442 = .ok (.aload_n 0, 1) := by decide +kernel
theorem dL_law_2443 : decode cL_law 2443 = .ok (.iload 5, 2) := by decide +kernel
theorem dL_law_2445 : decode cL_law 2445 = .ok (.iconst 1, 1) := by decide +kernel
theorem dL_law_2446 : decode cL_law 2446 = .ok (.iadd, 1) := by decide +kernel
theorem dL_law_2447 : decode cL_law 2447 = .ok (.iaload, 1) := by decide +kernel
theorem dL_law_2448 : decode cL_law 2448 = .ok (.invokevirtual 309, 3) := by decide +kernel
theorem dL_law_2451 : decode cL_law 2451 = .ok (.istore 7, 2) := by decide +kernel
theorem dL_law_2453 : decode cL_law 2453 = .ok (.aload_n 2, 1) := by decide +kernel
theorem dL_law_2454 : decode cL_law 2454 = .ok (.invokevirtual 189, 3) := by decide +kernel
theorem dL_law_2457 : decode cL_law 2457 = .ok (.iload 6, 2) := by decide +kernel
theorem dL_law_2459 : decode cL_law 2459 = .ok (.if_icmp .eq 5, 3) := by decide +kernel
theorem dL_law_2462 : decode cL_law 2462 = .ok (.iconst 0, 1) := by decide +kernel
theorem dL_law_2463 : decode cL_law 2463 = .ok (.ireturn, 1) := by decide +kernel
theorem dL_law_2464 : decode cL_law 2464 = .ok (.iload 6, 2) := by decide +kernel
theorem dL_law_2466 : decode cL_law 2466 = .ok (.ifCond .ne 15, 3) := by decide +kernel
theorem dL_law_2469 : decode cL_law 2469 = .ok (.aload_n 3, 1) := by decide +kernel
theorem dL_law_2470 : decode cL_law 2470 = .ok (.iconst 0, 1) := by decide +kernel
theorem dL_law_2471 : decode cL_law 2471 = .ok (.laload, 1) := by decide +kernel
theorem dL_law_2472 : decode cL_law 2472 = .ok (.iload 7, 2) := by decide +kernel
theorem dL_law_2474 : decode cL_law 2474 = .ok (.i2l, 1) := by decide +kernel
theorem dL_law_2475 : decode cL_law 2475 = .ok (.lcmp, 1) := by decide +kernel
theorem dL_law_2476 : decode cL_law 2476 = .ok (.ifCond .eq 5, 3) := by decide +kernel
theorem dL_law_2479 : decode cL_law 2479 = .ok (.iconst 0, 1) := by decide +kernel
theorem dL_law_2480 : decode cL_law 2480 = .ok (.ireturn, 1) := by decide +kernel
theorem dL_law_2481 : decode cL_law 2481 = .ok (.goto 839, 3) := by decide +kernel
set_option maxRecDepth 100000 in
set_option maxHeartbeats 4000000 in
theorem law_37 {l : Launch} {g : Nat → Nat} {nm ds : String} {tb : List ExceptionTableEntry} {L mc ms : Nat} {Po : Res → LH → Prop} {X : CX} {M : LH} {k0 n0 : Nat} (htr : l.stackTraces = false) {b SN : Nat} {xs : Nat → Int32} (hX : Sc b SN xs X) {kd : Nat → Nat} {p : Nat} {q a : Nat → Nat} {e8 : Int32 → Nat} {v : Int32 → Int32} {sv : Int32} {sa : Int32 → Int32} {ch : Int32} {pa tx : Int32 → Int32} {tn : Int32} {Ls : List Int32} {ea fl : Int32} {m : Nat} {w : Nat → Nat} {t bf he en wr dg : Int32} {b4 fr th bs li lf to : Int32 → Int32} {out outD : Nat} {N : Nat} (hP : Pg kd M p q a e8 v sv sa ch pa tx tn Ls ea fl) (hM : Md kd 30 M m w t ch ea fl sv bf tn he en (nI Ls.length) wr dg v b4 sa pa fr th bs tx li lf to) (hS : Lw N v sv sa ch pa tn Ls ea fl li) (hN : N ≤ 512) {h0 : Nat → Int64} (hO : M out = some (la 1 h0)) (ko : kd out = 31) {h2 : Nat → UInt64} (hO2 : M outD = some (da 1 h2)) (ko2 : kd outD = 31) {i : Int32} (hi : ∀ j : Int32, 1 ≤ j → j ≤ 5 → 0 ≤ i + j ∧ (i + j).toNatClampNeg < SN) (hL : 30 ≤ L) (hk : k0 + 8 ≤ mc) (hn : n0 + 600 ≤ ms) {z6 z7 z8 : Option Value} (kk : ∀ (M' : LH) (z6 z7 z8 : Option Value), LI p m out outD (N + 1) M' → V l g ⟨"SledgePostLaw", nm, ds⟩ cL_law (some .boolean) tb L mc ms Po X M' (k0 + 8) (n0 + 600) 3320 [some (.ref b), some (.ref p), some (.ref m), some (.ref out), some (.ref outD), some (.int i), z6, z7, z8] []) : V l g ⟨"SledgePostLaw", nm, ds⟩ cL_law (some .boolean) tb L mc ms Po X M k0 n0 2428 [some (.ref b), some (.ref p), some (.ref m), some (.ref out), some (.ref outD), some (.int i), z6, z7, z8] [] := by
  obtain ⟨hG, hSy, hv4⟩ := hS.1
  obtain ⟨-, -, -, -, ⟨tn0, tn60⟩, ⟨ea1, fl1⟩, ⟨hTl, hLs⟩, c0, c8⟩ := _root_.id hS
  obtain ⟨h461, h46⟩ := hS.1.r hN
  obtain ⟨hs0, old0, ⟨hpO, -⟩, -⟩ := _root_.id hP
  refine v_aload_n dL_law_2428 rfl rfl ?_
  refine v_aload_n dL_law_2429 rfl rfl ?_
  refine v_iload dL_law_2430 rfl ?_
  refine v_iconst (v := 1) dL_law_2432 (by decide) ?_
  refine v_iadd dL_law_2433 ?_
  refine v_sld hX dL_law_2434 (hi 1 (by decide) (by decide)).1 (hi 1 (by decide) (by decide)).2 ?_
  refine v_aload_n dL_law_2435 rfl rfl ?_
  refine kl_307 dL_law_2436 rfl (w_L_hoursUntilOpen htr (f_hoursUntilOpen htr hP (xs (i + 1).toNatClampNeg)) hpO (fun r M9 h9 => ⟨_, (h9.2.2 out (by rw [ko]; decide)).trans hO⟩) (fun E M9 h9 => h9.2.1)) (by omega) (by omega) (by omega) (Nat.le_of_ble_eq_true rfl) (fun r9 M9 h9 => ?_) (fun _ _ h9 => h9.elim)
  rcases h9 with ⟨rfl, r, M8, h8, ⟨hc, hP8, hF8⟩, hh, rfl⟩ | ⟨E, ⟨hc, hE0, hP8, hF8⟩, hE⟩
  · skip
    have f31 : Fs kd (fun r => r = 31) M8 (hup M8 out (la 1 h8)) := fun x hx => hup_n (fun z => hx (by rw [z]; exact ko))
    have hP9 := hP8.fs f31 (fun r h => by omega)
    have hM9 := (hM.tp (hF8.t 30 (Nat.le_refl _))).tp (f31.tp (by decide))
    have hO9 := up_k (e' := la 1 h8) ((hF8 outD (by rw [ko2]; decide)).trans hO2) ((hF8 out (by rw [ko]; decide)).trans hO) da_la
    rcases hc with ⟨c1, c2, rfl⟩ | ⟨c1, c2, c3, rfl⟩
    · skip
      refine v_istore_6 dL_law_2439 ?_
      refine v_aload_n dL_law_2441 rfl rfl ?_
      refine v_aload_n dL_law_2442 rfl rfl ?_
      refine v_iload dL_law_2443 rfl ?_
      refine v_iconst (v := 1) dL_law_2445 (by decide) ?_
      refine v_iadd dL_law_2446 ?_
      refine v_sld hX dL_law_2447 (hi 1 (by decide) (by decide)).1 (hi 1 (by decide) (by decide)).2 ?_
      refine k_L_309 dL_law_2448 rfl (r_hoursUntilOpen htr hM9 hG (xs (i + 1).toNatClampNeg)) hM9.1 (by omega) (by omega) (by omega) (Nat.le_of_ble_eq_true rfl) (fun r2448 M9 h9 => ?_) (fun _ _ h9 => h9.elim)
      obtain ⟨h9, hF9⟩ := h9
      rcases h9 with ⟨-, -, rfl, hC⟩ | ⟨-, n1, -⟩ | ⟨n1, -⟩
      rotate_left
      · exact absurd c2 n1
      · exact absurd ⟨c1, Or.inl c2⟩ n1
      have hOA := LR1 (kd := kd) hup_s ko hF9
      have hOD := LR1 hO9 ko2 hF9
      refine v_istore_7 dL_law_2451 ?_
      refine v_aload_n dL_law_2453 rfl rfl ?_
      refine k_L_189 dL_law_2454 rfl (r_thrown htr hC) hC.1 (by omega) (by omega) (by omega) (Nat.le_of_ble_eq_true rfl) (fun r2454 M9 h9 => ?_) (fun _ _ h9 => h9.elim)
      obtain ⟨rfl, e9⟩ := h9
      subst M9
      refine v_iload dL_law_2457 rfl ?_
      refine v_icmp_eq (tgt := 2464) dL_law_2459 (by decide) (fun h2459 => ?_) (fun h2459 => ?_)
      · refine v_iload dL_law_2464 rfl ?_
        refine v_if_ne (tgt := 2481) dL_law_2466 (by decide) (fun h2466 => ?_) (fun h2466 => ?_)
        · exact absurd rfl h2466
        · refine v_aload_n dL_law_2469 rfl rfl ?_
          refine v_iconst (v := 0) dL_law_2470 (by decide) ?_
          refine v_lald dL_law_2471 hOA ?_
          refine v_iload dL_law_2472 rfl ?_
          refine v_i2l dL_law_2474 ?_
          refine v_lcmp dL_law_2475 ?_
          rw [hh, lg_self]
          refine v_if_eq (tgt := 2481) dL_law_2476 (by decide) (fun h2476 => ?_) (fun h2476 => ?_)
          · refine v_goto (tgt := 3320) dL_law_2481 (by decide) ?_
            refine V.wid (k' := k0 + 8) (n' := n0 + 600) (by omega) (by omega) (kk _ _ _ _ ?_)
            exact ⟨kd, q, a, e8, v, _, sa, _, pa, tx, tn, Ls, _, _, w, _, _, _, _, _, _, _, _, _, _, _, _, _, (hP9.fs (Frm.fs (S := fun r => r = 30) hF9 rfl) (fun r h => by omega)), hC, hS.up, ⟨⟨_, hOA⟩, ko⟩, ⟨_, hOD⟩, ko2⟩
          · exact absurd rfl h2476
      · exact absurd rfl h2459
    · skip
      refine v_istore_6 dL_law_2439 ?_
      refine v_aload_n dL_law_2441 rfl rfl ?_
      refine v_aload_n dL_law_2442 rfl rfl ?_
      refine v_iload dL_law_2443 rfl ?_
      refine v_iconst (v := 1) dL_law_2445 (by decide) ?_
      refine v_iadd dL_law_2446 ?_
      refine v_sld hX dL_law_2447 (hi 1 (by decide) (by decide)).1 (hi 1 (by decide) (by decide)).2 ?_
      refine k_L_309 dL_law_2448 rfl (r_hoursUntilOpen htr hM9 hG (xs (i + 1).toNatClampNeg)) hM9.1 (by omega) (by omega) (by omega) (Nat.le_of_ble_eq_true rfl) (fun r2448 M9 h9 => ?_) (fun _ _ h9 => h9.elim)
      obtain ⟨h9, hF9⟩ := h9
      rcases h9 with ⟨-, n1, -⟩ | ⟨-, -, -, rfl, hC⟩ | ⟨n1, -⟩
      · exact absurd n1 c2
      rotate_left
      · exact absurd ⟨c1, Or.inr c3⟩ n1
      have hOA := LR1 (kd := kd) hup_s ko hF9
      have hOD := LR1 hO9 ko2 hF9
      refine v_istore_7 dL_law_2451 ?_
      refine v_aload_n dL_law_2453 rfl rfl ?_
      refine k_L_189 dL_law_2454 rfl (r_thrown htr hC) hC.1 (by omega) (by omega) (by omega) (Nat.le_of_ble_eq_true rfl) (fun r2454 M9 h9 => ?_) (fun _ _ h9 => h9.elim)
      obtain ⟨rfl, e9⟩ := h9
      subst M9
      refine v_iload dL_law_2457 rfl ?_
      refine v_icmp_eq (tgt := 2464) dL_law_2459 (by decide) (fun h2459 => ?_) (fun h2459 => ?_)
      · refine v_iload dL_law_2464 rfl ?_
        refine v_if_ne (tgt := 2481) dL_law_2466 (by decide) (fun h2466 => ?_) (fun h2466 => ?_)
        · exact absurd rfl h2466
        · refine v_aload_n dL_law_2469 rfl rfl ?_
          refine v_iconst (v := 0) dL_law_2470 (by decide) ?_
          refine v_lald dL_law_2471 hOA ?_
          refine v_iload dL_law_2472 rfl ?_
          refine v_i2l dL_law_2474 ?_
          refine v_lcmp dL_law_2475 ?_
          rw [hh, lg_self]
          refine v_if_eq (tgt := 2481) dL_law_2476 (by decide) (fun h2476 => ?_) (fun h2476 => ?_)
          · refine v_goto (tgt := 3320) dL_law_2481 (by decide) ?_
            refine V.wid (k' := k0 + 8) (n' := n0 + 600) (by omega) (by omega) (kk _ _ _ _ ?_)
            exact ⟨kd, q, a, e8, v, _, sa, _, pa, tx, tn, Ls, _, _, w, _, _, _, _, _, _, _, _, _, _, _, _, _, (hP9.fs (Frm.fs (S := fun r => r = 30) hF9 rfl) (fun r h => by omega)), hC, hS.up, ⟨⟨_, hOA⟩, ko⟩, ⟨_, hOD⟩, ko2⟩
          · exact absurd rfl h2476
      · exact absurd rfl h2459
  · skip
    have hM9 := hM.tp (hF8.t 30 (Nat.le_refl _))
    have hO8 := (hF8 out (by rw [ko]; decide)).trans hO
    have hO9 := (hF8 outD (by rw [ko2]; decide)).trans hO2
    obtain ⟨-, rfl⟩ := hE
    refine v_istore_6 dL_law_2439 ?_
    refine v_aload_n dL_law_2441 rfl rfl ?_
    refine v_aload_n dL_law_2442 rfl rfl ?_
    refine v_iload dL_law_2443 rfl ?_
    refine v_iconst (v := 1) dL_law_2445 (by decide) ?_
    refine v_iadd dL_law_2446 ?_
    refine v_sld hX dL_law_2447 (hi 1 (by decide) (by decide)).1 (hi 1 (by decide) (by decide)).2 ?_
    refine k_L_309 dL_law_2448 rfl (r_hoursUntilOpen htr hM9 hG (xs (i + 1).toNatClampNeg)) hM9.1 (by omega) (by omega) (by omega) (Nat.le_of_ble_eq_true rfl) (fun r2448 M9 h9 => ?_) (fun _ _ h9 => h9.elim)
    obtain ⟨h9, hF9⟩ := h9
    rcases h9 with ⟨n1, n2, -⟩ | ⟨n1, -, n2, -⟩ | ⟨-, rfl, hC⟩
    · exact absurd ⟨n1, Or.inl n2⟩ hc
    · exact absurd ⟨n1, Or.inr n2⟩ hc
    have hOA := LR1 (kd := kd) hO8 ko hF9
    have hOD := LR1 hO9 ko2 hF9
    refine v_istore_7 dL_law_2451 ?_
    refine v_aload_n dL_law_2453 rfl rfl ?_
    refine k_L_189 dL_law_2454 rfl (r_thrown htr hC) hC.1 (by omega) (by omega) (by omega) (Nat.le_of_ble_eq_true rfl) (fun r2454 M9 h9 => ?_) (fun _ _ h9 => h9.elim)
    obtain ⟨rfl, e9⟩ := h9
    subst M9
    refine v_iload dL_law_2457 rfl ?_
    refine v_icmp_eq (tgt := 2464) dL_law_2459 (by decide) (fun h2459 => ?_) (fun h2459 => ?_)
    · refine v_iload dL_law_2464 rfl ?_
      refine v_if_ne (tgt := 2481) dL_law_2466 (by decide) (fun h2466 => ?_) (fun h2466 => ?_)
      · refine v_goto (tgt := 3320) dL_law_2481 (by decide) ?_
        refine V.wid (k' := k0 + 8) (n' := n0 + 600) (by omega) (by omega) (kk _ _ _ _ ?_)
        exact ⟨kd, q, a, e8, v, _, sa, _, pa, tx, tn, Ls, _, _, w, _, _, _, _, _, _, _, _, _, _, _, _, _, (hP8.fs (Frm.fs (S := fun r => r = 30) hF9 rfl) (fun r h => by omega)), hC, hS.up, ⟨⟨_, hOA⟩, ko⟩, ⟨_, hOD⟩, ko2⟩
      · exact absurd h2466 (by first | decide | exact fcI_nz)
    · exact absurd rfl h2459
