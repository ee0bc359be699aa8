/-! ===== the face: round trips, the checks ===== -/
theorem Rch.w {σ : Int32 → Int32} {home : Int32} (hS : Sy σ) (h5 : σ 5 ≤ 7) {a b : Int32} (ha : Rch σ home a) (hb : Rch σ home b) : ∃ d, Wks σ a b d := by
  obtain ⟨a0, a1, v, k, hk⟩ := ha
  obtain ⟨b0, b1, v2, k2, hk2⟩ := hb
  exact ⟨_, (Wks.rev hS h5 k a v a0 a1 hk).cat k2 b v2 hk2⟩
theorem trip_A {σ f : Int32 → Int32} {k : Int32} (hG : Good σ) (hS : Sy σ) (k0 : 0 ≤ k) (k1 : k < σ 6) (hf : ∀ a b, 0 ≤ a → a < σ 5 → 0 ≤ b → b < σ 5 → IsD σ 1000000 a b (f (a * 7 + b)).toInt) (hw : hwK σ k) :
    (∀ a b, Rch σ (sd σ k 1) a → Rch σ (sd σ k 1) b → 0 ≤ dF f a b ∧ dF f a b ≤ 120) ∧ dF f (sd σ k 1) (sd σ k 1) = 0 ∧ Rch σ (sd σ k 1) (sd σ k 1) ∧ (∃ j, j < 128 ∧ goN σ k (σ 7).toNatClampNeg = nI j ∧ InG (Rch σ (sd σ k 1)) (nI j)) ∧ (∃ j, j < 128 ∧ goN σ k (σ 7).toNatClampNeg &&& (sbit (sd σ k 1) ^^^ -1) = nI j ∧ InG (Rch σ (sd σ k 1)) (nI j)) ∧
    (∀ x y z, Rch σ (sd σ k 1) x → Rch σ (sd σ k 1) y → Rch σ (sd σ k 1) z → dF f x z ≤ dF f x y + dF f y z) ∧ 0 ≤ sd σ k 1 ∧ sd σ k 1 < 7 := by
  obtain ⟨g1, g2, g3, g4, g5, g6, -, -, gL, gS, -⟩ := _root_.id hG
  obtain ⟨u0, u1, u2, u3, -⟩ := gS k k0 k1
  have u7 := Int32.lt_of_lt_of_le u3 g2
  have hh : Rch σ (sd σ k 1) (sd σ k 1) := ⟨u2, u3, 0, Wks.nil⟩
  have hdI : ∀ a b, Rch σ (sd σ k 1) a → Rch σ (sd σ k 1) b → IsD σ 1000000 a b (dF f a b) := fun a b ha hb => hf a b ha.1 ha.2.1 hb.1 hb.2.1
  have hG2 := goals_G hG k0 k1 hw
  obtain ⟨j0, e0, e1⟩ := goN_in (k := k) g6 (fun i i0 i1 => by
    obtain ⟨z1, z2, -⟩ := gL i i0 i1
    clear gL gS hw hf hdI hG2
    exact ⟨z1, by lia⟩) _ (Nat.le_refl _)
  rw [e1] at hG2
  obtain ⟨j, hj, e⟩ := goals_in hG k0 k1
  refine ⟨fun a b ha hb => ?_, IsD.self hG u2 u7 (hdI _ _ hh hh), hh, ⟨j0, e0, e1, hG2⟩, ⟨j, hj, e, ?_⟩, IsD.tri hG hS hdI, u2, u7⟩
  · obtain ⟨z1, z2, -⟩ := IsD.b hG ha.1 (Int32.lt_of_lt_of_le ha.2.1 g2) hb.1 (Int32.lt_of_lt_of_le hb.2.1 g2) (hdI a b ha hb) (Rch.w hS g2 ha hb)
    exact ⟨z1, z2⟩
  · rw [← e, e1]
    exact hG2.rm e0 u2 u7
theorem trip_S {σ f : Int32 → Int32} {k : Int32} (hG : Good σ) (hS : Sy σ) (k0 : 0 ≤ k) (k1 : k < σ 6) (hf : ∀ a b, 0 ≤ a → a < σ 5 → 0 ≤ b → b < σ 5 → IsD σ 1000000 a b (f (a * 7 + b)).toInt) (hw : hwK σ k) : Lst (dF f) (sd σ k 1) (goN σ k (σ 7).toNatClampNeg) (sd σ k 1) (sT f (sd σ k 1) (goN σ k (σ 7).toNatClampNeg &&& (sbit (sd σ k 1) ^^^ -1))).toInt := by
  obtain ⟨hd, hz, hh, ⟨j0, a0, a1, a2⟩, ⟨j, b0, b1, b2⟩, ht, u2, u7⟩ := trip_A hG hS k0 k1 hf hw
  have h := sT_L (D := f) hd (fun _ _ _ _ => rfl) hh hz b0 b2
  rw [← b1] at h
  rw [a1] at h ⊢
  exact Lst.home a0 u2 u7 hh hz ht a2 h
theorem trip_R {σ f : Int32 → Int32} {k : Int32} (hG : Good σ) (hS : Sy σ) (k0 : 0 ≤ k) (k1 : k < σ 6) (hf : ∀ a b, 0 ≤ a → a < σ 5 → 0 ≤ b → b < σ 5 → IsD σ 1000000 a b (f (a * 7 + b)).toInt) (hw : hwK σ k) : Lst (dF f) (sd σ k 1) (goN σ k (σ 7).toNatClampNeg) (sd σ k 1) (rF f (sd σ k 1) 7 (sd σ k 1) (goN σ k (σ 7).toNatClampNeg &&& (sbit (sd σ k 1) ^^^ -1))).toInt := by
  obtain ⟨hd, hz, hh, ⟨j0, a0, a1, a2⟩, ⟨j, b0, b1, b2⟩, ht, u2, u7⟩ := trip_A hG hS k0 k1 hf hw
  have h := rF_L (D := f) hd (fun _ _ _ _ => rfl) hh 7 j _ b0 (pcN_le _ 7) hh b2
  rw [← b1] at h
  rw [a1] at h ⊢
  exact Lst.home a0 u2 u7 hh hz ht a2 h
theorem dX11_roundTrip_0 : decode cX11_roundTrip 0 = .ok (.aload_n 0, 1) := by decide +kernel
theorem dX11_roundTrip_1 : decode cX11_roundTrip 1 = .ok (.getfield 10, 3) := by decide +kernel
theorem dX11_roundTrip_4 : decode cX11_roundTrip 4 = .ok (.iload_n 1, 1) := by decide +kernel
theorem dX11_roundTrip_5 : decode cX11_roundTrip 5 = .ok (.invokevirtual 212, 3) := by decide +kernel
theorem dX11_roundTrip_8 : decode cX11_roundTrip 8 = .ok (.invokestatic 59, 3) := by decide +kernel
theorem dX11_roundTrip_11 : decode cX11_roundTrip 11 = .ok (.aload_n 0, 1) := by decide +kernel
theorem dX11_roundTrip_12 : decode cX11_roundTrip 12 = .ok (.getfield 10, 3) := by decide +kernel
theorem dX11_roundTrip_15 : decode cX11_roundTrip 15 = .ok (.iload_n 1, 1) := by decide +kernel
theorem dX11_roundTrip_16 : decode cX11_roundTrip 16 = .ok (.invokevirtual 215, 3) := by decide +kernel
theorem dX11_roundTrip_19 : decode cX11_roundTrip 19 = .ok (.ireturn, 1) := by decide +kernel
set_option maxRecDepth 100000 in
set_option maxHeartbeats 4000000 in
theorem f_roundTrip {l : Launch} {g : Nat → Nat} {M : LH} (htr : l.stackTraces = false) {kd : Nat → Nat} {p : Nat} {q a : Nat → Nat} {e8 : Int32 → Nat} {v : Int32 → Int32} {sv : Int32} {sa : Int32 → Int32} {ch : Int32} {pa tx : Int32 → Int32} {tn : Int32} {Ls : List Int32} {ea fl : Int32} (hP : Pg kd M p q a e8 v sv sa ch pa tx tn Ls ea fl) (k : Int32) (hSy : Sy v) : K_X11_roundTrip l g 12 2 12 [.ref p, .int k] M (RI (fun x M9 => hsl v k ∧ hwK v k ∧ (∃ f', (∀ a b, 0 ≤ a → a < v 5 → 0 ≤ b → b < v 5 → IsD v 1000000 a b (f' (a * 7 + b)).toInt) ∧ Lst (dF f') (sd v k 1) (goN v k (v 7).toNatClampNeg) (sd v k 1) x.toInt) ∧ Pg kd M9 p q a e8 v sv sa ch pa tx tn Ls ea fl ∧ F30 kd M M9) (fun E M9 => ((¬ hsl v k ∧ E = exV 1) ∨ (hsl v k ∧ ¬ hwK v k ∧ E = exV 3)) ∧ Pg kd M9 p q a e8 v sv sa ch pa tx tn Ls ea fl ∧ F30 kd M M9)) := by
  refine Ko_X11_roundTrip htr (fun X => ?_)
  obtain ⟨hs, old, hB, hR⟩ := _root_.id hP
  obtain ⟨hO, hE8, hkp, hk3, ⟨ad, sl, le, fg, tp, F, hC⟩, hK, hS2, hS3, hS8, hRO⟩ := _root_.id hB
  obtain ⟨hSt, hRo, hSR, hLR, hSl, hLe, hkd, hinj, ⟨hfg, hRd, hSd, hLt⟩, hG⟩ := _root_.id hC
  obtain ⟨hDk, hDs, ⟨f1, hB1⟩, ⟨f2, hB2⟩, hBl, ⟨f3, hB3⟩, hRt, ⟨f4, hB4⟩, hkD, hn34, hDr⟩ := _root_.id hK
  obtain ⟨hg1, hg2, hg3, hg4, hg5, hg6, hg7, hg8, hgL, hgS, hgR, hgI, hgN, hg0⟩ := _root_.id hG
  refine v_aload_n dX11_roundTrip_0 rfl rfl ?_
  refine gf_X11_10 dX11_roundTrip_1 rfl hO ?_
  refine v_iload_n dX11_roundTrip_4 rfl rfl ?_
  refine k_X11_212 dX11_roundTrip_5 rfl (c_judgeTrip htr hC hK k) hDk (Nat.le_of_ble_eq_true rfl) (by omega) (by omega) (Nat.le_of_ble_eq_true rfl) (fun r5 M9 h9 => ?_) (fun _ _ h9 => h9.elim)
  obtain ⟨h9, f9, e9⟩ := h9
  have hP := hP.desk (M' := M9) (by rw [e9]; exact Frm.up hkD.2.2.1) (by rw [e9]; exact Dk.row hK hB1 f9)
  have hF0 : F30 kd M M9 := by rw [e9]; exact Frm.f30 (r := 20) (Frm.up hkD.2.2.1) (by decide)
  clear e9
  obtain ⟨hs, old, hB, hR⟩ := _root_.id hP
  obtain ⟨hO, hE8, hkp, hk3, ⟨ad, sl, le, fg, tp, F, hC⟩, hK, hS2, hS3, hS8, hRO⟩ := _root_.id hB
  obtain ⟨hSt, hRo, hSR, hLR, hSl, hLe, hkd, hinj, ⟨hfg, hRd, hSd, hLt⟩, hG⟩ := _root_.id hC
  obtain ⟨hDk, hDs, ⟨f1, hB1⟩, ⟨f2, hB2⟩, hBl, ⟨f3, hB3⟩, hRt, ⟨f4, hB4⟩, hkD, hn34, hDr⟩ := _root_.id hK
  obtain ⟨hg1, hg2, hg3, hg4, hg5, hg6, hg7, hg8, hgL, hgS, hgR, hgI, hgN, hg0⟩ := _root_.id hG
  obtain ⟨n9, hn9, rfl, hn0, hn1⟩ : ∃ n, n < 6 ∧ r5 = g n ∧ (n = 0 → hsl v k ∧ hwK v k) ∧ (¬ n = 0 → (¬ hsl v k ∧ exV n = exV 1) ∨ (hsl v k ∧ ¬ hwK v k ∧ exV n = exV 3)) := by
    rcases h9 with ⟨a1, rfl⟩ | ⟨a1, ⟨rfl, a2⟩ | ⟨rfl, i, i0, i1, i2, i3⟩⟩
    · exact ⟨1, by decide, rfl, fun z => absurd z (by decide), fun _ => Or.inl ⟨a1, rfl⟩⟩
    · exact ⟨0, by decide, rfl, fun _ => ⟨a1, a2⟩, fun z => absurd rfl z⟩
    · exact ⟨3, by decide, rfl, fun z => absurd z (by decide), fun _ => Or.inr ⟨a1, (fun z => by obtain ⟨d, hd⟩ := z i i0 i1 i2; exact i3 d hd), rfl⟩⟩
  refine k_X11_59 dX11_roundTrip_8 rfl (c_demandFine htr hn9) (Nat.le_of_ble_eq_true rfl) (by omega) (by omega) (Nat.le_of_ble_eq_true rfl) (fun M9 h9 => ?_) (fun _ _ h9 => by obtain ⟨h91, rfl, rfl⟩ := h9; exact VX.out ⟨hn1 h91, hP, hF0⟩ (by omega) (by omega))
  obtain ⟨hok, e9⟩ := h9
  subst M9
  obtain ⟨hk9, hw9⟩ := hn0 hok
  obtain ⟨k0, k1⟩ := _root_.id hk9
  refine v_aload_n dX11_roundTrip_11 rfl rfl ?_
  refine gf_X11_10 dX11_roundTrip_12 rfl hO ?_
  refine v_iload_n dX11_roundTrip_15 rfl rfl ?_
  refine k_X11_215 dX11_roundTrip_16 rfl (c_tripBySets htr hC hK k0 k1) hDk (Nat.le_of_ble_eq_true rfl) (by omega) (by omega) (Nat.le_of_ble_eq_true rfl) (fun r16 M9 h9 => ?_) (fun _ _ h9 => h9.elim)
  obtain ⟨f8, hf8, rfl, k9, f9⟩ := h9
  have hQ := hP.desk f9 k9
  have hF9 := hF0.tr (Frm.f30 f9 (by decide))
  have hfD : ∀ a b, 0 ≤ a → a < v 5 → 0 ≤ b → b < v 5 → IsD v 1000000 a b (f8 (a * 7 + b)).toInt := fun a b a0 a1 b0 b1 => (hf8 a a0 a1 b b0 b1).1
  exact v_iret dX11_roundTrip_19 rfl ⟨hk9, hw9, ⟨f8, hfD, trip_S hG hSy k0 k1 hfD hw9⟩, hQ, hF9⟩ (by omega) (by omega)
theorem dX11_roundTripByOrders_0 : decode cX11_roundTripByOrders 0 = .ok (.aload_n 0, 1) := by decide +kernel
theorem dX11_roundTripByOrders_1 : decode cX11_roundTripByOrders 1 = .ok (.getfield 10, 3) := by decide +kernel
theorem dX11_roundTripByOrders_4 : decode cX11_roundTripByOrders 4 = .ok (.iload_n 1, 1) := by decide +kernel
theorem dX11_roundTripByOrders_5 : decode cX11_roundTripByOrders 5 = .ok (.invokevirtual 212, 3) := by decide +kernel
theorem dX11_roundTripByOrders_8 : decode cX11_roundTripByOrders 8 = .ok (.invokestatic 59, 3) := by decide +kernel
theorem dX11_roundTripByOrders_11 : decode cX11_roundTripByOrders 11 = .ok (.aload_n 0, 1) := by decide +kernel
theorem dX11_roundTripByOrders_12 : decode cX11_roundTripByOrders 12 = .ok (.getfield 10, 3) := by decide +kernel
theorem dX11_roundTripByOrders_15 : decode cX11_roundTripByOrders 15 = .ok (.iload_n 1, 1) := by decide +kernel
theorem dX11_roundTripByOrders_16 : decode cX11_roundTripByOrders 16 = .ok (.invokevirtual 218, 3) := by decide +kernel
theorem dX11_roundTripByOrders_19 : decode cX11_roundTripByOrders 19 = .ok (.ireturn, 1) := by decide +kernel
set_option maxRecDepth 100000 in
set_option maxHeartbeats 4000000 in
theorem f_roundTripByOrders {l : Launch} {g : Nat → Nat} {M : LH} (htr : l.stackTraces = false) {kd : Nat → Nat} {p : Nat} {q a : Nat → Nat} {e8 : Int32 → Nat} {v : Int32 → Int32} {sv : Int32} {sa : Int32 → Int32} {ch : Int32} {pa tx : Int32 → Int32} {tn : Int32} {Ls : List Int32} {ea fl : Int32} (hP : Pg kd M p q a e8 v sv sa ch pa tx tn Ls ea fl) (k : Int32) (hSy : Sy v) : K_X11_roundTripByOrders l g 12 2 12 [.ref p, .int k] M (RI (fun x M9 => hsl v k ∧ hwK v k ∧ (∃ f', (∀ a b, 0 ≤ a → a < v 5 → 0 ≤ b → b < v 5 → IsD v 1000000 a b (f' (a * 7 + b)).toInt) ∧ Lst (dF f') (sd v k 1) (goN v k (v 7).toNatClampNeg) (sd v k 1) x.toInt) ∧ Pg kd M9 p q a e8 v sv sa ch pa tx tn Ls ea fl ∧ F30 kd M M9) (fun E M9 => ((¬ hsl v k ∧ E = exV 1) ∨ (hsl v k ∧ ¬ hwK v k ∧ E = exV 3)) ∧ Pg kd M9 p q a e8 v sv sa ch pa tx tn Ls ea fl ∧ F30 kd M M9)) := by
  refine Ko_X11_roundTripByOrders htr (fun X => ?_)
  obtain ⟨hs, old, hB, hR⟩ := _root_.id hP
  obtain ⟨hO, hE8, hkp, hk3, ⟨ad, sl, le, fg, tp, F, hC⟩, hK, hS2, hS3, hS8, hRO⟩ := _root_.id hB
  obtain ⟨hSt, hRo, hSR, hLR, hSl, hLe, hkd, hinj, ⟨hfg, hRd, hSd, hLt⟩, hG⟩ := _root_.id hC
  obtain ⟨hDk, hDs, ⟨f1, hB1⟩, ⟨f2, hB2⟩, hBl, ⟨f3, hB3⟩, hRt, ⟨f4, hB4⟩, hkD, hn34, hDr⟩ := _root_.id hK
  obtain ⟨hg1, hg2, hg3, hg4, hg5, hg6, hg7, hg8, hgL, hgS, hgR, hgI, hgN, hg0⟩ := _root_.id hG
  refine v_aload_n dX11_roundTripByOrders_0 rfl rfl ?_
  refine gf_X11_10 dX11_roundTripByOrders_1 rfl hO ?_
  refine v_iload_n dX11_roundTripByOrders_4 rfl rfl ?_
  refine k_X11_212 dX11_roundTripByOrders_5 rfl (c_judgeTrip htr hC hK k) hDk (Nat.le_of_ble_eq_true rfl) (by omega) (by omega) (Nat.le_of_ble_eq_true rfl) (fun r5 M9 h9 => ?_) (fun _ _ h9 => h9.elim)
  obtain ⟨h9, f9, e9⟩ := h9
  have hP := hP.desk (M' := M9) (by rw [e9]; exact Frm.up hkD.2.2.1) (by rw [e9]; exact Dk.row hK hB1 f9)
  have hF0 : F30 kd M M9 := by rw [e9]; exact Frm.f30 (r := 20) (Frm.up hkD.2.2.1) (by decide)
  clear e9
  obtain ⟨hs, old, hB, hR⟩ := _root_.id hP
  obtain ⟨hO, hE8, hkp, hk3, ⟨ad, sl, le, fg, tp, F, hC⟩, hK, hS2, hS3, hS8, hRO⟩ := _root_.id hB
  obtain ⟨hSt, hRo, hSR, hLR, hSl, hLe, hkd, hinj, ⟨hfg, hRd, hSd, hLt⟩, hG⟩ := _root_.id hC
  obtain ⟨hDk, hDs, ⟨f1, hB1⟩, ⟨f2, hB2⟩, hBl, ⟨f3, hB3⟩, hRt, ⟨f4, hB4⟩, hkD, hn34, hDr⟩ := _root_.id hK
  obtain ⟨hg1, hg2, hg3, hg4, hg5, hg6, hg7, hg8, hgL, hgS, hgR, hgI, hgN, hg0⟩ := _root_.id hG
  obtain ⟨n9, hn9, rfl, hn0, hn1⟩ : ∃ n, n < 6 ∧ r5 = g n ∧ (n = 0 → hsl v k ∧ hwK v k) ∧ (¬ n = 0 → (¬ hsl v k ∧ exV n = exV 1) ∨ (hsl v k ∧ ¬ hwK v k ∧ exV n = exV 3)) := by
    rcases h9 with ⟨a1, rfl⟩ | ⟨a1, ⟨rfl, a2⟩ | ⟨rfl, i, i0, i1, i2, i3⟩⟩
    · exact ⟨1, by decide, rfl, fun z => absurd z (by decide), fun _ => Or.inl ⟨a1, rfl⟩⟩
    · exact ⟨0, by decide, rfl, fun _ => ⟨a1, a2⟩, fun z => absurd rfl z⟩
    · exact ⟨3, by decide, rfl, fun z => absurd z (by decide), fun _ => Or.inr ⟨a1, (fun z => by obtain ⟨d, hd⟩ := z i i0 i1 i2; exact i3 d hd), rfl⟩⟩
  refine k_X11_59 dX11_roundTripByOrders_8 rfl (c_demandFine htr hn9) (Nat.le_of_ble_eq_true rfl) (by omega) (by omega) (Nat.le_of_ble_eq_true rfl) (fun M9 h9 => ?_) (fun _ _ h9 => by obtain ⟨h91, rfl, rfl⟩ := h9; exact VX.out ⟨hn1 h91, hP, hF0⟩ (by omega) (by omega))
  obtain ⟨hok, e9⟩ := h9
  subst M9
  obtain ⟨hk9, hw9⟩ := hn0 hok
  obtain ⟨k0, k1⟩ := _root_.id hk9
  refine v_aload_n dX11_roundTripByOrders_11 rfl rfl ?_
  refine gf_X11_10 dX11_roundTripByOrders_12 rfl hO ?_
  refine v_iload_n dX11_roundTripByOrders_15 rfl rfl ?_
  refine k_X11_218 dX11_roundTripByOrders_16 rfl (c_tripByOrders htr hC hK k0 k1) hDk (Nat.le_of_ble_eq_true rfl) (by omega) (by omega) (Nat.le_of_ble_eq_true rfl) (fun r16 M9 h9 => ?_) (fun _ _ h9 => h9.elim)
  obtain ⟨f8, hf8, rfl, k9, f9⟩ := h9
  have hQ := hP.desk f9 k9
  have hF9 := hF0.tr (Frm.f30 f9 (by decide))
  have hfD : ∀ a b, 0 ≤ a → a < v 5 → 0 ≤ b → b < v 5 → IsD v 1000000 a b (f8 (a * 7 + b)).toInt := fun a b a0 a1 b0 b1 => (hf8 a a0 a1 b b0 b1).1
  exact v_iret dX11_roundTripByOrders_19 rfl ⟨hk9, hw9, ⟨f8, hfD, trip_R hG hSy k0 k1 hfD hw9⟩, hQ, hF9⟩ (by omega) (by omega)
theorem dX11_isConsistent_0 : decode cX11_isConsistent 0 = .ok (.aload_n 0, 1) := by decide +kernel
theorem dX11_isConsistent_1 : decode cX11_isConsistent 1 = .ok (.getfield 10, 3) := by decide +kernel
theorem dX11_isConsistent_4 : decode cX11_isConsistent 4 = .ok (.invokevirtual 317, 3) := by decide +kernel
theorem dX11_isConsistent_7 : decode cX11_isConsistent 7 = .ok (.ifCond .eq 38, 3) := by decide +kernel
theorem dX11_isConsistent_10 : decode cX11_isConsistent 10 = .ok (.aload_n 0, 1) := by decide +kernel
theorem dX11_isConsistent_11 : decode cX11_isConsistent 11 = .ok (.getfield 10, 3) := by decide +kernel
theorem dX11_isConsistent_14 : decode cX11_isConsistent 14 = .ok (.invokevirtual 320, 3) := by decide +kernel
theorem dX11_isConsistent_17 : decode cX11_isConsistent 17 = .ok (.ifCond .eq 28, 3) := by decide +kernel
theorem dX11_isConsistent_20 : decode cX11_isConsistent 20 = .ok (.aload_n 0, 1) := by decide +kernel
theorem dX11_isConsistent_21 : decode cX11_isConsistent 21 = .ok (.getfield 10, 3) := by decide +kernel
theorem dX11_isConsistent_24 : decode cX11_isConsistent 24 = .ok (.invokevirtual 323, 3) := by decide +kernel
theorem dX11_isConsistent_27 : decode cX11_isConsistent 27 = .ok (.ifCond .eq 18, 3) := by decide +kernel
theorem dX11_isConsistent_30 : decode cX11_isConsistent 30 = .ok (.aload_n 0, 1) := by decide +kernel
theorem dX11_isConsistent_31 : decode cX11_isConsistent 31 = .ok (.invokevirtual 326, 3) := by decide +kernel
theorem dX11_isConsistent_34 : decode cX11_isConsistent 34 = .ok (.aload_n 0, 1) := by decide +kernel
theorem dX11_isConsistent_35 : decode cX11_isConsistent 35 = .ok (.invokevirtual 329, 3) := by decide +kernel
theorem dX11_isConsistent_38 : decode cX11_isConsistent 38 = .ok (.if_icmp .ne 7, 3) := by decide +kernel
theorem dX11_isConsistent_41 : decode cX11_isConsistent 41 = .ok (.iconst 1, 1) := by decide +kernel
theorem dX11_isConsistent_42 : decode cX11_isConsistent 42 = .ok (.goto 4, 3) := by decide +kernel
theorem dX11_isConsistent_45 : decode cX11_isConsistent 45 = .ok (.iconst 0, 1) := by decide +kernel
theorem dX11_isConsistent_46 : decode cX11_isConsistent 46 = .ok (.ireturn, 1) := by decide +kernel
set_option maxRecDepth 100000 in
set_option maxHeartbeats 4000000 in
theorem f_isConsistent {l : Launch} {g : Nat → Nat} {M : LH} (htr : l.stackTraces = false) {kd : Nat → Nat} {p : Nat} {q a : Nat → Nat} {e8 : Int32 → Nat} {v : Int32 → Int32} {sv : Int32} {sa : Int32 → Int32} {ch : Int32} {pa tx : Int32 → Int32} {tn : Int32} {Ls : List Int32} {ea fl : Int32} (hP : Pg kd M p q a e8 v sv sa ch pa tx tn Ls ea fl) (hSy : Sy v) (h4 : v 4 < 1000000) : K_X11_isConsistent l g 19 0 0 [.ref p] M (RI (fun x M9 => x = 1 ∧ Pg kd M9 p q a e8 v sv sa ch pa tx tn Ls ea fl ∧ F30 kd M M9) nX) := by
  refine Ko_X11_isConsistent htr (fun X => ?_)
  obtain ⟨hs, old, hB, hR⟩ := _root_.id hP
  obtain ⟨hO, hE8, hkp, hk3, ⟨ad, sl, le, fg, tp, F, hC⟩, hK, hS2, hS3, hS8, hRO⟩ := _root_.id hB
  obtain ⟨hSt, hRo, hSR, hLR, hSl, hLe, hkd, hinj, ⟨hfg, hRd, hSd, hLt⟩, hG⟩ := _root_.id hC
  obtain ⟨hDk, hDs, ⟨f1, hB1⟩, ⟨f2, hB2⟩, hBl, ⟨f3, hB3⟩, hRt, ⟨f4, hB4⟩, hkD, hn34, hDr⟩ := _root_.id hK
  obtain ⟨hg1, hg2, hg3, hg4, hg5, hg6, hg7, hg8, hgL, hgS, hgR, hgI, hgN, hg0⟩ := _root_.id hG
  have hF9 : F30 kd M M := F30.rf
  refine v_aload_n dX11_isConsistent_0 rfl rfl ?_
  refine gf_X11_10 dX11_isConsistent_1 rfl hO ?_
  refine k_X11_317 dX11_isConsistent_4 rfl (c_distancesAgree htr hC hK) hDk (Nat.le_of_ble_eq_true rfl) (by omega) (by omega) (Nat.le_of_ble_eq_true rfl) (fun r4 M9 h9 => ?_) (fun _ _ h9 => h9.elim)
  obtain ⟨rfl, k9, f9⟩ := h9
  have hP := hP.desk f9 k9
  have hF9 := hF9.tr (Frm.f30 f9 (by decide))
  obtain ⟨hs, old, hB, hR⟩ := _root_.id hP
  obtain ⟨hO, hE8, hkp, hk3, ⟨ad, sl, le, fg, tp, F, hC⟩, hK, hS2, hS3, hS8, hRO⟩ := _root_.id hB
  obtain ⟨hSt, hRo, hSR, hLR, hSl, hLe, hkd, hinj, ⟨hfg, hRd, hSd, hLt⟩, hG⟩ := _root_.id hC
  obtain ⟨hDk, hDs, ⟨f1, hB1⟩, ⟨f2, hB2⟩, hBl, ⟨f3, hB3⟩, hRt, ⟨f4, hB4⟩, hkD, hn34, hDr⟩ := _root_.id hK
  obtain ⟨hg1, hg2, hg3, hg4, hg5, hg6, hg7, hg8, hgL, hgS, hgR, hgI, hgN, hg0⟩ := _root_.id hG
  refine v_if_eq (tgt := 45) dX11_isConsistent_7 (by decide) (fun h7 => ?_) (fun h7 => ?_)
  · exact absurd h7 (by decide)
  · refine v_aload_n dX11_isConsistent_10 rfl rfl ?_
    refine gf_X11_10 dX11_isConsistent_11 rfl hO ?_
    refine k_X11_320 dX11_isConsistent_14 rfl (c_sledgesAgree htr hC hK hSy) hDk (Nat.le_of_ble_eq_true rfl) (by omega) (by omega) (Nat.le_of_ble_eq_true rfl) (fun r14 M9 h9 => ?_) (fun _ _ h9 => h9.elim)
    obtain ⟨rfl, k9, f9⟩ := h9
    have hP := hP.desk f9 k9
    have hF9 := hF9.tr (Frm.f30 f9 (by decide))
    obtain ⟨hs, old, hB, hR⟩ := _root_.id hP
    obtain ⟨hO, hE8, hkp, hk3, ⟨ad, sl, le, fg, tp, F, hC⟩, hK, hS2, hS3, hS8, hRO⟩ := _root_.id hB
    obtain ⟨hSt, hRo, hSR, hLR, hSl, hLe, hkd, hinj, ⟨hfg, hRd, hSd, hLt⟩, hG⟩ := _root_.id hC
    obtain ⟨hDk, hDs, ⟨f1, hB1⟩, ⟨f2, hB2⟩, hBl, ⟨f3, hB3⟩, hRt, ⟨f4, hB4⟩, hkD, hn34, hDr⟩ := _root_.id hK
    obtain ⟨hg1, hg2, hg3, hg4, hg5, hg6, hg7, hg8, hgL, hgS, hgR, hgI, hgN, hg0⟩ := _root_.id hG
    refine v_if_eq (tgt := 45) dX11_isConsistent_17 (by decide) (fun h17 => ?_) (fun h17 => ?_)
    · exact absurd h17 (by decide)
    · refine v_aload_n dX11_isConsistent_20 rfl rfl ?_
      refine gf_X11_10 dX11_isConsistent_21 rfl hO ?_
      refine k_X11_323 dX11_isConsistent_24 rfl (c_codesAreValid htr hC hK h4) hDk (Nat.le_of_ble_eq_true rfl) (by omega) (by omega) (Nat.le_of_ble_eq_true rfl) (fun r24 M9 h9 => ?_) (fun _ _ h9 => h9.elim)
      obtain ⟨rfl, e9⟩ := h9
      subst M9
      refine v_if_eq (tgt := 45) dX11_isConsistent_27 (by decide) (fun h27 => ?_) (fun h27 => ?_)
      · exact absurd h27 (by decide)
      · refine v_aload_n dX11_isConsistent_30 rfl rfl ?_
        refine k_X11_326 dX11_isConsistent_31 rfl (f_coins htr hP) hO (Nat.le_of_ble_eq_true rfl) (by omega) (by omega) (Nat.le_of_ble_eq_true rfl) (fun r31 M9 h9 => ?_) (fun _ _ h9 => h9.elim)
        obtain ⟨rfl, hP, f9⟩ := h9
        have hF9 := hF9.tr f9
        obtain ⟨hs, old, hB, hR⟩ := _root_.id hP
        obtain ⟨hO, hE8, hkp, hk3, ⟨ad, sl, le, fg, tp, F, hC⟩, hK, hS2, hS3, hS8, hRO⟩ := _root_.id hB
        obtain ⟨hSt, hRo, hSR, hLR, hSl, hLe, hkd, hinj, ⟨hfg, hRd, hSd, hLt⟩, hG⟩ := _root_.id hC
        obtain ⟨hDk, hDs, ⟨f1, hB1⟩, ⟨f2, hB2⟩, hBl, ⟨f3, hB3⟩, hRt, ⟨f4, hB4⟩, hkD, hn34, hDr⟩ := _root_.id hK
        obtain ⟨hg1, hg2, hg3, hg4, hg5, hg6, hg7, hg8, hgL, hgS, hgR, hgI, hgN, hg0⟩ := _root_.id hG
        refine v_aload_n dX11_isConsistent_34 rfl rfl ?_
        refine k_X11_329 dX11_isConsistent_35 rfl (f_coinsByAccounts htr hP) hO (Nat.le_of_ble_eq_true rfl) (by omega) (by omega) (Nat.le_of_ble_eq_true rfl) (fun r35 M9 h9 => ?_) (fun _ _ h9 => h9.elim)
        obtain ⟨rfl, hP, f9⟩ := h9
        have hF9 := hF9.tr f9
        obtain ⟨hs, old, hB, hR⟩ := _root_.id hP
        obtain ⟨hO, hE8, hkp, hk3, ⟨ad, sl, le, fg, tp, F, hC⟩, hK, hS2, hS3, hS8, hRO⟩ := _root_.id hB
        obtain ⟨hSt, hRo, hSR, hLR, hSl, hLe, hkd, hinj, ⟨hfg, hRd, hSd, hLt⟩, hG⟩ := _root_.id hC
        obtain ⟨hDk, hDs, ⟨f1, hB1⟩, ⟨f2, hB2⟩, hBl, ⟨f3, hB3⟩, hRt, ⟨f4, hB4⟩, hkD, hn34, hDr⟩ := _root_.id hK
        obtain ⟨hg1, hg2, hg3, hg4, hg5, hg6, hg7, hg8, hgL, hgS, hgR, hgI, hgN, hg0⟩ := _root_.id hG
        refine v_icmp_ne (tgt := 45) dX11_isConsistent_38 (by decide) (fun h38 => ?_) (fun h38 => ?_)
        · exact absurd rfl h38
        · refine v_iconst (v := 1) dX11_isConsistent_41 (by decide) ?_
          refine v_goto (tgt := 46) dX11_isConsistent_42 (by decide) ?_
          exact v_zret dX11_isConsistent_46 rfl (by first | rfl | assumption) ⟨rfl, hP, hF9⟩ (by omega) (by omega)
theorem dX11_errorPosition_0 : decode cX11_errorPosition 0 = .ok (.aload_n 0, 1) := by decide +kernel
theorem dX11_errorPosition_1 : decode cX11_errorPosition 1 = .ok (.getfield 41, 3) := by decide +kernel
theorem dX11_errorPosition_4 : decode cX11_errorPosition 4 = .ok (.iconst (-1), 1) := by decide +kernel
theorem dX11_errorPosition_5 : decode cX11_errorPosition 5 = .ok (.if_icmp .ne 14, 3) := by decide +kernel
theorem dX11_errorPosition_8 : decode cX11_errorPosition 8 = .ok (.new 224, 3) := by decide +kernel
theorem dX11_errorPosition_11 : decode cX11_errorPosition 11 = .ok (.dup, 1) := by decide +kernel
theorem dX11_errorPosition_12 : decode cX11_errorPosition 12 = .ok (.ldc_w 383, 3) := by decide +kernel
theorem dX11_errorPosition_15 : decode cX11_errorPosition 15 = .ok (.invokespecial 228, 3) := by decide +kernel
theorem dX11_errorPosition_18 : decode cX11_errorPosition 18 = .ok (.athrow, 1) := by decide +kernel
theorem dX11_errorPosition_19 : decode cX11_errorPosition 19 = .ok (.aload_n 0, 1) := by decide +kernel
theorem dX11_errorPosition_20 : decode cX11_errorPosition 20 = .ok (.getfield 41, 3) := by decide +kernel
theorem dX11_errorPosition_23 : decode cX11_errorPosition 23 = .ok (.ireturn, 1) := by decide +kernel
set_option maxRecDepth 100000 in
set_option maxHeartbeats 4000000 in
theorem f_errorPosition {l : Launch} {g : Nat → Nat} {M : LH} (htr : l.stackTraces = false) {kd : Nat → Nat} {p : Nat} {q a : Nat → Nat} {e8 : Int32 → Nat} {v : Int32 → Int32} {sv : Int32} {sa : Int32 → Int32} {ch : Int32} {pa tx : Int32 → Int32} {tn : Int32} {Ls : List Int32} {ea fl : Int32} (hP : Pg kd M p q a e8 v sv sa ch pa tx tn Ls ea fl) : K_X11_errorPosition l g 5 2 12 [.ref p] M (RI (fun x M9 => ¬ ea = -1 ∧ x = ea ∧ Pg kd M9 p q a e8 v sv sa ch pa tx tn Ls ea fl ∧ F30 kd M M9) (fun E M9 => ea = -1 ∧ E = exV 3 ∧ Pg kd M9 p q a e8 v sv sa ch pa tx tn Ls ea fl ∧ F30 kd M M9)) := by
  refine Ko_X11_errorPosition htr (fun X => ?_)
  obtain ⟨hs, old, hB, hR⟩ := _root_.id hP
  obtain ⟨hO, hE8, hkp, hk3, ⟨ad, sl, le, fg, tp, F, hC⟩, hK, hS2, hS3, hS8, hRO⟩ := _root_.id hB
  obtain ⟨hSt, hRo, hSR, hLR, hSl, hLe, hkd, hinj, ⟨hfg, hRd, hSd, hLt⟩, hG⟩ := _root_.id hC
  obtain ⟨hDk, hDs, ⟨f1, hB1⟩, ⟨f2, hB2⟩, hBl, ⟨f3, hB3⟩, hRt, ⟨f4, hB4⟩, hkD, hn34, hDr⟩ := _root_.id hK
  obtain ⟨hg1, hg2, hg3, hg4, hg5, hg6, hg7, hg8, hgL, hgS, hgR, hgI, hgN, hg0⟩ := _root_.id hG
  refine v_aload_n dX11_errorPosition_0 rfl rfl ?_
  refine gf_X11_41 dX11_errorPosition_1 rfl hO ?_
  refine v_iconst (v := (-1)) dX11_errorPosition_4 (by decide) ?_
  refine v_icmp_ne (tgt := 19) dX11_errorPosition_5 (by decide) (fun h5 => ?_) (fun h5 => ?_)
  · refine v_aload_n dX11_errorPosition_19 rfl rfl ?_
    refine gf_X11_41 dX11_errorPosition_20 rfl hO ?_
    exact v_iret dX11_errorPosition_23 rfl ⟨(by assumption), rfl, hP, F30.rf⟩ (by omega) (by omega)
  · exact th_X11_224_383 dX11_errorPosition_8 dX11_errorPosition_11 dX11_errorPosition_12 dX11_errorPosition_15 dX11_errorPosition_18 rfl (Nat.le_of_ble_eq_true rfl) ⟨(by first | assumption | exact Classical.not_not.mp (by assumption)), rfl, hP, F30.rf⟩ (by omega) (by omega)
theorem dX11_failedCommand_0 : decode cX11_failedCommand 0 = .ok (.aload_n 0, 1) := by decide +kernel
theorem dX11_failedCommand_1 : decode cX11_failedCommand 1 = .ok (.getfield 45, 3) := by decide +kernel
theorem dX11_failedCommand_4 : decode cX11_failedCommand 4 = .ok (.iconst (-1), 1) := by decide +kernel
theorem dX11_failedCommand_5 : decode cX11_failedCommand 5 = .ok (.if_icmp .ne 14, 3) := by decide +kernel
theorem dX11_failedCommand_8 : decode cX11_failedCommand 8 = .ok (.new 224, 3) := by decide +kernel
theorem dX11_failedCommand_11 : decode cX11_failedCommand 11 = .ok (.dup, 1) := by decide +kernel
theorem dX11_failedCommand_12 : decode cX11_failedCommand 12 = .ok (.ldc_w 385, 3) := by decide +kernel
theorem dX11_failedCommand_15 : decode cX11_failedCommand 15 = .ok (.invokespecial 228, 3) := by decide +kernel
theorem dX11_failedCommand_18 : decode cX11_failedCommand 18 = .ok (.athrow, 1) := by decide +kernel
theorem dX11_failedCommand_19 : decode cX11_failedCommand 19 = .ok (.aload_n 0, 1) := by decide +kernel
theorem dX11_failedCommand_20 : decode cX11_failedCommand 20 = .ok (.getfield 45, 3) := by decide +kernel
theorem dX11_failedCommand_23 : decode cX11_failedCommand 23 = .ok (.ireturn, 1) := by decide +kernel
set_option maxRecDepth 100000 in
set_option maxHeartbeats 4000000 in
theorem f_failedCommand {l : Launch} {g : Nat → Nat} {M : LH} (htr : l.stackTraces = false) {kd : Nat → Nat} {p : Nat} {q a : Nat → Nat} {e8 : Int32 → Nat} {v : Int32 → Int32} {sv : Int32} {sa : Int32 → Int32} {ch : Int32} {pa tx : Int32 → Int32} {tn : Int32} {Ls : List Int32} {ea fl : Int32} (hP : Pg kd M p q a e8 v sv sa ch pa tx tn Ls ea fl) : K_X11_failedCommand l g 5 2 12 [.ref p] M (RI (fun x M9 => ¬ fl = -1 ∧ x = fl ∧ Pg kd M9 p q a e8 v sv sa ch pa tx tn Ls ea fl ∧ F30 kd M M9) (fun E M9 => fl = -1 ∧ E = exV 3 ∧ Pg kd M9 p q a e8 v sv sa ch pa tx tn Ls ea fl ∧ F30 kd M M9)) := by
  refine Ko_X11_failedCommand htr (fun X => ?_)
  obtain ⟨hs, old, hB, hR⟩ := _root_.id hP
  obtain ⟨hO, hE8, hkp, hk3, ⟨ad, sl, le, fg, tp, F, hC⟩, hK, hS2, hS3, hS8, hRO⟩ := _root_.id hB
  obtain ⟨hSt, hRo, hSR, hLR, hSl, hLe, hkd, hinj, ⟨hfg, hRd, hSd, hLt⟩, hG⟩ := _root_.id hC
  obtain ⟨hDk, hDs, ⟨f1, hB1⟩, ⟨f2, hB2⟩, hBl, ⟨f3, hB3⟩, hRt, ⟨f4, hB4⟩, hkD, hn34, hDr⟩ := _root_.id hK
  obtain ⟨hg1, hg2, hg3, hg4, hg5, hg6, hg7, hg8, hgL, hgS, hgR, hgI, hgN, hg0⟩ := _root_.id hG
  refine v_aload_n dX11_failedCommand_0 rfl rfl ?_
  refine gf_X11_45 dX11_failedCommand_1 rfl hO ?_
  refine v_iconst (v := (-1)) dX11_failedCommand_4 (by decide) ?_
  refine v_icmp_ne (tgt := 19) dX11_failedCommand_5 (by decide) (fun h5 => ?_) (fun h5 => ?_)
  · refine v_aload_n dX11_failedCommand_19 rfl rfl ?_
    refine gf_X11_45 dX11_failedCommand_20 rfl hO ?_
    exact v_iret dX11_failedCommand_23 rfl ⟨(by assumption), rfl, hP, F30.rf⟩ (by omega) (by omega)
  · exact th_X11_224_385 dX11_failedCommand_8 dX11_failedCommand_11 dX11_failedCommand_12 dX11_failedCommand_15 dX11_failedCommand_18 rfl (Nat.le_of_ble_eq_true rfl) ⟨(by first | assumption | exact Classical.not_not.mp (by assumption)), rfl, hP, F30.rf⟩ (by omega) (by omega)
