/-! ===== constructors: Desk, ScriptReader ===== -/
theorem Gw.tr {a : Nat} {M0 M1 M2 : LH} (h : Gw a M0 M1) (h2 : Gw a M1 M2) : Gw a M0 M2 := ⟨fun x e hx n => h2.1 x e (h.1 x e hx n) n, h2.2⟩
/-- what was there keeps its region -/
def Kp (M : LH) (kd kd' : Nat → Nat) : Prop := ∀ x e, M x = some e → kd' x = kd x
theorem Gw.tk {a s : Nat} {M M' : LH} {kd kd' : Nat → Nat} (h : Gw a M M') (k : Kp M kd kd') (hs : ¬ kd a = s) : Tp kd kd' s M M' := fun x e hx hM => ⟨h.1 x e hM (fun z => hs (by rw [← z]; exact hx)), (k x e hM).trans hx⟩
theorem Kp.kn {M : LH} {kd : Nat → Nat} {r : Nat} : Kp M kd (kn kd M r) := fun _ _ h => kn_o h
theorem Kp.tr {a : Nat} {M M' : LH} {k1 k2 k3 : Nat → Nat} (h : Kp M k1 k2) (g : Gw a M M') (h2 : Kp M' k2 k3) (ha : ∀ e, M a = some e → k3 a = k2 a) : Kp M k1 k3 := fun x e hx => by
  by_cases z : x = a
  · rw [z] at hx ⊢
    exact (ha e hx).trans (h a e hx)
  · exact (h2 x e (g.1 x e hx z)).trans (h x e hx)
theorem ob3_2 {f g : List Value} : ob 3 f ≠ ob 2 g := ob_ob (by decide)
theorem ob1_2 {f g : List Value} : ob 1 f ≠ ob 2 g := ob_ob (by decide)
theorem ob5_2 {f g : List Value} : ob 5 f ≠ ob 2 g := ob_ob (by decide)
theorem dX3_init_0 : decode cX3_init 0 = .ok (.aload_n 0, 1) := by decide +kernel
theorem dX3_init_1 : decode cX3_init 1 = .ok (.invokespecial 3, 3) := by decide +kernel
theorem dX3_init_4 : decode cX3_init 4 = .ok (.aload_n 0, 1) := by decide +kernel
theorem dX3_init_5 : decode cX3_init 5 = .ok (.new 9, 3) := by decide +kernel
theorem dX3_init_8 : decode cX3_init 8 = .ok (.dup, 1) := by decide +kernel
theorem dX3_init_9 : decode cX3_init 9 = .ok (.invokespecial 11, 3) := by decide +kernel
theorem dX3_init_12 : decode cX3_init 12 = .ok (.putfield 12, 3) := by decide +kernel
theorem dX3_init_15 : decode cX3_init 15 = .ok (.aload_n 0, 1) := by decide +kernel
theorem dX3_init_16 : decode cX3_init 16 = .ok (.new 18, 3) := by decide +kernel
theorem dX3_init_19 : decode cX3_init 19 = .ok (.dup, 1) := by decide +kernel
theorem dX3_init_20 : decode cX3_init 20 = .ok (.invokespecial 20, 3) := by decide +kernel
theorem dX3_init_23 : decode cX3_init 23 = .ok (.putfield 21, 3) := by decide +kernel
theorem dX3_init_26 : decode cX3_init 26 = .ok (.aload_n 0, 1) := by decide +kernel
theorem dX3_init_27 : decode cX3_init 27 = .ok (.new 25, 3) := by decide +kernel
theorem dX3_init_30 : decode cX3_init 30 = .ok (.dup, 1) := by decide +kernel
theorem dX3_init_31 : decode cX3_init 31 = .ok (.invokespecial 27, 3) := by decide +kernel
theorem dX3_init_34 : decode cX3_init 34 = .ok (.putfield 28, 3) := by decide +kernel
theorem dX3_init_37 : decode cX3_init 37 = .ok (.aload_n 0, 1) := by decide +kernel
theorem dX3_init_38 : decode cX3_init 38 = .ok (.new 32, 3) := by decide +kernel
theorem dX3_init_41 : decode cX3_init 41 = .ok (.dup, 1) := by decide +kernel
theorem dX3_init_42 : decode cX3_init 42 = .ok (.invokespecial 34, 3) := by decide +kernel
theorem dX3_init_45 : decode cX3_init 45 = .ok (.putfield 35, 3) := by decide +kernel
theorem dX3_init_48 : decode cX3_init 48 = .ok (.return_, 1) := by decide +kernel
set_option maxRecDepth 100000 in
set_option maxHeartbeats 4000000 in
theorem c_newDesk {l : Launch} {g : Nat → Nat} {M : LH} (htr : l.stackTraces = false) {kd : Nat → Nat} {a : Nat} (hA : M a = some (ob 2 [.null, .null, .null, .null])) (hk : kd a = 20) : K_X3_init l g 2 30 1300 [.ref a] M (RV (fun M9 => ∃ (kd' : Nat → Nat) (aa : Nat) (q : Nat → Nat), Kp M kd kd' ∧ q 0 = a ∧ StX kd' 1 M9 aa (fun _ => 0) ∧ Dk kd' 20 1 M9 aa q ∧ Gw a M M9) nX) := by
  refine Ko_X3_init htr (fun X => ?_)
  have hG := Gw.rf hA
  have hA0 := hA
  refine v_aload_n dX3_init_0 rfl rfl ?_
  refine oi_X3_3 dX3_init_1 rfl (Nat.le_of_ble_eq_true rfl) ?_
  refine v_aload_n dX3_init_4 rfl rfl ?_
  refine vn_X3_9 dX3_init_5 rfl (by omega) (by omega) (fun q5 n5 => ?_)
  have xa := ne_nn hA n5
  have hA := up_f (e' := (ob 8 [.int 0, .null, .int 0, .null, .int 0, .null, .int 0, .int 0, .int 0, .int 0, .int 0, .int 0, .int 0])) hA n5
  have f5 := n5
  have hG := hG.new (e := (ob 8 [.int 0, .null, .int 0, .null, .int 0, .null, .int 0, .int 0, .int 0, .int 0, .int 0, .int 0, .int 0])) n5
  refine v_dup dX3_init_8 rfl ?_
  refine ki_X3_11 dX3_init_9 rfl (c_newState htr (kd := fun x => if x = q5 then 1 else kd x) (r := 1) hup_s (if_pos rfl)) (Nat.le_of_ble_eq_true rfl) (by omega) (by omega) (Nat.le_of_ble_eq_true rfl) (fun MS h9 => ?_) (fun _ _ h9 => h9.elim)
  obtain ⟨hX, hGs⟩ := h9
  have hG := hG.sub f5 hGs
  have hA := hGs.1 _ _ hA xa
  have hB := Gw.rf hA
  have hAS := hA
  refine pF_X3_12 dX3_init_12 rfl rfl hA ?_
  refine V.ab (P := fun M1 => M1 a = some (ob 2 [.ref q5, .null, .null, .null]) ∧ Gw a MS M1) ⟨hup_s, hB.at⟩ (fun M1 h1 => ?_)
  obtain ⟨hA, hB⟩ := h1
  refine v_aload_n dX3_init_15 rfl rfl ?_
  refine vn_X3_18 dX3_init_16 rfl (by omega) (by omega) (fun q16 n16 => ?_)
  have f16 := hB.fr n16
  have xhA := ne_nn hA n16
  have hA := up_f (e' := (ob 3 [.null, .null])) hA n16
  have hB := hB.new (e := (ob 3 [.null, .null])) n16
  refine v_dup dX3_init_19 rfl ?_
  refine ki_X3_20 dX3_init_20 rfl (c_newDist htr hup_s) (Nat.le_of_ble_eq_true rfl) (by omega) (by omega) (Nat.le_of_ble_eq_true rfl) (fun M9 h9 => ?_) (fun _ _ h9 => h9.elim)
  obtain ⟨d1, d2, a1, a2, dne, c0, c1, c2, gD⟩ := h9
  have b1 := hB.fr a1
  have b2 := hB.fr a2
  have hA := gD.1 _ _ hA xhA
  have hB := hB.sub f16 gD
  refine pF_X3_21 dX3_init_23 rfl rfl hA ?_
  refine V.ab (P := fun M1 => M1 a = some (ob 2 [.ref q5, .ref q16, .null, .null]) ∧ M1 q16 = some (ob 3 [.ref d1, .ref d2]) ∧ M1 d1 = some (ia 49 (fun _ => 0)) ∧ M1 d2 = some (ia 49 (fun _ => 0)) ∧ Gw a MS M1) ⟨hup_s, up_k c0 hA ob3_2, up_k c1 hA ob_ia.symm, up_k c2 hA ob_ia.symm, hB.at⟩ (fun M1 h1 => ?_)
  obtain ⟨hA, hd, hd1, hd2, hB⟩ := h1
  refine v_aload_n dX3_init_26 rfl rfl ?_
  refine vn_X3_25 dX3_init_27 rfl (by omega) (by omega) (fun q27 n27 => ?_)
  have f27 := hB.fr n27
  have xhA := ne_nn hA n27
  have xhd := ne_nn hd n27
  have xhd1 := ne_nn hd1 n27
  have xhd2 := ne_nn hd2 n27
  have hA := up_f (e' := (ob 1 [.null])) hA n27
  have hd := up_f (e' := (ob 1 [.null])) hd n27
  have hd1 := up_f (e' := (ob 1 [.null])) hd1 n27
  have hd2 := up_f (e' := (ob 1 [.null])) hd2 n27
  have hB := hB.new (e := (ob 1 [.null])) n27
  refine v_dup dX3_init_30 rfl ?_
  refine ki_X3_27 dX3_init_31 rfl (c_newBest htr hup_s) (Nat.le_of_ble_eq_true rfl) (by omega) (by omega) (Nat.le_of_ble_eq_true rfl) (fun M9 h9 => ?_) (fun _ _ h9 => h9.elim)
  obtain ⟨l1, a1, c0, c1, gD⟩ := h9
  have b3 := hB.fr a1
  have hA := gD.1 _ _ hA xhA
  have hd := gD.1 _ _ hd xhd
  have hd1 := gD.1 _ _ hd1 xhd1
  have hd2 := gD.1 _ _ hd2 xhd2
  have hB := hB.sub f27 gD
  refine pF_X3_28 dX3_init_34 rfl rfl hA ?_
  refine V.ab (P := fun M1 => M1 a = some (ob 2 [.ref q5, .ref q16, .ref q27, .null]) ∧ M1 q16 = some (ob 3 [.ref d1, .ref d2]) ∧ M1 d1 = some (ia 49 (fun _ => 0)) ∧ M1 d2 = some (ia 49 (fun _ => 0)) ∧ M1 q27 = some (ob 1 [.ref l1]) ∧ M1 l1 = some (ia 31 (fun _ => 0)) ∧ Gw a MS M1) ⟨hup_s, up_k hd hA ob3_2, up_k hd1 hA ob_ia.symm, up_k hd2 hA ob_ia.symm, up_k c0 hA ob1_2, up_k c1 hA ob_ia.symm, hB.at⟩ (fun M1 h1 => ?_)
  obtain ⟨hA, hd, hd1, hd2, hl, hl1, hB⟩ := h1
  refine v_aload_n dX3_init_37 rfl rfl ?_
  refine vn_X3_32 dX3_init_38 rfl (by omega) (by omega) (fun q38 n38 => ?_)
  have f38 := hB.fr n38
  have xhA := ne_nn hA n38
  have xhd := ne_nn hd n38
  have xhd1 := ne_nn hd1 n38
  have xhd2 := ne_nn hd2 n38
  have xhl := ne_nn hl n38
  have xhl1 := ne_nn hl1 n38
  have hA := up_f (e' := (ob 5 [.null])) hA n38
  have hd := up_f (e' := (ob 5 [.null])) hd n38
  have hd1 := up_f (e' := (ob 5 [.null])) hd1 n38
  have hd2 := up_f (e' := (ob 5 [.null])) hd2 n38
  have hl := up_f (e' := (ob 5 [.null])) hl n38
  have hl1 := up_f (e' := (ob 5 [.null])) hl1 n38
  have hB := hB.new (e := (ob 5 [.null])) n38
  refine v_dup dX3_init_41 rfl ?_
  refine ki_X3_34 dX3_init_42 rfl (c_newTrips htr hup_s) (Nat.le_of_ble_eq_true rfl) (by omega) (by omega) (Nat.le_of_ble_eq_true rfl) (fun M9 h9 => ?_) (fun _ _ h9 => h9.elim)
  obtain ⟨t1, a1, c0, c1, gD⟩ := h9
  have b4 := hB.fr a1
  have hA := gD.1 _ _ hA xhA
  have hd := gD.1 _ _ hd xhd
  have hd1 := gD.1 _ _ hd1 xhd1
  have hd2 := gD.1 _ _ hd2 xhd2
  have hl := gD.1 _ _ hl xhl
  have hl1 := gD.1 _ _ hl1 xhl1
  have hB := hB.sub f38 gD
  refine pF_X3_35 dX3_init_45 rfl rfl hA ?_
  refine V.ab (P := fun M1 => M1 a = some (ob 2 [.ref q5, .ref q16, .ref q27, .ref q38]) ∧ M1 q16 = some (ob 3 [.ref d1, .ref d2]) ∧ M1 d1 = some (ia 49 (fun _ => 0)) ∧ M1 d2 = some (ia 49 (fun _ => 0)) ∧ M1 q27 = some (ob 1 [.ref l1]) ∧ M1 l1 = some (ia 31 (fun _ => 0)) ∧ M1 q38 = some (ob 5 [.ref t1]) ∧ M1 t1 = some (ia 896 (fun _ => 0)) ∧ Gw a MS M1) ⟨hup_s, up_k hd hA ob3_2, up_k hd1 hA ob_ia.symm, up_k hd2 hA ob_ia.symm, up_k hl hA ob1_2, up_k hl1 hA ob_ia.symm, up_k c0 hA ob5_2, up_k c1 hA ob_ia.symm, hB.at⟩ (fun M1 h1 => ?_)
  obtain ⟨hA, hd, hd1, hd2, hl, hl1, ht, ht1, hB⟩ := h1
  exact v_vret dX3_init_48 rfl (by
    have ka1 : kn (fun x => if x = q5 then 1 else kd x) (hup M q5 (ob 8 [.int 0, .null, .int 0, .null, .int 0, .null, .int 0, .int 0, .int 0, .int 0, .int 0, .int 0, .int 0])) 1 a = 20 := (kn_o (up_f hA0 f5)).trans ((if_neg xa).trans hk)
    have ka : kn (kn (fun x => if x = q5 then 1 else kd x) (hup M q5 (ob 8 [.int 0, .null, .int 0, .null, .int 0, .null, .int 0, .int 0, .int 0, .int 0, .int 0, .int 0, .int 0])) 1) MS 20 a = 20 := (kn_o hAS).trans ka1
    refine ⟨_, q5, fun n => ([a, 0, q16, d1, d2, q27, l1, q38, t1] : List Nat).getD n 0, ?_, rfl, hX.tp (hB.tk Kp.kn (fun z => by rw [ka1] at z; exact absurd z (by decide))), ⟨hA, hd, ⟨_, hd1⟩, ⟨_, hd2⟩, hl, ⟨_, hl1⟩, ht, ⟨_, ht1⟩, ⟨ka, kn_n f16, kn_n b1, kn_n b2, kn_n f27, kn_n b3, kn_n f38, kn_n b4⟩, dne, by decide⟩, hG.tr hB⟩
    intro x e hx
    by_cases z : x = a
    · rw [z, ka, hk]
    · have x5 : ¬ x = q5 := ne_nn hx f5
      exact (kn_o (hG.1 x e hx z)).trans ((kn_o (up_f hx f5)).trans (if_neg x5))) (by omega) (by omega)
theorem dX7_init_0 : decode cX7_init 0 = .ok (.aload_n 0, 1) := by decide +kernel
theorem dX7_init_1 : decode cX7_init 1 = .ok (.invokespecial 3, 3) := by decide +kernel
theorem dX7_init_4 : decode cX7_init 4 = .ok (.aload_n 0, 1) := by decide +kernel
theorem dX7_init_5 : decode cX7_init 5 = .ok (.new 9, 3) := by decide +kernel
theorem dX7_init_8 : decode cX7_init 8 = .ok (.dup, 1) := by decide +kernel
theorem dX7_init_9 : decode cX7_init 9 = .ok (.invokespecial 11, 3) := by decide +kernel
theorem dX7_init_12 : decode cX7_init 12 = .ok (.putfield 12, 3) := by decide +kernel
theorem dX7_init_15 : decode cX7_init 15 = .ok (.aload_n 0, 1) := by decide +kernel
theorem dX7_init_16 : decode cX7_init 16 = .ok (.getstatic 18, 3) := by decide +kernel
theorem dX7_init_19 : decode cX7_init 19 = .ok (.putfield 24, 3) := by decide +kernel
theorem dX7_init_22 : decode cX7_init 22 = .ok (.aload_n 0, 1) := by decide +kernel
theorem dX7_init_23 : decode cX7_init 23 = .ok (.iconst 5, 1) := by decide +kernel
theorem dX7_init_24 : decode cX7_init 24 = .ok (.newarray .int, 2) := by decide +kernel
theorem dX7_init_26 : decode cX7_init 26 = .ok (.putfield 27, 3) := by decide +kernel
theorem dX7_init_29 : decode cX7_init 29 = .ok (.return_, 1) := by decide +kernel
set_option maxRecDepth 100000 in
set_option maxHeartbeats 4000000 in
theorem c_newReader {l : Launch} {g : Nat → Nat} {M : LH} (htr : l.stackTraces = false) {a : Nat} (hA : M a = some (ob 6 [.null, .null, .null, .int 0, .int 0])) : K_X7_init l g 2 3 25 [.ref a] M (RV (fun M9 => ∃ b v1 nb, M b = none ∧ M v1 = none ∧ M nb = none ∧ M9 a = some (ob 6 [.ref b, .ref (g 10), .ref nb, .int 0, .int 0]) ∧ M9 b = some (ob 0 [.ref v1, .int 0, .int 0, .int 0]) ∧ M9 v1 = some (ba 16 (fun _ => 0)) ∧ M9 nb = some (ia 5 (fun _ => 0)) ∧ Gw a M M9) nX) := by
  refine Ko_X7_init htr (fun X => ?_)
  have hG := Gw.rf hA
  refine v_aload_n dX7_init_0 rfl rfl ?_
  refine oi_X7_3 dX7_init_1 rfl (Nat.le_of_ble_eq_true rfl) ?_
  refine v_aload_n dX7_init_4 rfl rfl ?_
  refine vn_X7_9 dX7_init_5 rfl (by omega) (by omega) (fun q5 n5 => ?_)
  have f5 := hG.fr n5
  have xhA := ne_nn hA n5
  have hA := up_f (e' := (ob 0 [.null, .int 0, .int 0, .int 0])) hA n5
  have hG := hG.new (e := (ob 0 [.null, .int 0, .int 0, .int 0])) n5
  refine v_dup dX7_init_8 rfl ?_
  refine ki_X7_11 dX7_init_9 rfl (c_newSb htr hup_s) (Nat.le_of_ble_eq_true rfl) (by omega) (by omega) (Nat.le_of_ble_eq_true rfl) (fun M9 h9 => ?_) (fun _ _ h9 => h9.elim)
  obtain ⟨v1, a1, c0, c1, gD⟩ := h9
  have b1 := hG.fr a1
  have hA := gD.1 _ _ hA xhA
  have hG := hG.sub f5 gD
  refine pF_X7_12 dX7_init_12 rfl rfl hA ?_
  refine V.ab (P := fun M1 => M1 a = some (ob 6 [.ref q5, .null, .null, .int 0, .int 0]) ∧ M1 q5 = some (ob 0 [.ref v1, .int 0, .int 0, .int 0]) ∧ M1 v1 = some (ba 16 (fun _ => 0)) ∧ Gw a M M1) ⟨hup_s, up_k c0 hA (ob_ob (by decide)), up_k c1 hA ba_ob, hG.at⟩ (fun M1 h1 => ?_)
  obtain ⟨hA, hb, hv, hG⟩ := h1
  refine v_aload_n dX7_init_15 rfl rfl ?_
  refine gs_X7_18 dX7_init_16 rfl ?_
  refine pf_X7_24 dX7_init_19 rfl hA ?_
  refine V.ab (P := fun M1 => M1 a = some (ob 6 [.ref q5, .ref (g 10), .null, .int 0, .int 0]) ∧ M1 q5 = some (ob 0 [.ref v1, .int 0, .int 0, .int 0]) ∧ M1 v1 = some (ba 16 (fun _ => 0)) ∧ Gw a M M1) ⟨hup_s, up_k hb hA (ob_ob (by decide)), up_k hv hA ba_ob, hG.at⟩ (fun M1 h1 => ?_)
  obtain ⟨hA, hb, hv, hG⟩ := h1
  refine v_aload_n dX7_init_22 rfl rfl ?_
  refine v_iconst (v := 5) dX7_init_23 (by decide) ?_
  refine vi_nw (N := 5) dX7_init_24 rfl (by decide) (by decide) (by omega) (by omega) (fun q24 n24 => ?_)
  have f24 := hG.fr n24
  have xhA := ne_nn hA n24
  have xhb := ne_nn hb n24
  have xhv := ne_nn hv n24
  have hA := up_f (e' := (ia 5 (fun _ => 0))) hA n24
  have hb := up_f (e' := (ia 5 (fun _ => 0))) hb n24
  have hv := up_f (e' := (ia 5 (fun _ => 0))) hv n24
  have hG := hG.new (e := (ia 5 (fun _ => 0))) n24
  refine pF_X7_27 dX7_init_26 rfl rfl hA ?_
  refine V.ab (P := fun M1 => M1 a = some (ob 6 [.ref q5, .ref (g 10), .ref q24, .int 0, .int 0]) ∧ M1 q5 = some (ob 0 [.ref v1, .int 0, .int 0, .int 0]) ∧ M1 v1 = some (ba 16 (fun _ => 0)) ∧ M1 q24 = some (ia 5 (fun _ => 0)) ∧ Gw a M M1) ⟨hup_s, up_k hb hA (ob_ob (by decide)), up_k hv hA ba_ob, up_k hup_s hA ob_ia.symm, hG.at⟩ (fun M1 h1 => ?_)
  obtain ⟨hA, hb, hv, hn, hG⟩ := h1
  exact v_vret dX7_init_29 rfl ⟨q5, v1, q24, f5, b1, f24, hA, hb, hv, hn, hG⟩ (by omega) (by omega)
