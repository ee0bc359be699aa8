/-! ===== constructors: SledgePost ===== -/
/-- q's region is set -/
def ks (kd : Nat → Nat) (q r : Nat) : Nat → Nat := fun x => if x = q then r else kd x
/-- everything stands, in its region -/
def Al (kd kd' : Nat → Nat) (M M' : LH) : Prop := ∀ s, Tp kd kd' s M M'
section KS
variable {kd kd' : Nat → Nat} {q r x a s : Nat} {M M' M0 : LH} {e : Ec}
theorem ks_s : ks kd q r q = r := if_pos rfl
theorem ks_n (h : ¬ x = q) : ks kd q r x = kd x := if_neg h
theorem Al.rf : Al kd kd M M := fun _ _ _ h k => ⟨k, h⟩
theorem Al.tr {k3 : Nat → Nat} {M3 : LH} (h : Al kd kd' M M') (h2 : Al kd' k3 M' M3) : Al kd k3 M M3 := fun s => Tp.tr (h s) (h2 s)
theorem Al.new (hq : M q = none) : Al kd (ks kd q r) M (hup M q e) := fun s x e hx hM => ⟨up_f hM hq, (ks_n (ne_nn hM hq)).trans hx⟩
/-- an object made in a new cell q -/
theorem Al.mk (hq : M q = none) (g : Gw q (hup M q e) M') (k : Kp (hup M q e) (ks kd q r) kd') : Al kd kd' M M' := fun s x c hx hM => ⟨g.1 x c (up_f hM hq) (ne_nn hM hq), (k x c (up_f hM hq)).trans ((ks_n (ne_nn hM hq)).trans hx)⟩
/-- the object itself is written: what has another region stands -/
theorem Tp.at (ha : kd a = 21) (hs : ¬ s = 21) : Tp kd kd s M (hup M a e) := fun x c hx hM => ⟨(hup_n (fun z => hs (by rw [← hx, z]; exact ha))).trans hM, hx⟩
theorem Al.c (h : Al kd kd' M M') (hM : M x = some e) : M' x = some e := (h _ x e rfl hM).1
theorem Al.k (h : Al kd kd' M M') (hM : M x = some e) : kd' x = kd x := (h _ x e rfl hM).2
theorem Al.kp (h : Al kd kd' M M') : Kp M kd kd' := fun x e hM => (h _ x e rfl hM).2
theorem Al.gw (h : Al kd kd' M M') (g : Gw a M0 M) : Gw a M0 M' := ⟨fun x e hx n => h.c (g.1 x e hx n), by
  obtain ⟨c, hc⟩ := Option.ne_none_iff_exists'.mp g.2
  exact nn (h.c hc)⟩
theorem Kp.al {k0 : Nat → Nat} (h : Kp M0 k0 kd) (g : Gw a M0 M) (l : Al kd kd' M M') (ha : M a = some e) : Kp M0 k0 kd' := fun x c hx => by
  by_cases z : x = a
  · rw [z] at hx ⊢
    exact (l.k ha).trans (h a c hx)
  · exact (l.k (g.1 x c hx z)).trans (h x c hx)
end KS
theorem nl8 {i : Int32} (i0 : 0 ≤ i) (h : i.toNatClampNeg < 8) : i < 8 := by
  rw [← tc_nI i0]
  exact (show nI i.toNatClampNeg < nI 8 from nI_lt h (by omega))
theorem ba_ia {N M : Int32} {F G : Int32 → Int32} : ba N F ≠ ia M G := fun z => by
  have e : (FieldType.byte, N, F) = (FieldType.int, M, G) := Sum.inl.inj z
  exact absurd (congrArg Prod.fst e) (by decide : ¬ FieldType.byte = FieldType.int)
theorem dX11_init_0 : decode cX11_init 0 = .ok (.aload_n 0, 1) := by decide +kernel
theorem dX11_init_1 : decode cX11_init 1 = .ok (.invokespecial 1, 3) := by decide +kernel
theorem dX11_init_4 : decode cX11_init 4 = .ok (.aload_n 0, 1) := by decide +kernel
theorem dX11_init_5 : decode cX11_init 5 = .ok (.new 7, 3) := by decide +kernel
theorem dX11_init_8 : decode cX11_init 8 = .ok (.dup, 1) := by decide +kernel
theorem dX11_init_9 : decode cX11_init 9 = .ok (.invokespecial 9, 3) := by decide +kernel
theorem dX11_init_12 : decode cX11_init 12 = .ok (.putfield 10, 3) := by decide +kernel
theorem dX11_init_15 : decode cX11_init 15 = .ok (.aload_n 0, 1) := by decide +kernel
theorem dX11_init_16 : decode cX11_init 16 = .ok (.aload_n 0, 1) := by decide +kernel
theorem dX11_init_17 : decode cX11_init 17 = .ok (.getfield 10, 3) := by decide +kernel
theorem dX11_init_20 : decode cX11_init 20 = .ok (.getfield 16, 3) := by decide +kernel
theorem dX11_init_23 : decode cX11_init 23 = .ok (.putfield 20, 3) := by decide +kernel
theorem dX11_init_26 : decode cX11_init 26 = .ok (.aload_n 0, 1) := by decide +kernel
theorem dX11_init_27 : decode cX11_init 27 = .ok (.new 21, 3) := by decide +kernel
theorem dX11_init_30 : decode cX11_init 30 = .ok (.dup, 1) := by decide +kernel
theorem dX11_init_31 : decode cX11_init 31 = .ok (.invokespecial 23, 3) := by decide +kernel
theorem dX11_init_34 : decode cX11_init 34 = .ok (.putfield 24, 3) := by decide +kernel
theorem dX11_init_37 : decode cX11_init 37 = .ok (.aload_n 0, 1) := by decide +kernel
theorem dX11_init_38 : decode cX11_init 38 = .ok (.bipush 8, 2) := by decide +kernel
theorem dX11_init_40 : decode cX11_init 40 = .ok (.anewarray 21, 3) := by decide +kernel
theorem dX11_init_43 : decode cX11_init 43 = .ok (.putfield 27, 3) := by decide +kernel
theorem dX11_init_46 : decode cX11_init 46 = .ok (.aload_n 0, 1) := by decide +kernel
theorem dX11_init_47 : decode cX11_init 47 = .ok (.new 31, 3) := by decide +kernel
theorem dX11_init_50 : decode cX11_init 50 = .ok (.dup, 1) := by decide +kernel
theorem dX11_init_51 : decode cX11_init 51 = .ok (.invokespecial 33, 3) := by decide +kernel
theorem dX11_init_54 : decode cX11_init 54 = .ok (.putfield 34, 3) := by decide +kernel
theorem dX11_init_57 : decode cX11_init 57 = .ok (.aload_n 0, 1) := by decide +kernel
theorem dX11_init_58 : decode cX11_init 58 = .ok (.new 21, 3) := by decide +kernel
theorem dX11_init_61 : decode cX11_init 61 = .ok (.dup, 1) := by decide +kernel
theorem dX11_init_62 : decode cX11_init 62 = .ok (.invokespecial 23, 3) := by decide +kernel
theorem dX11_init_65 : decode cX11_init 65 = .ok (.putfield 38, 3) := by decide +kernel
theorem dX11_init_68 : decode cX11_init 68 = .ok (.aload_n 0, 1) := by decide +kernel
theorem dX11_init_69 : decode cX11_init 69 = .ok (.iconst (-1), 1) := by decide +kernel
theorem dX11_init_70 : decode cX11_init 70 = .ok (.putfield 41, 3) := by decide +kernel
theorem dX11_init_73 : decode cX11_init 73 = .ok (.aload_n 0, 1) := by decide +kernel
theorem dX11_init_74 : decode cX11_init 74 = .ok (.iconst (-1), 1) := by decide +kernel
theorem dX11_init_75 : decode cX11_init 75 = .ok (.putfield 45, 3) := by decide +kernel
theorem dX11_init_78 : decode cX11_init 78 = .ok (.aload_n 0, 1) := by decide +kernel
theorem dX11_init_79 : decode cX11_init 79 = .ok (.new 48, 3) := by decide +kernel
theorem dX11_init_82 : decode cX11_init 82 = .ok (.dup, 1) := by decide +kernel
theorem dX11_init_83 : decode cX11_init 83 = .ok (.invokespecial 50, 3) := by decide +kernel
theorem dX11_init_86 : decode cX11_init 86 = .ok (.putfield 51, 3) := by decide +kernel
theorem dX11_init_89 : decode cX11_init 89 = .ok (.iconst 0, 1) := by decide +kernel
theorem dX11_init_90 : decode cX11_init 90 = .ok (.istore_n 1, 1) := by decide +kernel
theorem dX11_init_91 : decode cX11_init 91 = .ok (.iload_n 1, 1) := by decide +kernel
theorem dX11_init_92 : decode cX11_init 92 = .ok (.bipush 8, 2) := by decide +kernel
theorem dX11_init_94 : decode cX11_init 94 = .ok (.if_icmp .ge 22, 3) := by decide +kernel
theorem dX11_init_97 : decode cX11_init 97 = .ok (.aload_n 0, 1) := by decide +kernel
theorem dX11_init_98 : decode cX11_init 98 = .ok (.getfield 27, 3) := by decide +kernel
theorem dX11_init_101 : decode cX11_init 101 = .ok (.iload_n 1, 1) := by decide +kernel
theorem dX11_init_102 : decode cX11_init 102 = .ok (.new 21, 3) := by decide +kernel
theorem dX11_init_105 : decode cX11_init 105 = .ok (.dup, 1) := by decide +kernel
theorem dX11_init_106 : decode cX11_init 106 = .ok (.invokespecial 23, 3) := by decide +kernel
theorem dX11_init_109 : decode cX11_init 109 = .ok (.aastore, 1) := by decide +kernel
theorem dX11_init_110 : decode cX11_init 110 = .ok (.iinc 1 1, 3) := by decide +kernel
theorem dX11_init_113 : decode cX11_init 113 = .ok (.goto (-22), 3) := by decide +kernel
theorem dX11_init_116 : decode cX11_init 116 = .ok (.return_, 1) := by decide +kernel
set_option maxRecDepth 100000 in
set_option maxHeartbeats 4000000 in
theorem c_newPost {l : Launch} {g : Nat → Nat} {M : LH} (htr : l.stackTraces = false) {kd : Nat → Nat} {a : Nat} (hA : M a = some (ob 9 [.null, .null, .null, .int 0, .null, .int 0, .int 0, .null, .null, .int 0, .int 0, .null])) (hk : kd a = 21) : K_X11_init l g 3 228 3182 [.ref a] M (RV (fun M9 => ∃ (kd' : Nat → Nat) (q a' : Nat → Nat) (e8 : Int32 → Nat), Kp M kd kd' ∧ Gw a M M9 ∧ ∀ (sa pa tx : Int32 → Int32), Pg kd' M9 a q a' e8 (fun _ => 0) 0 sa 0 pa tx 0 [] (-1) (-1)) nX) := by
  refine Ko_X11_init htr (fun X => ?_)
  have hA0 := hA
  refine v_aload_n dX11_init_0 rfl rfl ?_
  refine oi_X11_1 dX11_init_1 rfl (Nat.le_of_ble_eq_true rfl) ?_
  refine v_aload_n dX11_init_4 rfl rfl ?_
  refine vn_X11_7 dX11_init_5 rfl (by omega) (by omega) (fun q5 n5 => ?_)
  have f5 := n5
  refine v_dup dX11_init_8 rfl ?_
  refine ki_X11_9 dX11_init_9 rfl (c_newDesk htr (kd := ks kd q5 20) hup_s ks_s) (Nat.le_of_ble_eq_true rfl) (by omega) (by omega) (Nat.le_of_ble_eq_true rfl) (fun M9 h9 => ?_) (fun _ _ h9 => h9.elim)
  obtain ⟨kd1, aa, q, hk1, hq0, hX, hK, gN⟩ := h9
  have hl := Al.mk f5 gN hk1
  have hKp := Kp.al (fun _ _ _ => rfl) (Gw.rf hA0) hl hA0
  have hG := hl.gw (Gw.rf hA0)
  have hka := (hl.k hA0).trans hk
  have hA := hl.c hA0
  rw [← hq0]
  clear gN hl hk1 hq0 n5 f5
  refine pF_X11_10 dX11_init_12 rfl rfl hA ?_
  refine V.ab (P := fun M1 => ∃ kd1, Kp M kd kd1 ∧ kd1 a = 21 ∧ M1 a = some (ob 9 [.ref (q 0), .null, .null, .int 0, .null, .int 0, .int 0, .null, .null, .int 0, .int 0, .null]) ∧ Gw a M M1 ∧ StX kd1 1 M1 aa (fun _ => 0) ∧ Dk kd1 20 1 M1 aa q) ⟨kd1, hKp, hka, hup_s, hG.at, hX.tp (Tp.at hka (by decide)), hK.tp (Tp.at hka (by decide))⟩ (fun M1 h1 => ?_)
  obtain ⟨kd1, hKp, hka, hA, hG, hX, hK⟩ := h1
  have hDk := hK.1
  refine v_aload_n dX11_init_15 rfl rfl ?_
  refine v_aload_n dX11_init_16 rfl rfl ?_
  refine gf_X11_10 dX11_init_17 rfl hA ?_
  refine gf_X11_16 dX11_init_20 rfl hDk ?_
  refine pF_X11_20 dX11_init_23 rfl rfl hA ?_
  refine V.ab (P := fun M1 => ∃ kd1, Kp M kd kd1 ∧ kd1 a = 21 ∧ M1 a = some (ob 9 [.ref (q 0), .ref aa, .null, .int 0, .null, .int 0, .int 0, .null, .null, .int 0, .int 0, .null]) ∧ Gw a M M1 ∧ StX kd1 1 M1 aa (fun _ => 0) ∧ Dk kd1 20 1 M1 aa q) ⟨kd1, hKp, hka, hup_s, hG.at, hX.tp (Tp.at hka (by decide)), hK.tp (Tp.at hka (by decide))⟩ (fun M1 h1 => ?_)
  obtain ⟨kd1, hKp, hka, hA, hG, hX, hK⟩ := h1
  refine v_aload_n dX11_init_26 rfl rfl ?_
  refine vn_X11_21 dX11_init_27 rfl (by omega) (by omega) (fun q27 n27 => ?_)
  have f27 := n27
  refine v_dup dX11_init_30 rfl ?_
  refine ki_X11_23 dX11_init_31 rfl (c_newState htr (kd := ks kd1 q27 2) (r := 2) hup_s ks_s) (Nat.le_of_ble_eq_true rfl) (by omega) (by omega) (Nat.le_of_ble_eq_true rfl) (fun M9 h9 => ?_) (fun _ _ h9 => h9.elim)
  obtain ⟨hN, gN⟩ := h9
  have hl := Al.mk (r := 2) (kd := kd1) f27 gN (Kp.kn (r := 2))
  have hka0 := hka
  have hKp := hKp.al hG hl hA
  have hG := hl.gw hG
  have hka := (hl.k hA).trans hka
  have hA := hl.c hA
  have hX := hX.tp (hl 1)
  have hK := hK.tp (hl 20)
  clear gN hl hka0
  generalize kn (ks kd1 q27 2) (hup M1 q27 (ob 8 [.int 0, .null, .int 0, .null, .int 0, .null, .int 0, .int 0, .int 0, .int 0, .int 0, .int 0, .int 0])) 2 = kd1 at hKp hka hN hX hK
  have hS := hN
  clear hN
  obtain ⟨s2, es2⟩ : ∃ s2, s2 = q27 := ⟨_, rfl⟩
  rw [← es2] at hS ⊢
  clear es2 n27 f27
  refine pF_X11_24 dX11_init_34 rfl rfl hA ?_
  refine V.ab (P := fun M1 => ∃ kd1, Kp M kd kd1 ∧ kd1 a = 21 ∧ M1 a = some (ob 9 [.ref (q 0), .ref aa, .ref s2, .int 0, .null, .int 0, .int 0, .null, .null, .int 0, .int 0, .null]) ∧ Gw a M M1 ∧ StX kd1 1 M1 aa (fun _ => 0) ∧ Dk kd1 20 1 M1 aa q ∧ StX kd1 2 M1 s2 (fun _ => 0)) ⟨kd1, hKp, hka, hup_s, hG.at, hX.tp (Tp.at hka (by decide)), hK.tp (Tp.at hka (by decide)), hS.tp (Tp.at hka (by decide))⟩ (fun M1 h1 => ?_)
  obtain ⟨kd1, hKp, hka, hA, hG, hX, hK, hS⟩ := h1
  refine v_aload_n dX11_init_37 rfl rfl ?_
  refine v_bipush (v := (8)) dX11_init_38 (by decide) ?_
  refine vq_nw_X11_21 (N := 8) dX11_init_40 rfl rfl (by decide) (by decide) (by omega) (by omega) (fun q40 n40 => ?_)
  have hM40 := hG.fr n40
  have hl : Al kd1 (ks kd1 q40 21) _ _ := Al.new (e := ra "SledgePost$State" 8 (fun _ => none)) n40
  have hKp := hKp.al hG hl hA
  have hG := hl.gw hG
  have hka := (hl.k hA).trans hka
  have hA := hl.c hA
  have hX := hX.tp (hl 1)
  have hK := hK.tp (hl 20)
  have hS := hS.tp (hl 2)
  have hE : _ ∧ ks kd1 q40 21 q40 = 21 := ⟨hup_s (M := M1) (a := q40) (e := ra "SledgePost$State" 8 (fun _ => none)), ks_s⟩
  clear hl n40
  generalize ks kd1 q40 21 = kd1 at hKp hka hX hK hS hE
  refine pF_X11_27 dX11_init_43 rfl rfl hA ?_
  refine V.ab (P := fun M1 => ∃ kd1, Kp M kd kd1 ∧ kd1 a = 21 ∧ M1 a = some (ob 9 [.ref (q 0), .ref aa, .ref s2, .int 0, .ref q40, .int 0, .int 0, .null, .null, .int 0, .int 0, .null]) ∧ Gw a M M1 ∧ StX kd1 1 M1 aa (fun _ => 0) ∧ Dk kd1 20 1 M1 aa q ∧ StX kd1 2 M1 s2 (fun _ => 0) ∧ (M1 q40 = some (ra "SledgePost$State" 8 (fun _ => none)) ∧ kd1 q40 = 21)) ⟨kd1, hKp, hka, hup_s, hG.at, hX.tp (Tp.at hka (by decide)), hK.tp (Tp.at hka (by decide)), hS.tp (Tp.at hka (by decide)), And.intro (up_k hE.1 hA ra_ob) hE.2⟩ (fun M1 h1 => ?_)
  obtain ⟨kd1, hKp, hka, hA, hG, hX, hK, hS, hE⟩ := h1
  refine v_aload_n dX11_init_46 rfl rfl ?_
  refine vn_X11_31 dX11_init_47 rfl (by omega) (by omega) (fun q47 n47 => ?_)
  have f47 := n47
  refine v_dup dX11_init_50 rfl ?_
  refine ki_X11_33 dX11_init_51 rfl (c_newReader htr hup_s) (Nat.le_of_ble_eq_true rfl) (by omega) (by omega) (Nat.le_of_ble_eq_true rfl) (fun M9 h9 => ?_) (fun _ _ h9 => h9.elim)
  obtain ⟨b, v1, nb, a1, a2, a3, c0, c1, c2, c3, gN⟩ := h9
  have r1 := ne_of_cell c0 c1 (ob_ob (by decide))
  have r2 := ne_of_cell c0 c2 ba_ob.symm
  have r3 := ne_of_cell c0 c3 ob_ia
  have r4 := ne_of_cell c1 c2 ba_ob.symm
  have r5 := ne_of_cell c1 c3 ob_ia
  have r6 := ne_of_cell c2 c3 ba_ia
  have hl : Al kd1 (ks (ks (ks (ks kd1 nb 22) v1 0) b 23) q47 22) _ _ := fun s x e hx hM => ⟨gN.1 x e (up_f hM f47) (ne_nn hM f47), (ks_n (ne_nn hM f47)).trans ((ks_n (ne_nn (up_f (e' := (ob 6 [.null, .null, .null, .int 0, .int 0])) hM f47) a1)).trans ((ks_n (ne_nn (up_f (e' := (ob 6 [.null, .null, .null, .int 0, .int 0])) hM f47) a2)).trans ((ks_n (ne_nn (up_f (e' := (ob 6 [.null, .null, .null, .int 0, .int 0])) hM f47) a3)).trans hx)))⟩
  have hKp := hKp.al hG hl hA
  have hG := hl.gw hG
  have hka := (hl.k hA).trans hka
  have hA := hl.c hA
  have hX := hX.tp (hl 1)
  have hK := hK.tp (hl 20)
  have hS := hS.tp (hl 2)
  have hE := And.intro (hl.c hE.1) ((hl.k hE.1).trans hE.2)
  have k1 : (ks (ks (ks (ks kd1 nb 22) v1 0) b 23) q47 22) q47 = 22 := ks_s
  have k2 : (ks (ks (ks (ks kd1 nb 22) v1 0) b 23) q47 22) b = 23 := (ks_n (fun z => r1 z.symm)).trans ks_s
  have k3 : (ks (ks (ks (ks kd1 nb 22) v1 0) b 23) q47 22) v1 = 0 := (ks_n (fun z => r2 z.symm)).trans ((ks_n (fun z => r4 z.symm)).trans ks_s)
  have k4 : (ks (ks (ks (ks kd1 nb 22) v1 0) b 23) q47 22) nb = 22 := (ks_n (fun z => r3 z.symm)).trans ((ks_n (fun z => r5 z.symm)).trans ((ks_n (fun z => r6 z.symm)).trans ks_s))
  have hR := And.intro c0 k1
  have hb := And.intro c1 k2
  have hv := And.intro c2 k3
  have hn := And.intro c3 k4
  clear hl gN k1 k2 k3 k4 c0 c1 c2 c3 a1 a2 a3 f47 n47
  generalize (ks (ks (ks (ks kd1 nb 22) v1 0) b 23) q47 22) = kd1 at hKp hka hX hK hS hE hR hb hv hn
  obtain ⟨rd, erd⟩ : ∃ rd, rd = q47 := ⟨_, rfl⟩
  rw [← erd] at hR ⊢
  clear erd
  refine pF_X11_34 dX11_init_54 rfl rfl hA ?_
  refine V.ab (P := fun M1 => ∃ kd1, Kp M kd kd1 ∧ kd1 a = 21 ∧ M1 a = some (ob 9 [.ref (q 0), .ref aa, .ref s2, .int 0, .ref q40, .int 0, .int 0, .ref rd, .null, .int 0, .int 0, .null]) ∧ Gw a M M1 ∧ StX kd1 1 M1 aa (fun _ => 0) ∧ Dk kd1 20 1 M1 aa q ∧ StX kd1 2 M1 s2 (fun _ => 0) ∧ (M1 q40 = some (ra "SledgePost$State" 8 (fun _ => none)) ∧ kd1 q40 = 21) ∧ (M1 rd = some (ob 6 [.ref b, .ref (g 10), .ref nb, .int 0, .int 0]) ∧ kd1 rd = 22) ∧ (M1 b = some (ob 0 [.ref v1, .int 0, .int 0, .int 0]) ∧ kd1 b = 23) ∧ (M1 v1 = some (ba 16 (fun _ => 0)) ∧ kd1 v1 = 0) ∧ (M1 nb = some (ia 5 (fun _ => 0)) ∧ kd1 nb = 22)) ⟨kd1, hKp, hka, hup_s, hG.at, hX.tp (Tp.at hka (by decide)), hK.tp (Tp.at hka (by decide)), hS.tp (Tp.at hka (by decide)), And.intro (up_k hE.1 hA ra_ob) hE.2, (Tp.at hka (by decide) _ _ hR.2 hR.1), (Tp.at hka (by decide) _ _ hb.2 hb.1), (Tp.at hka (by decide) _ _ hv.2 hv.1), (Tp.at hka (by decide) _ _ hn.2 hn.1)⟩ (fun M1 h1 => ?_)
  obtain ⟨kd1, hKp, hka, hA, hG, hX, hK, hS, hE, hR, hb, hv, hn⟩ := h1
  refine v_aload_n dX11_init_57 rfl rfl ?_
  refine vn_X11_21 dX11_init_58 rfl (by omega) (by omega) (fun q58 n58 => ?_)
  have f58 := n58
  refine v_dup dX11_init_61 rfl ?_
  refine ki_X11_23 dX11_init_62 rfl (c_newState htr (kd := ks kd1 q58 3) (r := 3) hup_s ks_s) (Nat.le_of_ble_eq_true rfl) (by omega) (by omega) (Nat.le_of_ble_eq_true rfl) (fun M9 h9 => ?_) (fun _ _ h9 => h9.elim)
  obtain ⟨hN, gN⟩ := h9
  have hl := Al.mk (r := 3) (kd := kd1) f58 gN (Kp.kn (r := 3))
  have hka0 := hka
  have hKp := hKp.al hG hl hA
  have hG := hl.gw hG
  have hka := (hl.k hA).trans hka
  have hA := hl.c hA
  have hX := hX.tp (hl 1)
  have hK := hK.tp (hl 20)
  have hS := hS.tp (hl 2)
  have hE := And.intro (hl.c hE.1) ((hl.k hE.1).trans hE.2)
  have hR := And.intro (hl.c hR.1) ((hl.k hR.1).trans hR.2)
  have hb := And.intro (hl.c hb.1) ((hl.k hb.1).trans hb.2)
  have hv := And.intro (hl.c hv.1) ((hl.k hv.1).trans hv.2)
  have hn := And.intro (hl.c hn.1) ((hl.k hn.1).trans hn.2)
  clear gN hl hka0
  generalize kn (ks kd1 q58 3) (hup M1 q58 (ob 8 [.int 0, .null, .int 0, .null, .int 0, .null, .int 0, .int 0, .int 0, .int 0, .int 0, .int 0, .int 0])) 3 = kd1 at hKp hka hN hX hK hS hE hR hb hv hn
  have hT := hN
  clear hN
  obtain ⟨s3, es3⟩ : ∃ s3, s3 = q58 := ⟨_, rfl⟩
  rw [← es3] at hT ⊢
  clear es3 n58 f58
  refine pF_X11_38 dX11_init_65 rfl rfl hA ?_
  refine V.ab (P := fun M1 => ∃ kd1, Kp M kd kd1 ∧ kd1 a = 21 ∧ M1 a = some (ob 9 [.ref (q 0), .ref aa, .ref s2, .int 0, .ref q40, .int 0, .int 0, .ref rd, .ref s3, .int 0, .int 0, .null]) ∧ Gw a M M1 ∧ StX kd1 1 M1 aa (fun _ => 0) ∧ Dk kd1 20 1 M1 aa q ∧ StX kd1 2 M1 s2 (fun _ => 0) ∧ (M1 q40 = some (ra "SledgePost$State" 8 (fun _ => none)) ∧ kd1 q40 = 21) ∧ (M1 rd = some (ob 6 [.ref b, .ref (g 10), .ref nb, .int 0, .int 0]) ∧ kd1 rd = 22) ∧ (M1 b = some (ob 0 [.ref v1, .int 0, .int 0, .int 0]) ∧ kd1 b = 23) ∧ (M1 v1 = some (ba 16 (fun _ => 0)) ∧ kd1 v1 = 0) ∧ (M1 nb = some (ia 5 (fun _ => 0)) ∧ kd1 nb = 22) ∧ StX kd1 3 M1 s3 (fun _ => 0)) ⟨kd1, hKp, hka, hup_s, hG.at, hX.tp (Tp.at hka (by decide)), hK.tp (Tp.at hka (by decide)), hS.tp (Tp.at hka (by decide)), And.intro (up_k hE.1 hA ra_ob) hE.2, (Tp.at hka (by decide) _ _ hR.2 hR.1), (Tp.at hka (by decide) _ _ hb.2 hb.1), (Tp.at hka (by decide) _ _ hv.2 hv.1), (Tp.at hka (by decide) _ _ hn.2 hn.1), hT.tp (Tp.at hka (by decide))⟩ (fun M1 h1 => ?_)
  obtain ⟨kd1, hKp, hka, hA, hG, hX, hK, hS, hE, hR, hb, hv, hn, hT⟩ := h1
  refine v_aload_n dX11_init_68 rfl rfl ?_
  refine v_iconst (v := (-1)) dX11_init_69 (by decide) ?_
  refine pf_X11_41 dX11_init_70 rfl hA ?_
  refine V.ab (P := fun M1 => ∃ kd1, Kp M kd kd1 ∧ kd1 a = 21 ∧ M1 a = some (ob 9 [.ref (q 0), .ref aa, .ref s2, .int 0, .ref q40, .int 0, .int 0, .ref rd, .ref s3, .int (-1), .int 0, .null]) ∧ Gw a M M1 ∧ StX kd1 1 M1 aa (fun _ => 0) ∧ Dk kd1 20 1 M1 aa q ∧ StX kd1 2 M1 s2 (fun _ => 0) ∧ (M1 q40 = some (ra "SledgePost$State" 8 (fun _ => none)) ∧ kd1 q40 = 21) ∧ (M1 rd = some (ob 6 [.ref b, .ref (g 10), .ref nb, .int 0, .int 0]) ∧ kd1 rd = 22) ∧ (M1 b = some (ob 0 [.ref v1, .int 0, .int 0, .int 0]) ∧ kd1 b = 23) ∧ (M1 v1 = some (ba 16 (fun _ => 0)) ∧ kd1 v1 = 0) ∧ (M1 nb = some (ia 5 (fun _ => 0)) ∧ kd1 nb = 22) ∧ StX kd1 3 M1 s3 (fun _ => 0)) ⟨kd1, hKp, hka, hup_s, hG.at, hX.tp (Tp.at hka (by decide)), hK.tp (Tp.at hka (by decide)), hS.tp (Tp.at hka (by decide)), And.intro (up_k hE.1 hA ra_ob) hE.2, (Tp.at hka (by decide) _ _ hR.2 hR.1), (Tp.at hka (by decide) _ _ hb.2 hb.1), (Tp.at hka (by decide) _ _ hv.2 hv.1), (Tp.at hka (by decide) _ _ hn.2 hn.1), hT.tp (Tp.at hka (by decide))⟩ (fun M1 h1 => ?_)
  obtain ⟨kd1, hKp, hka, hA, hG, hX, hK, hS, hE, hR, hb, hv, hn, hT⟩ := h1
  refine v_aload_n dX11_init_73 rfl rfl ?_
  refine v_iconst (v := (-1)) dX11_init_74 (by decide) ?_
  refine pf_X11_45 dX11_init_75 rfl hA ?_
  refine V.ab (P := fun M1 => ∃ kd1, Kp M kd kd1 ∧ kd1 a = 21 ∧ M1 a = some (ob 9 [.ref (q 0), .ref aa, .ref s2, .int 0, .ref q40, .int 0, .int 0, .ref rd, .ref s3, .int (-1), .int (-1), .null]) ∧ Gw a M M1 ∧ StX kd1 1 M1 aa (fun _ => 0) ∧ Dk kd1 20 1 M1 aa q ∧ StX kd1 2 M1 s2 (fun _ => 0) ∧ (M1 q40 = some (ra "SledgePost$State" 8 (fun _ => none)) ∧ kd1 q40 = 21) ∧ (M1 rd = some (ob 6 [.ref b, .ref (g 10), .ref nb, .int 0, .int 0]) ∧ kd1 rd = 22) ∧ (M1 b = some (ob 0 [.ref v1, .int 0, .int 0, .int 0]) ∧ kd1 b = 23) ∧ (M1 v1 = some (ba 16 (fun _ => 0)) ∧ kd1 v1 = 0) ∧ (M1 nb = some (ia 5 (fun _ => 0)) ∧ kd1 nb = 22) ∧ StX kd1 3 M1 s3 (fun _ => 0)) ⟨kd1, hKp, hka, hup_s, hG.at, hX.tp (Tp.at hka (by decide)), hK.tp (Tp.at hka (by decide)), hS.tp (Tp.at hka (by decide)), And.intro (up_k hE.1 hA ra_ob) hE.2, (Tp.at hka (by decide) _ _ hR.2 hR.1), (Tp.at hka (by decide) _ _ hb.2 hb.1), (Tp.at hka (by decide) _ _ hv.2 hv.1), (Tp.at hka (by decide) _ _ hn.2 hn.1), hT.tp (Tp.at hka (by decide))⟩ (fun M1 h1 => ?_)
  obtain ⟨kd1, hKp, hka, hA, hG, hX, hK, hS, hE, hR, hb, hv, hn, hT⟩ := h1
  refine v_aload_n dX11_init_78 rfl rfl ?_
  refine vn_X11_48 dX11_init_79 rfl (by omega) (by omega) (fun q79 n79 => ?_)
  have f79 := n79
  refine v_dup dX11_init_82 rfl ?_
  refine ki_X11_50 dX11_init_83 rfl (c_newSb htr hup_s) (Nat.le_of_ble_eq_true rfl) (by omega) (by omega) (Nat.le_of_ble_eq_true rfl) (fun M9 h9 => ?_) (fun _ _ h9 => h9.elim)
  obtain ⟨vo, a1, c0, c1, gN⟩ := h9
  have r1 := ne_of_cell c0 c1 ba_ob.symm
  have hl : Al kd1 (ks (ks kd1 vo 0) q79 24) _ _ := fun s x e hx hM => ⟨gN.1 x e (up_f hM f79) (ne_nn hM f79), (ks_n (ne_nn hM f79)).trans ((ks_n (ne_nn (up_f (e' := (ob 0 [.null, .int 0, .int 0, .int 0])) hM f79) a1)).trans hx)⟩
  have hvv := ne_nn (up_f (e' := (ob 0 [.null, .int 0, .int 0, .int 0])) hv.1 f79) a1
  have hKp := hKp.al hG hl hA
  have hG := hl.gw hG
  have hka := (hl.k hA).trans hka
  have hA := hl.c hA
  have hX := hX.tp (hl 1)
  have hK := hK.tp (hl 20)
  have hS := hS.tp (hl 2)
  have hE := And.intro (hl.c hE.1) ((hl.k hE.1).trans hE.2)
  have hR := And.intro (hl.c hR.1) ((hl.k hR.1).trans hR.2)
  have hb := And.intro (hl.c hb.1) ((hl.k hb.1).trans hb.2)
  have hv := And.intro (hl.c hv.1) ((hl.k hv.1).trans hv.2)
  have hn := And.intro (hl.c hn.1) ((hl.k hn.1).trans hn.2)
  have hT := hT.tp (hl 3)
  have k1 : (ks (ks kd1 vo 0) q79 24) q79 = 24 := ks_s
  have k2 : (ks (ks kd1 vo 0) q79 24) vo = 0 := (ks_n (fun z => r1 z.symm)).trans ks_s
  have ho := And.intro c0 k1
  have hvo := And.intro c1 k2
  clear hl gN k1 k2 c0 c1 a1 f79 n79
  generalize (ks (ks kd1 vo 0) q79 24) = kd1 at hKp hka hX hK hS hE hR hb hv hn hT ho hvo
  obtain ⟨ou, eou⟩ : ∃ ou, ou = q79 := ⟨_, rfl⟩
  rw [← eou] at ho ⊢
  clear eou
  refine pF_X11_51 dX11_init_86 rfl rfl hA ?_
  refine V.ab (P := fun M1 => ∃ kd1, Kp M kd kd1 ∧ kd1 a = 21 ∧ M1 a = some (ob 9 [.ref (q 0), .ref aa, .ref s2, .int 0, .ref q40, .int 0, .int 0, .ref rd, .ref s3, .int (-1), .int (-1), .ref ou]) ∧ Gw a M M1 ∧ StX kd1 1 M1 aa (fun _ => 0) ∧ Dk kd1 20 1 M1 aa q ∧ StX kd1 2 M1 s2 (fun _ => 0) ∧ (M1 q40 = some (ra "SledgePost$State" 8 (fun _ => none)) ∧ kd1 q40 = 21) ∧ (M1 rd = some (ob 6 [.ref b, .ref (g 10), .ref nb, .int 0, .int 0]) ∧ kd1 rd = 22) ∧ (M1 b = some (ob 0 [.ref v1, .int 0, .int 0, .int 0]) ∧ kd1 b = 23) ∧ (M1 v1 = some (ba 16 (fun _ => 0)) ∧ kd1 v1 = 0) ∧ (M1 nb = some (ia 5 (fun _ => 0)) ∧ kd1 nb = 22) ∧ StX kd1 3 M1 s3 (fun _ => 0) ∧ (M1 ou = some (ob 0 [.ref vo, .int 0, .int 0, .int 0]) ∧ kd1 ou = 24) ∧ (M1 vo = some (ba 16 (fun _ => 0)) ∧ kd1 vo = 0) ∧ ¬ v1 = vo) ⟨kd1, hKp, hka, hup_s, hG.at, hX.tp (Tp.at hka (by decide)), hK.tp (Tp.at hka (by decide)), hS.tp (Tp.at hka (by decide)), And.intro (up_k hE.1 hA ra_ob) hE.2, (Tp.at hka (by decide) _ _ hR.2 hR.1), (Tp.at hka (by decide) _ _ hb.2 hb.1), (Tp.at hka (by decide) _ _ hv.2 hv.1), (Tp.at hka (by decide) _ _ hn.2 hn.1), hT.tp (Tp.at hka (by decide)), (Tp.at hka (by decide) _ _ ho.2 ho.1), (Tp.at hka (by decide) _ _ hvo.2 hvo.1), hvv⟩ (fun M1 h1 => ?_)
  obtain ⟨kd1, hKp, hka, hA, hG, hX, hK, hS, hE, hR, hb, hv, hn, hT, ho, hvo, hvv⟩ := h1
  refine v_iconst (v := 0) dX11_init_89 (by decide) ?_
  refine v_istore_1 dX11_init_90 ?_
  have h40 : M q40 = none := hM40
  have key : ∀ (d : Nat) (i : Int32), 0 ≤ i → i ≤ 8 → i.toNatClampNeg + d = 8 → ∀ (M1 : LH) (kd1 : Nat → Nat) (G : Int32 → Option Nat), Kp M kd kd1 → kd1 a = 21 → M1 a = some (ob 9 [.ref (q 0), .ref aa, .ref s2, .int 0, .ref q40, .int 0, .int 0, .ref rd, .ref s3, .int (-1), .int (-1), .ref ou]) → Gw a M M1 →
      StX kd1 1 M1 aa (fun _ => 0) →
      Dk kd1 20 1 M1 aa q →
      StX kd1 2 M1 s2 (fun _ => 0) →
      (M1 rd = some (ob 6 [.ref b, .ref (g 10), .ref nb, .int 0, .int 0]) ∧ kd1 rd = 22) →
      (M1 b = some (ob 0 [.ref v1, .int 0, .int 0, .int 0]) ∧ kd1 b = 23) →
      (M1 v1 = some (ba 16 (fun _ => 0)) ∧ kd1 v1 = 0) →
      (M1 nb = some (ia 5 (fun _ => 0)) ∧ kd1 nb = 22) →
      StX kd1 3 M1 s3 (fun _ => 0) →
      (M1 ou = some (ob 0 [.ref vo, .int 0, .int 0, .int 0]) ∧ kd1 ou = 24) →
      (M1 vo = some (ba 16 (fun _ => 0)) ∧ kd1 vo = 0) →
      ¬ v1 = vo →
      (M1 q40 = some (ra "SledgePost$State" 8 G) ∧ kd1 q40 = 21) → (∀ j, 0 ≤ j → j < i → ∃ b9, G j = some b9 ∧ StX kd1 (10 + j.toNatClampNeg) M1 b9 (fun _ => 0)) → V l g yX11_init cX11_init (none) [] 3 228 3182 (RV (fun M9 => ∃ (kd' : Nat → Nat) (q a' : Nat → Nat) (e8 : Int32 → Nat), Kp M kd kd' ∧ Gw a M M9 ∧ ∀ (sa pa tx : Int32 → Int32), Pg kd' M9 a q a' e8 (fun _ => 0) 0 sa 0 pa tx 0 [] (-1) (-1)) nX) X M1 (76 + 19 * i.toNatClampNeg) (1726 + 182 * i.toNatClampNeg) 91 [some (.ref a), some (.int i)] [] := by
    clear hKp hka hA hG hE hX hK hS hR hb hv hn hT ho hvo hvv
    intro d
    induction d with
    | zero =>
      intro i i0 i3 hd M1 kd1 G hKp hka hA hG hX hK hS hR hb hv hn hT ho hvo hvv hE hF
      have e3 : i = 8 := by rw [← tc_nI i0, show i.toNatClampNeg = 8 by omega]; rfl
      subst e3
      refine v_iload_n dX11_init_91 rfl rfl ?_
      refine v_bipush (v := (8)) dX11_init_92 (by decide) ?_
      refine v_icmp_ge (tgt := 116) dX11_init_94 (by decide) (fun h94 => ?_) (fun h94 => ?_)
      · have g8 : ∀ j, 0 ≤ j → j < 8 → G j = some ((G j).getD 0) ∧ StX kd1 (10 + j.toNatClampNeg) M1 ((G j).getD 0) (fun _ => 0) := fun j j0 j1 => by
          obtain ⟨b9, z1, z2⟩ := hF j j0 j1
          rw [z1]
          exact ⟨rfl, z2⟩
        refine V.ro (G' := fun j => some ((G j).getD 0)) hE.1 (fun i hi => (g8 (nI i) (nI_pos' (by have : i < 8 := hi; omega)) (show nI i < nI 8 from nI_lt hi (by omega))).1) ?_
        have t9 : ∀ s, ¬ s = 21 → Tp kd1 kd1 s M1 (hup M1 q40 (ra "SledgePost$State" 8 (fun j => some ((G j).getD 0)))) := fun s hs => Tp.at hE.2 hs
        refine v_vret dX11_init_116 rfl ⟨kd1, q, fun n => ([aa, s2, s3, q40, rd, b, nb, ou] : List Nat).getD n 0, fun j => (G j).getD 0, hKp, ?_, fun sa pa tx => ⟨0, 0, ⟨up_k hA hE.1 ra_ob.symm, hup_s, hka, hE.2, hX.tp (t9 1 (by decide)), hK.tp (t9 20 (by decide)), (hS.tp (t9 2 (by decide))).s, (hT.tp (t9 3 (by decide))).s, fun i i0 i1 => ((g8 i i0 i1).2.tp (t9 _ (by have := tc_lt i0 i1; have e : (8 : Int32).toNatClampNeg = 8 := rfl; omega))).s, ?_⟩, ⟨Or.inl rfl, by decide, fun z => absurd rfl z, by decide, by decide, by decide, by decide, fun k k0 k1 => absurd k1 (Int32.not_lt.mpr k0)⟩⟩⟩ (by omega) (by omega)
        · refine ⟨fun x e hx n => (hup_n (fun z => ?_)).trans (hG.1 x e hx n), nn (up_k hA hE.1 ra_ob.symm)⟩
          rw [z] at hx
          exact nn hx h40
        · have w22 := t9 22 (by decide)
          have w23 := t9 23 (by decide)
          have w24 := t9 24 (by decide)
          have w0 := t9 0 (by decide)
          obtain ⟨-, ⟨f0, hSb, -⟩, -⟩ := SbC_0 (w23 _ _ hb.2 hb.1).1 (w0 _ _ hv.2 hv.1).1
          exact ⟨v1, 0, f0, g 10, 0, 0, fun _ => 0, vo, 0, by decide, ⟨(w22 _ _ hR.2 hR.1).1, (w22 _ _ hn.2 hn.1).1, hSb, fun j j0 j1 => absurd j1 (Int32.not_lt.mpr j0), by decide, hR.2, hn.2, (show ¬ kd1 b = 22 by rw [hb.2]; decide), (by rw [hv.2]; decide)⟩, hb.2, hv.2, SbC_0 (w24 _ _ ho.2 ho.1).1 (w0 _ _ hvo.2 hvo.1).1, ho.2, hvo.2, hvv⟩
      · exact absurd (Int32.le_refl _) h94
    | succ d ih =>
      intro i i0 i3 hd M1 kd1 G hKp hka hA hG hX hK hS hR hb hv hn hT ho hvo hvv hE hF
      have i2 : i < 8 := nl8 i0 (by omega)
      have es : (i + 1).toNatClampNeg = i.toNatClampNeg + 1 := (tc_i i0 (Int32.lt_trans i2 (by decide))).1
      have hi := ih (i + 1) (by clear ih hF hKp hka hA hG hX hK hS hR hb hv hn hT ho hvo hvv hE; lia) (by clear ih hF hKp hka hA hG hX hK hS hR hb hv hn hT ho hvo hvv hE; lia) (by omega)
      rw [es] at hi
      refine v_iload_n dX11_init_91 rfl rfl ?_
      refine v_bipush (v := (8)) dX11_init_92 (by decide) ?_
      refine v_icmp_ge (tgt := 116) dX11_init_94 (by decide) (fun h94 => ?_) (fun h94 => ?_)
      · exact absurd i2 (Int32.not_lt.mpr h94)
      · refine v_aload_n dX11_init_97 rfl rfl ?_
        refine gf_X11_27 dX11_init_98 rfl hA ?_
        refine v_iload_n dX11_init_101 rfl rfl ?_
        refine vn_X11_21 dX11_init_102 rfl (by omega) (by omega) (fun q102 n102 => ?_)
        have f102 := n102
        refine v_dup dX11_init_105 rfl ?_
        refine ki_X11_23 dX11_init_106 rfl (c_newState htr (kd := ks kd1 q102 (10 + i.toNatClampNeg)) (r := 10 + i.toNatClampNeg) hup_s ks_s) (Nat.le_of_ble_eq_true rfl) (by omega) (by omega) (Nat.le_of_ble_eq_true rfl) (fun M9 h9 => ?_) (fun _ _ h9 => h9.elim)
        obtain ⟨hN, gN⟩ := h9
        have hl := Al.mk (r := 10 + i.toNatClampNeg) (kd := kd1) f102 gN (Kp.kn (r := 10 + i.toNatClampNeg))
        have hKp := hKp.al hG hl hA
        have hG := hl.gw hG
        have hka := (hl.k hA).trans hka
        have hA := hl.c hA
        have hE := And.intro (hl.c hE.1) ((hl.k hE.1).trans hE.2)
        have hX := hX.tp (hl 1)
        have hK := hK.tp (hl 20)
        have hS := hS.tp (hl 2)
        have hR := And.intro (hl.c hR.1) ((hl.k hR.1).trans hR.2)
        have hb := And.intro (hl.c hb.1) ((hl.k hb.1).trans hb.2)
        have hv := And.intro (hl.c hv.1) ((hl.k hv.1).trans hv.2)
        have hn := And.intro (hl.c hn.1) ((hl.k hn.1).trans hn.2)
        have hT := hT.tp (hl 3)
        have ho := And.intro (hl.c ho.1) ((hl.k ho.1).trans ho.2)
        have hvo := And.intro (hl.c hvo.1) ((hl.k hvo.1).trans hvo.2)
        have hvv := hvv
        have hF : ∀ j, 0 ≤ j → j < i → ∃ b9, G j = some b9 ∧ StX _ (10 + j.toNatClampNeg) _ b9 (fun _ => 0) := fun j j0 j1 => by
          obtain ⟨b9, z1, z2⟩ := hF j j0 j1
          exact ⟨b9, z1, z2.tp (hl _)⟩
        have hE3 := hE.1
        obtain ⟨fs8, hN8⟩ : ∃ fs, M9 q102 = some (ob 8 fs) := by
          obtain ⟨ad, sl, le, fg, tp, F, h⟩ := _root_.id hN
          exact ⟨_, h.1⟩
        clear gN hl f102 n102
        refine v_aast dX11_init_109 hE3 i0 i2 hN8 rfl ?_
        refine v_iinc_1 dX11_init_110 rfl ?_
        refine v_goto (tgt := 91) dX11_init_113 (by decide) ?_
        refine V.wid (k' := 76 + 19 * (i.toNatClampNeg + 1)) (n' := 1726 + 182 * (i.toNatClampNeg + 1)) (by omega) (by omega) ?_
        have t9 : ∀ s, ¬ s = 21 → Tp _ _ s M9 (hup M9 q40 (ra "SledgePost$State" 8 (ui G i (some q102)))) := fun s hs => Tp.at hE.2 hs
        refine hi _ _ _ hKp hka (up_k hA hE3 ra_ob.symm) (hG.old h40) (hX.tp (t9 1 (by decide))) (hK.tp (t9 20 (by decide))) (hS.tp (t9 2 (by decide))) (t9 _ (by decide) _ _ hR.2 hR.1) (t9 _ (by decide) _ _ hb.2 hb.1) (t9 _ (by decide) _ _ hv.2 hv.1) (t9 _ (by decide) _ _ hn.2 hn.1) (hT.tp (t9 3 (by decide))) (t9 _ (by decide) _ _ ho.2 ho.1) (t9 _ (by decide) _ _ hvo.2 hvo.1) hvv ⟨hup_s, hE.2⟩ (fun j j0 j1 => ?_)
        by_cases e9 : j = i
        · exact ⟨q102, by rw [e9, ui_s], by rw [e9]; exact hN.tp (t9 _ (by omega))⟩
        · obtain ⟨b9, z1, z2⟩ := hF j j0 (by clear hF hN hE hE3 t9 hi ih; lia)
          exact ⟨b9, by rw [ui_n e9]; exact z1, z2.tp (t9 _ (by have := tc_lt j0 (show j < i by clear hF hN hE hE3 t9 hi ih; lia); have := tc_lt i0 i2; have e : (8 : Int32).toNatClampNeg = 8 := rfl; omega))⟩
  exact key 8 0 (Int32.le_refl _) (by decide) rfl M1 kd1 _ hKp hka hA hG hX hK hS hR hb hv hn hT ho hvo hvv hE (fun j j0 j1 => absurd j1 (Int32.not_lt.mpr j0))
