/-! ===== constructors: State ===== -/
theorem Good_0 : Good (fun _ => 0) := by
  refine ⟨by decide, by decide, by decide, by decide, by decide, by decide, by decide, by decide, fun i h0 h1 => absurd h1 (Int32.not_lt.mpr h0), fun i h0 h1 => absurd h1 (Int32.not_lt.mpr h0), fun a b _ _ _ _ => ⟨Int32.le_refl _, (by decide : (0 : Int32) ≤ 20), fun h => absurd (show (0 : Int32) < 0 from h) (by decide)⟩, fun i j h0 h1 h2 => absurd (Int32.lt_trans h1 h2) (Int32.not_lt.mpr h0), fun i h0 h1 => absurd h1 (Int32.not_lt.mpr h0), by decide⟩
/-- a row of references being filled with new objects e -/
def Fl (M0 M : LH) (e : Ec) (i : Int32) (G : Int32 → Option Nat) : Prop := (∀ j, 0 ≤ j → j < i → ∃ b, G j = some b ∧ M b = some e ∧ M0 b = none) ∧ ∀ j k, 0 ≤ j → j < i → 0 ≤ k → k < i → G j = G k → j = k
theorem Fl.nil {M0 M : LH} {e : Ec} {G : Int32 → Option Nat} : Fl M0 M e 0 G := ⟨fun j h0 h1 => absurd h1 (Int32.not_lt.mpr h0), fun j k h0 h1 => absurd h1 (Int32.not_lt.mpr h0)⟩
theorem Fl.kp {M0 M M1 : LH} {e : Ec} {i : Int32} {G : Int32 → Option Nat} (h : Fl M0 M e i G) (k : ∀ b, M b = some e → M0 b = none → M1 b = some e) : Fl M0 M1 e i G := ⟨fun j j0 j1 => by
  obtain ⟨b, h1, h2, h3⟩ := h.1 j j0 j1
  exact ⟨b, h1, k b h2 h3, h3⟩, h.2⟩
theorem Fl.put {M0 M M1 : LH} {e : Ec} {i : Int32} {G : Int32 → Option Nat} {q : Nat} (h : Fl M0 M e i G) (i0 : 0 ≤ i) (i9 : i < 100) (hq : M q = none) (h0 : M0 q = none) (k : ∀ b, M b = some e → M1 b = some e) (hn : M1 q = some e) : Fl M0 M1 e (i + 1) (ui G i (some q)) := by
  have ne : ∀ j, 0 ≤ j → j < i → ¬ G j = some q := fun j j0 j1 z => by
    obtain ⟨b, h1, h2, -⟩ := h.1 j j0 j1
    rw [z] at h1
    cases h1
    exact nn h2 hq
  refine ⟨fun j j0 j1 => ?_, fun j k j0 j1 k0 k1 z => ?_⟩
  · by_cases e9 : j = i
    · exact ⟨q, by rw [e9, ui_s], hn, h0⟩
    · obtain ⟨b, h1, h2, h3⟩ := h.1 j j0 (by clear h ne k; lia)
      exact ⟨b, by rw [ui_n e9]; exact h1, k b h2, h3⟩
  · by_cases e9 : j = i
    · by_cases e8 : k = i
      · rw [e9, e8]
      · rw [e9, ui_s, ui_n e8] at z
        exact absurd z.symm (ne k k0 (by clear h ne; lia))
    · by_cases e8 : k = i
      · rw [e8, ui_s, ui_n e9] at z
        exact absurd z (ne j j0 (by clear h ne; lia))
      · rw [ui_n e9, ui_n e8] at z
        exact h.2 j k j0 (by clear h ne; lia) k0 (by clear h ne; lia) z
theorem Fl.get {M0 M : LH} {e : Ec} {n : Int32} {G : Int32 → Option Nat} (h : Fl M0 M e n G) : ∃ f : Int32 → Nat, (∀ j, 0 ≤ j → j < n → G j = some (f j) ∧ M (f j) = some e ∧ M0 (f j) = none) ∧ ∀ j k, 0 ≤ j → j < n → 0 ≤ k → k < n → f j = f k → j = k := by
  have g : ∀ j, 0 ≤ j → j < n → G j = some ((G j).getD 0) ∧ M ((G j).getD 0) = some e ∧ M0 ((G j).getD 0) = none := fun j j0 j1 => by
    obtain ⟨b, h1, h2, h3⟩ := h.1 j j0 j1
    rw [h1]
    exact ⟨rfl, h2, h3⟩
  exact ⟨fun j => (G j).getD 0, g, fun j k j0 j1 k0 k1 z => h.2 j k j0 j1 k0 k1 (by rw [(g j j0 j1).1, (g k k0 k1).1]; exact congrArg some z)⟩
theorem nl3 {i : Int32} (i0 : 0 ≤ i) (h : i.toNatClampNeg < 3) : i < 3 := by
  rw [← tc_nI i0]
  exact (show nI i.toNatClampNeg < nI 3 from nI_lt h (by omega))
theorem nl12 {i : Int32} (i0 : 0 ≤ i) (h : i.toNatClampNeg < 12) : i < 12 := by
  rw [← tc_nI i0]
  exact (show nI i.toNatClampNeg < nI 12 from nI_lt h (by omega))
theorem ra_ob {C : String} {N : Int32} {G : Int32 → Option Nat} {ci : Nat} {fs : List Value} : ra C N G ≠ ob ci fs := fun z => nomatch z
theorem ra_LS {G G' : Int32 → Option Nat} : ra "SledgePost$Letter" 12 G ≠ ra "SledgePost$Sledge" 3 G' := fun z => by
  have e : ("SledgePost$Letter", (12 : Int32), G) = ("SledgePost$Sledge", (3 : Int32), G') := Sum.inl.inj (Sum.inr.inj z)
  exact absurd (congrArg Prod.fst e) (by decide : ¬ "SledgePost$Letter" = "SledgePost$Sledge")
theorem dX9_init_0 : decode cX9_init 0 = .ok (.aload_n 0, 1) := by decide +kernel
theorem dX9_init_1 : decode cX9_init 1 = .ok (.invokespecial 3, 3) := by decide +kernel
theorem dX9_init_4 : decode cX9_init 4 = .ok (.aload_n 0, 1) := by decide +kernel
theorem dX9_init_5 : decode cX9_init 5 = .ok (.bipush 49, 2) := by decide +kernel
theorem dX9_init_7 : decode cX9_init 7 = .ok (.newarray .int, 2) := by decide +kernel
theorem dX9_init_9 : decode cX9_init 9 = .ok (.putfield 9, 3) := by decide +kernel
theorem dX9_init_12 : decode cX9_init 12 = .ok (.aload_n 0, 1) := by decide +kernel
theorem dX9_init_13 : decode cX9_init 13 = .ok (.iconst 3, 1) := by decide +kernel
theorem dX9_init_14 : decode cX9_init 14 = .ok (.anewarray 15, 3) := by decide +kernel
theorem dX9_init_17 : decode cX9_init 17 = .ok (.putfield 17, 3) := by decide +kernel
theorem dX9_init_20 : decode cX9_init 20 = .ok (.aload_n 0, 1) := by decide +kernel
theorem dX9_init_21 : decode cX9_init 21 = .ok (.bipush 12, 2) := by decide +kernel
theorem dX9_init_23 : decode cX9_init 23 = .ok (.anewarray 21, 3) := by decide +kernel
theorem dX9_init_26 : decode cX9_init 26 = .ok (.putfield 23, 3) := by decide +kernel
theorem dX9_init_29 : decode cX9_init 29 = .ok (.iconst 0, 1) := by decide +kernel
theorem dX9_init_30 : decode cX9_init 30 = .ok (.istore_n 1, 1) := by decide +kernel
theorem dX9_init_31 : decode cX9_init 31 = .ok (.iload_n 1, 1) := by decide +kernel
theorem dX9_init_32 : decode cX9_init 32 = .ok (.iconst 3, 1) := by decide +kernel
theorem dX9_init_33 : decode cX9_init 33 = .ok (.if_icmp .ge 22, 3) := by decide +kernel
theorem dX9_init_36 : decode cX9_init 36 = .ok (.aload_n 0, 1) := by decide +kernel
theorem dX9_init_37 : decode cX9_init 37 = .ok (.getfield 17, 3) := by decide +kernel
theorem dX9_init_40 : decode cX9_init 40 = .ok (.iload_n 1, 1) := by decide +kernel
theorem dX9_init_41 : decode cX9_init 41 = .ok (.new 15, 3) := by decide +kernel
theorem dX9_init_44 : decode cX9_init 44 = .ok (.dup, 1) := by decide +kernel
theorem dX9_init_45 : decode cX9_init 45 = .ok (.invokespecial 27, 3) := by decide +kernel
theorem dX9_init_48 : decode cX9_init 48 = .ok (.aastore, 1) := by decide +kernel
theorem dX9_init_49 : decode cX9_init 49 = .ok (.iinc 1 1, 3) := by decide +kernel
theorem dX9_init_52 : decode cX9_init 52 = .ok (.goto (-21), 3) := by decide +kernel
theorem dX9_init_55 : decode cX9_init 55 = .ok (.iconst 0, 1) := by decide +kernel
theorem dX9_init_56 : decode cX9_init 56 = .ok (.istore_n 1, 1) := by decide +kernel
theorem dX9_init_57 : decode cX9_init 57 = .ok (.iload_n 1, 1) := by decide +kernel
theorem dX9_init_58 : decode cX9_init 58 = .ok (.bipush 12, 2) := by decide +kernel
theorem dX9_init_60 : decode cX9_init 60 = .ok (.if_icmp .ge 22, 3) := by decide +kernel
theorem dX9_init_63 : decode cX9_init 63 = .ok (.aload_n 0, 1) := by decide +kernel
theorem dX9_init_64 : decode cX9_init 64 = .ok (.getfield 23, 3) := by decide +kernel
theorem dX9_init_67 : decode cX9_init 67 = .ok (.iload_n 1, 1) := by decide +kernel
theorem dX9_init_68 : decode cX9_init 68 = .ok (.new 21, 3) := by decide +kernel
theorem dX9_init_71 : decode cX9_init 71 = .ok (.dup, 1) := by decide +kernel
theorem dX9_init_72 : decode cX9_init 72 = .ok (.invokespecial 28, 3) := by decide +kernel
theorem dX9_init_75 : decode cX9_init 75 = .ok (.aastore, 1) := by decide +kernel
theorem dX9_init_76 : decode cX9_init 76 = .ok (.iinc 1 1, 3) := by decide +kernel
theorem dX9_init_79 : decode cX9_init 79 = .ok (.goto (-22), 3) := by decide +kernel
theorem dX9_init_82 : decode cX9_init 82 = .ok (.return_, 1) := by decide +kernel
set_option maxRecDepth 100000 in
set_option maxHeartbeats 4000000 in
theorem c_newState {l : Launch} {g : Nat → Nat} {M : LH} (htr : l.stackTraces = false) {kd : Nat → Nat} {r a : Nat} (hA : M a = some (ob 8 [.int 0, .null, .int 0, .null, .int 0, .null, .int 0, .int 0, .int 0, .int 0, .int 0, .int 0, .int 0])) (hk : kd a = r) : K_X9_init l g 1 18 169 [.ref a] M (RV (fun M9 => StX (kn kd M r) r M9 a (fun _ => 0) ∧ Gw a M M9) nX) := by
  refine Ko_X9_init htr (fun X => ?_)
  have hG := Gw.rf hA
  have hA0 := hA
  refine v_aload_n dX9_init_0 rfl rfl ?_
  refine oi_X9_3 dX9_init_1 rfl (Nat.le_of_ble_eq_true rfl) ?_
  refine v_aload_n dX9_init_4 rfl rfl ?_
  refine v_bipush (v := (49)) dX9_init_5 (by decide) ?_
  refine vi_nw (N := 49) dX9_init_7 rfl (by decide) (by decide) (by omega) (by omega) (fun q7 n7 => ?_)
  have f7 := hG.fr n7
  have hA := up_f (e' := (ia 49 (fun _ => 0))) hA n7
  have hG := hG.new (e := (ia 49 (fun _ => 0))) n7
  refine pF_X9_9 dX9_init_9 rfl rfl hA ?_
  refine V.ab (P := fun M1 => M1 a = some (ob 8 [.int 0, .ref q7, .int 0, .null, .int 0, .null, .int 0, .int 0, .int 0, .int 0, .int 0, .int 0, .int 0]) ∧ M1 q7 = some (ia 49 (fun _ => 0)) ∧ Gw a M M1) ⟨hup_s, up_k (hup_s (M := M)) hA ob_ia.symm, hG.at⟩ (fun M1 h1 => ?_)
  obtain ⟨hA, hr, hG⟩ := h1
  refine v_aload_n dX9_init_12 rfl rfl ?_
  refine v_iconst (v := 3) dX9_init_13 (by decide) ?_
  refine vq_nw_X9_15 (N := 3) dX9_init_14 rfl rfl (by decide) (by decide) (by omega) (by omega) (fun q14 n14 => ?_)
  have f14 := hG.fr n14
  have hA := up_f (e' := (ra "SledgePost$Sledge" 3 (fun _ => none))) hA n14
  have hr := up_f (e' := (ra "SledgePost$Sledge" 3 (fun _ => none))) hr n14
  have hG := hG.new (e := (ra "SledgePost$Sledge" 3 (fun _ => none))) n14
  refine pF_X9_17 dX9_init_17 rfl rfl hA ?_
  refine V.ab (P := fun M1 => M1 a = some (ob 8 [.int 0, .ref q7, .int 0, .ref q14, .int 0, .null, .int 0, .int 0, .int 0, .int 0, .int 0, .int 0, .int 0]) ∧ M1 q7 = some (ia 49 (fun _ => 0)) ∧ M1 q14 = some (ra "SledgePost$Sledge" 3 (fun _ => none)) ∧ Gw a M M1) ⟨hup_s, up_k hr hA ob_ia.symm, up_k (hup_s) hA ra_ob, hG.at⟩ (fun M1 h1 => ?_)
  obtain ⟨hA, hr, hs, hG⟩ := h1
  refine v_aload_n dX9_init_20 rfl rfl ?_
  refine v_bipush (v := (12)) dX9_init_21 (by decide) ?_
  refine vq_nw_X9_21 (N := 12) dX9_init_23 rfl rfl (by decide) (by decide) (by omega) (by omega) (fun q23 n23 => ?_)
  have f23 := hG.fr n23
  have hA := up_f (e' := (ra "SledgePost$Letter" 12 (fun _ => none))) hA n23
  have hr := up_f (e' := (ra "SledgePost$Letter" 12 (fun _ => none))) hr n23
  have hs := up_f (e' := (ra "SledgePost$Letter" 12 (fun _ => none))) hs n23
  have hG := hG.new (e := (ra "SledgePost$Letter" 12 (fun _ => none))) n23
  refine pF_X9_23 dX9_init_26 rfl rfl hA ?_
  refine V.ab (P := fun M1 => M1 a = some (ob 8 [.int 0, .ref q7, .int 0, .ref q14, .int 0, .ref q23, .int 0, .int 0, .int 0, .int 0, .int 0, .int 0, .int 0]) ∧ M1 q7 = some (ia 49 (fun _ => 0)) ∧ M1 q14 = some (ra "SledgePost$Sledge" 3 (fun _ => none)) ∧ M1 q23 = some (ra "SledgePost$Letter" 12 (fun _ => none)) ∧ Gw a M M1) ⟨hup_s, up_k hr hA ob_ia.symm, up_k hs hA ra_ob, up_k hup_s hA ra_ob, hG.at⟩ (fun M1 h1 => ?_)
  obtain ⟨hA, hr, hs, ht, hG⟩ := h1
  refine v_iconst (v := 0) dX9_init_29 (by decide) ?_
  refine v_istore_1 dX9_init_30 ?_
  have key2 : ∀ (sl : Int32 → Nat) (d : Nat) (i : Int32), 0 ≤ i → i ≤ 12 → i.toNatClampNeg + d = 12 → ∀ (M1 : LH) (G : Int32 → Option Nat), M1 a = some (ob 8 [.int 0, .ref q7, .int 0, .ref q14, .int 0, .ref q23, .int 0, .int 0, .int 0, .int 0, .int 0, .int 0, .int 0]) → M1 q7 = some (ia 49 (fun _ => 0)) → M1 q14 = some (ra "SledgePost$Sledge" 3 (fun j => some (sl j))) → M1 q23 = some (ra "SledgePost$Letter" 12 G) → Gw a M M1 → (∀ j, 0 ≤ j → j < 3 → M1 (sl j) = some (ob 7 [.int 0, .int 0, .int 0]) ∧ M (sl j) = none) → (∀ j k, 0 ≤ j → j < 3 → 0 ≤ k → k < 3 → sl j = sl k → j = k) → Fl M M1 (ob 4 [.int 0, .int 0, .int 0, .int 0, .int 0, .int 0, .int 0, .int 0]) i G → V l g yX9_init cX9_init (none) [] 1 18 169 (RV (fun M9 => StX (kn kd M r) r M9 a (fun _ => 0) ∧ Gw a M M9) nX) X M1 (6 + i.toNatClampNeg) (73 + 8 * i.toNatClampNeg) 57 [some (.ref a), some (.int i)] [] := by
    intro sl d
    induction d with
    | zero =>
      intro i i0 i3 hd M1 G hA hr hs ht hG hsl hsi hF
      have e3 : i = 12 := by rw [← tc_nI i0, show i.toNatClampNeg = 12 by omega]; rfl
      subst e3
      refine v_iload_n dX9_init_57 rfl rfl ?_
      refine v_bipush (v := (12)) dX9_init_58 (by decide) ?_
      refine v_icmp_ge (tgt := 82) dX9_init_60 (by decide) (fun h60 => ?_) (fun h60 => ?_)
      · obtain ⟨le, hle, hli⟩ := hF.get
        refine V.ro (G' := fun j => some (le j)) ht (fun i hi => (hle (nI i) (nI_pos' (by have : i < 12 := hi; omega)) (show nI i < nI 12 from nI_lt hi (by omega))).1) ?_
        refine V.ab (P := fun M1 => StX (kn kd M r) r M1 a (fun _ => 0) ∧ Gw a M M1) ?_ (fun M1 h1 => ?_)
        · have ka : kn kd M r a = r := (kn_o hA0).trans hk
          refine ⟨⟨fun n => match n with | 0 => q7 | 1 => q14 | _ => q23, sl, le, 0, 0, fun _ _ => 0, up_k hA ht ra_ob.symm, up_k hr ht ia_ra, up_k hs ht (fun z => ra_LS z.symm), hup_s, fun i i0 i1 => up_k (hsl i i0 i1).1 ht ra_ob.symm, fun i i0 i1 => up_k (hle i i0 i1).2.1 ht ra_ob.symm, ⟨ka, kn_n f7, kn_n f14, kn_n f23, fun i i0 i1 => kn_n (hsl i i0 i1).2, fun i i0 i1 => kn_n (hle i i0 i1).2.2⟩, ⟨hli, hsi⟩, ⟨by decide, fun _ _ _ _ _ _ => rfl, fun i i0 i1 => absurd i1 (Int32.not_lt.mpr i0), fun i i0 i1 => absurd i1 (Int32.not_lt.mpr i0)⟩, Good_0⟩, hG.old f23⟩
        exact v_vret dX9_init_82 rfl h1 (by omega) (by omega)
      · exact absurd (Int32.le_refl _) h60
    | succ d ih =>
      intro i i0 i3 hd M1 G hA hr hs ht hG hsl hsi hF
      have i2 : i < 12 := nl12 i0 (by omega)
      have es : (i + 1).toNatClampNeg = i.toNatClampNeg + 1 := (tc_i i0 (Int32.lt_trans i2 (by decide))).1
      have hi := ih (i + 1) (by clear ih hA hr hs ht hG hsl hsi hF; lia) (by clear ih hA hr hs ht hG hsl hsi hF; lia) (by omega)
      rw [es] at hi
      refine v_iload_n dX9_init_57 rfl rfl ?_
      refine v_bipush (v := (12)) dX9_init_58 (by decide) ?_
      refine v_icmp_ge (tgt := 82) dX9_init_60 (by decide) (fun h60 => ?_) (fun h60 => ?_)
      · exact absurd i2 (Int32.not_lt.mpr h60)
      · refine v_aload_n dX9_init_63 rfl rfl ?_
        refine gf_X9_23 dX9_init_64 rfl hA ?_
        refine v_iload_n dX9_init_67 rfl rfl ?_
        refine vn_X9_21 dX9_init_68 rfl (by omega) (by omega) (fun q68 n68 => ?_)
        have f68 := hG.fr n68
        have ht2 := up_f (e' := (ob 4 [.int 0, .int 0, .int 0, .int 0, .int 0, .int 0, .int 0, .int 0])) ht n68
        have hr2 := up_f (e' := (ob 4 [.int 0, .int 0, .int 0, .int 0, .int 0, .int 0, .int 0, .int 0])) hr n68
        have hA2 := up_f (e' := (ob 4 [.int 0, .int 0, .int 0, .int 0, .int 0, .int 0, .int 0, .int 0])) hA n68
        have hs2 := up_f (e' := (ob 4 [.int 0, .int 0, .int 0, .int 0, .int 0, .int 0, .int 0, .int 0])) hs n68
        have hG2 := hG.new (e := (ob 4 [.int 0, .int 0, .int 0, .int 0, .int 0, .int 0, .int 0, .int 0])) n68
        refine v_dup dX9_init_71 rfl ?_
        refine ki_X9_28 dX9_init_72 rfl (c_newLetter htr) (Nat.le_of_ble_eq_true rfl) (by omega) (by omega) (Nat.le_of_ble_eq_true rfl) (fun M9 h9 => ?_) (fun _ _ h9 => h9.elim)
        subst h9
        refine v_aast dX9_init_75 ht2 i0 i2 (hup_s) rfl ?_
        refine v_iinc_1 dX9_init_76 rfl ?_
        refine v_goto (tgt := 57) dX9_init_79 (by decide) ?_
        refine V.wid (k' := 6 + (i.toNatClampNeg + 1)) (n' := 73 + 8 * (i.toNatClampNeg + 1)) (by omega) (by omega) ?_
        exact hi _ _ (up_k hA2 ht2 ra_ob.symm) (up_k hr2 ht2 ia_ra) (up_k hs2 ht2 (fun z => ra_LS z.symm)) hup_s (hG2.old f23) (fun j j0 j1 => ⟨up_k (up_f (hsl j j0 j1).1 n68) ht2 ra_ob.symm, (hsl j j0 j1).2⟩) hsi (hF.put i0 (Int32.lt_trans i2 (by decide)) n68 f68 (fun b hb => up_k (up_f hb n68) ht2 ra_ob.symm) (up_k hup_s ht2 ra_ob.symm))
  have key1 : ∀ (d : Nat) (i : Int32), 0 ≤ i → i ≤ 3 → i.toNatClampNeg + d = 3 → ∀ (M1 : LH) (G : Int32 → Option Nat), M1 a = some (ob 8 [.int 0, .ref q7, .int 0, .ref q14, .int 0, .ref q23, .int 0, .int 0, .int 0, .int 0, .int 0, .int 0, .int 0]) → M1 q7 = some (ia 49 (fun _ => 0)) → M1 q14 = some (ra "SledgePost$Sledge" 3 G) → M1 q23 = some (ra "SledgePost$Letter" 12 (fun _ => none)) → Gw a M M1 → Fl M M1 (ob 7 [.int 0, .int 0, .int 0]) i G → V l g yX9_init cX9_init (none) [] 1 18 169 (RV (fun M9 => StX (kn kd M r) r M9 a (fun _ => 0) ∧ Gw a M M9) nX) X M1 (3 + i.toNatClampNeg) (64 + 3 * i.toNatClampNeg) 31 [some (.ref a), some (.int i)] [] := by
    intro d
    induction d with
    | zero =>
      intro i i0 i3 hd M1 G hA hr hs ht hG hF
      have e3 : i = 3 := by rw [← tc_nI i0, show i.toNatClampNeg = 3 by omega]; rfl
      subst e3
      refine v_iload_n dX9_init_31 rfl rfl ?_
      refine v_iconst (v := 3) dX9_init_32 (by decide) ?_
      refine v_icmp_ge (tgt := 55) dX9_init_33 (by decide) (fun h33 => ?_) (fun h33 => ?_)
      · refine v_iconst (v := 0) dX9_init_55 (by decide) ?_
        refine v_istore_1 dX9_init_56 ?_
        obtain ⟨sl, hsl, hsi⟩ := hF.get
        refine V.ro (G' := fun j => some (sl j)) hs (fun i hi => (hsl (nI i) (nI_pos' (by have : i < 3 := hi; omega)) (show nI i < nI 3 from nI_lt hi (by omega))).1) ?_
        exact key2 sl 12 0 (Int32.le_refl _) (by decide) rfl _ _ (up_k hA hs ra_ob.symm) (up_k hr hs ia_ra) hup_s (up_k ht hs ra_LS) (hG.old f14) (fun j j0 j1 => ⟨up_k (hsl j j0 j1).2.1 hs ra_ob.symm, (hsl j j0 j1).2.2⟩) hsi Fl.nil
      · exact absurd (Int32.le_refl _) h33
    | succ d ih =>
      intro i i0 i3 hd M1 G hA hr hs ht hG hF
      have i2 : i < 3 := nl3 i0 (by omega)
      have es : (i + 1).toNatClampNeg = i.toNatClampNeg + 1 := (tc_i i0 (Int32.lt_trans i2 (by decide))).1
      have hi := ih (i + 1) (by clear ih hA hr hs ht hG hF; lia) (by clear ih hA hr hs ht hG hF; lia) (by omega)
      rw [es] at hi
      refine v_iload_n dX9_init_31 rfl rfl ?_
      refine v_iconst (v := 3) dX9_init_32 (by decide) ?_
      refine v_icmp_ge (tgt := 55) dX9_init_33 (by decide) (fun h33 => ?_) (fun h33 => ?_)
      · exact absurd i2 (Int32.not_lt.mpr h33)
      · refine v_aload_n dX9_init_36 rfl rfl ?_
        refine gf_X9_17 dX9_init_37 rfl hA ?_
        refine v_iload_n dX9_init_40 rfl rfl ?_
        refine vn_X9_15 dX9_init_41 rfl (by omega) (by omega) (fun q41 n41 => ?_)
        have f41 := hG.fr n41
        have ht2 := up_f (e' := (ob 7 [.int 0, .int 0, .int 0])) ht n41
        have hr2 := up_f (e' := (ob 7 [.int 0, .int 0, .int 0])) hr n41
        have hA2 := up_f (e' := (ob 7 [.int 0, .int 0, .int 0])) hA n41
        have hs2 := up_f (e' := (ob 7 [.int 0, .int 0, .int 0])) hs n41
        have hG2 := hG.new (e := (ob 7 [.int 0, .int 0, .int 0])) n41
        refine v_dup dX9_init_44 rfl ?_
        refine ki_X9_27 dX9_init_45 rfl (c_newSledge htr) (Nat.le_of_ble_eq_true rfl) (by omega) (by omega) (Nat.le_of_ble_eq_true rfl) (fun M9 h9 => ?_) (fun _ _ h9 => h9.elim)
        subst h9
        refine v_aast dX9_init_48 hs2 i0 i2 (hup_s) rfl ?_
        refine v_iinc_1 dX9_init_49 rfl ?_
        refine v_goto (tgt := 31) dX9_init_52 (by decide) ?_
        refine V.wid (k' := 3 + (i.toNatClampNeg + 1)) (n' := 64 + 3 * (i.toNatClampNeg + 1)) (by omega) (by omega) ?_
        exact hi _ _ (up_k hA2 hs2 ra_ob.symm) (up_k hr2 hs2 ia_ra) hup_s (up_k ht2 hs2 ra_LS) (hG2.old f14) (hF.put i0 (Int32.lt_trans i2 (by decide)) n41 f41 (fun b hb => up_k (up_f hb n41) hs2 ra_ob.symm) (up_k hup_s hs2 ra_ob.symm))
  exact key1 3 0 (Int32.le_refl _) (by decide) rfl _ _ hA hr hs ht hG Fl.nil
