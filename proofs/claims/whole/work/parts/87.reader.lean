/-! ===== the reader of scripts ===== -/
/-- a sign, 0 behind the end -/
def sz (s : Int32) : Int32 := if s = -1 then 0 else s
theorem sz_f {tx f : Int32 → Int32} {en i : Int32} (hT : ∀ j, 0 ≤ j → j < en → f j = tx j) (hb : ∀ j, 0 ≤ j → j < en → 0 ≤ f j ∧ f j < 128) (h0 : 0 ≤ i) : (i < en → f i = sz (sgN tx en i)) ∧ (¬ i < en → 0 = sz (sgN tx en i)) := by
  constructor
  · intro h
    rw [sgN_t h, ← hT i h0 h]
    exact (if_neg (fun z => absurd (hb i h0 h).1 (by rw [z]; decide))).symm
  · intro h
    rw [sgN_f h]
    rfl
theorem sz_c {s c : Int32} (h : 32 ≤ c) : sz s = c ↔ s = c := by
  unfold sz
  split
  · rename_i q
    rw [q]
    constructor
    · intro z; rw [← z] at h; exact absurd h (by decide)
    · intro z; rw [← z] at h; exact absurd h (by decide)
  · exact Iff.rfl
theorem sz_d {s : Int32} : (48 ≤ sz s ∧ sz s ≤ 57) ↔ (48 ≤ s ∧ s ≤ 57) := by
  unfold sz
  split
  · rename_i q
    rw [q]
    decide
  · exact Iff.rfl
theorem sz_v {s : Int32} (h : 48 ≤ s ∧ s ≤ 57) : sz s = s := if_neg (fun z => by rw [z] at h; exact absurd h.1 (by decide))
theorem sz_128 {tx f : Int32 → Int32} {en i : Int32} (hT : ∀ j, 0 ≤ j → j < en → f j = tx j) (hb : ∀ j, 0 ≤ j → j < en → 0 ≤ f j ∧ f j < 128) (h0 : 0 ≤ i) : 0 ≤ sz (sgN tx en i) ∧ sz (sgN tx en i) < 128 := by
  obtain ⟨p, q⟩ := sz_f hT hb h0
  by_cases h : i < en
  · rw [← p h]; exact hb i h0 h
  · rw [← q h]; decide
/-- a reader at a: its builder b holds the text tx, en signs; its numbers' row -/
def Rr (kd : Nat → Nat) (R : Nat) (M : LH) (a b v nb : Nat) (N en : Int32) (tx f : Int32 → Int32) (cm : Nat) (at9 nc : Int32) (NN : Int32 → Int32) : Prop :=
  M a = some (ob 6 [.ref b, .ref cm, .ref nb, .int at9, .int nc]) ∧ M nb = some (ia 5 NN) ∧ Sb M b v N en f ∧ (∀ j, 0 ≤ j → j < en → f j = tx j) ∧ en ≤ 60 ∧ kd a = R ∧ kd nb = R ∧ ¬ kd b = R ∧ ¬ kd v = R
section RR
variable {kd : Nat → Nat} {R a b v nb : Nat} {N en : Int32} {tx f : Int32 → Int32} {cm : Nat} {at9 nc : Int32} {NN : Int32 → Int32} {M : LH}
theorem Rr.sc (hC : Rr kd R M a b v nb N en tx f cm at9 nc NN) {cm' : Nat} {at' nc' : Int32} : Rr kd R (hup M a (ob 6 [.ref b, .ref cm', .ref nb, .int at', .int nc'])) a b v nb N en tx f cm' at' nc' NN := by
  obtain ⟨g0, g1, ⟨⟨ml, g2⟩, g3, g4⟩, g5, g6, k1, k2, k3, k4⟩ := hC
  exact ⟨hup_s, (hup_n (ne_of_cell g1 g0 ob_ia.symm)).trans g1, ⟨⟨ml, (hup_n (fun z => k3 (by rw [z]; exact k1))).trans g2⟩, (hup_n (fun z => k4 (by rw [z]; exact k1))).trans g3, g4⟩, g5, g6, k1, k2, k3, k4⟩
theorem Rr.ro (hC : Rr kd R M a b v nb N en tx f cm at9 nc NN) {f' : Int32 → Int32} : Rr kd R (hup M nb (ia 5 f')) a b v nb N en tx f cm at9 nc f' := by
  obtain ⟨g0, g1, ⟨⟨ml, g2⟩, g3, g4⟩, g5, g6, k1, k2, k3, k4⟩ := hC
  exact ⟨(hup_n (ne_of_cell g0 g1 ob_ia)).trans g0, hup_s, ⟨⟨ml, (hup_n (fun z => k3 (by rw [z]; exact k2))).trans g2⟩, (hup_n (fun z => k4 (by rw [z]; exact k2))).trans g3, g4⟩, g5, g6, k1, k2, k3, k4⟩
theorem Rr.fb (hC : Rr kd R M a b v nb N en tx f cm at9 nc NN) : ∀ j, 0 ≤ j → j < en → 0 ≤ f j ∧ f j < 128 := by
  obtain ⟨g0, g1, ⟨⟨ml, g2⟩, g3, g4, g5, g6, g7⟩, -⟩ := hC
  exact fun j j0 j1 => g7 j j0 (Int32.lt_of_lt_of_le j1 g5)
end RR
section VRR
variable {l : Launch} {g : Nat → Nat} {y : MethodName} {cc : ByteArray} {rt : Option FieldType} {tb : List ExceptionTableEntry} {L mc ms : Nat} {Po : Res → LH → Prop} {X : CX} {M : LH} {k n pc : Nat} {ls : List (Option Value)} {rest : List Value}
theorem V.rr {kd : Nat → Nat} {R a b v nb : Nat} {N en : Int32} {tx f : Int32 → Int32} {cm : Nat} {at9 nc : Int32} {NN : Int32 → Int32} {M0 : LH} (hC : Rr kd R M a b v nb N en tx f cm at9 nc NN) (hF : Frm kd R M0 M) (H : ∀ M1 : LH, Rr kd R M1 a b v nb N en tx f cm at9 nc NN → Frm kd R M0 M1 → V l g y cc rt tb L mc ms Po X (M1) (k) (n) (pc) (ls) (rest)) : V l g y cc rt tb L mc ms Po X (M) (k) (n) (pc) (ls) (rest) := H M hC hF
end VRR
theorem dX7_signAt_0 : decode cX7_signAt 0 = .ok (.iload_n 1, 1) := by decide +kernel
theorem dX7_signAt_1 : decode cX7_signAt 1 = .ok (.ifCond .lt 25, 3) := by decide +kernel
theorem dX7_signAt_4 : decode cX7_signAt 4 = .ok (.iload_n 1, 1) := by decide +kernel
theorem dX7_signAt_5 : decode cX7_signAt 5 = .ok (.aload_n 0, 1) := by decide +kernel
theorem dX7_signAt_6 : decode cX7_signAt 6 = .ok (.getfield 12, 3) := by decide +kernel
theorem dX7_signAt_9 : decode cX7_signAt 9 = .ok (.invokevirtual 39, 3) := by decide +kernel
theorem dX7_signAt_12 : decode cX7_signAt 12 = .ok (.if_icmp .ge 14, 3) := by decide +kernel
theorem dX7_signAt_15 : decode cX7_signAt 15 = .ok (.aload_n 0, 1) := by decide +kernel
theorem dX7_signAt_16 : decode cX7_signAt 16 = .ok (.getfield 12, 3) := by decide +kernel
theorem dX7_signAt_19 : decode cX7_signAt 19 = .ok (.iload_n 1, 1) := by decide +kernel
theorem dX7_signAt_20 : decode cX7_signAt 20 = .ok (.invokevirtual 47, 3) := by decide +kernel
theorem dX7_signAt_23 : decode cX7_signAt 23 = .ok (.goto 4, 3) := by decide +kernel
theorem dX7_signAt_26 : decode cX7_signAt 26 = .ok (.iconst 0, 1) := by decide +kernel
theorem dX7_signAt_27 : decode cX7_signAt 27 = .ok (.ireturn, 1) := by decide +kernel
set_option maxRecDepth 100000 in
set_option maxHeartbeats 4000000 in
theorem c_signAt {l : Launch} {g : Nat → Nat} {M : LH} (htr : l.stackTraces = false) {kd : Nat → Nat} {R a b v nb : Nat} {N en : Int32} {tx f : Int32 → Int32} {cm : Nat} {at9 nc : Int32} {NN : Int32 → Int32} (hC : Rr kd R M a b v nb N en tx f cm at9 nc NN) {i : Int32} (i0 : 0 ≤ i) : K_X7_signAt l g 4 0 0 [.ref a, .int i] M (RI (fun x M9 => x = sz (sgN tx en i) ∧ M9 = M) nX) := by
  refine Ko_X7_signAt htr (fun X => ?_)
  obtain ⟨hA, hNB, hSB, hTX, e60, hkA, hkN, hkb, hkv⟩ := _root_.id hC
  obtain ⟨⟨ml, hBb⟩, hVv, en0, -, -, hfb⟩ := _root_.id hSB
  have hF : Frm kd R M M := Frm.rf
  obtain ⟨z0, z1⟩ := sz_128 hTX (Rr.fb hC) i0
  refine v_iload_n dX7_signAt_0 rfl rfl ?_
  refine v_if_lt (tgt := 26) dX7_signAt_1 (by decide) (fun h1 => ?_) (fun h1 => ?_)
  · exact absurd h1 (Int32.not_lt.mpr i0)
  · refine v_iload_n dX7_signAt_4 rfl rfl ?_
    refine v_aload_n dX7_signAt_5 rfl rfl ?_
    refine gf_X7_12 dX7_signAt_6 rfl hA ?_
    refine k_X7_39 dX7_signAt_9 rfl (c_len4 htr hSB) hBb (Nat.le_of_ble_eq_true rfl) (by omega) (by omega) (Nat.le_of_ble_eq_true rfl) (fun r9 M9 h9 => ?_) (fun _ _ h9 => h9.elim)
    obtain ⟨rfl, e9⟩ := h9
    subst M9
    refine v_icmp_ge (tgt := 26) dX7_signAt_12 (by decide) (fun h12 => ?_) (fun h12 => ?_)
    · refine v_iconst (v := 0) dX7_signAt_26 (by decide) ?_
      rw [(sz_f hTX (Rr.fb hC) i0).2 (Int32.not_lt.mpr h12)]
      exact v_zret dX7_signAt_27 rfl (narC z0 z1) ⟨rfl, rfl⟩ (by omega) (by omega)
    · refine v_aload_n dX7_signAt_15 rfl rfl ?_
      refine gf_X7_12 dX7_signAt_16 rfl hA ?_
      refine v_iload_n dX7_signAt_19 rfl rfl ?_
      refine k_X7_47 dX7_signAt_20 rfl (c_charAt htr hSB i0 (Int32.not_le.mp h12)) hBb (Nat.le_of_ble_eq_true rfl) (by omega) (by omega) (Nat.le_of_ble_eq_true rfl) (fun r20 M9 h9 => ?_) (fun _ _ h9 => h9.elim)
      obtain ⟨rfl, e9⟩ := h9
      subst M9
      rw [(sz_f hTX (Rr.fb hC) i0).1 (Int32.not_le.mp h12)]
      refine v_goto (tgt := 27) dX7_signAt_23 (by decide) ?_
      exact v_zret dX7_signAt_27 rfl (narC z0 z1)  ⟨rfl, rfl⟩ (by omega) (by omega)
theorem dX7_readSign_0 : decode cX7_readSign 0 = .ok (.aload_n 0, 1) := by decide +kernel
theorem dX7_readSign_1 : decode cX7_readSign 1 = .ok (.aload_n 0, 1) := by decide +kernel
theorem dX7_readSign_2 : decode cX7_readSign 2 = .ok (.getfield 35, 3) := by decide +kernel
theorem dX7_readSign_5 : decode cX7_readSign 5 = .ok (.invokevirtual 43, 3) := by decide +kernel
theorem dX7_readSign_8 : decode cX7_readSign 8 = .ok (.iload_n 1, 1) := by decide +kernel
theorem dX7_readSign_9 : decode cX7_readSign 9 = .ok (.if_icmp .eq 5, 3) := by decide +kernel
theorem dX7_readSign_12 : decode cX7_readSign 12 = .ok (.iconst 0, 1) := by decide +kernel
theorem dX7_readSign_13 : decode cX7_readSign 13 = .ok (.ireturn, 1) := by decide +kernel
theorem dX7_readSign_14 : decode cX7_readSign 14 = .ok (.aload_n 0, 1) := by decide +kernel
theorem dX7_readSign_15 : decode cX7_readSign 15 = .ok (.dup, 1) := by decide +kernel
theorem dX7_readSign_16 : decode cX7_readSign 16 = .ok (.getfield 35, 3) := by decide +kernel
theorem dX7_readSign_19 : decode cX7_readSign 19 = .ok (.iconst 1, 1) := by decide +kernel
theorem dX7_readSign_20 : decode cX7_readSign 20 = .ok (.iadd, 1) := by decide +kernel
theorem dX7_readSign_21 : decode cX7_readSign 21 = .ok (.putfield 35, 3) := by decide +kernel
theorem dX7_readSign_24 : decode cX7_readSign 24 = .ok (.iconst 1, 1) := by decide +kernel
theorem dX7_readSign_25 : decode cX7_readSign 25 = .ok (.ireturn, 1) := by decide +kernel
set_option maxRecDepth 100000 in
set_option maxHeartbeats 4000000 in
theorem c_readSign {l : Launch} {g : Nat → Nat} {M : LH} (htr : l.stackTraces = false) {kd : Nat → Nat} {R a b v nb : Nat} {N en : Int32} {tx f : Int32 → Int32} {cm : Nat} {at9 nc : Int32} {NN : Int32 → Int32} (hC : Rr kd R M a b v nb N en tx f cm at9 nc NN) {c : Int32} (a0 : 0 ≤ at9) (c32 : 32 ≤ c) : K_X7_readSign l g 5 0 0 [.ref a, .int c] M (RI (fun x M9 => ((sgN tx en at9 = c ∧ x = 1 ∧ Rr kd R M9 a b v nb N en tx f cm (at9 + 1) nc NN) ∨ (¬ sgN tx en at9 = c ∧ x = 0 ∧ Rr kd R M9 a b v nb N en tx f cm at9 nc NN)) ∧ Frm kd R M M9) nX) := by
  refine Ko_X7_readSign htr (fun X => ?_)
  obtain ⟨hA, hNB, hSB, hTX, e60, hkA, hkN, hkb, hkv⟩ := _root_.id hC
  obtain ⟨⟨ml, hBb⟩, hVv, en0, -, -, hfb⟩ := _root_.id hSB
  have hF : Frm kd R M M := Frm.rf
  refine v_aload_n dX7_readSign_0 rfl rfl ?_
  refine v_aload_n dX7_readSign_1 rfl rfl ?_
  refine gf_X7_35 dX7_readSign_2 rfl hA ?_
  refine k_X7_43 dX7_readSign_5 rfl (c_signAt htr hC a0) hA (Nat.le_of_ble_eq_true rfl) (by omega) (by omega) (Nat.le_of_ble_eq_true rfl) (fun r5 M9 h9 => ?_) (fun _ _ h9 => h9.elim)
  obtain ⟨rfl, e9⟩ := h9
  subst M9
  refine v_iload_n dX7_readSign_8 rfl rfl ?_
  refine v_icmp_eq (tgt := 14) dX7_readSign_9 (by decide) (fun h9q => ?_) (fun h9 => ?_)
  · refine v_aload_n dX7_readSign_14 rfl rfl ?_
    refine v_dup dX7_readSign_15 rfl ?_
    refine gf_X7_35 dX7_readSign_16 rfl hA ?_
    refine v_iconst (v := 1) dX7_readSign_19 (by decide) ?_
    refine v_iadd dX7_readSign_20 ?_
    refine pf_X7_35 dX7_readSign_21 rfl hA ?_
    refine V.rr (Rr.sc hC) (Frm.tr hF (Frm.up hkA)) (fun M1 hC hF => ?_)
    obtain ⟨hA, hNB, hSB, hTX, e60, hkA, hkN, hkb, hkv⟩ := _root_.id hC
    obtain ⟨⟨ml, hBb⟩, hVv, en0, -, -, hfb⟩ := _root_.id hSB
    refine v_iconst (v := 1) dX7_readSign_24 (by decide) ?_
    exact v_zret dX7_readSign_25 rfl (by first | rfl | assumption) ⟨Or.inl ⟨(sz_c c32).mp h9q, rfl, hC⟩, hF⟩ (by omega) (by omega)
  · refine v_iconst (v := 0) dX7_readSign_12 (by decide) ?_
    exact v_zret dX7_readSign_13 rfl (by first | rfl | assumption) ⟨Or.inr ⟨fun z => h9 ((sz_c c32).mpr z), rfl, hC⟩, hF⟩ (by omega) (by omega)
theorem dX7_take_0 : decode cX7_take 0 = .ok (.aload_n 0, 1) := by decide +kernel
theorem dX7_take_1 : decode cX7_take 1 = .ok (.getfield 54, 3) := by decide +kernel
theorem dX7_take_4 : decode cX7_take 4 = .ok (.iconst 5, 1) := by decide +kernel
theorem dX7_take_5 : decode cX7_take 5 = .ok (.if_icmp .lt 5, 3) := by decide +kernel
theorem dX7_take_8 : decode cX7_take 8 = .ok (.iconst 0, 1) := by decide +kernel
theorem dX7_take_9 : decode cX7_take 9 = .ok (.ireturn, 1) := by decide +kernel
theorem dX7_take_10 : decode cX7_take 10 = .ok (.aload_n 0, 1) := by decide +kernel
theorem dX7_take_11 : decode cX7_take 11 = .ok (.getfield 27, 3) := by decide +kernel
theorem dX7_take_14 : decode cX7_take 14 = .ok (.aload_n 0, 1) := by decide +kernel
theorem dX7_take_15 : decode cX7_take 15 = .ok (.getfield 54, 3) := by decide +kernel
theorem dX7_take_18 : decode cX7_take 18 = .ok (.iload_n 1, 1) := by decide +kernel
theorem dX7_take_19 : decode cX7_take 19 = .ok (.iastore, 1) := by decide +kernel
theorem dX7_take_20 : decode cX7_take 20 = .ok (.aload_n 0, 1) := by decide +kernel
theorem dX7_take_21 : decode cX7_take 21 = .ok (.dup, 1) := by decide +kernel
theorem dX7_take_22 : decode cX7_take 22 = .ok (.getfield 54, 3) := by decide +kernel
theorem dX7_take_25 : decode cX7_take 25 = .ok (.iconst 1, 1) := by decide +kernel
theorem dX7_take_26 : decode cX7_take 26 = .ok (.iadd, 1) := by decide +kernel
theorem dX7_take_27 : decode cX7_take 27 = .ok (.putfield 54, 3) := by decide +kernel
theorem dX7_take_30 : decode cX7_take 30 = .ok (.iconst 1, 1) := by decide +kernel
theorem dX7_take_31 : decode cX7_take 31 = .ok (.ireturn, 1) := by decide +kernel
set_option maxRecDepth 100000 in
set_option maxHeartbeats 4000000 in
theorem c_take {l : Launch} {g : Nat → Nat} {M : LH} (htr : l.stackTraces = false) {kd : Nat → Nat} {R a b v nb : Nat} {N en : Int32} {tx f : Int32 → Int32} {cm : Nat} {at9 nc : Int32} {NN : Int32 → Int32} (hC : Rr kd R M a b v nb N en tx f cm at9 nc NN) {z : Int32} (n0 : 0 ≤ nc) (n5 : nc < 5) : K_X7_take l g 0 0 0 [.ref a, .int z] M (RI (fun x M9 => x = 1 ∧ Rr kd R M9 a b v nb N en tx f cm at9 (nc + 1) (ui NN nc z) ∧ Frm kd R M M9) nX) := by
  refine Ko_X7_take htr (fun X => ?_)
  obtain ⟨hA, hNB, hSB, hTX, e60, hkA, hkN, hkb, hkv⟩ := _root_.id hC
  obtain ⟨⟨ml, hBb⟩, hVv, en0, -, -, hfb⟩ := _root_.id hSB
  have hF : Frm kd R M M := Frm.rf
  refine v_aload_n dX7_take_0 rfl rfl ?_
  refine gf_X7_54 dX7_take_1 rfl hA ?_
  refine v_iconst (v := 5) dX7_take_4 (by decide) ?_
  refine v_icmp_lt (tgt := 10) dX7_take_5 (by decide) (fun h5 => ?_) (fun h5 => ?_)
  · refine v_aload_n dX7_take_10 rfl rfl ?_
    refine gf_X7_27 dX7_take_11 rfl hA ?_
    refine v_aload_n dX7_take_14 rfl rfl ?_
    refine gf_X7_54 dX7_take_15 rfl hA ?_
    refine v_iload_n dX7_take_18 rfl rfl ?_
    refine v_iast dX7_take_19 hNB n0 n5 ?_
    refine V.rr (Rr.ro hC) (Frm.tr hF (Frm.up hkN)) (fun M1 hC hF => ?_)
    obtain ⟨hA, hNB, hSB, hTX, e60, hkA, hkN, hkb, hkv⟩ := _root_.id hC
    obtain ⟨⟨ml, hBb⟩, hVv, en0, -, -, hfb⟩ := _root_.id hSB
    refine v_aload_n dX7_take_20 rfl rfl ?_
    refine v_dup dX7_take_21 rfl ?_
    refine gf_X7_54 dX7_take_22 rfl hA ?_
    refine v_iconst (v := 1) dX7_take_25 (by decide) ?_
    refine v_iadd dX7_take_26 ?_
    refine pf_X7_54 dX7_take_27 rfl hA ?_
    refine V.rr (Rr.sc hC) (Frm.tr hF (Frm.up hkA)) (fun M1 hC hF => ?_)
    obtain ⟨hA, hNB, hSB, hTX, e60, hkA, hkN, hkb, hkv⟩ := _root_.id hC
    obtain ⟨⟨ml, hBb⟩, hVv, en0, -, -, hfb⟩ := _root_.id hSB
    refine v_iconst (v := 1) dX7_take_30 (by decide) ?_
    exact v_zret dX7_take_31 rfl (by first | rfl | assumption) ⟨rfl, hC, hF⟩ (by omega) (by omega)
  · exact absurd n5 h5
theorem dX7_readNumber_0 : decode cX7_readNumber 0 = .ok (.iconst 0, 1) := by decide +kernel
theorem dX7_readNumber_1 : decode cX7_readNumber 1 = .ok (.istore_n 3, 1) := by decide +kernel
theorem dX7_readNumber_2 : decode cX7_readNumber 2 = .ok (.iconst 0, 1) := by decide +kernel
theorem dX7_readNumber_3 : decode cX7_readNumber 3 = .ok (.istore 4, 2) := by decide +kernel
theorem dX7_readNumber_5 : decode cX7_readNumber 5 = .ok (.iload 4, 2) := by decide +kernel
theorem dX7_readNumber_7 : decode cX7_readNumber 7 = .ok (.iload_n 1, 1) := by decide +kernel
theorem dX7_readNumber_8 : decode cX7_readNumber 8 = .ok (.if_icmp .ge 54, 3) := by decide +kernel
theorem dX7_readNumber_11 : decode cX7_readNumber 11 = .ok (.aload_n 0, 1) := by decide +kernel
theorem dX7_readNumber_12 : decode cX7_readNumber 12 = .ok (.aload_n 0, 1) := by decide +kernel
theorem dX7_readNumber_13 : decode cX7_readNumber 13 = .ok (.getfield 35, 3) := by decide +kernel
theorem dX7_readNumber_16 : decode cX7_readNumber 16 = .ok (.invokevirtual 43, 3) := by decide +kernel
theorem dX7_readNumber_19 : decode cX7_readNumber 19 = .ok (.bipush 48, 2) := by decide +kernel
theorem dX7_readNumber_21 : decode cX7_readNumber 21 = .ok (.bipush 57, 2) := by decide +kernel
theorem dX7_readNumber_23 : decode cX7_readNumber 23 = .ok (.invokestatic 89, 3) := by decide +kernel
theorem dX7_readNumber_26 : decode cX7_readNumber 26 = .ok (.ifCond .eq 36, 3) := by decide +kernel
theorem dX7_readNumber_29 : decode cX7_readNumber 29 = .ok (.bipush 10, 2) := by decide +kernel
theorem dX7_readNumber_31 : decode cX7_readNumber 31 = .ok (.iload_n 3, 1) := by decide +kernel
theorem dX7_readNumber_32 : decode cX7_readNumber 32 = .ok (.imul, 1) := by decide +kernel
theorem dX7_readNumber_33 : decode cX7_readNumber 33 = .ok (.aload_n 0, 1) := by decide +kernel
theorem dX7_readNumber_34 : decode cX7_readNumber 34 = .ok (.aload_n 0, 1) := by decide +kernel
theorem dX7_readNumber_35 : decode cX7_readNumber 35 = .ok (.getfield 35, 3) := by decide +kernel
theorem dX7_readNumber_38 : decode cX7_readNumber 38 = .ok (.invokevirtual 43, 3) := by decide +kernel
theorem dX7_readNumber_41 : decode cX7_readNumber 41 = .ok (.iadd, 1) := by decide +kernel
theorem dX7_readNumber_42 : decode cX7_readNumber 42 = .ok (.bipush 48, 2) := by decide +kernel
theorem dX7_readNumber_44 : decode cX7_readNumber 44 = .ok (.isub, 1) := by decide +kernel
theorem dX7_readNumber_45 : decode cX7_readNumber 45 = .ok (.istore_n 3, 1) := by decide +kernel
theorem dX7_readNumber_46 : decode cX7_readNumber 46 = .ok (.iinc 4 1, 3) := by decide +kernel
theorem dX7_readNumber_49 : decode cX7_readNumber 49 = .ok (.aload_n 0, 1) := by decide +kernel
theorem dX7_readNumber_50 : decode cX7_readNumber 50 = .ok (.dup, 1) := by decide +kernel
theorem dX7_readNumber_51 : decode cX7_readNumber 51 = .ok (.getfield 35, 3) := by decide +kernel
theorem dX7_readNumber_54 : decode cX7_readNumber 54 = .ok (.iconst 1, 1) := by decide +kernel
theorem dX7_readNumber_55 : decode cX7_readNumber 55 = .ok (.iadd, 1) := by decide +kernel
theorem dX7_readNumber_56 : decode cX7_readNumber 56 = .ok (.putfield 35, 3) := by decide +kernel
theorem dX7_readNumber_59 : decode cX7_readNumber 59 = .ok (.goto (-54), 3) := by decide +kernel
theorem dX7_readNumber_62 : decode cX7_readNumber 62 = .ok (.iload 4, 2) := by decide +kernel
theorem dX7_readNumber_64 : decode cX7_readNumber 64 = .ok (.ifCond .le 17, 3) := by decide +kernel
theorem dX7_readNumber_67 : decode cX7_readNumber 67 = .ok (.aload_n 0, 1) := by decide +kernel
theorem dX7_readNumber_68 : decode cX7_readNumber 68 = .ok (.iload_n 2, 1) := by decide +kernel
theorem dX7_readNumber_69 : decode cX7_readNumber 69 = .ok (.iload_n 3, 1) := by decide +kernel
theorem dX7_readNumber_70 : decode cX7_readNumber 70 = .ok (.imul, 1) := by decide +kernel
theorem dX7_readNumber_71 : decode cX7_readNumber 71 = .ok (.invokevirtual 86, 3) := by decide +kernel
theorem dX7_readNumber_74 : decode cX7_readNumber 74 = .ok (.ifCond .eq 7, 3) := by decide +kernel
theorem dX7_readNumber_77 : decode cX7_readNumber 77 = .ok (.iconst 1, 1) := by decide +kernel
theorem dX7_readNumber_78 : decode cX7_readNumber 78 = .ok (.goto 4, 3) := by decide +kernel
theorem dX7_readNumber_81 : decode cX7_readNumber 81 = .ok (.iconst 0, 1) := by decide +kernel
theorem dX7_readNumber_82 : decode cX7_readNumber 82 = .ok (.ireturn, 1) := by decide +kernel
set_option maxRecDepth 100000 in
set_option maxHeartbeats 4000000 in
theorem c_readNumber {l : Launch} {g : Nat → Nat} {M : LH} (htr : l.stackTraces = false) {kd : Nat → Nat} {R a b v nb : Nat} {N en : Int32} {tx f : Int32 → Int32} {cm : Nat} {at9 nc : Int32} {NN : Int32 → Int32} (hC : Rr kd R M a b v nb N en tx f cm at9 nc NN) {f0 : Nat} (hf0 : f0 ≤ 3) {fa : Int32} (a0 : 0 ≤ at9) (a1 : at9 ≤ 60) (n0 : 0 ≤ nc) (n5 : nc < 5) : K_X7_readNumber l g 5 0 0 [.ref a, .int (nI f0), .int fa] M (RI (fun x M9 => (((rdD tx en f0 at9 0).1 = at9 ∧ x = 0 ∧ Rr kd R M9 a b v nb N en tx f cm at9 nc NN) ∨ (¬ (rdD tx en f0 at9 0).1 = at9 ∧ x = 1 ∧ Rr kd R M9 a b v nb N en tx f cm (rdD tx en f0 at9 0).1 (nc + 1) (ui NN nc (fa * (rdD tx en f0 at9 0).2)))) ∧ Frm kd R M M9) nX) := by
  refine Ko_X7_readNumber htr (fun X => ?_)
  obtain ⟨hA, hNB, hSB, hTX, e60, hkA, hkN, hkb, hkv⟩ := _root_.id hC
  obtain ⟨⟨ml, hBb⟩, hVv, en0, -, -, hfb⟩ := _root_.id hSB
  have hF : Frm kd R M M := Frm.rf
  have key : ∀ fu c, c + fu = f0 → ∀ (M1 : LH) (at1 n1 : Int32), rdD tx en fu at1 n1 = (rdD tx en f0 at9 0) → at1 = at9 + nI c → 0 ≤ at1 → at1 ≤ 60 → Rr kd R M1 a b v nb N en tx f cm at1 nc NN → Frm kd R M M1 → V l g yX7_readNumber cX7_readNumber ((some .boolean)) [] 5 0 0 (RI (fun x M9 => (((rdD tx en f0 at9 0).1 = at9 ∧ x = 0 ∧ Rr kd R M9 a b v nb N en tx f cm at9 nc NN) ∨ (¬ (rdD tx en f0 at9 0).1 = at9 ∧ x = 1 ∧ Rr kd R M9 a b v nb N en tx f cm (rdD tx en f0 at9 0).1 (nc + 1) (ui NN nc (fa * (rdD tx en f0 at9 0).2)))) ∧ Frm kd R M M9) nX) X M1 0 0 5 [some (.ref a), some (.int (nI f0)), some (.int fa), some (.int n1), some (.int (nI c))] [] := by
    clear hC hA hNB hSB hTX hfb hVv hBb hF hkA hkN hkb hkv
    intro fu
    induction fu with
    | zero =>
      intro c hc M1 at1 n1 hR hat e0 e1 hC hF
      obtain ⟨hA, hNB, hSB, hTX, e60, hkA, hkN, hkb, hkv⟩ := _root_.id hC
      obtain ⟨⟨ml, hBb⟩, hVv, en0, -, -, hfb⟩ := _root_.id hSB
      refine v_iload dX7_readNumber_5 rfl ?_
      refine v_iload_n dX7_readNumber_7 rfl rfl ?_
      refine v_icmp_ge (tgt := 62) dX7_readNumber_8 (by decide) (fun h8 => ?_) (fun h8 => ?_)
      · refine v_iload dX7_readNumber_62 rfl ?_
        refine v_if_le (tgt := 81) dX7_readNumber_64 (by decide) (fun h64 => ?_) (fun h64 => ?_)
        · have hc0 : c = 0 := by
            have q : ∀ c, c < 4 → nI c ≤ 0 → c = 0 := by decide
            exact q c (by omega) h64
          have e9 : at1 = at9 := by rw [hat, hc0]; exact Int32.add_zero _
          subst hc0
          refine v_iconst (v := 0) dX7_readNumber_81 (by decide) ?_
          exact v_zret dX7_readNumber_82 rfl (by first | rfl | assumption) (by
        have e1 : (rdD tx en f0 at9 0) = (at1, n1) := hR.symm.trans (by first | rfl | exact rdD_n (fun z => hdg z) | (rw [show f = 0 by omega]; rfl))
        rw [e1]
        first
          | exact ⟨Or.inr ⟨hne, rfl, hC⟩, hF⟩
          | exact ⟨Or.inl ⟨e9, rfl, by rw [e9] at hC; exact hC⟩, hF⟩) (by omega) (by omega)
        · have hne : ¬ at1 = at9 := by
            have q : ∀ c, c < 4 → ¬ nI c ≤ 0 → 0 < nI c ∧ nI c < 4 := by decide
            obtain ⟨q1, q2⟩ := q c (by omega) h64
            rw [hat]
            clear hR hC hF hA hNB hSB hTX hfb hVv hBb hat
            lia
          refine v_aload_n dX7_readNumber_67 rfl rfl ?_
          refine v_iload_n dX7_readNumber_68 rfl rfl ?_
          refine v_iload_n dX7_readNumber_69 rfl rfl ?_
          refine v_imul dX7_readNumber_70 ?_
          refine k_X7_86 dX7_readNumber_71 rfl (c_take htr hC n0 n5) hA (Nat.le_of_ble_eq_true rfl) (by omega) (by omega) (Nat.le_of_ble_eq_true rfl) (fun r71 M9 h9 => ?_) (fun _ _ h9 => h9.elim)
          obtain ⟨rfl, hC, hF9⟩ := h9
          have hF := Frm.tr hF hF9
          obtain ⟨hA, hNB, hSB, hTX, e60, hkA, hkN, hkb, hkv⟩ := _root_.id hC
          obtain ⟨⟨ml, hBb⟩, hVv, en0, -, -, hfb⟩ := _root_.id hSB
          refine v_if_eq (tgt := 81) dX7_readNumber_74 (by decide) (fun h74 => ?_) (fun h74 => ?_)
          · exact absurd h74 (by decide)
          · refine v_iconst (v := 1) dX7_readNumber_77 (by decide) ?_
            refine v_goto (tgt := 82) dX7_readNumber_78 (by decide) ?_
            exact v_zret dX7_readNumber_82 rfl (by first | rfl | assumption) (by
        have e1 : (rdD tx en f0 at9 0) = (at1, n1) := hR.symm.trans (by first | rfl | exact rdD_n (fun z => hdg z) | (rw [show f = 0 by omega]; rfl))
        rw [e1]
        first
          | exact ⟨Or.inr ⟨hne, rfl, hC⟩, hF⟩
          | exact ⟨Or.inl ⟨e9, rfl, by rw [e9] at hC; exact hC⟩, hF⟩) (by omega) (by omega)
      · exact absurd (Int32.le_of_eq (by rw [show c = f0 by omega])) h8
    | succ f ih =>
      intro c hc M1 at1 n1 hR hat e0 e1 hC hF
      obtain ⟨hA, hNB, hSB, hTX, e60, hkA, hkN, hkb, hkv⟩ := _root_.id hC
      obtain ⟨⟨ml, hBb⟩, hVv, en0, -, -, hfb⟩ := _root_.id hSB
      refine v_iload dX7_readNumber_5 rfl ?_
      refine v_iload_n dX7_readNumber_7 rfl rfl ?_
      refine v_icmp_ge (tgt := 62) dX7_readNumber_8 (by decide) (fun h8 => ?_) (fun h8 => ?_)
      · exact absurd h8 (nI_ge (by omega) (by omega))
      · refine v_aload_n dX7_readNumber_11 rfl rfl ?_
        refine v_aload_n dX7_readNumber_12 rfl rfl ?_
        refine gf_X7_35 dX7_readNumber_13 rfl hA ?_
        refine k_X7_43 dX7_readNumber_16 rfl (c_signAt htr hC e0) hA (Nat.le_of_ble_eq_true rfl) (by omega) (by omega) (Nat.le_of_ble_eq_true rfl) (fun r16 M9 h9 => ?_) (fun _ _ h9 => h9.elim)
        obtain ⟨rfl, e9⟩ := h9
        subst M9
        refine v_bipush (v := (48)) dX7_readNumber_19 (by decide) ?_
        refine v_bipush (v := (57)) dX7_readNumber_21 (by decide) ?_
        refine k_X7_89 dX7_readNumber_23 rfl (c_isBetween htr _ _ _) (Nat.le_of_ble_eq_true rfl) (by omega) (by omega) (Nat.le_of_ble_eq_true rfl) (fun r23 M9 h9 => ?_) (fun _ _ h9 => h9.elim)
        obtain ⟨rfl, e9⟩ := h9
        subst M9
        refine v_if_eq (tgt := 62) dX7_readNumber_26 (by decide) (fun h26 => ?_) (fun h26 => ?_)
        · have hdg : ¬ (48 ≤ sgN tx en at1 ∧ sgN tx en at1 ≤ 57) := fun z => b_f h26 (sz_d.mpr z)
          refine v_iload dX7_readNumber_62 rfl ?_
          refine v_if_le (tgt := 81) dX7_readNumber_64 (by decide) (fun h64 => ?_) (fun h64 => ?_)
          · have hc0 : c = 0 := by
              have q : ∀ c, c < 4 → nI c ≤ 0 → c = 0 := by decide
              exact q c (by omega) h64
            have e9 : at1 = at9 := by rw [hat, hc0]; exact Int32.add_zero _
            subst hc0
            refine v_iconst (v := 0) dX7_readNumber_81 (by decide) ?_
            exact v_zret dX7_readNumber_82 rfl (by first | rfl | assumption) (by
        have e1 : (rdD tx en f0 at9 0) = (at1, n1) := hR.symm.trans (by first | rfl | exact rdD_n (fun z => hdg z) | (rw [show f = 0 by omega]; rfl))
        rw [e1]
        first
          | exact ⟨Or.inr ⟨hne, rfl, hC⟩, hF⟩
          | exact ⟨Or.inl ⟨e9, rfl, by rw [e9] at hC; exact hC⟩, hF⟩) (by omega) (by omega)
          · have hne : ¬ at1 = at9 := by
              have q : ∀ c, c < 4 → ¬ nI c ≤ 0 → 0 < nI c ∧ nI c < 4 := by decide
              obtain ⟨q1, q2⟩ := q c (by omega) h64
              rw [hat]
              clear hR hC hF hA hNB hSB hTX hfb hVv hBb hat
              lia
            refine v_aload_n dX7_readNumber_67 rfl rfl ?_
            refine v_iload_n dX7_readNumber_68 rfl rfl ?_
            refine v_iload_n dX7_readNumber_69 rfl rfl ?_
            refine v_imul dX7_readNumber_70 ?_
            refine k_X7_86 dX7_readNumber_71 rfl (c_take htr hC n0 n5) hA (Nat.le_of_ble_eq_true rfl) (by omega) (by omega) (Nat.le_of_ble_eq_true rfl) (fun r71 M9 h9 => ?_) (fun _ _ h9 => h9.elim)
            obtain ⟨rfl, hC, hF9⟩ := h9
            have hF := Frm.tr hF hF9
            obtain ⟨hA, hNB, hSB, hTX, e60, hkA, hkN, hkb, hkv⟩ := _root_.id hC
            obtain ⟨⟨ml, hBb⟩, hVv, en0, -, -, hfb⟩ := _root_.id hSB
            refine v_if_eq (tgt := 81) dX7_readNumber_74 (by decide) (fun h74 => ?_) (fun h74 => ?_)
            · exact absurd h74 (by decide)
            · refine v_iconst (v := 1) dX7_readNumber_77 (by decide) ?_
              refine v_goto (tgt := 82) dX7_readNumber_78 (by decide) ?_
              exact v_zret dX7_readNumber_82 rfl (by first | rfl | assumption) (by
        have e1 : (rdD tx en f0 at9 0) = (at1, n1) := hR.symm.trans (by first | rfl | exact rdD_n (fun z => hdg z) | (rw [show f = 0 by omega]; rfl))
        rw [e1]
        first
          | exact ⟨Or.inr ⟨hne, rfl, hC⟩, hF⟩
          | exact ⟨Or.inl ⟨e9, rfl, by rw [e9] at hC; exact hC⟩, hF⟩) (by omega) (by omega)
        · have hdg := sz_d.mp (b_t h26)
          have hlt := sgN_in e60 (rfl : sgN tx en at1 = _) (fun z => by rw [z] at hdg; exact absurd hdg.1 (by decide))
          refine v_bipush (v := (10)) dX7_readNumber_29 (by decide) ?_
          refine v_iload_n dX7_readNumber_31 rfl rfl ?_
          refine v_imul dX7_readNumber_32 ?_
          refine v_aload_n dX7_readNumber_33 rfl rfl ?_
          refine v_aload_n dX7_readNumber_34 rfl rfl ?_
          refine gf_X7_35 dX7_readNumber_35 rfl hA ?_
          refine k_X7_43 dX7_readNumber_38 rfl (c_signAt htr hC e0) hA (Nat.le_of_ble_eq_true rfl) (by omega) (by omega) (Nat.le_of_ble_eq_true rfl) (fun r38 M9 h9 => ?_) (fun _ _ h9 => h9.elim)
          obtain ⟨rfl, e9⟩ := h9
          subst M9
          rw [sz_v hdg]
          refine v_iadd dX7_readNumber_41 ?_
          refine v_bipush (v := (48)) dX7_readNumber_42 (by decide) ?_
          refine v_isub dX7_readNumber_44 ?_
          refine v_istore_3 dX7_readNumber_45 ?_
          refine v_iinc_4 dX7_readNumber_46 rfl ?_
          refine v_aload_n dX7_readNumber_49 rfl rfl ?_
          refine v_dup dX7_readNumber_50 rfl ?_
          refine gf_X7_35 dX7_readNumber_51 rfl hA ?_
          refine v_iconst (v := 1) dX7_readNumber_54 (by decide) ?_
          refine v_iadd dX7_readNumber_55 ?_
          refine pf_X7_35 dX7_readNumber_56 rfl hA ?_
          refine V.rr (Rr.sc hC) (Frm.tr hF (Frm.up hkA)) (fun M1 hC hF => ?_)
          obtain ⟨hA, hNB, hSB, hTX, e60, hkA, hkN, hkb, hkv⟩ := _root_.id hC
          obtain ⟨⟨ml, hBb⟩, hVv, en0, -, -, hfb⟩ := _root_.id hSB
          refine v_goto (tgt := 5) dX7_readNumber_59 (by decide) ?_
          have ih2 := ih (c + 1) (by omega) M1 (at1 + 1) (10 * n1 + sgN tx en at1 - 48) ((rdD_y hdg).symm.trans hR) (by rw [hat, ← nI_1 c, Int32.add_assoc]) (by clear ih hR hC hF hA hNB hSB hTX hfb hVv hBb hat hdg; lia) (by clear ih hR hC hF hA hNB hSB hTX hfb hVv hBb hat hdg; lia) hC hF
          rw [← nI_1 c] at ih2
          exact ih2
  refine v_iconst (v := 0) dX7_readNumber_0 (by decide) ?_
  refine v_istore_3 dX7_readNumber_1 ?_
  refine v_iconst (v := 0) dX7_readNumber_2 (by decide) ?_
  refine v_istore_4 dX7_readNumber_3 ?_
  exact key f0 0 (by omega) M at9 0 rfl (Int32.add_zero at9).symm a0 a1 hC hF
