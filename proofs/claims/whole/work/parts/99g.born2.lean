/-! ===== constructors: the builder, the small ones ===== -/
section VNW
variable {l : Launch} {g : Nat → Nat} {y : MethodName} {cc : ByteArray} {rt : Option FieldType} {tb : List ExceptionTableEntry} {L mc ms : Nat} {Po : Res → LH → Prop} {X : CX} {M : LH} {k n pc : Nat} {ls : List (Option Value)} {rest : List Value}
theorem vi_nw {x : Int32} {N : Nat} (hd : decode cc pc = .ok (.newarray .int, 2)) (hx : x.toNatClampNeg = N) (h0 : 0 ≤ x) (h1 : x ≤ 100000) (hk : k + 1 ≤ mc) (hn : n + N ≤ ms) (kk : ∀ q : Nat, M q = none → V l g y cc rt tb L mc ms Po X (hup M q (ia x (fun _ => 0))) (k + 1) (n + N) (pc + 2) (ls) (.ref q :: rest)) : V l g y cc rt tb L mc ms Po X (M) (k) (n) (pc) (ls) (.int x :: rest) := by
  subst hx
  exact vi_new hd h0 h1 hk hn kk
theorem vb_nw {x : Int32} {N : Nat} (hd : decode cc pc = .ok (.newarray .byte, 2)) (hx : x.toNatClampNeg = N) (h0 : 0 ≤ x) (h1 : x ≤ 100000) (hk : k + 1 ≤ mc) (hn : n + N ≤ ms) (kk : ∀ q : Nat, M q = none → V l g y cc rt tb L mc ms Po X (hup M q (ba x (fun _ => 0))) (k + 1) (n + N) (pc + 2) (ls) (.ref q :: rest)) : V l g y cc rt tb L mc ms Po X (M) (k) (n) (pc) (ls) (.int x :: rest) := by
  subst hx
  exact vb_new hd h0 h1 hk hn kk
theorem vq_nw_X9_15 {x : Int32} {N : Nat} (hd : decode cc pc = .ok (.anewarray 15, 3)) (ho : y.cls = "SledgePost$State") (hx : x.toNatClampNeg = N) (h0 : 0 ≤ x) (h1 : x ≤ 100000) (hk : k + 1 ≤ mc) (hn : n + N ≤ ms) (kk : ∀ q : Nat, M q = none → V l g y cc rt tb L mc ms Po X (hup M q (ra "SledgePost$Sledge" x (fun _ => none))) (k + 1) (n + N) (pc + 3) (ls) (.ref q :: rest)) : V l g y cc rt tb L mc ms Po X (M) (k) (n) (pc) (ls) (.int x :: rest) := by
  subst hx
  exact vq_X9_15 hd ho h0 h1 hk hn kk
theorem vq_nw_X9_21 {x : Int32} {N : Nat} (hd : decode cc pc = .ok (.anewarray 21, 3)) (ho : y.cls = "SledgePost$State") (hx : x.toNatClampNeg = N) (h0 : 0 ≤ x) (h1 : x ≤ 100000) (hk : k + 1 ≤ mc) (hn : n + N ≤ ms) (kk : ∀ q : Nat, M q = none → V l g y cc rt tb L mc ms Po X (hup M q (ra "SledgePost$Letter" x (fun _ => none))) (k + 1) (n + N) (pc + 3) (ls) (.ref q :: rest)) : V l g y cc rt tb L mc ms Po X (M) (k) (n) (pc) (ls) (.int x :: rest) := by
  subst hx
  exact vq_X9_21 hd ho h0 h1 hk hn kk
theorem vq_nw_X11_21 {x : Int32} {N : Nat} (hd : decode cc pc = .ok (.anewarray 21, 3)) (ho : y.cls = "SledgePost") (hx : x.toNatClampNeg = N) (h0 : 0 ≤ x) (h1 : x ≤ 100000) (hk : k + 1 ≤ mc) (hn : n + N ≤ ms) (kk : ∀ q : Nat, M q = none → V l g y cc rt tb L mc ms Po X (hup M q (ra "SledgePost$State" x (fun _ => none))) (k + 1) (n + N) (pc + 3) (ls) (.ref q :: rest)) : V l g y cc rt tb L mc ms Po X (M) (k) (n) (pc) (ls) (.int x :: rest) := by
  subst hx
  exact vq_X11_21 hd ho h0 h1 hk hn kk
/-- of the heap only what is told -/
theorem V.ab {P : LH → Prop} (h : P M) (kk : ∀ M1 : LH, P M1 → V l g y cc rt tb L mc ms Po X (M1) (k) (n) (pc) (ls) (rest)) : V l g y cc rt tb L mc ms Po X (M) (k) (n) (pc) (ls) (rest) := kk M h
end VNW
theorem SbC_0 {M : LH} {a v : Nat} (hA : M a = some (ob 0 [.ref v, .int 0, .int 0, .int 0])) (hv : M v = some (ba 16 (fun _ => 0))) : SbC M a v 0 [] := ⟨by decide, ⟨fun _ => 0, ⟨⟨0, hA⟩, hv, by decide, by decide, by decide, fun _ _ _ => ⟨Int32.le_refl _, (by decide : (0 : Int32) < 128)⟩⟩, fun j hj => absurd hj (Nat.not_lt_zero j)⟩, Nat.zero_le _⟩
theorem ba_ob {N : Int32} {F : Int32 → Int32} {ci : Nat} {fs : List Value} : ba N F ≠ ob ci fs := fun z => nomatch z
theorem dJ5_init_d00df_0 : decode cJ5_init_d00df 0 = .ok (.aload_n 0, 1) := by decide +kernel
theorem dJ5_init_d00df_1 : decode cJ5_init_d00df 1 = .ok (.invokespecial 3, 3) := by decide +kernel
theorem dJ5_init_d00df_4 : decode cJ5_init_d00df 4 = .ok (.getstatic 18, 3) := by decide +kernel
theorem dJ5_init_d00df_7 : decode cJ5_init_d00df 7 = .ok (.ifCond .eq 18, 3) := by decide +kernel
theorem dJ5_init_d00df_10 : decode cJ5_init_d00df 10 = .ok (.aload_n 0, 1) := by decide +kernel
theorem dJ5_init_d00df_11 : decode cJ5_init_d00df 11 = .ok (.iload_n 1, 1) := by decide +kernel
theorem dJ5_init_d00df_12 : decode cJ5_init_d00df 12 = .ok (.newarray .byte, 2) := by decide +kernel
theorem dJ5_init_d00df_14 : decode cJ5_init_d00df 14 = .ok (.putfield 15, 3) := by decide +kernel
theorem dJ5_init_d00df_17 : decode cJ5_init_d00df 17 = .ok (.aload_n 0, 1) := by decide +kernel
theorem dJ5_init_d00df_18 : decode cJ5_init_d00df 18 = .ok (.iconst 0, 1) := by decide +kernel
theorem dJ5_init_d00df_19 : decode cJ5_init_d00df 19 = .ok (.putfield 22, 3) := by decide +kernel
theorem dJ5_init_d00df_22 : decode cJ5_init_d00df 22 = .ok (.goto 16, 3) := by decide +kernel
theorem dJ5_init_d00df_25 : decode cJ5_init_d00df 25 = .ok (.aload_n 0, 1) := by decide +kernel
theorem dJ5_init_d00df_26 : decode cJ5_init_d00df 26 = .ok (.iload_n 1, 1) := by decide +kernel
theorem dJ5_init_d00df_27 : decode cJ5_init_d00df 27 = .ok (.invokestatic 26, 3) := by decide +kernel
theorem dJ5_init_d00df_30 : decode cJ5_init_d00df 30 = .ok (.putfield 15, 3) := by decide +kernel
theorem dJ5_init_d00df_33 : decode cJ5_init_d00df 33 = .ok (.aload_n 0, 1) := by decide +kernel
theorem dJ5_init_d00df_34 : decode cJ5_init_d00df 34 = .ok (.iconst 1, 1) := by decide +kernel
theorem dJ5_init_d00df_35 : decode cJ5_init_d00df 35 = .ok (.putfield 22, 3) := by decide +kernel
theorem dJ5_init_d00df_38 : decode cJ5_init_d00df 38 = .ok (.return_, 1) := by decide +kernel
set_option maxRecDepth 100000 in
set_option maxHeartbeats 4000000 in
theorem c_newAsb {l : Launch} {g : Nat → Nat} {M : LH} (htr : l.stackTraces = false) {a : Nat} (hA : M a = some (ob 0 [.null, .int 0, .int 0, .int 0])) : K_J5_init_d00df l g 0 1 16 [.ref a, .int 16] M (RV (fun M9 => ∃ v, M v = none ∧ M9 a = some (ob 0 [.ref v, .int 0, .int 0, .int 0]) ∧ M9 v = some (ba 16 (fun _ => 0)) ∧ Gw a M M9) nX) := by
  refine Ko_J5_init_d00df htr (fun X => ?_)
  have hG := Gw.rf hA
  refine v_aload_n dJ5_init_d00df_0 rfl rfl ?_
  refine oi_J5_3 dJ5_init_d00df_1 rfl (Nat.le_of_ble_eq_true rfl) ?_
  refine gs_J5_18 dJ5_init_d00df_4 rfl ?_
  refine v_if_eq (tgt := 25) dJ5_init_d00df_7 (by decide) (fun h7 => ?_) (fun h7 => ?_)
  · exact absurd h7 (by decide)
  · refine v_aload_n dJ5_init_d00df_10 rfl rfl ?_
    refine v_iload_n dJ5_init_d00df_11 rfl rfl ?_
    refine vb_nw (N := 16) dJ5_init_d00df_12 rfl (by decide) (by decide) (by omega) (by omega) (fun q12 n12 => ?_)
    have f12 := n12
    have hA := up_f (e' := ba 16 (fun _ => 0)) hA n12
    have hG := hG.new (e := ba 16 (fun _ => 0)) n12
    refine pf_J5_15 dJ5_init_d00df_14 rfl hA ?_
    have hv : _ = some (ba 16 (fun _ => 0)) := up_k (e' := ob 0 [.ref q12, .int 0, .int 0, .int 0]) (x := q12) (hup_s (M := M)) hA ba_ob
    have hG := hG.at (e := ob 0 [.ref q12, .int 0, .int 0, .int 0])
    have hA : _ = some (ob 0 [.ref q12, .int 0, .int 0, .int 0]) := hup_s (M := hup M q12 (ba 16 (fun _ => 0))) (a := a)
    refine v_aload_n dJ5_init_d00df_17 rfl rfl ?_
    refine v_iconst (v := 0) dJ5_init_d00df_18 (by decide) ?_
    refine pf_J5_22 dJ5_init_d00df_19 rfl (by first | rfl | assumption) (by first | rfl | assumption) hA ?_
    rw [hup_hup]
    refine v_goto (tgt := 38) dJ5_init_d00df_22 (by decide) ?_
    exact v_vret dJ5_init_d00df_38 rfl ⟨q12, f12, hA, hv, hG⟩ (by omega) (by omega)
theorem dJ4_init_da8c8_0 : decode cJ4_init_da8c8 0 = .ok (.aload_n 0, 1) := by decide +kernel
theorem dJ4_init_da8c8_1 : decode cJ4_init_da8c8 1 = .ok (.bipush 16, 2) := by decide +kernel
theorem dJ4_init_da8c8_3 : decode cJ4_init_da8c8 3 = .ok (.invokespecial 1, 3) := by decide +kernel
theorem dJ4_init_da8c8_6 : decode cJ4_init_da8c8 6 = .ok (.return_, 1) := by decide +kernel
set_option maxRecDepth 100000 in
set_option maxHeartbeats 4000000 in
theorem c_newSb {l : Launch} {g : Nat → Nat} {M : LH} (htr : l.stackTraces = false) {a : Nat} (hA : M a = some (ob 0 [.null, .int 0, .int 0, .int 0])) : K_J4_init_da8c8 l g 1 1 16 [.ref a] M (RV (fun M9 => ∃ v, M v = none ∧ M9 a = some (ob 0 [.ref v, .int 0, .int 0, .int 0]) ∧ M9 v = some (ba 16 (fun _ => 0)) ∧ Gw a M M9) nX) := by
  refine Ko_J4_init_da8c8 htr (fun X => ?_)
  refine v_aload_n dJ4_init_da8c8_0 rfl rfl ?_
  refine v_bipush (v := (16)) dJ4_init_da8c8_1 (by decide) ?_
  refine ki_J4_1 dJ4_init_da8c8_3 rfl (c_newAsb htr hA) (Nat.le_of_ble_eq_true rfl) (by omega) (by omega) (Nat.le_of_ble_eq_true rfl) (fun M9 h9 => ?_) (fun _ _ h9 => h9.elim)
  exact v_vret dJ4_init_da8c8_6 rfl h9 (by omega) (by omega)
theorem ne_nn {M : LH} {x q : Nat} {e : Ec} (h : M x = some e) (hq : M q = none) : ¬ x = q := fun z => nn h (by rw [z]; exact hq)
theorem dX8_init_0 : decode cX8_init 0 = .ok (.aload_n 0, 1) := by decide +kernel
theorem dX8_init_1 : decode cX8_init 1 = .ok (.invokespecial 1, 3) := by decide +kernel
theorem dX8_init_4 : decode cX8_init 4 = .ok (.return_, 1) := by decide +kernel
set_option maxRecDepth 100000 in
set_option maxHeartbeats 4000000 in
theorem c_newSledge {l : Launch} {g : Nat → Nat} {M : LH} (htr : l.stackTraces = false) {a : Nat} : K_X8_init l g 0 0 0 [.ref a] M (RV (fun M9 => M9 = M) nX) := by
  refine Ko_X8_init htr (fun X => ?_)
  refine v_aload_n dX8_init_0 rfl rfl ?_
  refine oi_X8_1 dX8_init_1 rfl (Nat.le_of_ble_eq_true rfl) ?_
  exact v_vret dX8_init_4 rfl rfl (by omega) (by omega)
theorem dX5_init_0 : decode cX5_init 0 = .ok (.aload_n 0, 1) := by decide +kernel
theorem dX5_init_1 : decode cX5_init 1 = .ok (.invokespecial 3, 3) := by decide +kernel
theorem dX5_init_4 : decode cX5_init 4 = .ok (.return_, 1) := by decide +kernel
set_option maxRecDepth 100000 in
set_option maxHeartbeats 4000000 in
theorem c_newLetter {l : Launch} {g : Nat → Nat} {M : LH} (htr : l.stackTraces = false) {a : Nat} : K_X5_init l g 0 0 0 [.ref a] M (RV (fun M9 => M9 = M) nX) := by
  refine Ko_X5_init htr (fun X => ?_)
  refine v_aload_n dX5_init_0 rfl rfl ?_
  refine oi_X5_3 dX5_init_1 rfl (Nat.le_of_ble_eq_true rfl) ?_
  exact v_vret dX5_init_4 rfl rfl (by omega) (by omega)
theorem dX1_init_0 : decode cX1_init 0 = .ok (.aload_n 0, 1) := by decide +kernel
theorem dX1_init_1 : decode cX1_init 1 = .ok (.invokespecial 5, 3) := by decide +kernel
theorem dX1_init_4 : decode cX1_init 4 = .ok (.aload_n 0, 1) := by decide +kernel
theorem dX1_init_5 : decode cX1_init 5 = .ok (.bipush 31, 2) := by decide +kernel
theorem dX1_init_7 : decode cX1_init 7 = .ok (.newarray .int, 2) := by decide +kernel
theorem dX1_init_9 : decode cX1_init 9 = .ok (.putfield 11, 3) := by decide +kernel
theorem dX1_init_12 : decode cX1_init 12 = .ok (.return_, 1) := by decide +kernel
set_option maxRecDepth 100000 in
set_option maxHeartbeats 4000000 in
theorem c_newBest {l : Launch} {g : Nat → Nat} {M : LH} (htr : l.stackTraces = false) {a : Nat} (hA : M a = some (ob 1 [.null])) : K_X1_init l g 0 1 31 [.ref a] M (RV (fun M9 => ∃ q1, M q1 = none ∧ M9 a = some (ob 1 [.ref q1]) ∧ M9 q1 = some (ia 31 (fun _ => 0)) ∧ Gw a M M9) nX) := by
  refine Ko_X1_init htr (fun X => ?_)
  have hG := Gw.rf hA
  refine v_aload_n dX1_init_0 rfl rfl ?_
  refine oi_X1_5 dX1_init_1 rfl (Nat.le_of_ble_eq_true rfl) ?_
  refine v_aload_n dX1_init_4 rfl rfl ?_
  refine v_bipush (v := (31)) dX1_init_5 (by decide) ?_
  refine vi_nw (N := 31) dX1_init_7 rfl (by decide) (by decide) (by omega) (by omega) (fun q7 n7 => ?_)
  have f7 := hG.fr n7
  have hA := up_f (e' := ia 31 (fun _ => 0)) hA n7
  have hG := hG.new (e := ia 31 (fun _ => 0)) n7
  refine pF_X1_11 dX1_init_9 rfl rfl hA ?_
  exact v_vret dX1_init_12 rfl ⟨q7, f7, hup_s, up_k (hup_s (M := M)) hA ob_ia.symm, hG.at⟩ (by omega) (by omega)
theorem dX6_init_0 : decode cX6_init 0 = .ok (.aload_n 0, 1) := by decide +kernel
theorem dX6_init_1 : decode cX6_init 1 = .ok (.invokespecial 3, 3) := by decide +kernel
theorem dX6_init_4 : decode cX6_init 4 = .ok (.aload_n 0, 1) := by decide +kernel
theorem dX6_init_5 : decode cX6_init 5 = .ok (.sipush 896, 3) := by decide +kernel
theorem dX6_init_8 : decode cX6_init 8 = .ok (.newarray .int, 2) := by decide +kernel
theorem dX6_init_10 : decode cX6_init 10 = .ok (.putfield 11, 3) := by decide +kernel
theorem dX6_init_13 : decode cX6_init 13 = .ok (.return_, 1) := by decide +kernel
set_option maxRecDepth 100000 in
set_option maxHeartbeats 4000000 in
theorem c_newTrips {l : Launch} {g : Nat → Nat} {M : LH} (htr : l.stackTraces = false) {a : Nat} (hA : M a = some (ob 5 [.null])) : K_X6_init l g 0 1 896 [.ref a] M (RV (fun M9 => ∃ q1, M q1 = none ∧ M9 a = some (ob 5 [.ref q1]) ∧ M9 q1 = some (ia 896 (fun _ => 0)) ∧ Gw a M M9) nX) := by
  refine Ko_X6_init htr (fun X => ?_)
  have hG := Gw.rf hA
  refine v_aload_n dX6_init_0 rfl rfl ?_
  refine oi_X6_3 dX6_init_1 rfl (Nat.le_of_ble_eq_true rfl) ?_
  refine v_aload_n dX6_init_4 rfl rfl ?_
  refine v_sipush (v := (896)) dX6_init_5 (by decide) ?_
  refine vi_nw (N := 896) dX6_init_8 rfl (by decide) (by decide) (by omega) (by omega) (fun q8 n8 => ?_)
  have f8 := hG.fr n8
  have hA := up_f (e' := ia 896 (fun _ => 0)) hA n8
  have hG := hG.new (e := ia 896 (fun _ => 0)) n8
  refine pF_X6_11 dX6_init_10 rfl rfl hA ?_
  exact v_vret dX6_init_13 rfl ⟨q8, f8, hup_s, up_k (hup_s (M := M)) hA ob_ia.symm, hG.at⟩ (by omega) (by omega)
theorem dX4_init_0 : decode cX4_init 0 = .ok (.aload_n 0, 1) := by decide +kernel
theorem dX4_init_1 : decode cX4_init 1 = .ok (.invokespecial 3, 3) := by decide +kernel
theorem dX4_init_4 : decode cX4_init 4 = .ok (.aload_n 0, 1) := by decide +kernel
theorem dX4_init_5 : decode cX4_init 5 = .ok (.bipush 49, 2) := by decide +kernel
theorem dX4_init_7 : decode cX4_init 7 = .ok (.newarray .int, 2) := by decide +kernel
theorem dX4_init_9 : decode cX4_init 9 = .ok (.putfield 9, 3) := by decide +kernel
theorem dX4_init_12 : decode cX4_init 12 = .ok (.aload_n 0, 1) := by decide +kernel
theorem dX4_init_13 : decode cX4_init 13 = .ok (.bipush 49, 2) := by decide +kernel
theorem dX4_init_15 : decode cX4_init 15 = .ok (.newarray .int, 2) := by decide +kernel
theorem dX4_init_17 : decode cX4_init 17 = .ok (.putfield 15, 3) := by decide +kernel
theorem dX4_init_20 : decode cX4_init 20 = .ok (.return_, 1) := by decide +kernel
set_option maxRecDepth 100000 in
set_option maxHeartbeats 4000000 in
theorem c_newDist {l : Launch} {g : Nat → Nat} {M : LH} (htr : l.stackTraces = false) {a : Nat} (hA : M a = some (ob 3 [.null, .null])) : K_X4_init l g 0 2 98 [.ref a] M (RV (fun M9 => ∃ q1 q2, M q1 = none ∧ M q2 = none ∧ ¬ q1 = q2 ∧ M9 a = some (ob 3 [.ref q1, .ref q2]) ∧ M9 q1 = some (ia 49 (fun _ => 0)) ∧ M9 q2 = some (ia 49 (fun _ => 0)) ∧ Gw a M M9) nX) := by
  refine Ko_X4_init htr (fun X => ?_)
  have hG := Gw.rf hA
  refine v_aload_n dX4_init_0 rfl rfl ?_
  refine oi_X4_3 dX4_init_1 rfl (Nat.le_of_ble_eq_true rfl) ?_
  refine v_aload_n dX4_init_4 rfl rfl ?_
  refine v_bipush (v := (49)) dX4_init_5 (by decide) ?_
  refine vi_nw (N := 49) dX4_init_7 rfl (by decide) (by decide) (by omega) (by omega) (fun q7 n7 => ?_)
  have f7 := hG.fr n7
  have hA := up_f (e' := ia 49 (fun _ => 0)) hA n7
  have hG := hG.new (e := ia 49 (fun _ => 0)) n7
  refine pF_X4_9 dX4_init_9 rfl rfl hA ?_
  have h7 := up_k (e' := ob 3 [.ref q7, .null]) (hup_s (M := M) (a := q7) (e := ia 49 (fun _ => 0))) hA ob_ia.symm
  have hG := hG.at (e := ob 3 [.ref q7, .null])
  have hA := hup_s (M := hup M q7 (ia 49 (fun _ => 0))) (a := a) (e := ob 3 [.ref q7, .null])
  refine v_aload_n dX4_init_12 rfl rfl ?_
  refine v_bipush (v := (49)) dX4_init_13 (by decide) ?_
  refine vi_nw (N := 49) dX4_init_15 rfl (by decide) (by decide) (by omega) (by omega) (fun q15 n15 => ?_)
  have g15 := ne_nn h7 n15
  have f15 := hG.fr n15
  have hA := up_f (e' := ia 49 (fun _ => 0)) hA n15
  have h7 := up_f (e' := ia 49 (fun _ => 0)) h7 n15
  have hG := hG.new (e := ia 49 (fun _ => 0)) n15
  refine pF_X4_15 dX4_init_17 rfl rfl hA ?_
  exact v_vret dX4_init_20 rfl ⟨q7, q15, f7, f15, g15, hup_s, up_k h7 hA ob_ia.symm, up_k (hup_s (a := q15) (e := ia 49 (fun _ => 0))) hA ob_ia.symm, hG.at⟩ (by omega) (by omega)
