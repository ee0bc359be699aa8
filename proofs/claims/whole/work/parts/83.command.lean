/-! ===== the reference: a command ===== -/
set_option maxRecDepth 100000 in
set_option maxHeartbeats 4000000 in
theorem r_command {l : Launch} {g : Nat → Nat} {M : LH} (htr : l.stackTraces = false) {kd : Nat → Nat} {r m : Nat} {w : Nat → Nat} {ch ea fl sv bf tn he en ln dg : Int32} {v b4 sa pa fr th bs tx li lf to : Int32 → Int32} (hC : Md kd r M m w 0 ch ea fl sv bf tn he en ln 0 dg v b4 sa pa fr th bs tx li lf to) (hG : Good v) (e0 : 0 ≤ he) (e61 : he ≤ 60) (e60 : en ≤ 60) : K_X12_command l g 5 0 0 [.ref m] M (RV (fun M9 => ∃ (lf9 to9 : Int32 → Int32) (e9 : Int32), ((cmE tx en he e9 ∧ Md kd r M9 m w 0 ch ea fl sv bf tn e9 en ln 1 dg v b4 sa pa fr th bs tx li lf9 to9) ∨ (∃ i ns, cmG tx en he i e9 ns ∧ (∀ j, j < arN i → to9 (nI j) = ns.getD j 0) ∧ ((dg = 0 ∧ Md kd r M9 m w 0 ch ea fl sv bf tn e9 en ln 0 dg v b4 sa pa fr th bs tx li lf9 to9) ∨ (¬ dg = 0 ∧ ((okJ v to9 i ∧ ∃ (v' : Int32 → Int32) (x9 b9 : Int32) (f9 h9 : Int32 → Int32), ddS v to9 i v' x9 ∧ Md kd r M9 m w 0 ch ea fl sv b9 tn e9 en ln 0 dg v' b4 sa pa f9 h9 bs tx li lf9 to9) ∨ (¬ okJ v to9 i ∧ ∃ (t9 : Int32) (f9 : Int32 → Int32), ¬ t9 = 0 ∧ Md kd r M9 m w t9 ch ea fl sv bf tn e9 en ln 0 dg v b4 sa pa f9 th bs tx li lf9 to9)))))) ∧ Frm kd r M M9) nX) := by
  refine Ko_X12_command htr (fun X => ?_)
  obtain ⟨hMo, hw5, hw6, hw7, hw8, hw9, hw10, hw11, hw13, hw14, hw15, hw16, hw17, hw18, -⟩ := _root_.id hC
  have hF : Frm kd r M M := Frm.rf
  refine v_aload_n dX12_command_0 rfl rfl ?_
  refine k_X12_221 dX12_command_1 rfl (r_word htr hC e0 e61 e60 rfl) hMo (Nat.le_of_ble_eq_true rfl) (by omega) (by omega) (Nat.le_of_ble_eq_true rfl) (fun r1 M9 h9 => ?_) (fun _ _ h9 => h9.elim)
  obtain ⟨lf1, h9, hF9⟩ := h9
  have hF := Frm.tr hF hF9
  rcases h9 with ⟨i, hi, hm, rfl, hC⟩ | ⟨rfl, n, hex, hnc, hno, hC⟩
  · obtain ⟨q0, q1⟩ := mtW_in hm hi e0 e61 e60
    obtain ⟨hMo, hw5, hw6, hw7, hw8, hw9, hw10, hw11, hw13, hw14, hw15, hw16, hw17, hw18, -⟩ := _root_.id hC
    refine v_istore_1 dX12_command_4 ?_
    refine v_aload_n dX12_command_5 rfl rfl ?_
    refine gf_X12_208 dX12_command_6 rfl hMo ?_
    refine v_if_eq (tgt := 13) dX12_command_9 (by decide) (fun h9q => ?_) (fun h9q => ?_)
    · clear e0 e61 hMo hw5 hw6 hw7 hw8 hw9 hw10 hw11 hw13 hw14 hw15 hw16 hw17 hw18
      match i, hi, hm, q0, q1, hC with
      | 0, _, hm, e0, e61, hC => exact r_cmd_0 (wr := 0) htr rfl hm hG e60 e0 e61 hC hF
      | 1, _, hm, e0, e61, hC => exact r_cmd_1 (wr := 0) htr rfl hm hG e60 e0 e61 hC hF
      | 2, _, hm, e0, e61, hC => exact r_cmd_2 (wr := 0) htr rfl hm hG e60 e0 e61 hC hF
      | 3, _, hm, e0, e61, hC => exact r_cmd_3 (wr := 0) htr rfl hm hG e60 e0 e61 hC hF
      | 4, _, hm, e0, e61, hC => exact r_cmd_4 (wr := 0) htr rfl hm hG e60 e0 e61 hC hF
      | 5, _, hm, e0, e61, hC => exact r_cmd_5 (wr := 0) htr rfl hm hG e60 e0 e61 hC hF
      | 6, _, hm, e0, e61, hC => exact r_cmd_6 (wr := 0) htr rfl hm hG e60 e0 e61 hC hF
      | 7, _, hm, e0, e61, hC => exact r_cmd_7 (wr := 0) htr rfl hm hG e60 e0 e61 hC hF
      | 8, _, hm, e0, e61, hC => exact r_cmd_8 (wr := 0) htr rfl hm hG e60 e0 e61 hC hF
      | 9, _, hm, e0, e61, hC => exact r_cmd_9 (wr := 0) htr rfl hm hG e60 e0 e61 hC hF
      | i + 10, hi, _, _, _, _ => exact absurd hi (by omega)
    · exact absurd rfl h9q
  · obtain ⟨hMo, hw5, hw6, hw7, hw8, hw9, hw10, hw11, hw13, hw14, hw15, hw16, hw17, hw18, -⟩ := _root_.id hC
    refine v_istore_1 dX12_command_4 ?_
    refine v_aload_n dX12_command_5 rfl rfl ?_
    refine gf_X12_208 dX12_command_6 rfl hMo ?_
    refine v_if_eq (tgt := 13) dX12_command_9 (by decide) (fun h9q => ?_) (fun h9q => ?_)
    · exact absurd h9q (by decide)
    · exact v_vret dX12_command_12 rfl ⟨_, _, _, Or.inl ⟨Or.inl ⟨n, rfl, hex, hnc, hno⟩, hC⟩, hF⟩ (by omega) (by omega)
