/-! ===== the reference: questions ===== -/
theorem dX12_tells_0 : decode cX12_tells 0 = .ok (.aload_n 0, 1) := by decide +kernel
theorem dX12_tells_1 : decode cX12_tells 1 = .ok (.iconst 0, 1) := by decide +kernel
theorem dX12_tells_2 : decode cX12_tells 2 = .ok (.putfield 56, 3) := by decide +kernel
theorem dX12_tells_5 : decode cX12_tells 5 = .ok (.aload_n 0, 1) := by decide +kernel
theorem dX12_tells_6 : decode cX12_tells 6 = .ok (.getfield 16, 3) := by decide +kernel
theorem dX12_tells_9 : decode cX12_tells 9 = .ok (.iload_n 1, 1) := by decide +kernel
theorem dX12_tells_10 : decode cX12_tells 10 = .ok (.iaload, 1) := by decide +kernel
theorem dX12_tells_11 : decode cX12_tells 11 = .ok (.ireturn, 1) := by decide +kernel
set_option maxRecDepth 100000 in
set_option maxHeartbeats 4000000 in
theorem r_tells {l : Launch} {g : Nat → Nat} {M : LH} (htr : l.stackTraces = false) {kd : Nat → Nat} {r m : Nat} {w : Nat → Nat} {t ch ea fl sv bf tn he en ln wr dg : Int32} {v b4 sa pa fr th bs tx li lf to : Int32 → Int32} (hC : Md kd r M m w t ch ea fl sv bf tn he en ln wr dg v b4 sa pa fr th bs tx li lf to) (hG : Good v) {j : Int32} (j0 : 0 ≤ j) (j1 : j < 150) : K_X12_tells l g 0 0 0 [.ref m, .int j] M (RI (fun x M9 => x = v j ∧ Md kd r M9 m w 0 ch ea fl sv bf tn he en ln wr dg v b4 sa pa fr th bs tx li lf to ∧ Frm kd r M M9) nX) := by
  refine Ko_X12_tells htr (fun X => ?_)
  obtain ⟨hMo, hw5, hw6, hw7, hw8, hw9, hw10, hw11, hw13, hw14, hw15, hw16, hw17, hw18, -⟩ := _root_.id hC
  have hF : Frm kd r M M := Frm.rf
  obtain ⟨hg1, hg2, hg3, hg4, hg5, hg6, hg7, hg8, hgL, hgS, -⟩ := _root_.id hG
  clear hgL hgS
  refine v_aload_n dX12_tells_0 rfl rfl ?_
  refine v_iconst (v := 0) dX12_tells_1 (by decide) ?_
  refine pf_X12_56 dX12_tells_2 rfl hMo ?_
  refine V.md (Md.sc hC) (Frm.tr hF (Frm.up (hC.kd_sc))) (fun M1 hC hF => ?_)
  obtain ⟨hMo, hw5, hw6, hw7, hw8, hw9, hw10, hw11, hw13, hw14, hw15, hw16, hw17, hw18, -⟩ := _root_.id hC
  refine v_aload_n dX12_tells_5 rfl rfl ?_
  refine gf_X12_16 dX12_tells_6 rfl hMo ?_
  refine v_iload_n dX12_tells_9 rfl rfl ?_
  refine v_iald dX12_tells_10 hw5 j0 j1 ?_
  exact v_iret dX12_tells_11 rfl ⟨rfl, hC, hF⟩ (by omega) (by omega)
theorem dX12_stationCount_0 : decode cX12_stationCount 0 = .ok (.aload_n 0, 1) := by decide +kernel
theorem dX12_stationCount_1 : decode cX12_stationCount 1 = .ok (.iconst 5, 1) := by decide +kernel
theorem dX12_stationCount_2 : decode cX12_stationCount 2 = .ok (.invokevirtual 158, 3) := by decide +kernel
theorem dX12_stationCount_5 : decode cX12_stationCount 5 = .ok (.ireturn, 1) := by decide +kernel
set_option maxRecDepth 100000 in
set_option maxHeartbeats 4000000 in
theorem r_stationCount {l : Launch} {g : Nat → Nat} {M : LH} (htr : l.stackTraces = false) {kd : Nat → Nat} {r m : Nat} {w : Nat → Nat} {t ch ea fl sv bf tn he en ln wr dg : Int32} {v b4 sa pa fr th bs tx li lf to : Int32 → Int32} (hC : Md kd r M m w t ch ea fl sv bf tn he en ln wr dg v b4 sa pa fr th bs tx li lf to) (hG : Good v) : K_X12_stationCount l g 1 0 0 [.ref m] M (RI (fun x M9 => x = v 5 ∧ Md kd r M9 m w 0 ch ea fl sv bf tn he en ln wr dg v b4 sa pa fr th bs tx li lf to ∧ Frm kd r M M9) nX) := by
  refine Ko_X12_stationCount htr (fun X => ?_)
  obtain ⟨hMo, hw5, hw6, hw7, hw8, hw9, hw10, hw11, hw13, hw14, hw15, hw16, hw17, hw18, -⟩ := _root_.id hC
  have hF : Frm kd r M M := Frm.rf
  obtain ⟨hg1, hg2, hg3, hg4, hg5, hg6, hg7, hg8, hgL, hgS, -⟩ := _root_.id hG
  clear hgL hgS
  refine v_aload_n dX12_stationCount_0 rfl rfl ?_
  refine v_iconst (v := 5) dX12_stationCount_1 (by decide) ?_
  refine k_X12_158 dX12_stationCount_2 rfl (r_tells htr hC hG (by decide) (by decide)) hMo (Nat.le_of_ble_eq_true rfl) (by omega) (by omega) (Nat.le_of_ble_eq_true rfl) (fun r2 M9 h9 => ?_) (fun _ _ h9 => h9.elim)
  exact v_iret dX12_stationCount_5 rfl h9 (by omega) (by omega)
theorem dX12_sledgeCount_0 : decode cX12_sledgeCount 0 = .ok (.aload_n 0, 1) := by decide +kernel
theorem dX12_sledgeCount_1 : decode cX12_sledgeCount 1 = .ok (.bipush 6, 2) := by decide +kernel
theorem dX12_sledgeCount_3 : decode cX12_sledgeCount 3 = .ok (.invokevirtual 158, 3) := by decide +kernel
theorem dX12_sledgeCount_6 : decode cX12_sledgeCount 6 = .ok (.ireturn, 1) := by decide +kernel
set_option maxRecDepth 100000 in
set_option maxHeartbeats 4000000 in
theorem r_sledgeCount {l : Launch} {g : Nat → Nat} {M : LH} (htr : l.stackTraces = false) {kd : Nat → Nat} {r m : Nat} {w : Nat → Nat} {t ch ea fl sv bf tn he en ln wr dg : Int32} {v b4 sa pa fr th bs tx li lf to : Int32 → Int32} (hC : Md kd r M m w t ch ea fl sv bf tn he en ln wr dg v b4 sa pa fr th bs tx li lf to) (hG : Good v) : K_X12_sledgeCount l g 1 0 0 [.ref m] M (RI (fun x M9 => x = v 6 ∧ Md kd r M9 m w 0 ch ea fl sv bf tn he en ln wr dg v b4 sa pa fr th bs tx li lf to ∧ Frm kd r M M9) nX) := by
  refine Ko_X12_sledgeCount htr (fun X => ?_)
  obtain ⟨hMo, hw5, hw6, hw7, hw8, hw9, hw10, hw11, hw13, hw14, hw15, hw16, hw17, hw18, -⟩ := _root_.id hC
  have hF : Frm kd r M M := Frm.rf
  obtain ⟨hg1, hg2, hg3, hg4, hg5, hg6, hg7, hg8, hgL, hgS, -⟩ := _root_.id hG
  clear hgL hgS
  refine v_aload_n dX12_sledgeCount_0 rfl rfl ?_
  refine v_bipush (v := (6)) dX12_sledgeCount_1 (by decide) ?_
  refine k_X12_158 dX12_sledgeCount_3 rfl (r_tells htr hC hG (by decide) (by decide)) hMo (Nat.le_of_ble_eq_true rfl) (by omega) (by omega) (Nat.le_of_ble_eq_true rfl) (fun r3 M9 h9 => ?_) (fun _ _ h9 => h9.elim)
  exact v_iret dX12_sledgeCount_6 rfl h9 (by omega) (by omega)
theorem dX12_letterCount_0 : decode cX12_letterCount 0 = .ok (.aload_n 0, 1) := by decide +kernel
theorem dX12_letterCount_1 : decode cX12_letterCount 1 = .ok (.bipush 7, 2) := by decide +kernel
theorem dX12_letterCount_3 : decode cX12_letterCount 3 = .ok (.invokevirtual 158, 3) := by decide +kernel
theorem dX12_letterCount_6 : decode cX12_letterCount 6 = .ok (.ireturn, 1) := by decide +kernel
set_option maxRecDepth 100000 in
set_option maxHeartbeats 4000000 in
theorem r_letterCount {l : Launch} {g : Nat → Nat} {M : LH} (htr : l.stackTraces = false) {kd : Nat → Nat} {r m : Nat} {w : Nat → Nat} {t ch ea fl sv bf tn he en ln wr dg : Int32} {v b4 sa pa fr th bs tx li lf to : Int32 → Int32} (hC : Md kd r M m w t ch ea fl sv bf tn he en ln wr dg v b4 sa pa fr th bs tx li lf to) (hG : Good v) : K_X12_letterCount l g 1 0 0 [.ref m] M (RI (fun x M9 => x = v 7 ∧ Md kd r M9 m w 0 ch ea fl sv bf tn he en ln wr dg v b4 sa pa fr th bs tx li lf to ∧ Frm kd r M M9) nX) := by
  refine Ko_X12_letterCount htr (fun X => ?_)
  obtain ⟨hMo, hw5, hw6, hw7, hw8, hw9, hw10, hw11, hw13, hw14, hw15, hw16, hw17, hw18, -⟩ := _root_.id hC
  have hF : Frm kd r M M := Frm.rf
  obtain ⟨hg1, hg2, hg3, hg4, hg5, hg6, hg7, hg8, hgL, hgS, -⟩ := _root_.id hG
  clear hgL hgS
  refine v_aload_n dX12_letterCount_0 rfl rfl ?_
  refine v_bipush (v := (7)) dX12_letterCount_1 (by decide) ?_
  refine k_X12_158 dX12_letterCount_3 rfl (r_tells htr hC hG (by decide) (by decide)) hMo (Nat.le_of_ble_eq_true rfl) (by omega) (by omega) (Nat.le_of_ble_eq_true rfl) (fun r3 M9 h9 => ?_) (fun _ _ h9 => h9.elim)
  exact v_iret dX12_letterCount_6 rfl h9 (by omega) (by omega)
theorem dX12_time_0 : decode cX12_time 0 = .ok (.aload_n 0, 1) := by decide +kernel
theorem dX12_time_1 : decode cX12_time 1 = .ok (.iconst 0, 1) := by decide +kernel
theorem dX12_time_2 : decode cX12_time 2 = .ok (.invokevirtual 158, 3) := by decide +kernel
theorem dX12_time_5 : decode cX12_time 5 = .ok (.ireturn, 1) := by decide +kernel
set_option maxRecDepth 100000 in
set_option maxHeartbeats 4000000 in
theorem r_time {l : Launch} {g : Nat → Nat} {M : LH} (htr : l.stackTraces = false) {kd : Nat → Nat} {r m : Nat} {w : Nat → Nat} {t ch ea fl sv bf tn he en ln wr dg : Int32} {v b4 sa pa fr th bs tx li lf to : Int32 → Int32} (hC : Md kd r M m w t ch ea fl sv bf tn he en ln wr dg v b4 sa pa fr th bs tx li lf to) (hG : Good v) : K_X12_time l g 1 0 0 [.ref m] M (RI (fun x M9 => x = v 0 ∧ Md kd r M9 m w 0 ch ea fl sv bf tn he en ln wr dg v b4 sa pa fr th bs tx li lf to ∧ Frm kd r M M9) nX) := by
  refine Ko_X12_time htr (fun X => ?_)
  obtain ⟨hMo, hw5, hw6, hw7, hw8, hw9, hw10, hw11, hw13, hw14, hw15, hw16, hw17, hw18, -⟩ := _root_.id hC
  have hF : Frm kd r M M := Frm.rf
  obtain ⟨hg1, hg2, hg3, hg4, hg5, hg6, hg7, hg8, hgL, hgS, -⟩ := _root_.id hG
  clear hgL hgS
  refine v_aload_n dX12_time_0 rfl rfl ?_
  refine v_iconst (v := 0) dX12_time_1 (by decide) ?_
  refine k_X12_158 dX12_time_2 rfl (r_tells htr hC hG (by decide) (by decide)) hMo (Nat.le_of_ble_eq_true rfl) (by omega) (by omega) (Nat.le_of_ble_eq_true rfl) (fun r2 M9 h9 => ?_) (fun _ _ h9 => h9.elim)
  exact v_iret dX12_time_5 rfl h9 (by omega) (by omega)
theorem dX12_temperature_0 : decode cX12_temperature 0 = .ok (.aload_n 0, 1) := by decide +kernel
theorem dX12_temperature_1 : decode cX12_temperature 1 = .ok (.iconst 1, 1) := by decide +kernel
theorem dX12_temperature_2 : decode cX12_temperature 2 = .ok (.invokevirtual 158, 3) := by decide +kernel
theorem dX12_temperature_5 : decode cX12_temperature 5 = .ok (.ireturn, 1) := by decide +kernel
set_option maxRecDepth 100000 in
set_option maxHeartbeats 4000000 in
theorem r_temperature {l : Launch} {g : Nat → Nat} {M : LH} (htr : l.stackTraces = false) {kd : Nat → Nat} {r m : Nat} {w : Nat → Nat} {t ch ea fl sv bf tn he en ln wr dg : Int32} {v b4 sa pa fr th bs tx li lf to : Int32 → Int32} (hC : Md kd r M m w t ch ea fl sv bf tn he en ln wr dg v b4 sa pa fr th bs tx li lf to) (hG : Good v) : K_X12_temperature l g 1 0 0 [.ref m] M (RI (fun x M9 => x = v 1 ∧ Md kd r M9 m w 0 ch ea fl sv bf tn he en ln wr dg v b4 sa pa fr th bs tx li lf to ∧ Frm kd r M M9) nX) := by
  refine Ko_X12_temperature htr (fun X => ?_)
  obtain ⟨hMo, hw5, hw6, hw7, hw8, hw9, hw10, hw11, hw13, hw14, hw15, hw16, hw17, hw18, -⟩ := _root_.id hC
  have hF : Frm kd r M M := Frm.rf
  obtain ⟨hg1, hg2, hg3, hg4, hg5, hg6, hg7, hg8, hgL, hgS, -⟩ := _root_.id hG
  clear hgL hgS
  refine v_aload_n dX12_temperature_0 rfl rfl ?_
  refine v_iconst (v := 1) dX12_temperature_1 (by decide) ?_
  refine k_X12_158 dX12_temperature_2 rfl (r_tells htr hC hG (by decide) (by decide)) hMo (Nat.le_of_ble_eq_true rfl) (by omega) (by omega) (Nat.le_of_ble_eq_true rfl) (fun r2 M9 h9 => ?_) (fun _ _ h9 => h9.elim)
  exact v_iret dX12_temperature_5 rfl h9 (by omega) (by omega)
theorem dX12_coins_0 : decode cX12_coins 0 = .ok (.aload_n 0, 1) := by decide +kernel
theorem dX12_coins_1 : decode cX12_coins 1 = .ok (.iconst 2, 1) := by decide +kernel
theorem dX12_coins_2 : decode cX12_coins 2 = .ok (.invokevirtual 158, 3) := by decide +kernel
theorem dX12_coins_5 : decode cX12_coins 5 = .ok (.ireturn, 1) := by decide +kernel
set_option maxRecDepth 100000 in
set_option maxHeartbeats 4000000 in
theorem r_coins {l : Launch} {g : Nat → Nat} {M : LH} (htr : l.stackTraces = false) {kd : Nat → Nat} {r m : Nat} {w : Nat → Nat} {t ch ea fl sv bf tn he en ln wr dg : Int32} {v b4 sa pa fr th bs tx li lf to : Int32 → Int32} (hC : Md kd r M m w t ch ea fl sv bf tn he en ln wr dg v b4 sa pa fr th bs tx li lf to) (hG : Good v) : K_X12_coins l g 1 0 0 [.ref m] M (RI (fun x M9 => x = v 2 ∧ Md kd r M9 m w 0 ch ea fl sv bf tn he en ln wr dg v b4 sa pa fr th bs tx li lf to ∧ Frm kd r M M9) nX) := by
  refine Ko_X12_coins htr (fun X => ?_)
  obtain ⟨hMo, hw5, hw6, hw7, hw8, hw9, hw10, hw11, hw13, hw14, hw15, hw16, hw17, hw18, -⟩ := _root_.id hC
  have hF : Frm kd r M M := Frm.rf
  obtain ⟨hg1, hg2, hg3, hg4, hg5, hg6, hg7, hg8, hgL, hgS, -⟩ := _root_.id hG
  clear hgL hgS
  refine v_aload_n dX12_coins_0 rfl rfl ?_
  refine v_iconst (v := 2) dX12_coins_1 (by decide) ?_
  refine k_X12_158 dX12_coins_2 rfl (r_tells htr hC hG (by decide) (by decide)) hMo (Nat.le_of_ble_eq_true rfl) (by omega) (by omega) (Nat.le_of_ble_eq_true rfl) (fun r2 M9 h9 => ?_) (fun _ _ h9 => h9.elim)
  exact v_iret dX12_coins_5 rfl h9 (by omega) (by omega)
theorem dX12_coinsByAccounts_0 : decode cX12_coinsByAccounts 0 = .ok (.aload_n 0, 1) := by decide +kernel
theorem dX12_coinsByAccounts_1 : decode cX12_coinsByAccounts 1 = .ok (.iconst 2, 1) := by decide +kernel
theorem dX12_coinsByAccounts_2 : decode cX12_coinsByAccounts 2 = .ok (.invokevirtual 158, 3) := by decide +kernel
theorem dX12_coinsByAccounts_5 : decode cX12_coinsByAccounts 5 = .ok (.ireturn, 1) := by decide +kernel
set_option maxRecDepth 100000 in
set_option maxHeartbeats 4000000 in
theorem r_coinsByAccounts {l : Launch} {g : Nat → Nat} {M : LH} (htr : l.stackTraces = false) {kd : Nat → Nat} {r m : Nat} {w : Nat → Nat} {t ch ea fl sv bf tn he en ln wr dg : Int32} {v b4 sa pa fr th bs tx li lf to : Int32 → Int32} (hC : Md kd r M m w t ch ea fl sv bf tn he en ln wr dg v b4 sa pa fr th bs tx li lf to) (hG : Good v) : K_X12_coinsByAccounts l g 1 0 0 [.ref m] M (RI (fun x M9 => x = v 2 ∧ Md kd r M9 m w 0 ch ea fl sv bf tn he en ln wr dg v b4 sa pa fr th bs tx li lf to ∧ Frm kd r M M9) nX) := by
  refine Ko_X12_coinsByAccounts htr (fun X => ?_)
  obtain ⟨hMo, hw5, hw6, hw7, hw8, hw9, hw10, hw11, hw13, hw14, hw15, hw16, hw17, hw18, -⟩ := _root_.id hC
  have hF : Frm kd r M M := Frm.rf
  obtain ⟨hg1, hg2, hg3, hg4, hg5, hg6, hg7, hg8, hgL, hgS, -⟩ := _root_.id hG
  clear hgL hgS
  refine v_aload_n dX12_coinsByAccounts_0 rfl rfl ?_
  refine v_iconst (v := 2) dX12_coinsByAccounts_1 (by decide) ?_
  refine k_X12_158 dX12_coinsByAccounts_2 rfl (r_tells htr hC hG (by decide) (by decide)) hMo (Nat.le_of_ble_eq_true rfl) (by omega) (by omega) (Nat.le_of_ble_eq_true rfl) (fun r2 M9 h9 => ?_) (fun _ _ h9 => h9.elim)
  exact v_iret dX12_coinsByAccounts_5 rfl h9 (by omega) (by omega)
theorem dX12_deliveredTotal_0 : decode cX12_deliveredTotal 0 = .ok (.aload_n 0, 1) := by decide +kernel
theorem dX12_deliveredTotal_1 : decode cX12_deliveredTotal 1 = .ok (.iconst 3, 1) := by decide +kernel
theorem dX12_deliveredTotal_2 : decode cX12_deliveredTotal 2 = .ok (.invokevirtual 158, 3) := by decide +kernel
theorem dX12_deliveredTotal_5 : decode cX12_deliveredTotal 5 = .ok (.ireturn, 1) := by decide +kernel
set_option maxRecDepth 100000 in
set_option maxHeartbeats 4000000 in
theorem r_deliveredTotal {l : Launch} {g : Nat → Nat} {M : LH} (htr : l.stackTraces = false) {kd : Nat → Nat} {r m : Nat} {w : Nat → Nat} {t ch ea fl sv bf tn he en ln wr dg : Int32} {v b4 sa pa fr th bs tx li lf to : Int32 → Int32} (hC : Md kd r M m w t ch ea fl sv bf tn he en ln wr dg v b4 sa pa fr th bs tx li lf to) (hG : Good v) : K_X12_deliveredTotal l g 1 0 0 [.ref m] M (RI (fun x M9 => x = v 3 ∧ Md kd r M9 m w 0 ch ea fl sv bf tn he en ln wr dg v b4 sa pa fr th bs tx li lf to ∧ Frm kd r M M9) nX) := by
  refine Ko_X12_deliveredTotal htr (fun X => ?_)
  obtain ⟨hMo, hw5, hw6, hw7, hw8, hw9, hw10, hw11, hw13, hw14, hw15, hw16, hw17, hw18, -⟩ := _root_.id hC
  have hF : Frm kd r M M := Frm.rf
  obtain ⟨hg1, hg2, hg3, hg4, hg5, hg6, hg7, hg8, hgL, hgS, -⟩ := _root_.id hG
  clear hgL hgS
  refine v_aload_n dX12_deliveredTotal_0 rfl rfl ?_
  refine v_iconst (v := 3) dX12_deliveredTotal_1 (by decide) ?_
  refine k_X12_158 dX12_deliveredTotal_2 rfl (r_tells htr hC hG (by decide) (by decide)) hMo (Nat.le_of_ble_eq_true rfl) (by omega) (by omega) (Nat.le_of_ble_eq_true rfl) (fun r2 M9 h9 => ?_) (fun _ _ h9 => h9.elim)
  exact v_iret dX12_deliveredTotal_5 rfl h9 (by omega) (by omega)
theorem dX12_arePair_0 : decode cX12_arePair 0 = .ok (.aload_n 0, 1) := by decide +kernel
theorem dX12_arePair_1 : decode cX12_arePair 1 = .ok (.aload_n 0, 1) := by decide +kernel
theorem dX12_arePair_2 : decode cX12_arePair 2 = .ok (.iload_n 1, 1) := by decide +kernel
theorem dX12_arePair_3 : decode cX12_arePair 3 = .ok (.invokevirtual 88, 3) := by decide +kernel
theorem dX12_arePair_6 : decode cX12_arePair 6 = .ok (.ifCond .eq 15, 3) := by decide +kernel
theorem dX12_arePair_9 : decode cX12_arePair 9 = .ok (.aload_n 0, 1) := by decide +kernel
theorem dX12_arePair_10 : decode cX12_arePair 10 = .ok (.iload_n 2, 1) := by decide +kernel
theorem dX12_arePair_11 : decode cX12_arePair 11 = .ok (.invokevirtual 88, 3) := by decide +kernel
theorem dX12_arePair_14 : decode cX12_arePair 14 = .ok (.ifCond .eq 7, 3) := by decide +kernel
theorem dX12_arePair_17 : decode cX12_arePair 17 = .ok (.iconst 0, 1) := by decide +kernel
theorem dX12_arePair_18 : decode cX12_arePair 18 = .ok (.goto 4, 3) := by decide +kernel
theorem dX12_arePair_21 : decode cX12_arePair 21 = .ok (.iconst 1, 1) := by decide +kernel
theorem dX12_arePair_22 : decode cX12_arePair 22 = .ok (.putfield 56, 3) := by decide +kernel
theorem dX12_arePair_25 : decode cX12_arePair 25 = .ok (.aload_n 0, 1) := by decide +kernel
theorem dX12_arePair_26 : decode cX12_arePair 26 = .ok (.getfield 56, 3) := by decide +kernel
theorem dX12_arePair_29 : decode cX12_arePair 29 = .ok (.ifCond .ne 7, 3) := by decide +kernel
theorem dX12_arePair_32 : decode cX12_arePair 32 = .ok (.iconst 1, 1) := by decide +kernel
theorem dX12_arePair_33 : decode cX12_arePair 33 = .ok (.goto 4, 3) := by decide +kernel
theorem dX12_arePair_36 : decode cX12_arePair 36 = .ok (.iconst 0, 1) := by decide +kernel
theorem dX12_arePair_37 : decode cX12_arePair 37 = .ok (.ireturn, 1) := by decide +kernel
set_option maxRecDepth 100000 in
set_option maxHeartbeats 4000000 in
theorem r_arePair {l : Launch} {g : Nat → Nat} {M : LH} (htr : l.stackTraces = false) {kd : Nat → Nat} {r m : Nat} {w : Nat → Nat} {t ch ea fl sv bf tn he en ln wr dg : Int32} {v b4 sa pa fr th bs tx li lf to : Int32 → Int32} (hC : Md kd r M m w t ch ea fl sv bf tn he en ln wr dg v b4 sa pa fr th bs tx li lf to) (hG : Good v) (s d : Int32) : K_X12_arePair l g 2 0 0 [.ref m, .int s, .int d] M (RI (fun x M9 => (((hst v s ∧ hst v d) ∧ x = 1 ∧ Md kd r M9 m w 0 ch ea fl sv bf tn he en ln wr dg v b4 sa pa fr th bs tx li lf to) ∨ (¬ ((hst v s ∧ hst v d)) ∧ x = 0 ∧ Md kd r M9 m w 1 ch ea fl sv bf tn he en ln wr dg v b4 sa pa fr th bs tx li lf to)) ∧ Frm kd r M M9) nX) := by
  refine Ko_X12_arePair htr (fun X => ?_)
  obtain ⟨hMo, hw5, hw6, hw7, hw8, hw9, hw10, hw11, hw13, hw14, hw15, hw16, hw17, hw18, -⟩ := _root_.id hC
  have hF : Frm kd r M M := Frm.rf
  obtain ⟨hg1, hg2, hg3, hg4, hg5, hg6, hg7, hg8, hgL, hgS, -⟩ := _root_.id hG
  clear hgL hgS
  refine v_aload_n dX12_arePair_0 rfl rfl ?_
  refine v_aload_n dX12_arePair_1 rfl rfl ?_
  refine v_iload_n dX12_arePair_2 rfl rfl ?_
  refine k_X12_88 dX12_arePair_3 rfl (r_isStation htr hC hG s) hMo (Nat.le_of_ble_eq_true rfl) (by omega) (by omega) (Nat.le_of_ble_eq_true rfl) (fun r3 M9 h9 => ?_) (fun _ _ h9 => h9.elim)
  obtain ⟨rfl, e9⟩ := h9
  subst M9
  refine v_if_eq (tgt := 21) dX12_arePair_6 (by decide) (fun h6 => ?_) (fun h6 => ?_)
  · refine v_iconst (v := 1) dX12_arePair_21 (by decide) ?_
    refine pf_X12_56 dX12_arePair_22 rfl hMo ?_
    refine V.md (Md.sc hC) (Frm.tr hF (Frm.up (hC.kd_sc))) (fun M1 hC hF => ?_)
    obtain ⟨hMo, hw5, hw6, hw7, hw8, hw9, hw10, hw11, hw13, hw14, hw15, hw16, hw17, hw18, -⟩ := _root_.id hC
    refine v_aload_n dX12_arePair_25 rfl rfl ?_
    refine gf_X12_56 dX12_arePair_26 rfl hMo ?_
    refine v_if_ne (tgt := 36) dX12_arePair_29 (by decide) (fun h29 => ?_) (fun h29 => ?_)
    · refine v_iconst (v := 0) dX12_arePair_36 (by decide) ?_
      exact v_zret dX12_arePair_37 rfl (by first | rfl | assumption) (by first | (exfalso; revert h29; decide) | exact ⟨Or.inl ⟨⟨b_t h6, b_t h14⟩, rfl, hC⟩, hF⟩ | exact ⟨Or.inr ⟨fun z => b_f h14 z.2, rfl, hC⟩, hF⟩ | exact ⟨Or.inr ⟨fun z => b_f h6 z.1, rfl, hC⟩, hF⟩) (by omega) (by omega)
    · refine v_iconst (v := 1) dX12_arePair_32 (by decide) ?_
      refine v_goto (tgt := 37) dX12_arePair_33 (by decide) ?_
      exact v_zret dX12_arePair_37 rfl (by first | rfl | assumption) (by first | (exfalso; revert h29; decide) | exact ⟨Or.inl ⟨⟨b_t h6, b_t h14⟩, rfl, hC⟩, hF⟩ | exact ⟨Or.inr ⟨fun z => b_f h14 z.2, rfl, hC⟩, hF⟩ | exact ⟨Or.inr ⟨fun z => b_f h6 z.1, rfl, hC⟩, hF⟩) (by omega) (by omega)
  · refine v_aload_n dX12_arePair_9 rfl rfl ?_
    refine v_iload_n dX12_arePair_10 rfl rfl ?_
    refine k_X12_88 dX12_arePair_11 rfl (r_isStation htr hC hG d) hMo (Nat.le_of_ble_eq_true rfl) (by omega) (by omega) (Nat.le_of_ble_eq_true rfl) (fun r11 M9 h9 => ?_) (fun _ _ h9 => h9.elim)
    obtain ⟨rfl, e9⟩ := h9
    subst M9
    refine v_if_eq (tgt := 21) dX12_arePair_14 (by decide) (fun h14 => ?_) (fun h14 => ?_)
    · refine v_iconst (v := 1) dX12_arePair_21 (by decide) ?_
      refine pf_X12_56 dX12_arePair_22 rfl hMo ?_
      refine V.md (Md.sc hC) (Frm.tr hF (Frm.up (hC.kd_sc))) (fun M1 hC hF => ?_)
      obtain ⟨hMo, hw5, hw6, hw7, hw8, hw9, hw10, hw11, hw13, hw14, hw15, hw16, hw17, hw18, -⟩ := _root_.id hC
      refine v_aload_n dX12_arePair_25 rfl rfl ?_
      refine gf_X12_56 dX12_arePair_26 rfl hMo ?_
      refine v_if_ne (tgt := 36) dX12_arePair_29 (by decide) (fun h29 => ?_) (fun h29 => ?_)
      · refine v_iconst (v := 0) dX12_arePair_36 (by decide) ?_
        exact v_zret dX12_arePair_37 rfl (by first | rfl | assumption) (by first | (exfalso; revert h29; decide) | exact ⟨Or.inl ⟨⟨b_t h6, b_t h14⟩, rfl, hC⟩, hF⟩ | exact ⟨Or.inr ⟨fun z => b_f h14 z.2, rfl, hC⟩, hF⟩ | exact ⟨Or.inr ⟨fun z => b_f h6 z.1, rfl, hC⟩, hF⟩) (by omega) (by omega)
      · refine v_iconst (v := 1) dX12_arePair_32 (by decide) ?_
        refine v_goto (tgt := 37) dX12_arePair_33 (by decide) ?_
        exact v_zret dX12_arePair_37 rfl (by first | rfl | assumption) (by first | (exfalso; revert h29; decide) | exact ⟨Or.inl ⟨⟨b_t h6, b_t h14⟩, rfl, hC⟩, hF⟩ | exact ⟨Or.inr ⟨fun z => b_f h14 z.2, rfl, hC⟩, hF⟩ | exact ⟨Or.inr ⟨fun z => b_f h6 z.1, rfl, hC⟩, hF⟩) (by omega) (by omega)
    · refine v_iconst (v := 0) dX12_arePair_17 (by decide) ?_
      refine v_goto (tgt := 22) dX12_arePair_18 (by decide) ?_
      refine pf_X12_56 dX12_arePair_22 rfl hMo ?_
      refine V.md (Md.sc hC) (Frm.tr hF (Frm.up (hC.kd_sc))) (fun M1 hC hF => ?_)
      obtain ⟨hMo, hw5, hw6, hw7, hw8, hw9, hw10, hw11, hw13, hw14, hw15, hw16, hw17, hw18, -⟩ := _root_.id hC
      refine v_aload_n dX12_arePair_25 rfl rfl ?_
      refine gf_X12_56 dX12_arePair_26 rfl hMo ?_
      refine v_if_ne (tgt := 36) dX12_arePair_29 (by decide) (fun h29 => ?_) (fun h29 => ?_)
      · refine v_iconst (v := 0) dX12_arePair_36 (by decide) ?_
        exact v_zret dX12_arePair_37 rfl (by first | rfl | assumption) (by first | (exfalso; revert h29; decide) | exact ⟨Or.inl ⟨⟨b_t h6, b_t h14⟩, rfl, hC⟩, hF⟩ | exact ⟨Or.inr ⟨fun z => b_f h14 z.2, rfl, hC⟩, hF⟩ | exact ⟨Or.inr ⟨fun z => b_f h6 z.1, rfl, hC⟩, hF⟩) (by omega) (by omega)
      · refine v_iconst (v := 1) dX12_arePair_32 (by decide) ?_
        refine v_goto (tgt := 37) dX12_arePair_33 (by decide) ?_
        exact v_zret dX12_arePair_37 rfl (by first | rfl | assumption) (by first | (exfalso; revert h29; decide) | exact ⟨Or.inl ⟨⟨b_t h6, b_t h14⟩, rfl, hC⟩, hF⟩ | exact ⟨Or.inr ⟨fun z => b_f h14 z.2, rfl, hC⟩, hF⟩ | exact ⟨Or.inr ⟨fun z => b_f h6 z.1, rfl, hC⟩, hF⟩) (by omega) (by omega)
theorem dX12_road_0 : decode cX12_road 0 = .ok (.aload_n 0, 1) := by decide +kernel
theorem dX12_road_1 : decode cX12_road 1 = .ok (.iload_n 1, 1) := by decide +kernel
theorem dX12_road_2 : decode cX12_road 2 = .ok (.iload_n 2, 1) := by decide +kernel
theorem dX12_road_3 : decode cX12_road 3 = .ok (.invokevirtual 161, 3) := by decide +kernel
theorem dX12_road_6 : decode cX12_road 6 = .ok (.ifCond .eq 20, 3) := by decide +kernel
theorem dX12_road_9 : decode cX12_road 9 = .ok (.aload_n 0, 1) := by decide +kernel
theorem dX12_road_10 : decode cX12_road 10 = .ok (.getfield 16, 3) := by decide +kernel
theorem dX12_road_13 : decode cX12_road 13 = .ok (.bipush 8, 2) := by decide +kernel
theorem dX12_road_15 : decode cX12_road 15 = .ok (.bipush 7, 2) := by decide +kernel
theorem dX12_road_17 : decode cX12_road 17 = .ok (.iload_n 1, 1) := by decide +kernel
theorem dX12_road_18 : decode cX12_road 18 = .ok (.imul, 1) := by decide +kernel
theorem dX12_road_19 : decode cX12_road 19 = .ok (.iadd, 1) := by decide +kernel
theorem dX12_road_20 : decode cX12_road 20 = .ok (.iload_n 2, 1) := by decide +kernel
theorem dX12_road_21 : decode cX12_road 21 = .ok (.iadd, 1) := by decide +kernel
theorem dX12_road_22 : decode cX12_road 22 = .ok (.iaload, 1) := by decide +kernel
theorem dX12_road_23 : decode cX12_road 23 = .ok (.goto 4, 3) := by decide +kernel
theorem dX12_road_26 : decode cX12_road 26 = .ok (.iconst 0, 1) := by decide +kernel
theorem dX12_road_27 : decode cX12_road 27 = .ok (.ireturn, 1) := by decide +kernel
set_option maxRecDepth 100000 in
set_option maxHeartbeats 4000000 in
theorem r_road {l : Launch} {g : Nat → Nat} {M : LH} (htr : l.stackTraces = false) {kd : Nat → Nat} {r m : Nat} {w : Nat → Nat} {t ch ea fl sv bf tn he en ln wr dg : Int32} {v b4 sa pa fr th bs tx li lf to : Int32 → Int32} (hC : Md kd r M m w t ch ea fl sv bf tn he en ln wr dg v b4 sa pa fr th bs tx li lf to) (hG : Good v) (s d : Int32) : K_X12_road l g 3 0 0 [.ref m, .int s, .int d] M (RI (fun x M9 => (((hst v s ∧ hst v d) ∧ x = rd v s d ∧ Md kd r M9 m w 0 ch ea fl sv bf tn he en ln wr dg v b4 sa pa fr th bs tx li lf to) ∨ (¬ ((hst v s ∧ hst v d)) ∧ x = 0 ∧ Md kd r M9 m w 1 ch ea fl sv bf tn he en ln wr dg v b4 sa pa fr th bs tx li lf to)) ∧ Frm kd r M M9) nX) := by
  refine Ko_X12_road htr (fun X => ?_)
  obtain ⟨hMo, hw5, hw6, hw7, hw8, hw9, hw10, hw11, hw13, hw14, hw15, hw16, hw17, hw18, -⟩ := _root_.id hC
  have hF : Frm kd r M M := Frm.rf
  obtain ⟨hg1, hg2, hg3, hg4, hg5, hg6, hg7, hg8, hgL, hgS, -⟩ := _root_.id hG
  clear hgL hgS
  refine v_aload_n dX12_road_0 rfl rfl ?_
  refine v_iload_n dX12_road_1 rfl rfl ?_
  refine v_iload_n dX12_road_2 rfl rfl ?_
  refine k_X12_161 dX12_road_3 rfl (r_arePair htr hC hG s d) hMo (Nat.le_of_ble_eq_true rfl) (by omega) (by omega) (Nat.le_of_ble_eq_true rfl) (fun r3 M9 h9 => ?_) (fun _ _ h9 => h9.elim)
  obtain ⟨h9, hF9⟩ := h9
  have hF := Frm.tr hF hF9
  rcases h9 with ⟨⟨⟨s0, s1⟩, d0, d1⟩, rfl, hC⟩ | ⟨hno, rfl, hC⟩
  · obtain ⟨hMo, hw5, hw6, hw7, hw8, hw9, hw10, hw11, hw13, hw14, hw15, hw16, hw17, hw18, -⟩ := _root_.id hC
    have s7 : s < 7 := by lia
    have d7 : d < 7 := by lia
    obtain ⟨c0, c1⟩ := cell_in s0 s7 d0 d7
    refine v_if_eq (tgt := 26) dX12_road_6 (by decide) (fun h6 => ?_) (fun h6 => ?_)
    · exact absurd h6 (by decide)
    · refine v_aload_n dX12_road_9 rfl rfl ?_
      refine gf_X12_16 dX12_road_10 rfl hMo ?_
      refine v_bipush (v := (8)) dX12_road_13 (by decide) ?_
      refine v_bipush (v := (7)) dX12_road_15 (by decide) ?_
      refine v_iload_n dX12_road_17 rfl rfl ?_
      refine v_imul dX12_road_18 ?_
      refine v_iadd dX12_road_19 ?_
      refine v_iload_n dX12_road_20 rfl rfl ?_
      refine v_iadd dX12_road_21 ?_
      refine v_iald dX12_road_22 hw5 (by lia) (by lia) ?_
      refine v_goto (tgt := 27) dX12_road_23 (by decide) ?_
      exact v_iret dX12_road_27 rfl ⟨Or.inl ⟨⟨⟨s0, s1⟩, d0, d1⟩, (by unfold rd; first | rfl | (congr 1; lia)), hC⟩, hF⟩ (by omega) (by omega)
  · obtain ⟨hMo, hw5, hw6, hw7, hw8, hw9, hw10, hw11, hw13, hw14, hw15, hw16, hw17, hw18, -⟩ := _root_.id hC
    refine v_if_eq (tgt := 26) dX12_road_6 (by decide) (fun h6 => ?_) (fun h6 => ?_)
    · refine v_iconst (v := 0) dX12_road_26 (by decide) ?_
      exact v_iret dX12_road_27 rfl ⟨Or.inr ⟨hno, rfl, hC⟩, hF⟩ (by omega) (by omega)
    · exact absurd rfl h6
theorem dX12_areConnected_0 : decode cX12_areConnected 0 = .ok (.aload_n 0, 1) := by decide +kernel
theorem dX12_areConnected_1 : decode cX12_areConnected 1 = .ok (.iload_n 1, 1) := by decide +kernel
theorem dX12_areConnected_2 : decode cX12_areConnected 2 = .ok (.iload_n 2, 1) := by decide +kernel
theorem dX12_areConnected_3 : decode cX12_areConnected 3 = .ok (.invokevirtual 161, 3) := by decide +kernel
theorem dX12_areConnected_6 : decode cX12_areConnected 6 = .ok (.ifCond .ne 5, 3) := by decide +kernel
theorem dX12_areConnected_9 : decode cX12_areConnected 9 = .ok (.iconst 0, 1) := by decide +kernel
theorem dX12_areConnected_10 : decode cX12_areConnected 10 = .ok (.ireturn, 1) := by decide +kernel
theorem dX12_areConnected_11 : decode cX12_areConnected 11 = .ok (.aload_n 0, 1) := by decide +kernel
theorem dX12_areConnected_12 : decode cX12_areConnected 12 = .ok (.invokevirtual 133, 3) := by decide +kernel
theorem dX12_areConnected_15 : decode cX12_areConnected 15 = .ok (.aload_n 0, 1) := by decide +kernel
theorem dX12_areConnected_16 : decode cX12_areConnected 16 = .ok (.iload_n 1, 1) := by decide +kernel
theorem dX12_areConnected_17 : decode cX12_areConnected 17 = .ok (.iload_n 2, 1) := by decide +kernel
theorem dX12_areConnected_18 : decode cX12_areConnected 18 = .ok (.invokevirtual 136, 3) := by decide +kernel
theorem dX12_areConnected_21 : decode cX12_areConnected 21 = .ok (.sipush 10000, 3) := by decide +kernel
theorem dX12_areConnected_24 : decode cX12_areConnected 24 = .ok (.if_icmp .ge 7, 3) := by decide +kernel
theorem dX12_areConnected_27 : decode cX12_areConnected 27 = .ok (.iconst 1, 1) := by decide +kernel
theorem dX12_areConnected_28 : decode cX12_areConnected 28 = .ok (.goto 4, 3) := by decide +kernel
theorem dX12_areConnected_31 : decode cX12_areConnected 31 = .ok (.iconst 0, 1) := by decide +kernel
theorem dX12_areConnected_32 : decode cX12_areConnected 32 = .ok (.ireturn, 1) := by decide +kernel
set_option maxRecDepth 100000 in
set_option maxHeartbeats 4000000 in
theorem r_areConnected {l : Launch} {g : Nat → Nat} {M : LH} (htr : l.stackTraces = false) {kd : Nat → Nat} {r m : Nat} {w : Nat → Nat} {t ch ea fl sv bf tn he en ln wr dg : Int32} {v b4 sa pa fr th bs tx li lf to : Int32 → Int32} (hC : Md kd r M m w t ch ea fl sv bf tn he en ln wr dg v b4 sa pa fr th bs tx li lf to) (hG : Good v) (s d : Int32) : K_X12_areConnected l g 3 0 0 [.ref m, .int s, .int d] M (RI (fun x M9 => ∃ fr', (((hst v s ∧ hst v d) ∧ (∃ bb, IsD v 1000000 s d bb ∧ x = if bb < 1000000 then 1 else 0) ∧ Md kd r M9 m w 0 ch ea fl sv bf tn he en ln wr dg v b4 sa pa fr' th bs tx li lf to) ∨ (¬ ((hst v s ∧ hst v d)) ∧ x = 0 ∧ Md kd r M9 m w 1 ch ea fl sv bf tn he en ln wr dg v b4 sa pa fr th bs tx li lf to)) ∧ Frm kd r M M9) nX) := by
  refine Ko_X12_areConnected htr (fun X => ?_)
  obtain ⟨hMo, hw5, hw6, hw7, hw8, hw9, hw10, hw11, hw13, hw14, hw15, hw16, hw17, hw18, -⟩ := _root_.id hC
  have hF : Frm kd r M M := Frm.rf
  obtain ⟨hg1, hg2, hg3, hg4, hg5, hg6, hg7, hg8, hgL, hgS, -⟩ := _root_.id hG
  clear hgL hgS
  refine v_aload_n dX12_areConnected_0 rfl rfl ?_
  refine v_iload_n dX12_areConnected_1 rfl rfl ?_
  refine v_iload_n dX12_areConnected_2 rfl rfl ?_
  refine k_X12_161 dX12_areConnected_3 rfl (r_arePair htr hC hG s d) hMo (Nat.le_of_ble_eq_true rfl) (by omega) (by omega) (Nat.le_of_ble_eq_true rfl) (fun r3 M9 h9 => ?_) (fun _ _ h9 => h9.elim)
  obtain ⟨h9, hF9⟩ := h9
  have hF := Frm.tr hF hF9
  rcases h9 with ⟨⟨⟨s0, s1⟩, d0, d1⟩, rfl, hC⟩ | ⟨hno, rfl, hC⟩
  · obtain ⟨hMo, hw5, hw6, hw7, hw8, hw9, hw10, hw11, hw13, hw14, hw15, hw16, hw17, hw18, -⟩ := _root_.id hC
    have s7 : s < 7 := by lia
    have d7 : d < 7 := by lia
    refine v_if_ne (tgt := 11) dX12_areConnected_6 (by decide) (fun h6 => ?_) (fun h6 => ?_)
    · refine v_aload_n dX12_areConnected_11 rfl rfl ?_
      refine k_X12_133 dX12_areConnected_12 rfl (r_reaches htr hC hG) hMo (Nat.le_of_ble_eq_true rfl) (by omega) (by omega) (Nat.le_of_ble_eq_true rfl) (fun M9 h9 => ?_) (fun _ _ h9 => h9.elim)
      obtain ⟨f9, hf9, hC, hF9⟩ := h9
      have hF := Frm.tr hF hF9
      obtain ⟨hMo, hw5, hw6, hw7, hw8, hw9, hw10, hw11, hw13, hw14, hw15, hw16, hw17, hw18, -⟩ := _root_.id hC
      obtain ⟨bb, hb1, hb2, hb3, hb4⟩ := hf9 s d s0 s1 d0 d1
      refine v_aload_n dX12_areConnected_15 rfl rfl ?_
      refine v_iload_n dX12_areConnected_16 rfl rfl ?_
      refine v_iload_n dX12_areConnected_17 rfl rfl ?_
      refine k_X12_136 dX12_areConnected_18 rfl (r_apart htr hC s0 s7 d0 d7) hMo (Nat.le_of_ble_eq_true rfl) (by omega) (by omega) (Nat.le_of_ble_eq_true rfl) (fun r18 M9 h9 => ?_) (fun _ _ h9 => h9.elim)
      obtain ⟨rfl, e9⟩ := h9
      subst M9
      refine v_sipush (v := (10000)) dX12_areConnected_21 (by decide) ?_
      refine v_icmp_ge (tgt := 31) dX12_areConnected_24 (by decide) (fun h24 => ?_) (fun h24 => ?_)
      · refine v_iconst (v := 0) dX12_areConnected_31 (by decide) ?_
        exact v_zret dX12_areConnected_32 rfl (by first | rfl | assumption) (by first | exact ⟨f9, Or.inl ⟨⟨⟨s0, s1⟩, d0, d1⟩, ⟨bb, hb1, (if_pos (by have e := tau_lt hb3 hb4 (Int32.not_le.mp h24); have z := i_lt.mp (Int32.not_le.mp h24); rw [e, show ((10000 : Int32).toInt) = 10000 from rfl] at z; omega)).symm⟩, hC⟩, hF⟩ | exact ⟨f9, Or.inl ⟨⟨⟨s0, s1⟩, d0, d1⟩, ⟨bb, hb1, (if_neg (by rw [tau_ge hb3 hb4 (Int32.not_lt.mpr h24)]; decide)).symm⟩, hC⟩, hF⟩) (by omega) (by omega)
      · refine v_iconst (v := 1) dX12_areConnected_27 (by decide) ?_
        refine v_goto (tgt := 32) dX12_areConnected_28 (by decide) ?_
        exact v_zret dX12_areConnected_32 rfl (by first | rfl | assumption) (by first | exact ⟨f9, Or.inl ⟨⟨⟨s0, s1⟩, d0, d1⟩, ⟨bb, hb1, (if_pos (by have e := tau_lt hb3 hb4 (Int32.not_le.mp h24); have z := i_lt.mp (Int32.not_le.mp h24); rw [e, show ((10000 : Int32).toInt) = 10000 from rfl] at z; omega)).symm⟩, hC⟩, hF⟩ | exact ⟨f9, Or.inl ⟨⟨⟨s0, s1⟩, d0, d1⟩, ⟨bb, hb1, (if_neg (by rw [tau_ge hb3 hb4 (Int32.not_lt.mpr h24)]; decide)).symm⟩, hC⟩, hF⟩) (by omega) (by omega)
    · exact absurd h6 (by decide)
  · obtain ⟨hMo, hw5, hw6, hw7, hw8, hw9, hw10, hw11, hw13, hw14, hw15, hw16, hw17, hw18, -⟩ := _root_.id hC
    refine v_if_ne (tgt := 11) dX12_areConnected_6 (by decide) (fun h6 => ?_) (fun h6 => ?_)
    · exact absurd rfl h6
    · refine v_iconst (v := 0) dX12_areConnected_9 (by decide) ?_
      exact v_zret dX12_areConnected_10 rfl (by first | rfl | assumption) ⟨fr, Or.inr ⟨hno, rfl, hC⟩, hF⟩ (by omega) (by omega)
theorem dX12_distance_0 : decode cX12_distance 0 = .ok (.aload_n 0, 1) := by decide +kernel
theorem dX12_distance_1 : decode cX12_distance 1 = .ok (.iload_n 1, 1) := by decide +kernel
theorem dX12_distance_2 : decode cX12_distance 2 = .ok (.iload_n 2, 1) := by decide +kernel
theorem dX12_distance_3 : decode cX12_distance 3 = .ok (.invokevirtual 161, 3) := by decide +kernel
theorem dX12_distance_6 : decode cX12_distance 6 = .ok (.ifCond .ne 5, 3) := by decide +kernel
theorem dX12_distance_9 : decode cX12_distance 9 = .ok (.iconst 0, 1) := by decide +kernel
theorem dX12_distance_10 : decode cX12_distance 10 = .ok (.ireturn, 1) := by decide +kernel
theorem dX12_distance_11 : decode cX12_distance 11 = .ok (.aload_n 0, 1) := by decide +kernel
theorem dX12_distance_12 : decode cX12_distance 12 = .ok (.invokevirtual 133, 3) := by decide +kernel
theorem dX12_distance_15 : decode cX12_distance 15 = .ok (.aload_n 0, 1) := by decide +kernel
theorem dX12_distance_16 : decode cX12_distance 16 = .ok (.iload_n 1, 1) := by decide +kernel
theorem dX12_distance_17 : decode cX12_distance 17 = .ok (.iload_n 2, 1) := by decide +kernel
theorem dX12_distance_18 : decode cX12_distance 18 = .ok (.invokevirtual 136, 3) := by decide +kernel
theorem dX12_distance_21 : decode cX12_distance 21 = .ok (.sipush 10000, 3) := by decide +kernel
theorem dX12_distance_24 : decode cX12_distance 24 = .ok (.if_icmp .ge 12, 3) := by decide +kernel
theorem dX12_distance_27 : decode cX12_distance 27 = .ok (.aload_n 0, 1) := by decide +kernel
theorem dX12_distance_28 : decode cX12_distance 28 = .ok (.iload_n 1, 1) := by decide +kernel
theorem dX12_distance_29 : decode cX12_distance 29 = .ok (.iload_n 2, 1) := by decide +kernel
theorem dX12_distance_30 : decode cX12_distance 30 = .ok (.invokevirtual 136, 3) := by decide +kernel
theorem dX12_distance_33 : decode cX12_distance 33 = .ok (.goto 8, 3) := by decide +kernel
theorem dX12_distance_36 : decode cX12_distance 36 = .ok (.aload_n 0, 1) := by decide +kernel
theorem dX12_distance_37 : decode cX12_distance 37 = .ok (.iconst 2, 1) := by decide +kernel
theorem dX12_distance_38 : decode cX12_distance 38 = .ok (.invokevirtual 74, 3) := by decide +kernel
theorem dX12_distance_41 : decode cX12_distance 41 = .ok (.ireturn, 1) := by decide +kernel
set_option maxRecDepth 100000 in
set_option maxHeartbeats 4000000 in
theorem r_distance {l : Launch} {g : Nat → Nat} {M : LH} (htr : l.stackTraces = false) {kd : Nat → Nat} {r m : Nat} {w : Nat → Nat} {t ch ea fl sv bf tn he en ln wr dg : Int32} {v b4 sa pa fr th bs tx li lf to : Int32 → Int32} (hC : Md kd r M m w t ch ea fl sv bf tn he en ln wr dg v b4 sa pa fr th bs tx li lf to) (hG : Good v) (s d : Int32) : K_X12_distance l g 3 0 0 [.ref m, .int s, .int d] M (RI (fun x M9 => ∃ fr', (((hst v s ∧ hst v d) ∧ IsD v 1000000 s d x.toInt ∧ x < 1000000 ∧ Md kd r M9 m w 0 ch ea fl sv bf tn he en ln wr dg v b4 sa pa fr' th bs tx li lf to) ∨ ((hst v s ∧ hst v d) ∧ IsD v 1000000 s d 1000000 ∧ x = 0 ∧ Md kd r M9 m w 2 ch ea fl sv bf tn he en ln wr dg v b4 sa pa fr' th bs tx li lf to) ∨ (¬ ((hst v s ∧ hst v d)) ∧ x = 0 ∧ Md kd r M9 m w 1 ch ea fl sv bf tn he en ln wr dg v b4 sa pa fr th bs tx li lf to)) ∧ Frm kd r M M9) nX) := by
  refine Ko_X12_distance htr (fun X => ?_)
  obtain ⟨hMo, hw5, hw6, hw7, hw8, hw9, hw10, hw11, hw13, hw14, hw15, hw16, hw17, hw18, -⟩ := _root_.id hC
  have hF : Frm kd r M M := Frm.rf
  obtain ⟨hg1, hg2, hg3, hg4, hg5, hg6, hg7, hg8, hgL, hgS, -⟩ := _root_.id hG
  clear hgL hgS
  refine v_aload_n dX12_distance_0 rfl rfl ?_
  refine v_iload_n dX12_distance_1 rfl rfl ?_
  refine v_iload_n dX12_distance_2 rfl rfl ?_
  refine k_X12_161 dX12_distance_3 rfl (r_arePair htr hC hG s d) hMo (Nat.le_of_ble_eq_true rfl) (by omega) (by omega) (Nat.le_of_ble_eq_true rfl) (fun r3 M9 h9 => ?_) (fun _ _ h9 => h9.elim)
  obtain ⟨h9, hF9⟩ := h9
  have hF := Frm.tr hF hF9
  rcases h9 with ⟨⟨⟨s0, s1⟩, d0, d1⟩, rfl, hC⟩ | ⟨hno, rfl, hC⟩
  · obtain ⟨hMo, hw5, hw6, hw7, hw8, hw9, hw10, hw11, hw13, hw14, hw15, hw16, hw17, hw18, -⟩ := _root_.id hC
    have s7 : s < 7 := by lia
    have d7 : d < 7 := by lia
    refine v_if_ne (tgt := 11) dX12_distance_6 (by decide) (fun h6 => ?_) (fun h6 => ?_)
    · refine v_aload_n dX12_distance_11 rfl rfl ?_
      refine k_X12_133 dX12_distance_12 rfl (r_reaches htr hC hG) hMo (Nat.le_of_ble_eq_true rfl) (by omega) (by omega) (Nat.le_of_ble_eq_true rfl) (fun M9 h9 => ?_) (fun _ _ h9 => h9.elim)
      obtain ⟨f9, hf9, hC, hF9⟩ := h9
      have hF := Frm.tr hF hF9
      obtain ⟨hMo, hw5, hw6, hw7, hw8, hw9, hw10, hw11, hw13, hw14, hw15, hw16, hw17, hw18, -⟩ := _root_.id hC
      obtain ⟨bb, hb1, hb2, hb3, hb4⟩ := hf9 s d s0 s1 d0 d1
      refine v_aload_n dX12_distance_15 rfl rfl ?_
      refine v_iload_n dX12_distance_16 rfl rfl ?_
      refine v_iload_n dX12_distance_17 rfl rfl ?_
      refine k_X12_136 dX12_distance_18 rfl (r_apart htr hC s0 s7 d0 d7) hMo (Nat.le_of_ble_eq_true rfl) (by omega) (by omega) (Nat.le_of_ble_eq_true rfl) (fun r18 M9 h9 => ?_) (fun _ _ h9 => h9.elim)
      obtain ⟨rfl, e9⟩ := h9
      subst M9
      refine v_sipush (v := (10000)) dX12_distance_21 (by decide) ?_
      refine v_icmp_ge (tgt := 36) dX12_distance_24 (by decide) (fun h24 => ?_) (fun h24 => ?_)
      · refine v_aload_n dX12_distance_36 rfl rfl ?_
        refine v_iconst (v := 2) dX12_distance_37 (by decide) ?_
        refine k_X12_74 dX12_distance_38 rfl (r_fail htr hC 2) hMo (Nat.le_of_ble_eq_true rfl) (by omega) (by omega) (Nat.le_of_ble_eq_true rfl) (fun r38 M9 h9 => ?_) (fun _ _ h9 => h9.elim)
        obtain ⟨rfl, hC, hF9⟩ := h9
        have hF := Frm.tr hF hF9
        exact v_iret dX12_distance_41 rfl (by first | exact ⟨f9, Or.inl ⟨⟨⟨s0, s1⟩, d0, d1⟩, (by rw [tau_lt hb3 hb4 (Int32.not_le.mp h24)]; exact hb1), tau_i hb3 hb4 (Int32.not_le.mp h24), hC⟩, hF⟩ | exact ⟨f9, Or.inr (Or.inl ⟨⟨⟨s0, s1⟩, d0, d1⟩, (by have e := tau_ge hb3 hb4 (Int32.not_lt.mpr h24); rw [e] at hb1; exact hb1), rfl, hC⟩), hF⟩) (by omega) (by omega)
      · refine v_aload_n dX12_distance_27 rfl rfl ?_
        refine v_iload_n dX12_distance_28 rfl rfl ?_
        refine v_iload_n dX12_distance_29 rfl rfl ?_
        refine k_X12_136 dX12_distance_30 rfl (r_apart htr hC s0 s7 d0 d7) hMo (Nat.le_of_ble_eq_true rfl) (by omega) (by omega) (Nat.le_of_ble_eq_true rfl) (fun r30 M9 h9 => ?_) (fun _ _ h9 => h9.elim)
        obtain ⟨rfl, e9⟩ := h9
        subst M9
        refine v_goto (tgt := 41) dX12_distance_33 (by decide) ?_
        exact v_iret dX12_distance_41 rfl (by first | exact ⟨f9, Or.inl ⟨⟨⟨s0, s1⟩, d0, d1⟩, (by rw [tau_lt hb3 hb4 (Int32.not_le.mp h24)]; exact hb1), tau_i hb3 hb4 (Int32.not_le.mp h24), hC⟩, hF⟩ | exact ⟨f9, Or.inr (Or.inl ⟨⟨⟨s0, s1⟩, d0, d1⟩, (by have e := tau_ge hb3 hb4 (Int32.not_lt.mpr h24); rw [e] at hb1; exact hb1), rfl, hC⟩), hF⟩) (by omega) (by omega)
    · exact absurd h6 (by decide)
  · obtain ⟨hMo, hw5, hw6, hw7, hw8, hw9, hw10, hw11, hw13, hw14, hw15, hw16, hw17, hw18, -⟩ := _root_.id hC
    refine v_if_ne (tgt := 11) dX12_distance_6 (by decide) (fun h6 => ?_) (fun h6 => ?_)
    · exact absurd rfl h6
    · refine v_iconst (v := 0) dX12_distance_9 (by decide) ?_
      exact v_iret dX12_distance_10 rfl ⟨fr, Or.inr (Or.inr ⟨hno, rfl, hC⟩), hF⟩ (by omega) (by omega)
theorem dX12_distanceByStations_0 : decode cX12_distanceByStations 0 = .ok (.aload_n 0, 1) := by decide +kernel
theorem dX12_distanceByStations_1 : decode cX12_distanceByStations 1 = .ok (.iload_n 1, 1) := by decide +kernel
theorem dX12_distanceByStations_2 : decode cX12_distanceByStations 2 = .ok (.iload_n 2, 1) := by decide +kernel
theorem dX12_distanceByStations_3 : decode cX12_distanceByStations 3 = .ok (.invokevirtual 165, 3) := by decide +kernel
theorem dX12_distanceByStations_6 : decode cX12_distanceByStations 6 = .ok (.ireturn, 1) := by decide +kernel
set_option maxRecDepth 100000 in
set_option maxHeartbeats 4000000 in
theorem r_distanceByStations {l : Launch} {g : Nat → Nat} {M : LH} (htr : l.stackTraces = false) {kd : Nat → Nat} {r m : Nat} {w : Nat → Nat} {t ch ea fl sv bf tn he en ln wr dg : Int32} {v b4 sa pa fr th bs tx li lf to : Int32 → Int32} (hC : Md kd r M m w t ch ea fl sv bf tn he en ln wr dg v b4 sa pa fr th bs tx li lf to) (hG : Good v) (s d : Int32) : K_X12_distanceByStations l g 4 0 0 [.ref m, .int s, .int d] M (RI (fun x M9 => ∃ fr', (((hst v s ∧ hst v d) ∧ IsD v 1000000 s d x.toInt ∧ x < 1000000 ∧ Md kd r M9 m w 0 ch ea fl sv bf tn he en ln wr dg v b4 sa pa fr' th bs tx li lf to) ∨ ((hst v s ∧ hst v d) ∧ IsD v 1000000 s d 1000000 ∧ x = 0 ∧ Md kd r M9 m w 2 ch ea fl sv bf tn he en ln wr dg v b4 sa pa fr' th bs tx li lf to) ∨ (¬ ((hst v s ∧ hst v d)) ∧ x = 0 ∧ Md kd r M9 m w 1 ch ea fl sv bf tn he en ln wr dg v b4 sa pa fr th bs tx li lf to)) ∧ Frm kd r M M9) nX) := by
  refine Ko_X12_distanceByStations htr (fun X => ?_)
  obtain ⟨hMo, hw5, hw6, hw7, hw8, hw9, hw10, hw11, hw13, hw14, hw15, hw16, hw17, hw18, -⟩ := _root_.id hC
  have hF : Frm kd r M M := Frm.rf
  obtain ⟨hg1, hg2, hg3, hg4, hg5, hg6, hg7, hg8, hgL, hgS, -⟩ := _root_.id hG
  clear hgL hgS
  refine v_aload_n dX12_distanceByStations_0 rfl rfl ?_
  refine v_iload_n dX12_distanceByStations_1 rfl rfl ?_
  refine v_iload_n dX12_distanceByStations_2 rfl rfl ?_
  refine k_X12_165 dX12_distanceByStations_3 rfl (r_distance htr hC hG s d) hMo (Nat.le_of_ble_eq_true rfl) (by omega) (by omega) (Nat.le_of_ble_eq_true rfl) (fun r3 M9 h9 => ?_) (fun _ _ h9 => h9.elim)
  exact v_iret dX12_distanceByStations_6 rfl h9 (by omega) (by omega)
theorem dX12_waitingIn_0 : decode cX12_waitingIn 0 = .ok (.aload_n 0, 1) := by decide +kernel
theorem dX12_waitingIn_1 : decode cX12_waitingIn 1 = .ok (.aload_n 0, 1) := by decide +kernel
theorem dX12_waitingIn_2 : decode cX12_waitingIn 2 = .ok (.iload_n 1, 1) := by decide +kernel
theorem dX12_waitingIn_3 : decode cX12_waitingIn 3 = .ok (.invokevirtual 88, 3) := by decide +kernel
theorem dX12_waitingIn_6 : decode cX12_waitingIn 6 = .ok (.ifCond .eq 7, 3) := by decide +kernel
theorem dX12_waitingIn_9 : decode cX12_waitingIn 9 = .ok (.iconst 0, 1) := by decide +kernel
theorem dX12_waitingIn_10 : decode cX12_waitingIn 10 = .ok (.goto 4, 3) := by decide +kernel
theorem dX12_waitingIn_13 : decode cX12_waitingIn 13 = .ok (.iconst 1, 1) := by decide +kernel
theorem dX12_waitingIn_14 : decode cX12_waitingIn 14 = .ok (.putfield 56, 3) := by decide +kernel
theorem dX12_waitingIn_17 : decode cX12_waitingIn 17 = .ok (.aload_n 0, 1) := by decide +kernel
theorem dX12_waitingIn_18 : decode cX12_waitingIn 18 = .ok (.getfield 56, 3) := by decide +kernel
theorem dX12_waitingIn_21 : decode cX12_waitingIn 21 = .ok (.ifCond .ne 11, 3) := by decide +kernel
theorem dX12_waitingIn_24 : decode cX12_waitingIn 24 = .ok (.aload_n 0, 1) := by decide +kernel
theorem dX12_waitingIn_25 : decode cX12_waitingIn 25 = .ok (.iload_n 1, 1) := by decide +kernel
theorem dX12_waitingIn_26 : decode cX12_waitingIn 26 = .ok (.invokevirtual 121, 3) := by decide +kernel
theorem dX12_waitingIn_29 : decode cX12_waitingIn 29 = .ok (.goto 4, 3) := by decide +kernel
theorem dX12_waitingIn_32 : decode cX12_waitingIn 32 = .ok (.iconst 0, 1) := by decide +kernel
theorem dX12_waitingIn_33 : decode cX12_waitingIn 33 = .ok (.ireturn, 1) := by decide +kernel
set_option maxRecDepth 100000 in
set_option maxHeartbeats 4000000 in
theorem r_waitingIn {l : Launch} {g : Nat → Nat} {M : LH} (htr : l.stackTraces = false) {kd : Nat → Nat} {r m : Nat} {w : Nat → Nat} {t ch ea fl sv bf tn he en ln wr dg : Int32} {v b4 sa pa fr th bs tx li lf to : Int32 → Int32} (hC : Md kd r M m w t ch ea fl sv bf tn he en ln wr dg v b4 sa pa fr th bs tx li lf to) (hG : Good v) (s : Int32) : K_X12_waitingIn l g 2 0 0 [.ref m, .int s] M (RI (fun x M9 => ∃ th', ((hst v s ∧ x = nI (wL v s (v 7).toNatClampNeg).length ∧ Md kd r M9 m w 0 ch ea fl sv bf tn he en ln wr dg v b4 sa pa fr th' bs tx li lf to) ∨ (¬ (hst v s) ∧ x = 0 ∧ Md kd r M9 m w 1 ch ea fl sv bf tn he en ln wr dg v b4 sa pa fr th bs tx li lf to)) ∧ Frm kd r M M9) nX) := by
  refine Ko_X12_waitingIn htr (fun X => ?_)
  obtain ⟨hMo, hw5, hw6, hw7, hw8, hw9, hw10, hw11, hw13, hw14, hw15, hw16, hw17, hw18, -⟩ := _root_.id hC
  have hF : Frm kd r M M := Frm.rf
  obtain ⟨hg1, hg2, hg3, hg4, hg5, hg6, hg7, hg8, hgL, hgS, -⟩ := _root_.id hG
  clear hgL hgS
  refine v_aload_n dX12_waitingIn_0 rfl rfl ?_
  refine v_aload_n dX12_waitingIn_1 rfl rfl ?_
  refine v_iload_n dX12_waitingIn_2 rfl rfl ?_
  refine k_X12_88 dX12_waitingIn_3 rfl (r_isStation htr hC hG s) hMo (Nat.le_of_ble_eq_true rfl) (by omega) (by omega) (Nat.le_of_ble_eq_true rfl) (fun r3 M9 h9 => ?_) (fun _ _ h9 => h9.elim)
  obtain ⟨rfl, e9⟩ := h9
  subst M9
  refine v_if_eq (tgt := 13) dX12_waitingIn_6 (by decide) (fun h6 => ?_) (fun h6 => ?_)
  · refine v_iconst (v := 1) dX12_waitingIn_13 (by decide) ?_
    refine pf_X12_56 dX12_waitingIn_14 rfl hMo ?_
    refine V.md (Md.sc hC) (Frm.tr hF (Frm.up (hC.kd_sc))) (fun M1 hC hF => ?_)
    obtain ⟨hMo, hw5, hw6, hw7, hw8, hw9, hw10, hw11, hw13, hw14, hw15, hw16, hw17, hw18, -⟩ := _root_.id hC
    refine v_aload_n dX12_waitingIn_17 rfl rfl ?_
    refine gf_X12_56 dX12_waitingIn_18 rfl hMo ?_
    refine v_if_ne (tgt := 32) dX12_waitingIn_21 (by decide) (fun h21 => ?_) (fun h21 => ?_)
    · refine v_iconst (v := 0) dX12_waitingIn_32 (by decide) ?_
      exact v_iret dX12_waitingIn_33 rfl (by first | (exfalso; revert h21; decide) | exact ⟨th2, Or.inl ⟨b_t h6, rfl, hC⟩, hF⟩ | exact ⟨th, Or.inr ⟨b_f h6, rfl, hC⟩, hF⟩) (by omega) (by omega)
    · refine v_aload_n dX12_waitingIn_24 rfl rfl ?_
      refine v_iload_n dX12_waitingIn_25 rfl rfl ?_
      refine k_X12_121 dX12_waitingIn_26 rfl (r_waits htr hC hG s) hMo (Nat.le_of_ble_eq_true rfl) (by omega) (by omega) (Nat.le_of_ble_eq_true rfl) (fun r26 M9 h9 => ?_) (fun _ _ h9 => h9.elim)
      obtain ⟨rfl, th2, hT, hC, hF9⟩ := h9
      have hF := Frm.tr hF hF9
      obtain ⟨hMo, hw5, hw6, hw7, hw8, hw9, hw10, hw11, hw13, hw14, hw15, hw16, hw17, hw18, -⟩ := _root_.id hC
      refine v_goto (tgt := 33) dX12_waitingIn_29 (by decide) ?_
      exact v_iret dX12_waitingIn_33 rfl (by first | (exfalso; revert h21; decide) | exact ⟨th2, Or.inl ⟨b_t h6, rfl, hC⟩, hF⟩ | exact ⟨th, Or.inr ⟨b_f h6, rfl, hC⟩, hF⟩) (by omega) (by omega)
  · refine v_iconst (v := 0) dX12_waitingIn_9 (by decide) ?_
    refine v_goto (tgt := 14) dX12_waitingIn_10 (by decide) ?_
    refine pf_X12_56 dX12_waitingIn_14 rfl hMo ?_
    refine V.md (Md.sc hC) (Frm.tr hF (Frm.up (hC.kd_sc))) (fun M1 hC hF => ?_)
    obtain ⟨hMo, hw5, hw6, hw7, hw8, hw9, hw10, hw11, hw13, hw14, hw15, hw16, hw17, hw18, -⟩ := _root_.id hC
    refine v_aload_n dX12_waitingIn_17 rfl rfl ?_
    refine gf_X12_56 dX12_waitingIn_18 rfl hMo ?_
    refine v_if_ne (tgt := 32) dX12_waitingIn_21 (by decide) (fun h21 => ?_) (fun h21 => ?_)
    · refine v_iconst (v := 0) dX12_waitingIn_32 (by decide) ?_
      exact v_iret dX12_waitingIn_33 rfl (by first | (exfalso; revert h21; decide) | exact ⟨th2, Or.inl ⟨b_t h6, rfl, hC⟩, hF⟩ | exact ⟨th, Or.inr ⟨b_f h6, rfl, hC⟩, hF⟩) (by omega) (by omega)
    · refine v_aload_n dX12_waitingIn_24 rfl rfl ?_
      refine v_iload_n dX12_waitingIn_25 rfl rfl ?_
      refine k_X12_121 dX12_waitingIn_26 rfl (r_waits htr hC hG s) hMo (Nat.le_of_ble_eq_true rfl) (by omega) (by omega) (Nat.le_of_ble_eq_true rfl) (fun r26 M9 h9 => ?_) (fun _ _ h9 => h9.elim)
      obtain ⟨rfl, th2, hT, hC, hF9⟩ := h9
      have hF := Frm.tr hF hF9
      obtain ⟨hMo, hw5, hw6, hw7, hw8, hw9, hw10, hw11, hw13, hw14, hw15, hw16, hw17, hw18, -⟩ := _root_.id hC
      refine v_goto (tgt := 33) dX12_waitingIn_29 (by decide) ?_
      exact v_iret dX12_waitingIn_33 rfl (by first | (exfalso; revert h21; decide) | exact ⟨th2, Or.inl ⟨b_t h6, rfl, hC⟩, hF⟩ | exact ⟨th, Or.inr ⟨b_f h6, rfl, hC⟩, hF⟩) (by omega) (by omega)
theorem dX12_lettersOn_0 : decode cX12_lettersOn 0 = .ok (.aload_n 0, 1) := by decide +kernel
theorem dX12_lettersOn_1 : decode cX12_lettersOn 1 = .ok (.aload_n 0, 1) := by decide +kernel
theorem dX12_lettersOn_2 : decode cX12_lettersOn 2 = .ok (.iload_n 1, 1) := by decide +kernel
theorem dX12_lettersOn_3 : decode cX12_lettersOn 3 = .ok (.invokevirtual 106, 3) := by decide +kernel
theorem dX12_lettersOn_6 : decode cX12_lettersOn 6 = .ok (.ifCond .eq 7, 3) := by decide +kernel
theorem dX12_lettersOn_9 : decode cX12_lettersOn 9 = .ok (.iconst 0, 1) := by decide +kernel
theorem dX12_lettersOn_10 : decode cX12_lettersOn 10 = .ok (.goto 4, 3) := by decide +kernel
theorem dX12_lettersOn_13 : decode cX12_lettersOn 13 = .ok (.iconst 1, 1) := by decide +kernel
theorem dX12_lettersOn_14 : decode cX12_lettersOn 14 = .ok (.putfield 56, 3) := by decide +kernel
theorem dX12_lettersOn_17 : decode cX12_lettersOn 17 = .ok (.aload_n 0, 1) := by decide +kernel
theorem dX12_lettersOn_18 : decode cX12_lettersOn 18 = .ok (.getfield 56, 3) := by decide +kernel
theorem dX12_lettersOn_21 : decode cX12_lettersOn 21 = .ok (.ifCond .ne 14, 3) := by decide +kernel
theorem dX12_lettersOn_24 : decode cX12_lettersOn 24 = .ok (.aload_n 0, 1) := by decide +kernel
theorem dX12_lettersOn_25 : decode cX12_lettersOn 25 = .ok (.bipush 10, 2) := by decide +kernel
theorem dX12_lettersOn_27 : decode cX12_lettersOn 27 = .ok (.iload_n 1, 1) := by decide +kernel
theorem dX12_lettersOn_28 : decode cX12_lettersOn 28 = .ok (.iadd, 1) := by decide +kernel
theorem dX12_lettersOn_29 : decode cX12_lettersOn 29 = .ok (.invokevirtual 121, 3) := by decide +kernel
theorem dX12_lettersOn_32 : decode cX12_lettersOn 32 = .ok (.goto 4, 3) := by decide +kernel
theorem dX12_lettersOn_35 : decode cX12_lettersOn 35 = .ok (.iconst 0, 1) := by decide +kernel
theorem dX12_lettersOn_36 : decode cX12_lettersOn 36 = .ok (.ireturn, 1) := by decide +kernel
set_option maxRecDepth 100000 in
set_option maxHeartbeats 4000000 in
theorem r_lettersOn {l : Launch} {g : Nat → Nat} {M : LH} (htr : l.stackTraces = false) {kd : Nat → Nat} {r m : Nat} {w : Nat → Nat} {t ch ea fl sv bf tn he en ln wr dg : Int32} {v b4 sa pa fr th bs tx li lf to : Int32 → Int32} (hC : Md kd r M m w t ch ea fl sv bf tn he en ln wr dg v b4 sa pa fr th bs tx li lf to) (hG : Good v) (k : Int32) : K_X12_lettersOn l g 2 0 0 [.ref m, .int k] M (RI (fun x M9 => ∃ th', ((hsl v k ∧ x = nI (wL v (10 + k) (v 7).toNatClampNeg).length ∧ Md kd r M9 m w 0 ch ea fl sv bf tn he en ln wr dg v b4 sa pa fr th' bs tx li lf to) ∨ (¬ (hsl v k) ∧ x = 0 ∧ Md kd r M9 m w 1 ch ea fl sv bf tn he en ln wr dg v b4 sa pa fr th bs tx li lf to)) ∧ Frm kd r M M9) nX) := by
  refine Ko_X12_lettersOn htr (fun X => ?_)
  obtain ⟨hMo, hw5, hw6, hw7, hw8, hw9, hw10, hw11, hw13, hw14, hw15, hw16, hw17, hw18, -⟩ := _root_.id hC
  have hF : Frm kd r M M := Frm.rf
  obtain ⟨hg1, hg2, hg3, hg4, hg5, hg6, hg7, hg8, hgL, hgS, -⟩ := _root_.id hG
  clear hgL hgS
  refine v_aload_n dX12_lettersOn_0 rfl rfl ?_
  refine v_aload_n dX12_lettersOn_1 rfl rfl ?_
  refine v_iload_n dX12_lettersOn_2 rfl rfl ?_
  refine k_X12_106 dX12_lettersOn_3 rfl (r_isSledge htr hC hG k) hMo (Nat.le_of_ble_eq_true rfl) (by omega) (by omega) (Nat.le_of_ble_eq_true rfl) (fun r3 M9 h9 => ?_) (fun _ _ h9 => h9.elim)
  obtain ⟨rfl, e9⟩ := h9
  subst M9
  refine v_if_eq (tgt := 13) dX12_lettersOn_6 (by decide) (fun h6 => ?_) (fun h6 => ?_)
  · refine v_iconst (v := 1) dX12_lettersOn_13 (by decide) ?_
    refine pf_X12_56 dX12_lettersOn_14 rfl hMo ?_
    refine V.md (Md.sc hC) (Frm.tr hF (Frm.up (hC.kd_sc))) (fun M1 hC hF => ?_)
    obtain ⟨hMo, hw5, hw6, hw7, hw8, hw9, hw10, hw11, hw13, hw14, hw15, hw16, hw17, hw18, -⟩ := _root_.id hC
    refine v_aload_n dX12_lettersOn_17 rfl rfl ?_
    refine gf_X12_56 dX12_lettersOn_18 rfl hMo ?_
    refine v_if_ne (tgt := 35) dX12_lettersOn_21 (by decide) (fun h21 => ?_) (fun h21 => ?_)
    · refine v_iconst (v := 0) dX12_lettersOn_35 (by decide) ?_
      exact v_iret dX12_lettersOn_36 rfl (by first | (exfalso; revert h21; decide) | exact ⟨th2, Or.inl ⟨b_t h6, rfl, hC⟩, hF⟩ | exact ⟨th, Or.inr ⟨b_f h6, rfl, hC⟩, hF⟩) (by omega) (by omega)
    · refine v_aload_n dX12_lettersOn_24 rfl rfl ?_
      refine v_bipush (v := (10)) dX12_lettersOn_25 (by decide) ?_
      refine v_iload_n dX12_lettersOn_27 rfl rfl ?_
      refine v_iadd dX12_lettersOn_28 ?_
      refine k_X12_121 dX12_lettersOn_29 rfl (r_waits htr hC hG (10 + k)) hMo (Nat.le_of_ble_eq_true rfl) (by omega) (by omega) (Nat.le_of_ble_eq_true rfl) (fun r29 M9 h9 => ?_) (fun _ _ h9 => h9.elim)
      obtain ⟨rfl, th2, hT, hC, hF9⟩ := h9
      have hF := Frm.tr hF hF9
      obtain ⟨hMo, hw5, hw6, hw7, hw8, hw9, hw10, hw11, hw13, hw14, hw15, hw16, hw17, hw18, -⟩ := _root_.id hC
      refine v_goto (tgt := 36) dX12_lettersOn_32 (by decide) ?_
      exact v_iret dX12_lettersOn_36 rfl (by first | (exfalso; revert h21; decide) | exact ⟨th2, Or.inl ⟨b_t h6, rfl, hC⟩, hF⟩ | exact ⟨th, Or.inr ⟨b_f h6, rfl, hC⟩, hF⟩) (by omega) (by omega)
  · refine v_iconst (v := 0) dX12_lettersOn_9 (by decide) ?_
    refine v_goto (tgt := 14) dX12_lettersOn_10 (by decide) ?_
    refine pf_X12_56 dX12_lettersOn_14 rfl hMo ?_
    refine V.md (Md.sc hC) (Frm.tr hF (Frm.up (hC.kd_sc))) (fun M1 hC hF => ?_)
    obtain ⟨hMo, hw5, hw6, hw7, hw8, hw9, hw10, hw11, hw13, hw14, hw15, hw16, hw17, hw18, -⟩ := _root_.id hC
    refine v_aload_n dX12_lettersOn_17 rfl rfl ?_
    refine gf_X12_56 dX12_lettersOn_18 rfl hMo ?_
    refine v_if_ne (tgt := 35) dX12_lettersOn_21 (by decide) (fun h21 => ?_) (fun h21 => ?_)
    · refine v_iconst (v := 0) dX12_lettersOn_35 (by decide) ?_
      exact v_iret dX12_lettersOn_36 rfl (by first | (exfalso; revert h21; decide) | exact ⟨th2, Or.inl ⟨b_t h6, rfl, hC⟩, hF⟩ | exact ⟨th, Or.inr ⟨b_f h6, rfl, hC⟩, hF⟩) (by omega) (by omega)
    · refine v_aload_n dX12_lettersOn_24 rfl rfl ?_
      refine v_bipush (v := (10)) dX12_lettersOn_25 (by decide) ?_
      refine v_iload_n dX12_lettersOn_27 rfl rfl ?_
      refine v_iadd dX12_lettersOn_28 ?_
      refine k_X12_121 dX12_lettersOn_29 rfl (r_waits htr hC hG (10 + k)) hMo (Nat.le_of_ble_eq_true rfl) (by omega) (by omega) (Nat.le_of_ble_eq_true rfl) (fun r29 M9 h9 => ?_) (fun _ _ h9 => h9.elim)
      obtain ⟨rfl, th2, hT, hC, hF9⟩ := h9
      have hF := Frm.tr hF hF9
      obtain ⟨hMo, hw5, hw6, hw7, hw8, hw9, hw10, hw11, hw13, hw14, hw15, hw16, hw17, hw18, -⟩ := _root_.id hC
      refine v_goto (tgt := 36) dX12_lettersOn_32 (by decide) ?_
      exact v_iret dX12_lettersOn_36 rfl (by first | (exfalso; revert h21; decide) | exact ⟨th2, Or.inl ⟨b_t h6, rfl, hC⟩, hF⟩ | exact ⟨th, Or.inr ⟨b_f h6, rfl, hC⟩, hF⟩) (by omega) (by omega)
theorem dX12_loadOf_0 : decode cX12_loadOf 0 = .ok (.aload_n 0, 1) := by decide +kernel
theorem dX12_loadOf_1 : decode cX12_loadOf 1 = .ok (.aload_n 0, 1) := by decide +kernel
theorem dX12_loadOf_2 : decode cX12_loadOf 2 = .ok (.iload_n 1, 1) := by decide +kernel
theorem dX12_loadOf_3 : decode cX12_loadOf 3 = .ok (.invokevirtual 106, 3) := by decide +kernel
theorem dX12_loadOf_6 : decode cX12_loadOf 6 = .ok (.ifCond .eq 7, 3) := by decide +kernel
theorem dX12_loadOf_9 : decode cX12_loadOf 9 = .ok (.iconst 0, 1) := by decide +kernel
theorem dX12_loadOf_10 : decode cX12_loadOf 10 = .ok (.goto 4, 3) := by decide +kernel
theorem dX12_loadOf_13 : decode cX12_loadOf 13 = .ok (.iconst 1, 1) := by decide +kernel
theorem dX12_loadOf_14 : decode cX12_loadOf 14 = .ok (.putfield 56, 3) := by decide +kernel
theorem dX12_loadOf_17 : decode cX12_loadOf 17 = .ok (.aload_n 0, 1) := by decide +kernel
theorem dX12_loadOf_18 : decode cX12_loadOf 18 = .ok (.getfield 56, 3) := by decide +kernel
theorem dX12_loadOf_21 : decode cX12_loadOf 21 = .ok (.ifCond .ne 11, 3) := by decide +kernel
theorem dX12_loadOf_24 : decode cX12_loadOf 24 = .ok (.aload_n 0, 1) := by decide +kernel
theorem dX12_loadOf_25 : decode cX12_loadOf 25 = .ok (.iload_n 1, 1) := by decide +kernel
theorem dX12_loadOf_26 : decode cX12_loadOf 26 = .ok (.invokevirtual 109, 3) := by decide +kernel
theorem dX12_loadOf_29 : decode cX12_loadOf 29 = .ok (.goto 4, 3) := by decide +kernel
theorem dX12_loadOf_32 : decode cX12_loadOf 32 = .ok (.iconst 0, 1) := by decide +kernel
theorem dX12_loadOf_33 : decode cX12_loadOf 33 = .ok (.ireturn, 1) := by decide +kernel
set_option maxRecDepth 100000 in
set_option maxHeartbeats 4000000 in
theorem r_loadOf {l : Launch} {g : Nat → Nat} {M : LH} (htr : l.stackTraces = false) {kd : Nat → Nat} {r m : Nat} {w : Nat → Nat} {t ch ea fl sv bf tn he en ln wr dg : Int32} {v b4 sa pa fr th bs tx li lf to : Int32 → Int32} (hC : Md kd r M m w t ch ea fl sv bf tn he en ln wr dg v b4 sa pa fr th bs tx li lf to) (hG : Good v) (k : Int32) : K_X12_loadOf l g 2 0 0 [.ref m, .int k] M (RI (fun x M9 => ((hsl v k ∧ x = loadOn v k ∧ Md kd r M9 m w 0 ch ea fl sv bf tn he en ln wr dg v b4 sa pa fr th bs tx li lf to) ∨ (¬ (hsl v k) ∧ x = 0 ∧ Md kd r M9 m w 1 ch ea fl sv bf tn he en ln wr dg v b4 sa pa fr th bs tx li lf to)) ∧ Frm kd r M M9) nX) := by
  refine Ko_X12_loadOf htr (fun X => ?_)
  obtain ⟨hMo, hw5, hw6, hw7, hw8, hw9, hw10, hw11, hw13, hw14, hw15, hw16, hw17, hw18, -⟩ := _root_.id hC
  have hF : Frm kd r M M := Frm.rf
  obtain ⟨hg1, hg2, hg3, hg4, hg5, hg6, hg7, hg8, hgL, hgS, -⟩ := _root_.id hG
  clear hgL hgS
  refine v_aload_n dX12_loadOf_0 rfl rfl ?_
  refine v_aload_n dX12_loadOf_1 rfl rfl ?_
  refine v_iload_n dX12_loadOf_2 rfl rfl ?_
  refine k_X12_106 dX12_loadOf_3 rfl (r_isSledge htr hC hG k) hMo (Nat.le_of_ble_eq_true rfl) (by omega) (by omega) (Nat.le_of_ble_eq_true rfl) (fun r3 M9 h9 => ?_) (fun _ _ h9 => h9.elim)
  obtain ⟨rfl, e9⟩ := h9
  subst M9
  refine v_if_eq (tgt := 13) dX12_loadOf_6 (by decide) (fun h6 => ?_) (fun h6 => ?_)
  · refine v_iconst (v := 1) dX12_loadOf_13 (by decide) ?_
    refine pf_X12_56 dX12_loadOf_14 rfl hMo ?_
    refine V.md (Md.sc hC) (Frm.tr hF (Frm.up (hC.kd_sc))) (fun M1 hC hF => ?_)
    obtain ⟨hMo, hw5, hw6, hw7, hw8, hw9, hw10, hw11, hw13, hw14, hw15, hw16, hw17, hw18, -⟩ := _root_.id hC
    refine v_aload_n dX12_loadOf_17 rfl rfl ?_
    refine gf_X12_56 dX12_loadOf_18 rfl hMo ?_
    refine v_if_ne (tgt := 32) dX12_loadOf_21 (by decide) (fun h21 => ?_) (fun h21 => ?_)
    · refine v_iconst (v := 0) dX12_loadOf_32 (by decide) ?_
      exact v_iret dX12_loadOf_33 rfl (by first | (exfalso; revert h21; decide) | exact ⟨Or.inl ⟨b_t h6, rfl, hC⟩, hF⟩ | exact ⟨Or.inr ⟨b_f h6, rfl, hC⟩, hF⟩) (by omega) (by omega)
    · refine v_aload_n dX12_loadOf_24 rfl rfl ?_
      refine v_iload_n dX12_loadOf_25 rfl rfl ?_
      refine k_X12_109 dX12_loadOf_26 rfl (r_loadOn htr hC hG k) hMo (Nat.le_of_ble_eq_true rfl) (by omega) (by omega) (Nat.le_of_ble_eq_true rfl) (fun r26 M9 h9 => ?_) (fun _ _ h9 => h9.elim)
      obtain ⟨rfl, e9⟩ := h9
      subst M9
      refine v_goto (tgt := 33) dX12_loadOf_29 (by decide) ?_
      exact v_iret dX12_loadOf_33 rfl (by first | (exfalso; revert h21; decide) | exact ⟨Or.inl ⟨b_t h6, rfl, hC⟩, hF⟩ | exact ⟨Or.inr ⟨b_f h6, rfl, hC⟩, hF⟩) (by omega) (by omega)
  · refine v_iconst (v := 0) dX12_loadOf_9 (by decide) ?_
    refine v_goto (tgt := 14) dX12_loadOf_10 (by decide) ?_
    refine pf_X12_56 dX12_loadOf_14 rfl hMo ?_
    refine V.md (Md.sc hC) (Frm.tr hF (Frm.up (hC.kd_sc))) (fun M1 hC hF => ?_)
    obtain ⟨hMo, hw5, hw6, hw7, hw8, hw9, hw10, hw11, hw13, hw14, hw15, hw16, hw17, hw18, -⟩ := _root_.id hC
    refine v_aload_n dX12_loadOf_17 rfl rfl ?_
    refine gf_X12_56 dX12_loadOf_18 rfl hMo ?_
    refine v_if_ne (tgt := 32) dX12_loadOf_21 (by decide) (fun h21 => ?_) (fun h21 => ?_)
    · refine v_iconst (v := 0) dX12_loadOf_32 (by decide) ?_
      exact v_iret dX12_loadOf_33 rfl (by first | (exfalso; revert h21; decide) | exact ⟨Or.inl ⟨b_t h6, rfl, hC⟩, hF⟩ | exact ⟨Or.inr ⟨b_f h6, rfl, hC⟩, hF⟩) (by omega) (by omega)
    · refine v_aload_n dX12_loadOf_24 rfl rfl ?_
      refine v_iload_n dX12_loadOf_25 rfl rfl ?_
      refine k_X12_109 dX12_loadOf_26 rfl (r_loadOn htr hC hG k) hMo (Nat.le_of_ble_eq_true rfl) (by omega) (by omega) (Nat.le_of_ble_eq_true rfl) (fun r26 M9 h9 => ?_) (fun _ _ h9 => h9.elim)
      obtain ⟨rfl, e9⟩ := h9
      subst M9
      refine v_goto (tgt := 33) dX12_loadOf_29 (by decide) ?_
      exact v_iret dX12_loadOf_33 rfl (by first | (exfalso; revert h21; decide) | exact ⟨Or.inl ⟨b_t h6, rfl, hC⟩, hF⟩ | exact ⟨Or.inr ⟨b_f h6, rfl, hC⟩, hF⟩) (by omega) (by omega)
theorem dX12_tellsOf_0 : decode cX12_tellsOf 0 = .ok (.aload_n 0, 1) := by decide +kernel
theorem dX12_tellsOf_1 : decode cX12_tellsOf 1 = .ok (.aload_n 0, 1) := by decide +kernel
theorem dX12_tellsOf_2 : decode cX12_tellsOf 2 = .ok (.iload_n 1, 1) := by decide +kernel
theorem dX12_tellsOf_3 : decode cX12_tellsOf 3 = .ok (.invokevirtual 106, 3) := by decide +kernel
theorem dX12_tellsOf_6 : decode cX12_tellsOf 6 = .ok (.ifCond .eq 7, 3) := by decide +kernel
theorem dX12_tellsOf_9 : decode cX12_tellsOf 9 = .ok (.iconst 0, 1) := by decide +kernel
theorem dX12_tellsOf_10 : decode cX12_tellsOf 10 = .ok (.goto 4, 3) := by decide +kernel
theorem dX12_tellsOf_13 : decode cX12_tellsOf 13 = .ok (.iconst 1, 1) := by decide +kernel
theorem dX12_tellsOf_14 : decode cX12_tellsOf 14 = .ok (.putfield 56, 3) := by decide +kernel
theorem dX12_tellsOf_17 : decode cX12_tellsOf 17 = .ok (.aload_n 0, 1) := by decide +kernel
theorem dX12_tellsOf_18 : decode cX12_tellsOf 18 = .ok (.getfield 56, 3) := by decide +kernel
theorem dX12_tellsOf_21 : decode cX12_tellsOf 21 = .ok (.ifCond .ne 16, 3) := by decide +kernel
theorem dX12_tellsOf_24 : decode cX12_tellsOf 24 = .ok (.aload_n 0, 1) := by decide +kernel
theorem dX12_tellsOf_25 : decode cX12_tellsOf 25 = .ok (.getfield 16, 3) := by decide +kernel
theorem dX12_tellsOf_28 : decode cX12_tellsOf 28 = .ok (.iload_n 1, 1) := by decide +kernel
theorem dX12_tellsOf_29 : decode cX12_tellsOf 29 = .ok (.iload_n 2, 1) := by decide +kernel
theorem dX12_tellsOf_30 : decode cX12_tellsOf 30 = .ok (.invokestatic 96, 3) := by decide +kernel
theorem dX12_tellsOf_33 : decode cX12_tellsOf 33 = .ok (.iaload, 1) := by decide +kernel
theorem dX12_tellsOf_34 : decode cX12_tellsOf 34 = .ok (.goto 4, 3) := by decide +kernel
theorem dX12_tellsOf_37 : decode cX12_tellsOf 37 = .ok (.iconst 0, 1) := by decide +kernel
theorem dX12_tellsOf_38 : decode cX12_tellsOf 38 = .ok (.ireturn, 1) := by decide +kernel
set_option maxRecDepth 100000 in
set_option maxHeartbeats 4000000 in
theorem r_tellsOf {l : Launch} {g : Nat → Nat} {M : LH} (htr : l.stackTraces = false) {kd : Nat → Nat} {r m : Nat} {w : Nat → Nat} {t ch ea fl sv bf tn he en ln wr dg : Int32} {v b4 sa pa fr th bs tx li lf to : Int32 → Int32} (hC : Md kd r M m w t ch ea fl sv bf tn he en ln wr dg v b4 sa pa fr th bs tx li lf to) (hG : Good v) (k : Int32) {j : Int32} (j0 : 0 ≤ j) (j1 : j < 3) : K_X12_tellsOf l g 2 0 0 [.ref m, .int k, .int j] M (RI (fun x M9 => ((hsl v k ∧ x = sd v k j ∧ Md kd r M9 m w 0 ch ea fl sv bf tn he en ln wr dg v b4 sa pa fr th bs tx li lf to) ∨ (¬ (hsl v k) ∧ x = 0 ∧ Md kd r M9 m w 1 ch ea fl sv bf tn he en ln wr dg v b4 sa pa fr th bs tx li lf to)) ∧ Frm kd r M M9) nX) := by
  refine Ko_X12_tellsOf htr (fun X => ?_)
  obtain ⟨hMo, hw5, hw6, hw7, hw8, hw9, hw10, hw11, hw13, hw14, hw15, hw16, hw17, hw18, -⟩ := _root_.id hC
  have hF : Frm kd r M M := Frm.rf
  obtain ⟨hg1, hg2, hg3, hg4, hg5, hg6, hg7, hg8, hgL, hgS, -⟩ := _root_.id hG
  clear hgL hgS
  refine v_aload_n dX12_tellsOf_0 rfl rfl ?_
  refine v_aload_n dX12_tellsOf_1 rfl rfl ?_
  refine v_iload_n dX12_tellsOf_2 rfl rfl ?_
  refine k_X12_106 dX12_tellsOf_3 rfl (r_isSledge htr hC hG k) hMo (Nat.le_of_ble_eq_true rfl) (by omega) (by omega) (Nat.le_of_ble_eq_true rfl) (fun r3 M9 h9 => ?_) (fun _ _ h9 => h9.elim)
  obtain ⟨rfl, e9⟩ := h9
  subst M9
  refine v_if_eq (tgt := 13) dX12_tellsOf_6 (by decide) (fun h6 => ?_) (fun h6 => ?_)
  · refine v_iconst (v := 1) dX12_tellsOf_13 (by decide) ?_
    refine pf_X12_56 dX12_tellsOf_14 rfl hMo ?_
    refine V.md (Md.sc hC) (Frm.tr hF (Frm.up (hC.kd_sc))) (fun M1 hC hF => ?_)
    obtain ⟨hMo, hw5, hw6, hw7, hw8, hw9, hw10, hw11, hw13, hw14, hw15, hw16, hw17, hw18, -⟩ := _root_.id hC
    refine v_aload_n dX12_tellsOf_17 rfl rfl ?_
    refine gf_X12_56 dX12_tellsOf_18 rfl hMo ?_
    refine v_if_ne (tgt := 37) dX12_tellsOf_21 (by decide) (fun h21 => ?_) (fun h21 => ?_)
    · refine v_iconst (v := 0) dX12_tellsOf_37 (by decide) ?_
      exact v_iret dX12_tellsOf_38 rfl (by first | (exfalso; revert h21; decide) | exact ⟨Or.inl ⟨b_t h6, rfl, hC⟩, hF⟩ | exact ⟨Or.inr ⟨b_f h6, rfl, hC⟩, hF⟩) (by omega) (by omega)
    · refine v_aload_n dX12_tellsOf_24 rfl rfl ?_
      refine gf_X12_16 dX12_tellsOf_25 rfl hMo ?_
      refine v_iload_n dX12_tellsOf_28 rfl rfl ?_
      refine v_iload_n dX12_tellsOf_29 rfl rfl ?_
      refine k_X12_96 dX12_tellsOf_30 rfl (r_in htr k j) (Nat.le_of_ble_eq_true rfl) (by omega) (by omega) (Nat.le_of_ble_eq_true rfl) (fun r30 M9 h9 => ?_) (fun _ _ h9 => h9.elim)
      obtain ⟨rfl, e9⟩ := h9
      subst M9
      refine v_iald dX12_tellsOf_33 hw5 (by first | (exfalso; revert h21; decide) | (obtain ⟨z0, z1⟩ := b_t h6; lia)) (by first | (exfalso; revert h21; decide) | (obtain ⟨z0, z1⟩ := b_t h6; lia)) ?_
      refine v_goto (tgt := 38) dX12_tellsOf_34 (by decide) ?_
      exact v_iret dX12_tellsOf_38 rfl (by first | (exfalso; revert h21; decide) | exact ⟨Or.inl ⟨b_t h6, rfl, hC⟩, hF⟩ | exact ⟨Or.inr ⟨b_f h6, rfl, hC⟩, hF⟩) (by omega) (by omega)
  · refine v_iconst (v := 0) dX12_tellsOf_9 (by decide) ?_
    refine v_goto (tgt := 14) dX12_tellsOf_10 (by decide) ?_
    refine pf_X12_56 dX12_tellsOf_14 rfl hMo ?_
    refine V.md (Md.sc hC) (Frm.tr hF (Frm.up (hC.kd_sc))) (fun M1 hC hF => ?_)
    obtain ⟨hMo, hw5, hw6, hw7, hw8, hw9, hw10, hw11, hw13, hw14, hw15, hw16, hw17, hw18, -⟩ := _root_.id hC
    refine v_aload_n dX12_tellsOf_17 rfl rfl ?_
    refine gf_X12_56 dX12_tellsOf_18 rfl hMo ?_
    refine v_if_ne (tgt := 37) dX12_tellsOf_21 (by decide) (fun h21 => ?_) (fun h21 => ?_)
    · refine v_iconst (v := 0) dX12_tellsOf_37 (by decide) ?_
      exact v_iret dX12_tellsOf_38 rfl (by first | (exfalso; revert h21; decide) | exact ⟨Or.inl ⟨b_t h6, rfl, hC⟩, hF⟩ | exact ⟨Or.inr ⟨b_f h6, rfl, hC⟩, hF⟩) (by omega) (by omega)
    · refine v_aload_n dX12_tellsOf_24 rfl rfl ?_
      refine gf_X12_16 dX12_tellsOf_25 rfl hMo ?_
      refine v_iload_n dX12_tellsOf_28 rfl rfl ?_
      refine v_iload_n dX12_tellsOf_29 rfl rfl ?_
      refine k_X12_96 dX12_tellsOf_30 rfl (r_in htr k j) (Nat.le_of_ble_eq_true rfl) (by omega) (by omega) (Nat.le_of_ble_eq_true rfl) (fun r30 M9 h9 => ?_) (fun _ _ h9 => h9.elim)
      obtain ⟨rfl, e9⟩ := h9
      subst M9
      refine v_iald dX12_tellsOf_33 hw5 (by first | (exfalso; revert h21; decide) | (obtain ⟨z0, z1⟩ := b_t h6; lia)) (by first | (exfalso; revert h21; decide) | (obtain ⟨z0, z1⟩ := b_t h6; lia)) ?_
      refine v_goto (tgt := 38) dX12_tellsOf_34 (by decide) ?_
      exact v_iret dX12_tellsOf_38 rfl (by first | (exfalso; revert h21; decide) | exact ⟨Or.inl ⟨b_t h6, rfl, hC⟩, hF⟩ | exact ⟨Or.inr ⟨b_f h6, rfl, hC⟩, hF⟩) (by omega) (by omega)
theorem dX12_capacity_0 : decode cX12_capacity 0 = .ok (.aload_n 0, 1) := by decide +kernel
theorem dX12_capacity_1 : decode cX12_capacity 1 = .ok (.iload_n 1, 1) := by decide +kernel
theorem dX12_capacity_2 : decode cX12_capacity 2 = .ok (.iconst 0, 1) := by decide +kernel
theorem dX12_capacity_3 : decode cX12_capacity 3 = .ok (.invokevirtual 168, 3) := by decide +kernel
theorem dX12_capacity_6 : decode cX12_capacity 6 = .ok (.ireturn, 1) := by decide +kernel
set_option maxRecDepth 100000 in
set_option maxHeartbeats 4000000 in
theorem r_capacity {l : Launch} {g : Nat → Nat} {M : LH} (htr : l.stackTraces = false) {kd : Nat → Nat} {r m : Nat} {w : Nat → Nat} {t ch ea fl sv bf tn he en ln wr dg : Int32} {v b4 sa pa fr th bs tx li lf to : Int32 → Int32} (hC : Md kd r M m w t ch ea fl sv bf tn he en ln wr dg v b4 sa pa fr th bs tx li lf to) (hG : Good v) (k : Int32) : K_X12_capacity l g 3 0 0 [.ref m, .int k] M (RI (fun x M9 => ((hsl v k ∧ x = sd v k 0 ∧ Md kd r M9 m w 0 ch ea fl sv bf tn he en ln wr dg v b4 sa pa fr th bs tx li lf to) ∨ (¬ (hsl v k) ∧ x = 0 ∧ Md kd r M9 m w 1 ch ea fl sv bf tn he en ln wr dg v b4 sa pa fr th bs tx li lf to)) ∧ Frm kd r M M9) nX) := by
  refine Ko_X12_capacity htr (fun X => ?_)
  obtain ⟨hMo, hw5, hw6, hw7, hw8, hw9, hw10, hw11, hw13, hw14, hw15, hw16, hw17, hw18, -⟩ := _root_.id hC
  have hF : Frm kd r M M := Frm.rf
  obtain ⟨hg1, hg2, hg3, hg4, hg5, hg6, hg7, hg8, hgL, hgS, -⟩ := _root_.id hG
  clear hgL hgS
  refine v_aload_n dX12_capacity_0 rfl rfl ?_
  refine v_iload_n dX12_capacity_1 rfl rfl ?_
  refine v_iconst (v := 0) dX12_capacity_2 (by decide) ?_
  refine k_X12_168 dX12_capacity_3 rfl (r_tellsOf htr hC hG k (by decide) (by decide)) hMo (Nat.le_of_ble_eq_true rfl) (by omega) (by omega) (Nat.le_of_ble_eq_true rfl) (fun r3 M9 h9 => ?_) (fun _ _ h9 => h9.elim)
  exact v_iret dX12_capacity_6 rfl h9 (by omega) (by omega)
theorem dX12_stationOfSledge_0 : decode cX12_stationOfSledge 0 = .ok (.aload_n 0, 1) := by decide +kernel
theorem dX12_stationOfSledge_1 : decode cX12_stationOfSledge 1 = .ok (.iload_n 1, 1) := by decide +kernel
theorem dX12_stationOfSledge_2 : decode cX12_stationOfSledge 2 = .ok (.iconst 1, 1) := by decide +kernel
theorem dX12_stationOfSledge_3 : decode cX12_stationOfSledge 3 = .ok (.invokevirtual 168, 3) := by decide +kernel
theorem dX12_stationOfSledge_6 : decode cX12_stationOfSledge 6 = .ok (.ireturn, 1) := by decide +kernel
set_option maxRecDepth 100000 in
set_option maxHeartbeats 4000000 in
theorem r_stationOfSledge {l : Launch} {g : Nat → Nat} {M : LH} (htr : l.stackTraces = false) {kd : Nat → Nat} {r m : Nat} {w : Nat → Nat} {t ch ea fl sv bf tn he en ln wr dg : Int32} {v b4 sa pa fr th bs tx li lf to : Int32 → Int32} (hC : Md kd r M m w t ch ea fl sv bf tn he en ln wr dg v b4 sa pa fr th bs tx li lf to) (hG : Good v) (k : Int32) : K_X12_stationOfSledge l g 3 0 0 [.ref m, .int k] M (RI (fun x M9 => ((hsl v k ∧ x = sd v k 1 ∧ Md kd r M9 m w 0 ch ea fl sv bf tn he en ln wr dg v b4 sa pa fr th bs tx li lf to) ∨ (¬ (hsl v k) ∧ x = 0 ∧ Md kd r M9 m w 1 ch ea fl sv bf tn he en ln wr dg v b4 sa pa fr th bs tx li lf to)) ∧ Frm kd r M M9) nX) := by
  refine Ko_X12_stationOfSledge htr (fun X => ?_)
  obtain ⟨hMo, hw5, hw6, hw7, hw8, hw9, hw10, hw11, hw13, hw14, hw15, hw16, hw17, hw18, -⟩ := _root_.id hC
  have hF : Frm kd r M M := Frm.rf
  obtain ⟨hg1, hg2, hg3, hg4, hg5, hg6, hg7, hg8, hgL, hgS, -⟩ := _root_.id hG
  clear hgL hgS
  refine v_aload_n dX12_stationOfSledge_0 rfl rfl ?_
  refine v_iload_n dX12_stationOfSledge_1 rfl rfl ?_
  refine v_iconst (v := 1) dX12_stationOfSledge_2 (by decide) ?_
  refine k_X12_168 dX12_stationOfSledge_3 rfl (r_tellsOf htr hC hG k (by decide) (by decide)) hMo (Nat.le_of_ble_eq_true rfl) (by omega) (by omega) (Nat.le_of_ble_eq_true rfl) (fun r3 M9 h9 => ?_) (fun _ _ h9 => h9.elim)
  exact v_iret dX12_stationOfSledge_6 rfl h9 (by omega) (by omega)
theorem dX12_hoursLeft_0 : decode cX12_hoursLeft 0 = .ok (.aload_n 0, 1) := by decide +kernel
theorem dX12_hoursLeft_1 : decode cX12_hoursLeft 1 = .ok (.iload_n 1, 1) := by decide +kernel
theorem dX12_hoursLeft_2 : decode cX12_hoursLeft 2 = .ok (.iconst 2, 1) := by decide +kernel
theorem dX12_hoursLeft_3 : decode cX12_hoursLeft 3 = .ok (.invokevirtual 168, 3) := by decide +kernel
theorem dX12_hoursLeft_6 : decode cX12_hoursLeft 6 = .ok (.ireturn, 1) := by decide +kernel
set_option maxRecDepth 100000 in
set_option maxHeartbeats 4000000 in
theorem r_hoursLeft {l : Launch} {g : Nat → Nat} {M : LH} (htr : l.stackTraces = false) {kd : Nat → Nat} {r m : Nat} {w : Nat → Nat} {t ch ea fl sv bf tn he en ln wr dg : Int32} {v b4 sa pa fr th bs tx li lf to : Int32 → Int32} (hC : Md kd r M m w t ch ea fl sv bf tn he en ln wr dg v b4 sa pa fr th bs tx li lf to) (hG : Good v) (k : Int32) : K_X12_hoursLeft l g 3 0 0 [.ref m, .int k] M (RI (fun x M9 => ((hsl v k ∧ x = sd v k 2 ∧ Md kd r M9 m w 0 ch ea fl sv bf tn he en ln wr dg v b4 sa pa fr th bs tx li lf to) ∨ (¬ (hsl v k) ∧ x = 0 ∧ Md kd r M9 m w 1 ch ea fl sv bf tn he en ln wr dg v b4 sa pa fr th bs tx li lf to)) ∧ Frm kd r M M9) nX) := by
  refine Ko_X12_hoursLeft htr (fun X => ?_)
  obtain ⟨hMo, hw5, hw6, hw7, hw8, hw9, hw10, hw11, hw13, hw14, hw15, hw16, hw17, hw18, -⟩ := _root_.id hC
  have hF : Frm kd r M M := Frm.rf
  obtain ⟨hg1, hg2, hg3, hg4, hg5, hg6, hg7, hg8, hgL, hgS, -⟩ := _root_.id hG
  clear hgL hgS
  refine v_aload_n dX12_hoursLeft_0 rfl rfl ?_
  refine v_iload_n dX12_hoursLeft_1 rfl rfl ?_
  refine v_iconst (v := 2) dX12_hoursLeft_2 (by decide) ?_
  refine k_X12_168 dX12_hoursLeft_3 rfl (r_tellsOf htr hC hG k (by decide) (by decide)) hMo (Nat.le_of_ble_eq_true rfl) (by omega) (by omega) (Nat.le_of_ble_eq_true rfl) (fun r3 M9 h9 => ?_) (fun _ _ h9 => h9.elim)
  exact v_iret dX12_hoursLeft_6 rfl h9 (by omega) (by omega)
theorem dX12_isTravelling_0 : decode cX12_isTravelling 0 = .ok (.aload_n 0, 1) := by decide +kernel
theorem dX12_isTravelling_1 : decode cX12_isTravelling 1 = .ok (.iload_n 1, 1) := by decide +kernel
theorem dX12_isTravelling_2 : decode cX12_isTravelling 2 = .ok (.iconst 2, 1) := by decide +kernel
theorem dX12_isTravelling_3 : decode cX12_isTravelling 3 = .ok (.invokevirtual 168, 3) := by decide +kernel
theorem dX12_isTravelling_6 : decode cX12_isTravelling 6 = .ok (.ifCond .le 7, 3) := by decide +kernel
theorem dX12_isTravelling_9 : decode cX12_isTravelling 9 = .ok (.iconst 1, 1) := by decide +kernel
theorem dX12_isTravelling_10 : decode cX12_isTravelling 10 = .ok (.goto 4, 3) := by decide +kernel
theorem dX12_isTravelling_13 : decode cX12_isTravelling 13 = .ok (.iconst 0, 1) := by decide +kernel
theorem dX12_isTravelling_14 : decode cX12_isTravelling 14 = .ok (.ireturn, 1) := by decide +kernel
set_option maxRecDepth 100000 in
set_option maxHeartbeats 4000000 in
theorem r_isTravelling {l : Launch} {g : Nat → Nat} {M : LH} (htr : l.stackTraces = false) {kd : Nat → Nat} {r m : Nat} {w : Nat → Nat} {t ch ea fl sv bf tn he en ln wr dg : Int32} {v b4 sa pa fr th bs tx li lf to : Int32 → Int32} (hC : Md kd r M m w t ch ea fl sv bf tn he en ln wr dg v b4 sa pa fr th bs tx li lf to) (hG : Good v) (k : Int32) : K_X12_isTravelling l g 3 0 0 [.ref m, .int k] M (RI (fun x M9 => ((hsl v k ∧ x = (if 0 < sd v k 2 then 1 else 0) ∧ Md kd r M9 m w 0 ch ea fl sv bf tn he en ln wr dg v b4 sa pa fr th bs tx li lf to) ∨ (¬ (hsl v k) ∧ x = 0 ∧ Md kd r M9 m w 1 ch ea fl sv bf tn he en ln wr dg v b4 sa pa fr th bs tx li lf to)) ∧ Frm kd r M M9) nX) := by
  refine Ko_X12_isTravelling htr (fun X => ?_)
  obtain ⟨hMo, hw5, hw6, hw7, hw8, hw9, hw10, hw11, hw13, hw14, hw15, hw16, hw17, hw18, -⟩ := _root_.id hC
  have hF : Frm kd r M M := Frm.rf
  obtain ⟨hg1, hg2, hg3, hg4, hg5, hg6, hg7, hg8, hgL, hgS, -⟩ := _root_.id hG
  clear hgL hgS
  refine v_aload_n dX12_isTravelling_0 rfl rfl ?_
  refine v_iload_n dX12_isTravelling_1 rfl rfl ?_
  refine v_iconst (v := 2) dX12_isTravelling_2 (by decide) ?_
  refine k_X12_168 dX12_isTravelling_3 rfl (r_tellsOf htr hC hG k (by decide) (by decide)) hMo (Nat.le_of_ble_eq_true rfl) (by omega) (by omega) (Nat.le_of_ble_eq_true rfl) (fun r3 M9 h9 => ?_) (fun _ _ h9 => h9.elim)
  refine v_if_le (tgt := 13) dX12_isTravelling_6 (by decide) (fun h6 => ?_) (fun h6 => ?_)
  · refine v_iconst (v := 0) dX12_isTravelling_13 (by decide) ?_
    exact v_zret dX12_isTravelling_14 rfl (by first | rfl | assumption) (by
      rcases h9 with ⟨⟨a, rfl, hC⟩ | ⟨a, rfl, hC⟩, hF⟩
      · first
          | exact ⟨Or.inl ⟨a, (if_pos (Int32.not_le.mp h6)).symm, hC⟩, hF⟩
          | exact ⟨Or.inl ⟨a, (if_neg (Int32.not_lt.mpr h6)).symm, hC⟩, hF⟩
      · first
          | exact absurd (by decide) h6
          | exact ⟨Or.inr ⟨a, rfl, hC⟩, hF⟩) (by omega) (by omega)
  · refine v_iconst (v := 1) dX12_isTravelling_9 (by decide) ?_
    refine v_goto (tgt := 14) dX12_isTravelling_10 (by decide) ?_
    exact v_zret dX12_isTravelling_14 rfl (by first | rfl | assumption) (by
      rcases h9 with ⟨⟨a, rfl, hC⟩ | ⟨a, rfl, hC⟩, hF⟩
      · first
          | exact ⟨Or.inl ⟨a, (if_pos (Int32.not_le.mp h6)).symm, hC⟩, hF⟩
          | exact ⟨Or.inl ⟨a, (if_neg (Int32.not_lt.mpr h6)).symm, hC⟩, hF⟩
      · first
          | exact absurd (by decide) h6
          | exact ⟨Or.inr ⟨a, rfl, hC⟩, hF⟩) (by omega) (by omega)
