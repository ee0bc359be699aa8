/-! ===== the reference: the commands of a script ===== -/
def nsF (ns : List Int32) (j : Int32) : Int32 := ns.getD j.toNatClampNeg 0
/-- all commands can be done, and make σ' of σ; the k-th of them is the first that can't -/
def rnG : List (Nat × List Int32) → (Int32 → Int32) → (Int32 → Int32) → Prop
  | [], σ, σ' => σ' = σ
  | c :: cs, σ, σ' => okJ σ (nsF c.2) c.1 ∧ ∃ σ1 x, ddS σ (nsF c.2) c.1 σ1 x ∧ rnG cs σ1 σ'
def rnB : List (Nat × List Int32) → (Int32 → Int32) → Nat → Prop
  | [], _, _ => False
  | c :: cs, σ, k => (¬ okJ σ (nsF c.2) c.1 ∧ k = 0) ∨ (okJ σ (nsF c.2) c.1 ∧ ∃ σ1 x, ddS σ (nsF c.2) c.1 σ1 x ∧ ∃ k', k = k' + 1 ∧ rnB cs σ1 k')
theorem rnG_un {tx : Int32 → Int32} {en : Int32} : ∀ (cs : List (Nat × List Int32)) (he : Int32) (σ σ' σ'' : Int32 → Int32), (scG tx en cs he ∨ cs = []) → rnG cs σ σ' → rnG cs σ σ'' → σ' = σ'' := by
  intro cs
  induction cs with
  | nil => exact fun _ σ σ' σ'' _ h h2 => h.trans h2.symm
  | cons c cs ih =>
    intro he σ σ' σ'' hs ⟨_, σ1, x, d1, h1⟩ ⟨_, σ2, x2, d2, h2⟩
    rcases hs with ⟨e1, hG, h3⟩ | h3
    · obtain ⟨rfl, -⟩ := dd_un hG.1 d1 d2
      refine ih (e1 + 1) _ _ _ ?_ h1 h2
      rcases h3 with ⟨q, -⟩ | ⟨-, -, q⟩
      · exact Or.inr q
      · exact Or.inl q
    · exact absurd h3 (by simp)
theorem rnB_un {tx : Int32 → Int32} {en : Int32} : ∀ (cs : List (Nat × List Int32)) (he : Int32) (σ : Int32 → Int32) (k k' : Nat), (scG tx en cs he ∨ cs = []) → rnB cs σ k → rnB cs σ k' → k = k' := by
  intro cs
  induction cs with
  | nil => exact fun _ σ k k' _ h => h.elim
  | cons c cs ih =>
    intro he σ k k' hs h h2
    rcases hs with ⟨e1, hG, h3⟩ | h3
    · rcases h with ⟨a, rfl⟩ | ⟨a, σ1, x, d1, j, rfl, h1⟩ <;> rcases h2 with ⟨b, rfl⟩ | ⟨b, σ2, x2, d2, j2, rfl, h4⟩
      · rfl
      · exact absurd b a
      · exact absurd a b
      · obtain ⟨rfl, -⟩ := dd_un hG.1 d1 d2
        rw [ih (e1 + 1) _ j j2 (h3.elim (fun q => Or.inr q.1) (fun q => Or.inl q.2.2)) h1 h4]
    · exact absurd h3 (by simp)
theorem rn_ex {tx : Int32 → Int32} {en : Int32} : ∀ (cs : List (Nat × List Int32)) (he : Int32) (σ σ' : Int32 → Int32) (k : Nat), (scG tx en cs he ∨ cs = []) → rnG cs σ σ' → rnB cs σ k → False := by
  intro cs
  induction cs with
  | nil => exact fun _ σ _ k _ _ h => h.elim
  | cons c cs ih =>
    intro he σ σ' k hs ⟨a, σ1, x, d1, h1⟩ h2
    rcases hs with ⟨e1, hG, h3⟩ | h3
    · rcases h2 with ⟨b, rfl⟩ | ⟨b, σ2, x2, d2, j2, rfl, h4⟩
      · exact b a
      · obtain ⟨rfl, -⟩ := dd_un hG.1 d1 d2
        exact ih (e1 + 1) _ _ _ (h3.elim (fun q => Or.inr q.1) (fun q => Or.inl q.2.2)) h1 h4
    · exact absurd h3 (by simp)
theorem dd_4 {σ σ' : Int32 → Int32} {n : Nat} (hG : Good σ) (h4 : (σ 4).toInt + ((n + 1 : Nat) : Int) < 1000000) (h : σ' 4 = σ 4 ∨ σ' 4 = σ 4 + 1) : (σ' 4).toInt + (n : Int) < 1000000 ∧ σ 4 < 1000000 ∧ (σ' 4).toInt ≤ (σ 4).toInt + 1 := by
  have g0 : 0 ≤ (σ 4).toInt := i_le.mp hG.2.2.2.2.2.2.2.2.2.2.2.2.2
  have e : (1000000 : Int32).toInt = 1000000 := rfl
  refine ⟨?_, by rw [i_lt, e]; omega, ?_⟩
  · rcases h with h | h
    · rw [h]; omega
    · rw [h, i_add] <;> rw [i_1] <;> omega
  · rcases h with h | h
    · rw [h]; omega
    · rw [h, i_add] <;> rw [i_1] <;> omega
theorem rn_ok {tx : Int32 → Int32} {en : Int32} : ∀ (cs : List (Nat × List Int32)) (he : Int32) (σ σ' : Int32 → Int32), (scG tx en cs he ∨ cs = []) → Good σ → (σ 4).toInt + (cs.length : Int) < 1000000 → rnG cs σ σ' → Good σ' ∧ (Sy σ → Sy σ') ∧ (σ' 4).toInt ≤ (σ 4).toInt + (cs.length : Int) := by
  intro cs
  induction cs with
  | nil =>
    intro _ σ σ' _ hG _ h
    obtain rfl : σ' = σ := h
    exact ⟨hG, _root_.id, Int.le_of_eq (Int.add_zero _).symm⟩
  | cons c cs ih =>
    intro he σ σ' hs hG h4 ⟨a, σ1, x, d1, h1⟩
    rcases hs with ⟨e1, hcG, h3⟩ | h3
    · rw [List.length_cons] at h4 ⊢
      have g0 : 0 ≤ (σ 4).toInt := i_le.mp hG.2.2.2.2.2.2.2.2.2.2.2.2.2
      have e : (1000000 : Int32).toInt = 1000000 := rfl
      obtain ⟨q1, q2, q3⟩ := dd_ok hcG.1 hG (by rw [i_lt, e]; omega) a d1
      obtain ⟨q4, -, q5⟩ := dd_4 hG h4 q3
      obtain ⟨r1, r2, r3⟩ := ih (e1 + 1) σ1 σ' (h3.elim (fun q => Or.inr q.1) (fun q => Or.inl q.2.2)) q1 q4 h1
      exact ⟨r1, fun h => r2 (q2 h), by omega⟩
    · exact absurd h3 (by simp)
theorem nsF_n {ns : List Int32} {j : Nat} (h : j < 100) : nsF ns (nI j) = ns.getD j 0 := by
  unfold nsF
  rw [nI_clamp (by omega)]
theorem arN_5 : ∀ i, i < 10 → arN i ≤ 5 := by decide
/-- the numbers of a row, or of the list: the same deed -/
theorem ok_ns {σ N : Int32 → Int32} {i : Nat} {ns : List Int32} (hi : i < 10) (h : ∀ j, j < arN i → N (nI j) = ns.getD j 0) : (okJ σ N i ↔ okJ σ (nsF ns) i) ∧ ∀ σ' x, (ddS σ N i σ' x ↔ ddS σ (nsF ns) i σ' x) := ok_cg hi (fun j hj => (h j hj).trans (nsF_n (by have := arN_5 i hi; omega)).symm)
theorem dX12_commands_0 : decode cX12_commands 0 = .ok (.aload_n 0, 1) := by decide +kernel
theorem dX12_commands_1 : decode cX12_commands 1 = .ok (.iconst 0, 1) := by decide +kernel
theorem dX12_commands_2 : decode cX12_commands 2 = .ok (.putfield 202, 3) := by decide +kernel
theorem dX12_commands_5 : decode cX12_commands 5 = .ok (.aload_n 0, 1) := by decide +kernel
theorem dX12_commands_6 : decode cX12_commands 6 = .ok (.iconst 0, 1) := by decide +kernel
theorem dX12_commands_7 : decode cX12_commands 7 = .ok (.putfield 208, 3) := by decide +kernel
theorem dX12_commands_10 : decode cX12_commands 10 = .ok (.iconst 1, 1) := by decide +kernel
theorem dX12_commands_11 : decode cX12_commands 11 = .ok (.istore_n 1, 1) := by decide +kernel
theorem dX12_commands_12 : decode cX12_commands 12 = .ok (.aload_n 0, 1) := by decide +kernel
theorem dX12_commands_13 : decode cX12_commands 13 = .ok (.invokevirtual 236, 3) := by decide +kernel
theorem dX12_commands_16 : decode cX12_commands 16 = .ok (.aload_n 0, 1) := by decide +kernel
theorem dX12_commands_17 : decode cX12_commands 17 = .ok (.getfield 208, 3) := by decide +kernel
theorem dX12_commands_20 : decode cX12_commands 20 = .ok (.ifCond .ne 44, 3) := by decide +kernel
theorem dX12_commands_23 : decode cX12_commands 23 = .ok (.aload_n 0, 1) := by decide +kernel
theorem dX12_commands_24 : decode cX12_commands 24 = .ok (.getfield 56, 3) := by decide +kernel
theorem dX12_commands_27 : decode cX12_commands 27 = .ok (.ifCond .ne 37, 3) := by decide +kernel
theorem dX12_commands_30 : decode cX12_commands 30 = .ok (.aload_n 0, 1) := by decide +kernel
theorem dX12_commands_31 : decode cX12_commands 31 = .ok (.getfield 202, 3) := by decide +kernel
theorem dX12_commands_34 : decode cX12_commands 34 = .ok (.aload_n 0, 1) := by decide +kernel
theorem dX12_commands_35 : decode cX12_commands 35 = .ok (.getfield 205, 3) := by decide +kernel
theorem dX12_commands_38 : decode cX12_commands 38 = .ok (.if_icmp .ge 26, 3) := by decide +kernel
theorem dX12_commands_41 : decode cX12_commands 41 = .ok (.aload_n 0, 1) := by decide +kernel
theorem dX12_commands_42 : decode cX12_commands 42 = .ok (.bipush 59, 2) := by decide +kernel
theorem dX12_commands_44 : decode cX12_commands 44 = .ok (.invokevirtual 215, 3) := by decide +kernel
theorem dX12_commands_47 : decode cX12_commands 47 = .ok (.aload_n 0, 1) := by decide +kernel
theorem dX12_commands_48 : decode cX12_commands 48 = .ok (.getfield 208, 3) := by decide +kernel
theorem dX12_commands_51 : decode cX12_commands 51 = .ok (.ifCond .ne 7, 3) := by decide +kernel
theorem dX12_commands_54 : decode cX12_commands 54 = .ok (.aload_n 0, 1) := by decide +kernel
theorem dX12_commands_55 : decode cX12_commands 55 = .ok (.invokevirtual 236, 3) := by decide +kernel
theorem dX12_commands_58 : decode cX12_commands 58 = .ok (.iinc 1 1, 3) := by decide +kernel
theorem dX12_commands_61 : decode cX12_commands 61 = .ok (.goto (-45), 3) := by decide +kernel
theorem dX12_commands_64 : decode cX12_commands 64 = .ok (.iload_n 1, 1) := by decide +kernel
theorem dX12_commands_65 : decode cX12_commands 65 = .ok (.ireturn, 1) := by decide +kernel
set_option maxRecDepth 100000 in
set_option maxHeartbeats 4000000 in
theorem r_commandsF {l : Launch} {g : Nat → Nat} {M : LH} (htr : l.stackTraces = false) {kd : Nat → Nat} {r m : Nat} {w : Nat → Nat} {ch ea fl sv bf tn he en ln wr dg : Int32} {v b4 sa pa fr th bs tx li lf to : Int32 → Int32} (hC : Md kd r M m w 0 ch ea fl sv bf tn he en ln wr dg v b4 sa pa fr th bs tx li lf to) (hG : Good v) (hdg0 : dg = 0) (e60 : en ≤ 60) : K_X12_commands l g 6 0 0 [.ref m] M (RI (fun x M9 => ∃ (lf9 to9 : Int32 → Int32) (e9 : Int32), ((∃ fu, scE tx en fu 0 e9 ∧ Md kd r M9 m w 0 ch ea fl sv bf tn e9 en ln 1 dg v b4 sa pa fr th bs tx li lf9 to9) ∨ (∃ cs, scG tx en cs 0 ∧ x = nI cs.length ∧ Md kd r M9 m w 0 ch ea fl sv bf tn e9 en ln 0 dg v b4 sa pa fr th bs tx li lf9 to9)) ∧ Frm kd r M M9) nX) := by
  refine Ko_X12_commands htr (fun X => ?_)
  obtain ⟨hMo, hw5, hw6, hw7, hw8, hw9, hw10, hw11, hw13, hw14, hw15, hw16, hw17, hw18, -⟩ := _root_.id hC
  have hF : Frm kd r M M := Frm.rf
  have kA : ∀ (M1 : LH) (e : Int32) (n : Nat) (lf1 to1 : Int32 → Int32), (∃ f, scE tx en f 0 e) → Md kd r M1 m w 0 ch ea fl sv bf tn e en ln 1 dg v b4 sa pa fr th bs tx li lf1 to1 → Frm kd r M M1 → V l g yX12_commands cX12_commands ((some .int)) [] 6 0 0 (RI (fun x M9 => ∃ (lf9 to9 : Int32 → Int32) (e9 : Int32), ((∃ fu, scE tx en fu 0 e9 ∧ Md kd r M9 m w 0 ch ea fl sv bf tn e9 en ln 1 dg v b4 sa pa fr th bs tx li lf9 to9) ∨ (∃ cs, scG tx en cs 0 ∧ x = nI cs.length ∧ Md kd r M9 m w 0 ch ea fl sv bf tn e9 en ln 0 dg v b4 sa pa fr th bs tx li lf9 to9)) ∧ Frm kd r M M9) nX) X M1 0 0 16 [some (.ref m), some (.int (nI n))] [] := by
    clear hC hF hMo hw5 hw6 hw7 hw8 hw9 hw10 hw11 hw13 hw14 hw15 hw16 hw17 hw18
    intro M1 e n lf1 to1 hE hC hF
    obtain ⟨hMo, hw5, hw6, hw7, hw8, hw9, hw10, hw11, hw13, hw14, hw15, hw16, hw17, hw18, -⟩ := _root_.id hC
    refine v_aload_n dX12_commands_16 rfl rfl ?_
    refine gf_X12_208 dX12_commands_17 rfl hMo ?_
    refine v_if_ne (tgt := 64) dX12_commands_20 (by decide) (fun h20 => ?_) (fun h20 => ?_)
    · refine v_iload_n dX12_commands_64 rfl rfl ?_
      exact v_iret dX12_commands_65 rfl ⟨_, _, _, Or.inl ⟨hE.choose, hE.choose_spec, hC⟩, hF⟩ (by omega) (by omega)
    · exact absurd h20 (by decide)
  have key : ∀ fu (M1 : LH) (e1 : Int32) (n : Nat) (lf1 to1 : Int32 → Int32), 61 ≤ fu + e1.toNatClampNeg → 0 ≤ e1 → e1 ≤ 60 → (∀ e f', (e1 < en ∧ ((¬ sgN tx en e1 = 59 ∧ e = e1) ∨ (sgN tx en e1 = 59 ∧ scE tx en f' (e1 + 1) e))) → ∃ f'', scE tx en f'' 0 e) → (∀ cs, ((cs = [] ∧ ¬ e1 < en) ∨ (e1 < en ∧ sgN tx en e1 = 59 ∧ scG tx en cs (e1 + 1))) → ∃ cs0, scG tx en cs0 0 ∧ cs0.length = n + cs.length) → Md kd r M1 m w 0 ch ea fl sv bf tn e1 en ln 0 dg v b4 sa pa fr th bs tx li lf1 to1 → Frm kd r M M1 → V l g yX12_commands cX12_commands ((some .int)) [] 6 0 0 (RI (fun x M9 => ∃ (lf9 to9 : Int32 → Int32) (e9 : Int32), ((∃ fu, scE tx en fu 0 e9 ∧ Md kd r M9 m w 0 ch ea fl sv bf tn e9 en ln 1 dg v b4 sa pa fr th bs tx li lf9 to9) ∨ (∃ cs, scG tx en cs 0 ∧ x = nI cs.length ∧ Md kd r M9 m w 0 ch ea fl sv bf tn e9 en ln 0 dg v b4 sa pa fr th bs tx li lf9 to9)) ∧ Frm kd r M M9) nX) X M1 0 0 16 [some (.ref m), some (.int (nI n))] [] := by
    clear hC hF hMo hw5 hw6 hw7 hw8 hw9 hw10 hw11 hw13 hw14 hw15 hw16 hw17 hw18
    intro fu
    induction fu with
    | zero =>
      intro M1 e1 n lf1 to1 hfu e0 e61
      have := tc_le e61
      exact absurd (Nat.le_trans (by omega : 61 ≤ e1.toNatClampNeg) this) (by decide)
    | succ fu ih =>
      intro M1 e1 n lf1 to1 hfu e0 e61 hE hGk hC hF
      obtain ⟨hMo, hw5, hw6, hw7, hw8, hw9, hw10, hw11, hw13, hw14, hw15, hw16, hw17, hw18, -⟩ := _root_.id hC
      refine v_aload_n dX12_commands_16 rfl rfl ?_
      refine gf_X12_208 dX12_commands_17 rfl hMo ?_
      refine v_if_ne (tgt := 64) dX12_commands_20 (by decide) (fun h20 => ?_) (fun h20 => ?_)
      · exact absurd rfl h20
      · refine v_aload_n dX12_commands_23 rfl rfl ?_
        refine gf_X12_56 dX12_commands_24 rfl hMo ?_
        refine v_if_ne (tgt := 64) dX12_commands_27 (by decide) (fun h27 => ?_) (fun h27 => ?_)
        · exact absurd rfl h27
        · refine v_aload_n dX12_commands_30 rfl rfl ?_
          refine gf_X12_202 dX12_commands_31 rfl hMo ?_
          refine v_aload_n dX12_commands_34 rfl rfl ?_
          refine gf_X12_205 dX12_commands_35 rfl hMo ?_
          refine v_icmp_ge (tgt := 64) dX12_commands_38 (by decide) (fun h38 => ?_) (fun h38 => ?_)
          · refine v_iload_n dX12_commands_64 rfl rfl ?_
            exact v_iret dX12_commands_65 rfl (by
        obtain ⟨cs0, q1, q2⟩ := hGk [] (Or.inl ⟨rfl, Int32.not_lt.mpr h38⟩)
        exact ⟨_, _, _, Or.inr ⟨cs0, q1, by rw [q2]; rfl, hC⟩, hF⟩) (by omega) (by omega)
          · have z0 := lt_60 e60 e0 (Int32.not_le.mp h38)
            obtain ⟨z1, z2, z3, -⟩ := z0
            refine v_aload_n dX12_commands_41 rfl rfl ?_
            refine v_bipush (v := (59)) dX12_commands_42 (by decide) ?_
            refine k_X12_215 dX12_commands_44 rfl (r_mark htr hC e0 e60 59) hMo (Nat.le_of_ble_eq_true rfl) (by omega) (by omega) (Nat.le_of_ble_eq_true rfl) (fun M9 h9 => ?_) (fun _ _ h9 => h9.elim)
            obtain ⟨h9, hF9⟩ := h9
            have hF := Frm.tr hF hF9
            rcases h9 with ⟨hw, -⟩ | ⟨-, hs, hC⟩ | ⟨-, hs, hC⟩
            · exact absurd rfl hw
            · obtain ⟨hMo, hw5, hw6, hw7, hw8, hw9, hw10, hw11, hw13, hw14, hw15, hw16, hw17, hw18, -⟩ := _root_.id hC
              refine v_aload_n dX12_commands_47 rfl rfl ?_
              refine gf_X12_208 dX12_commands_48 rfl hMo ?_
              refine v_if_ne (tgt := 58) dX12_commands_51 (by decide) (fun h51 => ?_) (fun h51 => ?_)
              · exact absurd rfl h51
              · refine v_aload_n dX12_commands_54 rfl rfl ?_
                refine k_X12_236 dX12_commands_55 rfl (r_command htr hC hG z1 z2 e60) hMo (Nat.le_of_ble_eq_true rfl) (by omega) (by omega) (Nat.le_of_ble_eq_true rfl) (fun M9 h9 => ?_) (fun _ _ h9 => h9.elim)
                obtain ⟨lf2, to2, e2, h9, hF9⟩ := h9
                have hF := Frm.tr hF hF9
                rcases h9 with ⟨hE9, hC⟩ | ⟨i, ns, hG9, hto, h9⟩
                · obtain ⟨hMo, hw5, hw6, hw7, hw8, hw9, hw10, hw11, hw13, hw14, hw15, hw16, hw17, hw18, -⟩ := _root_.id hC
                  refine v_iinc_1 dX12_commands_58 rfl ?_
                  refine v_goto (tgt := 16) dX12_commands_61 (by decide) ?_
                  rw [show nI n + Int32.ofInt 1 = nI (n + 1) from nI_1 n]
                  exact kA _ _ _ _ _ (hE _ 1 ⟨Int32.not_le.mp h38, Or.inr ⟨hs, Or.inl hE9⟩⟩) hC hF
                · rcases h9 with ⟨-, hC⟩ | ⟨hdg, -⟩
                  · obtain ⟨hMo, hw5, hw6, hw7, hw8, hw9, hw10, hw11, hw13, hw14, hw15, hw16, hw17, hw18, -⟩ := _root_.id hC
                    refine v_iinc_1 dX12_commands_58 rfl ?_
                    refine v_goto (tgt := 16) dX12_commands_61 (by decide) ?_
                    rw [show nI n + Int32.ofInt 1 = nI (n + 1) from nI_1 n]
                    obtain ⟨x1, x0, x3, x4⟩ := cmG_lt z1 z2 e60 hG9
                    refine ih _ _ _ _ _ (by have := tc_le x1; rw [show e1 + 1 + 1 = (e1 + 1) + 1 from rfl, tc_1 z1 (show e1 + 1 < 61 by clear ih hE hGk hC hF hMo; lia)] at this; omega) x0 x3 (fun e f' q => hE e (f' + 1) ⟨Int32.not_le.mp h38, Or.inr ⟨hs, Or.inr ⟨i, _, ns, hG9, q⟩⟩⟩) (fun cs q => ?_) hC hF
                    obtain ⟨cs0, q1, q2⟩ := hGk ((i, ns) :: cs) (Or.inr ⟨Int32.not_le.mp h38, hs, _, hG9, q⟩)
                    exact ⟨cs0, q1, by rw [q2, List.length_cons]; omega⟩
                  · exact absurd hdg0 hdg
            · obtain ⟨hMo, hw5, hw6, hw7, hw8, hw9, hw10, hw11, hw13, hw14, hw15, hw16, hw17, hw18, -⟩ := _root_.id hC
              refine v_aload_n dX12_commands_47 rfl rfl ?_
              refine gf_X12_208 dX12_commands_48 rfl hMo ?_
              refine v_if_ne (tgt := 58) dX12_commands_51 (by decide) (fun h51 => ?_) (fun h51 => ?_)
              · refine v_iinc_1 dX12_commands_58 rfl ?_
                refine v_goto (tgt := 16) dX12_commands_61 (by decide) ?_
                rw [show nI n + Int32.ofInt 1 = nI (n + 1) from nI_1 n]
                exact kA _ _ _ _ _ (hE _ 0 ⟨Int32.not_le.mp h38, Or.inl ⟨hs, rfl⟩⟩) hC hF
              · exact absurd h51 (by decide)
  refine v_aload_n dX12_commands_0 rfl rfl ?_
  refine v_iconst (v := 0) dX12_commands_1 (by decide) ?_
  refine pf_X12_202 dX12_commands_2 rfl hMo ?_
  refine V.md (Md.sc hC) (Frm.tr hF (Frm.up (hC.kd_sc))) (fun M1 hC hF => ?_)
  obtain ⟨hMo, hw5, hw6, hw7, hw8, hw9, hw10, hw11, hw13, hw14, hw15, hw16, hw17, hw18, -⟩ := _root_.id hC
  refine v_aload_n dX12_commands_5 rfl rfl ?_
  refine v_iconst (v := 0) dX12_commands_6 (by decide) ?_
  refine pf_X12_208 dX12_commands_7 rfl (by first | rfl | assumption) (by first | rfl | assumption) hMo ?_
  refine V.md (Md.sc hC) (Frm.tr hF (Frm.up (hC.kd_sc))) (fun M1 hC hF => ?_)
  obtain ⟨hMo, hw5, hw6, hw7, hw8, hw9, hw10, hw11, hw13, hw14, hw15, hw16, hw17, hw18, -⟩ := _root_.id hC
  refine v_iconst (v := 1) dX12_commands_10 (by decide) ?_
  refine v_istore_1 dX12_commands_11 ?_
  refine v_aload_n dX12_commands_12 rfl rfl ?_
  refine k_X12_236 dX12_commands_13 rfl (r_command htr hC hG (Int32.le_refl _) (by decide) e60) hMo (Nat.le_of_ble_eq_true rfl) (by omega) (by omega) (Nat.le_of_ble_eq_true rfl) (fun M9 h9 => ?_) (fun _ _ h9 => h9.elim)
  obtain ⟨lf2, to2, e2, h9, hF9⟩ := h9
  have hF := Frm.tr hF hF9
  rcases h9 with ⟨hE9, hC⟩ | ⟨i, ns, hG9, hto, h9⟩
  · exact kA _ _ 1 _ _ ⟨1, Or.inl hE9⟩ hC hF
  · rcases h9 with ⟨-, hC⟩ | ⟨hdg, -⟩
    · obtain ⟨x1, x0, x3, x4⟩ := cmG_lt (Int32.le_refl _) (by decide) e60 hG9
      exact key 61 _ _ 1 _ _ (by omega) x0 x3 (fun e f' q => ⟨f' + 1, Or.inr ⟨i, _, ns, hG9, q⟩⟩) (fun cs q => ⟨(i, ns) :: cs, ⟨_, hG9, q⟩, by rw [List.length_cons]; omega⟩) hC hF
    · exact absurd hdg0 hdg
set_option maxRecDepth 100000 in
set_option maxHeartbeats 4000000 in
theorem r_commandsD {l : Launch} {g : Nat → Nat} {M : LH} (htr : l.stackTraces = false) {kd : Nat → Nat} {r m : Nat} {w : Nat → Nat} {ch ea fl sv bf tn he en ln wr dg : Int32} {v b4 sa pa fr th bs tx li lf to : Int32 → Int32} (hC : Md kd r M m w 0 ch ea fl sv bf tn he en ln wr dg v b4 sa pa fr th bs tx li lf to) (hGd : Good v) (hdg0 : ¬ dg = 0) (e60 : en ≤ 60) {cs0 : List (Nat × List Int32)} (hsc : scG tx en cs0 0) (h4 : (v 4).toInt + (cs0.length : Int) < 1000000) : K_X12_commands l g 6 0 0 [.ref m] M (RI (fun x M9 => ∃ (lf9 to9 : Int32 → Int32) (e9 t9 b9 : Int32) (v9 f9 h9 : Int32 → Int32), ((rnG cs0 v v9 ∧ x = nI cs0.length ∧ t9 = 0) ∨ (∃ k, rnB cs0 v k ∧ x = nI (k + 1) ∧ ¬ t9 = 0)) ∧ Md kd r M9 m w t9 ch ea fl sv b9 tn e9 en ln 0 dg v9 b4 sa pa f9 h9 bs tx li lf9 to9 ∧ Frm kd r M M9) nX) := by
  refine Ko_X12_commands htr (fun X => ?_)
  obtain ⟨hMo, hw5, hw6, hw7, hw8, hw9, hw10, hw11, hw13, hw14, hw15, hw16, hw17, hw18, -⟩ := _root_.id hC
  have hF : Frm kd r M M := Frm.rf
  have kC : ∀ (M1 : LH) (e1 t1 b1 : Int32) (n : Nat) (lf1 to1 v1 f1 h1 : Int32 → Int32), rnB cs0 v n → ¬ t1 = 0 → Md kd r M1 m w t1 ch ea fl sv b1 tn e1 en ln 0 dg v1 b4 sa pa f1 h1 bs tx li lf1 to1 → Frm kd r M M1 → V l g yX12_commands cX12_commands ((some .int)) [] 6 0 0 (RI (fun x M9 => ∃ (lf9 to9 : Int32 → Int32) (e9 t9 b9 : Int32) (v9 f9 h9 : Int32 → Int32), ((rnG cs0 v v9 ∧ x = nI cs0.length ∧ t9 = 0) ∨ (∃ k, rnB cs0 v k ∧ x = nI (k + 1) ∧ ¬ t9 = 0)) ∧ Md kd r M9 m w t9 ch ea fl sv b9 tn e9 en ln 0 dg v9 b4 sa pa f9 h9 bs tx li lf9 to9 ∧ Frm kd r M M9) nX) X M1 0 0 16 [some (.ref m), some (.int (nI (n + 1)))] [] := by
    clear hC hF hMo hw5 hw6 hw7 hw8 hw9 hw10 hw11 hw13 hw14 hw15 hw16 hw17 hw18
    intro M1 e1 t1 b1 n lf1 to1 v1 f1 h1 hB ht hC hF
    obtain ⟨hMo, hw5, hw6, hw7, hw8, hw9, hw10, hw11, hw13, hw14, hw15, hw16, hw17, hw18, -⟩ := _root_.id hC
    refine v_aload_n dX12_commands_16 rfl rfl ?_
    refine gf_X12_208 dX12_commands_17 rfl hMo ?_
    refine v_if_ne (tgt := 64) dX12_commands_20 (by decide) (fun h20 => ?_) (fun h20 => ?_)
    · exact absurd rfl h20
    · refine v_aload_n dX12_commands_23 rfl rfl ?_
      refine gf_X12_56 dX12_commands_24 rfl hMo ?_
      refine v_if_ne (tgt := 64) dX12_commands_27 (by decide) (fun h27 => ?_) (fun h27 => ?_)
      · refine v_iload_n dX12_commands_64 rfl rfl ?_
        exact v_iret dX12_commands_65 rfl ⟨_, _, _, _, _, _, _, _, Or.inr ⟨n, hB, rfl, ht⟩, hC, hF⟩ (by omega) (by omega)
      · exact absurd h27 ht
  have key : ∀ (rs : List (Nat × List Int32)) (M1 : LH) (e1 b1 : Int32) (n : Nat) (lf1 to1 v1 f1 h1 : Int32 → Int32), Good v1 → (v1 4).toInt + (rs.length : Int) < 1000000 → 0 ≤ e1 → e1 ≤ 60 → ((rs = [] ∧ ¬ e1 < en) ∨ (e1 < en ∧ sgN tx en e1 = 59 ∧ scG tx en rs (e1 + 1))) → (∀ v9, rnG rs v1 v9 → rnG cs0 v v9) → (∀ k, rnB rs v1 k → rnB cs0 v (n + k)) → n + rs.length = cs0.length → Md kd r M1 m w 0 ch ea fl sv b1 tn e1 en ln 0 dg v1 b4 sa pa f1 h1 bs tx li lf1 to1 → Frm kd r M M1 → V l g yX12_commands cX12_commands ((some .int)) [] 6 0 0 (RI (fun x M9 => ∃ (lf9 to9 : Int32 → Int32) (e9 t9 b9 : Int32) (v9 f9 h9 : Int32 → Int32), ((rnG cs0 v v9 ∧ x = nI cs0.length ∧ t9 = 0) ∨ (∃ k, rnB cs0 v k ∧ x = nI (k + 1) ∧ ¬ t9 = 0)) ∧ Md kd r M9 m w t9 ch ea fl sv b9 tn e9 en ln 0 dg v9 b4 sa pa f9 h9 bs tx li lf9 to9 ∧ Frm kd r M M9) nX) X M1 0 0 16 [some (.ref m), some (.int (nI n))] [] := by
    clear hC hF hMo hw5 hw6 hw7 hw8 hw9 hw10 hw11 hw13 hw14 hw15 hw16 hw17 hw18
    intro rs
    induction rs with
    | nil =>
      intro M1 e1 b1 n lf1 to1 v1 f1 h1 hGd h4 e0 e61 hrs hOK hB hlen hC hF
      obtain ⟨hMo, hw5, hw6, hw7, hw8, hw9, hw10, hw11, hw13, hw14, hw15, hw16, hw17, hw18, -⟩ := _root_.id hC
      rcases hrs with ⟨-, hend⟩ | ⟨-, -, z⟩
      · obtain rfl : n = cs0.length := hlen
        refine v_aload_n dX12_commands_16 rfl rfl ?_
        refine gf_X12_208 dX12_commands_17 rfl hMo ?_
        refine v_if_ne (tgt := 64) dX12_commands_20 (by decide) (fun h20 => ?_) (fun h20 => ?_)
        · exact absurd rfl h20
        · refine v_aload_n dX12_commands_23 rfl rfl ?_
          refine gf_X12_56 dX12_commands_24 rfl hMo ?_
          refine v_if_ne (tgt := 64) dX12_commands_27 (by decide) (fun h27 => ?_) (fun h27 => ?_)
          · exact absurd rfl h27
          · refine v_aload_n dX12_commands_30 rfl rfl ?_
            refine gf_X12_202 dX12_commands_31 rfl hMo ?_
            refine v_aload_n dX12_commands_34 rfl rfl ?_
            refine gf_X12_205 dX12_commands_35 rfl hMo ?_
            refine v_icmp_ge (tgt := 64) dX12_commands_38 (by decide) (fun h38 => ?_) (fun h38 => ?_)
            · refine v_iload_n dX12_commands_64 rfl rfl ?_
              exact v_iret dX12_commands_65 rfl ⟨_, _, _, _, _, _, _, _, Or.inl ⟨hOK _ rfl, rfl, rfl⟩, hC, hF⟩ (by omega) (by omega)
            · exact absurd (Int32.not_lt.mp hend) h38
      · exact z.elim
    | cons c rs ih =>
      intro M1 e1 b1 n lf1 to1 v1 f1 h1 hGd h4 e0 e61 hrs hOK hB hlen hC hF
      obtain ⟨hMo, hw5, hw6, hw7, hw8, hw9, hw10, hw11, hw13, hw14, hw15, hw16, hw17, hw18, -⟩ := _root_.id hC
      rw [List.length_cons] at h4 hlen
      replace ih := fun M1 e1 b1 lf1 to1 v1 f1 h1 (q : Good v1) (q2 : (v1 4).toInt + (rs.length : Int) < 1000000) => ih M1 e1 b1 (n + 1) lf1 to1 v1 f1 h1 q q2
      obtain ⟨hlt, hs59, e3, hGc, hrs⟩ := hrs.resolve_left (fun z => absurd z.1 (by simp))
      refine v_aload_n dX12_commands_16 rfl rfl ?_
      refine gf_X12_208 dX12_commands_17 rfl hMo ?_
      refine v_if_ne (tgt := 64) dX12_commands_20 (by decide) (fun h20 => ?_) (fun h20 => ?_)
      · exact absurd rfl h20
      · refine v_aload_n dX12_commands_23 rfl rfl ?_
        refine gf_X12_56 dX12_commands_24 rfl hMo ?_
        refine v_if_ne (tgt := 64) dX12_commands_27 (by decide) (fun h27 => ?_) (fun h27 => ?_)
        · exact absurd rfl h27
        · refine v_aload_n dX12_commands_30 rfl rfl ?_
          refine gf_X12_202 dX12_commands_31 rfl hMo ?_
          refine v_aload_n dX12_commands_34 rfl rfl ?_
          refine gf_X12_205 dX12_commands_35 rfl hMo ?_
          refine v_icmp_ge (tgt := 64) dX12_commands_38 (by decide) (fun h38 => ?_) (fun h38 => ?_)
          · exact absurd h38 (Int32.not_le.mpr hlt)
          · have z0 := lt_60 e60 e0 hlt
            obtain ⟨z1, z2, z3, -⟩ := z0
            obtain ⟨x1, x0, x3, x4⟩ := cmG_lt z1 z2 e60 hGc
            refine v_aload_n dX12_commands_41 rfl rfl ?_
            refine v_bipush (v := (59)) dX12_commands_42 (by decide) ?_
            refine k_X12_215 dX12_commands_44 rfl (r_mark htr hC e0 e60 59) hMo (Nat.le_of_ble_eq_true rfl) (by omega) (by omega) (Nat.le_of_ble_eq_true rfl) (fun M9 h9 => ?_) (fun _ _ h9 => h9.elim)
            obtain ⟨h9, hF9⟩ := h9
            have hF := Frm.tr hF hF9
            rcases h9 with ⟨hw, -⟩ | ⟨-, hs, hC⟩ | ⟨-, hs, hC⟩
            · exact absurd rfl hw
            · obtain ⟨hMo, hw5, hw6, hw7, hw8, hw9, hw10, hw11, hw13, hw14, hw15, hw16, hw17, hw18, -⟩ := _root_.id hC
              refine v_aload_n dX12_commands_47 rfl rfl ?_
              refine gf_X12_208 dX12_commands_48 rfl hMo ?_
              refine v_if_ne (tgt := 58) dX12_commands_51 (by decide) (fun h51 => ?_) (fun h51 => ?_)
              · exact absurd rfl h51
              · refine v_aload_n dX12_commands_54 rfl rfl ?_
                refine k_X12_236 dX12_commands_55 rfl (r_command htr hC hGd z1 z2 e60) hMo (Nat.le_of_ble_eq_true rfl) (by omega) (by omega) (Nat.le_of_ble_eq_true rfl) (fun M9 h9 => ?_) (fun _ _ h9 => h9.elim)
                obtain ⟨lf2, to2, e2, h9, hF9⟩ := h9
                have hF := Frm.tr hF hF9
                rcases h9 with ⟨hE9, hC⟩ | ⟨i, ns, hG9, hto, h9⟩
                · exact (cm_ex z1 z2 e60 hGc hE9).elim
                · obtain ⟨rfl, rfl, rfl⟩ := cm_un hG9 hGc
                  rcases h9 with ⟨hdg, -⟩ | ⟨-, ⟨hok, v2, x9, b2, f2, h2, hdd, hC⟩ | ⟨hok, t9, f2, ht9, hC⟩⟩
                  · exact absurd hdg hdg0
                  · obtain ⟨hMo, hw5, hw6, hw7, hw8, hw9, hw10, hw11, hw13, hw14, hw15, hw16, hw17, hw18, -⟩ := _root_.id hC
                    refine v_iinc_1 dX12_commands_58 rfl ?_
                    refine v_goto (tgt := 16) dX12_commands_61 (by decide) ?_
                    rw [show nI n + Int32.ofInt 1 = nI (n + 1) from nI_1 n]
                    have ho := (ok_ns (σ := v1) hG9.1 hto).1.mp hok
                    have hd := ((ok_ns (σ := v1) hG9.1 hto).2 _ _).mp hdd
                    obtain ⟨q1, q2, q3⟩ := dd_ok hG9.1 hGd (dd_4 (n := rs.length) hGd h4 (Or.inl rfl)).2.1 ho hd
                    exact ih _ _ _ _ _ _ _ _ q1 (dd_4 hGd h4 q3).1 x0 x3 hrs (fun v9 q => hOK v9 ⟨ho, _, _, hd, q⟩) (fun k q => by rw [Nat.add_right_comm]; exact hB (k + 1) (Or.inr ⟨ho, _, _, hd, k, rfl, q⟩)) (by omega) hC hF
                  · obtain ⟨hMo, hw5, hw6, hw7, hw8, hw9, hw10, hw11, hw13, hw14, hw15, hw16, hw17, hw18, -⟩ := _root_.id hC
                    refine v_iinc_1 dX12_commands_58 rfl ?_
                    refine v_goto (tgt := 16) dX12_commands_61 (by decide) ?_
                    rw [show nI n + Int32.ofInt 1 = nI (n + 1) from nI_1 n]
                    exact kC _ _ _ _ _ _ _ _ _ _ (hB 0 (Or.inl ⟨fun z => hok ((ok_ns hG9.1 hto).1.mpr z), rfl⟩)) ht9 hC hF
            · exact absurd hs59 hs
  obtain ⟨c, rs, hcs⟩ : ∃ c rs, cs0 = c :: rs := by
    cases cs0 with
    | nil => exact hsc.elim
    | cons c rs => exact ⟨c, rs, rfl⟩
  subst hcs
  rw [List.length_cons] at h4
  obtain ⟨e3, hGc, hrs⟩ := hsc
  obtain ⟨x1, x0, x3, x4⟩ := cmG_lt (Int32.le_refl _) (by decide) e60 hGc
  refine v_aload_n dX12_commands_0 rfl rfl ?_
  refine v_iconst (v := 0) dX12_commands_1 (by decide) ?_
  refine pf_X12_202 dX12_commands_2 rfl hMo ?_
  refine V.md (Md.sc hC) (Frm.tr hF (Frm.up (hC.kd_sc))) (fun M1 hC hF => ?_)
  obtain ⟨hMo, hw5, hw6, hw7, hw8, hw9, hw10, hw11, hw13, hw14, hw15, hw16, hw17, hw18, -⟩ := _root_.id hC
  refine v_aload_n dX12_commands_5 rfl rfl ?_
  refine v_iconst (v := 0) dX12_commands_6 (by decide) ?_
  refine pf_X12_208 dX12_commands_7 rfl (by first | rfl | assumption) (by first | rfl | assumption) hMo ?_
  refine V.md (Md.sc hC) (Frm.tr hF (Frm.up (hC.kd_sc))) (fun M1 hC hF => ?_)
  obtain ⟨hMo, hw5, hw6, hw7, hw8, hw9, hw10, hw11, hw13, hw14, hw15, hw16, hw17, hw18, -⟩ := _root_.id hC
  refine v_iconst (v := 1) dX12_commands_10 (by decide) ?_
  refine v_istore_1 dX12_commands_11 ?_
  refine v_aload_n dX12_commands_12 rfl rfl ?_
  refine k_X12_236 dX12_commands_13 rfl (r_command htr hC hGd (Int32.le_refl _) (by decide) e60) hMo (Nat.le_of_ble_eq_true rfl) (by omega) (by omega) (Nat.le_of_ble_eq_true rfl) (fun M9 h9 => ?_) (fun _ _ h9 => h9.elim)
  obtain ⟨lf2, to2, e2, h9, hF9⟩ := h9
  have hF := Frm.tr hF hF9
  rcases h9 with ⟨hE9, hC⟩ | ⟨i, ns, hG9, hto, h9⟩
  · exact (cm_ex (Int32.le_refl _) (by decide) e60 hGc hE9).elim
  · obtain ⟨rfl, rfl, rfl⟩ := cm_un hG9 hGc
    rcases h9 with ⟨hdg, -⟩ | ⟨-, ⟨hok, v2, x9, b2, f2, h2, hdd, hC⟩ | ⟨hok, t9, f2, ht9, hC⟩⟩
    · exact absurd hdg hdg0
    · have ho := (ok_ns (σ := v) hG9.1 hto).1.mp hok
      have hd := ((ok_ns (σ := v) hG9.1 hto).2 _ _).mp hdd
      obtain ⟨q1, q2, q3⟩ := dd_ok hG9.1 hGd (dd_4 (n := rs.length) hGd h4 (Or.inl rfl)).2.1 ho hd
      exact key rs _ _ _ 1 _ _ _ _ _ q1 (dd_4 hGd h4 q3).1 x0 x3 hrs (fun v9 q => ⟨ho, _, _, hd, q⟩) (fun k q => Or.inr ⟨ho, _, _, hd, k, by omega, q⟩) (by rw [List.length_cons]; omega) hC hF
    · exact kC _ _ _ _ 0 _ _ _ _ _ (Or.inl ⟨fun z => hok ((ok_ns hG9.1 hto).1.mpr z), rfl⟩) ht9 hC hF
