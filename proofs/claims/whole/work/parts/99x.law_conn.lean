/-! ===== the law: are they connected ===== -/
theorem dL_law_1045 : decode cL_law 1045 = .ok (.aload_n 1, 1) := by decide +kernel
theorem dL_law_1046 : decode cL_law 1046 = .ok (.aload_n 0, 1) := by decide +kernel
theorem dL_law_1047 : decode cL_law 1047 = .ok (.iload 5, 2) := by decide +kernel
theorem dL_law_1049 : decode cL_law 1049 = .ok (.iconst 1, 1) := by decide +kernel
theorem dL_law_1050 : decode cL_law 1050 = .ok (.iadd, 1) := by decide +kernel
theorem dL_law_1051 : decode cL_law 1051 = .ok (.iaload, 1) := by decide +kernel
theorem dL_law_1052 : decode cL_law 1052 = .ok (.aload_n 0, 1) := by decide +kernel
theorem dL_law_1053 : decode cL_law 1053 = .ok (.iload 5, 2) := by decide +kernel
theorem dL_law_1055 : decode cL_law 1055 = .ok (.iconst 2, 1) := by decide +kernel
theorem dL_law_1056 : decode cL_law 1056 = .ok (.iadd, 1) := by decide +kernel
theorem dL_law_1057 : decode cL_law 1057 = .ok (.iaload, 1) := by decide +kernel
theorem dL_law_1058 : decode cL_law 1058 = .ok (.aload_n 3, 1) := by decide +kernel
theorem dL_law_1059 : decode cL_law 1059 = .ok (.invokestatic 230, 3) := by decide +kernel
theorem dL_law_1062 : decode cL_law 1062 = .ok (.istore 6, 2) := by decide +kernel
theorem dL_law_1064 : decode cL_law 1064 = .ok (.aload_n 2, 1) := by decide +kernel
theorem dL_law_1065 : decode cL_law 1065 = .ok (.aload_n 0, 1) := by decide +kernel
theorem dL_law_1066 : decode cL_law 1066 = .ok (.iload 5, 2) := by decide +kernel
theorem dL_law_1068 : decode cL_law 1068 = .ok (.iconst 1, 1) := by decide +kernel
theorem dL_law_1069 : decode cL_law 1069 = .ok (.iadd, 1) := by decide +kernel
theorem dL_law_1070 : decode cL_law 1070 = .ok (.iaload, 1) := by decide +kernel
theorem dL_law_1071 : decode cL_law 1071 = .ok (.aload_n 0, 1) := by decide +kernel
theorem dL_law_1072 : decode cL_law 1072 = .ok (.iload 5, 2) := by decide +kernel
theorem dL_law_1074 : decode cL_law 1074 = .ok (.iconst 2, 1) := by decide +kernel
theorem dL_law_1075 : decode cL_law 1075 = .ok (.iadd, 1) := by decide +kernel
theorem dL_law_1076 : decode cL_law 1076 = .ok (.iaload, 1) := by decide +kernel
theorem dL_law_1077 : decode cL_law 1077 = .ok (.invokevirtual 232, 3) := by decide +kernel
theorem dL_law_1080 : decode cL_law 1080 = .ok (.istore 7, 2) := by decide +kernel
theorem dL_law_1082 : decode cL_law 1082 = .ok (.aload_n 2, 1) := by decide +kernel
theorem dL_law_1083 : decode cL_law 1083 = .ok (.invokevirtual 189, 3) := by decide +kernel
theorem dL_law_1086 : decode cL_law 1086 = .ok (.iload 6, 2) := by decide +kernel
theorem dL_law_1088 : decode cL_law 1088 = .ok (.if_icmp .eq 5, 3) := by decide +kernel
theorem dL_law_1091 : decode cL_law 1091 = .ok (.iconst 0, 1) := by decide +kernel
theorem dL_law_1092 : decode cL_law 1092 = .ok (.ireturn, 1) := by decide +kernel
theorem dL_law_1093 : decode cL_law 1093 = .ok (.iload 6, 2) := by decide +kernel
theorem dL_law_1095 : decode cL_law 1095 = .ok (.ifCond .ne 22, 3) := by decide +kernel
theorem dL_law_1098 : decode cL_law 1098 = .ok (.aload_n 3, 1) := by decide +kernel
theorem dL_law_1099 : decode cL_law 1099 = .ok (.iconst 0, 1) := by decide +kernel
theorem dL_law_1100 : decode cL_law 1100 = .ok (.laload, 1) := by decide +kernel
theorem dL_law_1101 : decode cL_law 1101 = .ok (.iload 7, 2) := by decide +kernel
theorem dL_law_1103 : decode cL_law 1103 = .ok (.ifCond .eq 7, 3) := by decide +kernel
theorem dL_law_1106 : decode cL_law 1106 = .ok (.lconst 1, 1) := by decide +kernel
theorem dL_law_1107 : decode cL_law 1107 = .ok (.goto 4, 3) := by decide +kernel
theorem dL_law_1110 : decode cL_law 1110 = .ok (.lconst 0, 1) := by decide +kernel
theorem dL_law_1111 : decode cL_law 1111 = .ok (.lcmp, 1) := by decide +kernel
theorem dL_law_1112 : decode cL_law 1112 = .ok (.ifCond .eq 5, 3) := by decide +kernel
theorem dL_law_1115 : decode cL_law 1115 = .ok (.iconst 0, 1) := by decide +kernel
theorem dL_law_1116 : decode cL_law 1116 = .ok (.ireturn, 1) := by decide +kernel
theorem dL_law_1117 : decode cL_law 1117 = .ok (.goto 2203, 3) := by decide +kernel
set_option maxRecDepth 100000 in
set_option maxHeartbeats 4000000 in
theorem law_12 {l : Launch} {g : Nat → Nat} {nm ds : String} {tb : List ExceptionTableEntry} {L mc ms : Nat} {Po : Res → LH → Prop} {X : CX} {M : LH} {k0 n0 : Nat} (htr : l.stackTraces = false) {b SN : Nat} {xs : Nat → Int32} (hX : Sc b SN xs X) {kd : Nat → Nat} {p : Nat} {q a : Nat → Nat} {e8 : Int32 → Nat} {v : Int32 → Int32} {sv : Int32} {sa : Int32 → Int32} {ch : Int32} {pa tx : Int32 → Int32} {tn : Int32} {Ls : List Int32} {ea fl : Int32} {m : Nat} {w : Nat → Nat} {t bf he en wr dg : Int32} {b4 fr th bs li lf to : Int32 → Int32} {out outD : Nat} {N : Nat} (hP : Pg kd M p q a e8 v sv sa ch pa tx tn Ls ea fl) (hM : Md kd 30 M m w t ch ea fl sv bf tn he en (nI Ls.length) wr dg v b4 sa pa fr th bs tx li lf to) (hS : Lw N v sv sa ch pa tn Ls ea fl li) (hN : N ≤ 512) {h0 : Nat → Int64} (hO : M out = some (la 1 h0)) (ko : kd out = 31) {h2 : Nat → UInt64} (hO2 : M outD = some (da 1 h2)) (ko2 : kd outD = 31) {i : Int32} (hi : ∀ j : Int32, 1 ≤ j → j ≤ 5 → 0 ≤ i + j ∧ (i + j).toNatClampNeg < SN) (hL : 30 ≤ L) (hk : k0 + 8 ≤ mc) (hn : n0 + 600 ≤ ms) {z6 z7 z8 : Option Value} (kk : ∀ (M' : LH) (z6 z7 z8 : Option Value), LI p m out outD (N + 1) M' → V l g ⟨"SledgePostLaw", nm, ds⟩ cL_law (some .boolean) tb L mc ms Po X M' (k0 + 8) (n0 + 600) 3320 [some (.ref b), some (.ref p), some (.ref m), some (.ref out), some (.ref outD), some (.int i), z6, z7, z8] []) : V l g ⟨"SledgePostLaw", nm, ds⟩ cL_law (some .boolean) tb L mc ms Po X M k0 n0 1045 [some (.ref b), some (.ref p), some (.ref m), some (.ref out), some (.ref outD), some (.int i), z6, z7, z8] [] := by
  obtain ⟨hG, hSy, hv4⟩ := hS.1
  obtain ⟨-, -, -, -, ⟨tn0, tn60⟩, ⟨ea1, fl1⟩, ⟨hTl, hLs⟩, c0, c8⟩ := _root_.id hS
  obtain ⟨h461, h46⟩ := hS.1.r hN
  obtain ⟨hs0, old0, ⟨hpO, -⟩, -⟩ := _root_.id hP
  refine v_aload_n dL_law_1045 rfl rfl ?_
  refine v_aload_n dL_law_1046 rfl rfl ?_
  refine v_iload dL_law_1047 rfl ?_
  refine v_iconst (v := 1) dL_law_1049 (by decide) ?_
  refine v_iadd dL_law_1050 ?_
  refine v_sld hX dL_law_1051 (hi 1 (by decide) (by decide)).1 (hi 1 (by decide) (by decide)).2 ?_
  refine v_aload_n dL_law_1052 rfl rfl ?_
  refine v_iload dL_law_1053 rfl ?_
  refine v_iconst (v := 2) dL_law_1055 (by decide) ?_
  refine v_iadd dL_law_1056 ?_
  refine v_sld hX dL_law_1057 (hi 2 (by decide) (by decide)).1 (hi 2 (by decide) (by decide)).2 ?_
  refine v_aload_n dL_law_1058 rfl rfl ?_
  refine kl_230 dL_law_1059 rfl (w_L_areConnected htr (f_areConnected htr hP (xs (i + 1).toNatClampNeg) (xs (i + 2).toNatClampNeg)) hpO (fun r M9 h9 => ⟨_, (h9.2.2.2 out (by rw [ko]; decide)).trans hO⟩) (fun E M9 h9 => h9.2.1)) (by omega) (by omega) (by omega) (Nat.le_of_ble_eq_true rfl) (fun r9 M9 h9 => ?_) (fun _ _ h9 => h9.elim)
  rcases h9 with ⟨rfl, r, M8, h8, ⟨hc, ⟨bb, hb1, rfl⟩, hP8, hF8⟩, hh, rfl⟩ | ⟨E, ⟨hc, hE0, hP8, hF8⟩, hE⟩
  · skip
    have f31 : Fs kd (fun r => r = 31) M8 (hup M8 out (la 1 h8)) := fun x hx => hup_n (fun z => hx (by rw [z]; exact ko))
    have hP9 := hP8.fs f31 (fun r h => by omega)
    have hM9 := (hM.tp (hF8.t 30 (Nat.le_refl _))).tp (f31.tp (by decide))
    have hO9 := up_k (e' := la 1 h8) ((hF8 outD (by rw [ko2]; decide)).trans hO2) ((hF8 out (by rw [ko]; decide)).trans hO) da_la
    refine v_istore_6 dL_law_1062 ?_
    refine v_aload_n dL_law_1064 rfl rfl ?_
    refine v_aload_n dL_law_1065 rfl rfl ?_
    refine v_iload dL_law_1066 rfl ?_
    refine v_iconst (v := 1) dL_law_1068 (by decide) ?_
    refine v_iadd dL_law_1069 ?_
    refine v_sld hX dL_law_1070 (hi 1 (by decide) (by decide)).1 (hi 1 (by decide) (by decide)).2 ?_
    refine v_aload_n dL_law_1071 rfl rfl ?_
    refine v_iload dL_law_1072 rfl ?_
    refine v_iconst (v := 2) dL_law_1074 (by decide) ?_
    refine v_iadd dL_law_1075 ?_
    refine v_sld hX dL_law_1076 (hi 2 (by decide) (by decide)).1 (hi 2 (by decide) (by decide)).2 ?_
    refine k_L_232 dL_law_1077 rfl (r_areConnected htr hM9 hG (xs (i + 1).toNatClampNeg) (xs (i + 2).toNatClampNeg)) hM9.1 (by omega) (by omega) (by omega) (Nat.le_of_ble_eq_true rfl) (fun r1077 M9 h9 => ?_) (fun _ _ h9 => h9.elim)
    obtain ⟨y0, h9, hF9⟩ := h9
    rcases h9 with ⟨-, ⟨b2, hb2, rfl⟩, hC⟩ | ⟨hn, -⟩
    rotate_left
    · exact absurd hc hn
    obtain rfl := hb1.uniq hb2
    have hOA := LR1 (kd := kd) hup_s ko hF9
    have hOD := LR1 hO9 ko2 hF9
    refine v_istore_7 dL_law_1080 ?_
    refine v_aload_n dL_law_1082 rfl rfl ?_
    refine k_L_189 dL_law_1083 rfl (r_thrown htr hC) hC.1 (by omega) (by omega) (by omega) (Nat.le_of_ble_eq_true rfl) (fun r1083 M9 h9 => ?_) (fun _ _ h9 => h9.elim)
    obtain ⟨rfl, e9⟩ := h9
    subst M9
    refine v_iload dL_law_1086 rfl ?_
    refine v_icmp_eq (tgt := 1093) dL_law_1088 (by decide) (fun h1088 => ?_) (fun h1088 => ?_)
    · refine v_iload dL_law_1093 rfl ?_
      refine v_if_ne (tgt := 1117) dL_law_1095 (by decide) (fun h1095 => ?_) (fun h1095 => ?_)
      · exact absurd rfl h1095
      · refine v_aload_n dL_law_1098 rfl rfl ?_
        refine v_iconst (v := 0) dL_law_1099 (by decide) ?_
        refine v_lald dL_law_1100 hOA ?_
        refine v_iload dL_law_1101 rfl ?_
        refine v_if_eq (tgt := 1110) dL_law_1103 (by decide) (fun h1103 => ?_) (fun h1103 => ?_)
        · refine v_lconst (v := 0) dL_law_1110 (by decide) ?_
          refine v_lcmp dL_law_1111 ?_
          rw [hh]
          first | rw [if_pos h1103, lg_self] | rw [if_neg h1103, lg_self]
          refine v_if_eq (tgt := 1117) dL_law_1112 (by decide) (fun h1112 => ?_) (fun h1112 => ?_)
          · refine v_goto (tgt := 3320) dL_law_1117 (by decide) ?_
            refine V.wid (k' := k0 + 8) (n' := n0 + 600) (by omega) (by omega) (kk _ _ _ _ ?_)
            exact ⟨kd, q, a, e8, v, _, sa, _, pa, tx, tn, Ls, _, _, w, _, _, _, _, _, _, _, _, _, _, _, _, _, (hP9.fs (Frm.fs (S := fun r => r = 30) hF9 rfl) (fun r h => by omega)), hC, hS.up, ⟨⟨_, hOA⟩, ko⟩, ⟨_, hOD⟩, ko2⟩
          · exact absurd rfl h1112
        · refine v_lconst (v := 1) dL_law_1106 (by decide) ?_
          refine v_goto (tgt := 1111) dL_law_1107 (by decide) ?_
          refine v_lcmp dL_law_1111 ?_
          rw [hh]
          first | rw [if_pos h1103, lg_self] | rw [if_neg h1103, lg_self]
          refine v_if_eq (tgt := 1117) dL_law_1112 (by decide) (fun h1112 => ?_) (fun h1112 => ?_)
          · refine v_goto (tgt := 3320) dL_law_1117 (by decide) ?_
            refine V.wid (k' := k0 + 8) (n' := n0 + 600) (by omega) (by omega) (kk _ _ _ _ ?_)
            exact ⟨kd, q, a, e8, v, _, sa, _, pa, tx, tn, Ls, _, _, w, _, _, _, _, _, _, _, _, _, _, _, _, _, (hP9.fs (Frm.fs (S := fun r => r = 30) hF9 rfl) (fun r h => by omega)), hC, hS.up, ⟨⟨_, hOA⟩, ko⟩, ⟨_, hOD⟩, ko2⟩
          · exact absurd rfl h1112
    · exact absurd rfl h1088
  · skip
    have hM9 := hM.tp (hF8.t 30 (Nat.le_refl _))
    have hO8 := (hF8 out (by rw [ko]; decide)).trans hO
    have hO9 := (hF8 outD (by rw [ko2]; decide)).trans hO2
    obtain ⟨-, rfl⟩ := hE
    refine v_istore_6 dL_law_1062 ?_
    refine v_aload_n dL_law_1064 rfl rfl ?_
    refine v_aload_n dL_law_1065 rfl rfl ?_
    refine v_iload dL_law_1066 rfl ?_
    refine v_iconst (v := 1) dL_law_1068 (by decide) ?_
    refine v_iadd dL_law_1069 ?_
    refine v_sld hX dL_law_1070 (hi 1 (by decide) (by decide)).1 (hi 1 (by decide) (by decide)).2 ?_
    refine v_aload_n dL_law_1071 rfl rfl ?_
    refine v_iload dL_law_1072 rfl ?_
    refine v_iconst (v := 2) dL_law_1074 (by decide) ?_
    refine v_iadd dL_law_1075 ?_
    refine v_sld hX dL_law_1076 (hi 2 (by decide) (by decide)).1 (hi 2 (by decide) (by decide)).2 ?_
    refine k_L_232 dL_law_1077 rfl (r_areConnected htr hM9 hG (xs (i + 1).toNatClampNeg) (xs (i + 2).toNatClampNeg)) hM9.1 (by omega) (by omega) (by omega) (Nat.le_of_ble_eq_true rfl) (fun r1077 M9 h9 => ?_) (fun _ _ h9 => h9.elim)
    obtain ⟨y0, h9, hF9⟩ := h9
    rcases h9 with ⟨hn, -⟩ | ⟨-, rfl, hC⟩
    · exact absurd hn hc
    have hOA := LR1 hO8 ko hF9
    have hOD := LR1 hO9 ko2 hF9
    refine v_istore_7 dL_law_1080 ?_
    refine v_aload_n dL_law_1082 rfl rfl ?_
    refine k_L_189 dL_law_1083 rfl (r_thrown htr hC) hC.1 (by omega) (by omega) (by omega) (Nat.le_of_ble_eq_true rfl) (fun r1083 M9 h9 => ?_) (fun _ _ h9 => h9.elim)
    obtain ⟨rfl, e9⟩ := h9
    subst M9
    refine v_iload dL_law_1086 rfl ?_
    refine v_icmp_eq (tgt := 1093) dL_law_1088 (by decide) (fun h1088 => ?_) (fun h1088 => ?_)
    · refine v_iload dL_law_1093 rfl ?_
      refine v_if_ne (tgt := 1117) dL_law_1095 (by decide) (fun h1095 => ?_) (fun h1095 => ?_)
      · refine v_goto (tgt := 3320) dL_law_1117 (by decide) ?_
        refine V.wid (k' := k0 + 8) (n' := n0 + 600) (by omega) (by omega) (kk _ _ _ _ ?_)
        exact ⟨kd, q, a, e8, v, _, sa, _, pa, tx, tn, Ls, _, _, w, _, _, _, _, _, _, _, _, _, _, _, _, _, (hP8.fs (Frm.fs (S := fun r => r = 30) hF9 rfl) (fun r h => by omega)), hC, hS.up, ⟨⟨_, hOA⟩, ko⟩, ⟨_, hOD⟩, ko2⟩
      · exact absurd h1095 (by decide)
    · exact absurd rfl h1088
