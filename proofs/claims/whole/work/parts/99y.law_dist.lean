/-! ===== the law: the distances ===== -/
theorem far_no {v : Int32 → Int32} {s t x : Int32} (h : IsD v 1000000 s t x.toInt) (h2 : IsD v 1000000 s t 1000000) (h3 : x < 1000000) : False := by
  have e := h.uniq h2
  have q := i_lt.mp h3
  have y : (1000000 : Int32).toInt = 1000000 := rfl
  omega
theorem dL_law_1120 : decode cL_law 1120 = .ok (.aload_n 1, 1) := by decide +kernel
theorem dL_law_1121 : decode cL_law 1121 = .ok (.aload_n 0, 1) := by decide +kernel
theorem dL_law_1122 : decode cL_law 1122 = .ok (.iload 5, 2) := by decide +kernel
theorem dL_law_1124 : decode cL_law 1124 = .ok (.iconst 1, 1) := by decide +kernel
theorem dL_law_1125 : decode cL_law 1125 = .ok (.iadd, 1) := by decide +kernel
theorem dL_law_1126 : decode cL_law 1126 = .ok (.iaload, 1) := by decide +kernel
theorem dL_law_1127 : decode cL_law 1127 = .ok (.aload_n 0, 1) := by decide +kernel
theorem dL_law_1128 : decode cL_law 1128 = .ok (.iload 5, 2) := by decide +kernel
theorem dL_law_1130 : decode cL_law 1130 = .ok (.iconst 2, 1) := by decide +kernel
theorem dL_law_1131 : decode cL_law 1131 = .ok (.iadd, 1) := by decide +kernel
theorem dL_law_1132 : decode cL_law 1132 = .ok (.iaload, 1) := by decide +kernel
theorem dL_law_1133 : decode cL_law 1133 = .ok (.aload_n 3, 1) := by decide +kernel
theorem dL_law_1134 : decode cL_law 1134 = .ok (.invokestatic 233, 3) := by decide +kernel
theorem dL_law_1137 : decode cL_law 1137 = .ok (.istore 6, 2) := by decide +kernel
theorem dL_law_1139 : decode cL_law 1139 = .ok (.aload_n 2, 1) := by decide +kernel
theorem dL_law_1140 : decode cL_law 1140 = .ok (.aload_n 0, 1) := by decide +kernel
theorem dL_law_1141 : decode cL_law 1141 = .ok (.iload 5, 2) := by decide +kernel
theorem dL_law_1143 : decode cL_law 1143 = .ok (.iconst 1, 1) := by decide +kernel
theorem dL_law_1144 : decode cL_law 1144 = .ok (.iadd, 1) := by decide +kernel
theorem dL_law_1145 : decode cL_law 1145 = .ok (.iaload, 1) := by decide +kernel
theorem dL_law_1146 : decode cL_law 1146 = .ok (.aload_n 0, 1) := by decide +kernel
theorem dL_law_1147 : decode cL_law 1147 = .ok (.iload 5, 2) := by decide +kernel
theorem dL_law_1149 : decode cL_law 1149 = .ok (.iconst 2, 1) := by decide +kernel
theorem dL_law_1150 : decode cL_law 1150 = .ok (.iadd, 1) := by decide +kernel
theorem dL_law_1151 : decode cL_law 1151 = .ok (.iaload, 1) := by decide +kernel
theorem dL_law_1152 : decode cL_law 1152 = .ok (.invokevirtual 235, 3) := by decide +kernel
theorem dL_law_1155 : decode cL_law 1155 = .ok (.istore 7, 2) := by decide +kernel
theorem dL_law_1157 : decode cL_law 1157 = .ok (.aload_n 2, 1) := by decide +kernel
theorem dL_law_1158 : decode cL_law 1158 = .ok (.invokevirtual 189, 3) := by decide +kernel
theorem dL_law_1161 : decode cL_law 1161 = .ok (.iload 6, 2) := by decide +kernel
theorem dL_law_1163 : decode cL_law 1163 = .ok (.if_icmp .eq 5, 3) := by decide +kernel
theorem dL_law_1166 : decode cL_law 1166 = .ok (.iconst 0, 1) := by decide +kernel
theorem dL_law_1167 : decode cL_law 1167 = .ok (.ireturn, 1) := by decide +kernel
theorem dL_law_1168 : decode cL_law 1168 = .ok (.iload 6, 2) := by decide +kernel
theorem dL_law_1170 : decode cL_law 1170 = .ok (.ifCond .ne 15, 3) := by decide +kernel
theorem dL_law_1173 : decode cL_law 1173 = .ok (.aload_n 3, 1) := by decide +kernel
theorem dL_law_1174 : decode cL_law 1174 = .ok (.iconst 0, 1) := by decide +kernel
theorem dL_law_1175 : decode cL_law 1175 = .ok (.laload, 1) := by decide +kernel
theorem dL_law_1176 : decode cL_law 1176 = .ok (.iload 7, 2) := by decide +kernel
theorem dL_law_1178 : decode cL_law 1178 = .ok (.i2l, 1) := by decide +kernel
theorem dL_law_1179 : decode cL_law 1179 = .ok (.lcmp, 1) := by decide +kernel
theorem dL_law_1180 : decode cL_law 1180 = .ok (.ifCond .eq 5, 3) := by decide +kernel
theorem dL_law_1183 : decode cL_law 1183 = .ok (.iconst 0, 1) := by decide +kernel
theorem dL_law_1184 : decode cL_law 1184 = .ok (.ireturn, 1) := by decide +kernel
theorem dL_law_1185 : decode cL_law 1185 = .ok (.goto 2135, 3) := by decide +kernel
set_option maxRecDepth 100000 in
set_option maxHeartbeats 4000000 in
theorem law_13 {l : Launch} {g : Nat → Nat} {nm ds : String} {tb : List ExceptionTableEntry} {L mc ms : Nat} {Po : Res → LH → Prop} {X : CX} {M : LH} {k0 n0 : Nat} (htr : l.stackTraces = false) {b SN : Nat} {xs : Nat → Int32} (hX : Sc b SN xs X) {kd : Nat → Nat} {p : Nat} {q a : Nat → Nat} {e8 : Int32 → Nat} {v : Int32 → Int32} {sv : Int32} {sa : Int32 → Int32} {ch : Int32} {pa tx : Int32 → Int32} {tn : Int32} {Ls : List Int32} {ea fl : Int32} {m : Nat} {w : Nat → Nat} {t bf he en wr dg : Int32} {b4 fr th bs li lf to : Int32 → Int32} {out outD : Nat} {N : Nat} (hP : Pg kd M p q a e8 v sv sa ch pa tx tn Ls ea fl) (hM : Md kd 30 M m w t ch ea fl sv bf tn he en (nI Ls.length) wr dg v b4 sa pa fr th bs tx li lf to) (hS : Lw N v sv sa ch pa tn Ls ea fl li) (hN : N ≤ 512) {h0 : Nat → Int64} (hO : M out = some (la 1 h0)) (ko : kd out = 31) {h2 : Nat → UInt64} (hO2 : M outD = some (da 1 h2)) (ko2 : kd outD = 31) {i : Int32} (hi : ∀ j : Int32, 1 ≤ j → j ≤ 5 → 0 ≤ i + j ∧ (i + j).toNatClampNeg < SN) (hL : 30 ≤ L) (hk : k0 + 8 ≤ mc) (hn : n0 + 600 ≤ ms) {z6 z7 z8 : Option Value} (kk : ∀ (M' : LH) (z6 z7 z8 : Option Value), LI p m out outD (N + 1) M' → V l g ⟨"SledgePostLaw", nm, ds⟩ cL_law (some .boolean) tb L mc ms Po X M' (k0 + 8) (n0 + 600) 3320 [some (.ref b), some (.ref p), some (.ref m), some (.ref out), some (.ref outD), some (.int i), z6, z7, z8] []) : V l g ⟨"SledgePostLaw", nm, ds⟩ cL_law (some .boolean) tb L mc ms Po X M k0 n0 1120 [some (.ref b), some (.ref p), some (.ref m), some (.ref out), some (.ref outD), some (.int i), z6, z7, z8] [] := by
  obtain ⟨hG, hSy, hv4⟩ := hS.1
  obtain ⟨-, -, -, -, ⟨tn0, tn60⟩, ⟨ea1, fl1⟩, ⟨hTl, hLs⟩, c0, c8⟩ := _root_.id hS
  obtain ⟨h461, h46⟩ := hS.1.r hN
  obtain ⟨hs0, old0, ⟨hpO, -⟩, -⟩ := _root_.id hP
  refine v_aload_n dL_law_1120 rfl rfl ?_
  refine v_aload_n dL_law_1121 rfl rfl ?_
  refine v_iload dL_law_1122 rfl ?_
  refine v_iconst (v := 1) dL_law_1124 (by decide) ?_
  refine v_iadd dL_law_1125 ?_
  refine v_sld hX dL_law_1126 (hi 1 (by decide) (by decide)).1 (hi 1 (by decide) (by decide)).2 ?_
  refine v_aload_n dL_law_1127 rfl rfl ?_
  refine v_iload dL_law_1128 rfl ?_
  refine v_iconst (v := 2) dL_law_1130 (by decide) ?_
  refine v_iadd dL_law_1131 ?_
  refine v_sld hX dL_law_1132 (hi 2 (by decide) (by decide)).1 (hi 2 (by decide) (by decide)).2 ?_
  refine v_aload_n dL_law_1133 rfl rfl ?_
  refine kl_233 dL_law_1134 rfl (w_L_distance htr (f_distance htr hP (xs (i + 1).toNatClampNeg) (xs (i + 2).toNatClampNeg)) hpO (fun r M9 h9 => ⟨_, (h9.2.2.2.2 out (by rw [ko]; decide)).trans hO⟩) (fun E M9 h9 => h9.1.elim (fun z => Or.inl z.2) (fun z => Or.inr z.2.2))) (by omega) (by omega) (by omega) (Nat.le_of_ble_eq_true rfl) (fun r9 M9 h9 => ?_) (fun _ _ h9 => h9.elim)
  rcases h9 with ⟨rfl, r, M8, h8, ⟨hc1, hb1, hb2, hP8, hF8⟩, hh, rfl⟩ | ⟨E, ⟨hx, hP8, hF8⟩, hE⟩
  · skip
    have f31 : Fs kd (fun r => r = 31) M8 (hup M8 out (la 1 h8)) := fun x hx => hup_n (fun z => hx (by rw [z]; exact ko))
    have hP9 := hP8.fs f31 (fun r h => by omega)
    have hM9 := (hM.tp (hF8.t 30 (Nat.le_refl _))).tp (f31.tp (by decide))
    have hO9 := up_k (e' := la 1 h8) ((hF8 outD (by rw [ko2]; decide)).trans hO2) ((hF8 out (by rw [ko]; decide)).trans hO) da_la
    refine v_istore_6 dL_law_1137 ?_
    refine v_aload_n dL_law_1139 rfl rfl ?_
    refine v_aload_n dL_law_1140 rfl rfl ?_
    refine v_iload dL_law_1141 rfl ?_
    refine v_iconst (v := 1) dL_law_1143 (by decide) ?_
    refine v_iadd dL_law_1144 ?_
    refine v_sld hX dL_law_1145 (hi 1 (by decide) (by decide)).1 (hi 1 (by decide) (by decide)).2 ?_
    refine v_aload_n dL_law_1146 rfl rfl ?_
    refine v_iload dL_law_1147 rfl ?_
    refine v_iconst (v := 2) dL_law_1149 (by decide) ?_
    refine v_iadd dL_law_1150 ?_
    refine v_sld hX dL_law_1151 (hi 2 (by decide) (by decide)).1 (hi 2 (by decide) (by decide)).2 ?_
    refine k_L_235 dL_law_1152 rfl (r_distance htr hM9 hG (xs (i + 1).toNatClampNeg) (xs (i + 2).toNatClampNeg)) hM9.1 (by omega) (by omega) (by omega) (Nat.le_of_ble_eq_true rfl) (fun r1152 M9 h9 => ?_) (fun _ _ h9 => h9.elim)
    obtain ⟨y0, h9, hF9⟩ := h9
    rcases h9 with ⟨-, hq1, hq2, hC⟩ | ⟨-, hn, -⟩ | ⟨hn, -⟩
    rotate_left
    · exact absurd hb2 (fun z => far_no hb1 hn z)
    · exact absurd hc1 hn
    obtain rfl := i_eq.mpr (hb1.uniq hq1)
    have hOA := LR1 (kd := kd) hup_s ko hF9
    have hOD := LR1 hO9 ko2 hF9
    refine v_istore_7 dL_law_1155 ?_
    refine v_aload_n dL_law_1157 rfl rfl ?_
    refine k_L_189 dL_law_1158 rfl (r_thrown htr hC) hC.1 (by omega) (by omega) (by omega) (Nat.le_of_ble_eq_true rfl) (fun r1158 M9 h9 => ?_) (fun _ _ h9 => h9.elim)
    obtain ⟨rfl, e9⟩ := h9
    subst M9
    refine v_iload dL_law_1161 rfl ?_
    refine v_icmp_eq (tgt := 1168) dL_law_1163 (by decide) (fun h1163 => ?_) (fun h1163 => ?_)
    · refine v_iload dL_law_1168 rfl ?_
      refine v_if_ne (tgt := 1185) dL_law_1170 (by decide) (fun h1170 => ?_) (fun h1170 => ?_)
      · exact absurd rfl h1170
      · refine v_aload_n dL_law_1173 rfl rfl ?_
        refine v_iconst (v := 0) dL_law_1174 (by decide) ?_
        refine v_lald dL_law_1175 hOA ?_
        refine v_iload dL_law_1176 rfl ?_
        refine v_i2l dL_law_1178 ?_
        refine v_lcmp dL_law_1179 ?_
        rw [hh, lg_self]
        refine v_if_eq (tgt := 1185) dL_law_1180 (by decide) (fun h1180 => ?_) (fun h1180 => ?_)
        · refine v_goto (tgt := 3320) dL_law_1185 (by decide) ?_
          refine V.wid (k' := k0 + 8) (n' := n0 + 600) (by omega) (by omega) (kk _ _ _ _ ?_)
          exact ⟨kd, q, a, e8, v, _, sa, _, pa, tx, tn, Ls, _, _, w, _, _, _, _, _, _, _, _, _, _, _, _, _, (hP9.fs (Frm.fs (S := fun r => r = 30) hF9 rfl) (fun r h => by omega)), hC, hS.up, ⟨⟨_, hOA⟩, ko⟩, ⟨_, hOD⟩, ko2⟩
        · exact absurd rfl h1180
    · exact absurd rfl h1163
  · skip
    have hM9 := hM.tp (hF8.t 30 (Nat.le_refl _))
    have hO8 := (hF8 out (by rw [ko]; decide)).trans hO
    have hO9 := (hF8 outD (by rw [ko2]; decide)).trans hO2
    rcases hx with ⟨hc1, hE0⟩ | ⟨hc1, hc2, hE0⟩
    · obtain ⟨-, rfl⟩ := hE.resolve_right (fun z => absurd (hE0.symm.trans z.1) (by decide))
      refine v_istore_6 dL_law_1137 ?_
      refine v_aload_n dL_law_1139 rfl rfl ?_
      refine v_aload_n dL_law_1140 rfl rfl ?_
      refine v_iload dL_law_1141 rfl ?_
      refine v_iconst (v := 1) dL_law_1143 (by decide) ?_
      refine v_iadd dL_law_1144 ?_
      refine v_sld hX dL_law_1145 (hi 1 (by decide) (by decide)).1 (hi 1 (by decide) (by decide)).2 ?_
      refine v_aload_n dL_law_1146 rfl rfl ?_
      refine v_iload dL_law_1147 rfl ?_
      refine v_iconst (v := 2) dL_law_1149 (by decide) ?_
      refine v_iadd dL_law_1150 ?_
      refine v_sld hX dL_law_1151 (hi 2 (by decide) (by decide)).1 (hi 2 (by decide) (by decide)).2 ?_
      refine k_L_235 dL_law_1152 rfl (r_distance htr hM9 hG (xs (i + 1).toNatClampNeg) (xs (i + 2).toNatClampNeg)) hM9.1 (by omega) (by omega) (by omega) (Nat.le_of_ble_eq_true rfl) (fun r1152 M9 h9 => ?_) (fun _ _ h9 => h9.elim)
      obtain ⟨y0, h9, hF9⟩ := h9
      rcases h9 with ⟨hn, -⟩ | ⟨hn, -⟩ | ⟨-, rfl, hC⟩
      · exact absurd hn hc1
      · exact absurd hn hc1
      have hOA := LR1 (kd := kd) hO8 ko hF9
      have hOD := LR1 hO9 ko2 hF9
      refine v_istore_7 dL_law_1155 ?_
      refine v_aload_n dL_law_1157 rfl rfl ?_
      refine k_L_189 dL_law_1158 rfl (r_thrown htr hC) hC.1 (by omega) (by omega) (by omega) (Nat.le_of_ble_eq_true rfl) (fun r1158 M9 h9 => ?_) (fun _ _ h9 => h9.elim)
      obtain ⟨rfl, e9⟩ := h9
      subst M9
      refine v_iload dL_law_1161 rfl ?_
      refine v_icmp_eq (tgt := 1168) dL_law_1163 (by decide) (fun h1163 => ?_) (fun h1163 => ?_)
      · refine v_iload dL_law_1168 rfl ?_
        refine v_if_ne (tgt := 1185) dL_law_1170 (by decide) (fun h1170 => ?_) (fun h1170 => ?_)
        · refine v_goto (tgt := 3320) dL_law_1185 (by decide) ?_
          refine V.wid (k' := k0 + 8) (n' := n0 + 600) (by omega) (by omega) (kk _ _ _ _ ?_)
          exact ⟨kd, q, a, e8, v, _, sa, _, pa, tx, tn, Ls, _, _, w, _, _, _, _, _, _, _, _, _, _, _, _, _, (hP8.fs (Frm.fs (S := fun r => r = 30) hF9 rfl) (fun r h => by omega)), hC, hS.up, ⟨⟨_, hOA⟩, ko⟩, ⟨_, hOD⟩, ko2⟩
        · exact absurd h1170 (by decide)
      · exact absurd rfl h1163
    · obtain ⟨-, rfl⟩ := hE.resolve_left (fun z => absurd (hE0.symm.trans z.1) (by decide))
      refine v_istore_6 dL_law_1137 ?_
      refine v_aload_n dL_law_1139 rfl rfl ?_
      refine v_aload_n dL_law_1140 rfl rfl ?_
      refine v_iload dL_law_1141 rfl ?_
      refine v_iconst (v := 1) dL_law_1143 (by decide) ?_
      refine v_iadd dL_law_1144 ?_
      refine v_sld hX dL_law_1145 (hi 1 (by decide) (by decide)).1 (hi 1 (by decide) (by decide)).2 ?_
      refine v_aload_n dL_law_1146 rfl rfl ?_
      refine v_iload dL_law_1147 rfl ?_
      refine v_iconst (v := 2) dL_law_1149 (by decide) ?_
      refine v_iadd dL_law_1150 ?_
      refine v_sld hX dL_law_1151 (hi 2 (by decide) (by decide)).1 (hi 2 (by decide) (by decide)).2 ?_
      refine k_L_235 dL_law_1152 rfl (r_distance htr hM9 hG (xs (i + 1).toNatClampNeg) (xs (i + 2).toNatClampNeg)) hM9.1 (by omega) (by omega) (by omega) (Nat.le_of_ble_eq_true rfl) (fun r1152 M9 h9 => ?_) (fun _ _ h9 => h9.elim)
      obtain ⟨y0, h9, hF9⟩ := h9
      rcases h9 with ⟨-, hn, hq2, -⟩ | ⟨-, -, rfl, hC⟩ | ⟨hn, -⟩
      · exact absurd hq2 (fun z => far_no hn hc2 z)
      rotate_left
      · exact absurd hc1 hn
      have hOA := LR1 (kd := kd) hO8 ko hF9
      have hOD := LR1 hO9 ko2 hF9
      refine v_istore_7 dL_law_1155 ?_
      refine v_aload_n dL_law_1157 rfl rfl ?_
      refine k_L_189 dL_law_1158 rfl (r_thrown htr hC) hC.1 (by omega) (by omega) (by omega) (Nat.le_of_ble_eq_true rfl) (fun r1158 M9 h9 => ?_) (fun _ _ h9 => h9.elim)
      obtain ⟨rfl, e9⟩ := h9
      subst M9
      refine v_iload dL_law_1161 rfl ?_
      refine v_icmp_eq (tgt := 1168) dL_law_1163 (by decide) (fun h1163 => ?_) (fun h1163 => ?_)
      · refine v_iload dL_law_1168 rfl ?_
        refine v_if_ne (tgt := 1185) dL_law_1170 (by decide) (fun h1170 => ?_) (fun h1170 => ?_)
        · refine v_goto (tgt := 3320) dL_law_1185 (by decide) ?_
          refine V.wid (k' := k0 + 8) (n' := n0 + 600) (by omega) (by omega) (kk _ _ _ _ ?_)
          exact ⟨kd, q, a, e8, v, _, sa, _, pa, tx, tn, Ls, _, _, w, _, _, _, _, _, _, _, _, _, _, _, _, _, (hP8.fs (Frm.fs (S := fun r => r = 30) hF9 rfl) (fun r h => by omega)), hC, hS.up, ⟨⟨_, hOA⟩, ko⟩, ⟨_, hOD⟩, ko2⟩
        · exact absurd h1170 (by decide)
      · exact absurd rfl h1163
theorem dL_law_1188 : decode cL_law 1188 = .ok (.aload_n 1, 1) := by decide +kernel
theorem dL_law_1189 : decode cL_law 1189 = .ok (.aload_n 0, 1) := by decide +kernel
theorem dL_law_1190 : decode cL_law 1190 = .ok (.iload 5, 2) := by decide +kernel
theorem dL_law_1192 : decode cL_law 1192 = .ok (.iconst 1, 1) := by decide +kernel
theorem dL_law_1193 : decode cL_law 1193 = .ok (.iadd, 1) := by decide +kernel
theorem dL_law_1194 : decode cL_law 1194 = .ok (.iaload, 1) := by decide +kernel
theorem dL_law_1195 : decode cL_law 1195 = .ok (.aload_n 0, 1) := by decide +kernel
theorem dL_law_1196 : decode cL_law 1196 = .ok (.iload 5, 2) := by decide +kernel
theorem dL_law_1198 : decode cL_law 1198 = .ok (.iconst 2, 1) := by decide +kernel
theorem dL_law_1199 : decode cL_law 1199 = .ok (.iadd, 1) := by decide +kernel
theorem dL_law_1200 : decode cL_law 1200 = .ok (.iaload, 1) := by decide +kernel
theorem dL_law_1201 : decode cL_law 1201 = .ok (.aload_n 3, 1) := by decide +kernel
theorem dL_law_1202 : decode cL_law 1202 = .ok (.invokestatic 236, 3) := by decide +kernel
theorem dL_law_1205 : decode cL_law 1205 = .ok (.istore 6, 2) := by decide +kernel
theorem dL_law_1207 : decode cL_law 1207 = .ok (.aload_n 2, 1) := by decide +kernel
theorem dL_law_1208 : decode cL_law 1208 = .ok (.aload_n 0, 1) := by decide +kernel
theorem dL_law_1209 : decode cL_law 1209 = .ok (.iload 5, 2) := by decide +kernel
theorem dL_law_1211 : decode cL_law 1211 = .ok (.iconst 1, 1) := by decide +kernel
theorem dL_law_1212 : decode cL_law 1212 = .ok (.iadd, 1) := by decide +kernel
theorem dL_law_1213 : decode cL_law 1213 = .ok (.iaload, 1) := by decide +kernel
theorem dL_law_1214 : decode cL_law 1214 = .ok (.aload_n 0, 1) := by decide +kernel
theorem dL_law_1215 : decode cL_law 1215 = .ok (.iload 5, 2) := by decide +kernel
theorem dL_law_1217 : decode cL_law 1217 = .ok (.iconst 2, 1) := by decide +kernel
theorem dL_law_1218 : decode cL_law 1218 = .ok (.iadd, 1) := by decide +kernel
theorem dL_law_1219 : decode cL_law 1219 = .ok (.iaload, 1) := by decide +kernel
theorem dL_law_1220 : decode cL_law 1220 = .ok (.invokevirtual 238, 3) := by decide +kernel
theorem dL_law_1223 : decode cL_law 1223 = .ok (.istore 7, 2) := by decide +kernel
theorem dL_law_1225 : decode cL_law 1225 = .ok (.aload_n 2, 1) := by decide +kernel
theorem dL_law_1226 : decode cL_law 1226 = .ok (.invokevirtual 189, 3) := by decide +kernel
theorem dL_law_1229 : decode cL_law 1229 = .ok (.iload 6, 2) := by decide +kernel
theorem dL_law_1231 : decode cL_law 1231 = .ok (.if_icmp .eq 5, 3) := by decide +kernel
theorem dL_law_1234 : decode cL_law 1234 = .ok (.iconst 0, 1) := by decide +kernel
theorem dL_law_1235 : decode cL_law 1235 = .ok (.ireturn, 1) := by decide +kernel
theorem dL_law_1236 : decode cL_law 1236 = .ok (.iload 6, 2) := by decide +kernel
theorem dL_law_1238 : decode cL_law 1238 = .ok (.ifCond .ne 15, 3) := by decide +kernel
theorem dL_law_1241 : decode cL_law 1241 = .ok (.aload_n 3, 1) := by decide +kernel
theorem dL_law_1242 : decode cL_law 1242 = .ok (.iconst 0, 1) := by decide +kernel
theorem dL_law_1243 : decode cL_law 1243 = .ok (.laload, 1) := by decide +kernel
theorem dL_law_1244 : decode cL_law 1244 = .ok (.iload 7, 2) := by decide +kernel
theorem dL_law_1246 : decode cL_law 1246 = .ok (.i2l, 1) := by decide +kernel
theorem dL_law_1247 : decode cL_law 1247 = .ok (.lcmp, 1) := by decide +kernel
theorem dL_law_1248 : decode cL_law 1248 = .ok (.ifCond .eq 5, 3) := by decide +kernel
theorem dL_law_1251 : decode cL_law 1251 = .ok (.iconst 0, 1) := by decide +kernel
theorem dL_law_1252 : decode cL_law 1252 = .ok (.ireturn, 1) := by decide +kernel
theorem dL_law_1253 : decode cL_law 1253 = .ok (.goto 2067, 3) := by decide +kernel
set_option maxRecDepth 100000 in
set_option maxHeartbeats 4000000 in
theorem law_14 {l : Launch} {g : Nat → Nat} {nm ds : String} {tb : List ExceptionTableEntry} {L mc ms : Nat} {Po : Res → LH → Prop} {X : CX} {M : LH} {k0 n0 : Nat} (htr : l.stackTraces = false) {b SN : Nat} {xs : Nat → Int32} (hX : Sc b SN xs X) {kd : Nat → Nat} {p : Nat} {q a : Nat → Nat} {e8 : Int32 → Nat} {v : Int32 → Int32} {sv : Int32} {sa : Int32 → Int32} {ch : Int32} {pa tx : Int32 → Int32} {tn : Int32} {Ls : List Int32} {ea fl : Int32} {m : Nat} {w : Nat → Nat} {t bf he en wr dg : Int32} {b4 fr th bs li lf to : Int32 → Int32} {out outD : Nat} {N : Nat} (hP : Pg kd M p q a e8 v sv sa ch pa tx tn Ls ea fl) (hM : Md kd 30 M m w t ch ea fl sv bf tn he en (nI Ls.length) wr dg v b4 sa pa fr th bs tx li lf to) (hS : Lw N v sv sa ch pa tn Ls ea fl li) (hN : N ≤ 512) {h0 : Nat → Int64} (hO : M out = some (la 1 h0)) (ko : kd out = 31) {h2 : Nat → UInt64} (hO2 : M outD = some (da 1 h2)) (ko2 : kd outD = 31) {i : Int32} (hi : ∀ j : Int32, 1 ≤ j → j ≤ 5 → 0 ≤ i + j ∧ (i + j).toNatClampNeg < SN) (hL : 30 ≤ L) (hk : k0 + 8 ≤ mc) (hn : n0 + 600 ≤ ms) {z6 z7 z8 : Option Value} (kk : ∀ (M' : LH) (z6 z7 z8 : Option Value), LI p m out outD (N + 1) M' → V l g ⟨"SledgePostLaw", nm, ds⟩ cL_law (some .boolean) tb L mc ms Po X M' (k0 + 8) (n0 + 600) 3320 [some (.ref b), some (.ref p), some (.ref m), some (.ref out), some (.ref outD), some (.int i), z6, z7, z8] []) : V l g ⟨"SledgePostLaw", nm, ds⟩ cL_law (some .boolean) tb L mc ms Po X M k0 n0 1188 [some (.ref b), some (.ref p), some (.ref m), some (.ref out), some (.ref outD), some (.int i), z6, z7, z8] [] := by
  obtain ⟨hG, hSy, hv4⟩ := hS.1
  obtain ⟨-, -, -, -, ⟨tn0, tn60⟩, ⟨ea1, fl1⟩, ⟨hTl, hLs⟩, c0, c8⟩ := _root_.id hS
  obtain ⟨h461, h46⟩ := hS.1.r hN
  obtain ⟨hs0, old0, ⟨hpO, -⟩, -⟩ := _root_.id hP
  refine v_aload_n dL_law_1188 rfl rfl ?_
  refine v_aload_n dL_law_1189 rfl rfl ?_
  refine v_iload dL_law_1190 rfl ?_
  refine v_iconst (v := 1) dL_law_1192 (by decide) ?_
  refine v_iadd dL_law_1193 ?_
  refine v_sld hX dL_law_1194 (hi 1 (by decide) (by decide)).1 (hi 1 (by decide) (by decide)).2 ?_
  refine v_aload_n dL_law_1195 rfl rfl ?_
  refine v_iload dL_law_1196 rfl ?_
  refine v_iconst (v := 2) dL_law_1198 (by decide) ?_
  refine v_iadd dL_law_1199 ?_
  refine v_sld hX dL_law_1200 (hi 2 (by decide) (by decide)).1 (hi 2 (by decide) (by decide)).2 ?_
  refine v_aload_n dL_law_1201 rfl rfl ?_
  refine kl_236 dL_law_1202 rfl (w_L_distanceByStations htr (f_distanceByStations htr hP (xs (i + 1).toNatClampNeg) (xs (i + 2).toNatClampNeg)) hpO (fun r M9 h9 => ⟨_, (h9.2.2.2.2 out (by rw [ko]; decide)).trans hO⟩) (fun E M9 h9 => h9.1.elim (fun z => Or.inl z.2) (fun z => Or.inr z.2.2))) (by omega) (by omega) (by omega) (Nat.le_of_ble_eq_true rfl) (fun r9 M9 h9 => ?_) (fun _ _ h9 => h9.elim)
  rcases h9 with ⟨rfl, r, M8, h8, ⟨hc1, hb1, hb2, hP8, hF8⟩, hh, rfl⟩ | ⟨E, ⟨hx, hP8, hF8⟩, hE⟩
  · skip
    have f31 : Fs kd (fun r => r = 31) M8 (hup M8 out (la 1 h8)) := fun x hx => hup_n (fun z => hx (by rw [z]; exact ko))
    have hP9 := hP8.fs f31 (fun r h => by omega)
    have hM9 := (hM.tp (hF8.t 30 (Nat.le_refl _))).tp (f31.tp (by decide))
    have hO9 := up_k (e' := la 1 h8) ((hF8 outD (by rw [ko2]; decide)).trans hO2) ((hF8 out (by rw [ko]; decide)).trans hO) da_la
    refine v_istore_6 dL_law_1205 ?_
    refine v_aload_n dL_law_1207 rfl rfl ?_
    refine v_aload_n dL_law_1208 rfl rfl ?_
    refine v_iload dL_law_1209 rfl ?_
    refine v_iconst (v := 1) dL_law_1211 (by decide) ?_
    refine v_iadd dL_law_1212 ?_
    refine v_sld hX dL_law_1213 (hi 1 (by decide) (by decide)).1 (hi 1 (by decide) (by decide)).2 ?_
    refine v_aload_n dL_law_1214 rfl rfl ?_
    refine v_iload dL_law_1215 rfl ?_
    refine v_iconst (v := 2) dL_law_1217 (by decide) ?_
    refine v_iadd dL_law_1218 ?_
    refine v_sld hX dL_law_1219 (hi 2 (by decide) (by decide)).1 (hi 2 (by decide) (by decide)).2 ?_
    refine k_L_238 dL_law_1220 rfl (r_distanceByStations htr hM9 hG (xs (i + 1).toNatClampNeg) (xs (i + 2).toNatClampNeg)) hM9.1 (by omega) (by omega) (by omega) (Nat.le_of_ble_eq_true rfl) (fun r1220 M9 h9 => ?_) (fun _ _ h9 => h9.elim)
    obtain ⟨y0, h9, hF9⟩ := h9
    rcases h9 with ⟨-, hq1, hq2, hC⟩ | ⟨-, hn, -⟩ | ⟨hn, -⟩
    rotate_left
    · exact absurd hb2 (fun z => far_no hb1 hn z)
    · exact absurd hc1 hn
    obtain rfl := i_eq.mpr (hb1.uniq hq1)
    have hOA := LR1 (kd := kd) hup_s ko hF9
    have hOD := LR1 hO9 ko2 hF9
    refine v_istore_7 dL_law_1223 ?_
    refine v_aload_n dL_law_1225 rfl rfl ?_
    refine k_L_189 dL_law_1226 rfl (r_thrown htr hC) hC.1 (by omega) (by omega) (by omega) (Nat.le_of_ble_eq_true rfl) (fun r1226 M9 h9 => ?_) (fun _ _ h9 => h9.elim)
    obtain ⟨rfl, e9⟩ := h9
    subst M9
    refine v_iload dL_law_1229 rfl ?_
    refine v_icmp_eq (tgt := 1236) dL_law_1231 (by decide) (fun h1231 => ?_) (fun h1231 => ?_)
    · refine v_iload dL_law_1236 rfl ?_
      refine v_if_ne (tgt := 1253) dL_law_1238 (by decide) (fun h1238 => ?_) (fun h1238 => ?_)
      · exact absurd rfl h1238
      · refine v_aload_n dL_law_1241 rfl rfl ?_
        refine v_iconst (v := 0) dL_law_1242 (by decide) ?_
        refine v_lald dL_law_1243 hOA ?_
        refine v_iload dL_law_1244 rfl ?_
        refine v_i2l dL_law_1246 ?_
        refine v_lcmp dL_law_1247 ?_
        rw [hh, lg_self]
        refine v_if_eq (tgt := 1253) dL_law_1248 (by decide) (fun h1248 => ?_) (fun h1248 => ?_)
        · refine v_goto (tgt := 3320) dL_law_1253 (by decide) ?_
          refine V.wid (k' := k0 + 8) (n' := n0 + 600) (by omega) (by omega) (kk _ _ _ _ ?_)
          exact ⟨kd, q, a, e8, v, _, sa, _, pa, tx, tn, Ls, _, _, w, _, _, _, _, _, _, _, _, _, _, _, _, _, (hP9.fs (Frm.fs (S := fun r => r = 30) hF9 rfl) (fun r h => by omega)), hC, hS.up, ⟨⟨_, hOA⟩, ko⟩, ⟨_, hOD⟩, ko2⟩
        · exact absurd rfl h1248
    · exact absurd rfl h1231
  · skip
    have hM9 := hM.tp (hF8.t 30 (Nat.le_refl _))
    have hO8 := (hF8 out (by rw [ko]; decide)).trans hO
    have hO9 := (hF8 outD (by rw [ko2]; decide)).trans hO2
    rcases hx with ⟨hc1, hE0⟩ | ⟨hc1, hc2, hE0⟩
    · obtain ⟨-, rfl⟩ := hE.resolve_right (fun z => absurd (hE0.symm.trans z.1) (by decide))
      refine v_istore_6 dL_law_1205 ?_
      refine v_aload_n dL_law_1207 rfl rfl ?_
      refine v_aload_n dL_law_1208 rfl rfl ?_
      refine v_iload dL_law_1209 rfl ?_
      refine v_iconst (v := 1) dL_law_1211 (by decide) ?_
      refine v_iadd dL_law_1212 ?_
      refine v_sld hX dL_law_1213 (hi 1 (by decide) (by decide)).1 (hi 1 (by decide) (by decide)).2 ?_
      refine v_aload_n dL_law_1214 rfl rfl ?_
      refine v_iload dL_law_1215 rfl ?_
      refine v_iconst (v := 2) dL_law_1217 (by decide) ?_
      refine v_iadd dL_law_1218 ?_
      refine v_sld hX dL_law_1219 (hi 2 (by decide) (by decide)).1 (hi 2 (by decide) (by decide)).2 ?_
      refine k_L_238 dL_law_1220 rfl (r_distanceByStations htr hM9 hG (xs (i + 1).toNatClampNeg) (xs (i + 2).toNatClampNeg)) hM9.1 (by omega) (by omega) (by omega) (Nat.le_of_ble_eq_true rfl) (fun r1220 M9 h9 => ?_) (fun _ _ h9 => h9.elim)
      obtain ⟨y0, h9, hF9⟩ := h9
      rcases h9 with ⟨hn, -⟩ | ⟨hn, -⟩ | ⟨-, rfl, hC⟩
      · exact absurd hn hc1
      · exact absurd hn hc1
      have hOA := LR1 (kd := kd) hO8 ko hF9
      have hOD := LR1 hO9 ko2 hF9
      refine v_istore_7 dL_law_1223 ?_
      refine v_aload_n dL_law_1225 rfl rfl ?_
      refine k_L_189 dL_law_1226 rfl (r_thrown htr hC) hC.1 (by omega) (by omega) (by omega) (Nat.le_of_ble_eq_true rfl) (fun r1226 M9 h9 => ?_) (fun _ _ h9 => h9.elim)
      obtain ⟨rfl, e9⟩ := h9
      subst M9
      refine v_iload dL_law_1229 rfl ?_
      refine v_icmp_eq (tgt := 1236) dL_law_1231 (by decide) (fun h1231 => ?_) (fun h1231 => ?_)
      · refine v_iload dL_law_1236 rfl ?_
        refine v_if_ne (tgt := 1253) dL_law_1238 (by decide) (fun h1238 => ?_) (fun h1238 => ?_)
        · refine v_goto (tgt := 3320) dL_law_1253 (by decide) ?_
          refine V.wid (k' := k0 + 8) (n' := n0 + 600) (by omega) (by omega) (kk _ _ _ _ ?_)
          exact ⟨kd, q, a, e8, v, _, sa, _, pa, tx, tn, Ls, _, _, w, _, _, _, _, _, _, _, _, _, _, _, _, _, (hP8.fs (Frm.fs (S := fun r => r = 30) hF9 rfl) (fun r h => by omega)), hC, hS.up, ⟨⟨_, hOA⟩, ko⟩, ⟨_, hOD⟩, ko2⟩
        · exact absurd h1238 (by decide)
      · exact absurd rfl h1231
    · obtain ⟨-, rfl⟩ := hE.resolve_left (fun z => absurd (hE0.symm.trans z.1) (by decide))
      refine v_istore_6 dL_law_1205 ?_
      refine v_aload_n dL_law_1207 rfl rfl ?_
      refine v_aload_n dL_law_1208 rfl rfl ?_
      refine v_iload dL_law_1209 rfl ?_
      refine v_iconst (v := 1) dL_law_1211 (by decide) ?_
      refine v_iadd dL_law_1212 ?_
      refine v_sld hX dL_law_1213 (hi 1 (by decide) (by decide)).1 (hi 1 (by decide) (by decide)).2 ?_
      refine v_aload_n dL_law_1214 rfl rfl ?_
      refine v_iload dL_law_1215 rfl ?_
      refine v_iconst (v := 2) dL_law_1217 (by decide) ?_
      refine v_iadd dL_law_1218 ?_
      refine v_sld hX dL_law_1219 (hi 2 (by decide) (by decide)).1 (hi 2 (by decide) (by decide)).2 ?_
      refine k_L_238 dL_law_1220 rfl (r_distanceByStations htr hM9 hG (xs (i + 1).toNatClampNeg) (xs (i + 2).toNatClampNeg)) hM9.1 (by omega) (by omega) (by omega) (Nat.le_of_ble_eq_true rfl) (fun r1220 M9 h9 => ?_) (fun _ _ h9 => h9.elim)
      obtain ⟨y0, h9, hF9⟩ := h9
      rcases h9 with ⟨-, hn, hq2, -⟩ | ⟨-, -, rfl, hC⟩ | ⟨hn, -⟩
      · exact absurd hq2 (fun z => far_no hn hc2 z)
      rotate_left
      · exact absurd hc1 hn
      have hOA := LR1 (kd := kd) hO8 ko hF9
      have hOD := LR1 hO9 ko2 hF9
      refine v_istore_7 dL_law_1223 ?_
      refine v_aload_n dL_law_1225 rfl rfl ?_
      refine k_L_189 dL_law_1226 rfl (r_thrown htr hC) hC.1 (by omega) (by omega) (by omega) (Nat.le_of_ble_eq_true rfl) (fun r1226 M9 h9 => ?_) (fun _ _ h9 => h9.elim)
      obtain ⟨rfl, e9⟩ := h9
      subst M9
      refine v_iload dL_law_1229 rfl ?_
      refine v_icmp_eq (tgt := 1236) dL_law_1231 (by decide) (fun h1231 => ?_) (fun h1231 => ?_)
      · refine v_iload dL_law_1236 rfl ?_
        refine v_if_ne (tgt := 1253) dL_law_1238 (by decide) (fun h1238 => ?_) (fun h1238 => ?_)
        · refine v_goto (tgt := 3320) dL_law_1253 (by decide) ?_
          refine V.wid (k' := k0 + 8) (n' := n0 + 600) (by omega) (by omega) (kk _ _ _ _ ?_)
          exact ⟨kd, q, a, e8, v, _, sa, _, pa, tx, tn, Ls, _, _, w, _, _, _, _, _, _, _, _, _, _, _, _, _, (hP8.fs (Frm.fs (S := fun r => r = 30) hF9 rfl) (fun r h => by omega)), hC, hS.up, ⟨⟨_, hOA⟩, ko⟩, ⟨_, hOD⟩, ko2⟩
        · exact absurd h1238 (by decide)
      · exact absurd rfl h1231
