/-! ===== the law: questions with one way to fail ===== -/
theorem dL_law_977 : decode cL_law 977 = .ok (.aload_n 1, 1) := by decide +kernel
theorem dL_law_978 : decode cL_law 978 = .ok (.aload_n 0, 1) := by decide +kernel
theorem dL_law_979 : decode cL_law 979 = .ok (.iload 5, 2) := by decide +kernel
theorem dL_law_981 : decode cL_law 981 = .ok (.iconst 1, 1) := by decide +kernel
theorem dL_law_982 : decode cL_law 982 = .ok (.iadd, 1) := by decide +kernel
theorem dL_law_983 : decode cL_law 983 = .ok (.iaload, 1) := by decide +kernel
theorem dL_law_984 : decode cL_law 984 = .ok (.aload_n 0, 1) := by decide +kernel
theorem dL_law_985 : decode cL_law 985 = .ok (.iload 5, 2) := by decide +kernel
theorem dL_law_987 : decode cL_law 987 = .ok (.iconst 2, 1) := by decide +kernel
theorem dL_law_988 : decode cL_law 988 = .ok (.iadd, 1) := by decide +kernel
theorem dL_law_989 : decode cL_law 989 = .ok (.iaload, 1) := by decide +kernel
theorem dL_law_990 : decode cL_law 990 = .ok (.aload_n 3, 1) := by decide +kernel
theorem dL_law_991 : decode cL_law 991 = .ok (.invokestatic 227, 3) := by decide +kernel
theorem dL_law_994 : decode cL_law 994 = .ok (.istore 6, 2) := by decide +kernel
theorem dL_law_996 : decode cL_law 996 = .ok (.aload_n 2, 1) := by decide +kernel
theorem dL_law_997 : decode cL_law 997 = .ok (.aload_n 0, 1) := by decide +kernel
theorem dL_law_998 : decode cL_law 998 = .ok (.iload 5, 2) := by decide +kernel
theorem dL_law_1000 : decode cL_law 1000 = .ok (.iconst 1, 1) := by decide +kernel
theorem dL_law_1001 : decode cL_law 1001 = .ok (.iadd, 1) := by decide +kernel
theorem dL_law_1002 : decode cL_law 1002 = .ok (.iaload, 1) := by decide +kernel
theorem dL_law_1003 : decode cL_law 1003 = .ok (.aload_n 0, 1) := by decide +kernel
theorem dL_law_1004 : decode cL_law 1004 = .ok (.iload 5, 2) := by decide +kernel
theorem dL_law_1006 : decode cL_law 1006 = .ok (.iconst 2, 1) := by decide +kernel
theorem dL_law_1007 : decode cL_law 1007 = .ok (.iadd, 1) := by decide +kernel
theorem dL_law_1008 : decode cL_law 1008 = .ok (.iaload, 1) := by decide +kernel
theorem dL_law_1009 : decode cL_law 1009 = .ok (.invokevirtual 229, 3) := by decide +kernel
theorem dL_law_1012 : decode cL_law 1012 = .ok (.istore 7, 2) := by decide +kernel
theorem dL_law_1014 : decode cL_law 1014 = .ok (.aload_n 2, 1) := by decide +kernel
theorem dL_law_1015 : decode cL_law 1015 = .ok (.invokevirtual 189, 3) := by decide +kernel
theorem dL_law_1018 : decode cL_law 1018 = .ok (.iload 6, 2) := by decide +kernel
theorem dL_law_1020 : decode cL_law 1020 = .ok (.if_icmp .eq 5, 3) := by decide +kernel
theorem dL_law_1023 : decode cL_law 1023 = .ok (.iconst 0, 1) := by decide +kernel
theorem dL_law_1024 : decode cL_law 1024 = .ok (.ireturn, 1) := by decide +kernel
theorem dL_law_1025 : decode cL_law 1025 = .ok (.iload 6, 2) := by decide +kernel
theorem dL_law_1027 : decode cL_law 1027 = .ok (.ifCond .ne 15, 3) := by decide +kernel
theorem dL_law_1030 : decode cL_law 1030 = .ok (.aload_n 3, 1) := by decide +kernel
theorem dL_law_1031 : decode cL_law 1031 = .ok (.iconst 0, 1) := by decide +kernel
theorem dL_law_1032 : decode cL_law 1032 = .ok (.laload, 1) := by decide +kernel
theorem dL_law_1033 : decode cL_law 1033 = .ok (.iload 7, 2) := by decide +kernel
theorem dL_law_1035 : decode cL_law 1035 = .ok (.i2l, 1) := by decide +kernel
theorem dL_law_1036 : decode cL_law 1036 = .ok (.lcmp, 1) := by decide +kernel
theorem dL_law_1037 : decode cL_law 1037 = .ok (.ifCond .eq 5, 3) := by decide +kernel
theorem dL_law_1040 : decode cL_law 1040 = .ok (.iconst 0, 1) := by decide +kernel
theorem dL_law_1041 : decode cL_law 1041 = .ok (.ireturn, 1) := by decide +kernel
theorem dL_law_1042 : decode cL_law 1042 = .ok (.goto 2278, 3) := by decide +kernel
set_option maxRecDepth 100000 in
set_option maxHeartbeats 4000000 in
theorem law_11 {l : Launch} {g : Nat → Nat} {nm ds : String} {tb : List ExceptionTableEntry} {L mc ms : Nat} {Po : Res → LH → Prop} {X : CX} {M : LH} {k0 n0 : Nat} (htr : l.stackTraces = false) {b SN : Nat} {xs : Nat → Int32} (hX : Sc b SN xs X) {kd : Nat → Nat} {p : Nat} {q a : Nat → Nat} {e8 : Int32 → Nat} {v : Int32 → Int32} {sv : Int32} {sa : Int32 → Int32} {ch : Int32} {pa tx : Int32 → Int32} {tn : Int32} {Ls : List Int32} {ea fl : Int32} {m : Nat} {w : Nat → Nat} {t bf he en wr dg : Int32} {b4 fr th bs li lf to : Int32 → Int32} {out outD : Nat} {N : Nat} (hP : Pg kd M p q a e8 v sv sa ch pa tx tn Ls ea fl) (hM : Md kd 30 M m w t ch ea fl sv bf tn he en (nI Ls.length) wr dg v b4 sa pa fr th bs tx li lf to) (hS : Lw N v sv sa ch pa tn Ls ea fl li) (hN : N ≤ 512) {h0 : Nat → Int64} (hO : M out = some (la 1 h0)) (ko : kd out = 31) {h2 : Nat → UInt64} (hO2 : M outD = some (da 1 h2)) (ko2 : kd outD = 31) {i : Int32} (hi : ∀ j : Int32, 1 ≤ j → j ≤ 5 → 0 ≤ i + j ∧ (i + j).toNatClampNeg < SN) (hL : 30 ≤ L) (hk : k0 + 8 ≤ mc) (hn : n0 + 600 ≤ ms) {z6 z7 z8 : Option Value} (kk : ∀ (M' : LH) (z6 z7 z8 : Option Value), LI p m out outD (N + 1) M' → V l g ⟨"SledgePostLaw", nm, ds⟩ cL_law (some .boolean) tb L mc ms Po X M' (k0 + 8) (n0 + 600) 3320 [some (.ref b), some (.ref p), some (.ref m), some (.ref out), some (.ref outD), some (.int i), z6, z7, z8] []) : V l g ⟨"SledgePostLaw", nm, ds⟩ cL_law (some .boolean) tb L mc ms Po X M k0 n0 977 [some (.ref b), some (.ref p), some (.ref m), some (.ref out), some (.ref outD), some (.int i), z6, z7, z8] [] := by
  obtain ⟨hG, hSy, hv4⟩ := hS.1
  obtain ⟨-, -, -, -, ⟨tn0, tn60⟩, ⟨ea1, fl1⟩, ⟨hTl, hLs⟩, c0, c8⟩ := _root_.id hS
  obtain ⟨h461, h46⟩ := hS.1.r hN
  obtain ⟨hs0, old0, ⟨hpO, -⟩, -⟩ := _root_.id hP
  refine v_aload_n dL_law_977 rfl rfl ?_
  refine v_aload_n dL_law_978 rfl rfl ?_
  refine v_iload dL_law_979 rfl ?_
  refine v_iconst (v := 1) dL_law_981 (by decide) ?_
  refine v_iadd dL_law_982 ?_
  refine v_sld hX dL_law_983 (hi 1 (by decide) (by decide)).1 (hi 1 (by decide) (by decide)).2 ?_
  refine v_aload_n dL_law_984 rfl rfl ?_
  refine v_iload dL_law_985 rfl ?_
  refine v_iconst (v := 2) dL_law_987 (by decide) ?_
  refine v_iadd dL_law_988 ?_
  refine v_sld hX dL_law_989 (hi 2 (by decide) (by decide)).1 (hi 2 (by decide) (by decide)).2 ?_
  refine v_aload_n dL_law_990 rfl rfl ?_
  refine kl_227 dL_law_991 rfl (w_L_road htr (f_road htr hP (xs (i + 1).toNatClampNeg) (xs (i + 2).toNatClampNeg)) hpO (fun r M9 h9 => ⟨_, (h9.2.2.2 out (by rw [ko]; decide)).trans hO⟩) (fun E M9 h9 => h9.2.1)) (by omega) (by omega) (by omega) (Nat.le_of_ble_eq_true rfl) (fun r9 M9 h9 => ?_) (fun _ _ h9 => h9.elim)
  rcases h9 with ⟨rfl, r, M8, h8, ⟨hc, rfl, hP8, hF8⟩, hh, rfl⟩ | ⟨E, ⟨hc, hE0, hP8, hF8⟩, hE⟩
  · skip
    have f31 : Fs kd (fun r => r = 31) M8 (hup M8 out (la 1 h8)) := fun x hx => hup_n (fun z => hx (by rw [z]; exact ko))
    have hP9 := hP8.fs f31 (fun r h => by omega)
    have hM9 := (hM.tp (hF8.t 30 (Nat.le_refl _))).tp (f31.tp (by decide))
    have hO9 := up_k (e' := la 1 h8) ((hF8 outD (by rw [ko2]; decide)).trans hO2) ((hF8 out (by rw [ko]; decide)).trans hO) da_la
    refine v_istore_6 dL_law_994 ?_
    refine v_aload_n dL_law_996 rfl rfl ?_
    refine v_aload_n dL_law_997 rfl rfl ?_
    refine v_iload dL_law_998 rfl ?_
    refine v_iconst (v := 1) dL_law_1000 (by decide) ?_
    refine v_iadd dL_law_1001 ?_
    refine v_sld hX dL_law_1002 (hi 1 (by decide) (by decide)).1 (hi 1 (by decide) (by decide)).2 ?_
    refine v_aload_n dL_law_1003 rfl rfl ?_
    refine v_iload dL_law_1004 rfl ?_
    refine v_iconst (v := 2) dL_law_1006 (by decide) ?_
    refine v_iadd dL_law_1007 ?_
    refine v_sld hX dL_law_1008 (hi 2 (by decide) (by decide)).1 (hi 2 (by decide) (by decide)).2 ?_
    refine k_L_229 dL_law_1009 rfl (r_road htr hM9 hG (xs (i + 1).toNatClampNeg) (xs (i + 2).toNatClampNeg)) hM9.1 (by omega) (by omega) (by omega) (Nat.le_of_ble_eq_true rfl) (fun r1009 M9 h9 => ?_) (fun _ _ h9 => h9.elim)
    obtain ⟨h9, hF9⟩ := h9
    rcases h9 with ⟨-, rfl, hC⟩ | ⟨hn, -⟩
    rotate_left
    · first | exact absurd hc hn | exact absurd hn hc
    have hOA := LR1 (kd := kd) hup_s ko hF9
    have hOD := LR1 hO9 ko2 hF9
    refine v_istore_7 dL_law_1012 ?_
    refine v_aload_n dL_law_1014 rfl rfl ?_
    refine k_L_189 dL_law_1015 rfl (r_thrown htr hC) hC.1 (by omega) (by omega) (by omega) (Nat.le_of_ble_eq_true rfl) (fun r1015 M9 h9 => ?_) (fun _ _ h9 => h9.elim)
    obtain ⟨rfl, e9⟩ := h9
    subst M9
    refine v_iload dL_law_1018 rfl ?_
    refine v_icmp_eq (tgt := 1025) dL_law_1020 (by decide) (fun h1020 => ?_) (fun h1020 => ?_)
    · refine v_iload dL_law_1025 rfl ?_
      refine v_if_ne (tgt := 1042) dL_law_1027 (by decide) (fun h1027 => ?_) (fun h1027 => ?_)
      · exact absurd rfl h1027
      · refine v_aload_n dL_law_1030 rfl rfl ?_
        refine v_iconst (v := 0) dL_law_1031 (by decide) ?_
        refine v_lald dL_law_1032 hOA ?_
        refine v_iload dL_law_1033 rfl ?_
        refine v_i2l dL_law_1035 ?_
        refine v_lcmp dL_law_1036 ?_
        rw [hh, lg_self]
        refine v_if_eq (tgt := 1042) dL_law_1037 (by decide) (fun h1037 => ?_) (fun h1037 => ?_)
        · refine v_goto (tgt := 3320) dL_law_1042 (by decide) ?_
          refine V.wid (k' := k0 + 8) (n' := n0 + 600) (by omega) (by omega) (kk _ _ _ _ ?_)
          exact ⟨kd, q, a, e8, v, sv, sa, ch, pa, tx, tn, Ls, ea, fl, w, _, _, _, _, _, _, _, _, _, _, _, _, _, hP9.fs (Frm.fs (S := fun r => r = 30) hF9 rfl) (fun r h => by omega), hC, hS.up, ⟨⟨_, hOA⟩, ko⟩, ⟨_, hOD⟩, ko2⟩
        · exact absurd rfl h1037
    · exact absurd rfl h1020
  · skip
    have hM9 := hM.tp (hF8.t 30 (Nat.le_refl _))
    have hO8 := (hF8 out (by rw [ko]; decide)).trans hO
    have hO9 := (hF8 outD (by rw [ko2]; decide)).trans hO2
    obtain ⟨-, rfl⟩ := hE
    refine v_istore_6 dL_law_994 ?_
    refine v_aload_n dL_law_996 rfl rfl ?_
    refine v_aload_n dL_law_997 rfl rfl ?_
    refine v_iload dL_law_998 rfl ?_
    refine v_iconst (v := 1) dL_law_1000 (by decide) ?_
    refine v_iadd dL_law_1001 ?_
    refine v_sld hX dL_law_1002 (hi 1 (by decide) (by decide)).1 (hi 1 (by decide) (by decide)).2 ?_
    refine v_aload_n dL_law_1003 rfl rfl ?_
    refine v_iload dL_law_1004 rfl ?_
    refine v_iconst (v := 2) dL_law_1006 (by decide) ?_
    refine v_iadd dL_law_1007 ?_
    refine v_sld hX dL_law_1008 (hi 2 (by decide) (by decide)).1 (hi 2 (by decide) (by decide)).2 ?_
    refine k_L_229 dL_law_1009 rfl (r_road htr hM9 hG (xs (i + 1).toNatClampNeg) (xs (i + 2).toNatClampNeg)) hM9.1 (by omega) (by omega) (by omega) (Nat.le_of_ble_eq_true rfl) (fun r1009 M9 h9 => ?_) (fun _ _ h9 => h9.elim)
    obtain ⟨h9, hF9⟩ := h9
    rcases h9 with ⟨hn, -⟩ | ⟨-, rfl, hC⟩
    · first | exact absurd hn hc | exact absurd hc hn
    have hOA := LR1 hO8 ko hF9
    have hOD := LR1 hO9 ko2 hF9
    refine v_istore_7 dL_law_1012 ?_
    refine v_aload_n dL_law_1014 rfl rfl ?_
    refine k_L_189 dL_law_1015 rfl (r_thrown htr hC) hC.1 (by omega) (by omega) (by omega) (Nat.le_of_ble_eq_true rfl) (fun r1015 M9 h9 => ?_) (fun _ _ h9 => h9.elim)
    obtain ⟨rfl, e9⟩ := h9
    subst M9
    refine v_iload dL_law_1018 rfl ?_
    refine v_icmp_eq (tgt := 1025) dL_law_1020 (by decide) (fun h1020 => ?_) (fun h1020 => ?_)
    · refine v_iload dL_law_1025 rfl ?_
      refine v_if_ne (tgt := 1042) dL_law_1027 (by decide) (fun h1027 => ?_) (fun h1027 => ?_)
      · refine v_goto (tgt := 3320) dL_law_1042 (by decide) ?_
        refine V.wid (k' := k0 + 8) (n' := n0 + 600) (by omega) (by omega) (kk _ _ _ _ ?_)
        exact ⟨kd, q, a, e8, v, sv, sa, ch, pa, tx, tn, Ls, ea, fl, w, _, _, _, _, _, _, _, _, _, _, _, _, _, hP8.fs (Frm.fs (S := fun r => r = 30) hF9 rfl) (fun r h => by omega), hC, hS.up, ⟨⟨_, hOA⟩, ko⟩, ⟨_, hOD⟩, ko2⟩
      · exact absurd h1027 (by decide)
    · exact absurd rfl h1020
theorem dL_law_1256 : decode cL_law 1256 = .ok (.aload_n 1, 1) := by decide +kernel
theorem dL_law_1257 : decode cL_law 1257 = .ok (.aload_n 0, 1) := by decide +kernel
theorem dL_law_1258 : decode cL_law 1258 = .ok (.iload 5, 2) := by decide +kernel
theorem dL_law_1260 : decode cL_law 1260 = .ok (.iconst 1, 1) := by decide +kernel
theorem dL_law_1261 : decode cL_law 1261 = .ok (.iadd, 1) := by decide +kernel
theorem dL_law_1262 : decode cL_law 1262 = .ok (.iaload, 1) := by decide +kernel
theorem dL_law_1263 : decode cL_law 1263 = .ok (.aload_n 3, 1) := by decide +kernel
theorem dL_law_1264 : decode cL_law 1264 = .ok (.invokestatic 239, 3) := by decide +kernel
theorem dL_law_1267 : decode cL_law 1267 = .ok (.istore 6, 2) := by decide +kernel
theorem dL_law_1269 : decode cL_law 1269 = .ok (.aload_n 2, 1) := by decide +kernel
theorem dL_law_1270 : decode cL_law 1270 = .ok (.aload_n 0, 1) := by decide +kernel
theorem dL_law_1271 : decode cL_law 1271 = .ok (.iload 5, 2) := by decide +kernel
theorem dL_law_1273 : decode cL_law 1273 = .ok (.iconst 1, 1) := by decide +kernel
theorem dL_law_1274 : decode cL_law 1274 = .ok (.iadd, 1) := by decide +kernel
theorem dL_law_1275 : decode cL_law 1275 = .ok (.iaload, 1) := by decide +kernel
theorem dL_law_1276 : decode cL_law 1276 = .ok (.invokevirtual 241, 3) := by decide +kernel
theorem dL_law_1279 : decode cL_law 1279 = .ok (.istore 7, 2) := by decide +kernel
theorem dL_law_1281 : decode cL_law 1281 = .ok (.aload_n 2, 1) := by decide +kernel
theorem dL_law_1282 : decode cL_law 1282 = .ok (.invokevirtual 189, 3) := by decide +kernel
theorem dL_law_1285 : decode cL_law 1285 = .ok (.iload 6, 2) := by decide +kernel
theorem dL_law_1287 : decode cL_law 1287 = .ok (.if_icmp .eq 5, 3) := by decide +kernel
theorem dL_law_1290 : decode cL_law 1290 = .ok (.iconst 0, 1) := by decide +kernel
theorem dL_law_1291 : decode cL_law 1291 = .ok (.ireturn, 1) := by decide +kernel
theorem dL_law_1292 : decode cL_law 1292 = .ok (.iload 6, 2) := by decide +kernel
theorem dL_law_1294 : decode cL_law 1294 = .ok (.ifCond .ne 15, 3) := by decide +kernel
theorem dL_law_1297 : decode cL_law 1297 = .ok (.aload_n 3, 1) := by decide +kernel
theorem dL_law_1298 : decode cL_law 1298 = .ok (.iconst 0, 1) := by decide +kernel
theorem dL_law_1299 : decode cL_law 1299 = .ok (.laload, 1) := by decide +kernel
theorem dL_law_1300 : decode cL_law 1300 = .ok (.iload 7, 2) := by decide +kernel
theorem dL_law_1302 : decode cL_law 1302 = .ok (.i2l, 1) := by decide +kernel
theorem dL_law_1303 : decode cL_law 1303 = .ok (.lcmp, 1) := by decide +kernel
theorem dL_law_1304 : decode cL_law 1304 = .ok (.ifCond .eq 5, 3) := by decide +kernel
theorem dL_law_1307 : decode cL_law 1307 = .ok (.iconst 0, 1) := by decide +kernel
theorem dL_law_1308 : decode cL_law 1308 = .ok (.ireturn, 1) := by decide +kernel
theorem dL_law_1309 : decode cL_law 1309 = .ok (.goto 2011, 3) := by decide +kernel
set_option maxRecDepth 100000 in
set_option maxHeartbeats 4000000 in
theorem law_15 {l : Launch} {g : Nat → Nat} {nm ds : String} {tb : List ExceptionTableEntry} {L mc ms : Nat} {Po : Res → LH → Prop} {X : CX} {M : LH} {k0 n0 : Nat} (htr : l.stackTraces = false) {b SN : Nat} {xs : Nat → Int32} (hX : Sc b SN xs X) {kd : Nat → Nat} {p : Nat} {q a : Nat → Nat} {e8 : Int32 → Nat} {v : Int32 → Int32} {sv : Int32} {sa : Int32 → Int32} {ch : Int32} {pa tx : Int32 → Int32} {tn : Int32} {Ls : List Int32} {ea fl : Int32} {m : Nat} {w : Nat → Nat} {t bf he en wr dg : Int32} {b4 fr th bs li lf to : Int32 → Int32} {out outD : Nat} {N : Nat} (hP : Pg kd M p q a e8 v sv sa ch pa tx tn Ls ea fl) (hM : Md kd 30 M m w t ch ea fl sv bf tn he en (nI Ls.length) wr dg v b4 sa pa fr th bs tx li lf to) (hS : Lw N v sv sa ch pa tn Ls ea fl li) (hN : N ≤ 512) {h0 : Nat → Int64} (hO : M out = some (la 1 h0)) (ko : kd out = 31) {h2 : Nat → UInt64} (hO2 : M outD = some (da 1 h2)) (ko2 : kd outD = 31) {i : Int32} (hi : ∀ j : Int32, 1 ≤ j → j ≤ 5 → 0 ≤ i + j ∧ (i + j).toNatClampNeg < SN) (hL : 30 ≤ L) (hk : k0 + 8 ≤ mc) (hn : n0 + 600 ≤ ms) {z6 z7 z8 : Option Value} (kk : ∀ (M' : LH) (z6 z7 z8 : Option Value), LI p m out outD (N + 1) M' → V l g ⟨"SledgePostLaw", nm, ds⟩ cL_law (some .boolean) tb L mc ms Po X M' (k0 + 8) (n0 + 600) 3320 [some (.ref b), some (.ref p), some (.ref m), some (.ref out), some (.ref outD), some (.int i), z6, z7, z8] []) : V l g ⟨"SledgePostLaw", nm, ds⟩ cL_law (some .boolean) tb L mc ms Po X M k0 n0 1256 [some (.ref b), some (.ref p), some (.ref m), some (.ref out), some (.ref outD), some (.int i), z6, z7, z8] [] := by
  obtain ⟨hG, hSy, hv4⟩ := hS.1
  obtain ⟨-, -, -, -, ⟨tn0, tn60⟩, ⟨ea1, fl1⟩, ⟨hTl, hLs⟩, c0, c8⟩ := _root_.id hS
  obtain ⟨h461, h46⟩ := hS.1.r hN
  obtain ⟨hs0, old0, ⟨hpO, -⟩, -⟩ := _root_.id hP
  refine v_aload_n dL_law_1256 rfl rfl ?_
  refine v_aload_n dL_law_1257 rfl rfl ?_
  refine v_iload dL_law_1258 rfl ?_
  refine v_iconst (v := 1) dL_law_1260 (by decide) ?_
  refine v_iadd dL_law_1261 ?_
  refine v_sld hX dL_law_1262 (hi 1 (by decide) (by decide)).1 (hi 1 (by decide) (by decide)).2 ?_
  refine v_aload_n dL_law_1263 rfl rfl ?_
  refine kl_239 dL_law_1264 rfl (w_L_waitingIn htr (f_waitingIn htr hP (xs (i + 1).toNatClampNeg)) hpO (fun r M9 h9 => ⟨_, (h9.2.2.2 out (by rw [ko]; decide)).trans hO⟩) (fun E M9 h9 => h9.2.1)) (by omega) (by omega) (by omega) (Nat.le_of_ble_eq_true rfl) (fun r9 M9 h9 => ?_) (fun _ _ h9 => h9.elim)
  rcases h9 with ⟨rfl, r, M8, h8, ⟨hc, rfl, hP8, hF8⟩, hh, rfl⟩ | ⟨E, ⟨hc, hE0, hP8, hF8⟩, hE⟩
  · skip
    have f31 : Fs kd (fun r => r = 31) M8 (hup M8 out (la 1 h8)) := fun x hx => hup_n (fun z => hx (by rw [z]; exact ko))
    have hP9 := hP8.fs f31 (fun r h => by omega)
    have hM9 := (hM.tp (hF8.t 30 (Nat.le_refl _))).tp (f31.tp (by decide))
    have hO9 := up_k (e' := la 1 h8) ((hF8 outD (by rw [ko2]; decide)).trans hO2) ((hF8 out (by rw [ko]; decide)).trans hO) da_la
    refine v_istore_6 dL_law_1267 ?_
    refine v_aload_n dL_law_1269 rfl rfl ?_
    refine v_aload_n dL_law_1270 rfl rfl ?_
    refine v_iload dL_law_1271 rfl ?_
    refine v_iconst (v := 1) dL_law_1273 (by decide) ?_
    refine v_iadd dL_law_1274 ?_
    refine v_sld hX dL_law_1275 (hi 1 (by decide) (by decide)).1 (hi 1 (by decide) (by decide)).2 ?_
    refine k_L_241 dL_law_1276 rfl (r_waitingIn htr hM9 hG (xs (i + 1).toNatClampNeg)) hM9.1 (by omega) (by omega) (by omega) (Nat.le_of_ble_eq_true rfl) (fun r1276 M9 h9 => ?_) (fun _ _ h9 => h9.elim)
    obtain ⟨y0, h9, hF9⟩ := h9
    rcases h9 with ⟨-, rfl, hC⟩ | ⟨hn, -⟩
    rotate_left
    · first | exact absurd hc hn | exact absurd hn hc
    have hOA := LR1 (kd := kd) hup_s ko hF9
    have hOD := LR1 hO9 ko2 hF9
    refine v_istore_7 dL_law_1279 ?_
    refine v_aload_n dL_law_1281 rfl rfl ?_
    refine k_L_189 dL_law_1282 rfl (r_thrown htr hC) hC.1 (by omega) (by omega) (by omega) (Nat.le_of_ble_eq_true rfl) (fun r1282 M9 h9 => ?_) (fun _ _ h9 => h9.elim)
    obtain ⟨rfl, e9⟩ := h9
    subst M9
    refine v_iload dL_law_1285 rfl ?_
    refine v_icmp_eq (tgt := 1292) dL_law_1287 (by decide) (fun h1287 => ?_) (fun h1287 => ?_)
    · refine v_iload dL_law_1292 rfl ?_
      refine v_if_ne (tgt := 1309) dL_law_1294 (by decide) (fun h1294 => ?_) (fun h1294 => ?_)
      · exact absurd rfl h1294
      · refine v_aload_n dL_law_1297 rfl rfl ?_
        refine v_iconst (v := 0) dL_law_1298 (by decide) ?_
        refine v_lald dL_law_1299 hOA ?_
        refine v_iload dL_law_1300 rfl ?_
        refine v_i2l dL_law_1302 ?_
        refine v_lcmp dL_law_1303 ?_
        rw [hh, lg_self]
        refine v_if_eq (tgt := 1309) dL_law_1304 (by decide) (fun h1304 => ?_) (fun h1304 => ?_)
        · refine v_goto (tgt := 3320) dL_law_1309 (by decide) ?_
          refine V.wid (k' := k0 + 8) (n' := n0 + 600) (by omega) (by omega) (kk _ _ _ _ ?_)
          exact ⟨kd, q, a, e8, v, sv, sa, ch, pa, tx, tn, Ls, ea, fl, w, _, _, _, _, _, _, _, _, _, _, _, _, _, hP9.fs (Frm.fs (S := fun r => r = 30) hF9 rfl) (fun r h => by omega), hC, hS.up, ⟨⟨_, hOA⟩, ko⟩, ⟨_, hOD⟩, ko2⟩
        · exact absurd rfl h1304
    · exact absurd rfl h1287
  · skip
    have hM9 := hM.tp (hF8.t 30 (Nat.le_refl _))
    have hO8 := (hF8 out (by rw [ko]; decide)).trans hO
    have hO9 := (hF8 outD (by rw [ko2]; decide)).trans hO2
    obtain ⟨-, rfl⟩ := hE
    refine v_istore_6 dL_law_1267 ?_
    refine v_aload_n dL_law_1269 rfl rfl ?_
    refine v_aload_n dL_law_1270 rfl rfl ?_
    refine v_iload dL_law_1271 rfl ?_
    refine v_iconst (v := 1) dL_law_1273 (by decide) ?_
    refine v_iadd dL_law_1274 ?_
    refine v_sld hX dL_law_1275 (hi 1 (by decide) (by decide)).1 (hi 1 (by decide) (by decide)).2 ?_
    refine k_L_241 dL_law_1276 rfl (r_waitingIn htr hM9 hG (xs (i + 1).toNatClampNeg)) hM9.1 (by omega) (by omega) (by omega) (Nat.le_of_ble_eq_true rfl) (fun r1276 M9 h9 => ?_) (fun _ _ h9 => h9.elim)
    obtain ⟨y0, h9, hF9⟩ := h9
    rcases h9 with ⟨hn, -⟩ | ⟨-, rfl, hC⟩
    · first | exact absurd hn hc | exact absurd hc hn
    have hOA := LR1 hO8 ko hF9
    have hOD := LR1 hO9 ko2 hF9
    refine v_istore_7 dL_law_1279 ?_
    refine v_aload_n dL_law_1281 rfl rfl ?_
    refine k_L_189 dL_law_1282 rfl (r_thrown htr hC) hC.1 (by omega) (by omega) (by omega) (Nat.le_of_ble_eq_true rfl) (fun r1282 M9 h9 => ?_) (fun _ _ h9 => h9.elim)
    obtain ⟨rfl, e9⟩ := h9
    subst M9
    refine v_iload dL_law_1285 rfl ?_
    refine v_icmp_eq (tgt := 1292) dL_law_1287 (by decide) (fun h1287 => ?_) (fun h1287 => ?_)
    · refine v_iload dL_law_1292 rfl ?_
      refine v_if_ne (tgt := 1309) dL_law_1294 (by decide) (fun h1294 => ?_) (fun h1294 => ?_)
      · refine v_goto (tgt := 3320) dL_law_1309 (by decide) ?_
        refine V.wid (k' := k0 + 8) (n' := n0 + 600) (by omega) (by omega) (kk _ _ _ _ ?_)
        exact ⟨kd, q, a, e8, v, sv, sa, ch, pa, tx, tn, Ls, ea, fl, w, _, _, _, _, _, _, _, _, _, _, _, _, _, hP8.fs (Frm.fs (S := fun r => r = 30) hF9 rfl) (fun r h => by omega), hC, hS.up, ⟨⟨_, hOA⟩, ko⟩, ⟨_, hOD⟩, ko2⟩
      · exact absurd h1294 (by decide)
    · exact absurd rfl h1287
theorem dL_law_1325 : decode cL_law 1325 = .ok (.aload_n 1, 1) := by decide +kernel
theorem dL_law_1326 : decode cL_law 1326 = .ok (.aload_n 0, 1) := by decide +kernel
theorem dL_law_1327 : decode cL_law 1327 = .ok (.iload 5, 2) := by decide +kernel
theorem dL_law_1329 : decode cL_law 1329 = .ok (.iconst 1, 1) := by decide +kernel
theorem dL_law_1330 : decode cL_law 1330 = .ok (.iadd, 1) := by decide +kernel
theorem dL_law_1331 : decode cL_law 1331 = .ok (.iaload, 1) := by decide +kernel
theorem dL_law_1332 : decode cL_law 1332 = .ok (.aload_n 3, 1) := by decide +kernel
theorem dL_law_1333 : decode cL_law 1333 = .ok (.invokestatic 246, 3) := by decide +kernel
theorem dL_law_1336 : decode cL_law 1336 = .ok (.istore 6, 2) := by decide +kernel
theorem dL_law_1338 : decode cL_law 1338 = .ok (.aload_n 2, 1) := by decide +kernel
theorem dL_law_1339 : decode cL_law 1339 = .ok (.aload_n 0, 1) := by decide +kernel
theorem dL_law_1340 : decode cL_law 1340 = .ok (.iload 5, 2) := by decide +kernel
theorem dL_law_1342 : decode cL_law 1342 = .ok (.iconst 1, 1) := by decide +kernel
theorem dL_law_1343 : decode cL_law 1343 = .ok (.iadd, 1) := by decide +kernel
theorem dL_law_1344 : decode cL_law 1344 = .ok (.iaload, 1) := by decide +kernel
theorem dL_law_1345 : decode cL_law 1345 = .ok (.invokevirtual 248, 3) := by decide +kernel
theorem dL_law_1348 : decode cL_law 1348 = .ok (.istore 7, 2) := by decide +kernel
theorem dL_law_1350 : decode cL_law 1350 = .ok (.aload_n 2, 1) := by decide +kernel
theorem dL_law_1351 : decode cL_law 1351 = .ok (.invokevirtual 189, 3) := by decide +kernel
theorem dL_law_1354 : decode cL_law 1354 = .ok (.iload 6, 2) := by decide +kernel
theorem dL_law_1356 : decode cL_law 1356 = .ok (.if_icmp .eq 5, 3) := by decide +kernel
theorem dL_law_1359 : decode cL_law 1359 = .ok (.iconst 0, 1) := by decide +kernel
theorem dL_law_1360 : decode cL_law 1360 = .ok (.ireturn, 1) := by decide +kernel
theorem dL_law_1361 : decode cL_law 1361 = .ok (.iload 6, 2) := by decide +kernel
theorem dL_law_1363 : decode cL_law 1363 = .ok (.ifCond .ne 15, 3) := by decide +kernel
theorem dL_law_1366 : decode cL_law 1366 = .ok (.aload_n 3, 1) := by decide +kernel
theorem dL_law_1367 : decode cL_law 1367 = .ok (.iconst 0, 1) := by decide +kernel
theorem dL_law_1368 : decode cL_law 1368 = .ok (.laload, 1) := by decide +kernel
theorem dL_law_1369 : decode cL_law 1369 = .ok (.iload 7, 2) := by decide +kernel
theorem dL_law_1371 : decode cL_law 1371 = .ok (.i2l, 1) := by decide +kernel
theorem dL_law_1372 : decode cL_law 1372 = .ok (.lcmp, 1) := by decide +kernel
theorem dL_law_1373 : decode cL_law 1373 = .ok (.ifCond .eq 5, 3) := by decide +kernel
theorem dL_law_1376 : decode cL_law 1376 = .ok (.iconst 0, 1) := by decide +kernel
theorem dL_law_1377 : decode cL_law 1377 = .ok (.ireturn, 1) := by decide +kernel
theorem dL_law_1378 : decode cL_law 1378 = .ok (.goto 1942, 3) := by decide +kernel
set_option maxRecDepth 100000 in
set_option maxHeartbeats 4000000 in
theorem law_17 {l : Launch} {g : Nat → Nat} {nm ds : String} {tb : List ExceptionTableEntry} {L mc ms : Nat} {Po : Res → LH → Prop} {X : CX} {M : LH} {k0 n0 : Nat} (htr : l.stackTraces = false) {b SN : Nat} {xs : Nat → Int32} (hX : Sc b SN xs X) {kd : Nat → Nat} {p : Nat} {q a : Nat → Nat} {e8 : Int32 → Nat} {v : Int32 → Int32} {sv : Int32} {sa : Int32 → Int32} {ch : Int32} {pa tx : Int32 → Int32} {tn : Int32} {Ls : List Int32} {ea fl : Int32} {m : Nat} {w : Nat → Nat} {t bf he en wr dg : Int32} {b4 fr th bs li lf to : Int32 → Int32} {out outD : Nat} {N : Nat} (hP : Pg kd M p q a e8 v sv sa ch pa tx tn Ls ea fl) (hM : Md kd 30 M m w t ch ea fl sv bf tn he en (nI Ls.length) wr dg v b4 sa pa fr th bs tx li lf to) (hS : Lw N v sv sa ch pa tn Ls ea fl li) (hN : N ≤ 512) {h0 : Nat → Int64} (hO : M out = some (la 1 h0)) (ko : kd out = 31) {h2 : Nat → UInt64} (hO2 : M outD = some (da 1 h2)) (ko2 : kd outD = 31) {i : Int32} (hi : ∀ j : Int32, 1 ≤ j → j ≤ 5 → 0 ≤ i + j ∧ (i + j).toNatClampNeg < SN) (hL : 30 ≤ L) (hk : k0 + 8 ≤ mc) (hn : n0 + 600 ≤ ms) {z6 z7 z8 : Option Value} (kk : ∀ (M' : LH) (z6 z7 z8 : Option Value), LI p m out outD (N + 1) M' → V l g ⟨"SledgePostLaw", nm, ds⟩ cL_law (some .boolean) tb L mc ms Po X M' (k0 + 8) (n0 + 600) 3320 [some (.ref b), some (.ref p), some (.ref m), some (.ref out), some (.ref outD), some (.int i), z6, z7, z8] []) : V l g ⟨"SledgePostLaw", nm, ds⟩ cL_law (some .boolean) tb L mc ms Po X M k0 n0 1325 [some (.ref b), some (.ref p), some (.ref m), some (.ref out), some (.ref outD), some (.int i), z6, z7, z8] [] := by
  obtain ⟨hG, hSy, hv4⟩ := hS.1
  obtain ⟨-, -, -, -, ⟨tn0, tn60⟩, ⟨ea1, fl1⟩, ⟨hTl, hLs⟩, c0, c8⟩ := _root_.id hS
  obtain ⟨h461, h46⟩ := hS.1.r hN
  obtain ⟨hs0, old0, ⟨hpO, -⟩, -⟩ := _root_.id hP
  refine v_aload_n dL_law_1325 rfl rfl ?_
  refine v_aload_n dL_law_1326 rfl rfl ?_
  refine v_iload dL_law_1327 rfl ?_
  refine v_iconst (v := 1) dL_law_1329 (by decide) ?_
  refine v_iadd dL_law_1330 ?_
  refine v_sld hX dL_law_1331 (hi 1 (by decide) (by decide)).1 (hi 1 (by decide) (by decide)).2 ?_
  refine v_aload_n dL_law_1332 rfl rfl ?_
  refine kl_246 dL_law_1333 rfl (w_L_capacity htr (f_capacity htr hP (xs (i + 1).toNatClampNeg)) hpO (fun r M9 h9 => ⟨_, (h9.2.2.2 out (by rw [ko]; decide)).trans hO⟩) (fun E M9 h9 => h9.2.1)) (by omega) (by omega) (by omega) (Nat.le_of_ble_eq_true rfl) (fun r9 M9 h9 => ?_) (fun _ _ h9 => h9.elim)
  rcases h9 with ⟨rfl, r, M8, h8, ⟨hc, rfl, hP8, hF8⟩, hh, rfl⟩ | ⟨E, ⟨hc, hE0, hP8, hF8⟩, hE⟩
  · skip
    have f31 : Fs kd (fun r => r = 31) M8 (hup M8 out (la 1 h8)) := fun x hx => hup_n (fun z => hx (by rw [z]; exact ko))
    have hP9 := hP8.fs f31 (fun r h => by omega)
    have hM9 := (hM.tp (hF8.t 30 (Nat.le_refl _))).tp (f31.tp (by decide))
    have hO9 := up_k (e' := la 1 h8) ((hF8 outD (by rw [ko2]; decide)).trans hO2) ((hF8 out (by rw [ko]; decide)).trans hO) da_la
    refine v_istore_6 dL_law_1336 ?_
    refine v_aload_n dL_law_1338 rfl rfl ?_
    refine v_aload_n dL_law_1339 rfl rfl ?_
    refine v_iload dL_law_1340 rfl ?_
    refine v_iconst (v := 1) dL_law_1342 (by decide) ?_
    refine v_iadd dL_law_1343 ?_
    refine v_sld hX dL_law_1344 (hi 1 (by decide) (by decide)).1 (hi 1 (by decide) (by decide)).2 ?_
    refine k_L_248 dL_law_1345 rfl (r_capacity htr hM9 hG (xs (i + 1).toNatClampNeg)) hM9.1 (by omega) (by omega) (by omega) (Nat.le_of_ble_eq_true rfl) (fun r1345 M9 h9 => ?_) (fun _ _ h9 => h9.elim)
    obtain ⟨h9, hF9⟩ := h9
    rcases h9 with ⟨-, rfl, hC⟩ | ⟨hn, -⟩
    rotate_left
    · first | exact absurd hc hn | exact absurd hn hc
    have hOA := LR1 (kd := kd) hup_s ko hF9
    have hOD := LR1 hO9 ko2 hF9
    refine v_istore_7 dL_law_1348 ?_
    refine v_aload_n dL_law_1350 rfl rfl ?_
    refine k_L_189 dL_law_1351 rfl (r_thrown htr hC) hC.1 (by omega) (by omega) (by omega) (Nat.le_of_ble_eq_true rfl) (fun r1351 M9 h9 => ?_) (fun _ _ h9 => h9.elim)
    obtain ⟨rfl, e9⟩ := h9
    subst M9
    refine v_iload dL_law_1354 rfl ?_
    refine v_icmp_eq (tgt := 1361) dL_law_1356 (by decide) (fun h1356 => ?_) (fun h1356 => ?_)
    · refine v_iload dL_law_1361 rfl ?_
      refine v_if_ne (tgt := 1378) dL_law_1363 (by decide) (fun h1363 => ?_) (fun h1363 => ?_)
      · exact absurd rfl h1363
      · refine v_aload_n dL_law_1366 rfl rfl ?_
        refine v_iconst (v := 0) dL_law_1367 (by decide) ?_
        refine v_lald dL_law_1368 hOA ?_
        refine v_iload dL_law_1369 rfl ?_
        refine v_i2l dL_law_1371 ?_
        refine v_lcmp dL_law_1372 ?_
        rw [hh, lg_self]
        refine v_if_eq (tgt := 1378) dL_law_1373 (by decide) (fun h1373 => ?_) (fun h1373 => ?_)
        · refine v_goto (tgt := 3320) dL_law_1378 (by decide) ?_
          refine V.wid (k' := k0 + 8) (n' := n0 + 600) (by omega) (by omega) (kk _ _ _ _ ?_)
          exact ⟨kd, q, a, e8, v, sv, sa, ch, pa, tx, tn, Ls, ea, fl, w, _, _, _, _, _, _, _, _, _, _, _, _, _, hP9.fs (Frm.fs (S := fun r => r = 30) hF9 rfl) (fun r h => by omega), hC, hS.up, ⟨⟨_, hOA⟩, ko⟩, ⟨_, hOD⟩, ko2⟩
        · exact absurd rfl h1373
    · exact absurd rfl h1356
  · skip
    have hM9 := hM.tp (hF8.t 30 (Nat.le_refl _))
    have hO8 := (hF8 out (by rw [ko]; decide)).trans hO
    have hO9 := (hF8 outD (by rw [ko2]; decide)).trans hO2
    obtain ⟨-, rfl⟩ := hE
    refine v_istore_6 dL_law_1336 ?_
    refine v_aload_n dL_law_1338 rfl rfl ?_
    refine v_aload_n dL_law_1339 rfl rfl ?_
    refine v_iload dL_law_1340 rfl ?_
    refine v_iconst (v := 1) dL_law_1342 (by decide) ?_
    refine v_iadd dL_law_1343 ?_
    refine v_sld hX dL_law_1344 (hi 1 (by decide) (by decide)).1 (hi 1 (by decide) (by decide)).2 ?_
    refine k_L_248 dL_law_1345 rfl (r_capacity htr hM9 hG (xs (i + 1).toNatClampNeg)) hM9.1 (by omega) (by omega) (by omega) (Nat.le_of_ble_eq_true rfl) (fun r1345 M9 h9 => ?_) (fun _ _ h9 => h9.elim)
    obtain ⟨h9, hF9⟩ := h9
    rcases h9 with ⟨hn, -⟩ | ⟨-, rfl, hC⟩
    · first | exact absurd hn hc | exact absurd hc hn
    have hOA := LR1 hO8 ko hF9
    have hOD := LR1 hO9 ko2 hF9
    refine v_istore_7 dL_law_1348 ?_
    refine v_aload_n dL_law_1350 rfl rfl ?_
    refine k_L_189 dL_law_1351 rfl (r_thrown htr hC) hC.1 (by omega) (by omega) (by omega) (Nat.le_of_ble_eq_true rfl) (fun r1351 M9 h9 => ?_) (fun _ _ h9 => h9.elim)
    obtain ⟨rfl, e9⟩ := h9
    subst M9
    refine v_iload dL_law_1354 rfl ?_
    refine v_icmp_eq (tgt := 1361) dL_law_1356 (by decide) (fun h1356 => ?_) (fun h1356 => ?_)
    · refine v_iload dL_law_1361 rfl ?_
      refine v_if_ne (tgt := 1378) dL_law_1363 (by decide) (fun h1363 => ?_) (fun h1363 => ?_)
      · refine v_goto (tgt := 3320) dL_law_1378 (by decide) ?_
        refine V.wid (k' := k0 + 8) (n' := n0 + 600) (by omega) (by omega) (kk _ _ _ _ ?_)
        exact ⟨kd, q, a, e8, v, sv, sa, ch, pa, tx, tn, Ls, ea, fl, w, _, _, _, _, _, _, _, _, _, _, _, _, _, hP8.fs (Frm.fs (S := fun r => r = 30) hF9 rfl) (fun r h => by omega), hC, hS.up, ⟨⟨_, hOA⟩, ko⟩, ⟨_, hOD⟩, ko2⟩
      · exact absurd h1363 (by decide)
    · exact absurd rfl h1356
theorem dL_law_1381 : decode cL_law 1381 = .ok (.aload_n 1, 1) := by decide +kernel
theorem dL_law_1382 : decode cL_law 1382 = .ok (.aload_n 0, 1) := by decide +kernel
theorem dL_law_1383 : decode cL_law 1383 = .ok (.iload 5, 2) := by decide +kernel
theorem dL_law_1385 : decode cL_law 1385 = .ok (.iconst 1, 1) := by decide +kernel
theorem dL_law_1386 : decode cL_law 1386 = .ok (.iadd, 1) := by decide +kernel
theorem dL_law_1387 : decode cL_law 1387 = .ok (.iaload, 1) := by decide +kernel
theorem dL_law_1388 : decode cL_law 1388 = .ok (.aload_n 3, 1) := by decide +kernel
theorem dL_law_1389 : decode cL_law 1389 = .ok (.invokestatic 249, 3) := by decide +kernel
theorem dL_law_1392 : decode cL_law 1392 = .ok (.istore 6, 2) := by decide +kernel
theorem dL_law_1394 : decode cL_law 1394 = .ok (.aload_n 2, 1) := by decide +kernel
theorem dL_law_1395 : decode cL_law 1395 = .ok (.aload_n 0, 1) := by decide +kernel
theorem dL_law_1396 : decode cL_law 1396 = .ok (.iload 5, 2) := by decide +kernel
theorem dL_law_1398 : decode cL_law 1398 = .ok (.iconst 1, 1) := by decide +kernel
theorem dL_law_1399 : decode cL_law 1399 = .ok (.iadd, 1) := by decide +kernel
theorem dL_law_1400 : decode cL_law 1400 = .ok (.iaload, 1) := by decide +kernel
theorem dL_law_1401 : decode cL_law 1401 = .ok (.invokevirtual 251, 3) := by decide +kernel
theorem dL_law_1404 : decode cL_law 1404 = .ok (.istore 7, 2) := by decide +kernel
theorem dL_law_1406 : decode cL_law 1406 = .ok (.aload_n 2, 1) := by decide +kernel
theorem dL_law_1407 : decode cL_law 1407 = .ok (.invokevirtual 189, 3) := by decide +kernel
theorem dL_law_1410 : decode cL_law 1410 = .ok (.iload 6, 2) := by decide +kernel
theorem dL_law_1412 : decode cL_law 1412 = .ok (.if_icmp .eq 5, 3) := by decide +kernel
theorem dL_law_1415 : decode cL_law 1415 = .ok (.iconst 0, 1) := by decide +kernel
theorem dL_law_1416 : decode cL_law 1416 = .ok (.ireturn, 1) := by decide +kernel
theorem dL_law_1417 : decode cL_law 1417 = .ok (.iload 6, 2) := by decide +kernel
theorem dL_law_1419 : decode cL_law 1419 = .ok (.ifCond .ne 15, 3) := by decide +kernel
theorem dL_law_1422 : decode cL_law 1422 = .ok (.aload_n 3, 1) := by decide +kernel
theorem dL_law_1423 : decode cL_law 1423 = .ok (.iconst 0, 1) := by decide +kernel
theorem dL_law_1424 : decode cL_law 1424 = .ok (.laload, 1) := by decide +kernel
theorem dL_law_1425 : decode cL_law 1425 = .ok (.iload 7, 2) := by decide +kernel
theorem dL_law_1427 : decode cL_law 1427 = .ok (.i2l, 1) := by decide +kernel
theorem dL_law_1428 : decode cL_law 1428 = .ok (.lcmp, 1) := by decide +kernel
theorem dL_law_1429 : decode cL_law 1429 = .ok (.ifCond .eq 5, 3) := by decide +kernel
theorem dL_law_1432 : decode cL_law 1432 = .ok (.iconst 0, 1) := by decide +kernel
theorem dL_law_1433 : decode cL_law 1433 = .ok (.ireturn, 1) := by decide +kernel
theorem dL_law_1434 : decode cL_law 1434 = .ok (.goto 1886, 3) := by decide +kernel
set_option maxRecDepth 100000 in
set_option maxHeartbeats 4000000 in
theorem law_18 {l : Launch} {g : Nat → Nat} {nm ds : String} {tb : List ExceptionTableEntry} {L mc ms : Nat} {Po : Res → LH → Prop} {X : CX} {M : LH} {k0 n0 : Nat} (htr : l.stackTraces = false) {b SN : Nat} {xs : Nat → Int32} (hX : Sc b SN xs X) {kd : Nat → Nat} {p : Nat} {q a : Nat → Nat} {e8 : Int32 → Nat} {v : Int32 → Int32} {sv : Int32} {sa : Int32 → Int32} {ch : Int32} {pa tx : Int32 → Int32} {tn : Int32} {Ls : List Int32} {ea fl : Int32} {m : Nat} {w : Nat → Nat} {t bf he en wr dg : Int32} {b4 fr th bs li lf to : Int32 → Int32} {out outD : Nat} {N : Nat} (hP : Pg kd M p q a e8 v sv sa ch pa tx tn Ls ea fl) (hM : Md kd 30 M m w t ch ea fl sv bf tn he en (nI Ls.length) wr dg v b4 sa pa fr th bs tx li lf to) (hS : Lw N v sv sa ch pa tn Ls ea fl li) (hN : N ≤ 512) {h0 : Nat → Int64} (hO : M out = some (la 1 h0)) (ko : kd out = 31) {h2 : Nat → UInt64} (hO2 : M outD = some (da 1 h2)) (ko2 : kd outD = 31) {i : Int32} (hi : ∀ j : Int32, 1 ≤ j → j ≤ 5 → 0 ≤ i + j ∧ (i + j).toNatClampNeg < SN) (hL : 30 ≤ L) (hk : k0 + 8 ≤ mc) (hn : n0 + 600 ≤ ms) {z6 z7 z8 : Option Value} (kk : ∀ (M' : LH) (z6 z7 z8 : Option Value), LI p m out outD (N + 1) M' → V l g ⟨"SledgePostLaw", nm, ds⟩ cL_law (some .boolean) tb L mc ms Po X M' (k0 + 8) (n0 + 600) 3320 [some (.ref b), some (.ref p), some (.ref m), some (.ref out), some (.ref outD), some (.int i), z6, z7, z8] []) : V l g ⟨"SledgePostLaw", nm, ds⟩ cL_law (some .boolean) tb L mc ms Po X M k0 n0 1381 [some (.ref b), some (.ref p), some (.ref m), some (.ref out), some (.ref outD), some (.int i), z6, z7, z8] [] := by
  obtain ⟨hG, hSy, hv4⟩ := hS.1
  obtain ⟨-, -, -, -, ⟨tn0, tn60⟩, ⟨ea1, fl1⟩, ⟨hTl, hLs⟩, c0, c8⟩ := _root_.id hS
  obtain ⟨h461, h46⟩ := hS.1.r hN
  obtain ⟨hs0, old0, ⟨hpO, -⟩, -⟩ := _root_.id hP
  refine v_aload_n dL_law_1381 rfl rfl ?_
  refine v_aload_n dL_law_1382 rfl rfl ?_
  refine v_iload dL_law_1383 rfl ?_
  refine v_iconst (v := 1) dL_law_1385 (by decide) ?_
  refine v_iadd dL_law_1386 ?_
  refine v_sld hX dL_law_1387 (hi 1 (by decide) (by decide)).1 (hi 1 (by decide) (by decide)).2 ?_
  refine v_aload_n dL_law_1388 rfl rfl ?_
  refine kl_249 dL_law_1389 rfl (w_L_loadOf htr (f_loadOf htr hP (xs (i + 1).toNatClampNeg)) hpO (fun r M9 h9 => ⟨_, (h9.2.2.2 out (by rw [ko]; decide)).trans hO⟩) (fun E M9 h9 => h9.2.1)) (by omega) (by omega) (by omega) (Nat.le_of_ble_eq_true rfl) (fun r9 M9 h9 => ?_) (fun _ _ h9 => h9.elim)
  rcases h9 with ⟨rfl, r, M8, h8, ⟨hc, rfl, hP8, hF8⟩, hh, rfl⟩ | ⟨E, ⟨hc, hE0, hP8, hF8⟩, hE⟩
  · skip
    have f31 : Fs kd (fun r => r = 31) M8 (hup M8 out (la 1 h8)) := fun x hx => hup_n (fun z => hx (by rw [z]; exact ko))
    have hP9 := hP8.fs f31 (fun r h => by omega)
    have hM9 := (hM.tp (hF8.t 30 (Nat.le_refl _))).tp (f31.tp (by decide))
    have hO9 := up_k (e' := la 1 h8) ((hF8 outD (by rw [ko2]; decide)).trans hO2) ((hF8 out (by rw [ko]; decide)).trans hO) da_la
    refine v_istore_6 dL_law_1392 ?_
    refine v_aload_n dL_law_1394 rfl rfl ?_
    refine v_aload_n dL_law_1395 rfl rfl ?_
    refine v_iload dL_law_1396 rfl ?_
    refine v_iconst (v := 1) dL_law_1398 (by decide) ?_
    refine v_iadd dL_law_1399 ?_
    refine v_sld hX dL_law_1400 (hi 1 (by decide) (by decide)).1 (hi 1 (by decide) (by decide)).2 ?_
    refine k_L_251 dL_law_1401 rfl (r_loadOf htr hM9 hG (xs (i + 1).toNatClampNeg)) hM9.1 (by omega) (by omega) (by omega) (Nat.le_of_ble_eq_true rfl) (fun r1401 M9 h9 => ?_) (fun _ _ h9 => h9.elim)
    obtain ⟨h9, hF9⟩ := h9
    rcases h9 with ⟨-, rfl, hC⟩ | ⟨hn, -⟩
    rotate_left
    · first | exact absurd hc hn | exact absurd hn hc
    have hOA := LR1 (kd := kd) hup_s ko hF9
    have hOD := LR1 hO9 ko2 hF9
    refine v_istore_7 dL_law_1404 ?_
    refine v_aload_n dL_law_1406 rfl rfl ?_
    refine k_L_189 dL_law_1407 rfl (r_thrown htr hC) hC.1 (by omega) (by omega) (by omega) (Nat.le_of_ble_eq_true rfl) (fun r1407 M9 h9 => ?_) (fun _ _ h9 => h9.elim)
    obtain ⟨rfl, e9⟩ := h9
    subst M9
    refine v_iload dL_law_1410 rfl ?_
    refine v_icmp_eq (tgt := 1417) dL_law_1412 (by decide) (fun h1412 => ?_) (fun h1412 => ?_)
    · refine v_iload dL_law_1417 rfl ?_
      refine v_if_ne (tgt := 1434) dL_law_1419 (by decide) (fun h1419 => ?_) (fun h1419 => ?_)
      · exact absurd rfl h1419
      · refine v_aload_n dL_law_1422 rfl rfl ?_
        refine v_iconst (v := 0) dL_law_1423 (by decide) ?_
        refine v_lald dL_law_1424 hOA ?_
        refine v_iload dL_law_1425 rfl ?_
        refine v_i2l dL_law_1427 ?_
        refine v_lcmp dL_law_1428 ?_
        rw [hh, lg_self]
        refine v_if_eq (tgt := 1434) dL_law_1429 (by decide) (fun h1429 => ?_) (fun h1429 => ?_)
        · refine v_goto (tgt := 3320) dL_law_1434 (by decide) ?_
          refine V.wid (k' := k0 + 8) (n' := n0 + 600) (by omega) (by omega) (kk _ _ _ _ ?_)
          exact ⟨kd, q, a, e8, v, sv, sa, ch, pa, tx, tn, Ls, ea, fl, w, _, _, _, _, _, _, _, _, _, _, _, _, _, hP9.fs (Frm.fs (S := fun r => r = 30) hF9 rfl) (fun r h => by omega), hC, hS.up, ⟨⟨_, hOA⟩, ko⟩, ⟨_, hOD⟩, ko2⟩
        · exact absurd rfl h1429
    · exact absurd rfl h1412
  · skip
    have hM9 := hM.tp (hF8.t 30 (Nat.le_refl _))
    have hO8 := (hF8 out (by rw [ko]; decide)).trans hO
    have hO9 := (hF8 outD (by rw [ko2]; decide)).trans hO2
    obtain ⟨-, rfl⟩ := hE
    refine v_istore_6 dL_law_1392 ?_
    refine v_aload_n dL_law_1394 rfl rfl ?_
    refine v_aload_n dL_law_1395 rfl rfl ?_
    refine v_iload dL_law_1396 rfl ?_
    refine v_iconst (v := 1) dL_law_1398 (by decide) ?_
    refine v_iadd dL_law_1399 ?_
    refine v_sld hX dL_law_1400 (hi 1 (by decide) (by decide)).1 (hi 1 (by decide) (by decide)).2 ?_
    refine k_L_251 dL_law_1401 rfl (r_loadOf htr hM9 hG (xs (i + 1).toNatClampNeg)) hM9.1 (by omega) (by omega) (by omega) (Nat.le_of_ble_eq_true rfl) (fun r1401 M9 h9 => ?_) (fun _ _ h9 => h9.elim)
    obtain ⟨h9, hF9⟩ := h9
    rcases h9 with ⟨hn, -⟩ | ⟨-, rfl, hC⟩
    · first | exact absurd hn hc | exact absurd hc hn
    have hOA := LR1 hO8 ko hF9
    have hOD := LR1 hO9 ko2 hF9
    refine v_istore_7 dL_law_1404 ?_
    refine v_aload_n dL_law_1406 rfl rfl ?_
    refine k_L_189 dL_law_1407 rfl (r_thrown htr hC) hC.1 (by omega) (by omega) (by omega) (Nat.le_of_ble_eq_true rfl) (fun r1407 M9 h9 => ?_) (fun _ _ h9 => h9.elim)
    obtain ⟨rfl, e9⟩ := h9
    subst M9
    refine v_iload dL_law_1410 rfl ?_
    refine v_icmp_eq (tgt := 1417) dL_law_1412 (by decide) (fun h1412 => ?_) (fun h1412 => ?_)
    · refine v_iload dL_law_1417 rfl ?_
      refine v_if_ne (tgt := 1434) dL_law_1419 (by decide) (fun h1419 => ?_) (fun h1419 => ?_)
      · refine v_goto (tgt := 3320) dL_law_1434 (by decide) ?_
        refine V.wid (k' := k0 + 8) (n' := n0 + 600) (by omega) (by omega) (kk _ _ _ _ ?_)
        exact ⟨kd, q, a, e8, v, sv, sa, ch, pa, tx, tn, Ls, ea, fl, w, _, _, _, _, _, _, _, _, _, _, _, _, _, hP8.fs (Frm.fs (S := fun r => r = 30) hF9 rfl) (fun r h => by omega), hC, hS.up, ⟨⟨_, hOA⟩, ko⟩, ⟨_, hOD⟩, ko2⟩
      · exact absurd h1419 (by decide)
    · exact absurd rfl h1412
theorem dL_law_1500 : decode cL_law 1500 = .ok (.aload_n 1, 1) := by decide +kernel
theorem dL_law_1501 : decode cL_law 1501 = .ok (.aload_n 0, 1) := by decide +kernel
theorem dL_law_1502 : decode cL_law 1502 = .ok (.iload 5, 2) := by decide +kernel
theorem dL_law_1504 : decode cL_law 1504 = .ok (.iconst 1, 1) := by decide +kernel
theorem dL_law_1505 : decode cL_law 1505 = .ok (.iadd, 1) := by decide +kernel
theorem dL_law_1506 : decode cL_law 1506 = .ok (.iaload, 1) := by decide +kernel
theorem dL_law_1507 : decode cL_law 1507 = .ok (.aload_n 3, 1) := by decide +kernel
theorem dL_law_1508 : decode cL_law 1508 = .ok (.invokestatic 255, 3) := by decide +kernel
theorem dL_law_1511 : decode cL_law 1511 = .ok (.istore 6, 2) := by decide +kernel
theorem dL_law_1513 : decode cL_law 1513 = .ok (.aload_n 2, 1) := by decide +kernel
theorem dL_law_1514 : decode cL_law 1514 = .ok (.aload_n 0, 1) := by decide +kernel
theorem dL_law_1515 : decode cL_law 1515 = .ok (.iload 5, 2) := by decide +kernel
theorem dL_law_1517 : decode cL_law 1517 = .ok (.iconst 1, 1) := by decide +kernel
theorem dL_law_1518 : decode cL_law 1518 = .ok (.iadd, 1) := by decide +kernel
theorem dL_law_1519 : decode cL_law 1519 = .ok (.iaload, 1) := by decide +kernel
theorem dL_law_1520 : decode cL_law 1520 = .ok (.invokevirtual 257, 3) := by decide +kernel
theorem dL_law_1523 : decode cL_law 1523 = .ok (.istore 7, 2) := by decide +kernel
theorem dL_law_1525 : decode cL_law 1525 = .ok (.aload_n 2, 1) := by decide +kernel
theorem dL_law_1526 : decode cL_law 1526 = .ok (.invokevirtual 189, 3) := by decide +kernel
theorem dL_law_1529 : decode cL_law 1529 = .ok (.iload 6, 2) := by decide +kernel
theorem dL_law_1531 : decode cL_law 1531 = .ok (.if_icmp .eq 5, 3) := by decide +kernel
theorem dL_law_1534 : decode cL_law 1534 = .ok (.iconst 0, 1) := by decide +kernel
theorem dL_law_1535 : decode cL_law 1535 = .ok (.ireturn, 1) := by decide +kernel
theorem dL_law_1536 : decode cL_law 1536 = .ok (.iload 6, 2) := by decide +kernel
theorem dL_law_1538 : decode cL_law 1538 = .ok (.ifCond .ne 15, 3) := by decide +kernel
theorem dL_law_1541 : decode cL_law 1541 = .ok (.aload_n 3, 1) := by decide +kernel
theorem dL_law_1542 : decode cL_law 1542 = .ok (.iconst 0, 1) := by decide +kernel
theorem dL_law_1543 : decode cL_law 1543 = .ok (.laload, 1) := by decide +kernel
theorem dL_law_1544 : decode cL_law 1544 = .ok (.iload 7, 2) := by decide +kernel
theorem dL_law_1546 : decode cL_law 1546 = .ok (.i2l, 1) := by decide +kernel
theorem dL_law_1547 : decode cL_law 1547 = .ok (.lcmp, 1) := by decide +kernel
theorem dL_law_1548 : decode cL_law 1548 = .ok (.ifCond .eq 5, 3) := by decide +kernel
theorem dL_law_1551 : decode cL_law 1551 = .ok (.iconst 0, 1) := by decide +kernel
theorem dL_law_1552 : decode cL_law 1552 = .ok (.ireturn, 1) := by decide +kernel
theorem dL_law_1553 : decode cL_law 1553 = .ok (.goto 1767, 3) := by decide +kernel
set_option maxRecDepth 100000 in
set_option maxHeartbeats 4000000 in
theorem law_20 {l : Launch} {g : Nat → Nat} {nm ds : String} {tb : List ExceptionTableEntry} {L mc ms : Nat} {Po : Res → LH → Prop} {X : CX} {M : LH} {k0 n0 : Nat} (htr : l.stackTraces = false) {b SN : Nat} {xs : Nat → Int32} (hX : Sc b SN xs X) {kd : Nat → Nat} {p : Nat} {q a : Nat → Nat} {e8 : Int32 → Nat} {v : Int32 → Int32} {sv : Int32} {sa : Int32 → Int32} {ch : Int32} {pa tx : Int32 → Int32} {tn : Int32} {Ls : List Int32} {ea fl : Int32} {m : Nat} {w : Nat → Nat} {t bf he en wr dg : Int32} {b4 fr th bs li lf to : Int32 → Int32} {out outD : Nat} {N : Nat} (hP : Pg kd M p q a e8 v sv sa ch pa tx tn Ls ea fl) (hM : Md kd 30 M m w t ch ea fl sv bf tn he en (nI Ls.length) wr dg v b4 sa pa fr th bs tx li lf to) (hS : Lw N v sv sa ch pa tn Ls ea fl li) (hN : N ≤ 512) {h0 : Nat → Int64} (hO : M out = some (la 1 h0)) (ko : kd out = 31) {h2 : Nat → UInt64} (hO2 : M outD = some (da 1 h2)) (ko2 : kd outD = 31) {i : Int32} (hi : ∀ j : Int32, 1 ≤ j → j ≤ 5 → 0 ≤ i + j ∧ (i + j).toNatClampNeg < SN) (hL : 30 ≤ L) (hk : k0 + 8 ≤ mc) (hn : n0 + 600 ≤ ms) {z6 z7 z8 : Option Value} (kk : ∀ (M' : LH) (z6 z7 z8 : Option Value), LI p m out outD (N + 1) M' → V l g ⟨"SledgePostLaw", nm, ds⟩ cL_law (some .boolean) tb L mc ms Po X M' (k0 + 8) (n0 + 600) 3320 [some (.ref b), some (.ref p), some (.ref m), some (.ref out), some (.ref outD), some (.int i), z6, z7, z8] []) : V l g ⟨"SledgePostLaw", nm, ds⟩ cL_law (some .boolean) tb L mc ms Po X M k0 n0 1500 [some (.ref b), some (.ref p), some (.ref m), some (.ref out), some (.ref outD), some (.int i), z6, z7, z8] [] := by
  obtain ⟨hG, hSy, hv4⟩ := hS.1
  obtain ⟨-, -, -, -, ⟨tn0, tn60⟩, ⟨ea1, fl1⟩, ⟨hTl, hLs⟩, c0, c8⟩ := _root_.id hS
  obtain ⟨h461, h46⟩ := hS.1.r hN
  obtain ⟨hs0, old0, ⟨hpO, -⟩, -⟩ := _root_.id hP
  refine v_aload_n dL_law_1500 rfl rfl ?_
  refine v_aload_n dL_law_1501 rfl rfl ?_
  refine v_iload dL_law_1502 rfl ?_
  refine v_iconst (v := 1) dL_law_1504 (by decide) ?_
  refine v_iadd dL_law_1505 ?_
  refine v_sld hX dL_law_1506 (hi 1 (by decide) (by decide)).1 (hi 1 (by decide) (by decide)).2 ?_
  refine v_aload_n dL_law_1507 rfl rfl ?_
  refine kl_255 dL_law_1508 rfl (w_L_stationOfSledge htr (f_stationOfSledge htr hP (xs (i + 1).toNatClampNeg)) hpO (fun r M9 h9 => ⟨_, (h9.2.2.2 out (by rw [ko]; decide)).trans hO⟩) (fun E M9 h9 => h9.2.1)) (by omega) (by omega) (by omega) (Nat.le_of_ble_eq_true rfl) (fun r9 M9 h9 => ?_) (fun _ _ h9 => h9.elim)
  rcases h9 with ⟨rfl, r, M8, h8, ⟨hc, rfl, hP8, hF8⟩, hh, rfl⟩ | ⟨E, ⟨hc, hE0, hP8, hF8⟩, hE⟩
  · skip
    have f31 : Fs kd (fun r => r = 31) M8 (hup M8 out (la 1 h8)) := fun x hx => hup_n (fun z => hx (by rw [z]; exact ko))
    have hP9 := hP8.fs f31 (fun r h => by omega)
    have hM9 := (hM.tp (hF8.t 30 (Nat.le_refl _))).tp (f31.tp (by decide))
    have hO9 := up_k (e' := la 1 h8) ((hF8 outD (by rw [ko2]; decide)).trans hO2) ((hF8 out (by rw [ko]; decide)).trans hO) da_la
    refine v_istore_6 dL_law_1511 ?_
    refine v_aload_n dL_law_1513 rfl rfl ?_
    refine v_aload_n dL_law_1514 rfl rfl ?_
    refine v_iload dL_law_1515 rfl ?_
    refine v_iconst (v := 1) dL_law_1517 (by decide) ?_
    refine v_iadd dL_law_1518 ?_
    refine v_sld hX dL_law_1519 (hi 1 (by decide) (by decide)).1 (hi 1 (by decide) (by decide)).2 ?_
    refine k_L_257 dL_law_1520 rfl (r_stationOfSledge htr hM9 hG (xs (i + 1).toNatClampNeg)) hM9.1 (by omega) (by omega) (by omega) (Nat.le_of_ble_eq_true rfl) (fun r1520 M9 h9 => ?_) (fun _ _ h9 => h9.elim)
    obtain ⟨h9, hF9⟩ := h9
    rcases h9 with ⟨-, rfl, hC⟩ | ⟨hn, -⟩
    rotate_left
    · first | exact absurd hc hn | exact absurd hn hc
    have hOA := LR1 (kd := kd) hup_s ko hF9
    have hOD := LR1 hO9 ko2 hF9
    refine v_istore_7 dL_law_1523 ?_
    refine v_aload_n dL_law_1525 rfl rfl ?_
    refine k_L_189 dL_law_1526 rfl (r_thrown htr hC) hC.1 (by omega) (by omega) (by omega) (Nat.le_of_ble_eq_true rfl) (fun r1526 M9 h9 => ?_) (fun _ _ h9 => h9.elim)
    obtain ⟨rfl, e9⟩ := h9
    subst M9
    refine v_iload dL_law_1529 rfl ?_
    refine v_icmp_eq (tgt := 1536) dL_law_1531 (by decide) (fun h1531 => ?_) (fun h1531 => ?_)
    · refine v_iload dL_law_1536 rfl ?_
      refine v_if_ne (tgt := 1553) dL_law_1538 (by decide) (fun h1538 => ?_) (fun h1538 => ?_)
      · exact absurd rfl h1538
      · refine v_aload_n dL_law_1541 rfl rfl ?_
        refine v_iconst (v := 0) dL_law_1542 (by decide) ?_
        refine v_lald dL_law_1543 hOA ?_
        refine v_iload dL_law_1544 rfl ?_
        refine v_i2l dL_law_1546 ?_
        refine v_lcmp dL_law_1547 ?_
        rw [hh, lg_self]
        refine v_if_eq (tgt := 1553) dL_law_1548 (by decide) (fun h1548 => ?_) (fun h1548 => ?_)
        · refine v_goto (tgt := 3320) dL_law_1553 (by decide) ?_
          refine V.wid (k' := k0 + 8) (n' := n0 + 600) (by omega) (by omega) (kk _ _ _ _ ?_)
          exact ⟨kd, q, a, e8, v, sv, sa, ch, pa, tx, tn, Ls, ea, fl, w, _, _, _, _, _, _, _, _, _, _, _, _, _, hP9.fs (Frm.fs (S := fun r => r = 30) hF9 rfl) (fun r h => by omega), hC, hS.up, ⟨⟨_, hOA⟩, ko⟩, ⟨_, hOD⟩, ko2⟩
        · exact absurd rfl h1548
    · exact absurd rfl h1531
  · skip
    have hM9 := hM.tp (hF8.t 30 (Nat.le_refl _))
    have hO8 := (hF8 out (by rw [ko]; decide)).trans hO
    have hO9 := (hF8 outD (by rw [ko2]; decide)).trans hO2
    obtain ⟨-, rfl⟩ := hE
    refine v_istore_6 dL_law_1511 ?_
    refine v_aload_n dL_law_1513 rfl rfl ?_
    refine v_aload_n dL_law_1514 rfl rfl ?_
    refine v_iload dL_law_1515 rfl ?_
    refine v_iconst (v := 1) dL_law_1517 (by decide) ?_
    refine v_iadd dL_law_1518 ?_
    refine v_sld hX dL_law_1519 (hi 1 (by decide) (by decide)).1 (hi 1 (by decide) (by decide)).2 ?_
    refine k_L_257 dL_law_1520 rfl (r_stationOfSledge htr hM9 hG (xs (i + 1).toNatClampNeg)) hM9.1 (by omega) (by omega) (by omega) (Nat.le_of_ble_eq_true rfl) (fun r1520 M9 h9 => ?_) (fun _ _ h9 => h9.elim)
    obtain ⟨h9, hF9⟩ := h9
    rcases h9 with ⟨hn, -⟩ | ⟨-, rfl, hC⟩
    · first | exact absurd hn hc | exact absurd hc hn
    have hOA := LR1 hO8 ko hF9
    have hOD := LR1 hO9 ko2 hF9
    refine v_istore_7 dL_law_1523 ?_
    refine v_aload_n dL_law_1525 rfl rfl ?_
    refine k_L_189 dL_law_1526 rfl (r_thrown htr hC) hC.1 (by omega) (by omega) (by omega) (Nat.le_of_ble_eq_true rfl) (fun r1526 M9 h9 => ?_) (fun _ _ h9 => h9.elim)
    obtain ⟨rfl, e9⟩ := h9
    subst M9
    refine v_iload dL_law_1529 rfl ?_
    refine v_icmp_eq (tgt := 1536) dL_law_1531 (by decide) (fun h1531 => ?_) (fun h1531 => ?_)
    · refine v_iload dL_law_1536 rfl ?_
      refine v_if_ne (tgt := 1553) dL_law_1538 (by decide) (fun h1538 => ?_) (fun h1538 => ?_)
      · refine v_goto (tgt := 3320) dL_law_1553 (by decide) ?_
        refine V.wid (k' := k0 + 8) (n' := n0 + 600) (by omega) (by omega) (kk _ _ _ _ ?_)
        exact ⟨kd, q, a, e8, v, sv, sa, ch, pa, tx, tn, Ls, ea, fl, w, _, _, _, _, _, _, _, _, _, _, _, _, _, hP8.fs (Frm.fs (S := fun r => r = 30) hF9 rfl) (fun r h => by omega), hC, hS.up, ⟨⟨_, hOA⟩, ko⟩, ⟨_, hOD⟩, ko2⟩
      · exact absurd h1538 (by decide)
    · exact absurd rfl h1531
theorem dL_law_1556 : decode cL_law 1556 = .ok (.aload_n 1, 1) := by decide +kernel
theorem dL_law_1557 : decode cL_law 1557 = .ok (.aload_n 0, 1) := by decide +kernel
theorem dL_law_1558 : decode cL_law 1558 = .ok (.iload 5, 2) := by decide +kernel
theorem dL_law_1560 : decode cL_law 1560 = .ok (.iconst 1, 1) := by decide +kernel
theorem dL_law_1561 : decode cL_law 1561 = .ok (.iadd, 1) := by decide +kernel
theorem dL_law_1562 : decode cL_law 1562 = .ok (.iaload, 1) := by decide +kernel
theorem dL_law_1563 : decode cL_law 1563 = .ok (.aload_n 3, 1) := by decide +kernel
theorem dL_law_1564 : decode cL_law 1564 = .ok (.invokestatic 258, 3) := by decide +kernel
theorem dL_law_1567 : decode cL_law 1567 = .ok (.istore 6, 2) := by decide +kernel
theorem dL_law_1569 : decode cL_law 1569 = .ok (.aload_n 2, 1) := by decide +kernel
theorem dL_law_1570 : decode cL_law 1570 = .ok (.aload_n 0, 1) := by decide +kernel
theorem dL_law_1571 : decode cL_law 1571 = .ok (.iload 5, 2) := by decide +kernel
theorem dL_law_1573 : decode cL_law 1573 = .ok (.iconst 1, 1) := by decide +kernel
theorem dL_law_1574 : decode cL_law 1574 = .ok (.iadd, 1) := by decide +kernel
theorem dL_law_1575 : decode cL_law 1575 = .ok (.iaload, 1) := by decide +kernel
theorem dL_law_1576 : decode cL_law 1576 = .ok (.invokevirtual 260, 3) := by decide +kernel
theorem dL_law_1579 : decode cL_law 1579 = .ok (.istore 7, 2) := by decide +kernel
theorem dL_law_1581 : decode cL_law 1581 = .ok (.aload_n 2, 1) := by decide +kernel
theorem dL_law_1582 : decode cL_law 1582 = .ok (.invokevirtual 189, 3) := by decide +kernel
theorem dL_law_1585 : decode cL_law 1585 = .ok (.iload 6, 2) := by decide +kernel
theorem dL_law_1587 : decode cL_law 1587 = .ok (.if_icmp .eq 5, 3) := by decide +kernel
theorem dL_law_1590 : decode cL_law 1590 = .ok (.iconst 0, 1) := by decide +kernel
theorem dL_law_1591 : decode cL_law 1591 = .ok (.ireturn, 1) := by decide +kernel
theorem dL_law_1592 : decode cL_law 1592 = .ok (.iload 6, 2) := by decide +kernel
theorem dL_law_1594 : decode cL_law 1594 = .ok (.ifCond .ne 15, 3) := by decide +kernel
theorem dL_law_1597 : decode cL_law 1597 = .ok (.aload_n 3, 1) := by decide +kernel
theorem dL_law_1598 : decode cL_law 1598 = .ok (.iconst 0, 1) := by decide +kernel
theorem dL_law_1599 : decode cL_law 1599 = .ok (.laload, 1) := by decide +kernel
theorem dL_law_1600 : decode cL_law 1600 = .ok (.iload 7, 2) := by decide +kernel
theorem dL_law_1602 : decode cL_law 1602 = .ok (.i2l, 1) := by decide +kernel
theorem dL_law_1603 : decode cL_law 1603 = .ok (.lcmp, 1) := by decide +kernel
theorem dL_law_1604 : decode cL_law 1604 = .ok (.ifCond .eq 5, 3) := by decide +kernel
theorem dL_law_1607 : decode cL_law 1607 = .ok (.iconst 0, 1) := by decide +kernel
theorem dL_law_1608 : decode cL_law 1608 = .ok (.ireturn, 1) := by decide +kernel
theorem dL_law_1609 : decode cL_law 1609 = .ok (.goto 1711, 3) := by decide +kernel
set_option maxRecDepth 100000 in
set_option maxHeartbeats 4000000 in
theorem law_21 {l : Launch} {g : Nat → Nat} {nm ds : String} {tb : List ExceptionTableEntry} {L mc ms : Nat} {Po : Res → LH → Prop} {X : CX} {M : LH} {k0 n0 : Nat} (htr : l.stackTraces = false) {b SN : Nat} {xs : Nat → Int32} (hX : Sc b SN xs X) {kd : Nat → Nat} {p : Nat} {q a : Nat → Nat} {e8 : Int32 → Nat} {v : Int32 → Int32} {sv : Int32} {sa : Int32 → Int32} {ch : Int32} {pa tx : Int32 → Int32} {tn : Int32} {Ls : List Int32} {ea fl : Int32} {m : Nat} {w : Nat → Nat} {t bf he en wr dg : Int32} {b4 fr th bs li lf to : Int32 → Int32} {out outD : Nat} {N : Nat} (hP : Pg kd M p q a e8 v sv sa ch pa tx tn Ls ea fl) (hM : Md kd 30 M m w t ch ea fl sv bf tn he en (nI Ls.length) wr dg v b4 sa pa fr th bs tx li lf to) (hS : Lw N v sv sa ch pa tn Ls ea fl li) (hN : N ≤ 512) {h0 : Nat → Int64} (hO : M out = some (la 1 h0)) (ko : kd out = 31) {h2 : Nat → UInt64} (hO2 : M outD = some (da 1 h2)) (ko2 : kd outD = 31) {i : Int32} (hi : ∀ j : Int32, 1 ≤ j → j ≤ 5 → 0 ≤ i + j ∧ (i + j).toNatClampNeg < SN) (hL : 30 ≤ L) (hk : k0 + 8 ≤ mc) (hn : n0 + 600 ≤ ms) {z6 z7 z8 : Option Value} (kk : ∀ (M' : LH) (z6 z7 z8 : Option Value), LI p m out outD (N + 1) M' → V l g ⟨"SledgePostLaw", nm, ds⟩ cL_law (some .boolean) tb L mc ms Po X M' (k0 + 8) (n0 + 600) 3320 [some (.ref b), some (.ref p), some (.ref m), some (.ref out), some (.ref outD), some (.int i), z6, z7, z8] []) : V l g ⟨"SledgePostLaw", nm, ds⟩ cL_law (some .boolean) tb L mc ms Po X M k0 n0 1556 [some (.ref b), some (.ref p), some (.ref m), some (.ref out), some (.ref outD), some (.int i), z6, z7, z8] [] := by
  obtain ⟨hG, hSy, hv4⟩ := hS.1
  obtain ⟨-, -, -, -, ⟨tn0, tn60⟩, ⟨ea1, fl1⟩, ⟨hTl, hLs⟩, c0, c8⟩ := _root_.id hS
  obtain ⟨h461, h46⟩ := hS.1.r hN
  obtain ⟨hs0, old0, ⟨hpO, -⟩, -⟩ := _root_.id hP
  refine v_aload_n dL_law_1556 rfl rfl ?_
  refine v_aload_n dL_law_1557 rfl rfl ?_
  refine v_iload dL_law_1558 rfl ?_
  refine v_iconst (v := 1) dL_law_1560 (by decide) ?_
  refine v_iadd dL_law_1561 ?_
  refine v_sld hX dL_law_1562 (hi 1 (by decide) (by decide)).1 (hi 1 (by decide) (by decide)).2 ?_
  refine v_aload_n dL_law_1563 rfl rfl ?_
  refine kl_258 dL_law_1564 rfl (w_L_hoursLeft htr (f_hoursLeft htr hP (xs (i + 1).toNatClampNeg)) hpO (fun r M9 h9 => ⟨_, (h9.2.2.2 out (by rw [ko]; decide)).trans hO⟩) (fun E M9 h9 => h9.2.1)) (by omega) (by omega) (by omega) (Nat.le_of_ble_eq_true rfl) (fun r9 M9 h9 => ?_) (fun _ _ h9 => h9.elim)
  rcases h9 with ⟨rfl, r, M8, h8, ⟨hc, rfl, hP8, hF8⟩, hh, rfl⟩ | ⟨E, ⟨hc, hE0, hP8, hF8⟩, hE⟩
  · skip
    have f31 : Fs kd (fun r => r = 31) M8 (hup M8 out (la 1 h8)) := fun x hx => hup_n (fun z => hx (by rw [z]; exact ko))
    have hP9 := hP8.fs f31 (fun r h => by omega)
    have hM9 := (hM.tp (hF8.t 30 (Nat.le_refl _))).tp (f31.tp (by decide))
    have hO9 := up_k (e' := la 1 h8) ((hF8 outD (by rw [ko2]; decide)).trans hO2) ((hF8 out (by rw [ko]; decide)).trans hO) da_la
    refine v_istore_6 dL_law_1567 ?_
    refine v_aload_n dL_law_1569 rfl rfl ?_
    refine v_aload_n dL_law_1570 rfl rfl ?_
    refine v_iload dL_law_1571 rfl ?_
    refine v_iconst (v := 1) dL_law_1573 (by decide) ?_
    refine v_iadd dL_law_1574 ?_
    refine v_sld hX dL_law_1575 (hi 1 (by decide) (by decide)).1 (hi 1 (by decide) (by decide)).2 ?_
    refine k_L_260 dL_law_1576 rfl (r_hoursLeft htr hM9 hG (xs (i + 1).toNatClampNeg)) hM9.1 (by omega) (by omega) (by omega) (Nat.le_of_ble_eq_true rfl) (fun r1576 M9 h9 => ?_) (fun _ _ h9 => h9.elim)
    obtain ⟨h9, hF9⟩ := h9
    rcases h9 with ⟨-, rfl, hC⟩ | ⟨hn, -⟩
    rotate_left
    · first | exact absurd hc hn | exact absurd hn hc
    have hOA := LR1 (kd := kd) hup_s ko hF9
    have hOD := LR1 hO9 ko2 hF9
    refine v_istore_7 dL_law_1579 ?_
    refine v_aload_n dL_law_1581 rfl rfl ?_
    refine k_L_189 dL_law_1582 rfl (r_thrown htr hC) hC.1 (by omega) (by omega) (by omega) (Nat.le_of_ble_eq_true rfl) (fun r1582 M9 h9 => ?_) (fun _ _ h9 => h9.elim)
    obtain ⟨rfl, e9⟩ := h9
    subst M9
    refine v_iload dL_law_1585 rfl ?_
    refine v_icmp_eq (tgt := 1592) dL_law_1587 (by decide) (fun h1587 => ?_) (fun h1587 => ?_)
    · refine v_iload dL_law_1592 rfl ?_
      refine v_if_ne (tgt := 1609) dL_law_1594 (by decide) (fun h1594 => ?_) (fun h1594 => ?_)
      · exact absurd rfl h1594
      · refine v_aload_n dL_law_1597 rfl rfl ?_
        refine v_iconst (v := 0) dL_law_1598 (by decide) ?_
        refine v_lald dL_law_1599 hOA ?_
        refine v_iload dL_law_1600 rfl ?_
        refine v_i2l dL_law_1602 ?_
        refine v_lcmp dL_law_1603 ?_
        rw [hh, lg_self]
        refine v_if_eq (tgt := 1609) dL_law_1604 (by decide) (fun h1604 => ?_) (fun h1604 => ?_)
        · refine v_goto (tgt := 3320) dL_law_1609 (by decide) ?_
          refine V.wid (k' := k0 + 8) (n' := n0 + 600) (by omega) (by omega) (kk _ _ _ _ ?_)
          exact ⟨kd, q, a, e8, v, sv, sa, ch, pa, tx, tn, Ls, ea, fl, w, _, _, _, _, _, _, _, _, _, _, _, _, _, hP9.fs (Frm.fs (S := fun r => r = 30) hF9 rfl) (fun r h => by omega), hC, hS.up, ⟨⟨_, hOA⟩, ko⟩, ⟨_, hOD⟩, ko2⟩
        · exact absurd rfl h1604
    · exact absurd rfl h1587
  · skip
    have hM9 := hM.tp (hF8.t 30 (Nat.le_refl _))
    have hO8 := (hF8 out (by rw [ko]; decide)).trans hO
    have hO9 := (hF8 outD (by rw [ko2]; decide)).trans hO2
    obtain ⟨-, rfl⟩ := hE
    refine v_istore_6 dL_law_1567 ?_
    refine v_aload_n dL_law_1569 rfl rfl ?_
    refine v_aload_n dL_law_1570 rfl rfl ?_
    refine v_iload dL_law_1571 rfl ?_
    refine v_iconst (v := 1) dL_law_1573 (by decide) ?_
    refine v_iadd dL_law_1574 ?_
    refine v_sld hX dL_law_1575 (hi 1 (by decide) (by decide)).1 (hi 1 (by decide) (by decide)).2 ?_
    refine k_L_260 dL_law_1576 rfl (r_hoursLeft htr hM9 hG (xs (i + 1).toNatClampNeg)) hM9.1 (by omega) (by omega) (by omega) (Nat.le_of_ble_eq_true rfl) (fun r1576 M9 h9 => ?_) (fun _ _ h9 => h9.elim)
    obtain ⟨h9, hF9⟩ := h9
    rcases h9 with ⟨hn, -⟩ | ⟨-, rfl, hC⟩
    · first | exact absurd hn hc | exact absurd hc hn
    have hOA := LR1 hO8 ko hF9
    have hOD := LR1 hO9 ko2 hF9
    refine v_istore_7 dL_law_1579 ?_
    refine v_aload_n dL_law_1581 rfl rfl ?_
    refine k_L_189 dL_law_1582 rfl (r_thrown htr hC) hC.1 (by omega) (by omega) (by omega) (Nat.le_of_ble_eq_true rfl) (fun r1582 M9 h9 => ?_) (fun _ _ h9 => h9.elim)
    obtain ⟨rfl, e9⟩ := h9
    subst M9
    refine v_iload dL_law_1585 rfl ?_
    refine v_icmp_eq (tgt := 1592) dL_law_1587 (by decide) (fun h1587 => ?_) (fun h1587 => ?_)
    · refine v_iload dL_law_1592 rfl ?_
      refine v_if_ne (tgt := 1609) dL_law_1594 (by decide) (fun h1594 => ?_) (fun h1594 => ?_)
      · refine v_goto (tgt := 3320) dL_law_1609 (by decide) ?_
        refine V.wid (k' := k0 + 8) (n' := n0 + 600) (by omega) (by omega) (kk _ _ _ _ ?_)
        exact ⟨kd, q, a, e8, v, sv, sa, ch, pa, tx, tn, Ls, ea, fl, w, _, _, _, _, _, _, _, _, _, _, _, _, _, hP8.fs (Frm.fs (S := fun r => r = 30) hF9 rfl) (fun r h => by omega), hC, hS.up, ⟨⟨_, hOA⟩, ko⟩, ⟨_, hOD⟩, ko2⟩
      · exact absurd h1594 (by decide)
    · exact absurd rfl h1587
theorem dL_law_1612 : decode cL_law 1612 = .ok (.aload_n 1, 1) := by decide +kernel
theorem dL_law_1613 : decode cL_law 1613 = .ok (.aload_n 0, 1) := by decide +kernel
theorem dL_law_1614 : decode cL_law 1614 = .ok (.iload 5, 2) := by decide +kernel
theorem dL_law_1616 : decode cL_law 1616 = .ok (.iconst 1, 1) := by decide +kernel
theorem dL_law_1617 : decode cL_law 1617 = .ok (.iadd, 1) := by decide +kernel
theorem dL_law_1618 : decode cL_law 1618 = .ok (.iaload, 1) := by decide +kernel
theorem dL_law_1619 : decode cL_law 1619 = .ok (.aload_n 3, 1) := by decide +kernel
theorem dL_law_1620 : decode cL_law 1620 = .ok (.invokestatic 261, 3) := by decide +kernel
theorem dL_law_1623 : decode cL_law 1623 = .ok (.istore 6, 2) := by decide +kernel
theorem dL_law_1625 : decode cL_law 1625 = .ok (.aload_n 2, 1) := by decide +kernel
theorem dL_law_1626 : decode cL_law 1626 = .ok (.aload_n 0, 1) := by decide +kernel
theorem dL_law_1627 : decode cL_law 1627 = .ok (.iload 5, 2) := by decide +kernel
theorem dL_law_1629 : decode cL_law 1629 = .ok (.iconst 1, 1) := by decide +kernel
theorem dL_law_1630 : decode cL_law 1630 = .ok (.iadd, 1) := by decide +kernel
theorem dL_law_1631 : decode cL_law 1631 = .ok (.iaload, 1) := by decide +kernel
theorem dL_law_1632 : decode cL_law 1632 = .ok (.invokevirtual 263, 3) := by decide +kernel
theorem dL_law_1635 : decode cL_law 1635 = .ok (.istore 7, 2) := by decide +kernel
theorem dL_law_1637 : decode cL_law 1637 = .ok (.aload_n 2, 1) := by decide +kernel
theorem dL_law_1638 : decode cL_law 1638 = .ok (.invokevirtual 189, 3) := by decide +kernel
theorem dL_law_1641 : decode cL_law 1641 = .ok (.iload 6, 2) := by decide +kernel
theorem dL_law_1643 : decode cL_law 1643 = .ok (.if_icmp .eq 5, 3) := by decide +kernel
theorem dL_law_1646 : decode cL_law 1646 = .ok (.iconst 0, 1) := by decide +kernel
theorem dL_law_1647 : decode cL_law 1647 = .ok (.ireturn, 1) := by decide +kernel
theorem dL_law_1648 : decode cL_law 1648 = .ok (.iload 6, 2) := by decide +kernel
theorem dL_law_1650 : decode cL_law 1650 = .ok (.ifCond .ne 15, 3) := by decide +kernel
theorem dL_law_1653 : decode cL_law 1653 = .ok (.aload_n 3, 1) := by decide +kernel
theorem dL_law_1654 : decode cL_law 1654 = .ok (.iconst 0, 1) := by decide +kernel
theorem dL_law_1655 : decode cL_law 1655 = .ok (.laload, 1) := by decide +kernel
theorem dL_law_1656 : decode cL_law 1656 = .ok (.iload 7, 2) := by decide +kernel
theorem dL_law_1658 : decode cL_law 1658 = .ok (.i2l, 1) := by decide +kernel
theorem dL_law_1659 : decode cL_law 1659 = .ok (.lcmp, 1) := by decide +kernel
theorem dL_law_1660 : decode cL_law 1660 = .ok (.ifCond .eq 5, 3) := by decide +kernel
theorem dL_law_1663 : decode cL_law 1663 = .ok (.iconst 0, 1) := by decide +kernel
theorem dL_law_1664 : decode cL_law 1664 = .ok (.ireturn, 1) := by decide +kernel
theorem dL_law_1665 : decode cL_law 1665 = .ok (.goto 1655, 3) := by decide +kernel
set_option maxRecDepth 100000 in
set_option maxHeartbeats 4000000 in
theorem law_22 {l : Launch} {g : Nat → Nat} {nm ds : String} {tb : List ExceptionTableEntry} {L mc ms : Nat} {Po : Res → LH → Prop} {X : CX} {M : LH} {k0 n0 : Nat} (htr : l.stackTraces = false) {b SN : Nat} {xs : Nat → Int32} (hX : Sc b SN xs X) {kd : Nat → Nat} {p : Nat} {q a : Nat → Nat} {e8 : Int32 → Nat} {v : Int32 → Int32} {sv : Int32} {sa : Int32 → Int32} {ch : Int32} {pa tx : Int32 → Int32} {tn : Int32} {Ls : List Int32} {ea fl : Int32} {m : Nat} {w : Nat → Nat} {t bf he en wr dg : Int32} {b4 fr th bs li lf to : Int32 → Int32} {out outD : Nat} {N : Nat} (hP : Pg kd M p q a e8 v sv sa ch pa tx tn Ls ea fl) (hM : Md kd 30 M m w t ch ea fl sv bf tn he en (nI Ls.length) wr dg v b4 sa pa fr th bs tx li lf to) (hS : Lw N v sv sa ch pa tn Ls ea fl li) (hN : N ≤ 512) {h0 : Nat → Int64} (hO : M out = some (la 1 h0)) (ko : kd out = 31) {h2 : Nat → UInt64} (hO2 : M outD = some (da 1 h2)) (ko2 : kd outD = 31) {i : Int32} (hi : ∀ j : Int32, 1 ≤ j → j ≤ 5 → 0 ≤ i + j ∧ (i + j).toNatClampNeg < SN) (hL : 30 ≤ L) (hk : k0 + 8 ≤ mc) (hn : n0 + 600 ≤ ms) {z6 z7 z8 : Option Value} (kk : ∀ (M' : LH) (z6 z7 z8 : Option Value), LI p m out outD (N + 1) M' → V l g ⟨"SledgePostLaw", nm, ds⟩ cL_law (some .boolean) tb L mc ms Po X M' (k0 + 8) (n0 + 600) 3320 [some (.ref b), some (.ref p), some (.ref m), some (.ref out), some (.ref outD), some (.int i), z6, z7, z8] []) : V l g ⟨"SledgePostLaw", nm, ds⟩ cL_law (some .boolean) tb L mc ms Po X M k0 n0 1612 [some (.ref b), some (.ref p), some (.ref m), some (.ref out), some (.ref outD), some (.int i), z6, z7, z8] [] := by
  obtain ⟨hG, hSy, hv4⟩ := hS.1
  obtain ⟨-, -, -, -, ⟨tn0, tn60⟩, ⟨ea1, fl1⟩, ⟨hTl, hLs⟩, c0, c8⟩ := _root_.id hS
  obtain ⟨h461, h46⟩ := hS.1.r hN
  obtain ⟨hs0, old0, ⟨hpO, -⟩, -⟩ := _root_.id hP
  refine v_aload_n dL_law_1612 rfl rfl ?_
  refine v_aload_n dL_law_1613 rfl rfl ?_
  refine v_iload dL_law_1614 rfl ?_
  refine v_iconst (v := 1) dL_law_1616 (by decide) ?_
  refine v_iadd dL_law_1617 ?_
  refine v_sld hX dL_law_1618 (hi 1 (by decide) (by decide)).1 (hi 1 (by decide) (by decide)).2 ?_
  refine v_aload_n dL_law_1619 rfl rfl ?_
  refine kl_261 dL_law_1620 rfl (w_L_lettersOn htr (f_lettersOn htr hP (xs (i + 1).toNatClampNeg)) hpO (fun r M9 h9 => ⟨_, (h9.2.2.2 out (by rw [ko]; decide)).trans hO⟩) (fun E M9 h9 => h9.2.1)) (by omega) (by omega) (by omega) (Nat.le_of_ble_eq_true rfl) (fun r9 M9 h9 => ?_) (fun _ _ h9 => h9.elim)
  rcases h9 with ⟨rfl, r, M8, h8, ⟨hc, rfl, hP8, hF8⟩, hh, rfl⟩ | ⟨E, ⟨hc, hE0, hP8, hF8⟩, hE⟩
  · skip
    have f31 : Fs kd (fun r => r = 31) M8 (hup M8 out (la 1 h8)) := fun x hx => hup_n (fun z => hx (by rw [z]; exact ko))
    have hP9 := hP8.fs f31 (fun r h => by omega)
    have hM9 := (hM.tp (hF8.t 30 (Nat.le_refl _))).tp (f31.tp (by decide))
    have hO9 := up_k (e' := la 1 h8) ((hF8 outD (by rw [ko2]; decide)).trans hO2) ((hF8 out (by rw [ko]; decide)).trans hO) da_la
    refine v_istore_6 dL_law_1623 ?_
    refine v_aload_n dL_law_1625 rfl rfl ?_
    refine v_aload_n dL_law_1626 rfl rfl ?_
    refine v_iload dL_law_1627 rfl ?_
    refine v_iconst (v := 1) dL_law_1629 (by decide) ?_
    refine v_iadd dL_law_1630 ?_
    refine v_sld hX dL_law_1631 (hi 1 (by decide) (by decide)).1 (hi 1 (by decide) (by decide)).2 ?_
    refine k_L_263 dL_law_1632 rfl (r_lettersOn htr hM9 hG (xs (i + 1).toNatClampNeg)) hM9.1 (by omega) (by omega) (by omega) (Nat.le_of_ble_eq_true rfl) (fun r1632 M9 h9 => ?_) (fun _ _ h9 => h9.elim)
    obtain ⟨y0, h9, hF9⟩ := h9
    rcases h9 with ⟨-, rfl, hC⟩ | ⟨hn, -⟩
    rotate_left
    · first | exact absurd hc hn | exact absurd hn hc
    have hOA := LR1 (kd := kd) hup_s ko hF9
    have hOD := LR1 hO9 ko2 hF9
    refine v_istore_7 dL_law_1635 ?_
    refine v_aload_n dL_law_1637 rfl rfl ?_
    refine k_L_189 dL_law_1638 rfl (r_thrown htr hC) hC.1 (by omega) (by omega) (by omega) (Nat.le_of_ble_eq_true rfl) (fun r1638 M9 h9 => ?_) (fun _ _ h9 => h9.elim)
    obtain ⟨rfl, e9⟩ := h9
    subst M9
    refine v_iload dL_law_1641 rfl ?_
    refine v_icmp_eq (tgt := 1648) dL_law_1643 (by decide) (fun h1643 => ?_) (fun h1643 => ?_)
    · refine v_iload dL_law_1648 rfl ?_
      refine v_if_ne (tgt := 1665) dL_law_1650 (by decide) (fun h1650 => ?_) (fun h1650 => ?_)
      · exact absurd rfl h1650
      · refine v_aload_n dL_law_1653 rfl rfl ?_
        refine v_iconst (v := 0) dL_law_1654 (by decide) ?_
        refine v_lald dL_law_1655 hOA ?_
        refine v_iload dL_law_1656 rfl ?_
        refine v_i2l dL_law_1658 ?_
        refine v_lcmp dL_law_1659 ?_
        rw [hh, lg_self]
        refine v_if_eq (tgt := 1665) dL_law_1660 (by decide) (fun h1660 => ?_) (fun h1660 => ?_)
        · refine v_goto (tgt := 3320) dL_law_1665 (by decide) ?_
          refine V.wid (k' := k0 + 8) (n' := n0 + 600) (by omega) (by omega) (kk _ _ _ _ ?_)
          exact ⟨kd, q, a, e8, v, sv, sa, ch, pa, tx, tn, Ls, ea, fl, w, _, _, _, _, _, _, _, _, _, _, _, _, _, hP9.fs (Frm.fs (S := fun r => r = 30) hF9 rfl) (fun r h => by omega), hC, hS.up, ⟨⟨_, hOA⟩, ko⟩, ⟨_, hOD⟩, ko2⟩
        · exact absurd rfl h1660
    · exact absurd rfl h1643
  · skip
    have hM9 := hM.tp (hF8.t 30 (Nat.le_refl _))
    have hO8 := (hF8 out (by rw [ko]; decide)).trans hO
    have hO9 := (hF8 outD (by rw [ko2]; decide)).trans hO2
    obtain ⟨-, rfl⟩ := hE
    refine v_istore_6 dL_law_1623 ?_
    refine v_aload_n dL_law_1625 rfl rfl ?_
    refine v_aload_n dL_law_1626 rfl rfl ?_
    refine v_iload dL_law_1627 rfl ?_
    refine v_iconst (v := 1) dL_law_1629 (by decide) ?_
    refine v_iadd dL_law_1630 ?_
    refine v_sld hX dL_law_1631 (hi 1 (by decide) (by decide)).1 (hi 1 (by decide) (by decide)).2 ?_
    refine k_L_263 dL_law_1632 rfl (r_lettersOn htr hM9 hG (xs (i + 1).toNatClampNeg)) hM9.1 (by omega) (by omega) (by omega) (Nat.le_of_ble_eq_true rfl) (fun r1632 M9 h9 => ?_) (fun _ _ h9 => h9.elim)
    obtain ⟨y0, h9, hF9⟩ := h9
    rcases h9 with ⟨hn, -⟩ | ⟨-, rfl, hC⟩
    · first | exact absurd hn hc | exact absurd hc hn
    have hOA := LR1 hO8 ko hF9
    have hOD := LR1 hO9 ko2 hF9
    refine v_istore_7 dL_law_1635 ?_
    refine v_aload_n dL_law_1637 rfl rfl ?_
    refine k_L_189 dL_law_1638 rfl (r_thrown htr hC) hC.1 (by omega) (by omega) (by omega) (Nat.le_of_ble_eq_true rfl) (fun r1638 M9 h9 => ?_) (fun _ _ h9 => h9.elim)
    obtain ⟨rfl, e9⟩ := h9
    subst M9
    refine v_iload dL_law_1641 rfl ?_
    refine v_icmp_eq (tgt := 1648) dL_law_1643 (by decide) (fun h1643 => ?_) (fun h1643 => ?_)
    · refine v_iload dL_law_1648 rfl ?_
      refine v_if_ne (tgt := 1665) dL_law_1650 (by decide) (fun h1650 => ?_) (fun h1650 => ?_)
      · refine v_goto (tgt := 3320) dL_law_1665 (by decide) ?_
        refine V.wid (k' := k0 + 8) (n' := n0 + 600) (by omega) (by omega) (kk _ _ _ _ ?_)
        exact ⟨kd, q, a, e8, v, sv, sa, ch, pa, tx, tn, Ls, ea, fl, w, _, _, _, _, _, _, _, _, _, _, _, _, _, hP8.fs (Frm.fs (S := fun r => r = 30) hF9 rfl) (fun r h => by omega), hC, hS.up, ⟨⟨_, hOA⟩, ko⟩, ⟨_, hOD⟩, ko2⟩
      · exact absurd h1650 (by decide)
    · exact absurd rfl h1643
theorem dL_law_1973 : decode cL_law 1973 = .ok (.aload_n 1, 1) := by decide +kernel
theorem dL_law_1974 : decode cL_law 1974 = .ok (.aload_n 0, 1) := by decide +kernel
theorem dL_law_1975 : decode cL_law 1975 = .ok (.iload 5, 2) := by decide +kernel
theorem dL_law_1977 : decode cL_law 1977 = .ok (.iconst 1, 1) := by decide +kernel
theorem dL_law_1978 : decode cL_law 1978 = .ok (.iadd, 1) := by decide +kernel
theorem dL_law_1979 : decode cL_law 1979 = .ok (.iaload, 1) := by decide +kernel
theorem dL_law_1980 : decode cL_law 1980 = .ok (.aload_n 3, 1) := by decide +kernel
theorem dL_law_1981 : decode cL_law 1981 = .ok (.invokestatic 283, 3) := by decide +kernel
theorem dL_law_1984 : decode cL_law 1984 = .ok (.istore 6, 2) := by decide +kernel
theorem dL_law_1986 : decode cL_law 1986 = .ok (.aload_n 2, 1) := by decide +kernel
theorem dL_law_1987 : decode cL_law 1987 = .ok (.aload_n 0, 1) := by decide +kernel
theorem dL_law_1988 : decode cL_law 1988 = .ok (.iload 5, 2) := by decide +kernel
theorem dL_law_1990 : decode cL_law 1990 = .ok (.iconst 1, 1) := by decide +kernel
theorem dL_law_1991 : decode cL_law 1991 = .ok (.iadd, 1) := by decide +kernel
theorem dL_law_1992 : decode cL_law 1992 = .ok (.iaload, 1) := by decide +kernel
theorem dL_law_1993 : decode cL_law 1993 = .ok (.invokevirtual 285, 3) := by decide +kernel
theorem dL_law_1996 : decode cL_law 1996 = .ok (.istore 7, 2) := by decide +kernel
theorem dL_law_1998 : decode cL_law 1998 = .ok (.aload_n 2, 1) := by decide +kernel
theorem dL_law_1999 : decode cL_law 1999 = .ok (.invokevirtual 189, 3) := by decide +kernel
theorem dL_law_2002 : decode cL_law 2002 = .ok (.iload 6, 2) := by decide +kernel
theorem dL_law_2004 : decode cL_law 2004 = .ok (.if_icmp .eq 5, 3) := by decide +kernel
theorem dL_law_2007 : decode cL_law 2007 = .ok (.iconst 0, 1) := by decide +kernel
theorem dL_law_2008 : decode cL_law 2008 = .ok (.ireturn, 1) := by decide +kernel
theorem dL_law_2009 : decode cL_law 2009 = .ok (.iload 6, 2) := by decide +kernel
theorem dL_law_2011 : decode cL_law 2011 = .ok (.ifCond .ne 15, 3) := by decide +kernel
theorem dL_law_2014 : decode cL_law 2014 = .ok (.aload_n 3, 1) := by decide +kernel
theorem dL_law_2015 : decode cL_law 2015 = .ok (.iconst 0, 1) := by decide +kernel
theorem dL_law_2016 : decode cL_law 2016 = .ok (.laload, 1) := by decide +kernel
theorem dL_law_2017 : decode cL_law 2017 = .ok (.iload 7, 2) := by decide +kernel
theorem dL_law_2019 : decode cL_law 2019 = .ok (.i2l, 1) := by decide +kernel
theorem dL_law_2020 : decode cL_law 2020 = .ok (.lcmp, 1) := by decide +kernel
theorem dL_law_2021 : decode cL_law 2021 = .ok (.ifCond .eq 5, 3) := by decide +kernel
theorem dL_law_2024 : decode cL_law 2024 = .ok (.iconst 0, 1) := by decide +kernel
theorem dL_law_2025 : decode cL_law 2025 = .ok (.ireturn, 1) := by decide +kernel
theorem dL_law_2026 : decode cL_law 2026 = .ok (.goto 1294, 3) := by decide +kernel
set_option maxRecDepth 100000 in
set_option maxHeartbeats 4000000 in
theorem law_29 {l : Launch} {g : Nat → Nat} {nm ds : String} {tb : List ExceptionTableEntry} {L mc ms : Nat} {Po : Res → LH → Prop} {X : CX} {M : LH} {k0 n0 : Nat} (htr : l.stackTraces = false) {b SN : Nat} {xs : Nat → Int32} (hX : Sc b SN xs X) {kd : Nat → Nat} {p : Nat} {q a : Nat → Nat} {e8 : Int32 → Nat} {v : Int32 → Int32} {sv : Int32} {sa : Int32 → Int32} {ch : Int32} {pa tx : Int32 → Int32} {tn : Int32} {Ls : List Int32} {ea fl : Int32} {m : Nat} {w : Nat → Nat} {t bf he en wr dg : Int32} {b4 fr th bs li lf to : Int32 → Int32} {out outD : Nat} {N : Nat} (hP : Pg kd M p q a e8 v sv sa ch pa tx tn Ls ea fl) (hM : Md kd 30 M m w t ch ea fl sv bf tn he en (nI Ls.length) wr dg v b4 sa pa fr th bs tx li lf to) (hS : Lw N v sv sa ch pa tn Ls ea fl li) (hN : N ≤ 512) {h0 : Nat → Int64} (hO : M out = some (la 1 h0)) (ko : kd out = 31) {h2 : Nat → UInt64} (hO2 : M outD = some (da 1 h2)) (ko2 : kd outD = 31) {i : Int32} (hi : ∀ j : Int32, 1 ≤ j → j ≤ 5 → 0 ≤ i + j ∧ (i + j).toNatClampNeg < SN) (hL : 30 ≤ L) (hk : k0 + 8 ≤ mc) (hn : n0 + 600 ≤ ms) {z6 z7 z8 : Option Value} (kk : ∀ (M' : LH) (z6 z7 z8 : Option Value), LI p m out outD (N + 1) M' → V l g ⟨"SledgePostLaw", nm, ds⟩ cL_law (some .boolean) tb L mc ms Po X M' (k0 + 8) (n0 + 600) 3320 [some (.ref b), some (.ref p), some (.ref m), some (.ref out), some (.ref outD), some (.int i), z6, z7, z8] []) : V l g ⟨"SledgePostLaw", nm, ds⟩ cL_law (some .boolean) tb L mc ms Po X M k0 n0 1973 [some (.ref b), some (.ref p), some (.ref m), some (.ref out), some (.ref outD), some (.int i), z6, z7, z8] [] := by
  obtain ⟨hG, hSy, hv4⟩ := hS.1
  obtain ⟨-, -, -, -, ⟨tn0, tn60⟩, ⟨ea1, fl1⟩, ⟨hTl, hLs⟩, c0, c8⟩ := _root_.id hS
  obtain ⟨h461, h46⟩ := hS.1.r hN
  obtain ⟨hs0, old0, ⟨hpO, -⟩, -⟩ := _root_.id hP
  refine v_aload_n dL_law_1973 rfl rfl ?_
  refine v_aload_n dL_law_1974 rfl rfl ?_
  refine v_iload dL_law_1975 rfl ?_
  refine v_iconst (v := 1) dL_law_1977 (by decide) ?_
  refine v_iadd dL_law_1978 ?_
  refine v_sld hX dL_law_1979 (hi 1 (by decide) (by decide)).1 (hi 1 (by decide) (by decide)).2 ?_
  refine v_aload_n dL_law_1980 rfl rfl ?_
  refine kl_283 dL_law_1981 rfl (w_L_letterAt htr (f_letterAt htr hP (xs (i + 1).toNatClampNeg)) hpO (fun r M9 h9 => ⟨_, (h9.2.2.2 out (by rw [ko]; decide)).trans hO⟩) (fun E M9 h9 => h9.2.1)) (by omega) (by omega) (by omega) (Nat.le_of_ble_eq_true rfl) (fun r9 M9 h9 => ?_) (fun _ _ h9 => h9.elim)
  rcases h9 with ⟨rfl, r, M8, h8, ⟨hc, rfl, hP8, hF8⟩, hh, rfl⟩ | ⟨E, ⟨hc, hE0, hP8, hF8⟩, hE⟩
  · skip
    have f31 : Fs kd (fun r => r = 31) M8 (hup M8 out (la 1 h8)) := fun x hx => hup_n (fun z => hx (by rw [z]; exact ko))
    have hP9 := hP8.fs f31 (fun r h => by omega)
    have hM9 := (hM.tp (hF8.t 30 (Nat.le_refl _))).tp (f31.tp (by decide))
    have hO9 := up_k (e' := la 1 h8) ((hF8 outD (by rw [ko2]; decide)).trans hO2) ((hF8 out (by rw [ko]; decide)).trans hO) da_la
    refine v_istore_6 dL_law_1984 ?_
    refine v_aload_n dL_law_1986 rfl rfl ?_
    refine v_aload_n dL_law_1987 rfl rfl ?_
    refine v_iload dL_law_1988 rfl ?_
    refine v_iconst (v := 1) dL_law_1990 (by decide) ?_
    refine v_iadd dL_law_1991 ?_
    refine v_sld hX dL_law_1992 (hi 1 (by decide) (by decide)).1 (hi 1 (by decide) (by decide)).2 ?_
    refine k_L_285 dL_law_1993 rfl (r_letterAt htr hM9 hG (xs (i + 1).toNatClampNeg)) hM9.1 (by omega) (by omega) (by omega) (Nat.le_of_ble_eq_true rfl) (fun r1993 M9 h9 => ?_) (fun _ _ h9 => h9.elim)
    obtain ⟨h9, hF9⟩ := h9
    rcases h9 with ⟨-, rfl, hC⟩ | ⟨hn, -⟩
    rotate_left
    · first | exact absurd hc hn | exact absurd hn hc
    have hOA := LR1 (kd := kd) hup_s ko hF9
    have hOD := LR1 hO9 ko2 hF9
    refine v_istore_7 dL_law_1996 ?_
    refine v_aload_n dL_law_1998 rfl rfl ?_
    refine k_L_189 dL_law_1999 rfl (r_thrown htr hC) hC.1 (by omega) (by omega) (by omega) (Nat.le_of_ble_eq_true rfl) (fun r1999 M9 h9 => ?_) (fun _ _ h9 => h9.elim)
    obtain ⟨rfl, e9⟩ := h9
    subst M9
    refine v_iload dL_law_2002 rfl ?_
    refine v_icmp_eq (tgt := 2009) dL_law_2004 (by decide) (fun h2004 => ?_) (fun h2004 => ?_)
    · refine v_iload dL_law_2009 rfl ?_
      refine v_if_ne (tgt := 2026) dL_law_2011 (by decide) (fun h2011 => ?_) (fun h2011 => ?_)
      · exact absurd rfl h2011
      · refine v_aload_n dL_law_2014 rfl rfl ?_
        refine v_iconst (v := 0) dL_law_2015 (by decide) ?_
        refine v_lald dL_law_2016 hOA ?_
        refine v_iload dL_law_2017 rfl ?_
        refine v_i2l dL_law_2019 ?_
        refine v_lcmp dL_law_2020 ?_
        rw [hh, lg_self]
        refine v_if_eq (tgt := 2026) dL_law_2021 (by decide) (fun h2021 => ?_) (fun h2021 => ?_)
        · refine v_goto (tgt := 3320) dL_law_2026 (by decide) ?_
          refine V.wid (k' := k0 + 8) (n' := n0 + 600) (by omega) (by omega) (kk _ _ _ _ ?_)
          exact ⟨kd, q, a, e8, v, sv, sa, ch, pa, tx, tn, Ls, ea, fl, w, _, _, _, _, _, _, _, _, _, _, _, _, _, hP9.fs (Frm.fs (S := fun r => r = 30) hF9 rfl) (fun r h => by omega), hC, hS.up, ⟨⟨_, hOA⟩, ko⟩, ⟨_, hOD⟩, ko2⟩
        · exact absurd rfl h2021
    · exact absurd rfl h2004
  · skip
    have hM9 := hM.tp (hF8.t 30 (Nat.le_refl _))
    have hO8 := (hF8 out (by rw [ko]; decide)).trans hO
    have hO9 := (hF8 outD (by rw [ko2]; decide)).trans hO2
    obtain ⟨-, rfl⟩ := hE
    refine v_istore_6 dL_law_1984 ?_
    refine v_aload_n dL_law_1986 rfl rfl ?_
    refine v_aload_n dL_law_1987 rfl rfl ?_
    refine v_iload dL_law_1988 rfl ?_
    refine v_iconst (v := 1) dL_law_1990 (by decide) ?_
    refine v_iadd dL_law_1991 ?_
    refine v_sld hX dL_law_1992 (hi 1 (by decide) (by decide)).1 (hi 1 (by decide) (by decide)).2 ?_
    refine k_L_285 dL_law_1993 rfl (r_letterAt htr hM9 hG (xs (i + 1).toNatClampNeg)) hM9.1 (by omega) (by omega) (by omega) (Nat.le_of_ble_eq_true rfl) (fun r1993 M9 h9 => ?_) (fun _ _ h9 => h9.elim)
    obtain ⟨h9, hF9⟩ := h9
    rcases h9 with ⟨hn, -⟩ | ⟨-, rfl, hC⟩
    · first | exact absurd hn hc | exact absurd hc hn
    have hOA := LR1 hO8 ko hF9
    have hOD := LR1 hO9 ko2 hF9
    refine v_istore_7 dL_law_1996 ?_
    refine v_aload_n dL_law_1998 rfl rfl ?_
    refine k_L_189 dL_law_1999 rfl (r_thrown htr hC) hC.1 (by omega) (by omega) (by omega) (Nat.le_of_ble_eq_true rfl) (fun r1999 M9 h9 => ?_) (fun _ _ h9 => h9.elim)
    obtain ⟨rfl, e9⟩ := h9
    subst M9
    refine v_iload dL_law_2002 rfl ?_
    refine v_icmp_eq (tgt := 2009) dL_law_2004 (by decide) (fun h2004 => ?_) (fun h2004 => ?_)
    · refine v_iload dL_law_2009 rfl ?_
      refine v_if_ne (tgt := 2026) dL_law_2011 (by decide) (fun h2011 => ?_) (fun h2011 => ?_)
      · refine v_goto (tgt := 3320) dL_law_2026 (by decide) ?_
        refine V.wid (k' := k0 + 8) (n' := n0 + 600) (by omega) (by omega) (kk _ _ _ _ ?_)
        exact ⟨kd, q, a, e8, v, sv, sa, ch, pa, tx, tn, Ls, ea, fl, w, _, _, _, _, _, _, _, _, _, _, _, _, _, hP8.fs (Frm.fs (S := fun r => r = 30) hF9 rfl) (fun r h => by omega), hC, hS.up, ⟨⟨_, hOA⟩, ko⟩, ⟨_, hOD⟩, ko2⟩
      · exact absurd h2011 (by decide)
    · exact absurd rfl h2004
