/-! ===== the law: renders, type, runScript ===== -/
theorem wN_12 {v : Int32 → Int32} (hG : Good v) (p : Int32) : wN v p (v 7).toNatClampNeg ≤ 12 := Nat.le_trans (wL_len (v 7).toNatClampNeg) hG.LB.1
theorem sl_118 {v : Int32 → Int32} (hG : Good v) (k : Int32) : (slT v k ++ idT v (wL v (10 + k) (v 7).toNatClampNeg) (wN v (10 + k) (v 7).toNatClampNeg)).length ≤ 120 := by
  have h1 := slT_len (σ := v) (k := k)
  have h2 := idT_len (σ := v) (L := wL v (10 + k) (v 7).toNatClampNeg) (wN v (10 + k) (v 7).toNatClampNeg)
  have h3 := wN_12 hG (10 + k)
  rw [List.length_append]
  omega
theorem lt_41 {v : Int32 → Int32} (i : Int32) : (ltT v i).length ≤ 120 := by
  have n0 := num_len (lt v i 0)
  have n1 := num_len (lt v i 1)
  have n2 := num_len (lt v i 2)
  have n3 := num_len (lt v i 3)
  have n4 := num_len (lt v i 4)
  have n5 := num_len (lt v i 5)
  unfold ltT
  simp only [List.length_append, List.length_cons]
  omega
theorem Lw.ln {v : Int32 → Int32} {sv : Int32} {sa : Int32 → Int32} {ch : Int32} {pa : Int32 → Int32} {tn : Int32} {Ls : List Int32} {ea fl : Int32} {li : Int32 → Int32} {N : Nat} {Ls' : List Int32} {li' : Int32 → Int32} (h : Lw N v sv sa ch pa tn Ls ea fl li) (h1 : Tl li' Ls') (h2 : Ls'.length ≤ 120) : Lw (N + 1) v sv sa ch pa tn Ls' ea fl li' := by
  obtain ⟨s1, s2, s3, s4, s5, s6, s7, s8, s9⟩ := h.up
  exact ⟨s1, s2, s3, s4, s5, s6, ⟨h1, h2⟩, s8, s9⟩
theorem Lw.tn {v : Int32 → Int32} {sv : Int32} {sa : Int32 → Int32} {ch : Int32} {pa : Int32 → Int32} {tn : Int32} {Ls : List Int32} {ea fl : Int32} {li : Int32 → Int32} {N : Nat} (h : Lw N v sv sa ch pa tn Ls ea fl li) {tn' : Int32} (h1 : 0 ≤ tn') (h2 : tn' ≤ 60) : Lw N v sv sa ch pa tn' Ls ea fl li := by
  obtain ⟨s1, s2, s3, s4, s5, s6, s7, s8, s9⟩ := h
  exact ⟨s1, s2, s3, s4, ⟨h1, h2⟩, s6, s7, s8, s9⟩
theorem Lw.ea {v : Int32 → Int32} {sv : Int32} {sa : Int32 → Int32} {ch : Int32} {pa : Int32 → Int32} {tn : Int32} {Ls : List Int32} {ea fl : Int32} {li : Int32 → Int32} {N : Nat} (h : Lw N v sv sa ch pa tn Ls ea fl li) {ea' fl' : Int32} (h1 : -1 ≤ ea') (h2 : -1 ≤ fl') : Lw N v sv sa ch pa tn Ls ea' fl' li := by
  obtain ⟨s1, s2, s3, s4, s5, s6, s7, s8, s9⟩ := h
  exact ⟨s1, s2, s3, s4, s5, ⟨h1, h2⟩, s7, s8, s9⟩
theorem Lw.vx {v : Int32 → Int32} {sv : Int32} {sa : Int32 → Int32} {ch : Int32} {pa : Int32 → Int32} {tn : Int32} {Ls : List Int32} {ea fl : Int32} {li : Int32 → Int32} {N : Nat} {v' : Int32 → Int32} (h : Lw N v sv sa ch pa tn Ls ea fl li) (e : Ag v v') : Lw N v' sv sa ch pa tn Ls ea fl li := by
  obtain ⟨s1, s⟩ := h
  exact ⟨s1.ag e, s⟩
theorem nI_m1 : ∀ k, k < 62 → -1 ≤ nI k := by decide
theorem tn_1 {tn : Int32} (h0 : 0 ≤ tn) (h : tn ≤ 60) (h2 : ¬ tn = 60) : 0 ≤ tn + 1 ∧ tn + 1 ≤ 60 := by
  constructor <;> lia
theorem dL_law_2861 : decode cL_law 2861 = .ok (.aload_n 1, 1) := by decide +kernel
theorem dL_law_2862 : decode cL_law 2862 = .ok (.aload_n 0, 1) := by decide +kernel
theorem dL_law_2863 : decode cL_law 2863 = .ok (.iload 5, 2) := by decide +kernel
theorem dL_law_2865 : decode cL_law 2865 = .ok (.iconst 1, 1) := by decide +kernel
theorem dL_law_2866 : decode cL_law 2866 = .ok (.iadd, 1) := by decide +kernel
theorem dL_law_2867 : decode cL_law 2867 = .ok (.iaload, 1) := by decide +kernel
theorem dL_law_2868 : decode cL_law 2868 = .ok (.aload_n 3, 1) := by decide +kernel
theorem dL_law_2869 : decode cL_law 2869 = .ok (.invokestatic 351, 3) := by decide +kernel
theorem dL_law_2872 : decode cL_law 2872 = .ok (.istore 6, 2) := by decide +kernel
theorem dL_law_2874 : decode cL_law 2874 = .ok (.aload_n 2, 1) := by decide +kernel
theorem dL_law_2875 : decode cL_law 2875 = .ok (.aload_n 0, 1) := by decide +kernel
theorem dL_law_2876 : decode cL_law 2876 = .ok (.iload 5, 2) := by decide +kernel
theorem dL_law_2878 : decode cL_law 2878 = .ok (.iconst 1, 1) := by decide +kernel
theorem dL_law_2879 : decode cL_law 2879 = .ok (.iadd, 1) := by decide +kernel
theorem dL_law_2880 : decode cL_law 2880 = .ok (.iaload, 1) := by decide +kernel
theorem dL_law_2881 : decode cL_law 2881 = .ok (.invokevirtual 353, 3) := by decide +kernel
theorem dL_law_2884 : decode cL_law 2884 = .ok (.istore 7, 2) := by decide +kernel
theorem dL_law_2886 : decode cL_law 2886 = .ok (.aload_n 2, 1) := by decide +kernel
theorem dL_law_2887 : decode cL_law 2887 = .ok (.invokevirtual 189, 3) := by decide +kernel
theorem dL_law_2890 : decode cL_law 2890 = .ok (.iload 6, 2) := by decide +kernel
theorem dL_law_2892 : decode cL_law 2892 = .ok (.if_icmp .eq 5, 3) := by decide +kernel
theorem dL_law_2895 : decode cL_law 2895 = .ok (.iconst 0, 1) := by decide +kernel
theorem dL_law_2896 : decode cL_law 2896 = .ok (.ireturn, 1) := by decide +kernel
theorem dL_law_2897 : decode cL_law 2897 = .ok (.iload 6, 2) := by decide +kernel
theorem dL_law_2899 : decode cL_law 2899 = .ok (.ifCond .ne 15, 3) := by decide +kernel
theorem dL_law_2902 : decode cL_law 2902 = .ok (.aload_n 3, 1) := by decide +kernel
theorem dL_law_2903 : decode cL_law 2903 = .ok (.iconst 0, 1) := by decide +kernel
theorem dL_law_2904 : decode cL_law 2904 = .ok (.laload, 1) := by decide +kernel
theorem dL_law_2905 : decode cL_law 2905 = .ok (.iload 7, 2) := by decide +kernel
theorem dL_law_2907 : decode cL_law 2907 = .ok (.i2l, 1) := by decide +kernel
theorem dL_law_2908 : decode cL_law 2908 = .ok (.lcmp, 1) := by decide +kernel
theorem dL_law_2909 : decode cL_law 2909 = .ok (.ifCond .eq 5, 3) := by decide +kernel
theorem dL_law_2912 : decode cL_law 2912 = .ok (.iconst 0, 1) := by decide +kernel
theorem dL_law_2913 : decode cL_law 2913 = .ok (.ireturn, 1) := by decide +kernel
theorem dL_law_2914 : decode cL_law 2914 = .ok (.goto 406, 3) := by decide +kernel
set_option maxRecDepth 100000 in
set_option maxHeartbeats 4000000 in
theorem law_49 {l : Launch} {g : Nat → Nat} {nm ds : String} {tb : List ExceptionTableEntry} {L mc ms : Nat} {Po : Res → LH → Prop} {X : CX} {M : LH} {k0 n0 : Nat} (htr : l.stackTraces = false) {b SN : Nat} {xs : Nat → Int32} (hX : Sc b SN xs X) {kd : Nat → Nat} {p : Nat} {q a : Nat → Nat} {e8 : Int32 → Nat} {v : Int32 → Int32} {sv : Int32} {sa : Int32 → Int32} {ch : Int32} {pa tx : Int32 → Int32} {tn : Int32} {Ls : List Int32} {ea fl : Int32} {m : Nat} {w : Nat → Nat} {t bf he en wr dg : Int32} {b4 fr th bs li lf to : Int32 → Int32} {out outD : Nat} {N : Nat} (hP : Pg kd M p q a e8 v sv sa ch pa tx tn Ls ea fl) (hM : Md kd 30 M m w t ch ea fl sv bf tn he en (nI Ls.length) wr dg v b4 sa pa fr th bs tx li lf to) (hS : Lw N v sv sa ch pa tn Ls ea fl li) (hN : N ≤ 512) {h0 : Nat → Int64} (hO : M out = some (la 1 h0)) (ko : kd out = 31) {h2 : Nat → UInt64} (hO2 : M outD = some (da 1 h2)) (ko2 : kd outD = 31) {i : Int32} (hi : ∀ j : Int32, 1 ≤ j → j ≤ 5 → 0 ≤ i + j ∧ (i + j).toNatClampNeg < SN) (hL : 30 ≤ L) (hk : k0 + 8 ≤ mc) (hn : n0 + 600 ≤ ms) {z6 z7 z8 : Option Value} (kk : ∀ (M' : LH) (z6 z7 z8 : Option Value), LI p m out outD (N + 1) M' → V l g ⟨"SledgePostLaw", nm, ds⟩ cL_law (some .boolean) tb L mc ms Po X M' (k0 + 8) (n0 + 600) 3320 [some (.ref b), some (.ref p), some (.ref m), some (.ref out), some (.ref outD), some (.int i), z6, z7, z8] []) : V l g ⟨"SledgePostLaw", nm, ds⟩ cL_law (some .boolean) tb L mc ms Po X M k0 n0 2861 [some (.ref b), some (.ref p), some (.ref m), some (.ref out), some (.ref outD), some (.int i), z6, z7, z8] [] := by
  obtain ⟨hG, hSy, hv4⟩ := hS.1
  obtain ⟨-, -, -, -, ⟨tn0, tn60⟩, ⟨ea1, fl1⟩, ⟨hTl, hLs⟩, c0, c8⟩ := _root_.id hS
  obtain ⟨h461, h46⟩ := hS.1.r hN
  obtain ⟨hs0, old0, ⟨hpO, -⟩, -⟩ := _root_.id hP
  refine v_aload_n dL_law_2861 rfl rfl ?_
  refine v_aload_n dL_law_2862 rfl rfl ?_
  refine v_iload dL_law_2863 rfl ?_
  refine v_iconst (v := 1) dL_law_2865 (by decide) ?_
  refine v_iadd dL_law_2866 ?_
  refine v_sld hX dL_law_2867 (hi 1 (by decide) (by decide)).1 (hi 1 (by decide) (by decide)).2 ?_
  refine v_aload_n dL_law_2868 rfl rfl ?_
  refine kl_351 dL_law_2869 rfl (w_L_renderSledge htr (f_renderSledge htr hP (xs (i + 1).toNatClampNeg) h46) hpO (fun r M9 h9 => (h9.2.2.elim (fun _ z => ⟨_, (z.2 31 (by decide) out _ ko hO).1⟩))) (fun E M9 h9 => h9.2.1)) (by omega) (by omega) (by omega) (Nat.le_of_ble_eq_true rfl) (fun r9 M9 h9 => ?_) (fun _ _ h9 => h9.elim)
  rcases h9 with ⟨rfl, r, M8, h8, ⟨hc, rfl, kd2, hP8, hF8⟩, hh, rfl⟩ | ⟨E, ⟨hc, hE0, hP8, hF8⟩, hE⟩
  · skip
    obtain ⟨hOo, kq⟩ := hF8 31 (by decide) out _ ko hO
    obtain ⟨hOd, kq2⟩ := hF8 31 (by decide) outD _ ko2 hO2
    have f31 : Fs kd2 (fun r => r = 31) M8 (hup M8 out (la 1 h8)) := fun x hx => hup_n (fun z => hx (by rw [z]; exact kq))
    have hP9 := hP8.fs f31 (fun r h => by omega)
    have hM9 := (hM.tp (hF8 30 (Nat.le_refl _))).tp (f31.tp (by decide))
    have hO9 := up_k (e' := la 1 h8) hOd hOo da_la
    refine v_istore_6 dL_law_2872 ?_
    refine v_aload_n dL_law_2874 rfl rfl ?_
    refine v_aload_n dL_law_2875 rfl rfl ?_
    refine v_iload dL_law_2876 rfl ?_
    refine v_iconst (v := 1) dL_law_2878 (by decide) ?_
    refine v_iadd dL_law_2879 ?_
    refine v_sld hX dL_law_2880 (hi 1 (by decide) (by decide)).1 (hi 1 (by decide) (by decide)).2 ?_
    refine k_L_353 dL_law_2881 rfl (r_renderSledge htr hM9 hG h46 (xs (i + 1).toNatClampNeg)) hM9.1 (by omega) (by omega) (by omega) (Nat.le_of_ble_eq_true rfl) (fun r2881 M9 h9 => ?_) (fun _ _ h9 => h9.elim)
    obtain ⟨li2, th2, h9, hF9⟩ := h9
    rcases h9 with ⟨-, rfl, hTl2, hC⟩ | ⟨hn, -⟩
    rotate_left
    · exact absurd hc hn
    have hOA := LR1 (kd := kd2) hup_s kq hF9
    have hOD := LR1 hO9 kq2 hF9
    refine v_istore_7 dL_law_2884 ?_
    refine v_aload_n dL_law_2886 rfl rfl ?_
    refine k_L_189 dL_law_2887 rfl (r_thrown htr hC) hC.1 (by omega) (by omega) (by omega) (Nat.le_of_ble_eq_true rfl) (fun r2887 M9 h9 => ?_) (fun _ _ h9 => h9.elim)
    obtain ⟨rfl, e9⟩ := h9
    subst M9
    refine v_iload dL_law_2890 rfl ?_
    refine v_icmp_eq (tgt := 2897) dL_law_2892 (by decide) (fun h2892 => ?_) (fun h2892 => ?_)
    · refine v_iload dL_law_2897 rfl ?_
      refine v_if_ne (tgt := 2914) dL_law_2899 (by decide) (fun h2899 => ?_) (fun h2899 => ?_)
      · exact absurd rfl h2899
      · refine v_aload_n dL_law_2902 rfl rfl ?_
        refine v_iconst (v := 0) dL_law_2903 (by decide) ?_
        refine v_lald dL_law_2904 hOA ?_
        refine v_iload dL_law_2905 rfl ?_
        refine v_i2l dL_law_2907 ?_
        refine v_lcmp dL_law_2908 ?_
        rw [hh, lg_self]
        refine v_if_eq (tgt := 2914) dL_law_2909 (by decide) (fun h2909 => ?_) (fun h2909 => ?_)
        · refine v_goto (tgt := 3320) dL_law_2914 (by decide) ?_
          refine V.wid (k' := k0 + 8) (n' := n0 + 600) (by omega) (by omega) (kk _ _ _ _ ?_)
          exact ⟨kd2, q, a, e8, v, sv, sa, ch, pa, tx, tn, _, ea, fl, w, _, _, _, _, _, _, _, _, _, _, _, _, _, (hP9.fs (Frm.fs (S := fun r => r = 30) hF9 rfl) (fun r h => by omega)), hC, hS.ln hTl2 (sl_118 hG _), ⟨⟨_, hOA⟩, kq⟩, ⟨_, hOD⟩, kq2⟩
        · exact absurd rfl h2909
    · exact absurd rfl h2892
  · skip
    have hM9 := hM.tp (hF8.t 30 (Nat.le_refl _))
    have hO8 := (hF8 out (by rw [ko]; decide)).trans hO
    have hO9 := (hF8 outD (by rw [ko2]; decide)).trans hO2
    obtain ⟨-, rfl⟩ := hE
    refine v_istore_6 dL_law_2872 ?_
    refine v_aload_n dL_law_2874 rfl rfl ?_
    refine v_aload_n dL_law_2875 rfl rfl ?_
    refine v_iload dL_law_2876 rfl ?_
    refine v_iconst (v := 1) dL_law_2878 (by decide) ?_
    refine v_iadd dL_law_2879 ?_
    refine v_sld hX dL_law_2880 (hi 1 (by decide) (by decide)).1 (hi 1 (by decide) (by decide)).2 ?_
    refine k_L_353 dL_law_2881 rfl (r_renderSledge htr hM9 hG h46 (xs (i + 1).toNatClampNeg)) hM9.1 (by omega) (by omega) (by omega) (Nat.le_of_ble_eq_true rfl) (fun r2881 M9 h9 => ?_) (fun _ _ h9 => h9.elim)
    obtain ⟨li2, th2, h9, hF9⟩ := h9
    rcases h9 with ⟨hn, -⟩ | ⟨-, rfl, hC⟩
    · exact absurd hn hc
    have hOA := LR1 (kd := kd) hO8 ko hF9
    have hOD := LR1 hO9 ko2 hF9
    refine v_istore_7 dL_law_2884 ?_
    refine v_aload_n dL_law_2886 rfl rfl ?_
    refine k_L_189 dL_law_2887 rfl (r_thrown htr hC) hC.1 (by omega) (by omega) (by omega) (Nat.le_of_ble_eq_true rfl) (fun r2887 M9 h9 => ?_) (fun _ _ h9 => h9.elim)
    obtain ⟨rfl, e9⟩ := h9
    subst M9
    refine v_iload dL_law_2890 rfl ?_
    refine v_icmp_eq (tgt := 2897) dL_law_2892 (by decide) (fun h2892 => ?_) (fun h2892 => ?_)
    · refine v_iload dL_law_2897 rfl ?_
      refine v_if_ne (tgt := 2914) dL_law_2899 (by decide) (fun h2899 => ?_) (fun h2899 => ?_)
      · refine v_goto (tgt := 3320) dL_law_2914 (by decide) ?_
        refine V.wid (k' := k0 + 8) (n' := n0 + 600) (by omega) (by omega) (kk _ _ _ _ ?_)
        exact ⟨kd, q, a, e8, v, _, sa, _, pa, tx, tn, Ls, _, _, w, _, _, _, _, _, _, _, _, _, _, _, _, _, (hP8.fs (Frm.fs (S := fun r => r = 30) hF9 rfl) (fun r h => by omega)), hC, hS.up, ⟨⟨_, hOA⟩, ko⟩, ⟨_, hOD⟩, ko2⟩
      · exact absurd h2899 (by first | decide | exact fcI_nz)
    · exact absurd rfl h2892
theorem dL_law_2917 : decode cL_law 2917 = .ok (.aload_n 1, 1) := by decide +kernel
theorem dL_law_2918 : decode cL_law 2918 = .ok (.aload_n 0, 1) := by decide +kernel
theorem dL_law_2919 : decode cL_law 2919 = .ok (.iload 5, 2) := by decide +kernel
theorem dL_law_2921 : decode cL_law 2921 = .ok (.iconst 1, 1) := by decide +kernel
theorem dL_law_2922 : decode cL_law 2922 = .ok (.iadd, 1) := by decide +kernel
theorem dL_law_2923 : decode cL_law 2923 = .ok (.iaload, 1) := by decide +kernel
theorem dL_law_2924 : decode cL_law 2924 = .ok (.aload_n 3, 1) := by decide +kernel
theorem dL_law_2925 : decode cL_law 2925 = .ok (.invokestatic 354, 3) := by decide +kernel
theorem dL_law_2928 : decode cL_law 2928 = .ok (.istore 6, 2) := by decide +kernel
theorem dL_law_2930 : decode cL_law 2930 = .ok (.aload_n 2, 1) := by decide +kernel
theorem dL_law_2931 : decode cL_law 2931 = .ok (.aload_n 0, 1) := by decide +kernel
theorem dL_law_2932 : decode cL_law 2932 = .ok (.iload 5, 2) := by decide +kernel
theorem dL_law_2934 : decode cL_law 2934 = .ok (.iconst 1, 1) := by decide +kernel
theorem dL_law_2935 : decode cL_law 2935 = .ok (.iadd, 1) := by decide +kernel
theorem dL_law_2936 : decode cL_law 2936 = .ok (.iaload, 1) := by decide +kernel
theorem dL_law_2937 : decode cL_law 2937 = .ok (.invokevirtual 356, 3) := by decide +kernel
theorem dL_law_2940 : decode cL_law 2940 = .ok (.istore 7, 2) := by decide +kernel
theorem dL_law_2942 : decode cL_law 2942 = .ok (.aload_n 2, 1) := by decide +kernel
theorem dL_law_2943 : decode cL_law 2943 = .ok (.invokevirtual 189, 3) := by decide +kernel
theorem dL_law_2946 : decode cL_law 2946 = .ok (.iload 6, 2) := by decide +kernel
theorem dL_law_2948 : decode cL_law 2948 = .ok (.if_icmp .eq 5, 3) := by decide +kernel
theorem dL_law_2951 : decode cL_law 2951 = .ok (.iconst 0, 1) := by decide +kernel
theorem dL_law_2952 : decode cL_law 2952 = .ok (.ireturn, 1) := by decide +kernel
theorem dL_law_2953 : decode cL_law 2953 = .ok (.iload 6, 2) := by decide +kernel
theorem dL_law_2955 : decode cL_law 2955 = .ok (.ifCond .ne 15, 3) := by decide +kernel
theorem dL_law_2958 : decode cL_law 2958 = .ok (.aload_n 3, 1) := by decide +kernel
theorem dL_law_2959 : decode cL_law 2959 = .ok (.iconst 0, 1) := by decide +kernel
theorem dL_law_2960 : decode cL_law 2960 = .ok (.laload, 1) := by decide +kernel
theorem dL_law_2961 : decode cL_law 2961 = .ok (.iload 7, 2) := by decide +kernel
theorem dL_law_2963 : decode cL_law 2963 = .ok (.i2l, 1) := by decide +kernel
theorem dL_law_2964 : decode cL_law 2964 = .ok (.lcmp, 1) := by decide +kernel
theorem dL_law_2965 : decode cL_law 2965 = .ok (.ifCond .eq 5, 3) := by decide +kernel
theorem dL_law_2968 : decode cL_law 2968 = .ok (.iconst 0, 1) := by decide +kernel
theorem dL_law_2969 : decode cL_law 2969 = .ok (.ireturn, 1) := by decide +kernel
theorem dL_law_2970 : decode cL_law 2970 = .ok (.goto 350, 3) := by decide +kernel
set_option maxRecDepth 100000 in
set_option maxHeartbeats 4000000 in
theorem law_50 {l : Launch} {g : Nat → Nat} {nm ds : String} {tb : List ExceptionTableEntry} {L mc ms : Nat} {Po : Res → LH → Prop} {X : CX} {M : LH} {k0 n0 : Nat} (htr : l.stackTraces = false) {b SN : Nat} {xs : Nat → Int32} (hX : Sc b SN xs X) {kd : Nat → Nat} {p : Nat} {q a : Nat → Nat} {e8 : Int32 → Nat} {v : Int32 → Int32} {sv : Int32} {sa : Int32 → Int32} {ch : Int32} {pa tx : Int32 → Int32} {tn : Int32} {Ls : List Int32} {ea fl : Int32} {m : Nat} {w : Nat → Nat} {t bf he en wr dg : Int32} {b4 fr th bs li lf to : Int32 → Int32} {out outD : Nat} {N : Nat} (hP : Pg kd M p q a e8 v sv sa ch pa tx tn Ls ea fl) (hM : Md kd 30 M m w t ch ea fl sv bf tn he en (nI Ls.length) wr dg v b4 sa pa fr th bs tx li lf to) (hS : Lw N v sv sa ch pa tn Ls ea fl li) (hN : N ≤ 512) {h0 : Nat → Int64} (hO : M out = some (la 1 h0)) (ko : kd out = 31) {h2 : Nat → UInt64} (hO2 : M outD = some (da 1 h2)) (ko2 : kd outD = 31) {i : Int32} (hi : ∀ j : Int32, 1 ≤ j → j ≤ 5 → 0 ≤ i + j ∧ (i + j).toNatClampNeg < SN) (hL : 30 ≤ L) (hk : k0 + 8 ≤ mc) (hn : n0 + 600 ≤ ms) {z6 z7 z8 : Option Value} (kk : ∀ (M' : LH) (z6 z7 z8 : Option Value), LI p m out outD (N + 1) M' → V l g ⟨"SledgePostLaw", nm, ds⟩ cL_law (some .boolean) tb L mc ms Po X M' (k0 + 8) (n0 + 600) 3320 [some (.ref b), some (.ref p), some (.ref m), some (.ref out), some (.ref outD), some (.int i), z6, z7, z8] []) : V l g ⟨"SledgePostLaw", nm, ds⟩ cL_law (some .boolean) tb L mc ms Po X M k0 n0 2917 [some (.ref b), some (.ref p), some (.ref m), some (.ref out), some (.ref outD), some (.int i), z6, z7, z8] [] := by
  obtain ⟨hG, hSy, hv4⟩ := hS.1
  obtain ⟨-, -, -, -, ⟨tn0, tn60⟩, ⟨ea1, fl1⟩, ⟨hTl, hLs⟩, c0, c8⟩ := _root_.id hS
  obtain ⟨h461, h46⟩ := hS.1.r hN
  obtain ⟨hs0, old0, ⟨hpO, -⟩, -⟩ := _root_.id hP
  refine v_aload_n dL_law_2917 rfl rfl ?_
  refine v_aload_n dL_law_2918 rfl rfl ?_
  refine v_iload dL_law_2919 rfl ?_
  refine v_iconst (v := 1) dL_law_2921 (by decide) ?_
  refine v_iadd dL_law_2922 ?_
  refine v_sld hX dL_law_2923 (hi 1 (by decide) (by decide)).1 (hi 1 (by decide) (by decide)).2 ?_
  refine v_aload_n dL_law_2924 rfl rfl ?_
  refine kl_354 dL_law_2925 rfl (w_L_renderLetter htr (f_renderLetter htr hP (xs (i + 1).toNatClampNeg) h46) hpO (fun r M9 h9 => (h9.2.2.elim (fun _ z => ⟨_, (z.2 31 (by decide) out _ ko hO).1⟩))) (fun E M9 h9 => h9.2.1)) (by omega) (by omega) (by omega) (Nat.le_of_ble_eq_true rfl) (fun r9 M9 h9 => ?_) (fun _ _ h9 => h9.elim)
  rcases h9 with ⟨rfl, r, M8, h8, ⟨hc, rfl, kd2, hP8, hF8⟩, hh, rfl⟩ | ⟨E, ⟨hc, hE0, hP8, hF8⟩, hE⟩
  · skip
    obtain ⟨hOo, kq⟩ := hF8 31 (by decide) out _ ko hO
    obtain ⟨hOd, kq2⟩ := hF8 31 (by decide) outD _ ko2 hO2
    have f31 : Fs kd2 (fun r => r = 31) M8 (hup M8 out (la 1 h8)) := fun x hx => hup_n (fun z => hx (by rw [z]; exact kq))
    have hP9 := hP8.fs f31 (fun r h => by omega)
    have hM9 := (hM.tp (hF8 30 (Nat.le_refl _))).tp (f31.tp (by decide))
    have hO9 := up_k (e' := la 1 h8) hOd hOo da_la
    refine v_istore_6 dL_law_2928 ?_
    refine v_aload_n dL_law_2930 rfl rfl ?_
    refine v_aload_n dL_law_2931 rfl rfl ?_
    refine v_iload dL_law_2932 rfl ?_
    refine v_iconst (v := 1) dL_law_2934 (by decide) ?_
    refine v_iadd dL_law_2935 ?_
    refine v_sld hX dL_law_2936 (hi 1 (by decide) (by decide)).1 (hi 1 (by decide) (by decide)).2 ?_
    refine k_L_356 dL_law_2937 rfl (r_renderLetter htr hM9 hG h46 (xs (i + 1).toNatClampNeg)) hM9.1 (by omega) (by omega) (by omega) (Nat.le_of_ble_eq_true rfl) (fun r2937 M9 h9 => ?_) (fun _ _ h9 => h9.elim)
    obtain ⟨li2, h9, hF9⟩ := h9
    rcases h9 with ⟨-, rfl, hTl2, hC⟩ | ⟨hn, -⟩
    rotate_left
    · exact absurd hc hn
    have hOA := LR1 (kd := kd2) hup_s kq hF9
    have hOD := LR1 hO9 kq2 hF9
    refine v_istore_7 dL_law_2940 ?_
    refine v_aload_n dL_law_2942 rfl rfl ?_
    refine k_L_189 dL_law_2943 rfl (r_thrown htr hC) hC.1 (by omega) (by omega) (by omega) (Nat.le_of_ble_eq_true rfl) (fun r2943 M9 h9 => ?_) (fun _ _ h9 => h9.elim)
    obtain ⟨rfl, e9⟩ := h9
    subst M9
    refine v_iload dL_law_2946 rfl ?_
    refine v_icmp_eq (tgt := 2953) dL_law_2948 (by decide) (fun h2948 => ?_) (fun h2948 => ?_)
    · refine v_iload dL_law_2953 rfl ?_
      refine v_if_ne (tgt := 2970) dL_law_2955 (by decide) (fun h2955 => ?_) (fun h2955 => ?_)
      · exact absurd rfl h2955
      · refine v_aload_n dL_law_2958 rfl rfl ?_
        refine v_iconst (v := 0) dL_law_2959 (by decide) ?_
        refine v_lald dL_law_2960 hOA ?_
        refine v_iload dL_law_2961 rfl ?_
        refine v_i2l dL_law_2963 ?_
        refine v_lcmp dL_law_2964 ?_
        rw [hh, lg_self]
        refine v_if_eq (tgt := 2970) dL_law_2965 (by decide) (fun h2965 => ?_) (fun h2965 => ?_)
        · refine v_goto (tgt := 3320) dL_law_2970 (by decide) ?_
          refine V.wid (k' := k0 + 8) (n' := n0 + 600) (by omega) (by omega) (kk _ _ _ _ ?_)
          exact ⟨kd2, q, a, e8, v, sv, sa, ch, pa, tx, tn, _, ea, fl, w, _, _, _, _, _, _, _, _, _, _, _, _, _, (hP9.fs (Frm.fs (S := fun r => r = 30) hF9 rfl) (fun r h => by omega)), hC, hS.ln hTl2 (lt_41 _), ⟨⟨_, hOA⟩, kq⟩, ⟨_, hOD⟩, kq2⟩
        · exact absurd rfl h2965
    · exact absurd rfl h2948
  · skip
    have hM9 := hM.tp (hF8.t 30 (Nat.le_refl _))
    have hO8 := (hF8 out (by rw [ko]; decide)).trans hO
    have hO9 := (hF8 outD (by rw [ko2]; decide)).trans hO2
    obtain ⟨-, rfl⟩ := hE
    refine v_istore_6 dL_law_2928 ?_
    refine v_aload_n dL_law_2930 rfl rfl ?_
    refine v_aload_n dL_law_2931 rfl rfl ?_
    refine v_iload dL_law_2932 rfl ?_
    refine v_iconst (v := 1) dL_law_2934 (by decide) ?_
    refine v_iadd dL_law_2935 ?_
    refine v_sld hX dL_law_2936 (hi 1 (by decide) (by decide)).1 (hi 1 (by decide) (by decide)).2 ?_
    refine k_L_356 dL_law_2937 rfl (r_renderLetter htr hM9 hG h46 (xs (i + 1).toNatClampNeg)) hM9.1 (by omega) (by omega) (by omega) (Nat.le_of_ble_eq_true rfl) (fun r2937 M9 h9 => ?_) (fun _ _ h9 => h9.elim)
    obtain ⟨li2, h9, hF9⟩ := h9
    rcases h9 with ⟨hn, -⟩ | ⟨-, rfl, hC⟩
    · exact absurd hc hn
    have hOA := LR1 (kd := kd) hO8 ko hF9
    have hOD := LR1 hO9 ko2 hF9
    refine v_istore_7 dL_law_2940 ?_
    refine v_aload_n dL_law_2942 rfl rfl ?_
    refine k_L_189 dL_law_2943 rfl (r_thrown htr hC) hC.1 (by omega) (by omega) (by omega) (Nat.le_of_ble_eq_true rfl) (fun r2943 M9 h9 => ?_) (fun _ _ h9 => h9.elim)
    obtain ⟨rfl, e9⟩ := h9
    subst M9
    refine v_iload dL_law_2946 rfl ?_
    refine v_icmp_eq (tgt := 2953) dL_law_2948 (by decide) (fun h2948 => ?_) (fun h2948 => ?_)
    · refine v_iload dL_law_2953 rfl ?_
      refine v_if_ne (tgt := 2970) dL_law_2955 (by decide) (fun h2955 => ?_) (fun h2955 => ?_)
      · refine v_goto (tgt := 3320) dL_law_2970 (by decide) ?_
        refine V.wid (k' := k0 + 8) (n' := n0 + 600) (by omega) (by omega) (kk _ _ _ _ ?_)
        exact ⟨kd, q, a, e8, v, _, sa, _, pa, tx, tn, Ls, _, _, w, _, _, _, _, _, _, _, _, _, _, _, _, _, (hP8.fs (Frm.fs (S := fun r => r = 30) hF9 rfl) (fun r h => by omega)), hC, hS.up, ⟨⟨_, hOA⟩, ko⟩, ⟨_, hOD⟩, ko2⟩
      · exact absurd h2955 (by first | decide | exact fcI_nz)
    · exact absurd rfl h2948
theorem dL_law_3029 : decode cL_law 3029 = .ok (.aload_n 1, 1) := by decide +kernel
theorem dL_law_3030 : decode cL_law 3030 = .ok (.aload_n 0, 1) := by decide +kernel
theorem dL_law_3031 : decode cL_law 3031 = .ok (.iload 5, 2) := by decide +kernel
theorem dL_law_3033 : decode cL_law 3033 = .ok (.iconst 1, 1) := by decide +kernel
theorem dL_law_3034 : decode cL_law 3034 = .ok (.iadd, 1) := by decide +kernel
theorem dL_law_3035 : decode cL_law 3035 = .ok (.iaload, 1) := by decide +kernel
theorem dL_law_3036 : decode cL_law 3036 = .ok (.i2c, 1) := by decide +kernel
theorem dL_law_3037 : decode cL_law 3037 = .ok (.aload_n 3, 1) := by decide +kernel
theorem dL_law_3038 : decode cL_law 3038 = .ok (.invokestatic 360, 3) := by decide +kernel
theorem dL_law_3041 : decode cL_law 3041 = .ok (.istore 6, 2) := by decide +kernel
theorem dL_law_3043 : decode cL_law 3043 = .ok (.aload_n 2, 1) := by decide +kernel
theorem dL_law_3044 : decode cL_law 3044 = .ok (.aload_n 0, 1) := by decide +kernel
theorem dL_law_3045 : decode cL_law 3045 = .ok (.iload 5, 2) := by decide +kernel
theorem dL_law_3047 : decode cL_law 3047 = .ok (.iconst 1, 1) := by decide +kernel
theorem dL_law_3048 : decode cL_law 3048 = .ok (.iadd, 1) := by decide +kernel
theorem dL_law_3049 : decode cL_law 3049 = .ok (.iaload, 1) := by decide +kernel
theorem dL_law_3050 : decode cL_law 3050 = .ok (.i2c, 1) := by decide +kernel
theorem dL_law_3051 : decode cL_law 3051 = .ok (.invokevirtual 363, 3) := by decide +kernel
theorem dL_law_3054 : decode cL_law 3054 = .ok (.istore 7, 2) := by decide +kernel
theorem dL_law_3056 : decode cL_law 3056 = .ok (.aload_n 2, 1) := by decide +kernel
theorem dL_law_3057 : decode cL_law 3057 = .ok (.invokevirtual 189, 3) := by decide +kernel
theorem dL_law_3060 : decode cL_law 3060 = .ok (.iload 6, 2) := by decide +kernel
theorem dL_law_3062 : decode cL_law 3062 = .ok (.if_icmp .eq 5, 3) := by decide +kernel
theorem dL_law_3065 : decode cL_law 3065 = .ok (.iconst 0, 1) := by decide +kernel
theorem dL_law_3066 : decode cL_law 3066 = .ok (.ireturn, 1) := by decide +kernel
theorem dL_law_3067 : decode cL_law 3067 = .ok (.iload 6, 2) := by decide +kernel
theorem dL_law_3069 : decode cL_law 3069 = .ok (.ifCond .ne 15, 3) := by decide +kernel
theorem dL_law_3072 : decode cL_law 3072 = .ok (.aload_n 3, 1) := by decide +kernel
theorem dL_law_3073 : decode cL_law 3073 = .ok (.iconst 0, 1) := by decide +kernel
theorem dL_law_3074 : decode cL_law 3074 = .ok (.laload, 1) := by decide +kernel
theorem dL_law_3075 : decode cL_law 3075 = .ok (.iload 7, 2) := by decide +kernel
theorem dL_law_3077 : decode cL_law 3077 = .ok (.i2l, 1) := by decide +kernel
theorem dL_law_3078 : decode cL_law 3078 = .ok (.lcmp, 1) := by decide +kernel
theorem dL_law_3079 : decode cL_law 3079 = .ok (.ifCond .eq 5, 3) := by decide +kernel
theorem dL_law_3082 : decode cL_law 3082 = .ok (.iconst 0, 1) := by decide +kernel
theorem dL_law_3083 : decode cL_law 3083 = .ok (.ireturn, 1) := by decide +kernel
theorem dL_law_3084 : decode cL_law 3084 = .ok (.goto 236, 3) := by decide +kernel
set_option maxRecDepth 100000 in
set_option maxHeartbeats 4000000 in
theorem law_52 {l : Launch} {g : Nat → Nat} {nm ds : String} {tb : List ExceptionTableEntry} {L mc ms : Nat} {Po : Res → LH → Prop} {X : CX} {M : LH} {k0 n0 : Nat} (htr : l.stackTraces = false) {b SN : Nat} {xs : Nat → Int32} (hX : Sc b SN xs X) {kd : Nat → Nat} {p : Nat} {q a : Nat → Nat} {e8 : Int32 → Nat} {v : Int32 → Int32} {sv : Int32} {sa : Int32 → Int32} {ch : Int32} {pa tx : Int32 → Int32} {tn : Int32} {Ls : List Int32} {ea fl : Int32} {m : Nat} {w : Nat → Nat} {t bf he en wr dg : Int32} {b4 fr th bs li lf to : Int32 → Int32} {out outD : Nat} {N : Nat} (hP : Pg kd M p q a e8 v sv sa ch pa tx tn Ls ea fl) (hM : Md kd 30 M m w t ch ea fl sv bf tn he en (nI Ls.length) wr dg v b4 sa pa fr th bs tx li lf to) (hS : Lw N v sv sa ch pa tn Ls ea fl li) (hN : N ≤ 512) {h0 : Nat → Int64} (hO : M out = some (la 1 h0)) (ko : kd out = 31) {h2 : Nat → UInt64} (hO2 : M outD = some (da 1 h2)) (ko2 : kd outD = 31) {i : Int32} (hi : ∀ j : Int32, 1 ≤ j → j ≤ 5 → 0 ≤ i + j ∧ (i + j).toNatClampNeg < SN) (hL : 30 ≤ L) (hk : k0 + 8 ≤ mc) (hn : n0 + 600 ≤ ms) {z6 z7 z8 : Option Value} (kk : ∀ (M' : LH) (z6 z7 z8 : Option Value), LI p m out outD (N + 1) M' → V l g ⟨"SledgePostLaw", nm, ds⟩ cL_law (some .boolean) tb L mc ms Po X M' (k0 + 8) (n0 + 600) 3320 [some (.ref b), some (.ref p), some (.ref m), some (.ref out), some (.ref outD), some (.int i), z6, z7, z8] []) : V l g ⟨"SledgePostLaw", nm, ds⟩ cL_law (some .boolean) tb L mc ms Po X M k0 n0 3029 [some (.ref b), some (.ref p), some (.ref m), some (.ref out), some (.ref outD), some (.int i), z6, z7, z8] [] := by
  obtain ⟨hG, hSy, hv4⟩ := hS.1
  obtain ⟨-, -, -, -, ⟨tn0, tn60⟩, ⟨ea1, fl1⟩, ⟨hTl, hLs⟩, c0, c8⟩ := _root_.id hS
  obtain ⟨h461, h46⟩ := hS.1.r hN
  obtain ⟨hs0, old0, ⟨hpO, -⟩, -⟩ := _root_.id hP
  refine v_aload_n dL_law_3029 rfl rfl ?_
  refine v_aload_n dL_law_3030 rfl rfl ?_
  refine v_iload dL_law_3031 rfl ?_
  refine v_iconst (v := 1) dL_law_3033 (by decide) ?_
  refine v_iadd dL_law_3034 ?_
  refine v_sld hX dL_law_3035 (hi 1 (by decide) (by decide)).1 (hi 1 (by decide) (by decide)).2 ?_
  refine v_i2c dL_law_3036 ?_
  refine v_aload_n dL_law_3037 rfl rfl ?_
  refine kl_360 dL_law_3038 rfl (w_L_type htr (f_type htr hP (((xs (i + 1).toNatClampNeg).toUInt32 % 65536).toInt32)) hpO (fun r M9 h9 => (h9.2.2.2.elim (fun _ z => ⟨_, (z.2 31 (by decide) out _ ko hO).1⟩))) (fun E M9 h9 => h9.1.elim (fun z => Or.inl z.2) (fun z => Or.inr z.2.2))) (by omega) (by omega) (by omega) (Nat.le_of_ble_eq_true rfl) (fun r9 M9 h9 => ?_) (fun _ _ h9 => h9.elim)
  rcases h9 with ⟨rfl, r, M8, h8, ⟨hc, hc2, rfl, kd2, hP8, hF8⟩, hh, rfl⟩ | ⟨E, ⟨hx, hP8, hF8⟩, hE⟩
  · skip
    obtain ⟨hOo, kq⟩ := hF8 31 (by decide) out _ ko hO
    obtain ⟨hOd, kq2⟩ := hF8 31 (by decide) outD _ ko2 hO2
    have f31 : Fs kd2 (fun r => r = 31) M8 (hup M8 out (la 1 h8)) := fun x hx => hup_n (fun z => hx (by rw [z]; exact kq))
    have hP9 := hP8.fs f31 (fun r h => by omega)
    have hM9 := (hM.tp (hF8 30 (Nat.le_refl _))).tp (f31.tp (by decide))
    have hO9 := up_k (e' := la 1 h8) hOd hOo da_la
    obtain ⟨tn2, tn3⟩ := tn_1 tn0 tn60 hc2
    refine v_istore_6 dL_law_3041 ?_
    refine v_aload_n dL_law_3043 rfl rfl ?_
    refine v_aload_n dL_law_3044 rfl rfl ?_
    refine v_iload dL_law_3045 rfl ?_
    refine v_iconst (v := 1) dL_law_3047 (by decide) ?_
    refine v_iadd dL_law_3048 ?_
    refine v_sld hX dL_law_3049 (hi 1 (by decide) (by decide)).1 (hi 1 (by decide) (by decide)).2 ?_
    refine v_i2c dL_law_3050 ?_
    refine k_L_363 dL_law_3051 rfl (r_type htr hM9 tn0 tn60 (c := (((xs (i + 1).toNatClampNeg).toUInt32 % 65536).toInt32))) hM9.1 (by omega) (by omega) (by omega) (Nat.le_of_ble_eq_true rfl) (fun r3051 M9 h9 => ?_) (fun _ _ h9 => h9.elim)
    obtain ⟨h9, hF9⟩ := h9
    rcases h9 with ⟨-, -, rfl, hC⟩ | ⟨-, hn, -⟩ | ⟨hn, -⟩
    rotate_left
    · exact absurd hn hc2
    · exact absurd hc hn
    have hOA := LR1 (kd := kd2) hup_s kq hF9
    have hOD := LR1 hO9 kq2 hF9
    refine v_istore_7 dL_law_3054 ?_
    refine v_aload_n dL_law_3056 rfl rfl ?_
    refine k_L_189 dL_law_3057 rfl (r_thrown htr hC) hC.1 (by omega) (by omega) (by omega) (Nat.le_of_ble_eq_true rfl) (fun r3057 M9 h9 => ?_) (fun _ _ h9 => h9.elim)
    obtain ⟨rfl, e9⟩ := h9
    subst M9
    refine v_iload dL_law_3060 rfl ?_
    refine v_icmp_eq (tgt := 3067) dL_law_3062 (by decide) (fun h3062 => ?_) (fun h3062 => ?_)
    · refine v_iload dL_law_3067 rfl ?_
      refine v_if_ne (tgt := 3084) dL_law_3069 (by decide) (fun h3069 => ?_) (fun h3069 => ?_)
      · exact absurd rfl h3069
      · refine v_aload_n dL_law_3072 rfl rfl ?_
        refine v_iconst (v := 0) dL_law_3073 (by decide) ?_
        refine v_lald dL_law_3074 hOA ?_
        refine v_iload dL_law_3075 rfl ?_
        refine v_i2l dL_law_3077 ?_
        refine v_lcmp dL_law_3078 ?_
        rw [hh, lg_self]
        refine v_if_eq (tgt := 3084) dL_law_3079 (by decide) (fun h3079 => ?_) (fun h3079 => ?_)
        · refine v_goto (tgt := 3320) dL_law_3084 (by decide) ?_
          refine V.wid (k' := k0 + 8) (n' := n0 + 600) (by omega) (by omega) (kk _ _ _ _ ?_)
          exact ⟨kd2, q, a, e8, v, sv, sa, ch, pa, _, _, Ls, ea, fl, w, _, _, _, _, _, _, _, _, _, _, _, _, _, (hP9.fs (Frm.fs (S := fun r => r = 30) hF9 rfl) (fun r h => by omega)), hC, hS.up.tn tn2 tn3, ⟨⟨_, hOA⟩, kq⟩, ⟨_, hOD⟩, kq2⟩
        · exact absurd rfl h3079
    · exact absurd rfl h3062
  · skip
    have hM9 := hM.tp (hF8.t 30 (Nat.le_refl _))
    have hO8 := (hF8 out (by rw [ko]; decide)).trans hO
    have hO9 := (hF8 outD (by rw [ko2]; decide)).trans hO2
    rcases hx with ⟨hc, hE0⟩ | ⟨hc, hc2, hE0⟩
    · skip
      obtain ⟨-, rfl⟩ := hE.resolve_right (fun z => absurd (hE0.symm.trans z.1) (by decide))
      refine v_istore_6 dL_law_3041 ?_
      refine v_aload_n dL_law_3043 rfl rfl ?_
      refine v_aload_n dL_law_3044 rfl rfl ?_
      refine v_iload dL_law_3045 rfl ?_
      refine v_iconst (v := 1) dL_law_3047 (by decide) ?_
      refine v_iadd dL_law_3048 ?_
      refine v_sld hX dL_law_3049 (hi 1 (by decide) (by decide)).1 (hi 1 (by decide) (by decide)).2 ?_
      refine v_i2c dL_law_3050 ?_
      refine k_L_363 dL_law_3051 rfl (r_type htr hM9 tn0 tn60 (c := (((xs (i + 1).toNatClampNeg).toUInt32 % 65536).toInt32))) hM9.1 (by omega) (by omega) (by omega) (Nat.le_of_ble_eq_true rfl) (fun r3051 M9 h9 => ?_) (fun _ _ h9 => h9.elim)
      obtain ⟨h9, hF9⟩ := h9
      rcases h9 with ⟨hn, -⟩ | ⟨hn, -⟩ | ⟨-, rfl, hC⟩
      · exact absurd hn hc
      · exact absurd hn hc
      have hOA := LR1 (kd := kd) hO8 ko hF9
      have hOD := LR1 hO9 ko2 hF9
      refine v_istore_7 dL_law_3054 ?_
      refine v_aload_n dL_law_3056 rfl rfl ?_
      refine k_L_189 dL_law_3057 rfl (r_thrown htr hC) hC.1 (by omega) (by omega) (by omega) (Nat.le_of_ble_eq_true rfl) (fun r3057 M9 h9 => ?_) (fun _ _ h9 => h9.elim)
      obtain ⟨rfl, e9⟩ := h9
      subst M9
      refine v_iload dL_law_3060 rfl ?_
      refine v_icmp_eq (tgt := 3067) dL_law_3062 (by decide) (fun h3062 => ?_) (fun h3062 => ?_)
      · refine v_iload dL_law_3067 rfl ?_
        refine v_if_ne (tgt := 3084) dL_law_3069 (by decide) (fun h3069 => ?_) (fun h3069 => ?_)
        · refine v_goto (tgt := 3320) dL_law_3084 (by decide) ?_
          refine V.wid (k' := k0 + 8) (n' := n0 + 600) (by omega) (by omega) (kk _ _ _ _ ?_)
          exact ⟨kd, q, a, e8, v, _, sa, _, pa, tx, tn, Ls, _, _, w, _, _, _, _, _, _, _, _, _, _, _, _, _, (hP8.fs (Frm.fs (S := fun r => r = 30) hF9 rfl) (fun r h => by omega)), hC, hS.up, ⟨⟨_, hOA⟩, ko⟩, ⟨_, hOD⟩, ko2⟩
        · exact absurd h3069 (by first | decide | exact fcI_nz)
      · exact absurd rfl h3062
    · skip
      obtain ⟨-, rfl⟩ := hE.resolve_left (fun z => absurd (hE0.symm.trans z.1) (by decide))
      refine v_istore_6 dL_law_3041 ?_
      refine v_aload_n dL_law_3043 rfl rfl ?_
      refine v_aload_n dL_law_3044 rfl rfl ?_
      refine v_iload dL_law_3045 rfl ?_
      refine v_iconst (v := 1) dL_law_3047 (by decide) ?_
      refine v_iadd dL_law_3048 ?_
      refine v_sld hX dL_law_3049 (hi 1 (by decide) (by decide)).1 (hi 1 (by decide) (by decide)).2 ?_
      refine v_i2c dL_law_3050 ?_
      refine k_L_363 dL_law_3051 rfl (r_type htr hM9 tn0 tn60 (c := (((xs (i + 1).toNatClampNeg).toUInt32 % 65536).toInt32))) hM9.1 (by omega) (by omega) (by omega) (Nat.le_of_ble_eq_true rfl) (fun r3051 M9 h9 => ?_) (fun _ _ h9 => h9.elim)
      obtain ⟨h9, hF9⟩ := h9
      rcases h9 with ⟨-, hn, -⟩ | ⟨-, -, rfl, hC⟩ | ⟨hn, -⟩
      · exact absurd hc2 hn
      rotate_left
      · exact absurd hc hn
      have hOA := LR1 (kd := kd) hO8 ko hF9
      have hOD := LR1 hO9 ko2 hF9
      refine v_istore_7 dL_law_3054 ?_
      refine v_aload_n dL_law_3056 rfl rfl ?_
      refine k_L_189 dL_law_3057 rfl (r_thrown htr hC) hC.1 (by omega) (by omega) (by omega) (Nat.le_of_ble_eq_true rfl) (fun r3057 M9 h9 => ?_) (fun _ _ h9 => h9.elim)
      obtain ⟨rfl, e9⟩ := h9
      subst M9
      refine v_iload dL_law_3060 rfl ?_
      refine v_icmp_eq (tgt := 3067) dL_law_3062 (by decide) (fun h3062 => ?_) (fun h3062 => ?_)
      · refine v_iload dL_law_3067 rfl ?_
        refine v_if_ne (tgt := 3084) dL_law_3069 (by decide) (fun h3069 => ?_) (fun h3069 => ?_)
        · refine v_goto (tgt := 3320) dL_law_3084 (by decide) ?_
          refine V.wid (k' := k0 + 8) (n' := n0 + 600) (by omega) (by omega) (kk _ _ _ _ ?_)
          exact ⟨kd, q, a, e8, v, _, sa, _, pa, tx, tn, Ls, _, _, w, _, _, _, _, _, _, _, _, _, _, _, _, _, (hP8.fs (Frm.fs (S := fun r => r = 30) hF9 rfl) (fun r h => by omega)), hC, hS.up, ⟨⟨_, hOA⟩, ko⟩, ⟨_, hOD⟩, ko2⟩
        · exact absurd h3069 (by first | decide | exact fcI_nz)
      · exact absurd rfl h3062
theorem dL_law_3087 : decode cL_law 3087 = .ok (.aload_n 1, 1) := by decide +kernel
theorem dL_law_3088 : decode cL_law 3088 = .ok (.aload_n 3, 1) := by decide +kernel
theorem dL_law_3089 : decode cL_law 3089 = .ok (.invokestatic 364, 3) := by decide +kernel
theorem dL_law_3092 : decode cL_law 3092 = .ok (.istore 6, 2) := by decide +kernel
theorem dL_law_3094 : decode cL_law 3094 = .ok (.aload_n 2, 1) := by decide +kernel
theorem dL_law_3095 : decode cL_law 3095 = .ok (.invokevirtual 366, 3) := by decide +kernel
theorem dL_law_3098 : decode cL_law 3098 = .ok (.istore 7, 2) := by decide +kernel
theorem dL_law_3100 : decode cL_law 3100 = .ok (.aload_n 2, 1) := by decide +kernel
theorem dL_law_3101 : decode cL_law 3101 = .ok (.invokevirtual 189, 3) := by decide +kernel
theorem dL_law_3104 : decode cL_law 3104 = .ok (.iload 6, 2) := by decide +kernel
theorem dL_law_3106 : decode cL_law 3106 = .ok (.if_icmp .eq 5, 3) := by decide +kernel
theorem dL_law_3109 : decode cL_law 3109 = .ok (.iconst 0, 1) := by decide +kernel
theorem dL_law_3110 : decode cL_law 3110 = .ok (.ireturn, 1) := by decide +kernel
theorem dL_law_3111 : decode cL_law 3111 = .ok (.iload 6, 2) := by decide +kernel
theorem dL_law_3113 : decode cL_law 3113 = .ok (.ifCond .ne 15, 3) := by decide +kernel
theorem dL_law_3116 : decode cL_law 3116 = .ok (.aload_n 3, 1) := by decide +kernel
theorem dL_law_3117 : decode cL_law 3117 = .ok (.iconst 0, 1) := by decide +kernel
theorem dL_law_3118 : decode cL_law 3118 = .ok (.laload, 1) := by decide +kernel
theorem dL_law_3119 : decode cL_law 3119 = .ok (.iload 7, 2) := by decide +kernel
theorem dL_law_3121 : decode cL_law 3121 = .ok (.i2l, 1) := by decide +kernel
theorem dL_law_3122 : decode cL_law 3122 = .ok (.lcmp, 1) := by decide +kernel
theorem dL_law_3123 : decode cL_law 3123 = .ok (.ifCond .eq 5, 3) := by decide +kernel
theorem dL_law_3126 : decode cL_law 3126 = .ok (.iconst 0, 1) := by decide +kernel
theorem dL_law_3127 : decode cL_law 3127 = .ok (.ireturn, 1) := by decide +kernel
theorem dL_law_3128 : decode cL_law 3128 = .ok (.goto 192, 3) := by decide +kernel
set_option maxRecDepth 100000 in
set_option maxHeartbeats 4000000 in
theorem law_53 {l : Launch} {g : Nat → Nat} {nm ds : String} {tb : List ExceptionTableEntry} {L mc ms : Nat} {Po : Res → LH → Prop} {X : CX} {M : LH} {k0 n0 : Nat} (htr : l.stackTraces = false) {b SN : Nat} {xs : Nat → Int32} (hX : Sc b SN xs X) {kd : Nat → Nat} {p : Nat} {q a : Nat → Nat} {e8 : Int32 → Nat} {v : Int32 → Int32} {sv : Int32} {sa : Int32 → Int32} {ch : Int32} {pa tx : Int32 → Int32} {tn : Int32} {Ls : List Int32} {ea fl : Int32} {m : Nat} {w : Nat → Nat} {t bf he en wr dg : Int32} {b4 fr th bs li lf to : Int32 → Int32} {out outD : Nat} {N : Nat} (hP : Pg kd M p q a e8 v sv sa ch pa tx tn Ls ea fl) (hM : Md kd 30 M m w t ch ea fl sv bf tn he en (nI Ls.length) wr dg v b4 sa pa fr th bs tx li lf to) (hS : Lw N v sv sa ch pa tn Ls ea fl li) (hN : N ≤ 512) {h0 : Nat → Int64} (hO : M out = some (la 1 h0)) (ko : kd out = 31) {h2 : Nat → UInt64} (hO2 : M outD = some (da 1 h2)) (ko2 : kd outD = 31) {i : Int32} (hi : ∀ j : Int32, 1 ≤ j → j ≤ 5 → 0 ≤ i + j ∧ (i + j).toNatClampNeg < SN) (hL : 30 ≤ L) (hk : k0 + 8 ≤ mc) (hn : n0 + 600 ≤ ms) {z6 z7 z8 : Option Value} (kk : ∀ (M' : LH) (z6 z7 z8 : Option Value), LI p m out outD (N + 1) M' → V l g ⟨"SledgePostLaw", nm, ds⟩ cL_law (some .boolean) tb L mc ms Po X M' (k0 + 8) (n0 + 600) 3320 [some (.ref b), some (.ref p), some (.ref m), some (.ref out), some (.ref outD), some (.int i), z6, z7, z8] []) : V l g ⟨"SledgePostLaw", nm, ds⟩ cL_law (some .boolean) tb L mc ms Po X M k0 n0 3087 [some (.ref b), some (.ref p), some (.ref m), some (.ref out), some (.ref outD), some (.int i), z6, z7, z8] [] := by
  obtain ⟨hG, hSy, hv4⟩ := hS.1
  obtain ⟨-, -, -, -, ⟨tn0, tn60⟩, ⟨ea1, fl1⟩, ⟨hTl, hLs⟩, c0, c8⟩ := _root_.id hS
  obtain ⟨h461, h46⟩ := hS.1.r hN
  obtain ⟨hs0, old0, ⟨hpO, -⟩, -⟩ := _root_.id hP
  refine v_aload_n dL_law_3087 rfl rfl ?_
  refine v_aload_n dL_law_3088 rfl rfl ?_
  refine kl_364 dL_law_3089 rfl (w_L_runScript htr (f_runScript htr hP h461) hpO (fun r M9 h9 => (by obtain ⟨cs, v1, -, -, -, kd2, pa1, -, -, z⟩ := h9; exact ⟨_, (z 31 (by decide) out _ ko hO).1⟩)) (fun E M9 h9 => h9.elim (fun z => z.elim (fun _ z => z.elim (fun _ z => Or.inl z.2.1))) (fun z => z.elim (fun _ z => z.elim (fun _ z => Or.inr z.2.2.1))))) (by omega) (by omega) (by omega) (Nat.le_of_ble_eq_true rfl) (fun r9 M9 h9 => ?_) (fun _ _ h9 => h9.elim)
  rcases h9 with ⟨rfl, r, M8, h8, ⟨cs, v1, hsc, hrn, rfl, kd2, pa1, hPa, hP8, hF8⟩, hh, rfl⟩ | ⟨E, hx, hE⟩
  · skip
    obtain ⟨hOo, kq⟩ := hF8 31 (by decide) out _ ko hO
    obtain ⟨hOd, kq2⟩ := hF8 31 (by decide) outD _ ko2 hO2
    have f31 : Fs kd2 (fun r => r = 31) M8 (hup M8 out (la 1 h8)) := fun x hx => hup_n (fun z => hx (by rw [z]; exact kq))
    have hP9 := hP8.fs f31 (fun r h => by omega)
    have hM9 := (hM.tp (hF8 30 (Nat.le_refl _))).tp (f31.tp (by decide))
    have hO9 := up_k (e' := la 1 h8) hOd hOo da_la
    have hl := (scG_61 tn0 tn60 hsc).1
    obtain ⟨g1, g2, g3⟩ := rn_ok cs 0 _ _ (Or.inl hsc) hG (by omega) hrn
    have hLG : LG (N + 1) v1 := ⟨g1, g2 hSy, by omega⟩
    refine v_istore_6 dL_law_3092 ?_
    refine v_aload_n dL_law_3094 rfl rfl ?_
    refine k_L_366 dL_law_3095 rfl (r_runScript htr hM9 hG c0 c8 tn0 tn60 h461) hM9.1 (by omega) (by omega) (by omega) (Nat.le_of_ble_eq_true rfl) (fun r3095 M9 h9 => ?_) (fun _ _ h9 => h9.elim)
    obtain ⟨y1, y2, y3, y4, y5, pa2, v9, y6, y7, y8, y9, h9, hF9⟩ := h9
    rcases h9 with ⟨fu, e2, hn, -⟩ | ⟨cs2, k2, hs2, hn, -⟩ | ⟨cs2, hs2, hr2, rfl, hPa2, hC⟩
    · exact (scE_G tn60 _ _ _ _ (by decide) (by decide) hn hsc).elim
    · obtain rfl := scG_un _ _ _ hsc hs2
      exact (rn_ex _ _ _ _ _ (Or.inl hsc) hrn hn).elim
    obtain rfl := scG_un _ _ _ hsc hs2
    obtain rfl := rnG_un _ _ _ _ _ (Or.inl hsc) hrn hr2
    have hOA := LR1 (kd := kd2) hup_s kq hF9
    have hOD := LR1 hO9 kq2 hF9
    refine v_istore_7 dL_law_3098 ?_
    refine v_aload_n dL_law_3100 rfl rfl ?_
    refine k_L_189 dL_law_3101 rfl (r_thrown htr hC) hC.1 (by omega) (by omega) (by omega) (Nat.le_of_ble_eq_true rfl) (fun r3101 M9 h9 => ?_) (fun _ _ h9 => h9.elim)
    obtain ⟨rfl, e9⟩ := h9
    subst M9
    refine v_iload dL_law_3104 rfl ?_
    refine v_icmp_eq (tgt := 3111) dL_law_3106 (by decide) (fun h3106 => ?_) (fun h3106 => ?_)
    · refine v_iload dL_law_3111 rfl ?_
      refine v_if_ne (tgt := 3128) dL_law_3113 (by decide) (fun h3113 => ?_) (fun h3113 => ?_)
      · exact absurd rfl h3113
      · refine v_aload_n dL_law_3116 rfl rfl ?_
        refine v_iconst (v := 0) dL_law_3117 (by decide) ?_
        refine v_lald dL_law_3118 hOA ?_
        refine v_iload dL_law_3119 rfl ?_
        refine v_i2l dL_law_3121 ?_
        refine v_lcmp dL_law_3122 ?_
        rw [hh, lg_self]
        refine v_if_eq (tgt := 3128) dL_law_3123 (by decide) (fun h3123 => ?_) (fun h3123 => ?_)
        · refine v_goto (tgt := 3320) dL_law_3128 (by decide) ?_
          refine V.wid (k' := k0 + 8) (n' := n0 + 600) (by omega) (by omega) (kk _ _ _ _ ?_)
          exact ⟨kd2, q, a, e8, _, sv, sa, _, pa2, tx, _, Ls, ea, fl, w, _, _, _, _, _, _, _, _, _, _, _, _, _, ((hP9.fs (Frm.fs (S := fun r => r = 30) hF9 rfl) (fun r h => by omega))).pa (PaS.un c0 c8 hPa hPa2), hC, (hS.tn (Int32.le_refl 0) (by decide)).ch hLG hPa2, ⟨⟨_, hOA⟩, kq⟩, ⟨_, hOD⟩, kq2⟩
        · exact absurd rfl h3123
    · exact absurd rfl h3106
  · skip
    rcases hx with ⟨fu, e, hsc, hE0, kd2, hP8, hF8⟩ | ⟨cs, k, hsc, hrn, hE0, kd2, hP8, hF8⟩
    · skip
      obtain ⟨hOo, kq⟩ := hF8 31 (by decide) out _ ko hO
      obtain ⟨hO9, kq2⟩ := hF8 31 (by decide) outD _ ko2 hO2
      have hO8 := hOo
      have hM9 := hM.tp (hF8 30 (Nat.le_refl _))
      obtain ⟨-, rfl⟩ := hE.resolve_right (fun z => absurd (hE0.symm.trans z.1) (by decide))
      refine v_istore_6 dL_law_3092 ?_
      refine v_aload_n dL_law_3094 rfl rfl ?_
      refine k_L_366 dL_law_3095 rfl (r_runScript htr hM9 hG c0 c8 tn0 tn60 h461) hM9.1 (by omega) (by omega) (by omega) (Nat.le_of_ble_eq_true rfl) (fun r3095 M9 h9 => ?_) (fun _ _ h9 => h9.elim)
      obtain ⟨y1, y2, y3, y4, y5, pa2, v9, y6, y7, y8, y9, h9, hF9⟩ := h9
      rcases h9 with ⟨fu2, e2, hs2, rfl, rfl, rfl, hC⟩ | ⟨cs2, k2, hs2, hn, -⟩ | ⟨cs2, hs2, -⟩
      rotate_left
      · exact (scE_G tn60 _ _ _ _ (by decide) (by decide) hsc hs2).elim
      · exact (scE_G tn60 _ _ _ _ (by decide) (by decide) hsc hs2).elim
      obtain rfl := scE_un tn60 _ _ _ _ _ (by decide) (by decide) hsc hs2
      have hOA := LR1 (kd := kd2) hO8 kq hF9
      have hOD := LR1 hO9 kq2 hF9
      refine v_istore_7 dL_law_3098 ?_
      refine v_aload_n dL_law_3100 rfl rfl ?_
      refine k_L_189 dL_law_3101 rfl (r_thrown htr hC) hC.1 (by omega) (by omega) (by omega) (Nat.le_of_ble_eq_true rfl) (fun r3101 M9 h9 => ?_) (fun _ _ h9 => h9.elim)
      obtain ⟨rfl, e9⟩ := h9
      subst M9
      refine v_iload dL_law_3104 rfl ?_
      refine v_icmp_eq (tgt := 3111) dL_law_3106 (by decide) (fun h3106 => ?_) (fun h3106 => ?_)
      · refine v_iload dL_law_3111 rfl ?_
        refine v_if_ne (tgt := 3128) dL_law_3113 (by decide) (fun h3113 => ?_) (fun h3113 => ?_)
        · refine v_goto (tgt := 3320) dL_law_3128 (by decide) ?_
          refine V.wid (k' := k0 + 8) (n' := n0 + 600) (by omega) (by omega) (kk _ _ _ _ ?_)
          exact ⟨kd2, q, a, e8, _, sv, sa, _, _, tx, _, Ls, _, fl, w, _, _, _, _, _, _, _, _, _, _, _, _, _, (hP8.fs (Frm.fs (S := fun r => r = 30) hF9 rfl) (fun r h => by omega)), hC, (hS.up.tn (Int32.le_refl 0) (by decide)).ea (Int32.le_trans (by decide) (scE_in tn60 _ _ _ (by decide) (by decide) hsc).1) fl1, ⟨⟨_, hOA⟩, kq⟩, ⟨_, hOD⟩, kq2⟩
        · exact absurd h3113 (by first | decide | exact fcI_nz)
      · exact absurd rfl h3106
    · skip
      obtain ⟨hOo, kq⟩ := hF8 31 (by decide) out _ ko hO
      obtain ⟨hO9, kq2⟩ := hF8 31 (by decide) outD _ ko2 hO2
      have hO8 := hOo
      have hM9 := hM.tp (hF8 30 (Nat.le_refl _))
      obtain ⟨-, rfl⟩ := hE.resolve_left (fun z => absurd (hE0.symm.trans z.1) (by decide))
      refine v_istore_6 dL_law_3092 ?_
      refine v_aload_n dL_law_3094 rfl rfl ?_
      refine k_L_366 dL_law_3095 rfl (r_runScript htr hM9 hG c0 c8 tn0 tn60 h461) hM9.1 (by omega) (by omega) (by omega) (Nat.le_of_ble_eq_true rfl) (fun r3095 M9 h9 => ?_) (fun _ _ h9 => h9.elim)
      obtain ⟨y1, y2, y3, y4, y5, pa2, v9, y6, y7, y8, y9, h9, hF9⟩ := h9
      rcases h9 with ⟨fu2, e2, hs2, -⟩ | ⟨cs2, k2, hs2, hr2, rfl, hag, rfl, hC⟩ | ⟨cs2, hs2, hr2, -⟩
      · exact (scE_G tn60 _ _ _ _ (by decide) (by decide) hs2 hsc).elim
      rotate_left
      · obtain rfl := scG_un _ _ _ hsc hs2
        exact (rn_ex _ _ _ _ _ (Or.inl hsc) hr2 hrn).elim
      obtain rfl := scG_un _ _ _ hsc hs2
      obtain rfl := rnB_un _ _ _ _ _ (Or.inl hsc) hrn hr2
      have hk60 := rnB_lt _ _ _ hrn
      have hl := (scG_61 tn0 tn60 hsc).1
      have hk1 : -1 ≤ nI k := nI_m1 k (by omega)
      have hOA := LR1 (kd := kd2) hO8 kq hF9
      have hOD := LR1 hO9 kq2 hF9
      refine v_istore_7 dL_law_3098 ?_
      refine v_aload_n dL_law_3100 rfl rfl ?_
      refine k_L_189 dL_law_3101 rfl (r_thrown htr hC) hC.1 (by omega) (by omega) (by omega) (Nat.le_of_ble_eq_true rfl) (fun r3101 M9 h9 => ?_) (fun _ _ h9 => h9.elim)
      obtain ⟨rfl, e9⟩ := h9
      subst M9
      refine v_iload dL_law_3104 rfl ?_
      refine v_icmp_eq (tgt := 3111) dL_law_3106 (by decide) (fun h3106 => ?_) (fun h3106 => ?_)
      · refine v_iload dL_law_3111 rfl ?_
        refine v_if_ne (tgt := 3128) dL_law_3113 (by decide) (fun h3113 => ?_) (fun h3113 => ?_)
        · refine v_goto (tgt := 3320) dL_law_3128 (by decide) ?_
          refine V.wid (k' := k0 + 8) (n' := n0 + 600) (by omega) (by omega) (kk _ _ _ _ ?_)
          exact ⟨kd2, q, a, e8, _, sv, sa, _, _, tx, _, Ls, ea, _, w, _, _, _, _, _, _, _, _, _, _, _, _, _, Pg.vx ((hP8.fs (Frm.fs (S := fun r => r = 30) hF9 rfl) (fun r h => by omega))) hag.symm, hC, ((hS.up.tn (Int32.le_refl 0) (by decide)).ea ea1 hk1).vx hag.symm, ⟨⟨_, hOA⟩, kq⟩, ⟨_, hOD⟩, kq2⟩
        · exact absurd h3113 (by first | decide | exact fcI_nz)
      · exact absurd rfl h3106
