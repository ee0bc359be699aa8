/-! ===== the reference: a command of a script is done ===== -/
theorem dX12_does_0 : decode cX12_does 0 = .ok (.iload_n 1, 1) := by decide +kernel
theorem dX12_does_1 : decode cX12_does 1 = .ok (.tableswitch 212 0 8 #[51, 56, 79, 96, 131, 152, 173, 184, 201], 51) := by decide +kernel
theorem dX12_does_52 : decode cX12_does 52 = .ok (.aload_n 0, 1) := by decide +kernel
theorem dX12_does_53 : decode cX12_does 53 = .ok (.invokevirtual 81, 3) := by decide +kernel
theorem dX12_does_56 : decode cX12_does 56 = .ok (.ireturn, 1) := by decide +kernel
theorem dX12_does_57 : decode cX12_does 57 = .ok (.aload_n 0, 1) := by decide +kernel
theorem dX12_does_58 : decode cX12_does 58 = .ok (.aload_n 0, 1) := by decide +kernel
theorem dX12_does_59 : decode cX12_does 59 = .ok (.getfield 47, 3) := by decide +kernel
theorem dX12_does_62 : decode cX12_does 62 = .ok (.iconst 0, 1) := by decide +kernel
theorem dX12_does_63 : decode cX12_does 63 = .ok (.iaload, 1) := by decide +kernel
theorem dX12_does_64 : decode cX12_does 64 = .ok (.aload_n 0, 1) := by decide +kernel
theorem dX12_does_65 : decode cX12_does 65 = .ok (.getfield 47, 3) := by decide +kernel
theorem dX12_does_68 : decode cX12_does 68 = .ok (.iconst 1, 1) := by decide +kernel
theorem dX12_does_69 : decode cX12_does 69 = .ok (.iaload, 1) := by decide +kernel
theorem dX12_does_70 : decode cX12_does 70 = .ok (.aload_n 0, 1) := by decide +kernel
theorem dX12_does_71 : decode cX12_does 71 = .ok (.getfield 47, 3) := by decide +kernel
theorem dX12_does_74 : decode cX12_does 74 = .ok (.iconst 2, 1) := by decide +kernel
theorem dX12_does_75 : decode cX12_does 75 = .ok (.iaload, 1) := by decide +kernel
theorem dX12_does_76 : decode cX12_does 76 = .ok (.invokevirtual 92, 3) := by decide +kernel
theorem dX12_does_79 : decode cX12_does 79 = .ok (.ireturn, 1) := by decide +kernel
theorem dX12_does_80 : decode cX12_does 80 = .ok (.aload_n 0, 1) := by decide +kernel
theorem dX12_does_81 : decode cX12_does 81 = .ok (.aload_n 0, 1) := by decide +kernel
theorem dX12_does_82 : decode cX12_does 82 = .ok (.getfield 47, 3) := by decide +kernel
theorem dX12_does_85 : decode cX12_does 85 = .ok (.iconst 0, 1) := by decide +kernel
theorem dX12_does_86 : decode cX12_does 86 = .ok (.iaload, 1) := by decide +kernel
theorem dX12_does_87 : decode cX12_does 87 = .ok (.aload_n 0, 1) := by decide +kernel
theorem dX12_does_88 : decode cX12_does 88 = .ok (.getfield 47, 3) := by decide +kernel
theorem dX12_does_91 : decode cX12_does 91 = .ok (.iconst 1, 1) := by decide +kernel
theorem dX12_does_92 : decode cX12_does 92 = .ok (.iaload, 1) := by decide +kernel
theorem dX12_does_93 : decode cX12_does 93 = .ok (.invokevirtual 99, 3) := by decide +kernel
theorem dX12_does_96 : decode cX12_does 96 = .ok (.ireturn, 1) := by decide +kernel
theorem dX12_does_97 : decode cX12_does 97 = .ok (.aload_n 0, 1) := by decide +kernel
theorem dX12_does_98 : decode cX12_does 98 = .ok (.aload_n 0, 1) := by decide +kernel
theorem dX12_does_99 : decode cX12_does 99 = .ok (.getfield 47, 3) := by decide +kernel
theorem dX12_does_102 : decode cX12_does 102 = .ok (.iconst 0, 1) := by decide +kernel
theorem dX12_does_103 : decode cX12_does 103 = .ok (.iaload, 1) := by decide +kernel
theorem dX12_does_104 : decode cX12_does 104 = .ok (.aload_n 0, 1) := by decide +kernel
theorem dX12_does_105 : decode cX12_does 105 = .ok (.getfield 47, 3) := by decide +kernel
theorem dX12_does_108 : decode cX12_does 108 = .ok (.iconst 1, 1) := by decide +kernel
theorem dX12_does_109 : decode cX12_does 109 = .ok (.iaload, 1) := by decide +kernel
theorem dX12_does_110 : decode cX12_does 110 = .ok (.aload_n 0, 1) := by decide +kernel
theorem dX12_does_111 : decode cX12_does 111 = .ok (.getfield 47, 3) := by decide +kernel
theorem dX12_does_114 : decode cX12_does 114 = .ok (.iconst 2, 1) := by decide +kernel
theorem dX12_does_115 : decode cX12_does 115 = .ok (.iaload, 1) := by decide +kernel
theorem dX12_does_116 : decode cX12_does 116 = .ok (.aload_n 0, 1) := by decide +kernel
theorem dX12_does_117 : decode cX12_does 117 = .ok (.getfield 47, 3) := by decide +kernel
theorem dX12_does_120 : decode cX12_does 120 = .ok (.iconst 3, 1) := by decide +kernel
theorem dX12_does_121 : decode cX12_does 121 = .ok (.iaload, 1) := by decide +kernel
theorem dX12_does_122 : decode cX12_does 122 = .ok (.aload_n 0, 1) := by decide +kernel
theorem dX12_does_123 : decode cX12_does 123 = .ok (.getfield 47, 3) := by decide +kernel
theorem dX12_does_126 : decode cX12_does 126 = .ok (.iconst 4, 1) := by decide +kernel
theorem dX12_does_127 : decode cX12_does 127 = .ok (.iaload, 1) := by decide +kernel
theorem dX12_does_128 : decode cX12_does 128 = .ok (.invokevirtual 102, 3) := by decide +kernel
theorem dX12_does_131 : decode cX12_does 131 = .ok (.ireturn, 1) := by decide +kernel
theorem dX12_does_132 : decode cX12_does 132 = .ok (.aload_n 0, 1) := by decide +kernel
theorem dX12_does_133 : decode cX12_does 133 = .ok (.aload_n 0, 1) := by decide +kernel
theorem dX12_does_134 : decode cX12_does 134 = .ok (.getfield 47, 3) := by decide +kernel
theorem dX12_does_137 : decode cX12_does 137 = .ok (.iconst 0, 1) := by decide +kernel
theorem dX12_does_138 : decode cX12_does 138 = .ok (.iaload, 1) := by decide +kernel
theorem dX12_does_139 : decode cX12_does 139 = .ok (.aload_n 0, 1) := by decide +kernel
theorem dX12_does_140 : decode cX12_does 140 = .ok (.aload_n 0, 1) := by decide +kernel
theorem dX12_does_141 : decode cX12_does 141 = .ok (.getfield 47, 3) := by decide +kernel
theorem dX12_does_144 : decode cX12_does 144 = .ok (.iconst 1, 1) := by decide +kernel
theorem dX12_does_145 : decode cX12_does 145 = .ok (.iaload, 1) := by decide +kernel
theorem dX12_does_146 : decode cX12_does 146 = .ok (.invokevirtual 112, 3) := by decide +kernel
theorem dX12_does_149 : decode cX12_does 149 = .ok (.invokevirtual 115, 3) := by decide +kernel
theorem dX12_does_152 : decode cX12_does 152 = .ok (.ireturn, 1) := by decide +kernel
theorem dX12_does_153 : decode cX12_does 153 = .ok (.aload_n 0, 1) := by decide +kernel
theorem dX12_does_154 : decode cX12_does 154 = .ok (.aload_n 0, 1) := by decide +kernel
theorem dX12_does_155 : decode cX12_does 155 = .ok (.getfield 47, 3) := by decide +kernel
theorem dX12_does_158 : decode cX12_does 158 = .ok (.iconst 0, 1) := by decide +kernel
theorem dX12_does_159 : decode cX12_does 159 = .ok (.iaload, 1) := by decide +kernel
theorem dX12_does_160 : decode cX12_does 160 = .ok (.aload_n 0, 1) := by decide +kernel
theorem dX12_does_161 : decode cX12_does 161 = .ok (.aload_n 0, 1) := by decide +kernel
theorem dX12_does_162 : decode cX12_does 162 = .ok (.getfield 47, 3) := by decide +kernel
theorem dX12_does_165 : decode cX12_does 165 = .ok (.iconst 1, 1) := by decide +kernel
theorem dX12_does_166 : decode cX12_does 166 = .ok (.iaload, 1) := by decide +kernel
theorem dX12_does_167 : decode cX12_does 167 = .ok (.invokevirtual 112, 3) := by decide +kernel
theorem dX12_does_170 : decode cX12_does 170 = .ok (.invokevirtual 118, 3) := by decide +kernel
theorem dX12_does_173 : decode cX12_does 173 = .ok (.ireturn, 1) := by decide +kernel
theorem dX12_does_174 : decode cX12_does 174 = .ok (.aload_n 0, 1) := by decide +kernel
theorem dX12_does_175 : decode cX12_does 175 = .ok (.aload_n 0, 1) := by decide +kernel
theorem dX12_does_176 : decode cX12_does 176 = .ok (.getfield 47, 3) := by decide +kernel
theorem dX12_does_179 : decode cX12_does 179 = .ok (.iconst 0, 1) := by decide +kernel
theorem dX12_does_180 : decode cX12_does 180 = .ok (.iaload, 1) := by decide +kernel
theorem dX12_does_181 : decode cX12_does 181 = .ok (.invokevirtual 130, 3) := by decide +kernel
theorem dX12_does_184 : decode cX12_does 184 = .ok (.ireturn, 1) := by decide +kernel
theorem dX12_does_185 : decode cX12_does 185 = .ok (.aload_n 0, 1) := by decide +kernel
theorem dX12_does_186 : decode cX12_does 186 = .ok (.aload_n 0, 1) := by decide +kernel
theorem dX12_does_187 : decode cX12_does 187 = .ok (.getfield 47, 3) := by decide +kernel
theorem dX12_does_190 : decode cX12_does 190 = .ok (.iconst 0, 1) := by decide +kernel
theorem dX12_does_191 : decode cX12_does 191 = .ok (.iaload, 1) := by decide +kernel
theorem dX12_does_192 : decode cX12_does 192 = .ok (.aload_n 0, 1) := by decide +kernel
theorem dX12_does_193 : decode cX12_does 193 = .ok (.getfield 47, 3) := by decide +kernel
theorem dX12_does_196 : decode cX12_does 196 = .ok (.iconst 1, 1) := by decide +kernel
theorem dX12_does_197 : decode cX12_does 197 = .ok (.iaload, 1) := by decide +kernel
theorem dX12_does_198 : decode cX12_does 198 = .ok (.invokevirtual 139, 3) := by decide +kernel
theorem dX12_does_201 : decode cX12_does 201 = .ok (.ireturn, 1) := by decide +kernel
theorem dX12_does_202 : decode cX12_does 202 = .ok (.aload_n 0, 1) := by decide +kernel
theorem dX12_does_203 : decode cX12_does 203 = .ok (.aload_n 0, 1) := by decide +kernel
theorem dX12_does_204 : decode cX12_does 204 = .ok (.getfield 47, 3) := by decide +kernel
theorem dX12_does_207 : decode cX12_does 207 = .ok (.iconst 0, 1) := by decide +kernel
theorem dX12_does_208 : decode cX12_does 208 = .ok (.iaload, 1) := by decide +kernel
theorem dX12_does_209 : decode cX12_does 209 = .ok (.invokevirtual 142, 3) := by decide +kernel
theorem dX12_does_212 : decode cX12_does 212 = .ok (.ireturn, 1) := by decide +kernel
theorem dX12_does_213 : decode cX12_does 213 = .ok (.aload_n 0, 1) := by decide +kernel
theorem dX12_does_214 : decode cX12_does 214 = .ok (.aload_n 0, 1) := by decide +kernel
theorem dX12_does_215 : decode cX12_does 215 = .ok (.getfield 47, 3) := by decide +kernel
theorem dX12_does_218 : decode cX12_does 218 = .ok (.iconst 0, 1) := by decide +kernel
theorem dX12_does_219 : decode cX12_does 219 = .ok (.iaload, 1) := by decide +kernel
theorem dX12_does_220 : decode cX12_does 220 = .ok (.invokevirtual 155, 3) := by decide +kernel
theorem dX12_does_223 : decode cX12_does 223 = .ok (.ireturn, 1) := by decide +kernel
set_option maxRecDepth 100000 in
set_option maxHeartbeats 4000000 in
theorem r_does_0 {l : Launch} {g : Nat → Nat} {M : LH} (htr : l.stackTraces = false) {kd : Nat → Nat} {r m : Nat} {w : Nat → Nat} {t ch ea fl sv bf tn he en ln wr dg : Int32} {v b4 sa pa fr th bs tx li lf to : Int32 → Int32} (hC : Md kd r M m w t ch ea fl sv bf tn he en ln wr dg v b4 sa pa fr th bs tx li lf to) (hG : Good v) : K_X12_does l g 4 0 0 [.ref m, .int 0] M (RI (fun x M9 => ((vdStation v = 0 ∧ x = v 5 ∧ Md kd r M9 m w t ch ea fl sv bf tn he en ln wr dg (ui v 5 (v 5 + 1)) b4 sa pa fr th bs tx li lf to) ∨ (¬ vdStation v = 0 ∧ x = 0 ∧ Md kd r M9 m w (fcI 0 (vdStation v)) ch ea fl sv bf tn he en ln wr dg v b4 sa pa fr th bs tx li lf to)) ∧ Frm kd r M M9) nX) := by
  refine Ko_X12_does htr (fun X => ?_)
  obtain ⟨hMo, hw5, hw6, hw7, hw8, hw9, hw10, hw11, hw13, hw14, hw15, hw16, hw17, hw18, -⟩ := _root_.id hC
  have hF : Frm kd r M M := Frm.rf
  refine v_iload_n dX12_does_0 rfl rfl ?_
  refine v_tableIn (tgt := 52) (off := 51) dX12_does_1 (by decide) (by decide) (by decide) (by decide) ?_
  refine v_aload_n dX12_does_52 rfl rfl ?_
  refine k_X12_81 dX12_does_53 rfl (r_adds htr hC hG ) hMo (Nat.le_of_ble_eq_true rfl) (by omega) (by omega) (Nat.le_of_ble_eq_true rfl) (fun r53 M9 h9 => ?_) (fun _ _ h9 => h9.elim)
  exact v_iret dX12_does_56 rfl h9 (by omega) (by omega)
set_option maxRecDepth 100000 in
set_option maxHeartbeats 4000000 in
theorem r_does_1 {l : Launch} {g : Nat → Nat} {M : LH} (htr : l.stackTraces = false) {kd : Nat → Nat} {r m : Nat} {w : Nat → Nat} {t ch ea fl sv bf tn he en ln wr dg : Int32} {v b4 sa pa fr th bs tx li lf to : Int32 → Int32} (hC : Md kd r M m w t ch ea fl sv bf tn he en ln wr dg v b4 sa pa fr th bs tx li lf to) (hG : Good v) : K_X12_does l g 4 0 0 [.ref m, .int 1] M (RI (fun x M9 => ((vdRoad v (to 0) (to 1) (to 2) = 0 ∧ x = rd v (to 0) (to 1) ∧ Md kd r M9 m w t ch ea fl sv bf tn he en ln wr dg (rdS v (to 0) (to 1) (to 2)) b4 sa pa fr th bs tx li lf to) ∨ (¬ vdRoad v (to 0) (to 1) (to 2) = 0 ∧ x = 0 ∧ Md kd r M9 m w (fcI 1 (vdRoad v (to 0) (to 1) (to 2))) ch ea fl sv bf tn he en ln wr dg v b4 sa pa fr th bs tx li lf to)) ∧ Frm kd r M M9) nX) := by
  refine Ko_X12_does htr (fun X => ?_)
  obtain ⟨hMo, hw5, hw6, hw7, hw8, hw9, hw10, hw11, hw13, hw14, hw15, hw16, hw17, hw18, -⟩ := _root_.id hC
  have hF : Frm kd r M M := Frm.rf
  refine v_iload_n dX12_does_0 rfl rfl ?_
  refine v_tableIn (tgt := 57) (off := 56) dX12_does_1 (by decide) (by decide) (by decide) (by decide) ?_
  refine v_aload_n dX12_does_57 rfl rfl ?_
  refine v_aload_n dX12_does_58 rfl rfl ?_
  refine gf_X12_47 dX12_does_59 rfl hMo ?_
  refine v_iconst (v := 0) dX12_does_62 (by decide) ?_
  refine v_iald dX12_does_63 hw16 (by decide) (by decide) ?_
  refine v_aload_n dX12_does_64 rfl rfl ?_
  refine gf_X12_47 dX12_does_65 rfl hMo ?_
  refine v_iconst (v := 1) dX12_does_68 (by decide) ?_
  refine v_iald dX12_does_69 hw16 (by decide) (by decide) ?_
  refine v_aload_n dX12_does_70 rfl rfl ?_
  refine gf_X12_47 dX12_does_71 rfl hMo ?_
  refine v_iconst (v := 2) dX12_does_74 (by decide) ?_
  refine v_iald dX12_does_75 hw16 (by decide) (by decide) ?_
  refine k_X12_92 dX12_does_76 rfl (r_roads htr hC hG (to 0) (to 1) (to 2)) hMo (Nat.le_of_ble_eq_true rfl) (by omega) (by omega) (Nat.le_of_ble_eq_true rfl) (fun r76 M9 h9 => ?_) (fun _ _ h9 => h9.elim)
  exact v_iret dX12_does_79 rfl h9 (by omega) (by omega)
set_option maxRecDepth 100000 in
set_option maxHeartbeats 4000000 in
theorem r_does_2 {l : Launch} {g : Nat → Nat} {M : LH} (htr : l.stackTraces = false) {kd : Nat → Nat} {r m : Nat} {w : Nat → Nat} {t ch ea fl sv bf tn he en ln wr dg : Int32} {v b4 sa pa fr th bs tx li lf to : Int32 → Int32} (hC : Md kd r M m w t ch ea fl sv bf tn he en ln wr dg v b4 sa pa fr th bs tx li lf to) (hG : Good v) : K_X12_does l g 4 0 0 [.ref m, .int 2] M (RI (fun x M9 => ((vdSledge v (to 0) (to 1) = 0 ∧ x = v 6 ∧ Md kd r M9 m w t ch ea fl sv bf tn he en ln wr dg (mkK v (to 0) (to 1)) b4 sa pa fr th bs tx li lf to) ∨ (¬ vdSledge v (to 0) (to 1) = 0 ∧ x = 0 ∧ Md kd r M9 m w (fcI 2 (vdSledge v (to 0) (to 1))) ch ea fl sv bf tn he en ln wr dg v b4 sa pa fr th bs tx li lf to)) ∧ Frm kd r M M9) nX) := by
  refine Ko_X12_does htr (fun X => ?_)
  obtain ⟨hMo, hw5, hw6, hw7, hw8, hw9, hw10, hw11, hw13, hw14, hw15, hw16, hw17, hw18, -⟩ := _root_.id hC
  have hF : Frm kd r M M := Frm.rf
  refine v_iload_n dX12_does_0 rfl rfl ?_
  refine v_tableIn (tgt := 80) (off := 79) dX12_does_1 (by decide) (by decide) (by decide) (by decide) ?_
  refine v_aload_n dX12_does_80 rfl rfl ?_
  refine v_aload_n dX12_does_81 rfl rfl ?_
  refine gf_X12_47 dX12_does_82 rfl hMo ?_
  refine v_iconst (v := 0) dX12_does_85 (by decide) ?_
  refine v_iald dX12_does_86 hw16 (by decide) (by decide) ?_
  refine v_aload_n dX12_does_87 rfl rfl ?_
  refine gf_X12_47 dX12_does_88 rfl hMo ?_
  refine v_iconst (v := 1) dX12_does_91 (by decide) ?_
  refine v_iald dX12_does_92 hw16 (by decide) (by decide) ?_
  refine k_X12_99 dX12_does_93 rfl (r_builds htr hC hG (to 0) (to 1)) hMo (Nat.le_of_ble_eq_true rfl) (by omega) (by omega) (Nat.le_of_ble_eq_true rfl) (fun r93 M9 h9 => ?_) (fun _ _ h9 => h9.elim)
  exact v_iret dX12_does_96 rfl h9 (by omega) (by omega)
set_option maxRecDepth 100000 in
set_option maxHeartbeats 4000000 in
theorem r_does_3 {l : Launch} {g : Nat → Nat} {M : LH} (htr : l.stackTraces = false) {kd : Nat → Nat} {r m : Nat} {w : Nat → Nat} {t ch ea fl sv bf tn he en ln wr dg : Int32} {v b4 sa pa fr th bs tx li lf to : Int32 → Int32} (hC : Md kd r M m w t ch ea fl sv bf tn he en ln wr dg v b4 sa pa fr th bs tx li lf to) (hG : Good v) : K_X12_does l g 4 0 0 [.ref m, .int 3] M (RI (fun x M9 => ((vdLetter v (to 0) (to 1) (to 2) (to 3) (to 4) = 0 ∧ x = v 4 ∧ Md kd r M9 m w t ch ea fl sv bf tn he en ln wr dg (mkL v (to 0) (to 1) (to 2) (to 3) (to 4)) b4 sa pa fr th bs tx li lf to) ∨ (¬ vdLetter v (to 0) (to 1) (to 2) (to 3) (to 4) = 0 ∧ x = 0 ∧ Md kd r M9 m w (fcI 3 (vdLetter v (to 0) (to 1) (to 2) (to 3) (to 4))) ch ea fl sv bf tn he en ln wr dg v b4 sa pa fr th bs tx li lf to)) ∧ Frm kd r M M9) nX) := by
  refine Ko_X12_does htr (fun X => ?_)
  obtain ⟨hMo, hw5, hw6, hw7, hw8, hw9, hw10, hw11, hw13, hw14, hw15, hw16, hw17, hw18, -⟩ := _root_.id hC
  have hF : Frm kd r M M := Frm.rf
  refine v_iload_n dX12_does_0 rfl rfl ?_
  refine v_tableIn (tgt := 97) (off := 96) dX12_does_1 (by decide) (by decide) (by decide) (by decide) ?_
  refine v_aload_n dX12_does_97 rfl rfl ?_
  refine v_aload_n dX12_does_98 rfl rfl ?_
  refine gf_X12_47 dX12_does_99 rfl hMo ?_
  refine v_iconst (v := 0) dX12_does_102 (by decide) ?_
  refine v_iald dX12_does_103 hw16 (by decide) (by decide) ?_
  refine v_aload_n dX12_does_104 rfl rfl ?_
  refine gf_X12_47 dX12_does_105 rfl hMo ?_
  refine v_iconst (v := 1) dX12_does_108 (by decide) ?_
  refine v_iald dX12_does_109 hw16 (by decide) (by decide) ?_
  refine v_aload_n dX12_does_110 rfl rfl ?_
  refine gf_X12_47 dX12_does_111 rfl hMo ?_
  refine v_iconst (v := 2) dX12_does_114 (by decide) ?_
  refine v_iald dX12_does_115 hw16 (by decide) (by decide) ?_
  refine v_aload_n dX12_does_116 rfl rfl ?_
  refine gf_X12_47 dX12_does_117 rfl hMo ?_
  refine v_iconst (v := 3) dX12_does_120 (by decide) ?_
  refine v_iald dX12_does_121 hw16 (by decide) (by decide) ?_
  refine v_aload_n dX12_does_122 rfl rfl ?_
  refine gf_X12_47 dX12_does_123 rfl hMo ?_
  refine v_iconst (v := 4) dX12_does_126 (by decide) ?_
  refine v_iald dX12_does_127 hw16 (by decide) (by decide) ?_
  refine k_X12_102 dX12_does_128 rfl (r_posts htr hC hG (to 0) (to 1) (to 2) (to 3) (to 4)) hMo (Nat.le_of_ble_eq_true rfl) (by omega) (by omega) (Nat.le_of_ble_eq_true rfl) (fun r128 M9 h9 => ?_) (fun _ _ h9 => h9.elim)
  exact v_iret dX12_does_131 rfl h9 (by omega) (by omega)
set_option maxRecDepth 100000 in
set_option maxHeartbeats 4000000 in
theorem r_does_4 {l : Launch} {g : Nat → Nat} {M : LH} (htr : l.stackTraces = false) {kd : Nat → Nat} {r m : Nat} {w : Nat → Nat} {t ch ea fl sv bf tn he en ln wr dg : Int32} {v b4 sa pa fr th bs tx li lf to : Int32 → Int32} (hC : Md kd r M m w t ch ea fl sv bf tn he en ln wr dg v b4 sa pa fr th bs tx li lf to) (hG : Good v) : K_X12_does l g 4 0 0 [.ref m, .int 4] M (RI (fun x M9 => ((vdPutOn v (to 0) (to 1) = 0 ∧ x = loadOn (plS v (find v (to 1)) (10 + (to 0))) (to 0) ∧ Md kd r M9 m w t ch ea fl sv bf tn he en ln wr dg (plS v (find v (to 1)) (10 + (to 0))) b4 sa pa fr th bs tx li lf to) ∨ (¬ vdPutOn v (to 0) (to 1) = 0 ∧ x = 0 ∧ Md kd r M9 m w (fcI 4 (vdPutOn v (to 0) (to 1))) ch ea fl sv bf tn he en ln wr dg v b4 sa pa fr th bs tx li lf to)) ∧ Frm kd r M M9) nX) := by
  refine Ko_X12_does htr (fun X => ?_)
  obtain ⟨hMo, hw5, hw6, hw7, hw8, hw9, hw10, hw11, hw13, hw14, hw15, hw16, hw17, hw18, -⟩ := _root_.id hC
  have hF : Frm kd r M M := Frm.rf
  refine v_iload_n dX12_does_0 rfl rfl ?_
  refine v_tableIn (tgt := 132) (off := 131) dX12_does_1 (by decide) (by decide) (by decide) (by decide) ?_
  refine v_aload_n dX12_does_132 rfl rfl ?_
  refine v_aload_n dX12_does_133 rfl rfl ?_
  refine gf_X12_47 dX12_does_134 rfl hMo ?_
  refine v_iconst (v := 0) dX12_does_137 (by decide) ?_
  refine v_iald dX12_does_138 hw16 (by decide) (by decide) ?_
  refine v_aload_n dX12_does_139 rfl rfl ?_
  refine v_aload_n dX12_does_140 rfl rfl ?_
  refine gf_X12_47 dX12_does_141 rfl hMo ?_
  refine v_iconst (v := 1) dX12_does_144 (by decide) ?_
  refine v_iald dX12_does_145 hw16 (by decide) (by decide) ?_
  refine k_X12_112 dX12_does_146 rfl (r_find htr hC hG (to 1)) hMo (Nat.le_of_ble_eq_true rfl) (by omega) (by omega) (Nat.le_of_ble_eq_true rfl) (fun r146 M9 h9 => ?_) (fun _ _ h9 => h9.elim)
  obtain ⟨rfl, e9⟩ := h9
  subst M9
  refine k_X12_115 dX12_does_149 rfl (r_lades htr hC hG (to 0) (to 1)) hMo (Nat.le_of_ble_eq_true rfl) (by omega) (by omega) (Nat.le_of_ble_eq_true rfl) (fun r149 M9 h9 => ?_) (fun _ _ h9 => h9.elim)
  exact v_iret dX12_does_152 rfl h9 (by omega) (by omega)
set_option maxRecDepth 100000 in
set_option maxHeartbeats 4000000 in
theorem r_does_5 {l : Launch} {g : Nat → Nat} {M : LH} (htr : l.stackTraces = false) {kd : Nat → Nat} {r m : Nat} {w : Nat → Nat} {t ch ea fl sv bf tn he en ln wr dg : Int32} {v b4 sa pa fr th bs tx li lf to : Int32 → Int32} (hC : Md kd r M m w t ch ea fl sv bf tn he en ln wr dg v b4 sa pa fr th bs tx li lf to) (hG : Good v) : K_X12_does l g 4 0 0 [.ref m, .int 5] M (RI (fun x M9 => ((vdTakeOff v (to 0) (to 1) = 0 ∧ x = loadOn (plS v (find v (to 1)) (sd v (to 0) 1)) (to 0) ∧ Md kd r M9 m w t ch ea fl sv bf tn he en ln wr dg (plS v (find v (to 1)) (sd v (to 0) 1)) b4 sa pa fr th bs tx li lf to) ∨ (¬ vdTakeOff v (to 0) (to 1) = 0 ∧ x = 0 ∧ Md kd r M9 m w (fcI 5 (vdTakeOff v (to 0) (to 1))) ch ea fl sv bf tn he en ln wr dg v b4 sa pa fr th bs tx li lf to)) ∧ Frm kd r M M9) nX) := by
  refine Ko_X12_does htr (fun X => ?_)
  obtain ⟨hMo, hw5, hw6, hw7, hw8, hw9, hw10, hw11, hw13, hw14, hw15, hw16, hw17, hw18, -⟩ := _root_.id hC
  have hF : Frm kd r M M := Frm.rf
  refine v_iload_n dX12_does_0 rfl rfl ?_
  refine v_tableIn (tgt := 153) (off := 152) dX12_does_1 (by decide) (by decide) (by decide) (by decide) ?_
  refine v_aload_n dX12_does_153 rfl rfl ?_
  refine v_aload_n dX12_does_154 rfl rfl ?_
  refine gf_X12_47 dX12_does_155 rfl hMo ?_
  refine v_iconst (v := 0) dX12_does_158 (by decide) ?_
  refine v_iald dX12_does_159 hw16 (by decide) (by decide) ?_
  refine v_aload_n dX12_does_160 rfl rfl ?_
  refine v_aload_n dX12_does_161 rfl rfl ?_
  refine gf_X12_47 dX12_does_162 rfl hMo ?_
  refine v_iconst (v := 1) dX12_does_165 (by decide) ?_
  refine v_iald dX12_does_166 hw16 (by decide) (by decide) ?_
  refine k_X12_112 dX12_does_167 rfl (r_find htr hC hG (to 1)) hMo (Nat.le_of_ble_eq_true rfl) (by omega) (by omega) (Nat.le_of_ble_eq_true rfl) (fun r167 M9 h9 => ?_) (fun _ _ h9 => h9.elim)
  obtain ⟨rfl, e9⟩ := h9
  subst M9
  refine k_X12_118 dX12_does_170 rfl (r_unlades htr hC hG (to 0) (to 1)) hMo (Nat.le_of_ble_eq_true rfl) (by omega) (by omega) (Nat.le_of_ble_eq_true rfl) (fun r170 M9 h9 => ?_) (fun _ _ h9 => h9.elim)
  exact v_iret dX12_does_173 rfl h9 (by omega) (by omega)
set_option maxRecDepth 100000 in
set_option maxHeartbeats 4000000 in
theorem r_does_6 {l : Launch} {g : Nat → Nat} {M : LH} (htr : l.stackTraces = false) {kd : Nat → Nat} {r m : Nat} {w : Nat → Nat} {t ch ea fl sv bf tn he en ln wr dg : Int32} {v b4 sa pa fr th bs tx li lf to : Int32 → Int32} (hC : Md kd r M m w t ch ea fl sv bf tn he en ln wr dg v b4 sa pa fr th bs tx li lf to) (hG : Good v) : K_X12_does l g 4 0 0 [.ref m, .int 6] M (RI (fun x M9 => ∃ (b' : Int32) (th' : Int32 → Int32), ((vdBest v (to 0) = 0 ∧ x = cnM (bI v (sd v (to 0) 1) (v 7).toNatClampNeg (sd v (to 0) 0 - loadOn v (to 0)) &&& 4095) (v 7).toNatClampNeg ∧ Md kd r M9 m w t ch ea fl sv b' tn he en ln wr dg (plN v (to 0) (bI v (sd v (to 0) 1) (v 7).toNatClampNeg (sd v (to 0) 0 - loadOn v (to 0)) &&& 4095) (v 7).toNatClampNeg) b4 sa pa fr th' bs tx li lf to) ∨ (¬ vdBest v (to 0) = 0 ∧ x = 0 ∧ Md kd r M9 m w (fcI 6 (vdBest v (to 0))) ch ea fl sv bf tn he en ln wr dg v b4 sa pa fr th bs tx li lf to)) ∧ Frm kd r M M9) nX) := by
  refine Ko_X12_does htr (fun X => ?_)
  obtain ⟨hMo, hw5, hw6, hw7, hw8, hw9, hw10, hw11, hw13, hw14, hw15, hw16, hw17, hw18, -⟩ := _root_.id hC
  have hF : Frm kd r M M := Frm.rf
  refine v_iload_n dX12_does_0 rfl rfl ?_
  refine v_tableIn (tgt := 174) (off := 173) dX12_does_1 (by decide) (by decide) (by decide) (by decide) ?_
  refine v_aload_n dX12_does_174 rfl rfl ?_
  refine v_aload_n dX12_does_175 rfl rfl ?_
  refine gf_X12_47 dX12_does_176 rfl hMo ?_
  refine v_iconst (v := 0) dX12_does_179 (by decide) ?_
  refine v_iald dX12_does_180 hw16 (by decide) (by decide) ?_
  refine k_X12_130 dX12_does_181 rfl (r_loadsBest htr hC hG (to 0)) hMo (Nat.le_of_ble_eq_true rfl) (by omega) (by omega) (Nat.le_of_ble_eq_true rfl) (fun r181 M9 h9 => ?_) (fun _ _ h9 => h9.elim)
  exact v_iret dX12_does_184 rfl h9 (by omega) (by omega)
set_option maxRecDepth 100000 in
set_option maxHeartbeats 4000000 in
theorem r_does_7 {l : Launch} {g : Nat → Nat} {M : LH} (htr : l.stackTraces = false) {kd : Nat → Nat} {r m : Nat} {w : Nat → Nat} {t ch ea fl sv bf tn he en ln wr dg : Int32} {v b4 sa pa fr th bs tx li lf to : Int32 → Int32} (hC : Md kd r M m w t ch ea fl sv bf tn he en ln wr dg v b4 sa pa fr th bs tx li lf to) (hG : Good v) : K_X12_does l g 4 0 0 [.ref m, .int 7] M (RI (fun x M9 => ∃ (w9 : Int32) (f' : Int32 → Int32), (hsl v (to 0) → hst v (to 1) → IsD v 1000000 (sd v (to 0) 1) (to 1) w9.toInt ∨ (0 < sd v (to 0) 2 ∨ sd v (to 0) 1 = (to 1))) ∧ ((vdGo v (to 0) (to 1) w9 = 0 ∧ x = w9 ∧ Md kd r M9 m w t ch ea fl sv bf tn he en ln wr dg (goS v (to 0) (to 1) w9) b4 sa pa f' th bs tx li lf to) ∨ (¬ vdGo v (to 0) (to 1) w9 = 0 ∧ x = 0 ∧ Md kd r M9 m w (fcI 7 (vdGo v (to 0) (to 1) w9)) ch ea fl sv bf tn he en ln wr dg v b4 sa pa f' th bs tx li lf to)) ∧ Frm kd r M M9) nX) := by
  refine Ko_X12_does htr (fun X => ?_)
  obtain ⟨hMo, hw5, hw6, hw7, hw8, hw9, hw10, hw11, hw13, hw14, hw15, hw16, hw17, hw18, -⟩ := _root_.id hC
  have hF : Frm kd r M M := Frm.rf
  refine v_iload_n dX12_does_0 rfl rfl ?_
  refine v_tableIn (tgt := 185) (off := 184) dX12_does_1 (by decide) (by decide) (by decide) (by decide) ?_
  refine v_aload_n dX12_does_185 rfl rfl ?_
  refine v_aload_n dX12_does_186 rfl rfl ?_
  refine gf_X12_47 dX12_does_187 rfl hMo ?_
  refine v_iconst (v := 0) dX12_does_190 (by decide) ?_
  refine v_iald dX12_does_191 hw16 (by decide) (by decide) ?_
  refine v_aload_n dX12_does_192 rfl rfl ?_
  refine gf_X12_47 dX12_does_193 rfl hMo ?_
  refine v_iconst (v := 1) dX12_does_196 (by decide) ?_
  refine v_iald dX12_does_197 hw16 (by decide) (by decide) ?_
  refine k_X12_139 dX12_does_198 rfl (r_sends htr hC hG (to 0) (to 1)) hMo (Nat.le_of_ble_eq_true rfl) (by omega) (by omega) (Nat.le_of_ble_eq_true rfl) (fun r198 M9 h9 => ?_) (fun _ _ h9 => h9.elim)
  exact v_iret dX12_does_201 rfl h9 (by omega) (by omega)
set_option maxRecDepth 100000 in
set_option maxHeartbeats 4000000 in
theorem r_does_8 {l : Launch} {g : Nat → Nat} {M : LH} (htr : l.stackTraces = false) {kd : Nat → Nat} {r m : Nat} {w : Nat → Nat} {t ch ea fl sv bf tn he en ln wr dg : Int32} {v b4 sa pa fr th bs tx li lf to : Int32 → Int32} (hC : Md kd r M m w t ch ea fl sv bf tn he en ln wr dg v b4 sa pa fr th bs tx li lf to) (hG : Good v) : K_X12_does l g 4 0 0 [.ref m, .int 8] M (RI (fun x M9 => ((vdDeg (to 0) = 0 ∧ x = v 1 ∧ Md kd r M9 m w t ch ea fl sv bf tn he en ln wr dg (ui v 1 (to 0)) b4 sa pa fr th bs tx li lf to) ∨ (¬ vdDeg (to 0) = 0 ∧ x = 0 ∧ Md kd r M9 m w (fcI 8 (vdDeg (to 0))) ch ea fl sv bf tn he en ln wr dg v b4 sa pa fr th bs tx li lf to)) ∧ Frm kd r M M9) nX) := by
  refine Ko_X12_does htr (fun X => ?_)
  obtain ⟨hMo, hw5, hw6, hw7, hw8, hw9, hw10, hw11, hw13, hw14, hw15, hw16, hw17, hw18, -⟩ := _root_.id hC
  have hF : Frm kd r M M := Frm.rf
  refine v_iload_n dX12_does_0 rfl rfl ?_
  refine v_tableIn (tgt := 202) (off := 201) dX12_does_1 (by decide) (by decide) (by decide) (by decide) ?_
  refine v_aload_n dX12_does_202 rfl rfl ?_
  refine v_aload_n dX12_does_203 rfl rfl ?_
  refine gf_X12_47 dX12_does_204 rfl hMo ?_
  refine v_iconst (v := 0) dX12_does_207 (by decide) ?_
  refine v_iald dX12_does_208 hw16 (by decide) (by decide) ?_
  refine k_X12_142 dX12_does_209 rfl (r_heats htr hC hG (to 0)) hMo (Nat.le_of_ble_eq_true rfl) (by omega) (by omega) (Nat.le_of_ble_eq_true rfl) (fun r209 M9 h9 => ?_) (fun _ _ h9 => h9.elim)
  exact v_iret dX12_does_212 rfl h9 (by omega) (by omega)
set_option maxRecDepth 100000 in
set_option maxHeartbeats 4000000 in
theorem r_does_9 {l : Launch} {g : Nat → Nat} {M : LH} (htr : l.stackTraces = false) {kd : Nat → Nat} {r m : Nat} {w : Nat → Nat} {t ch ea fl sv bf tn he en ln wr dg : Int32} {v b4 sa pa fr th bs tx li lf to : Int32 → Int32} (hC : Md kd r M m w t ch ea fl sv bf tn he en ln wr dg v b4 sa pa fr th bs tx li lf to) (hG : Good v) : K_X12_does l g 4 0 0 [.ref m, .int 9] M (RI (fun x M9 => ((vdHrs (to 0) = 0 ∧ x = psN v (to 0).toNatClampNeg 3 - v 3 ∧ Md kd r M9 m w t ch ea fl sv bf tn he en ln wr dg (psN v (to 0).toNatClampNeg) b4 sa pa fr th bs tx li lf to) ∨ (¬ vdHrs (to 0) = 0 ∧ x = 0 ∧ Md kd r M9 m w (fcI 9 (vdHrs (to 0))) ch ea fl sv bf tn he en ln wr dg v b4 sa pa fr th bs tx li lf to)) ∧ Frm kd r M M9) nX) := by
  refine Ko_X12_does htr (fun X => ?_)
  obtain ⟨hMo, hw5, hw6, hw7, hw8, hw9, hw10, hw11, hw13, hw14, hw15, hw16, hw17, hw18, -⟩ := _root_.id hC
  have hF : Frm kd r M M := Frm.rf
  refine v_iload_n dX12_does_0 rfl rfl ?_
  refine v_tableOut (tgt := 213) dX12_does_1 (Or.inr (by decide)) (by decide) ?_
  refine v_aload_n dX12_does_213 rfl rfl ?_
  refine v_aload_n dX12_does_214 rfl rfl ?_
  refine gf_X12_47 dX12_does_215 rfl hMo ?_
  refine v_iconst (v := 0) dX12_does_218 (by decide) ?_
  refine v_iald dX12_does_219 hw16 (by decide) (by decide) ?_
  refine k_X12_155 dX12_does_220 rfl (r_passes htr hC hG (to 0)) hMo (Nat.le_of_ble_eq_true rfl) (by omega) (by omega) (Nat.le_of_ble_eq_true rfl) (fun r220 M9 h9 => ?_) (fun _ _ h9 => h9.elim)
  exact v_iret dX12_does_223 rfl h9 (by omega) (by omega)
