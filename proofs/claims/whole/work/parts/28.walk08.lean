theorem dX12_runs_0 : decode cX12_runs 0 = .ok (.aload_n 0, 1) := by decide +kernel
theorem dX12_runs_1 : decode cX12_runs 1 = .ok (.invokevirtual 351, 3) := by decide +kernel
theorem dX12_runs_4 : decode cX12_runs 4 = .ok (.iconst 0, 1) := by decide +kernel
theorem dX12_runs_5 : decode cX12_runs 5 = .ok (.istore_n 1, 1) := by decide +kernel
theorem dX12_runs_6 : decode cX12_runs 6 = .ok (.iload_n 1, 1) := by decide +kernel
theorem dX12_runs_7 : decode cX12_runs 7 = .ok (.aload_n 0, 1) := by decide +kernel
theorem dX12_runs_8 : decode cX12_runs 8 = .ok (.invokevirtual 304, 3) := by decide +kernel
theorem dX12_runs_11 : decode cX12_runs 11 = .ok (.if_icmp .gt 205, 3) := by decide +kernel
theorem dX12_runs_14 : decode cX12_runs 14 = .ok (.iconst 0, 1) := by decide +kernel
theorem dX12_runs_15 : decode cX12_runs 15 = .ok (.istore_n 2, 1) := by decide +kernel
theorem dX12_runs_16 : decode cX12_runs 16 = .ok (.iload_n 2, 1) := by decide +kernel
theorem dX12_runs_17 : decode cX12_runs 17 = .ok (.aload_n 0, 1) := by decide +kernel
theorem dX12_runs_18 : decode cX12_runs 18 = .ok (.invokevirtual 295, 3) := by decide +kernel
theorem dX12_runs_21 : decode cX12_runs 21 = .ok (.if_icmp .ge 25, 3) := by decide +kernel
theorem dX12_runs_24 : decode cX12_runs 24 = .ok (.aload_n 0, 1) := by decide +kernel
theorem dX12_runs_25 : decode cX12_runs 25 = .ok (.getfield 71, 3) := by decide +kernel
theorem dX12_runs_28 : decode cX12_runs 28 = .ok (.iconst 5, 1) := by decide +kernel
theorem dX12_runs_29 : decode cX12_runs 29 = .ok (.iload_n 1, 1) := by decide +kernel
theorem dX12_runs_30 : decode cX12_runs 30 = .ok (.imul, 1) := by decide +kernel
theorem dX12_runs_31 : decode cX12_runs 31 = .ok (.iload_n 2, 1) := by decide +kernel
theorem dX12_runs_32 : decode cX12_runs 32 = .ok (.iadd, 1) := by decide +kernel
theorem dX12_runs_33 : decode cX12_runs 33 = .ok (.aload_n 0, 1) := by decide +kernel
theorem dX12_runs_34 : decode cX12_runs 34 = .ok (.getfield 83, 3) := by decide +kernel
theorem dX12_runs_37 : decode cX12_runs 37 = .ok (.iload_n 2, 1) := by decide +kernel
theorem dX12_runs_38 : decode cX12_runs 38 = .ok (.iaload, 1) := by decide +kernel
theorem dX12_runs_39 : decode cX12_runs 39 = .ok (.iastore, 1) := by decide +kernel
theorem dX12_runs_40 : decode cX12_runs 40 = .ok (.iinc 2 1, 3) := by decide +kernel
theorem dX12_runs_43 : decode cX12_runs 43 = .ok (.goto (-27), 3) := by decide +kernel
theorem dX12_runs_46 : decode cX12_runs 46 = .ok (.iconst 0, 1) := by decide +kernel
theorem dX12_runs_47 : decode cX12_runs 47 = .ok (.istore_n 2, 1) := by decide +kernel
theorem dX12_runs_48 : decode cX12_runs 48 = .ok (.iload_n 2, 1) := by decide +kernel
theorem dX12_runs_49 : decode cX12_runs 49 = .ok (.aload_n 0, 1) := by decide +kernel
theorem dX12_runs_50 : decode cX12_runs 50 = .ok (.invokevirtual 298, 3) := by decide +kernel
theorem dX12_runs_53 : decode cX12_runs 53 = .ok (.if_icmp .ge 84, 3) := by decide +kernel
theorem dX12_runs_56 : decode cX12_runs 56 = .ok (.aload_n 0, 1) := by decide +kernel
theorem dX12_runs_57 : decode cX12_runs 57 = .ok (.getfield 74, 3) := by decide +kernel
theorem dX12_runs_60 : decode cX12_runs 60 = .ok (.iconst 3, 1) := by decide +kernel
theorem dX12_runs_61 : decode cX12_runs 61 = .ok (.iload_n 1, 1) := by decide +kernel
theorem dX12_runs_62 : decode cX12_runs 62 = .ok (.imul, 1) := by decide +kernel
theorem dX12_runs_63 : decode cX12_runs 63 = .ok (.iload_n 2, 1) := by decide +kernel
theorem dX12_runs_64 : decode cX12_runs 64 = .ok (.iadd, 1) := by decide +kernel
theorem dX12_runs_65 : decode cX12_runs 65 = .ok (.aload_n 0, 1) := by decide +kernel
theorem dX12_runs_66 : decode cX12_runs 66 = .ok (.getfield 86, 3) := by decide +kernel
theorem dX12_runs_69 : decode cX12_runs 69 = .ok (.iload_n 2, 1) := by decide +kernel
theorem dX12_runs_70 : decode cX12_runs 70 = .ok (.iaload, 1) := by decide +kernel
theorem dX12_runs_71 : decode cX12_runs 71 = .ok (.iastore, 1) := by decide +kernel
theorem dX12_runs_72 : decode cX12_runs 72 = .ok (.aload_n 0, 1) := by decide +kernel
theorem dX12_runs_73 : decode cX12_runs 73 = .ok (.getfield 77, 3) := by decide +kernel
theorem dX12_runs_76 : decode cX12_runs 76 = .ok (.iconst 3, 1) := by decide +kernel
theorem dX12_runs_77 : decode cX12_runs 77 = .ok (.iload_n 1, 1) := by decide +kernel
theorem dX12_runs_78 : decode cX12_runs 78 = .ok (.imul, 1) := by decide +kernel
theorem dX12_runs_79 : decode cX12_runs 79 = .ok (.iload_n 2, 1) := by decide +kernel
theorem dX12_runs_80 : decode cX12_runs 80 = .ok (.iadd, 1) := by decide +kernel
theorem dX12_runs_81 : decode cX12_runs 81 = .ok (.aload_n 0, 1) := by decide +kernel
theorem dX12_runs_82 : decode cX12_runs 82 = .ok (.getfield 89, 3) := by decide +kernel
theorem dX12_runs_85 : decode cX12_runs 85 = .ok (.iload_n 2, 1) := by decide +kernel
theorem dX12_runs_86 : decode cX12_runs 86 = .ok (.iaload, 1) := by decide +kernel
theorem dX12_runs_87 : decode cX12_runs 87 = .ok (.iastore, 1) := by decide +kernel
theorem dX12_runs_88 : decode cX12_runs 88 = .ok (.iconst 0, 1) := by decide +kernel
theorem dX12_runs_89 : decode cX12_runs 89 = .ok (.istore_n 3, 1) := by decide +kernel
theorem dX12_runs_90 : decode cX12_runs 90 = .ok (.iload_n 3, 1) := by decide +kernel
theorem dX12_runs_91 : decode cX12_runs 91 = .ok (.aload_n 0, 1) := by decide +kernel
theorem dX12_runs_92 : decode cX12_runs 92 = .ok (.invokevirtual 292, 3) := by decide +kernel
theorem dX12_runs_95 : decode cX12_runs 95 = .ok (.if_icmp .ge 36, 3) := by decide +kernel
theorem dX12_runs_98 : decode cX12_runs 98 = .ok (.aload_n 0, 1) := by decide +kernel
theorem dX12_runs_99 : decode cX12_runs 99 = .ok (.getfield 80, 3) := by decide +kernel
theorem dX12_runs_102 : decode cX12_runs 102 = .ok (.bipush 24, 2) := by decide +kernel
theorem dX12_runs_104 : decode cX12_runs 104 = .ok (.iload_n 1, 1) := by decide +kernel
theorem dX12_runs_105 : decode cX12_runs 105 = .ok (.imul, 1) := by decide +kernel
theorem dX12_runs_106 : decode cX12_runs 106 = .ok (.bipush 8, 2) := by decide +kernel
theorem dX12_runs_108 : decode cX12_runs 108 = .ok (.iload_n 2, 1) := by decide +kernel
theorem dX12_runs_109 : decode cX12_runs 109 = .ok (.imul, 1) := by decide +kernel
theorem dX12_runs_110 : decode cX12_runs 110 = .ok (.iadd, 1) := by decide +kernel
theorem dX12_runs_111 : decode cX12_runs 111 = .ok (.iload_n 3, 1) := by decide +kernel
theorem dX12_runs_112 : decode cX12_runs 112 = .ok (.iadd, 1) := by decide +kernel
theorem dX12_runs_113 : decode cX12_runs 113 = .ok (.aload_n 0, 1) := by decide +kernel
theorem dX12_runs_114 : decode cX12_runs 114 = .ok (.getfield 95, 3) := by decide +kernel
theorem dX12_runs_117 : decode cX12_runs 117 = .ok (.bipush 8, 2) := by decide +kernel
theorem dX12_runs_119 : decode cX12_runs 119 = .ok (.iload_n 2, 1) := by decide +kernel
theorem dX12_runs_120 : decode cX12_runs 120 = .ok (.imul, 1) := by decide +kernel
theorem dX12_runs_121 : decode cX12_runs 121 = .ok (.iload_n 3, 1) := by decide +kernel
theorem dX12_runs_122 : decode cX12_runs 122 = .ok (.iadd, 1) := by decide +kernel
theorem dX12_runs_123 : decode cX12_runs 123 = .ok (.iaload, 1) := by decide +kernel
theorem dX12_runs_124 : decode cX12_runs 124 = .ok (.iastore, 1) := by decide +kernel
theorem dX12_runs_125 : decode cX12_runs 125 = .ok (.iinc 3 1, 3) := by decide +kernel
theorem dX12_runs_128 : decode cX12_runs 128 = .ok (.goto (-38), 3) := by decide +kernel
theorem dX12_runs_131 : decode cX12_runs 131 = .ok (.iinc 2 1, 3) := by decide +kernel
theorem dX12_runs_134 : decode cX12_runs 134 = .ok (.goto (-86), 3) := by decide +kernel
theorem dX12_runs_137 : decode cX12_runs 137 = .ok (.aload_n 0, 1) := by decide +kernel
theorem dX12_runs_138 : decode cX12_runs 138 = .ok (.iconst 0, 1) := by decide +kernel
theorem dX12_runs_139 : decode cX12_runs 139 = .ok (.putfield 329, 3) := by decide +kernel
theorem dX12_runs_142 : decode cX12_runs 142 = .ok (.aload_n 0, 1) := by decide +kernel
theorem dX12_runs_143 : decode cX12_runs 143 = .ok (.iconst 0, 1) := by decide +kernel
theorem dX12_runs_144 : decode cX12_runs 144 = .ok (.putfield 332, 3) := by decide +kernel
theorem dX12_runs_147 : decode cX12_runs 147 = .ok (.iconst 0, 1) := by decide +kernel
theorem dX12_runs_148 : decode cX12_runs 148 = .ok (.istore_n 2, 1) := by decide +kernel
theorem dX12_runs_149 : decode cX12_runs 149 = .ok (.iload_n 2, 1) := by decide +kernel
theorem dX12_runs_150 : decode cX12_runs 150 = .ok (.aload_n 0, 1) := by decide +kernel
theorem dX12_runs_151 : decode cX12_runs 151 = .ok (.invokevirtual 348, 3) := by decide +kernel
theorem dX12_runs_154 : decode cX12_runs 154 = .ok (.if_icmp .ge 56, 3) := by decide +kernel
theorem dX12_runs_157 : decode cX12_runs 157 = .ok (.iload_n 1, 1) := by decide +kernel
theorem dX12_runs_158 : decode cX12_runs 158 = .ok (.aload_n 0, 1) := by decide +kernel
theorem dX12_runs_159 : decode cX12_runs 159 = .ok (.invokevirtual 304, 3) := by decide +kernel
theorem dX12_runs_162 : decode cX12_runs 162 = .ok (.if_icmp .ge 48, 3) := by decide +kernel
theorem dX12_runs_165 : decode cX12_runs 165 = .ok (.aload_n 0, 1) := by decide +kernel
theorem dX12_runs_166 : decode cX12_runs 166 = .ok (.iload_n 2, 1) := by decide +kernel
theorem dX12_runs_167 : decode cX12_runs 167 = .ok (.iconst 3, 1) := by decide +kernel
theorem dX12_runs_168 : decode cX12_runs 168 = .ok (.invokevirtual 326, 3) := by decide +kernel
theorem dX12_runs_171 : decode cX12_runs 171 = .ok (.iload_n 1, 1) := by decide +kernel
theorem dX12_runs_172 : decode cX12_runs 172 = .ok (.if_icmp .eq 6, 3) := by decide +kernel
theorem dX12_runs_175 : decode cX12_runs 175 = .ok (.goto 29, 3) := by decide +kernel
theorem dX12_runs_178 : decode cX12_runs 178 = .ok (.aload_n 0, 1) := by decide +kernel
theorem dX12_runs_179 : decode cX12_runs 179 = .ok (.getfield 98, 3) := by decide +kernel
theorem dX12_runs_182 : decode cX12_runs 182 = .ok (.iload_n 2, 1) := by decide +kernel
theorem dX12_runs_183 : decode cX12_runs 183 = .ok (.aload_n 0, 1) := by decide +kernel
theorem dX12_runs_184 : decode cX12_runs 184 = .ok (.iload_n 2, 1) := by decide +kernel
theorem dX12_runs_185 : decode cX12_runs 185 = .ok (.invokevirtual 354, 3) := by decide +kernel
theorem dX12_runs_188 : decode cX12_runs 188 = .ok (.iastore, 1) := by decide +kernel
theorem dX12_runs_189 : decode cX12_runs 189 = .ok (.aload_n 0, 1) := by decide +kernel
theorem dX12_runs_190 : decode cX12_runs 190 = .ok (.getfield 98, 3) := by decide +kernel
theorem dX12_runs_193 : decode cX12_runs 193 = .ok (.iload_n 2, 1) := by decide +kernel
theorem dX12_runs_194 : decode cX12_runs 194 = .ok (.iaload, 1) := by decide +kernel
theorem dX12_runs_195 : decode cX12_runs 195 = .ok (.ifCond .ne 9, 3) := by decide +kernel
theorem dX12_runs_198 : decode cX12_runs 198 = .ok (.aload_n 0, 1) := by decide +kernel
theorem dX12_runs_199 : decode cX12_runs 199 = .ok (.iload_n 2, 1) := by decide +kernel
theorem dX12_runs_200 : decode cX12_runs 200 = .ok (.iload_n 1, 1) := by decide +kernel
theorem dX12_runs_201 : decode cX12_runs 201 = .ok (.invokevirtual 357, 3) := by decide +kernel
theorem dX12_runs_204 : decode cX12_runs 204 = .ok (.iinc 2 1, 3) := by decide +kernel
theorem dX12_runs_207 : decode cX12_runs 207 = .ok (.goto (-58), 3) := by decide +kernel
theorem dX12_runs_210 : decode cX12_runs 210 = .ok (.iinc 1 1, 3) := by decide +kernel
theorem dX12_runs_213 : decode cX12_runs 213 = .ok (.goto (-207), 3) := by decide +kernel
theorem dX12_runs_216 : decode cX12_runs 216 = .ok (.return_, 1) := by decide +kernel
theorem mokX12_runs : MOK yX12_runs cX12_runs 4 none 0 := ⟨w8_145, w1_13, ⟨by decide, by decide⟩, by decide +kernel, by decide⟩
abbrev miX12_runs : MI := (yX12_runs.cls, cX12_runs, 4, 4, false)
noncomputable def LX12_runs_1 : Sm Unit := dLoop (fun f => (sI (sI (sR fr0 0 (gR f 0)) 1 (gI f 1)) 2 (gI f 2))) (dCI r_lt (vI 2) (dCallV 12 DX12_carriers (aR aN 0 (vR 0)))) (d3 (stI 13 idI) (dGR 12 33 (vR 0)) (d2 o_iadd (d2 o_imul (cI 5) (vI 1)) (vI 2)) (dAI (dGR 12 37 (vR 0)) (vI 2))) (dInc 2 1)
theorem sLX12_runs_1 {ΓL : Gm} {PB PK : List Nat} : SS (cvoV, .return_) miX12_runs ΓL PB PK [(0, 2), (1, 0), (2, 0)] [(0, 2), (1, 0), (2, 0)] 16 [46] LX12_runs_1 := t_loop (pT := 24) (pF := 46) (pu := 40) (PB' := []) (PK' := []) (XB := [40]) (XU := [43]) (fun _ _ => rfl) rfl (c_lt_F (pF := 46) (s_iload_n dX12_runs_16 rfl rfl) (s_of_xI (x_callV (ts := [(0, 2)]) ck12 rfl kX12_carriers mokX12_carriers w8_74 ps5_3 rfl rfl rfl rfl (a_R (ts := []) 0 a_nil (s_aload_n dX12_runs_17 rfl rfl) rfl) dX12_runs_18 w8_72)) dX12_runs_21 rfl) (t_stI (s_getR ck12 33 (by decide) rfl (s_aload_n dX12_runs_24 rfl rfl) dX12_runs_25 w6_238) (s_iadd (s_imul (s_iconst dX12_runs_28 rfl) (s_iload_n dX12_runs_29 rfl rfl) dX12_runs_30) (s_iload_n dX12_runs_31 rfl rfl) dX12_runs_32) (s_dAI (s_getR ck12 37 (by decide) rfl (s_aload_n dX12_runs_33 rfl rfl) dX12_runs_34 w7_2) (s_iload_n dX12_runs_37 rfl rfl) dX12_runs_38) dX12_runs_39 rfl) (t_iinc dX12_runs_40 rfl rfl rfl rfl) (lda_cons (ld_in rfl) lda_nil) lda_nil (lda_cons (ld_goto (y := 16) dX12_runs_43 rfl (ld_in rfl)) lda_nil) (ld_in rfl) lda_nil
noncomputable def LX12_runs_2 : Sm Unit := dLoop (fun f => (sI (sI (sI (sR fr0 0 (gR f 0)) 1 (gI f 1)) 2 (gI f 2)) 3 (gI f 3))) (dCI r_lt (vI 3) (dCallV 12 DX12_houses (aR aN 0 (vR 0)))) (d3 (stI 13 idI) (dGR 12 36 (vR 0)) (d2 o_iadd (d2 o_iadd (d2 o_imul (cI 24) (vI 1)) (d2 o_imul (cI 8) (vI 2))) (vI 3)) (dAI (dGR 12 41 (vR 0)) (d2 o_iadd (d2 o_imul (cI 8) (vI 2)) (vI 3)))) (dInc 3 1)
theorem sLX12_runs_2 {ΓL : Gm} {PB PK : List Nat} : SS (cvoV, .return_) miX12_runs ΓL PB PK [(0, 2), (1, 0), (2, 0), (3, 0)] [(0, 2), (1, 0), (2, 0), (3, 0)] 90 [131] LX12_runs_2 := t_loop (pT := 98) (pF := 131) (pu := 125) (PB' := []) (PK' := []) (XB := [125]) (XU := [128]) (fun _ _ => rfl) rfl (c_lt_F (pF := 131) (s_iload_n dX12_runs_90 rfl rfl) (s_of_xI (x_callV (ts := [(0, 2)]) ck12 rfl kX12_houses mokX12_houses w8_62 ps5_1 rfl rfl rfl rfl (a_R (ts := []) 0 a_nil (s_aload_n dX12_runs_91 rfl rfl) rfl) dX12_runs_92 w8_60)) dX12_runs_95 rfl) (t_stI (s_getR ck12 36 (by decide) rfl (s_aload_n dX12_runs_98 rfl rfl) dX12_runs_99 w7_1) (s_iadd (s_iadd (s_imul (s_bipush dX12_runs_102 rfl) (s_iload_n dX12_runs_104 rfl rfl) dX12_runs_105) (s_imul (s_bipush dX12_runs_106 rfl) (s_iload_n dX12_runs_108 rfl rfl) dX12_runs_109) dX12_runs_110) (s_iload_n dX12_runs_111 rfl rfl) dX12_runs_112) (s_dAI (s_getR ck12 41 (by decide) rfl (s_aload_n dX12_runs_113 rfl rfl) dX12_runs_114 w7_6) (s_iadd (s_imul (s_bipush dX12_runs_117 rfl) (s_iload_n dX12_runs_119 rfl rfl) dX12_runs_120) (s_iload_n dX12_runs_121 rfl rfl) dX12_runs_122) dX12_runs_123) dX12_runs_124 rfl) (t_iinc dX12_runs_125 rfl rfl rfl rfl) (lda_cons (ld_in rfl) lda_nil) lda_nil (lda_cons (ld_goto (y := 90) dX12_runs_128 rfl (ld_in rfl)) lda_nil) (ld_in rfl) lda_nil
noncomputable def LX12_runs_3 : Sm Unit := dLoop (fun f => (sI (sI (sR fr0 0 (gR f 0)) 1 (gI f 1)) 2 (gI f 2))) (dCI r_lt (vI 2) (dCallV 12 DX12_slates (aR aN 0 (vR 0)))) (dSeq (d3 (stI 13 idI) (dGR 12 34 (vR 0)) (d2 o_iadd (d2 o_imul (cI 3) (vI 1)) (vI 2)) (dAI (dGR 12 38 (vR 0)) (vI 2))) (dSeq (d3 (stI 13 idI) (dGR 12 35 (vR 0)) (d2 o_iadd (d2 o_imul (cI 3) (vI 1)) (vI 2)) (dAI (dGR 12 39 (vR 0)) (vI 2))) (dSeq (dSetI 3 (cI 0)) LX12_runs_2))) (dInc 2 1)
theorem sLX12_runs_3 {ΓL : Gm} {PB PK : List Nat} : SS (cvoV, .return_) miX12_runs ΓL PB PK [(0, 2), (1, 0), (2, 0)] [(0, 2), (1, 0), (2, 0)] 48 [137] LX12_runs_3 := t_loop (pT := 56) (pF := 137) (pu := 131) (PB' := []) (PK' := []) (XB := [131]) (XU := [134]) (fun _ _ => rfl) rfl (c_lt_F (pF := 137) (s_iload_n dX12_runs_48 rfl rfl) (s_of_xI (x_callV (ts := [(0, 2)]) ck12 rfl kX12_slates mokX12_slates w8_89 ps5_5 rfl rfl rfl rfl (a_R (ts := []) 0 a_nil (s_aload_n dX12_runs_49 rfl rfl) rfl) dX12_runs_50 w8_87)) dX12_runs_53 rfl) (t_sq (p1 := 72) (Γ' := [(0, 2), (1, 0), (2, 0)]) (t_stI (s_getR ck12 34 (by decide) rfl (s_aload_n dX12_runs_56 rfl rfl) dX12_runs_57 w6_239) (s_iadd (s_imul (s_iconst dX12_runs_60 rfl) (s_iload_n dX12_runs_61 rfl rfl) dX12_runs_62) (s_iload_n dX12_runs_63 rfl rfl) dX12_runs_64) (s_dAI (s_getR ck12 38 (by decide) rfl (s_aload_n dX12_runs_65 rfl rfl) dX12_runs_66 w7_3) (s_iload_n dX12_runs_69 rfl rfl) dX12_runs_70) dX12_runs_71 rfl) (t_sq (p1 := 88) (Γ' := [(0, 2), (1, 0), (2, 0)]) (t_stI (s_getR ck12 35 (by decide) rfl (s_aload_n dX12_runs_72 rfl rfl) dX12_runs_73 w7_0) (s_iadd (s_imul (s_iconst dX12_runs_76 rfl) (s_iload_n dX12_runs_77 rfl rfl) dX12_runs_78) (s_iload_n dX12_runs_79 rfl rfl) dX12_runs_80) (s_dAI (s_getR ck12 39 (by decide) rfl (s_aload_n dX12_runs_81 rfl rfl) dX12_runs_82 w7_4) (s_iload_n dX12_runs_85 rfl rfl) dX12_runs_86) dX12_runs_87 rfl) (t_sq (p1 := 90) (Γ' := [(0, 2), (1, 0), (2, 0), (3, 0)]) (t_istore_n (s_iconst dX12_runs_88 rfl) dX12_runs_89 rfl rfl rfl) (tn_to (Γ' := [(0, 2), (1, 0), (2, 0), (3, 0)]) (XA := [131]) sLX12_runs_2 (lda_cons (ld_in rfl) lda_nil) rfl)))) (t_iinc dX12_runs_131 rfl rfl rfl rfl) (lda_cons (ld_in rfl) lda_nil) lda_nil (lda_cons (ld_goto (y := 48) dX12_runs_134 rfl (ld_in rfl)) lda_nil) (ld_in rfl) lda_nil
noncomputable def LX12_runs_4 : Sm Unit := dLoop (fun f => (sI (sI (sR fr0 0 (gR f 0)) 1 (gI f 1)) 2 (gI f 2))) (dAnd (dCI r_lt (vI 2) (dCallV 12 DX12_carryMany (aR aN 0 (vR 0)))) (dCI r_lt (vI 1) (dCallV 12 DX12_days (aR aN 0 (vR 0))))) (dSeq (dIf (dCI r_ne (dCallV 12 DX12_carryPart (aI (aI (aR aN 0 (vR 0)) 1 (vI 2)) 2 (cI 3))) (vI 1)) dCnt dSkip) (dSeq (d3 (stI 13 idI) (dGR 12 42 (vR 0)) (vI 2) (dCallV 12 DX12_whyNow (aI (aR aN 0 (vR 0)) 1 (vI 2)))) (dIf (dCZ q_eq (dAI (dGR 12 42 (vR 0)) (vI 2))) (dDo (dCallV 12 DX12_does (aI (aI (aR aN 0 (vR 0)) 1 (vI 2)) 2 (vI 1)))) dSkip))) (dInc 2 1)
theorem sLX12_runs_4 {ΓL : Gm} {PB PK : List Nat} : SS (cvoV, .return_) miX12_runs ΓL PB PK [(0, 2), (1, 0), (2, 0)] [(0, 2), (1, 0), (2, 0)] 149 [210] LX12_runs_4 := t_loop (pT := 165) (pF := 210) (pu := 204) (PB' := []) (PK' := [204]) (XB := [204]) (XU := [207]) (fun _ _ => rfl) rfl (c_and (p1 := 157) (pT := 165) (pF := 210) (c_lt_F (pF := 210) (s_iload_n dX12_runs_149 rfl rfl) (s_of_xI (x_callV (ts := [(0, 2)]) ck12 rfl kX12_carryMany mokX12_carryMany w8_152 ps6_0 rfl rfl rfl rfl (a_R (ts := []) 0 a_nil (s_aload_n dX12_runs_150 rfl rfl) rfl) dX12_runs_151 w8_150)) dX12_runs_154 rfl) (c_lt_F (pF := 210) (s_iload_n dX12_runs_157 rfl rfl) (s_of_xI (x_callV (ts := [(0, 2)]) ck12 rfl kX12_days mokX12_days w8_136 ps5_12 rfl rfl rfl rfl (a_R (ts := []) 0 a_nil (s_aload_n dX12_runs_158 rfl rfl) rfl) dX12_runs_159 w8_134)) dX12_runs_162 rfl)) (t_sq (p1 := 178) (Γ' := [(0, 2), (1, 0), (2, 0)]) (t_if (pT := 175) (pF := 178) (X := [178]) (XA := []) (XB := [178]) (c_ne_F (pF := 178) (s_of_xI (x_callV (ts := [(0, 2), (1, 0), (2, 0)]) ck12 rfl kX12_carryPart mokX12_carryPart w8_156 ps6_1 rfl rfl rfl rfl (a_I (ts := [(0, 2), (1, 0)]) 2 (a_I (ts := [(0, 2)]) 1 (a_R (ts := []) 0 a_nil (s_aload_n dX12_runs_165 rfl rfl) rfl) (s_iload_n dX12_runs_166 rfl rfl) rfl) (s_iconst dX12_runs_167 rfl) rfl) dX12_runs_168 w8_154)) (s_iload_n dX12_runs_171 rfl rfl) dX12_runs_172 rfl) (t_cnt (ld_goto (y := 204) dX12_runs_175 rfl (ld_in rfl)) rfl) (t_skip (ld_in rfl) rfl) lda_nil (lda_cons (ld_in rfl) lda_nil)) (t_sq (p1 := 189) (Γ' := [(0, 2), (1, 0), (2, 0)]) (t_stI (s_getR ck12 42 (by decide) rfl (s_aload_n dX12_runs_178 rfl rfl) dX12_runs_179 w7_7) (s_iload_n dX12_runs_182 rfl rfl) (s_of_xI (x_callV (ts := [(0, 2), (1, 0)]) ck12 rfl kX12_whyNow mokX12_whyNow w8_160 ps6_2 rfl rfl rfl rfl (a_I (ts := [(0, 2)]) 1 (a_R (ts := []) 0 a_nil (s_aload_n dX12_runs_183 rfl rfl) rfl) (s_iload_n dX12_runs_184 rfl rfl) rfl) dX12_runs_185 w8_158)) dX12_runs_188 rfl) (t_if (pT := 198) (pF := 204) (X := [204]) (XA := [204]) (XB := [204]) (c_eq_ZF (pF := 204) (s_dAI (s_getR ck12 42 (by decide) rfl (s_aload_n dX12_runs_189 rfl rfl) dX12_runs_190 w7_7) (s_iload_n dX12_runs_193 rfl rfl) dX12_runs_194) dX12_runs_195 rfl) (t_do (x_callV (ts := [(0, 2), (1, 0), (2, 0)]) ck12 rfl kX12_does mokX12_does w8_168 ps6_4 rfl rfl rfl rfl (a_I (ts := [(0, 2), (1, 0)]) 2 (a_I (ts := [(0, 2)]) 1 (a_R (ts := []) 0 a_nil (s_aload_n dX12_runs_198 rfl rfl) rfl) (s_iload_n dX12_runs_199 rfl rfl) rfl) (s_iload_n dX12_runs_200 rfl rfl) rfl) dX12_runs_201 w8_166) rfl) (t_skip (ld_in rfl) rfl) (lda_cons (ld_in rfl) lda_nil) (lda_cons (ld_in rfl) lda_nil)))) (t_iinc dX12_runs_204 rfl rfl rfl rfl) (lda_cons (ld_in rfl) lda_nil) (lda_cons (ld_in rfl) lda_nil) (lda_cons (ld_goto (y := 149) dX12_runs_207 rfl (ld_in rfl)) lda_nil) (ld_in rfl) lda_nil
noncomputable def LX12_runs_5 : Sm Unit := dLoop (fun f => (sI (sR fr0 0 (gR f 0)) 1 (gI f 1))) (dCI r_le (vI 1) (dCallV 12 DX12_days (aR aN 0 (vR 0)))) (dSeq (dSeq (dSetI 2 (cI 0)) LX12_runs_1) (dSeq (dSeq (dSetI 2 (cI 0)) LX12_runs_3) (dSeq (dP (fI 12 45) (vR 0) (cI 0)) (dSeq (dP (fI 12 46) (vR 0) (cI 0)) (dSeq (dSetI 2 (cI 0)) LX12_runs_4))))) (dInc 1 1)
theorem sLX12_runs_5 {ΓL : Gm} {PB PK : List Nat} : SS (cvoV, .return_) miX12_runs ΓL PB PK [(0, 2), (1, 0)] [(0, 2), (1, 0)] 6 [216] LX12_runs_5 := t_loop (pT := 14) (pF := 216) (pu := 210) (PB' := []) (PK' := []) (XB := [210]) (XU := [213]) (fun _ _ => rfl) rfl (c_le_F (pF := 216) (s_iload_n dX12_runs_6 rfl rfl) (s_of_xI (x_callV (ts := [(0, 2)]) ck12 rfl kX12_days mokX12_days w8_136 ps5_12 rfl rfl rfl rfl (a_R (ts := []) 0 a_nil (s_aload_n dX12_runs_7 rfl rfl) rfl) dX12_runs_8 w8_134)) dX12_runs_11 rfl) (t_sq (p1 := 46) (Γ' := [(0, 2), (1, 0)]) (t_sq (p1 := 16) (Γ' := [(0, 2), (1, 0), (2, 0)]) (t_istore_n (s_iconst dX12_runs_14 rfl) dX12_runs_15 rfl rfl rfl) (tn_to (Γ' := [(0, 2), (1, 0), (2, 0)]) (XA := [46]) sLX12_runs_1 (lda_cons (ld_in rfl) lda_nil) rfl)) (t_sq (p1 := 137) (Γ' := [(0, 2), (1, 0)]) (t_sq (p1 := 48) (Γ' := [(0, 2), (1, 0), (2, 0)]) (t_istore_n (s_iconst dX12_runs_46 rfl) dX12_runs_47 rfl rfl rfl) (tn_to (Γ' := [(0, 2), (1, 0), (2, 0)]) (XA := [137]) sLX12_runs_3 (lda_cons (ld_in rfl) lda_nil) rfl)) (t_sq (p1 := 142) (Γ' := [(0, 2), (1, 0)]) (t_pI ck12 45 (by decide) rfl (Or.inl rfl) (s_aload_n dX12_runs_137 rfl rfl) (s_iconst dX12_runs_138 rfl) dX12_runs_139 w7_10 rfl) (t_sq (p1 := 147) (Γ' := [(0, 2), (1, 0)]) (t_pI ck12 46 (by decide) rfl (Or.inl rfl) (s_aload_n dX12_runs_142 rfl rfl) (s_iconst dX12_runs_143 rfl) dX12_runs_144 w7_11 rfl) (t_sq (p1 := 149) (Γ' := [(0, 2), (1, 0), (2, 0)]) (t_istore_n (s_iconst dX12_runs_147 rfl) dX12_runs_148 rfl rfl rfl) (tn_to (Γ' := [(0, 2), (1, 0), (2, 0)]) (XA := [210]) sLX12_runs_4 (lda_cons (ld_in rfl) lda_nil) rfl)))))) (t_iinc dX12_runs_210 rfl rfl rfl rfl) (lda_cons (ld_in rfl) lda_nil) lda_nil (lda_cons (ld_goto (y := 6) dX12_runs_213 rfl (ld_in rfl)) lda_nil) (ld_in rfl) lda_nil
noncomputable def BX12_runs : Sm Unit := (dSeq (dDo (dCallV 12 DX12_begin (aR aN 0 (vR 0)))) (dSeq (dSeq (dSetI 1 (cI 0)) LX12_runs_5) dRet0))
theorem sBX12_runs : SS (cvoV, .return_) miX12_runs [] [] [] [(0, 2)] [(0, 2)] 0 [] BX12_runs := (t_sq (p1 := 4) (Γ' := [(0, 2)]) (t_do (x_callV (ts := [(0, 2)]) ck12 rfl kX12_begin mokX12_begin w8_148 ps5_15 rfl rfl rfl rfl (a_R (ts := []) 0 a_nil (s_aload_n dX12_runs_0 rfl rfl) rfl) dX12_runs_1 w8_146) rfl) (t_sq (p1 := 216) (Γ' := [(0, 2)]) (t_sq (p1 := 6) (Γ' := [(0, 2), (1, 0)]) (t_istore_n (s_iconst dX12_runs_4 rfl) dX12_runs_5 rfl rfl rfl) (tn_to (Γ' := [(0, 2), (1, 0)]) (XA := [216]) sLX12_runs_5 (lda_cons (ld_in rfl) lda_nil) rfl)) (t_ret0 (fun _ _ => rfl) dX12_runs_216)))
noncomputable def DX12_runs : Fr → St → Option (Unit × St) := M1 (fun f => (sR fr0 0 (gR f 0))) BX12_runs
theorem kX12_runs : SND yX12_runs cX12_runs 4 none 4 [(0, 2)] cvoV DX12_runs := snd_V (nw := 1) (by decide) (fun z => by cases z) rfl rfl (fun _ _ => rfl) sBX12_runs
theorem dX12_laysNow_0 : decode cX12_laysNow 0 = .ok (.aload_n 0, 1) := by decide +kernel
theorem dX12_laysNow_1 : decode cX12_laysNow 1 = .ok (.invokevirtual 360, 3) := by decide +kernel
theorem dX12_laysNow_4 : decode cX12_laysNow 4 = .ok (.aload_n 0, 1) := by decide +kernel
theorem dX12_laysNow_5 : decode cX12_laysNow 5 = .ok (.invokevirtual 363, 3) := by decide +kernel
theorem dX12_laysNow_8 : decode cX12_laysNow 8 = .ok (.return_, 1) := by decide +kernel
theorem mokX12_laysNow : MOK yX12_laysNow cX12_laysNow 1 none 0 := ⟨w8_141, w1_13, ⟨by decide, by decide⟩, by decide +kernel, by decide⟩
abbrev miX12_laysNow : MI := (yX12_laysNow.cls, cX12_laysNow, 1, 5, false)
noncomputable def BX12_laysNow : Sm Unit := (dSeq (dDo (dCallV 12 DX12_lays (aR aN 0 (vR 0)))) (dSeq (dDo (dCallV 12 DX12_runs (aR aN 0 (vR 0)))) dRet0))
theorem sBX12_laysNow : SS (cvoV, .return_) miX12_laysNow [] [] [] [(0, 2)] [(0, 2)] 0 [] BX12_laysNow := (t_sq (p1 := 4) (Γ' := [(0, 2)]) (t_do (x_callV (ts := [(0, 2)]) ck12 rfl kX12_lays mokX12_lays w8_97 ps5_6 rfl rfl rfl rfl (a_R (ts := []) 0 a_nil (s_aload_n dX12_laysNow_0 rfl rfl) rfl) dX12_laysNow_1 w8_95) rfl) (t_sq (p1 := 8) (Γ' := [(0, 2)]) (t_do (x_callV (ts := [(0, 2)]) ck12 rfl kX12_runs mokX12_runs w8_144 ps5_14 rfl rfl rfl rfl (a_R (ts := []) 0 a_nil (s_aload_n dX12_laysNow_4 rfl rfl) rfl) dX12_laysNow_5 w8_142) rfl) (t_ret0 (fun _ _ => rfl) dX12_laysNow_8)))
noncomputable def DX12_laysNow : Fr → St → Option (Unit × St) := M1 (fun f => (sR fr0 0 (gR f 0))) BX12_laysNow
theorem kX12_laysNow : SND yX12_laysNow cX12_laysNow 1 none 5 [(0, 2)] cvoV DX12_laysNow := snd_V (nw := 1) (by decide) (fun z => by cases z) rfl rfl (fun _ _ => rfl) sBX12_laysNow
theorem dX12_knownLast_0 : decode cX12_knownLast 0 = .ok (.aload_n 0, 1) := by decide +kernel
theorem dX12_knownLast_1 : decode cX12_knownLast 1 = .ok (.getfield 80, 3) := by decide +kernel
theorem dX12_knownLast_4 : decode cX12_knownLast 4 = .ok (.bipush 24, 2) := by decide +kernel
theorem dX12_knownLast_6 : decode cX12_knownLast 6 = .ok (.aload_n 0, 1) := by decide +kernel
theorem dX12_knownLast_7 : decode cX12_knownLast 7 = .ok (.invokevirtual 304, 3) := by decide +kernel
theorem dX12_knownLast_10 : decode cX12_knownLast 10 = .ok (.imul, 1) := by decide +kernel
theorem dX12_knownLast_11 : decode cX12_knownLast 11 = .ok (.bipush 8, 2) := by decide +kernel
theorem dX12_knownLast_13 : decode cX12_knownLast 13 = .ok (.iload_n 1, 1) := by decide +kernel
theorem dX12_knownLast_14 : decode cX12_knownLast 14 = .ok (.imul, 1) := by decide +kernel
theorem dX12_knownLast_15 : decode cX12_knownLast 15 = .ok (.iadd, 1) := by decide +kernel
theorem dX12_knownLast_16 : decode cX12_knownLast 16 = .ok (.iload_n 2, 1) := by decide +kernel
theorem dX12_knownLast_17 : decode cX12_knownLast 17 = .ok (.iadd, 1) := by decide +kernel
theorem dX12_knownLast_18 : decode cX12_knownLast 18 = .ok (.iaload, 1) := by decide +kernel
theorem dX12_knownLast_19 : decode cX12_knownLast 19 = .ok (.ireturn, 1) := by decide +kernel
theorem mokX12_knownLast : MOK yX12_knownLast cX12_knownLast 3 (some .int) 2 := ⟨w9_20, w1_13, ⟨by decide, by decide⟩, by decide +kernel, by decide⟩
abbrev miX12_knownLast : MI := (yX12_knownLast.cls, cX12_knownLast, 3, 2, false)
noncomputable def BX12_knownLast : Sm Int32 := (dRet (dAI (dGR 12 36 (vR 0)) (d2 o_iadd (d2 o_iadd (d2 o_imul (cI 24) (dCallV 12 DX12_days (aR aN 0 (vR 0)))) (d2 o_imul (cI 8) (vI 1))) (vI 2))))
theorem sBX12_knownLast : SS (cvoI, .ireturn) miX12_knownLast [] [] [] [(0, 2), (1, 0), (2, 0)] [(0, 2), (1, 0), (2, 0)] 0 [] BX12_knownLast := (t_ret (cv := cvI) (fun _ _ => rfl) (s_dAI (s_getR ck12 36 (by decide) rfl (s_aload_n dX12_knownLast_0 rfl rfl) dX12_knownLast_1 w7_1) (s_iadd (s_iadd (s_imul (s_bipush dX12_knownLast_4 rfl) (s_of_xI (x_callV (ts := [(0, 2)]) ck12 rfl kX12_days mokX12_days w8_136 ps5_12 rfl rfl rfl rfl (a_R (ts := []) 0 a_nil (s_aload_n dX12_knownLast_6 rfl rfl) rfl) dX12_knownLast_7 w8_134)) dX12_knownLast_10) (s_imul (s_bipush dX12_knownLast_11 rfl) (s_iload_n dX12_knownLast_13 rfl rfl) dX12_knownLast_14) dX12_knownLast_15) (s_iload_n dX12_knownLast_16 rfl rfl) dX12_knownLast_17) dX12_knownLast_18) dX12_knownLast_19)
noncomputable def DX12_knownLast : Fr → St → Option (Int32 × St) := M1 (fun f => (sI (sI (sR fr0 0 (gR f 0)) 1 (gI f 1)) 2 (gI f 2))) BX12_knownLast
theorem kX12_knownLast : SND yX12_knownLast cX12_knownLast 3 (some .int) 2 [(0, 2), (1, 0), (2, 0)] cvoI DX12_knownLast := snd_I (nw := 3) (by decide) rfl rfl (fun _ _ => rfl) sBX12_knownLast
theorem dX12_heardOf_0 : decode cX12_heardOf 0 = .ok (.iconst 0, 1) := by decide +kernel
theorem dX12_heardOf_1 : decode cX12_heardOf 1 = .ok (.istore_n 3, 1) := by decide +kernel
theorem dX12_heardOf_2 : decode cX12_heardOf 2 = .ok (.iconst 0, 1) := by decide +kernel
theorem dX12_heardOf_3 : decode cX12_heardOf 3 = .ok (.istore 4, 2) := by decide +kernel
theorem dX12_heardOf_5 : decode cX12_heardOf 5 = .ok (.iload 4, 2) := by decide +kernel
theorem dX12_heardOf_7 : decode cX12_heardOf 7 = .ok (.aload_n 0, 1) := by decide +kernel
theorem dX12_heardOf_8 : decode cX12_heardOf 8 = .ok (.invokevirtual 292, 3) := by decide +kernel
theorem dX12_heardOf_11 : decode cX12_heardOf 11 = .ok (.if_icmp .ge 40, 3) := by decide +kernel
theorem dX12_heardOf_14 : decode cX12_heardOf 14 = .ok (.iload_n 3, 1) := by decide +kernel
theorem dX12_heardOf_15 : decode cX12_heardOf 15 = .ok (.aload_n 0, 1) := by decide +kernel
theorem dX12_heardOf_16 : decode cX12_heardOf 16 = .ok (.getfield 80, 3) := by decide +kernel
theorem dX12_heardOf_19 : decode cX12_heardOf 19 = .ok (.bipush 24, 2) := by decide +kernel
theorem dX12_heardOf_21 : decode cX12_heardOf 21 = .ok (.iload_n 2, 1) := by decide +kernel
theorem dX12_heardOf_22 : decode cX12_heardOf 22 = .ok (.imul, 1) := by decide +kernel
theorem dX12_heardOf_23 : decode cX12_heardOf 23 = .ok (.bipush 8, 2) := by decide +kernel
theorem dX12_heardOf_25 : decode cX12_heardOf 25 = .ok (.iload_n 1, 1) := by decide +kernel
theorem dX12_heardOf_26 : decode cX12_heardOf 26 = .ok (.imul, 1) := by decide +kernel
theorem dX12_heardOf_27 : decode cX12_heardOf 27 = .ok (.iadd, 1) := by decide +kernel
theorem dX12_heardOf_28 : decode cX12_heardOf 28 = .ok (.iload 4, 2) := by decide +kernel
theorem dX12_heardOf_30 : decode cX12_heardOf 30 = .ok (.iadd, 1) := by decide +kernel
theorem dX12_heardOf_31 : decode cX12_heardOf 31 = .ok (.iaload, 1) := by decide +kernel
theorem dX12_heardOf_32 : decode cX12_heardOf 32 = .ok (.ifCond .ne 7, 3) := by decide +kernel
theorem dX12_heardOf_35 : decode cX12_heardOf 35 = .ok (.iconst 0, 1) := by decide +kernel
theorem dX12_heardOf_36 : decode cX12_heardOf 36 = .ok (.goto 7, 3) := by decide +kernel
theorem dX12_heardOf_39 : decode cX12_heardOf 39 = .ok (.iconst 1, 1) := by decide +kernel
theorem dX12_heardOf_40 : decode cX12_heardOf 40 = .ok (.iload 4, 2) := by decide +kernel
theorem dX12_heardOf_42 : decode cX12_heardOf 42 = .ok (.ishl, 1) := by decide +kernel
theorem dX12_heardOf_43 : decode cX12_heardOf 43 = .ok (.ior, 1) := by decide +kernel
theorem dX12_heardOf_44 : decode cX12_heardOf 44 = .ok (.istore_n 3, 1) := by decide +kernel
theorem dX12_heardOf_45 : decode cX12_heardOf 45 = .ok (.iinc 4 1, 3) := by decide +kernel
theorem dX12_heardOf_48 : decode cX12_heardOf 48 = .ok (.goto (-43), 3) := by decide +kernel
theorem dX12_heardOf_51 : decode cX12_heardOf 51 = .ok (.iload_n 3, 1) := by decide +kernel
theorem dX12_heardOf_52 : decode cX12_heardOf 52 = .ok (.ireturn, 1) := by decide +kernel
theorem mokX12_heardOf : MOK yX12_heardOf cX12_heardOf 5 (some .int) 2 := ⟨w8_197, w1_13, ⟨by decide, by decide⟩, by decide +kernel, by decide⟩
abbrev miX12_heardOf : MI := (yX12_heardOf.cls, cX12_heardOf, 5, 2, false)
noncomputable def LX12_heardOf_1 : Sm Int32 := dLoop (fun f => (sI (sI (sI (sI (sR fr0 0 (gR f 0)) 1 (gI f 1)) 2 (gI f 2)) 3 (gI f 3)) 4 (gI f 4))) (dCI r_lt (vI 4) (dCallV 12 DX12_houses (aR aN 0 (vR 0)))) (dSetI 3 (d2 o_ior (vI 3) (dT (dCZ q_eq (dAI (dGR 12 36 (vR 0)) (d2 o_iadd (d2 o_iadd (d2 o_imul (cI 24) (vI 2)) (d2 o_imul (cI 8) (vI 1))) (vI 4)))) (cI 0) (d2 o_ishl (cI 1) (vI 4))))) (dInc 4 1)
theorem sLX12_heardOf_1 {ΓL : Gm} {PB PK : List Nat} : SS (cvoI, .ireturn) miX12_heardOf ΓL PB PK [(0, 2), (1, 0), (2, 0), (3, 0), (4, 0)] [(0, 2), (1, 0), (2, 0), (3, 0), (4, 0)] 5 [51] LX12_heardOf_1 := t_loop (pT := 14) (pF := 51) (pu := 45) (PB' := []) (PK' := []) (XB := [45]) (XU := [48]) (fun _ _ => rfl) rfl (c_lt_F (pF := 51) (s_iload dX12_heardOf_5 rfl) (s_of_xI (x_callV (ts := [(0, 2)]) ck12 rfl kX12_houses mokX12_houses w8_62 ps5_1 rfl rfl rfl rfl (a_R (ts := []) 0 a_nil (s_aload_n dX12_heardOf_7 rfl rfl) rfl) dX12_heardOf_8 w8_60)) dX12_heardOf_11 rfl) (t_istore_n (s_ior (s_iload_n dX12_heardOf_14 rfl rfl) (s_T (pT := 35) (pF := 39) (p1 := 36) (pe := 43) (c_eq_ZF (pF := 39) (s_dAI (s_getR ck12 36 (by decide) rfl (s_aload_n dX12_heardOf_15 rfl rfl) dX12_heardOf_16 w7_1) (s_iadd (s_iadd (s_imul (s_bipush dX12_heardOf_19 rfl) (s_iload_n dX12_heardOf_21 rfl rfl) dX12_heardOf_22) (s_imul (s_bipush dX12_heardOf_23 rfl) (s_iload_n dX12_heardOf_25 rfl rfl) dX12_heardOf_26) dX12_heardOf_27) (s_iload dX12_heardOf_28 rfl) dX12_heardOf_30) dX12_heardOf_31) dX12_heardOf_32 rfl) (s_iconst dX12_heardOf_35 rfl) (s_ishl (s_iconst dX12_heardOf_39 rfl) (s_iload dX12_heardOf_40 rfl) dX12_heardOf_42) (ld_goto (y := 43) dX12_heardOf_36 rfl (ld_in rfl))) dX12_heardOf_43) dX12_heardOf_44 rfl rfl rfl) (t_iinc dX12_heardOf_45 rfl rfl rfl rfl) (lda_cons (ld_in rfl) lda_nil) lda_nil (lda_cons (ld_goto (y := 5) dX12_heardOf_48 rfl (ld_in rfl)) lda_nil) (ld_in rfl) lda_nil
noncomputable def BX12_heardOf : Sm Int32 := (dSeq (dSetI 3 (cI 0)) (dSeq (dSeq (dSetI 4 (cI 0)) LX12_heardOf_1) (dRet (vI 3))))
theorem sBX12_heardOf : SS (cvoI, .ireturn) miX12_heardOf [] [] [] [(0, 2), (1, 0), (2, 0)] [(0, 2), (1, 0), (2, 0)] 0 [] BX12_heardOf := (t_sq (p1 := 2) (Γ' := [(0, 2), (1, 0), (2, 0), (3, 0)]) (t_istore_n (s_iconst dX12_heardOf_0 rfl) dX12_heardOf_1 rfl rfl rfl) (t_sq (p1 := 51) (Γ' := [(0, 2), (1, 0), (2, 0), (3, 0)]) (t_sq (p1 := 5) (Γ' := [(0, 2), (1, 0), (2, 0), (3, 0), (4, 0)]) (t_istore (s_iconst dX12_heardOf_2 rfl) dX12_heardOf_3 rfl rfl) (tn_to (Γ' := [(0, 2), (1, 0), (2, 0), (3, 0), (4, 0)]) (XA := [51]) sLX12_heardOf_1 (lda_cons (ld_in rfl) lda_nil) rfl)) (t_ret (cv := cvI) (fun _ _ => rfl) (s_iload_n dX12_heardOf_51 rfl rfl) dX12_heardOf_52)))
noncomputable def DX12_heardOf : Fr → St → Option (Int32 × St) := M1 (fun f => (sI (sI (sR fr0 0 (gR f 0)) 1 (gI f 1)) 2 (gI f 2))) BX12_heardOf
theorem kX12_heardOf : SND yX12_heardOf cX12_heardOf 5 (some .int) 2 [(0, 2), (1, 0), (2, 0)] cvoI DX12_heardOf := snd_I (nw := 3) (by decide) rfl rfl (fun _ _ => rfl) sBX12_heardOf
theorem dX12_house_0 : decode cX12_house 0 = .ok (.aload_n 0, 1) := by decide +kernel
theorem dX12_house_1 : decode cX12_house 1 = .ok (.iconst 0, 1) := by decide +kernel
theorem dX12_house_2 : decode cX12_house 2 = .ok (.putfield 122, 3) := by decide +kernel
theorem dX12_house_5 : decode cX12_house 5 = .ok (.aload_n 0, 1) := by decide +kernel
theorem dX12_house_6 : decode cX12_house 6 = .ok (.iload_n 1, 1) := by decide +kernel
theorem dX12_house_7 : decode cX12_house 7 = .ok (.i2l, 1) := by decide +kernel
theorem dX12_house_8 : decode cX12_house 8 = .ok (.invokevirtual 307, 3) := by decide +kernel
theorem dX12_house_11 : decode cX12_house 11 = .ok (.ifCond .eq 12, 3) := by decide +kernel
theorem dX12_house_14 : decode cX12_house 14 = .ok (.aload_n 0, 1) := by decide +kernel
theorem dX12_house_15 : decode cX12_house 15 = .ok (.getfield 37, 3) := by decide +kernel
theorem dX12_house_18 : decode cX12_house 18 = .ok (.iload_n 1, 1) := by decide +kernel
theorem dX12_house_19 : decode cX12_house 19 = .ok (.iaload, 1) := by decide +kernel
theorem dX12_house_20 : decode cX12_house 20 = .ok (.goto 5, 3) := by decide +kernel
theorem dX12_house_23 : decode cX12_house 23 = .ok (.bipush (-2), 2) := by decide +kernel
theorem dX12_house_25 : decode cX12_house 25 = .ok (.ireturn, 1) := by decide +kernel
theorem mokX12_house : MOK yX12_house cX12_house 2 (some .int) 1 := ⟨w8_55, w1_13, ⟨by decide, by decide⟩, by decide +kernel, by decide⟩
abbrev miX12_house : MI := (yX12_house.cls, cX12_house, 2, 3, false)
noncomputable def BX12_house : Sm Int32 := (dSeq (dP (fI 12 0) (vR 0) (cI 0)) (dRet (dT (dCZ q_ne (dCallV 12 DX12_isHouse (aL (aR aN 0 (vR 0)) 1 (d1 o_i2l (vI 1))))) (dAI (dGR 12 18 (vR 0)) (vI 1)) (cI (-2)))))
theorem sBX12_house : SS (cvoI, .ireturn) miX12_house [] [] [] [(0, 2), (1, 0)] [(0, 2), (1, 0)] 0 [] BX12_house := (t_sq (p1 := 5) (Γ' := [(0, 2), (1, 0)]) (t_pI ck12 0 (by decide) rfl (Or.inl rfl) (s_aload_n dX12_house_0 rfl rfl) (s_iconst dX12_house_1 rfl) dX12_house_2 w6_205 rfl) (t_ret (cv := cvI) (fun _ _ => rfl) (s_T (pT := 14) (pF := 23) (p1 := 20) (pe := 25) (c_ne_ZF (pF := 23) (s_of_xI (x_callV (ts := [(0, 2), (1, 1)]) ck12 rfl kX12_isHouse mokX12_isHouse w8_58 ps5_0 rfl rfl rfl rfl (a_L (ts := [(0, 2)]) 1 (a_R (ts := []) 0 a_nil (s_aload_n dX12_house_5 rfl rfl) rfl) (s_i2l (s_iload_n dX12_house_6 rfl rfl) dX12_house_7) rfl) dX12_house_8 w8_56)) dX12_house_11 rfl) (s_dAI (s_getR ck12 18 (by decide) rfl (s_aload_n dX12_house_14 rfl rfl) dX12_house_15 w6_223) (s_iload_n dX12_house_18 rfl rfl) dX12_house_19) (s_bipush dX12_house_23 rfl) (ld_goto (y := 25) dX12_house_20 rfl (ld_in rfl))) dX12_house_25))
noncomputable def DX12_house : Fr → St → Option (Int32 × St) := M1 (fun f => (sI (sR fr0 0 (gR f 0)) 1 (gI f 1))) BX12_house
theorem kX12_house : SND yX12_house cX12_house 2 (some .int) 3 [(0, 2), (1, 0)] cvoI DX12_house := snd_I (nw := 2) (by decide) rfl rfl (fun _ _ => rfl) sBX12_house
theorem dX12_carrier_0 : decode cX12_carrier 0 = .ok (.aload_n 0, 1) := by decide +kernel
theorem dX12_carrier_1 : decode cX12_carrier 1 = .ok (.iconst 0, 1) := by decide +kernel
theorem dX12_carrier_2 : decode cX12_carrier 2 = .ok (.putfield 122, 3) := by decide +kernel
theorem dX12_carrier_5 : decode cX12_carrier 5 = .ok (.aload_n 0, 1) := by decide +kernel
theorem dX12_carrier_6 : decode cX12_carrier 6 = .ok (.iload_n 1, 1) := by decide +kernel
theorem dX12_carrier_7 : decode cX12_carrier 7 = .ok (.invokevirtual 366, 3) := by decide +kernel
theorem dX12_carrier_10 : decode cX12_carrier 10 = .ok (.ifCond .eq 23, 3) := by decide +kernel
theorem dX12_carrier_13 : decode cX12_carrier 13 = .ok (.iload_n 2, 1) := by decide +kernel
theorem dX12_carrier_14 : decode cX12_carrier 14 = .ok (.invokestatic 369, 3) := by decide +kernel
theorem dX12_carrier_17 : decode cX12_carrier 17 = .ok (.ifCond .eq 16, 3) := by decide +kernel
theorem dX12_carrier_20 : decode cX12_carrier 20 = .ok (.aload_n 0, 1) := by decide +kernel
theorem dX12_carrier_21 : decode cX12_carrier 21 = .ok (.getfield 43, 3) := by decide +kernel
theorem dX12_carrier_24 : decode cX12_carrier 24 = .ok (.iconst 2, 1) := by decide +kernel
theorem dX12_carrier_25 : decode cX12_carrier 25 = .ok (.iload_n 1, 1) := by decide +kernel
theorem dX12_carrier_26 : decode cX12_carrier 26 = .ok (.imul, 1) := by decide +kernel
theorem dX12_carrier_27 : decode cX12_carrier 27 = .ok (.iload_n 2, 1) := by decide +kernel
theorem dX12_carrier_28 : decode cX12_carrier 28 = .ok (.iadd, 1) := by decide +kernel
theorem dX12_carrier_29 : decode cX12_carrier 29 = .ok (.iaload, 1) := by decide +kernel
theorem dX12_carrier_30 : decode cX12_carrier 30 = .ok (.goto 5, 3) := by decide +kernel
theorem dX12_carrier_33 : decode cX12_carrier 33 = .ok (.bipush (-2), 2) := by decide +kernel
theorem dX12_carrier_35 : decode cX12_carrier 35 = .ok (.ireturn, 1) := by decide +kernel
theorem mokX12_carrier : MOK yX12_carrier cX12_carrier 3 (some .int) 2 := ⟨w8_67, w1_13, ⟨by decide, by decide⟩, by decide +kernel, by decide⟩
abbrev miX12_carrier : MI := (yX12_carrier.cls, cX12_carrier, 3, 3, false)
noncomputable def BX12_carrier : Sm Int32 := (dSeq (dP (fI 12 0) (vR 0) (cI 0)) (dRet (dT (dAnd (dCZ q_ne (dCallV 12 DX12_isCarrier (aI (aR aN 0 (vR 0)) 1 (vI 1)))) (dCZ q_ne (dCall DX12_isHalf (aI aN 0 (vI 2))))) (dAI (dGR 12 20 (vR 0)) (d2 o_iadd (d2 o_imul (cI 2) (vI 1)) (vI 2))) (cI (-2)))))
theorem sBX12_carrier : SS (cvoI, .ireturn) miX12_carrier [] [] [] [(0, 2), (1, 0), (2, 0)] [(0, 2), (1, 0), (2, 0)] 0 [] BX12_carrier := (t_sq (p1 := 5) (Γ' := [(0, 2), (1, 0), (2, 0)]) (t_pI ck12 0 (by decide) rfl (Or.inl rfl) (s_aload_n dX12_carrier_0 rfl rfl) (s_iconst dX12_carrier_1 rfl) dX12_carrier_2 w6_205 rfl) (t_ret (cv := cvI) (fun _ _ => rfl) (s_T (pT := 20) (pF := 33) (p1 := 30) (pe := 35) (c_and (p1 := 13) (pT := 20) (pF := 33) (c_ne_ZF (pF := 33) (s_of_xI (x_callV (ts := [(0, 2), (1, 0)]) ck12 rfl kX12_isCarrier mokX12_isCarrier w8_70 ps5_2 rfl rfl rfl rfl (a_I (ts := [(0, 2)]) 1 (a_R (ts := []) 0 a_nil (s_aload_n dX12_carrier_5 rfl rfl) rfl) (s_iload_n dX12_carrier_6 rfl rfl) rfl) dX12_carrier_7 w8_68)) dX12_carrier_10 rfl) (c_ne_ZF (pF := 33) (s_of_xI (x_call (ts := [(0, 0)]) kX12_isHalf mokX12_isHalf w8_77 rfl rfl rfl (a_I (ts := []) 0 a_nil (s_iload_n dX12_carrier_13 rfl rfl) rfl) dX12_carrier_14 w8_76)) dX12_carrier_17 rfl)) (s_dAI (s_getR ck12 20 (by decide) rfl (s_aload_n dX12_carrier_20 rfl rfl) dX12_carrier_21 w6_225) (s_iadd (s_imul (s_iconst dX12_carrier_24 rfl) (s_iload_n dX12_carrier_25 rfl rfl) dX12_carrier_26) (s_iload_n dX12_carrier_27 rfl rfl) dX12_carrier_28) dX12_carrier_29) (s_bipush dX12_carrier_33 rfl) (ld_goto (y := 35) dX12_carrier_30 rfl (ld_in rfl))) dX12_carrier_35))
noncomputable def DX12_carrier : Fr → St → Option (Int32 × St) := M1 (fun f => (sI (sI (sR fr0 0 (gR f 0)) 1 (gI f 1)) 2 (gI f 2))) BX12_carrier
theorem kX12_carrier : SND yX12_carrier cX12_carrier 3 (some .int) 3 [(0, 2), (1, 0), (2, 0)] cvoI DX12_carrier := snd_I (nw := 3) (by decide) rfl rfl (fun _ _ => rfl) sBX12_carrier
theorem dX12_word_0 : decode cX12_word 0 = .ok (.aload_n 0, 1) := by decide +kernel
theorem dX12_word_1 : decode cX12_word 1 = .ok (.iconst 0, 1) := by decide +kernel
theorem dX12_word_2 : decode cX12_word 2 = .ok (.putfield 122, 3) := by decide +kernel
theorem dX12_word_5 : decode cX12_word 5 = .ok (.aload_n 0, 1) := by decide +kernel
theorem dX12_word_6 : decode cX12_word 6 = .ok (.iload_n 1, 1) := by decide +kernel
theorem dX12_word_7 : decode cX12_word 7 = .ok (.invokevirtual 372, 3) := by decide +kernel
theorem dX12_word_10 : decode cX12_word 10 = .ok (.ifCond .ne 6, 3) := by decide +kernel
theorem dX12_word_13 : decode cX12_word 13 = .ok (.bipush (-2), 2) := by decide +kernel
theorem dX12_word_15 : decode cX12_word 15 = .ok (.ireturn, 1) := by decide +kernel
theorem dX12_word_16 : decode cX12_word 16 = .ok (.iload_n 2, 1) := by decide +kernel
theorem dX12_word_17 : decode cX12_word 17 = .ok (.i2l, 1) := by decide +kernel
theorem dX12_word_18 : decode cX12_word 18 = .ok (.lconst 0, 1) := by decide +kernel
theorem dX12_word_19 : decode cX12_word 19 = .ok (.aload_n 0, 1) := by decide +kernel
theorem dX12_word_20 : decode cX12_word 20 = .ok (.getfield 49, 3) := by decide +kernel
theorem dX12_word_23 : decode cX12_word 23 = .ok (.iload_n 1, 1) := by decide +kernel
theorem dX12_word_24 : decode cX12_word 24 = .ok (.iaload, 1) := by decide +kernel
theorem dX12_word_25 : decode cX12_word 25 = .ok (.i2l, 1) := by decide +kernel
theorem dX12_word_26 : decode cX12_word 26 = .ok (.lconst 1, 1) := by decide +kernel
theorem dX12_word_27 : decode cX12_word 27 = .ok (.lsub, 1) := by decide +kernel
theorem dX12_word_28 : decode cX12_word 28 = .ok (.invokestatic 127, 3) := by decide +kernel
theorem dX12_word_31 : decode cX12_word 31 = .ok (.ifCond .eq 17, 3) := by decide +kernel
theorem dX12_word_34 : decode cX12_word 34 = .ok (.aload_n 0, 1) := by decide +kernel
theorem dX12_word_35 : decode cX12_word 35 = .ok (.getfield 52, 3) := by decide +kernel
theorem dX12_word_38 : decode cX12_word 38 = .ok (.bipush 6, 2) := by decide +kernel
theorem dX12_word_40 : decode cX12_word 40 = .ok (.iload_n 1, 1) := by decide +kernel
theorem dX12_word_41 : decode cX12_word 41 = .ok (.imul, 1) := by decide +kernel
theorem dX12_word_42 : decode cX12_word 42 = .ok (.iload_n 2, 1) := by decide +kernel
theorem dX12_word_43 : decode cX12_word 43 = .ok (.iadd, 1) := by decide +kernel
theorem dX12_word_44 : decode cX12_word 44 = .ok (.iaload, 1) := by decide +kernel
theorem dX12_word_45 : decode cX12_word 45 = .ok (.goto 4, 3) := by decide +kernel
theorem dX12_word_48 : decode cX12_word 48 = .ok (.iconst (-1), 1) := by decide +kernel
theorem dX12_word_49 : decode cX12_word 49 = .ok (.ireturn, 1) := by decide +kernel
theorem mokX12_word : MOK yX12_word cX12_word 3 (some .int) 2 := ⟨w8_82, w1_13, ⟨by decide, by decide⟩, by decide +kernel, by decide⟩
abbrev miX12_word : MI := (yX12_word.cls, cX12_word, 3, 3, false)
noncomputable def BX12_word : Sm Int32 := (dSeq (dP (fI 12 0) (vR 0) (cI 0)) (dSeq (dIf (dNot (dCZ q_ne (dCallV 12 DX12_isSlate (aI (aR aN 0 (vR 0)) 1 (vI 1))))) (dRet (cI (-2))) dSkip) (dRet (dT (dCZ q_ne (dCall DX12_in (aL (aL (aL aN 0 (d1 o_i2l (vI 2))) 2 (cL 0)) 4 (d2 o_lsub (d1 o_i2l (dAI (dGR 12 22 (vR 0)) (vI 1))) (cL 1))))) (dAI (dGR 12 23 (vR 0)) (d2 o_iadd (d2 o_imul (cI 6) (vI 1)) (vI 2))) (cI (-1))))))
theorem sBX12_word : SS (cvoI, .ireturn) miX12_word [] [] [] [(0, 2), (1, 0), (2, 0)] [(0, 2), (1, 0), (2, 0)] 0 [] BX12_word := (t_sq (p1 := 5) (Γ' := [(0, 2), (1, 0), (2, 0)]) (t_pI ck12 0 (by decide) rfl (Or.inl rfl) (s_aload_n dX12_word_0 rfl rfl) (s_iconst dX12_word_1 rfl) dX12_word_2 w6_205 rfl) (t_sq (p1 := 16) (Γ' := [(0, 2), (1, 0), (2, 0)]) (t_if (pT := 13) (pF := 16) (X := [16]) (XA := []) (XB := [16]) (c_not (pT := 13) (pF := 16) (c_ne_ZJ (pT := 16) (s_of_xI (x_callV (ts := [(0, 2), (1, 0)]) ck12 rfl kX12_isSlate mokX12_isSlate w8_85 ps5_4 rfl rfl rfl rfl (a_I (ts := [(0, 2)]) 1 (a_R (ts := []) 0 a_nil (s_aload_n dX12_word_5 rfl rfl) rfl) (s_iload_n dX12_word_6 rfl rfl) rfl) dX12_word_7 w8_83)) dX12_word_10 rfl)) (t_ret (cv := cvI) (fun _ _ => rfl) (s_bipush dX12_word_13 rfl) dX12_word_15) (t_skip (ld_in rfl) rfl) lda_nil (lda_cons (ld_in rfl) lda_nil)) (t_ret (cv := cvI) (fun _ _ => rfl) (s_T (pT := 34) (pF := 48) (p1 := 45) (pe := 49) (c_ne_ZF (pF := 48) (s_of_xI (x_call (ts := [(0, 1), (2, 1), (4, 1)]) kX12_in mokX12_in w7_141 rfl rfl rfl (a_L (ts := [(0, 1), (2, 1)]) 4 (a_L (ts := [(0, 1)]) 2 (a_L (ts := []) 0 a_nil (s_i2l (s_iload_n dX12_word_16 rfl rfl) dX12_word_17) rfl) (s_lconst dX12_word_18 rfl) rfl) (s_lsub (s_i2l (s_dAI (s_getR ck12 22 (by decide) rfl (s_aload_n dX12_word_19 rfl rfl) dX12_word_20 w6_227) (s_iload_n dX12_word_23 rfl rfl) dX12_word_24) dX12_word_25) (s_lconst dX12_word_26 rfl) dX12_word_27) rfl) dX12_word_28 w7_140)) dX12_word_31 rfl) (s_dAI (s_getR ck12 23 (by decide) rfl (s_aload_n dX12_word_34 rfl rfl) dX12_word_35 w6_228) (s_iadd (s_imul (s_bipush dX12_word_38 rfl) (s_iload_n dX12_word_40 rfl rfl) dX12_word_41) (s_iload_n dX12_word_42 rfl rfl) dX12_word_43) dX12_word_44) (s_iconst dX12_word_48 rfl) (ld_goto (y := 49) dX12_word_45 rfl (ld_in rfl))) dX12_word_49)))
noncomputable def DX12_word : Fr → St → Option (Int32 × St) := M1 (fun f => (sI (sI (sR fr0 0 (gR f 0)) 1 (gI f 1)) 2 (gI f 2))) BX12_word
theorem kX12_word : SND yX12_word cX12_word 3 (some .int) 3 [(0, 2), (1, 0), (2, 0)] cvoI DX12_word := snd_I (nw := 3) (by decide) rfl rfl (fun _ _ => rfl) sBX12_word
theorem dX12_doors_0 : decode cX12_doors 0 = .ok (.aload_n 0, 1) := by decide +kernel
theorem dX12_doors_1 : decode cX12_doors 1 = .ok (.iconst 0, 1) := by decide +kernel
theorem dX12_doors_2 : decode cX12_doors 2 = .ok (.putfield 122, 3) := by decide +kernel
theorem dX12_doors_5 : decode cX12_doors 5 = .ok (.aload_n 0, 1) := by decide +kernel
theorem dX12_doors_6 : decode cX12_doors 6 = .ok (.iload_n 1, 1) := by decide +kernel
theorem dX12_doors_7 : decode cX12_doors 7 = .ok (.i2l, 1) := by decide +kernel
theorem dX12_doors_8 : decode cX12_doors 8 = .ok (.invokevirtual 307, 3) := by decide +kernel
theorem dX12_doors_11 : decode cX12_doors 11 = .ok (.ifCond .ne 6, 3) := by decide +kernel
theorem dX12_doors_14 : decode cX12_doors 14 = .ok (.bipush (-2), 2) := by decide +kernel
theorem dX12_doors_16 : decode cX12_doors 16 = .ok (.ireturn, 1) := by decide +kernel
theorem dX12_doors_17 : decode cX12_doors 17 = .ok (.aload_n 0, 1) := by decide +kernel
theorem dX12_doors_18 : decode cX12_doors 18 = .ok (.invokevirtual 360, 3) := by decide +kernel
theorem dX12_doors_21 : decode cX12_doors 21 = .ok (.iconst 0, 1) := by decide +kernel
theorem dX12_doors_22 : decode cX12_doors 22 = .ok (.istore_n 2, 1) := by decide +kernel
theorem dX12_doors_23 : decode cX12_doors 23 = .ok (.iconst 0, 1) := by decide +kernel
theorem dX12_doors_24 : decode cX12_doors 24 = .ok (.istore_n 3, 1) := by decide +kernel
theorem dX12_doors_25 : decode cX12_doors 25 = .ok (.iload_n 3, 1) := by decide +kernel
theorem dX12_doors_26 : decode cX12_doors 26 = .ok (.aload_n 0, 1) := by decide +kernel
theorem dX12_doors_27 : decode cX12_doors 27 = .ok (.invokevirtual 292, 3) := by decide +kernel
theorem dX12_doors_30 : decode cX12_doors 30 = .ok (.if_icmp .ge 28, 3) := by decide +kernel
theorem dX12_doors_33 : decode cX12_doors 33 = .ok (.iload_n 2, 1) := by decide +kernel
theorem dX12_doors_34 : decode cX12_doors 34 = .ok (.aload_n 0, 1) := by decide +kernel
theorem dX12_doors_35 : decode cX12_doors 35 = .ok (.iload_n 1, 1) := by decide +kernel
theorem dX12_doors_36 : decode cX12_doors 36 = .ok (.iload_n 3, 1) := by decide +kernel
theorem dX12_doors_37 : decode cX12_doors 37 = .ok (.invokevirtual 335, 3) := by decide +kernel
theorem dX12_doors_40 : decode cX12_doors 40 = .ok (.ifCond .eq 9, 3) := by decide +kernel
theorem dX12_doors_43 : decode cX12_doors 43 = .ok (.iconst 1, 1) := by decide +kernel
theorem dX12_doors_44 : decode cX12_doors 44 = .ok (.iload_n 3, 1) := by decide +kernel
theorem dX12_doors_45 : decode cX12_doors 45 = .ok (.ishl, 1) := by decide +kernel
theorem dX12_doors_46 : decode cX12_doors 46 = .ok (.goto 4, 3) := by decide +kernel
theorem dX12_doors_49 : decode cX12_doors 49 = .ok (.iconst 0, 1) := by decide +kernel
theorem dX12_doors_50 : decode cX12_doors 50 = .ok (.ior, 1) := by decide +kernel
theorem dX12_doors_51 : decode cX12_doors 51 = .ok (.istore_n 2, 1) := by decide +kernel
theorem dX12_doors_52 : decode cX12_doors 52 = .ok (.iinc 3 1, 3) := by decide +kernel
theorem dX12_doors_55 : decode cX12_doors 55 = .ok (.goto (-30), 3) := by decide +kernel
theorem dX12_doors_58 : decode cX12_doors 58 = .ok (.iload_n 2, 1) := by decide +kernel
theorem dX12_doors_59 : decode cX12_doors 59 = .ok (.ireturn, 1) := by decide +kernel
theorem mokX12_doors : MOK yX12_doors cX12_doors 4 (some .int) 1 := ⟨w8_94, w1_13, ⟨by decide, by decide⟩, by decide +kernel, by decide⟩
abbrev miX12_doors : MI := (yX12_doors.cls, cX12_doors, 4, 3, false)
noncomputable def LX12_doors_1 : Sm Int32 := dLoop (fun f => (sI (sI (sI (sR fr0 0 (gR f 0)) 1 (gI f 1)) 2 (gI f 2)) 3 (gI f 3))) (dCI r_lt (vI 3) (dCallV 12 DX12_houses (aR aN 0 (vR 0)))) (dSetI 2 (d2 o_ior (vI 2) (dT (dCZ q_ne (dCallV 12 DX12_isWay (aI (aI (aR aN 0 (vR 0)) 1 (vI 1)) 2 (vI 3)))) (d2 o_ishl (cI 1) (vI 3)) (cI 0)))) (dInc 3 1)
theorem sLX12_doors_1 {ΓL : Gm} {PB PK : List Nat} : SS (cvoI, .ireturn) miX12_doors ΓL PB PK [(0, 2), (1, 0), (2, 0), (3, 0)] [(0, 2), (1, 0), (2, 0), (3, 0)] 25 [58] LX12_doors_1 := t_loop (pT := 33) (pF := 58) (pu := 52) (PB' := []) (PK' := []) (XB := [52]) (XU := [55]) (fun _ _ => rfl) rfl (c_lt_F (pF := 58) (s_iload_n dX12_doors_25 rfl rfl) (s_of_xI (x_callV (ts := [(0, 2)]) ck12 rfl kX12_houses mokX12_houses w8_62 ps5_1 rfl rfl rfl rfl (a_R (ts := []) 0 a_nil (s_aload_n dX12_doors_26 rfl rfl) rfl) dX12_doors_27 w8_60)) dX12_doors_30 rfl) (t_istore_n (s_ior (s_iload_n dX12_doors_33 rfl rfl) (s_T (pT := 43) (pF := 49) (p1 := 46) (pe := 50) (c_ne_ZF (pF := 49) (s_of_xI (x_callV (ts := [(0, 2), (1, 0), (2, 0)]) ck12 rfl kX12_isWay mokX12_isWay w8_101 ps5_7 rfl rfl rfl rfl (a_I (ts := [(0, 2), (1, 0)]) 2 (a_I (ts := [(0, 2)]) 1 (a_R (ts := []) 0 a_nil (s_aload_n dX12_doors_34 rfl rfl) rfl) (s_iload_n dX12_doors_35 rfl rfl) rfl) (s_iload_n dX12_doors_36 rfl rfl) rfl) dX12_doors_37 w8_99)) dX12_doors_40 rfl) (s_ishl (s_iconst dX12_doors_43 rfl) (s_iload_n dX12_doors_44 rfl rfl) dX12_doors_45) (s_iconst dX12_doors_49 rfl) (ld_goto (y := 50) dX12_doors_46 rfl (ld_in rfl))) dX12_doors_50) dX12_doors_51 rfl rfl rfl) (t_iinc dX12_doors_52 rfl rfl rfl rfl) (lda_cons (ld_in rfl) lda_nil) lda_nil (lda_cons (ld_goto (y := 25) dX12_doors_55 rfl (ld_in rfl)) lda_nil) (ld_in rfl) lda_nil
noncomputable def BX12_doors : Sm Int32 := (dSeq (dP (fI 12 0) (vR 0) (cI 0)) (dSeq (dIf (dNot (dCZ q_ne (dCallV 12 DX12_isHouse (aL (aR aN 0 (vR 0)) 1 (d1 o_i2l (vI 1)))))) (dRet (cI (-2))) dSkip) (dSeq (dDo (dCallV 12 DX12_lays (aR aN 0 (vR 0)))) (dSeq (dSetI 2 (cI 0)) (dSeq (dSeq (dSetI 3 (cI 0)) LX12_doors_1) (dRet (vI 2)))))))
theorem sBX12_doors : SS (cvoI, .ireturn) miX12_doors [] [] [] [(0, 2), (1, 0)] [(0, 2), (1, 0)] 0 [] BX12_doors := (t_sq (p1 := 5) (Γ' := [(0, 2), (1, 0)]) (t_pI ck12 0 (by decide) rfl (Or.inl rfl) (s_aload_n dX12_doors_0 rfl rfl) (s_iconst dX12_doors_1 rfl) dX12_doors_2 w6_205 rfl) (t_sq (p1 := 17) (Γ' := [(0, 2), (1, 0)]) (t_if (pT := 14) (pF := 17) (X := [17]) (XA := []) (XB := [17]) (c_not (pT := 14) (pF := 17) (c_ne_ZJ (pT := 17) (s_of_xI (x_callV (ts := [(0, 2), (1, 1)]) ck12 rfl kX12_isHouse mokX12_isHouse w8_58 ps5_0 rfl rfl rfl rfl (a_L (ts := [(0, 2)]) 1 (a_R (ts := []) 0 a_nil (s_aload_n dX12_doors_5 rfl rfl) rfl) (s_i2l (s_iload_n dX12_doors_6 rfl rfl) dX12_doors_7) rfl) dX12_doors_8 w8_56)) dX12_doors_11 rfl)) (t_ret (cv := cvI) (fun _ _ => rfl) (s_bipush dX12_doors_14 rfl) dX12_doors_16) (t_skip (ld_in rfl) rfl) lda_nil (lda_cons (ld_in rfl) lda_nil)) (t_sq (p1 := 21) (Γ' := [(0, 2), (1, 0)]) (t_do (x_callV (ts := [(0, 2)]) ck12 rfl kX12_lays mokX12_lays w8_97 ps5_6 rfl rfl rfl rfl (a_R (ts := []) 0 a_nil (s_aload_n dX12_doors_17 rfl rfl) rfl) dX12_doors_18 w8_95) rfl) (t_sq (p1 := 23) (Γ' := [(0, 2), (1, 0), (2, 0)]) (t_istore_n (s_iconst dX12_doors_21 rfl) dX12_doors_22 rfl rfl rfl) (t_sq (p1 := 58) (Γ' := [(0, 2), (1, 0), (2, 0)]) (t_sq (p1 := 25) (Γ' := [(0, 2), (1, 0), (2, 0), (3, 0)]) (t_istore_n (s_iconst dX12_doors_23 rfl) dX12_doors_24 rfl rfl rfl) (tn_to (Γ' := [(0, 2), (1, 0), (2, 0), (3, 0)]) (XA := [58]) sLX12_doors_1 (lda_cons (ld_in rfl) lda_nil) rfl)) (t_ret (cv := cvI) (fun _ _ => rfl) (s_iload_n dX12_doors_58 rfl rfl) dX12_doors_59))))))
noncomputable def DX12_doors : Fr → St → Option (Int32 × St) := M1 (fun f => (sI (sR fr0 0 (gR f 0)) 1 (gI f 1))) BX12_doors
theorem kX12_doors : SND yX12_doors cX12_doors 4 (some .int) 3 [(0, 2), (1, 0)] cvoI DX12_doors := snd_I (nw := 2) (by decide) rfl rfl (fun _ _ => rfl) sBX12_doors
theorem dX12_distOf_0 : decode cX12_distOf 0 = .ok (.aload_n 0, 1) := by decide +kernel
theorem dX12_distOf_1 : decode cX12_distOf 1 = .ok (.invokevirtual 360, 3) := by decide +kernel
theorem dX12_distOf_4 : decode cX12_distOf 4 = .ok (.iconst 0, 1) := by decide +kernel
theorem dX12_distOf_5 : decode cX12_distOf 5 = .ok (.istore 4, 2) := by decide +kernel
theorem dX12_distOf_7 : decode cX12_distOf 7 = .ok (.iload 4, 2) := by decide +kernel
theorem dX12_distOf_9 : decode cX12_distOf 9 = .ok (.aload_n 0, 1) := by decide +kernel
theorem dX12_distOf_10 : decode cX12_distOf 10 = .ok (.invokevirtual 292, 3) := by decide +kernel
theorem dX12_distOf_13 : decode cX12_distOf 13 = .ok (.if_icmp .ge 28, 3) := by decide +kernel
theorem dX12_distOf_16 : decode cX12_distOf 16 = .ok (.aload_n 0, 1) := by decide +kernel
theorem dX12_distOf_17 : decode cX12_distOf 17 = .ok (.getfield 107, 3) := by decide +kernel
theorem dX12_distOf_20 : decode cX12_distOf 20 = .ok (.iload 4, 2) := by decide +kernel
theorem dX12_distOf_22 : decode cX12_distOf 22 = .ok (.iload 4, 2) := by decide +kernel
theorem dX12_distOf_24 : decode cX12_distOf 24 = .ok (.iload_n 1, 1) := by decide +kernel
theorem dX12_distOf_25 : decode cX12_distOf 25 = .ok (.if_icmp .ne 7, 3) := by decide +kernel
theorem dX12_distOf_28 : decode cX12_distOf 28 = .ok (.iconst 0, 1) := by decide +kernel
theorem dX12_distOf_29 : decode cX12_distOf 29 = .ok (.goto 5, 3) := by decide +kernel
theorem dX12_distOf_32 : decode cX12_distOf 32 = .ok (.ldc 172, 2) := by decide +kernel
theorem dX12_distOf_34 : decode cX12_distOf 34 = .ok (.iastore, 1) := by decide +kernel
theorem dX12_distOf_35 : decode cX12_distOf 35 = .ok (.iinc 4 1, 3) := by decide +kernel
theorem dX12_distOf_38 : decode cX12_distOf 38 = .ok (.goto (-31), 3) := by decide +kernel
theorem dX12_distOf_41 : decode cX12_distOf 41 = .ok (.iconst 1, 1) := by decide +kernel
theorem dX12_distOf_42 : decode cX12_distOf 42 = .ok (.istore 4, 2) := by decide +kernel
theorem dX12_distOf_44 : decode cX12_distOf 44 = .ok (.iload 4, 2) := by decide +kernel
theorem dX12_distOf_46 : decode cX12_distOf 46 = .ok (.aload_n 0, 1) := by decide +kernel
theorem dX12_distOf_47 : decode cX12_distOf 47 = .ok (.invokevirtual 292, 3) := by decide +kernel
theorem dX12_distOf_50 : decode cX12_distOf 50 = .ok (.if_icmp .ge 103, 3) := by decide +kernel
theorem dX12_distOf_53 : decode cX12_distOf 53 = .ok (.iconst 0, 1) := by decide +kernel
theorem dX12_distOf_54 : decode cX12_distOf 54 = .ok (.istore 5, 2) := by decide +kernel
theorem dX12_distOf_56 : decode cX12_distOf 56 = .ok (.iload 5, 2) := by decide +kernel
theorem dX12_distOf_58 : decode cX12_distOf 58 = .ok (.aload_n 0, 1) := by decide +kernel
theorem dX12_distOf_59 : decode cX12_distOf 59 = .ok (.invokevirtual 292, 3) := by decide +kernel
theorem dX12_distOf_62 : decode cX12_distOf 62 = .ok (.if_icmp .ge 85, 3) := by decide +kernel
theorem dX12_distOf_65 : decode cX12_distOf 65 = .ok (.iconst 0, 1) := by decide +kernel
theorem dX12_distOf_66 : decode cX12_distOf 66 = .ok (.istore 6, 2) := by decide +kernel
theorem dX12_distOf_68 : decode cX12_distOf 68 = .ok (.iload 6, 2) := by decide +kernel
theorem dX12_distOf_70 : decode cX12_distOf 70 = .ok (.aload_n 0, 1) := by decide +kernel
theorem dX12_distOf_71 : decode cX12_distOf 71 = .ok (.invokevirtual 292, 3) := by decide +kernel
theorem dX12_distOf_74 : decode cX12_distOf 74 = .ok (.if_icmp .ge 67, 3) := by decide +kernel
theorem dX12_distOf_77 : decode cX12_distOf 77 = .ok (.aload_n 0, 1) := by decide +kernel
theorem dX12_distOf_78 : decode cX12_distOf 78 = .ok (.getfield 107, 3) := by decide +kernel
theorem dX12_distOf_81 : decode cX12_distOf 81 = .ok (.iload 5, 2) := by decide +kernel
theorem dX12_distOf_83 : decode cX12_distOf 83 = .ok (.iaload, 1) := by decide +kernel
theorem dX12_distOf_84 : decode cX12_distOf 84 = .ok (.iload_n 3, 1) := by decide +kernel
theorem dX12_distOf_85 : decode cX12_distOf 85 = .ok (.ifCond .eq 14, 3) := by decide +kernel
theorem dX12_distOf_88 : decode cX12_distOf 88 = .ok (.aload_n 0, 1) := by decide +kernel
theorem dX12_distOf_89 : decode cX12_distOf 89 = .ok (.iload 5, 2) := by decide +kernel
theorem dX12_distOf_91 : decode cX12_distOf 91 = .ok (.iload 6, 2) := by decide +kernel
theorem dX12_distOf_93 : decode cX12_distOf 93 = .ok (.invokevirtual 341, 3) := by decide +kernel
theorem dX12_distOf_96 : decode cX12_distOf 96 = .ok (.goto 4, 3) := by decide +kernel
theorem dX12_distOf_99 : decode cX12_distOf 99 = .ok (.iconst 1, 1) := by decide +kernel
theorem dX12_distOf_100 : decode cX12_distOf 100 = .ok (.iadd, 1) := by decide +kernel
theorem dX12_distOf_101 : decode cX12_distOf 101 = .ok (.istore 7, 2) := by decide +kernel
theorem dX12_distOf_103 : decode cX12_distOf 103 = .ok (.aload_n 0, 1) := by decide +kernel
theorem dX12_distOf_104 : decode cX12_distOf 104 = .ok (.iload 5, 2) := by decide +kernel
theorem dX12_distOf_106 : decode cX12_distOf 106 = .ok (.iload 6, 2) := by decide +kernel
theorem dX12_distOf_108 : decode cX12_distOf 108 = .ok (.invokevirtual 335, 3) := by decide +kernel
theorem dX12_distOf_111 : decode cX12_distOf 111 = .ok (.ifCond .eq 24, 3) := by decide +kernel
theorem dX12_distOf_114 : decode cX12_distOf 114 = .ok (.iload 7, 2) := by decide +kernel
theorem dX12_distOf_116 : decode cX12_distOf 116 = .ok (.aload_n 0, 1) := by decide +kernel
theorem dX12_distOf_117 : decode cX12_distOf 117 = .ok (.getfield 107, 3) := by decide +kernel
theorem dX12_distOf_120 : decode cX12_distOf 120 = .ok (.iload 6, 2) := by decide +kernel
theorem dX12_distOf_122 : decode cX12_distOf 122 = .ok (.iaload, 1) := by decide +kernel
theorem dX12_distOf_123 : decode cX12_distOf 123 = .ok (.if_icmp .ge 12, 3) := by decide +kernel
theorem dX12_distOf_126 : decode cX12_distOf 126 = .ok (.aload_n 0, 1) := by decide +kernel
theorem dX12_distOf_127 : decode cX12_distOf 127 = .ok (.getfield 107, 3) := by decide +kernel
theorem dX12_distOf_130 : decode cX12_distOf 130 = .ok (.iload 6, 2) := by decide +kernel
theorem dX12_distOf_132 : decode cX12_distOf 132 = .ok (.iload 7, 2) := by decide +kernel
theorem dX12_distOf_134 : decode cX12_distOf 134 = .ok (.iastore, 1) := by decide +kernel
theorem dX12_distOf_135 : decode cX12_distOf 135 = .ok (.iinc 6 1, 3) := by decide +kernel
theorem dX12_distOf_138 : decode cX12_distOf 138 = .ok (.goto (-70), 3) := by decide +kernel
theorem dX12_distOf_141 : decode cX12_distOf 141 = .ok (.iinc 5 1, 3) := by decide +kernel
theorem dX12_distOf_144 : decode cX12_distOf 144 = .ok (.goto (-88), 3) := by decide +kernel
theorem dX12_distOf_147 : decode cX12_distOf 147 = .ok (.iinc 4 1, 3) := by decide +kernel
theorem dX12_distOf_150 : decode cX12_distOf 150 = .ok (.goto (-106), 3) := by decide +kernel
theorem dX12_distOf_153 : decode cX12_distOf 153 = .ok (.aload_n 0, 1) := by decide +kernel
theorem dX12_distOf_154 : decode cX12_distOf 154 = .ok (.getfield 107, 3) := by decide +kernel
theorem dX12_distOf_157 : decode cX12_distOf 157 = .ok (.iload_n 2, 1) := by decide +kernel
theorem dX12_distOf_158 : decode cX12_distOf 158 = .ok (.iaload, 1) := by decide +kernel
theorem dX12_distOf_159 : decode cX12_distOf 159 = .ok (.ldc 172, 2) := by decide +kernel
theorem dX12_distOf_161 : decode cX12_distOf 161 = .ok (.if_icmp .lt 7, 3) := by decide +kernel
theorem dX12_distOf_164 : decode cX12_distOf 164 = .ok (.iconst (-1), 1) := by decide +kernel
theorem dX12_distOf_165 : decode cX12_distOf 165 = .ok (.goto 9, 3) := by decide +kernel
theorem dX12_distOf_168 : decode cX12_distOf 168 = .ok (.aload_n 0, 1) := by decide +kernel
theorem dX12_distOf_169 : decode cX12_distOf 169 = .ok (.getfield 107, 3) := by decide +kernel
theorem dX12_distOf_172 : decode cX12_distOf 172 = .ok (.iload_n 2, 1) := by decide +kernel
theorem dX12_distOf_173 : decode cX12_distOf 173 = .ok (.iaload, 1) := by decide +kernel
theorem dX12_distOf_174 : decode cX12_distOf 174 = .ok (.ireturn, 1) := by decide +kernel
theorem mokX12_distOf : MOK yX12_distOf cX12_distOf 8 (some .int) 3 := ⟨w8_113, w1_13, ⟨by decide, by decide⟩, by decide +kernel, by decide⟩
abbrev miX12_distOf : MI := (yX12_distOf.cls, cX12_distOf, 8, 3, false)
noncomputable def LX12_distOf_1 : Sm Int32 := dLoop (fun f => (sI (sI (sI (sI (sR fr0 0 (gR f 0)) 1 (gI f 1)) 2 (gI f 2)) 3 (gI f 3)) 4 (gI f 4))) (dCI r_lt (vI 4) (dCallV 12 DX12_houses (aR aN 0 (vR 0)))) (d3 (stI 13 idI) (dGR 12 47 (vR 0)) (vI 4) (dT (dCI r_eq (vI 4) (vI 1)) (cI 0) (cI 100000))) (dInc 4 1)
theorem sLX12_distOf_1 {ΓL : Gm} {PB PK : List Nat} : SS (cvoI, .ireturn) miX12_distOf ΓL PB PK [(0, 2), (1, 0), (2, 0), (3, 0), (4, 0)] [(0, 2), (1, 0), (2, 0), (3, 0), (4, 0)] 7 [41] LX12_distOf_1 := t_loop (pT := 16) (pF := 41) (pu := 35) (PB' := []) (PK' := []) (XB := [35]) (XU := [38]) (fun _ _ => rfl) rfl (c_lt_F (pF := 41) (s_iload dX12_distOf_7 rfl) (s_of_xI (x_callV (ts := [(0, 2)]) ck12 rfl kX12_houses mokX12_houses w8_62 ps5_1 rfl rfl rfl rfl (a_R (ts := []) 0 a_nil (s_aload_n dX12_distOf_9 rfl rfl) rfl) dX12_distOf_10 w8_60)) dX12_distOf_13 rfl) (t_stI (s_getR ck12 47 (by decide) rfl (s_aload_n dX12_distOf_16 rfl rfl) dX12_distOf_17 w7_12) (s_iload dX12_distOf_20 rfl) (s_T (pT := 28) (pF := 32) (p1 := 29) (pe := 34) (c_eq_F (pF := 32) (s_iload dX12_distOf_22 rfl) (s_iload_n dX12_distOf_24 rfl rfl) dX12_distOf_25 rfl) (s_iconst dX12_distOf_28 rfl) (s_ldc dX12_distOf_32 w7_197) (ld_goto (y := 34) dX12_distOf_29 rfl (ld_in rfl))) dX12_distOf_34 rfl) (t_iinc dX12_distOf_35 rfl rfl rfl rfl) (lda_cons (ld_in rfl) lda_nil) lda_nil (lda_cons (ld_goto (y := 7) dX12_distOf_38 rfl (ld_in rfl)) lda_nil) (ld_in rfl) lda_nil
noncomputable def LX12_distOf_2 : Sm Int32 := dLoop (fun f => (sI (sI (sI (sI (sI (sI (sR fr0 0 (gR f 0)) 1 (gI f 1)) 2 (gI f 2)) 3 (gI f 3)) 4 (gI f 4)) 5 (gI f 5)) 6 (gI f 6))) (dCI r_lt (vI 6) (dCallV 12 DX12_houses (aR aN 0 (vR 0)))) (dSeq (dSetI 7 (d2 o_iadd (dAI (dGR 12 47 (vR 0)) (vI 5)) (dT (dCZ q_ne (vI 3)) (dCallV 12 DX12_climbOf (aI (aI (aR aN 0 (vR 0)) 1 (vI 5)) 2 (vI 6))) (cI 1)))) (dIf (dAnd (dCZ q_ne (dCallV 12 DX12_isWay (aI (aI (aR aN 0 (vR 0)) 1 (vI 5)) 2 (vI 6)))) (dCI r_lt (vI 7) (dAI (dGR 12 47 (vR 0)) (vI 6)))) (d3 (stI 13 idI) (dGR 12 47 (vR 0)) (vI 6) (vI 7)) dSkip)) (dInc 6 1)
theorem sLX12_distOf_2 {ΓL : Gm} {PB PK : List Nat} : SS (cvoI, .ireturn) miX12_distOf ΓL PB PK [(0, 2), (1, 0), (2, 0), (3, 0), (4, 0), (5, 0), (6, 0)] [(0, 2), (1, 0), (2, 0), (3, 0), (4, 0), (5, 0), (6, 0)] 68 [141] LX12_distOf_2 := t_loop (pT := 77) (pF := 141) (pu := 135) (PB' := []) (PK' := []) (XB := [135]) (XU := [138]) (fun _ _ => rfl) rfl (c_lt_F (pF := 141) (s_iload dX12_distOf_68 rfl) (s_of_xI (x_callV (ts := [(0, 2)]) ck12 rfl kX12_houses mokX12_houses w8_62 ps5_1 rfl rfl rfl rfl (a_R (ts := []) 0 a_nil (s_aload_n dX12_distOf_70 rfl rfl) rfl) dX12_distOf_71 w8_60)) dX12_distOf_74 rfl) (t_sq (p1 := 103) (Γ' := [(0, 2), (1, 0), (2, 0), (3, 0), (4, 0), (5, 0), (6, 0), (7, 0)]) (t_istore (s_iadd (s_dAI (s_getR ck12 47 (by decide) rfl (s_aload_n dX12_distOf_77 rfl rfl) dX12_distOf_78 w7_12) (s_iload dX12_distOf_81 rfl) dX12_distOf_83) (s_T (pT := 88) (pF := 99) (p1 := 96) (pe := 100) (c_ne_ZF (pF := 99) (s_iload_n dX12_distOf_84 rfl rfl) dX12_distOf_85 rfl) (s_of_xI (x_callV (ts := [(0, 2), (1, 0), (2, 0)]) ck12 rfl kX12_climbOf mokX12_climbOf w8_116 ps5_9 rfl rfl rfl rfl (a_I (ts := [(0, 2), (1, 0)]) 2 (a_I (ts := [(0, 2)]) 1 (a_R (ts := []) 0 a_nil (s_aload_n dX12_distOf_88 rfl rfl) rfl) (s_iload dX12_distOf_89 rfl) rfl) (s_iload dX12_distOf_91 rfl) rfl) dX12_distOf_93 w8_114)) (s_iconst dX12_distOf_99 rfl) (ld_goto (y := 100) dX12_distOf_96 rfl (ld_in rfl))) dX12_distOf_100) dX12_distOf_101 rfl rfl) (t_if (pT := 126) (pF := 135) (X := [135]) (XA := [135]) (XB := [135]) (c_and (p1 := 114) (pT := 126) (pF := 135) (c_ne_ZF (pF := 135) (s_of_xI (x_callV (ts := [(0, 2), (1, 0), (2, 0)]) ck12 rfl kX12_isWay mokX12_isWay w8_101 ps5_7 rfl rfl rfl rfl (a_I (ts := [(0, 2), (1, 0)]) 2 (a_I (ts := [(0, 2)]) 1 (a_R (ts := []) 0 a_nil (s_aload_n dX12_distOf_103 rfl rfl) rfl) (s_iload dX12_distOf_104 rfl) rfl) (s_iload dX12_distOf_106 rfl) rfl) dX12_distOf_108 w8_99)) dX12_distOf_111 rfl) (c_lt_F (pF := 135) (s_iload dX12_distOf_114 rfl) (s_dAI (s_getR ck12 47 (by decide) rfl (s_aload_n dX12_distOf_116 rfl rfl) dX12_distOf_117 w7_12) (s_iload dX12_distOf_120 rfl) dX12_distOf_122) dX12_distOf_123 rfl)) (t_stI (s_getR ck12 47 (by decide) rfl (s_aload_n dX12_distOf_126 rfl rfl) dX12_distOf_127 w7_12) (s_iload dX12_distOf_130 rfl) (s_iload dX12_distOf_132 rfl) dX12_distOf_134 rfl) (t_skip (ld_in rfl) rfl) (lda_cons (ld_in rfl) lda_nil) (lda_cons (ld_in rfl) lda_nil))) (t_iinc dX12_distOf_135 rfl rfl rfl rfl) (lda_cons (ld_in rfl) lda_nil) lda_nil (lda_cons (ld_goto (y := 68) dX12_distOf_138 rfl (ld_in rfl)) lda_nil) (ld_in rfl) lda_nil
noncomputable def LX12_distOf_3 : Sm Int32 := dLoop (fun f => (sI (sI (sI (sI (sI (sR fr0 0 (gR f 0)) 1 (gI f 1)) 2 (gI f 2)) 3 (gI f 3)) 4 (gI f 4)) 5 (gI f 5))) (dCI r_lt (vI 5) (dCallV 12 DX12_houses (aR aN 0 (vR 0)))) (dSeq (dSetI 6 (cI 0)) LX12_distOf_2) (dInc 5 1)
theorem sLX12_distOf_3 {ΓL : Gm} {PB PK : List Nat} : SS (cvoI, .ireturn) miX12_distOf ΓL PB PK [(0, 2), (1, 0), (2, 0), (3, 0), (4, 0), (5, 0)] [(0, 2), (1, 0), (2, 0), (3, 0), (4, 0), (5, 0)] 56 [147] LX12_distOf_3 := t_loop (pT := 65) (pF := 147) (pu := 141) (PB' := []) (PK' := []) (XB := [141]) (XU := [144]) (fun _ _ => rfl) rfl (c_lt_F (pF := 147) (s_iload dX12_distOf_56 rfl) (s_of_xI (x_callV (ts := [(0, 2)]) ck12 rfl kX12_houses mokX12_houses w8_62 ps5_1 rfl rfl rfl rfl (a_R (ts := []) 0 a_nil (s_aload_n dX12_distOf_58 rfl rfl) rfl) dX12_distOf_59 w8_60)) dX12_distOf_62 rfl) (t_sq (p1 := 68) (Γ' := [(0, 2), (1, 0), (2, 0), (3, 0), (4, 0), (5, 0), (6, 0)]) (t_istore (s_iconst dX12_distOf_65 rfl) dX12_distOf_66 rfl rfl) (tn_to (Γ' := [(0, 2), (1, 0), (2, 0), (3, 0), (4, 0), (5, 0), (6, 0)]) (XA := [141]) sLX12_distOf_2 (lda_cons (ld_in rfl) lda_nil) rfl)) (t_iinc dX12_distOf_141 rfl rfl rfl rfl) (lda_cons (ld_in rfl) lda_nil) lda_nil (lda_cons (ld_goto (y := 56) dX12_distOf_144 rfl (ld_in rfl)) lda_nil) (ld_in rfl) lda_nil
noncomputable def LX12_distOf_4 : Sm Int32 := dLoop (fun f => (sI (sI (sI (sI (sR fr0 0 (gR f 0)) 1 (gI f 1)) 2 (gI f 2)) 3 (gI f 3)) 4 (gI f 4))) (dCI r_lt (vI 4) (dCallV 12 DX12_houses (aR aN 0 (vR 0)))) (dSeq (dSetI 5 (cI 0)) LX12_distOf_3) (dInc 4 1)
theorem sLX12_distOf_4 {ΓL : Gm} {PB PK : List Nat} : SS (cvoI, .ireturn) miX12_distOf ΓL PB PK [(0, 2), (1, 0), (2, 0), (3, 0), (4, 0)] [(0, 2), (1, 0), (2, 0), (3, 0), (4, 0)] 44 [153] LX12_distOf_4 := t_loop (pT := 53) (pF := 153) (pu := 147) (PB' := []) (PK' := []) (XB := [147]) (XU := [150]) (fun _ _ => rfl) rfl (c_lt_F (pF := 153) (s_iload dX12_distOf_44 rfl) (s_of_xI (x_callV (ts := [(0, 2)]) ck12 rfl kX12_houses mokX12_houses w8_62 ps5_1 rfl rfl rfl rfl (a_R (ts := []) 0 a_nil (s_aload_n dX12_distOf_46 rfl rfl) rfl) dX12_distOf_47 w8_60)) dX12_distOf_50 rfl) (t_sq (p1 := 56) (Γ' := [(0, 2), (1, 0), (2, 0), (3, 0), (4, 0), (5, 0)]) (t_istore (s_iconst dX12_distOf_53 rfl) dX12_distOf_54 rfl rfl) (tn_to (Γ' := [(0, 2), (1, 0), (2, 0), (3, 0), (4, 0), (5, 0)]) (XA := [147]) sLX12_distOf_3 (lda_cons (ld_in rfl) lda_nil) rfl)) (t_iinc dX12_distOf_147 rfl rfl rfl rfl) (lda_cons (ld_in rfl) lda_nil) lda_nil (lda_cons (ld_goto (y := 44) dX12_distOf_150 rfl (ld_in rfl)) lda_nil) (ld_in rfl) lda_nil
noncomputable def BX12_distOf : Sm Int32 := (dSeq (dDo (dCallV 12 DX12_lays (aR aN 0 (vR 0)))) (dSeq (dSeq (dSetI 4 (cI 0)) LX12_distOf_1) (dSeq (dSeq (dSetI 4 (cI 1)) LX12_distOf_4) (dRet (dT (dCI r_ge (dAI (dGR 12 47 (vR 0)) (vI 2)) (cI 100000)) (cI (-1)) (dAI (dGR 12 47 (vR 0)) (vI 2)))))))
theorem sBX12_distOf : SS (cvoI, .ireturn) miX12_distOf [] [] [] [(0, 2), (1, 0), (2, 0), (3, 0)] [(0, 2), (1, 0), (2, 0), (3, 0)] 0 [] BX12_distOf := (t_sq (p1 := 4) (Γ' := [(0, 2), (1, 0), (2, 0), (3, 0)]) (t_do (x_callV (ts := [(0, 2)]) ck12 rfl kX12_lays mokX12_lays w8_97 ps5_6 rfl rfl rfl rfl (a_R (ts := []) 0 a_nil (s_aload_n dX12_distOf_0 rfl rfl) rfl) dX12_distOf_1 w8_95) rfl) (t_sq (p1 := 41) (Γ' := [(0, 2), (1, 0), (2, 0), (3, 0)]) (t_sq (p1 := 7) (Γ' := [(0, 2), (1, 0), (2, 0), (3, 0), (4, 0)]) (t_istore (s_iconst dX12_distOf_4 rfl) dX12_distOf_5 rfl rfl) (tn_to (Γ' := [(0, 2), (1, 0), (2, 0), (3, 0), (4, 0)]) (XA := [41]) sLX12_distOf_1 (lda_cons (ld_in rfl) lda_nil) rfl)) (t_sq (p1 := 153) (Γ' := [(0, 2), (1, 0), (2, 0), (3, 0)]) (t_sq (p1 := 44) (Γ' := [(0, 2), (1, 0), (2, 0), (3, 0), (4, 0)]) (t_istore (s_iconst dX12_distOf_41 rfl) dX12_distOf_42 rfl rfl) (tn_to (Γ' := [(0, 2), (1, 0), (2, 0), (3, 0), (4, 0)]) (XA := [153]) sLX12_distOf_4 (lda_cons (ld_in rfl) lda_nil) rfl)) (t_ret (cv := cvI) (fun _ _ => rfl) (s_T (pT := 164) (pF := 168) (p1 := 165) (pe := 174) (c_ge_F (pF := 168) (s_dAI (s_getR ck12 47 (by decide) rfl (s_aload_n dX12_distOf_153 rfl rfl) dX12_distOf_154 w7_12) (s_iload_n dX12_distOf_157 rfl rfl) dX12_distOf_158) (s_ldc dX12_distOf_159 w7_197) dX12_distOf_161 rfl) (s_iconst dX12_distOf_164 rfl) (s_dAI (s_getR ck12 47 (by decide) rfl (s_aload_n dX12_distOf_168 rfl rfl) dX12_distOf_169 w7_12) (s_iload_n dX12_distOf_172 rfl rfl) dX12_distOf_173) (ld_goto (y := 174) dX12_distOf_165 rfl (ld_in rfl))) dX12_distOf_174))))
noncomputable def DX12_distOf : Fr → St → Option (Int32 × St) := M1 (fun f => (sI (sI (sI (sR fr0 0 (gR f 0)) 1 (gI f 1)) 2 (gI f 2)) 3 (gI f 3))) BX12_distOf
theorem kX12_distOf : SND yX12_distOf cX12_distOf 8 (some .int) 3 [(0, 2), (1, 0), (2, 0), (3, 0)] cvoI DX12_distOf := snd_I (nw := 4) (by decide) rfl rfl (fun _ _ => rfl) sBX12_distOf
theorem dX12_far_0 : decode cX12_far 0 = .ok (.aload_n 0, 1) := by decide +kernel
theorem dX12_far_1 : decode cX12_far 1 = .ok (.iconst 0, 1) := by decide +kernel
theorem dX12_far_2 : decode cX12_far 2 = .ok (.putfield 122, 3) := by decide +kernel
theorem dX12_far_5 : decode cX12_far 5 = .ok (.aload_n 0, 1) := by decide +kernel
theorem dX12_far_6 : decode cX12_far 6 = .ok (.iload_n 1, 1) := by decide +kernel
theorem dX12_far_7 : decode cX12_far 7 = .ok (.i2l, 1) := by decide +kernel
theorem dX12_far_8 : decode cX12_far 8 = .ok (.invokevirtual 307, 3) := by decide +kernel
theorem dX12_far_11 : decode cX12_far 11 = .ok (.ifCond .eq 22, 3) := by decide +kernel
theorem dX12_far_14 : decode cX12_far 14 = .ok (.aload_n 0, 1) := by decide +kernel
theorem dX12_far_15 : decode cX12_far 15 = .ok (.iload_n 2, 1) := by decide +kernel
theorem dX12_far_16 : decode cX12_far 16 = .ok (.i2l, 1) := by decide +kernel
theorem dX12_far_17 : decode cX12_far 17 = .ok (.invokevirtual 307, 3) := by decide +kernel
theorem dX12_far_20 : decode cX12_far 20 = .ok (.ifCond .eq 13, 3) := by decide +kernel
theorem dX12_far_23 : decode cX12_far 23 = .ok (.aload_n 0, 1) := by decide +kernel
theorem dX12_far_24 : decode cX12_far 24 = .ok (.iload_n 1, 1) := by decide +kernel
theorem dX12_far_25 : decode cX12_far 25 = .ok (.iload_n 2, 1) := by decide +kernel
theorem dX12_far_26 : decode cX12_far 26 = .ok (.iconst 0, 1) := by decide +kernel
theorem dX12_far_27 : decode cX12_far 27 = .ok (.invokevirtual 375, 3) := by decide +kernel
theorem dX12_far_30 : decode cX12_far 30 = .ok (.goto 5, 3) := by decide +kernel
theorem dX12_far_33 : decode cX12_far 33 = .ok (.bipush (-2), 2) := by decide +kernel
theorem dX12_far_35 : decode cX12_far 35 = .ok (.ireturn, 1) := by decide +kernel
theorem mokX12_far : MOK yX12_far cX12_far 3 (some .int) 2 := ⟨w8_109, w1_13, ⟨by decide, by decide⟩, by decide +kernel, by decide⟩
abbrev miX12_far : MI := (yX12_far.cls, cX12_far, 3, 4, false)
noncomputable def BX12_far : Sm Int32 := (dSeq (dP (fI 12 0) (vR 0) (cI 0)) (dRet (dT (dAnd (dCZ q_ne (dCallV 12 DX12_isHouse (aL (aR aN 0 (vR 0)) 1 (d1 o_i2l (vI 1))))) (dCZ q_ne (dCallV 12 DX12_isHouse (aL (aR aN 0 (vR 0)) 1 (d1 o_i2l (vI 2)))))) (dCallV 12 DX12_distOf (aI (aI (aI (aR aN 0 (vR 0)) 1 (vI 1)) 2 (vI 2)) 3 (cI 0))) (cI (-2)))))
theorem sBX12_far : SS (cvoI, .ireturn) miX12_far [] [] [] [(0, 2), (1, 0), (2, 0)] [(0, 2), (1, 0), (2, 0)] 0 [] BX12_far := (t_sq (p1 := 5) (Γ' := [(0, 2), (1, 0), (2, 0)]) (t_pI ck12 0 (by decide) rfl (Or.inl rfl) (s_aload_n dX12_far_0 rfl rfl) (s_iconst dX12_far_1 rfl) dX12_far_2 w6_205 rfl) (t_ret (cv := cvI) (fun _ _ => rfl) (s_T (pT := 23) (pF := 33) (p1 := 30) (pe := 35) (c_and (p1 := 14) (pT := 23) (pF := 33) (c_ne_ZF (pF := 33) (s_of_xI (x_callV (ts := [(0, 2), (1, 1)]) ck12 rfl kX12_isHouse mokX12_isHouse w8_58 ps5_0 rfl rfl rfl rfl (a_L (ts := [(0, 2)]) 1 (a_R (ts := []) 0 a_nil (s_aload_n dX12_far_5 rfl rfl) rfl) (s_i2l (s_iload_n dX12_far_6 rfl rfl) dX12_far_7) rfl) dX12_far_8 w8_56)) dX12_far_11 rfl) (c_ne_ZF (pF := 33) (s_of_xI (x_callV (ts := [(0, 2), (1, 1)]) ck12 rfl kX12_isHouse mokX12_isHouse w8_58 ps5_0 rfl rfl rfl rfl (a_L (ts := [(0, 2)]) 1 (a_R (ts := []) 0 a_nil (s_aload_n dX12_far_14 rfl rfl) rfl) (s_i2l (s_iload_n dX12_far_15 rfl rfl) dX12_far_16) rfl) dX12_far_17 w8_56)) dX12_far_20 rfl)) (s_of_xI (x_callV (ts := [(0, 2), (1, 0), (2, 0), (3, 0)]) ck12 rfl kX12_distOf mokX12_distOf w8_112 ps5_8 rfl rfl rfl rfl (a_I (ts := [(0, 2), (1, 0), (2, 0)]) 3 (a_I (ts := [(0, 2), (1, 0)]) 2 (a_I (ts := [(0, 2)]) 1 (a_R (ts := []) 0 a_nil (s_aload_n dX12_far_23 rfl rfl) rfl) (s_iload_n dX12_far_24 rfl rfl) rfl) (s_iload_n dX12_far_25 rfl rfl) rfl) (s_iconst dX12_far_26 rfl) rfl) dX12_far_27 w8_110)) (s_bipush dX12_far_33 rfl) (ld_goto (y := 35) dX12_far_30 rfl (ld_in rfl))) dX12_far_35))
noncomputable def DX12_far : Fr → St → Option (Int32 × St) := M1 (fun f => (sI (sI (sR fr0 0 (gR f 0)) 1 (gI f 1)) 2 (gI f 2))) BX12_far
theorem kX12_far : SND yX12_far cX12_far 3 (some .int) 4 [(0, 2), (1, 0), (2, 0)] cvoI DX12_far := snd_I (nw := 3) (by decide) rfl rfl (fun _ _ => rfl) sBX12_far
theorem dX12_climb_0 : decode cX12_climb 0 = .ok (.aload_n 0, 1) := by decide +kernel
theorem dX12_climb_1 : decode cX12_climb 1 = .ok (.iconst 0, 1) := by decide +kernel
theorem dX12_climb_2 : decode cX12_climb 2 = .ok (.putfield 122, 3) := by decide +kernel
theorem dX12_climb_5 : decode cX12_climb 5 = .ok (.aload_n 0, 1) := by decide +kernel
theorem dX12_climb_6 : decode cX12_climb 6 = .ok (.iload_n 1, 1) := by decide +kernel
theorem dX12_climb_7 : decode cX12_climb 7 = .ok (.i2l, 1) := by decide +kernel
theorem dX12_climb_8 : decode cX12_climb 8 = .ok (.invokevirtual 307, 3) := by decide +kernel
theorem dX12_climb_11 : decode cX12_climb 11 = .ok (.ifCond .eq 22, 3) := by decide +kernel
theorem dX12_climb_14 : decode cX12_climb 14 = .ok (.aload_n 0, 1) := by decide +kernel
theorem dX12_climb_15 : decode cX12_climb 15 = .ok (.iload_n 2, 1) := by decide +kernel
theorem dX12_climb_16 : decode cX12_climb 16 = .ok (.i2l, 1) := by decide +kernel
theorem dX12_climb_17 : decode cX12_climb 17 = .ok (.invokevirtual 307, 3) := by decide +kernel
theorem dX12_climb_20 : decode cX12_climb 20 = .ok (.ifCond .eq 13, 3) := by decide +kernel
theorem dX12_climb_23 : decode cX12_climb 23 = .ok (.aload_n 0, 1) := by decide +kernel
theorem dX12_climb_24 : decode cX12_climb 24 = .ok (.iload_n 1, 1) := by decide +kernel
theorem dX12_climb_25 : decode cX12_climb 25 = .ok (.iload_n 2, 1) := by decide +kernel
theorem dX12_climb_26 : decode cX12_climb 26 = .ok (.iconst 1, 1) := by decide +kernel
theorem dX12_climb_27 : decode cX12_climb 27 = .ok (.invokevirtual 375, 3) := by decide +kernel
theorem dX12_climb_30 : decode cX12_climb 30 = .ok (.goto 5, 3) := by decide +kernel
theorem dX12_climb_33 : decode cX12_climb 33 = .ok (.bipush (-2), 2) := by decide +kernel
theorem dX12_climb_35 : decode cX12_climb 35 = .ok (.ireturn, 1) := by decide +kernel
theorem mokX12_climb : MOK yX12_climb cX12_climb 3 (some .int) 2 := ⟨w8_121, w1_13, ⟨by decide, by decide⟩, by decide +kernel, by decide⟩
abbrev miX12_climb : MI := (yX12_climb.cls, cX12_climb, 3, 4, false)
noncomputable def BX12_climb : Sm Int32 := (dSeq (dP (fI 12 0) (vR 0) (cI 0)) (dRet (dT (dAnd (dCZ q_ne (dCallV 12 DX12_isHouse (aL (aR aN 0 (vR 0)) 1 (d1 o_i2l (vI 1))))) (dCZ q_ne (dCallV 12 DX12_isHouse (aL (aR aN 0 (vR 0)) 1 (d1 o_i2l (vI 2)))))) (dCallV 12 DX12_distOf (aI (aI (aI (aR aN 0 (vR 0)) 1 (vI 1)) 2 (vI 2)) 3 (cI 1))) (cI (-2)))))
theorem sBX12_climb : SS (cvoI, .ireturn) miX12_climb [] [] [] [(0, 2), (1, 0), (2, 0)] [(0, 2), (1, 0), (2, 0)] 0 [] BX12_climb := (t_sq (p1 := 5) (Γ' := [(0, 2), (1, 0), (2, 0)]) (t_pI ck12 0 (by decide) rfl (Or.inl rfl) (s_aload_n dX12_climb_0 rfl rfl) (s_iconst dX12_climb_1 rfl) dX12_climb_2 w6_205 rfl) (t_ret (cv := cvI) (fun _ _ => rfl) (s_T (pT := 23) (pF := 33) (p1 := 30) (pe := 35) (c_and (p1 := 14) (pT := 23) (pF := 33) (c_ne_ZF (pF := 33) (s_of_xI (x_callV (ts := [(0, 2), (1, 1)]) ck12 rfl kX12_isHouse mokX12_isHouse w8_58 ps5_0 rfl rfl rfl rfl (a_L (ts := [(0, 2)]) 1 (a_R (ts := []) 0 a_nil (s_aload_n dX12_climb_5 rfl rfl) rfl) (s_i2l (s_iload_n dX12_climb_6 rfl rfl) dX12_climb_7) rfl) dX12_climb_8 w8_56)) dX12_climb_11 rfl) (c_ne_ZF (pF := 33) (s_of_xI (x_callV (ts := [(0, 2), (1, 1)]) ck12 rfl kX12_isHouse mokX12_isHouse w8_58 ps5_0 rfl rfl rfl rfl (a_L (ts := [(0, 2)]) 1 (a_R (ts := []) 0 a_nil (s_aload_n dX12_climb_14 rfl rfl) rfl) (s_i2l (s_iload_n dX12_climb_15 rfl rfl) dX12_climb_16) rfl) dX12_climb_17 w8_56)) dX12_climb_20 rfl)) (s_of_xI (x_callV (ts := [(0, 2), (1, 0), (2, 0), (3, 0)]) ck12 rfl kX12_distOf mokX12_distOf w8_112 ps5_8 rfl rfl rfl rfl (a_I (ts := [(0, 2), (1, 0), (2, 0)]) 3 (a_I (ts := [(0, 2), (1, 0)]) 2 (a_I (ts := [(0, 2)]) 1 (a_R (ts := []) 0 a_nil (s_aload_n dX12_climb_23 rfl rfl) rfl) (s_iload_n dX12_climb_24 rfl rfl) rfl) (s_iload_n dX12_climb_25 rfl rfl) rfl) (s_iconst dX12_climb_26 rfl) rfl) dX12_climb_27 w8_110)) (s_bipush dX12_climb_33 rfl) (ld_goto (y := 35) dX12_climb_30 rfl (ld_in rfl))) dX12_climb_35))
noncomputable def DX12_climb : Fr → St → Option (Int32 × St) := M1 (fun f => (sI (sI (sR fr0 0 (gR f 0)) 1 (gI f 1)) 2 (gI f 2))) BX12_climb
theorem kX12_climb : SND yX12_climb cX12_climb 3 (some .int) 4 [(0, 2), (1, 0), (2, 0)] cvoI DX12_climb := snd_I (nw := 3) (by decide) rfl rfl (fun _ _ => rfl) sBX12_climb
theorem dX12_at_0 : decode cX12_at 0 = .ok (.aload_n 0, 1) := by decide +kernel
theorem dX12_at_1 : decode cX12_at 1 = .ok (.iconst 0, 1) := by decide +kernel
theorem dX12_at_2 : decode cX12_at 2 = .ok (.putfield 122, 3) := by decide +kernel
theorem dX12_at_5 : decode cX12_at 5 = .ok (.aload_n 0, 1) := by decide +kernel
theorem dX12_at_6 : decode cX12_at 6 = .ok (.iload_n 1, 1) := by decide +kernel
theorem dX12_at_7 : decode cX12_at 7 = .ok (.invokevirtual 366, 3) := by decide +kernel
theorem dX12_at_10 : decode cX12_at 10 = .ok (.ifCond .eq 12, 3) := by decide +kernel
theorem dX12_at_13 : decode cX12_at 13 = .ok (.aload_n 0, 1) := by decide +kernel
theorem dX12_at_14 : decode cX12_at 14 = .ok (.iload_n 2, 1) := by decide +kernel
theorem dX12_at_15 : decode cX12_at 15 = .ok (.i2l, 1) := by decide +kernel
theorem dX12_at_16 : decode cX12_at 16 = .ok (.invokevirtual 379, 3) := by decide +kernel
theorem dX12_at_19 : decode cX12_at 19 = .ok (.ifCond .ne 6, 3) := by decide +kernel
theorem dX12_at_22 : decode cX12_at 22 = .ok (.bipush (-2), 2) := by decide +kernel
theorem dX12_at_24 : decode cX12_at 24 = .ok (.ireturn, 1) := by decide +kernel
theorem dX12_at_25 : decode cX12_at 25 = .ok (.aload_n 0, 1) := by decide +kernel
theorem dX12_at_26 : decode cX12_at 26 = .ok (.invokevirtual 382, 3) := by decide +kernel
theorem dX12_at_29 : decode cX12_at 29 = .ok (.aload_n 0, 1) := by decide +kernel
theorem dX12_at_30 : decode cX12_at 30 = .ok (.getfield 71, 3) := by decide +kernel
theorem dX12_at_33 : decode cX12_at 33 = .ok (.iconst 5, 1) := by decide +kernel
theorem dX12_at_34 : decode cX12_at 34 = .ok (.iload_n 2, 1) := by decide +kernel
theorem dX12_at_35 : decode cX12_at 35 = .ok (.imul, 1) := by decide +kernel
theorem dX12_at_36 : decode cX12_at 36 = .ok (.iload_n 1, 1) := by decide +kernel
theorem dX12_at_37 : decode cX12_at 37 = .ok (.iadd, 1) := by decide +kernel
theorem dX12_at_38 : decode cX12_at 38 = .ok (.iaload, 1) := by decide +kernel
theorem dX12_at_39 : decode cX12_at 39 = .ok (.ireturn, 1) := by decide +kernel
theorem mokX12_at : MOK yX12_at cX12_at 3 (some .int) 2 := ⟨w8_125, w1_13, ⟨by decide, by decide⟩, by decide +kernel, by decide⟩
abbrev miX12_at : MI := (yX12_at.cls, cX12_at, 3, 6, false)
noncomputable def BX12_at : Sm Int32 := (dSeq (dP (fI 12 0) (vR 0) (cI 0)) (dSeq (dIf (dOr (dNot (dCZ q_ne (dCallV 12 DX12_isCarrier (aI (aR aN 0 (vR 0)) 1 (vI 1))))) (dNot (dCZ q_ne (dCallV 12 DX12_isDay (aL (aR aN 0 (vR 0)) 1 (d1 o_i2l (vI 2))))))) (dRet (cI (-2))) dSkip) (dSeq (dDo (dCallV 12 DX12_laysNow (aR aN 0 (vR 0)))) (dRet (dAI (dGR 12 33 (vR 0)) (d2 o_iadd (d2 o_imul (cI 5) (vI 2)) (vI 1)))))))
theorem sBX12_at : SS (cvoI, .ireturn) miX12_at [] [] [] [(0, 2), (1, 0), (2, 0)] [(0, 2), (1, 0), (2, 0)] 0 [] BX12_at := (t_sq (p1 := 5) (Γ' := [(0, 2), (1, 0), (2, 0)]) (t_pI ck12 0 (by decide) rfl (Or.inl rfl) (s_aload_n dX12_at_0 rfl rfl) (s_iconst dX12_at_1 rfl) dX12_at_2 w6_205 rfl) (t_sq (p1 := 25) (Γ' := [(0, 2), (1, 0), (2, 0)]) (t_if (pT := 22) (pF := 25) (X := [25]) (XA := []) (XB := [25]) (c_or (p1 := 13) (pT := 22) (pF := 25) (c_not (pT := 22) (pF := 13) (c_ne_ZF (pF := 22) (s_of_xI (x_callV (ts := [(0, 2), (1, 0)]) ck12 rfl kX12_isCarrier mokX12_isCarrier w8_70 ps5_2 rfl rfl rfl rfl (a_I (ts := [(0, 2)]) 1 (a_R (ts := []) 0 a_nil (s_aload_n dX12_at_5 rfl rfl) rfl) (s_iload_n dX12_at_6 rfl rfl) rfl) dX12_at_7 w8_68)) dX12_at_10 rfl)) (c_not (pT := 22) (pF := 25) (c_ne_ZJ (pT := 25) (s_of_xI (x_callV (ts := [(0, 2), (1, 1)]) ck12 rfl kX12_isDay mokX12_isDay w8_128 ps5_10 rfl rfl rfl rfl (a_L (ts := [(0, 2)]) 1 (a_R (ts := []) 0 a_nil (s_aload_n dX12_at_13 rfl rfl) rfl) (s_i2l (s_iload_n dX12_at_14 rfl rfl) dX12_at_15) rfl) dX12_at_16 w8_126)) dX12_at_19 rfl))) (t_ret (cv := cvI) (fun _ _ => rfl) (s_bipush dX12_at_22 rfl) dX12_at_24) (t_skip (ld_in rfl) rfl) lda_nil (lda_cons (ld_in rfl) lda_nil)) (t_sq (p1 := 29) (Γ' := [(0, 2), (1, 0), (2, 0)]) (t_do (x_callV (ts := [(0, 2)]) ck12 rfl kX12_laysNow mokX12_laysNow w8_140 ps5_13 rfl rfl rfl rfl (a_R (ts := []) 0 a_nil (s_aload_n dX12_at_25 rfl rfl) rfl) dX12_at_26 w8_138) rfl) (t_ret (cv := cvI) (fun _ _ => rfl) (s_dAI (s_getR ck12 33 (by decide) rfl (s_aload_n dX12_at_29 rfl rfl) dX12_at_30 w6_238) (s_iadd (s_imul (s_iconst dX12_at_33 rfl) (s_iload_n dX12_at_34 rfl rfl) dX12_at_35) (s_iload_n dX12_at_36 rfl rfl) dX12_at_37) dX12_at_38) dX12_at_39))))
noncomputable def DX12_at : Fr → St → Option (Int32 × St) := M1 (fun f => (sI (sI (sR fr0 0 (gR f 0)) 1 (gI f 1)) 2 (gI f 2))) BX12_at
theorem kX12_at : SND yX12_at cX12_at 3 (some .int) 6 [(0, 2), (1, 0), (2, 0)] cvoI DX12_at := snd_I (nw := 3) (by decide) rfl rfl (fun _ _ => rfl) sBX12_at
theorem dX12_lies_0 : decode cX12_lies 0 = .ok (.aload_n 0, 1) := by decide +kernel
theorem dX12_lies_1 : decode cX12_lies 1 = .ok (.iconst 0, 1) := by decide +kernel
theorem dX12_lies_2 : decode cX12_lies 2 = .ok (.putfield 122, 3) := by decide +kernel
theorem dX12_lies_5 : decode cX12_lies 5 = .ok (.aload_n 0, 1) := by decide +kernel
theorem dX12_lies_6 : decode cX12_lies 6 = .ok (.iload_n 1, 1) := by decide +kernel
theorem dX12_lies_7 : decode cX12_lies 7 = .ok (.invokevirtual 372, 3) := by decide +kernel
theorem dX12_lies_10 : decode cX12_lies 10 = .ok (.ifCond .eq 12, 3) := by decide +kernel
theorem dX12_lies_13 : decode cX12_lies 13 = .ok (.aload_n 0, 1) := by decide +kernel
theorem dX12_lies_14 : decode cX12_lies 14 = .ok (.iload_n 2, 1) := by decide +kernel
theorem dX12_lies_15 : decode cX12_lies 15 = .ok (.i2l, 1) := by decide +kernel
theorem dX12_lies_16 : decode cX12_lies 16 = .ok (.invokevirtual 379, 3) := by decide +kernel
theorem dX12_lies_19 : decode cX12_lies 19 = .ok (.ifCond .ne 6, 3) := by decide +kernel
theorem dX12_lies_22 : decode cX12_lies 22 = .ok (.bipush (-2), 2) := by decide +kernel
theorem dX12_lies_24 : decode cX12_lies 24 = .ok (.ireturn, 1) := by decide +kernel
theorem dX12_lies_25 : decode cX12_lies 25 = .ok (.aload_n 0, 1) := by decide +kernel
theorem dX12_lies_26 : decode cX12_lies 26 = .ok (.invokevirtual 382, 3) := by decide +kernel
theorem dX12_lies_29 : decode cX12_lies 29 = .ok (.aload_n 0, 1) := by decide +kernel
theorem dX12_lies_30 : decode cX12_lies 30 = .ok (.getfield 74, 3) := by decide +kernel
theorem dX12_lies_33 : decode cX12_lies 33 = .ok (.iconst 3, 1) := by decide +kernel
theorem dX12_lies_34 : decode cX12_lies 34 = .ok (.iload_n 2, 1) := by decide +kernel
theorem dX12_lies_35 : decode cX12_lies 35 = .ok (.imul, 1) := by decide +kernel
theorem dX12_lies_36 : decode cX12_lies 36 = .ok (.iload_n 1, 1) := by decide +kernel
theorem dX12_lies_37 : decode cX12_lies 37 = .ok (.iadd, 1) := by decide +kernel
theorem dX12_lies_38 : decode cX12_lies 38 = .ok (.iaload, 1) := by decide +kernel
theorem dX12_lies_39 : decode cX12_lies 39 = .ok (.ireturn, 1) := by decide +kernel
theorem mokX12_lies : MOK yX12_lies cX12_lies 3 (some .int) 2 := ⟨w8_177, w1_13, ⟨by decide, by decide⟩, by decide +kernel, by decide⟩
abbrev miX12_lies : MI := (yX12_lies.cls, cX12_lies, 3, 6, false)
noncomputable def BX12_lies : Sm Int32 := (dSeq (dP (fI 12 0) (vR 0) (cI 0)) (dSeq (dIf (dOr (dNot (dCZ q_ne (dCallV 12 DX12_isSlate (aI (aR aN 0 (vR 0)) 1 (vI 1))))) (dNot (dCZ q_ne (dCallV 12 DX12_isDay (aL (aR aN 0 (vR 0)) 1 (d1 o_i2l (vI 2))))))) (dRet (cI (-2))) dSkip) (dSeq (dDo (dCallV 12 DX12_laysNow (aR aN 0 (vR 0)))) (dRet (dAI (dGR 12 34 (vR 0)) (d2 o_iadd (d2 o_imul (cI 3) (vI 2)) (vI 1)))))))
theorem sBX12_lies : SS (cvoI, .ireturn) miX12_lies [] [] [] [(0, 2), (1, 0), (2, 0)] [(0, 2), (1, 0), (2, 0)] 0 [] BX12_lies := (t_sq (p1 := 5) (Γ' := [(0, 2), (1, 0), (2, 0)]) (t_pI ck12 0 (by decide) rfl (Or.inl rfl) (s_aload_n dX12_lies_0 rfl rfl) (s_iconst dX12_lies_1 rfl) dX12_lies_2 w6_205 rfl) (t_sq (p1 := 25) (Γ' := [(0, 2), (1, 0), (2, 0)]) (t_if (pT := 22) (pF := 25) (X := [25]) (XA := []) (XB := [25]) (c_or (p1 := 13) (pT := 22) (pF := 25) (c_not (pT := 22) (pF := 13) (c_ne_ZF (pF := 22) (s_of_xI (x_callV (ts := [(0, 2), (1, 0)]) ck12 rfl kX12_isSlate mokX12_isSlate w8_85 ps5_4 rfl rfl rfl rfl (a_I (ts := [(0, 2)]) 1 (a_R (ts := []) 0 a_nil (s_aload_n dX12_lies_5 rfl rfl) rfl) (s_iload_n dX12_lies_6 rfl rfl) rfl) dX12_lies_7 w8_83)) dX12_lies_10 rfl)) (c_not (pT := 22) (pF := 25) (c_ne_ZJ (pT := 25) (s_of_xI (x_callV (ts := [(0, 2), (1, 1)]) ck12 rfl kX12_isDay mokX12_isDay w8_128 ps5_10 rfl rfl rfl rfl (a_L (ts := [(0, 2)]) 1 (a_R (ts := []) 0 a_nil (s_aload_n dX12_lies_13 rfl rfl) rfl) (s_i2l (s_iload_n dX12_lies_14 rfl rfl) dX12_lies_15) rfl) dX12_lies_16 w8_126)) dX12_lies_19 rfl))) (t_ret (cv := cvI) (fun _ _ => rfl) (s_bipush dX12_lies_22 rfl) dX12_lies_24) (t_skip (ld_in rfl) rfl) lda_nil (lda_cons (ld_in rfl) lda_nil)) (t_sq (p1 := 29) (Γ' := [(0, 2), (1, 0), (2, 0)]) (t_do (x_callV (ts := [(0, 2)]) ck12 rfl kX12_laysNow mokX12_laysNow w8_140 ps5_13 rfl rfl rfl rfl (a_R (ts := []) 0 a_nil (s_aload_n dX12_lies_25 rfl rfl) rfl) dX12_lies_26 w8_138) rfl) (t_ret (cv := cvI) (fun _ _ => rfl) (s_dAI (s_getR ck12 34 (by decide) rfl (s_aload_n dX12_lies_29 rfl rfl) dX12_lies_30 w6_239) (s_iadd (s_imul (s_iconst dX12_lies_33 rfl) (s_iload_n dX12_lies_34 rfl rfl) dX12_lies_35) (s_iload_n dX12_lies_36 rfl rfl) dX12_lies_37) dX12_lies_38) dX12_lies_39))))
noncomputable def DX12_lies : Fr → St → Option (Int32 × St) := M1 (fun f => (sI (sI (sR fr0 0 (gR f 0)) 1 (gI f 1)) 2 (gI f 2))) BX12_lies
theorem kX12_lies : SND yX12_lies cX12_lies 3 (some .int) 6 [(0, 2), (1, 0), (2, 0)] cvoI DX12_lies := snd_I (nw := 3) (by decide) rfl rfl (fun _ _ => rfl) sBX12_lies
theorem dX12_left_0 : decode cX12_left 0 = .ok (.aload_n 0, 1) := by decide +kernel
theorem dX12_left_1 : decode cX12_left 1 = .ok (.iconst 0, 1) := by decide +kernel
theorem dX12_left_2 : decode cX12_left 2 = .ok (.putfield 122, 3) := by decide +kernel
theorem dX12_left_5 : decode cX12_left 5 = .ok (.aload_n 0, 1) := by decide +kernel
theorem dX12_left_6 : decode cX12_left 6 = .ok (.iload_n 1, 1) := by decide +kernel
theorem dX12_left_7 : decode cX12_left 7 = .ok (.invokevirtual 372, 3) := by decide +kernel
theorem dX12_left_10 : decode cX12_left 10 = .ok (.ifCond .eq 12, 3) := by decide +kernel
theorem dX12_left_13 : decode cX12_left 13 = .ok (.aload_n 0, 1) := by decide +kernel
theorem dX12_left_14 : decode cX12_left 14 = .ok (.iload_n 2, 1) := by decide +kernel
theorem dX12_left_15 : decode cX12_left 15 = .ok (.i2l, 1) := by decide +kernel
theorem dX12_left_16 : decode cX12_left 16 = .ok (.invokevirtual 379, 3) := by decide +kernel
theorem dX12_left_19 : decode cX12_left 19 = .ok (.ifCond .ne 6, 3) := by decide +kernel
theorem dX12_left_22 : decode cX12_left 22 = .ok (.bipush (-2), 2) := by decide +kernel
theorem dX12_left_24 : decode cX12_left 24 = .ok (.ireturn, 1) := by decide +kernel
theorem dX12_left_25 : decode cX12_left 25 = .ok (.aload_n 0, 1) := by decide +kernel
theorem dX12_left_26 : decode cX12_left 26 = .ok (.invokevirtual 382, 3) := by decide +kernel
theorem dX12_left_29 : decode cX12_left 29 = .ok (.aload_n 0, 1) := by decide +kernel
theorem dX12_left_30 : decode cX12_left 30 = .ok (.getfield 77, 3) := by decide +kernel
theorem dX12_left_33 : decode cX12_left 33 = .ok (.iconst 3, 1) := by decide +kernel
theorem dX12_left_34 : decode cX12_left 34 = .ok (.iload_n 2, 1) := by decide +kernel
theorem dX12_left_35 : decode cX12_left 35 = .ok (.imul, 1) := by decide +kernel
theorem dX12_left_36 : decode cX12_left 36 = .ok (.iload_n 1, 1) := by decide +kernel
theorem dX12_left_37 : decode cX12_left 37 = .ok (.iadd, 1) := by decide +kernel
theorem dX12_left_38 : decode cX12_left 38 = .ok (.iaload, 1) := by decide +kernel
theorem dX12_left_39 : decode cX12_left 39 = .ok (.ireturn, 1) := by decide +kernel
theorem mokX12_left : MOK yX12_left cX12_left 3 (some .int) 2 := ⟨w8_181, w1_13, ⟨by decide, by decide⟩, by decide +kernel, by decide⟩
abbrev miX12_left : MI := (yX12_left.cls, cX12_left, 3, 6, false)
noncomputable def BX12_left : Sm Int32 := (dSeq (dP (fI 12 0) (vR 0) (cI 0)) (dSeq (dIf (dOr (dNot (dCZ q_ne (dCallV 12 DX12_isSlate (aI (aR aN 0 (vR 0)) 1 (vI 1))))) (dNot (dCZ q_ne (dCallV 12 DX12_isDay (aL (aR aN 0 (vR 0)) 1 (d1 o_i2l (vI 2))))))) (dRet (cI (-2))) dSkip) (dSeq (dDo (dCallV 12 DX12_laysNow (aR aN 0 (vR 0)))) (dRet (dAI (dGR 12 35 (vR 0)) (d2 o_iadd (d2 o_imul (cI 3) (vI 2)) (vI 1)))))))
theorem sBX12_left : SS (cvoI, .ireturn) miX12_left [] [] [] [(0, 2), (1, 0), (2, 0)] [(0, 2), (1, 0), (2, 0)] 0 [] BX12_left := (t_sq (p1 := 5) (Γ' := [(0, 2), (1, 0), (2, 0)]) (t_pI ck12 0 (by decide) rfl (Or.inl rfl) (s_aload_n dX12_left_0 rfl rfl) (s_iconst dX12_left_1 rfl) dX12_left_2 w6_205 rfl) (t_sq (p1 := 25) (Γ' := [(0, 2), (1, 0), (2, 0)]) (t_if (pT := 22) (pF := 25) (X := [25]) (XA := []) (XB := [25]) (c_or (p1 := 13) (pT := 22) (pF := 25) (c_not (pT := 22) (pF := 13) (c_ne_ZF (pF := 22) (s_of_xI (x_callV (ts := [(0, 2), (1, 0)]) ck12 rfl kX12_isSlate mokX12_isSlate w8_85 ps5_4 rfl rfl rfl rfl (a_I (ts := [(0, 2)]) 1 (a_R (ts := []) 0 a_nil (s_aload_n dX12_left_5 rfl rfl) rfl) (s_iload_n dX12_left_6 rfl rfl) rfl) dX12_left_7 w8_83)) dX12_left_10 rfl)) (c_not (pT := 22) (pF := 25) (c_ne_ZJ (pT := 25) (s_of_xI (x_callV (ts := [(0, 2), (1, 1)]) ck12 rfl kX12_isDay mokX12_isDay w8_128 ps5_10 rfl rfl rfl rfl (a_L (ts := [(0, 2)]) 1 (a_R (ts := []) 0 a_nil (s_aload_n dX12_left_13 rfl rfl) rfl) (s_i2l (s_iload_n dX12_left_14 rfl rfl) dX12_left_15) rfl) dX12_left_16 w8_126)) dX12_left_19 rfl))) (t_ret (cv := cvI) (fun _ _ => rfl) (s_bipush dX12_left_22 rfl) dX12_left_24) (t_skip (ld_in rfl) rfl) lda_nil (lda_cons (ld_in rfl) lda_nil)) (t_sq (p1 := 29) (Γ' := [(0, 2), (1, 0), (2, 0)]) (t_do (x_callV (ts := [(0, 2)]) ck12 rfl kX12_laysNow mokX12_laysNow w8_140 ps5_13 rfl rfl rfl rfl (a_R (ts := []) 0 a_nil (s_aload_n dX12_left_25 rfl rfl) rfl) dX12_left_26 w8_138) rfl) (t_ret (cv := cvI) (fun _ _ => rfl) (s_dAI (s_getR ck12 35 (by decide) rfl (s_aload_n dX12_left_29 rfl rfl) dX12_left_30 w7_0) (s_iadd (s_imul (s_iconst dX12_left_33 rfl) (s_iload_n dX12_left_34 rfl rfl) dX12_left_35) (s_iload_n dX12_left_36 rfl rfl) dX12_left_37) dX12_left_38) dX12_left_39))))
noncomputable def DX12_left : Fr → St → Option (Int32 × St) := M1 (fun f => (sI (sI (sR fr0 0 (gR f 0)) 1 (gI f 1)) 2 (gI f 2))) BX12_left
theorem kX12_left : SND yX12_left cX12_left 3 (some .int) 6 [(0, 2), (1, 0), (2, 0)] cvoI DX12_left := snd_I (nw := 3) (by decide) rfl rfl (fun _ _ => rfl) sBX12_left
theorem dX12_weight_0 : decode cX12_weight 0 = .ok (.aload_n 0, 1) := by decide +kernel
theorem dX12_weight_1 : decode cX12_weight 1 = .ok (.iconst 0, 1) := by decide +kernel
theorem dX12_weight_2 : decode cX12_weight 2 = .ok (.putfield 122, 3) := by decide +kernel
theorem dX12_weight_5 : decode cX12_weight 5 = .ok (.aload_n 0, 1) := by decide +kernel
theorem dX12_weight_6 : decode cX12_weight 6 = .ok (.iload_n 1, 1) := by decide +kernel
theorem dX12_weight_7 : decode cX12_weight 7 = .ok (.invokevirtual 372, 3) := by decide +kernel
theorem dX12_weight_10 : decode cX12_weight 10 = .ok (.ifCond .eq 12, 3) := by decide +kernel
theorem dX12_weight_13 : decode cX12_weight 13 = .ok (.aload_n 0, 1) := by decide +kernel
theorem dX12_weight_14 : decode cX12_weight 14 = .ok (.iload_n 2, 1) := by decide +kernel
theorem dX12_weight_15 : decode cX12_weight 15 = .ok (.i2l, 1) := by decide +kernel
theorem dX12_weight_16 : decode cX12_weight 16 = .ok (.invokevirtual 379, 3) := by decide +kernel
theorem dX12_weight_19 : decode cX12_weight 19 = .ok (.ifCond .ne 6, 3) := by decide +kernel
theorem dX12_weight_22 : decode cX12_weight 22 = .ok (.bipush (-2), 2) := by decide +kernel
theorem dX12_weight_24 : decode cX12_weight 24 = .ok (.ireturn, 1) := by decide +kernel
theorem dX12_weight_25 : decode cX12_weight 25 = .ok (.aload_n 0, 1) := by decide +kernel
theorem dX12_weight_26 : decode cX12_weight 26 = .ok (.invokevirtual 382, 3) := by decide +kernel
theorem dX12_weight_29 : decode cX12_weight 29 = .ok (.aload_n 0, 1) := by decide +kernel
theorem dX12_weight_30 : decode cX12_weight 30 = .ok (.iload_n 1, 1) := by decide +kernel
theorem dX12_weight_31 : decode cX12_weight 31 = .ok (.aload_n 0, 1) := by decide +kernel
theorem dX12_weight_32 : decode cX12_weight 32 = .ok (.getfield 77, 3) := by decide +kernel
theorem dX12_weight_35 : decode cX12_weight 35 = .ok (.iconst 3, 1) := by decide +kernel
theorem dX12_weight_36 : decode cX12_weight 36 = .ok (.iload_n 2, 1) := by decide +kernel
theorem dX12_weight_37 : decode cX12_weight 37 = .ok (.imul, 1) := by decide +kernel
theorem dX12_weight_38 : decode cX12_weight 38 = .ok (.iload_n 1, 1) := by decide +kernel
theorem dX12_weight_39 : decode cX12_weight 39 = .ok (.iadd, 1) := by decide +kernel
theorem dX12_weight_40 : decode cX12_weight 40 = .ok (.iaload, 1) := by decide +kernel
theorem dX12_weight_41 : decode cX12_weight 41 = .ok (.invokevirtual 338, 3) := by decide +kernel
theorem dX12_weight_44 : decode cX12_weight 44 = .ok (.ireturn, 1) := by decide +kernel
theorem mokX12_weight : MOK yX12_weight cX12_weight 3 (some .int) 2 := ⟨w8_185, w1_13, ⟨by decide, by decide⟩, by decide +kernel, by decide⟩
abbrev miX12_weight : MI := (yX12_weight.cls, cX12_weight, 3, 6, false)
noncomputable def BX12_weight : Sm Int32 := (dSeq (dP (fI 12 0) (vR 0) (cI 0)) (dSeq (dIf (dOr (dNot (dCZ q_ne (dCallV 12 DX12_isSlate (aI (aR aN 0 (vR 0)) 1 (vI 1))))) (dNot (dCZ q_ne (dCallV 12 DX12_isDay (aL (aR aN 0 (vR 0)) 1 (d1 o_i2l (vI 2))))))) (dRet (cI (-2))) dSkip) (dSeq (dDo (dCallV 12 DX12_laysNow (aR aN 0 (vR 0)))) (dRet (dCallV 12 DX12_heavyOf (aI (aI (aR aN 0 (vR 0)) 1 (vI 1)) 2 (dAI (dGR 12 35 (vR 0)) (d2 o_iadd (d2 o_imul (cI 3) (vI 2)) (vI 1)))))))))
theorem sBX12_weight : SS (cvoI, .ireturn) miX12_weight [] [] [] [(0, 2), (1, 0), (2, 0)] [(0, 2), (1, 0), (2, 0)] 0 [] BX12_weight := (t_sq (p1 := 5) (Γ' := [(0, 2), (1, 0), (2, 0)]) (t_pI ck12 0 (by decide) rfl (Or.inl rfl) (s_aload_n dX12_weight_0 rfl rfl) (s_iconst dX12_weight_1 rfl) dX12_weight_2 w6_205 rfl) (t_sq (p1 := 25) (Γ' := [(0, 2), (1, 0), (2, 0)]) (t_if (pT := 22) (pF := 25) (X := [25]) (XA := []) (XB := [25]) (c_or (p1 := 13) (pT := 22) (pF := 25) (c_not (pT := 22) (pF := 13) (c_ne_ZF (pF := 22) (s_of_xI (x_callV (ts := [(0, 2), (1, 0)]) ck12 rfl kX12_isSlate mokX12_isSlate w8_85 ps5_4 rfl rfl rfl rfl (a_I (ts := [(0, 2)]) 1 (a_R (ts := []) 0 a_nil (s_aload_n dX12_weight_5 rfl rfl) rfl) (s_iload_n dX12_weight_6 rfl rfl) rfl) dX12_weight_7 w8_83)) dX12_weight_10 rfl)) (c_not (pT := 22) (pF := 25) (c_ne_ZJ (pT := 25) (s_of_xI (x_callV (ts := [(0, 2), (1, 1)]) ck12 rfl kX12_isDay mokX12_isDay w8_128 ps5_10 rfl rfl rfl rfl (a_L (ts := [(0, 2)]) 1 (a_R (ts := []) 0 a_nil (s_aload_n dX12_weight_13 rfl rfl) rfl) (s_i2l (s_iload_n dX12_weight_14 rfl rfl) dX12_weight_15) rfl) dX12_weight_16 w8_126)) dX12_weight_19 rfl))) (t_ret (cv := cvI) (fun _ _ => rfl) (s_bipush dX12_weight_22 rfl) dX12_weight_24) (t_skip (ld_in rfl) rfl) lda_nil (lda_cons (ld_in rfl) lda_nil)) (t_sq (p1 := 29) (Γ' := [(0, 2), (1, 0), (2, 0)]) (t_do (x_callV (ts := [(0, 2)]) ck12 rfl kX12_laysNow mokX12_laysNow w8_140 ps5_13 rfl rfl rfl rfl (a_R (ts := []) 0 a_nil (s_aload_n dX12_weight_25 rfl rfl) rfl) dX12_weight_26 w8_138) rfl) (t_ret (cv := cvI) (fun _ _ => rfl) (s_of_xI (x_callV (ts := [(0, 2), (1, 0), (2, 0)]) ck12 rfl kX12_heavyOf mokX12_heavyOf w8_164 ps6_3 rfl rfl rfl rfl (a_I (ts := [(0, 2), (1, 0)]) 2 (a_I (ts := [(0, 2)]) 1 (a_R (ts := []) 0 a_nil (s_aload_n dX12_weight_29 rfl rfl) rfl) (s_iload_n dX12_weight_30 rfl rfl) rfl) (s_dAI (s_getR ck12 35 (by decide) rfl (s_aload_n dX12_weight_31 rfl rfl) dX12_weight_32 w7_0) (s_iadd (s_imul (s_iconst dX12_weight_35 rfl) (s_iload_n dX12_weight_36 rfl rfl) dX12_weight_37) (s_iload_n dX12_weight_38 rfl rfl) dX12_weight_39) dX12_weight_40) rfl) dX12_weight_41 w8_162)) dX12_weight_44))))
noncomputable def DX12_weight : Fr → St → Option (Int32 × St) := M1 (fun f => (sI (sI (sR fr0 0 (gR f 0)) 1 (gI f 1)) 2 (gI f 2))) BX12_weight
theorem kX12_weight : SND yX12_weight cX12_weight 3 (some .int) 6 [(0, 2), (1, 0), (2, 0)] cvoI DX12_weight := snd_I (nw := 3) (by decide) rfl rfl (fun _ _ => rfl) sBX12_weight
theorem dX12_knows_0 : decode cX12_knows 0 = .ok (.aload_n 0, 1) := by decide +kernel
theorem dX12_knows_1 : decode cX12_knows 1 = .ok (.iconst 0, 1) := by decide +kernel
theorem dX12_knows_2 : decode cX12_knows 2 = .ok (.putfield 122, 3) := by decide +kernel
theorem dX12_knows_5 : decode cX12_knows 5 = .ok (.aload_n 0, 1) := by decide +kernel
theorem dX12_knows_6 : decode cX12_knows 6 = .ok (.iload_n 1, 1) := by decide +kernel
theorem dX12_knows_7 : decode cX12_knows 7 = .ok (.i2l, 1) := by decide +kernel
theorem dX12_knows_8 : decode cX12_knows 8 = .ok (.invokevirtual 307, 3) := by decide +kernel
theorem dX12_knows_11 : decode cX12_knows 11 = .ok (.ifCond .eq 20, 3) := by decide +kernel
theorem dX12_knows_14 : decode cX12_knows 14 = .ok (.aload_n 0, 1) := by decide +kernel
theorem dX12_knows_15 : decode cX12_knows 15 = .ok (.iload_n 2, 1) := by decide +kernel
theorem dX12_knows_16 : decode cX12_knows 16 = .ok (.invokevirtual 372, 3) := by decide +kernel
theorem dX12_knows_19 : decode cX12_knows 19 = .ok (.ifCond .eq 12, 3) := by decide +kernel
theorem dX12_knows_22 : decode cX12_knows 22 = .ok (.aload_n 0, 1) := by decide +kernel
theorem dX12_knows_23 : decode cX12_knows 23 = .ok (.iload_n 3, 1) := by decide +kernel
theorem dX12_knows_24 : decode cX12_knows 24 = .ok (.i2l, 1) := by decide +kernel
theorem dX12_knows_25 : decode cX12_knows 25 = .ok (.invokevirtual 379, 3) := by decide +kernel
theorem dX12_knows_28 : decode cX12_knows 28 = .ok (.ifCond .ne 6, 3) := by decide +kernel
theorem dX12_knows_31 : decode cX12_knows 31 = .ok (.bipush (-2), 2) := by decide +kernel
theorem dX12_knows_33 : decode cX12_knows 33 = .ok (.ireturn, 1) := by decide +kernel
theorem dX12_knows_34 : decode cX12_knows 34 = .ok (.aload_n 0, 1) := by decide +kernel
theorem dX12_knows_35 : decode cX12_knows 35 = .ok (.invokevirtual 382, 3) := by decide +kernel
theorem dX12_knows_38 : decode cX12_knows 38 = .ok (.aload_n 0, 1) := by decide +kernel
theorem dX12_knows_39 : decode cX12_knows 39 = .ok (.getfield 80, 3) := by decide +kernel
theorem dX12_knows_42 : decode cX12_knows 42 = .ok (.bipush 24, 2) := by decide +kernel
theorem dX12_knows_44 : decode cX12_knows 44 = .ok (.iload_n 3, 1) := by decide +kernel
theorem dX12_knows_45 : decode cX12_knows 45 = .ok (.imul, 1) := by decide +kernel
theorem dX12_knows_46 : decode cX12_knows 46 = .ok (.bipush 8, 2) := by decide +kernel
theorem dX12_knows_48 : decode cX12_knows 48 = .ok (.iload_n 2, 1) := by decide +kernel
theorem dX12_knows_49 : decode cX12_knows 49 = .ok (.imul, 1) := by decide +kernel
theorem dX12_knows_50 : decode cX12_knows 50 = .ok (.iadd, 1) := by decide +kernel
theorem dX12_knows_51 : decode cX12_knows 51 = .ok (.iload_n 1, 1) := by decide +kernel
theorem dX12_knows_52 : decode cX12_knows 52 = .ok (.iadd, 1) := by decide +kernel
theorem dX12_knows_53 : decode cX12_knows 53 = .ok (.iaload, 1) := by decide +kernel
theorem dX12_knows_54 : decode cX12_knows 54 = .ok (.ireturn, 1) := by decide +kernel
theorem mokX12_knows : MOK yX12_knows cX12_knows 4 (some .int) 3 := ⟨w8_189, w1_13, ⟨by decide, by decide⟩, by decide +kernel, by decide⟩
abbrev miX12_knows : MI := (yX12_knows.cls, cX12_knows, 4, 6, false)
noncomputable def BX12_knows : Sm Int32 := (dSeq (dP (fI 12 0) (vR 0) (cI 0)) (dSeq (dIf (dOr (dOr (dNot (dCZ q_ne (dCallV 12 DX12_isHouse (aL (aR aN 0 (vR 0)) 1 (d1 o_i2l (vI 1)))))) (dNot (dCZ q_ne (dCallV 12 DX12_isSlate (aI (aR aN 0 (vR 0)) 1 (vI 2)))))) (dNot (dCZ q_ne (dCallV 12 DX12_isDay (aL (aR aN 0 (vR 0)) 1 (d1 o_i2l (vI 3))))))) (dRet (cI (-2))) dSkip) (dSeq (dDo (dCallV 12 DX12_laysNow (aR aN 0 (vR 0)))) (dRet (dAI (dGR 12 36 (vR 0)) (d2 o_iadd (d2 o_iadd (d2 o_imul (cI 24) (vI 3)) (d2 o_imul (cI 8) (vI 2))) (vI 1)))))))
theorem sBX12_knows : SS (cvoI, .ireturn) miX12_knows [] [] [] [(0, 2), (1, 0), (2, 0), (3, 0)] [(0, 2), (1, 0), (2, 0), (3, 0)] 0 [] BX12_knows := (t_sq (p1 := 5) (Γ' := [(0, 2), (1, 0), (2, 0), (3, 0)]) (t_pI ck12 0 (by decide) rfl (Or.inl rfl) (s_aload_n dX12_knows_0 rfl rfl) (s_iconst dX12_knows_1 rfl) dX12_knows_2 w6_205 rfl) (t_sq (p1 := 34) (Γ' := [(0, 2), (1, 0), (2, 0), (3, 0)]) (t_if (pT := 31) (pF := 34) (X := [34]) (XA := []) (XB := [34]) (c_or (p1 := 22) (pT := 31) (pF := 34) (c_or (p1 := 14) (pT := 31) (pF := 22) (c_not (pT := 31) (pF := 14) (c_ne_ZF (pF := 31) (s_of_xI (x_callV (ts := [(0, 2), (1, 1)]) ck12 rfl kX12_isHouse mokX12_isHouse w8_58 ps5_0 rfl rfl rfl rfl (a_L (ts := [(0, 2)]) 1 (a_R (ts := []) 0 a_nil (s_aload_n dX12_knows_5 rfl rfl) rfl) (s_i2l (s_iload_n dX12_knows_6 rfl rfl) dX12_knows_7) rfl) dX12_knows_8 w8_56)) dX12_knows_11 rfl)) (c_not (pT := 31) (pF := 22) (c_ne_ZF (pF := 31) (s_of_xI (x_callV (ts := [(0, 2), (1, 0)]) ck12 rfl kX12_isSlate mokX12_isSlate w8_85 ps5_4 rfl rfl rfl rfl (a_I (ts := [(0, 2)]) 1 (a_R (ts := []) 0 a_nil (s_aload_n dX12_knows_14 rfl rfl) rfl) (s_iload_n dX12_knows_15 rfl rfl) rfl) dX12_knows_16 w8_83)) dX12_knows_19 rfl))) (c_not (pT := 31) (pF := 34) (c_ne_ZJ (pT := 34) (s_of_xI (x_callV (ts := [(0, 2), (1, 1)]) ck12 rfl kX12_isDay mokX12_isDay w8_128 ps5_10 rfl rfl rfl rfl (a_L (ts := [(0, 2)]) 1 (a_R (ts := []) 0 a_nil (s_aload_n dX12_knows_22 rfl rfl) rfl) (s_i2l (s_iload_n dX12_knows_23 rfl rfl) dX12_knows_24) rfl) dX12_knows_25 w8_126)) dX12_knows_28 rfl))) (t_ret (cv := cvI) (fun _ _ => rfl) (s_bipush dX12_knows_31 rfl) dX12_knows_33) (t_skip (ld_in rfl) rfl) lda_nil (lda_cons (ld_in rfl) lda_nil)) (t_sq (p1 := 38) (Γ' := [(0, 2), (1, 0), (2, 0), (3, 0)]) (t_do (x_callV (ts := [(0, 2)]) ck12 rfl kX12_laysNow mokX12_laysNow w8_140 ps5_13 rfl rfl rfl rfl (a_R (ts := []) 0 a_nil (s_aload_n dX12_knows_34 rfl rfl) rfl) dX12_knows_35 w8_138) rfl) (t_ret (cv := cvI) (fun _ _ => rfl) (s_dAI (s_getR ck12 36 (by decide) rfl (s_aload_n dX12_knows_38 rfl rfl) dX12_knows_39 w7_1) (s_iadd (s_iadd (s_imul (s_bipush dX12_knows_42 rfl) (s_iload_n dX12_knows_44 rfl rfl) dX12_knows_45) (s_imul (s_bipush dX12_knows_46 rfl) (s_iload_n dX12_knows_48 rfl rfl) dX12_knows_49) dX12_knows_50) (s_iload_n dX12_knows_51 rfl rfl) dX12_knows_52) dX12_knows_53) dX12_knows_54))))
noncomputable def DX12_knows : Fr → St → Option (Int32 × St) := M1 (fun f => (sI (sI (sI (sR fr0 0 (gR f 0)) 1 (gI f 1)) 2 (gI f 2)) 3 (gI f 3))) BX12_knows
theorem kX12_knows : SND yX12_knows cX12_knows 4 (some .int) 6 [(0, 2), (1, 0), (2, 0), (3, 0)] cvoI DX12_knows := snd_I (nw := 4) (by decide) rfl rfl (fun _ _ => rfl) sBX12_knows
theorem dX12_heard_0 : decode cX12_heard 0 = .ok (.aload_n 0, 1) := by decide +kernel
theorem dX12_heard_1 : decode cX12_heard 1 = .ok (.iconst 0, 1) := by decide +kernel
theorem dX12_heard_2 : decode cX12_heard 2 = .ok (.putfield 122, 3) := by decide +kernel
theorem dX12_heard_5 : decode cX12_heard 5 = .ok (.aload_n 0, 1) := by decide +kernel
theorem dX12_heard_6 : decode cX12_heard 6 = .ok (.iload_n 1, 1) := by decide +kernel
theorem dX12_heard_7 : decode cX12_heard 7 = .ok (.invokevirtual 372, 3) := by decide +kernel
theorem dX12_heard_10 : decode cX12_heard 10 = .ok (.ifCond .eq 12, 3) := by decide +kernel
theorem dX12_heard_13 : decode cX12_heard 13 = .ok (.aload_n 0, 1) := by decide +kernel
theorem dX12_heard_14 : decode cX12_heard 14 = .ok (.iload_n 2, 1) := by decide +kernel
theorem dX12_heard_15 : decode cX12_heard 15 = .ok (.i2l, 1) := by decide +kernel
theorem dX12_heard_16 : decode cX12_heard 16 = .ok (.invokevirtual 379, 3) := by decide +kernel
theorem dX12_heard_19 : decode cX12_heard 19 = .ok (.ifCond .ne 6, 3) := by decide +kernel
theorem dX12_heard_22 : decode cX12_heard 22 = .ok (.bipush (-2), 2) := by decide +kernel
theorem dX12_heard_24 : decode cX12_heard 24 = .ok (.ireturn, 1) := by decide +kernel
theorem dX12_heard_25 : decode cX12_heard 25 = .ok (.aload_n 0, 1) := by decide +kernel
theorem dX12_heard_26 : decode cX12_heard 26 = .ok (.invokevirtual 382, 3) := by decide +kernel
theorem dX12_heard_29 : decode cX12_heard 29 = .ok (.aload_n 0, 1) := by decide +kernel
theorem dX12_heard_30 : decode cX12_heard 30 = .ok (.iload_n 1, 1) := by decide +kernel
theorem dX12_heard_31 : decode cX12_heard 31 = .ok (.iload_n 2, 1) := by decide +kernel
theorem dX12_heard_32 : decode cX12_heard 32 = .ok (.invokevirtual 385, 3) := by decide +kernel
theorem dX12_heard_35 : decode cX12_heard 35 = .ok (.ireturn, 1) := by decide +kernel
theorem mokX12_heard : MOK yX12_heard cX12_heard 3 (some .int) 2 := ⟨w8_193, w1_13, ⟨by decide, by decide⟩, by decide +kernel, by decide⟩
abbrev miX12_heard : MI := (yX12_heard.cls, cX12_heard, 3, 6, false)
noncomputable def BX12_heard : Sm Int32 := (dSeq (dP (fI 12 0) (vR 0) (cI 0)) (dSeq (dIf (dOr (dNot (dCZ q_ne (dCallV 12 DX12_isSlate (aI (aR aN 0 (vR 0)) 1 (vI 1))))) (dNot (dCZ q_ne (dCallV 12 DX12_isDay (aL (aR aN 0 (vR 0)) 1 (d1 o_i2l (vI 2))))))) (dRet (cI (-2))) dSkip) (dSeq (dDo (dCallV 12 DX12_laysNow (aR aN 0 (vR 0)))) (dRet (dCallV 12 DX12_heardOf (aI (aI (aR aN 0 (vR 0)) 1 (vI 1)) 2 (vI 2)))))))
theorem sBX12_heard : SS (cvoI, .ireturn) miX12_heard [] [] [] [(0, 2), (1, 0), (2, 0)] [(0, 2), (1, 0), (2, 0)] 0 [] BX12_heard := (t_sq (p1 := 5) (Γ' := [(0, 2), (1, 0), (2, 0)]) (t_pI ck12 0 (by decide) rfl (Or.inl rfl) (s_aload_n dX12_heard_0 rfl rfl) (s_iconst dX12_heard_1 rfl) dX12_heard_2 w6_205 rfl) (t_sq (p1 := 25) (Γ' := [(0, 2), (1, 0), (2, 0)]) (t_if (pT := 22) (pF := 25) (X := [25]) (XA := []) (XB := [25]) (c_or (p1 := 13) (pT := 22) (pF := 25) (c_not (pT := 22) (pF := 13) (c_ne_ZF (pF := 22) (s_of_xI (x_callV (ts := [(0, 2), (1, 0)]) ck12 rfl kX12_isSlate mokX12_isSlate w8_85 ps5_4 rfl rfl rfl rfl (a_I (ts := [(0, 2)]) 1 (a_R (ts := []) 0 a_nil (s_aload_n dX12_heard_5 rfl rfl) rfl) (s_iload_n dX12_heard_6 rfl rfl) rfl) dX12_heard_7 w8_83)) dX12_heard_10 rfl)) (c_not (pT := 22) (pF := 25) (c_ne_ZJ (pT := 25) (s_of_xI (x_callV (ts := [(0, 2), (1, 1)]) ck12 rfl kX12_isDay mokX12_isDay w8_128 ps5_10 rfl rfl rfl rfl (a_L (ts := [(0, 2)]) 1 (a_R (ts := []) 0 a_nil (s_aload_n dX12_heard_13 rfl rfl) rfl) (s_i2l (s_iload_n dX12_heard_14 rfl rfl) dX12_heard_15) rfl) dX12_heard_16 w8_126)) dX12_heard_19 rfl))) (t_ret (cv := cvI) (fun _ _ => rfl) (s_bipush dX12_heard_22 rfl) dX12_heard_24) (t_skip (ld_in rfl) rfl) lda_nil (lda_cons (ld_in rfl) lda_nil)) (t_sq (p1 := 29) (Γ' := [(0, 2), (1, 0), (2, 0)]) (t_do (x_callV (ts := [(0, 2)]) ck12 rfl kX12_laysNow mokX12_laysNow w8_140 ps5_13 rfl rfl rfl rfl (a_R (ts := []) 0 a_nil (s_aload_n dX12_heard_25 rfl rfl) rfl) dX12_heard_26 w8_138) rfl) (t_ret (cv := cvI) (fun _ _ => rfl) (s_of_xI (x_callV (ts := [(0, 2), (1, 0), (2, 0)]) ck12 rfl kX12_heardOf mokX12_heardOf w8_196 ps6_6 rfl rfl rfl rfl (a_I (ts := [(0, 2), (1, 0)]) 2 (a_I (ts := [(0, 2)]) 1 (a_R (ts := []) 0 a_nil (s_aload_n dX12_heard_29 rfl rfl) rfl) (s_iload_n dX12_heard_30 rfl rfl) rfl) (s_iload_n dX12_heard_31 rfl rfl) rfl) dX12_heard_32 w8_194)) dX12_heard_35))))
noncomputable def DX12_heard : Fr → St → Option (Int32 × St) := M1 (fun f => (sI (sI (sR fr0 0 (gR f 0)) 1 (gI f 1)) 2 (gI f 2))) BX12_heard
theorem kX12_heard : SND yX12_heard cX12_heard 3 (some .int) 6 [(0, 2), (1, 0), (2, 0)] cvoI DX12_heard := snd_I (nw := 3) (by decide) rfl rfl (fun _ _ => rfl) sBX12_heard
theorem dX12_full_0 : decode cX12_full 0 = .ok (.aload_n 0, 1) := by decide +kernel
theorem dX12_full_1 : decode cX12_full 1 = .ok (.iconst 0, 1) := by decide +kernel
theorem dX12_full_2 : decode cX12_full 2 = .ok (.putfield 122, 3) := by decide +kernel
theorem dX12_full_5 : decode cX12_full 5 = .ok (.aload_n 0, 1) := by decide +kernel
theorem dX12_full_6 : decode cX12_full 6 = .ok (.iload_n 1, 1) := by decide +kernel
theorem dX12_full_7 : decode cX12_full 7 = .ok (.invokevirtual 372, 3) := by decide +kernel
theorem dX12_full_10 : decode cX12_full 10 = .ok (.ifCond .eq 12, 3) := by decide +kernel
theorem dX12_full_13 : decode cX12_full 13 = .ok (.aload_n 0, 1) := by decide +kernel
theorem dX12_full_14 : decode cX12_full 14 = .ok (.iload_n 2, 1) := by decide +kernel
theorem dX12_full_15 : decode cX12_full 15 = .ok (.i2l, 1) := by decide +kernel
theorem dX12_full_16 : decode cX12_full 16 = .ok (.invokevirtual 379, 3) := by decide +kernel
theorem dX12_full_19 : decode cX12_full 19 = .ok (.ifCond .ne 6, 3) := by decide +kernel
theorem dX12_full_22 : decode cX12_full 22 = .ok (.bipush (-2), 2) := by decide +kernel
theorem dX12_full_24 : decode cX12_full 24 = .ok (.ireturn, 1) := by decide +kernel
theorem dX12_full_25 : decode cX12_full 25 = .ok (.aload_n 0, 1) := by decide +kernel
theorem dX12_full_26 : decode cX12_full 26 = .ok (.invokevirtual 382, 3) := by decide +kernel
theorem dX12_full_29 : decode cX12_full 29 = .ok (.iconst 0, 1) := by decide +kernel
theorem dX12_full_30 : decode cX12_full 30 = .ok (.istore_n 3, 1) := by decide +kernel
theorem dX12_full_31 : decode cX12_full 31 = .ok (.iconst 0, 1) := by decide +kernel
theorem dX12_full_32 : decode cX12_full 32 = .ok (.istore 4, 2) := by decide +kernel
theorem dX12_full_34 : decode cX12_full 34 = .ok (.iload 4, 2) := by decide +kernel
theorem dX12_full_36 : decode cX12_full 36 = .ok (.aload_n 0, 1) := by decide +kernel
theorem dX12_full_37 : decode cX12_full 37 = .ok (.invokevirtual 292, 3) := by decide +kernel
theorem dX12_full_40 : decode cX12_full 40 = .ok (.if_icmp .ge 50, 3) := by decide +kernel
theorem dX12_full_43 : decode cX12_full 43 = .ok (.iload_n 3, 1) := by decide +kernel
theorem dX12_full_44 : decode cX12_full 44 = .ok (.aload_n 0, 1) := by decide +kernel
theorem dX12_full_45 : decode cX12_full 45 = .ok (.getfield 80, 3) := by decide +kernel
theorem dX12_full_48 : decode cX12_full 48 = .ok (.bipush 24, 2) := by decide +kernel
theorem dX12_full_50 : decode cX12_full 50 = .ok (.iload_n 2, 1) := by decide +kernel
theorem dX12_full_51 : decode cX12_full 51 = .ok (.imul, 1) := by decide +kernel
theorem dX12_full_52 : decode cX12_full 52 = .ok (.bipush 8, 2) := by decide +kernel
theorem dX12_full_54 : decode cX12_full 54 = .ok (.iload_n 1, 1) := by decide +kernel
theorem dX12_full_55 : decode cX12_full 55 = .ok (.imul, 1) := by decide +kernel
theorem dX12_full_56 : decode cX12_full 56 = .ok (.iadd, 1) := by decide +kernel
theorem dX12_full_57 : decode cX12_full 57 = .ok (.iload 4, 2) := by decide +kernel
theorem dX12_full_59 : decode cX12_full 59 = .ok (.iadd, 1) := by decide +kernel
theorem dX12_full_60 : decode cX12_full 60 = .ok (.iaload, 1) := by decide +kernel
theorem dX12_full_61 : decode cX12_full 61 = .ok (.iconst 1, 1) := by decide +kernel
theorem dX12_full_62 : decode cX12_full 62 = .ok (.aload_n 0, 1) := by decide +kernel
theorem dX12_full_63 : decode cX12_full 63 = .ok (.getfield 49, 3) := by decide +kernel
theorem dX12_full_66 : decode cX12_full 66 = .ok (.iload_n 1, 1) := by decide +kernel
theorem dX12_full_67 : decode cX12_full 67 = .ok (.iaload, 1) := by decide +kernel
theorem dX12_full_68 : decode cX12_full 68 = .ok (.ishl, 1) := by decide +kernel
theorem dX12_full_69 : decode cX12_full 69 = .ok (.iconst 1, 1) := by decide +kernel
theorem dX12_full_70 : decode cX12_full 70 = .ok (.isub, 1) := by decide +kernel
theorem dX12_full_71 : decode cX12_full 71 = .ok (.if_icmp .ne 10, 3) := by decide +kernel
theorem dX12_full_74 : decode cX12_full 74 = .ok (.iconst 1, 1) := by decide +kernel
theorem dX12_full_75 : decode cX12_full 75 = .ok (.iload 4, 2) := by decide +kernel
theorem dX12_full_77 : decode cX12_full 77 = .ok (.ishl, 1) := by decide +kernel
theorem dX12_full_78 : decode cX12_full 78 = .ok (.goto 4, 3) := by decide +kernel
theorem dX12_full_81 : decode cX12_full 81 = .ok (.iconst 0, 1) := by decide +kernel
theorem dX12_full_82 : decode cX12_full 82 = .ok (.ior, 1) := by decide +kernel
theorem dX12_full_83 : decode cX12_full 83 = .ok (.istore_n 3, 1) := by decide +kernel
theorem dX12_full_84 : decode cX12_full 84 = .ok (.iinc 4 1, 3) := by decide +kernel
theorem dX12_full_87 : decode cX12_full 87 = .ok (.goto (-53), 3) := by decide +kernel
theorem dX12_full_90 : decode cX12_full 90 = .ok (.iload_n 3, 1) := by decide +kernel
theorem dX12_full_91 : decode cX12_full 91 = .ok (.ireturn, 1) := by decide +kernel
theorem mokX12_full : MOK yX12_full cX12_full 5 (some .int) 2 := ⟨w8_201, w1_13, ⟨by decide, by decide⟩, by decide +kernel, by decide⟩
abbrev miX12_full : MI := (yX12_full.cls, cX12_full, 5, 6, false)
noncomputable def LX12_full_1 : Sm Int32 := dLoop (fun f => (sI (sI (sI (sI (sR fr0 0 (gR f 0)) 1 (gI f 1)) 2 (gI f 2)) 3 (gI f 3)) 4 (gI f 4))) (dCI r_lt (vI 4) (dCallV 12 DX12_houses (aR aN 0 (vR 0)))) (dSetI 3 (d2 o_ior (vI 3) (dT (dCI r_eq (dAI (dGR 12 36 (vR 0)) (d2 o_iadd (d2 o_iadd (d2 o_imul (cI 24) (vI 2)) (d2 o_imul (cI 8) (vI 1))) (vI 4))) (d2 o_isub (d2 o_ishl (cI 1) (dAI (dGR 12 22 (vR 0)) (vI 1))) (cI 1))) (d2 o_ishl (cI 1) (vI 4)) (cI 0)))) (dInc 4 1)
theorem sLX12_full_1 {ΓL : Gm} {PB PK : List Nat} : SS (cvoI, .ireturn) miX12_full ΓL PB PK [(0, 2), (1, 0), (2, 0), (3, 0), (4, 0)] [(0, 2), (1, 0), (2, 0), (3, 0), (4, 0)] 34 [90] LX12_full_1 := t_loop (pT := 43) (pF := 90) (pu := 84) (PB' := []) (PK' := []) (XB := [84]) (XU := [87]) (fun _ _ => rfl) rfl (c_lt_F (pF := 90) (s_iload dX12_full_34 rfl) (s_of_xI (x_callV (ts := [(0, 2)]) ck12 rfl kX12_houses mokX12_houses w8_62 ps5_1 rfl rfl rfl rfl (a_R (ts := []) 0 a_nil (s_aload_n dX12_full_36 rfl rfl) rfl) dX12_full_37 w8_60)) dX12_full_40 rfl) (t_istore_n (s_ior (s_iload_n dX12_full_43 rfl rfl) (s_T (pT := 74) (pF := 81) (p1 := 78) (pe := 82) (c_eq_F (pF := 81) (s_dAI (s_getR ck12 36 (by decide) rfl (s_aload_n dX12_full_44 rfl rfl) dX12_full_45 w7_1) (s_iadd (s_iadd (s_imul (s_bipush dX12_full_48 rfl) (s_iload_n dX12_full_50 rfl rfl) dX12_full_51) (s_imul (s_bipush dX12_full_52 rfl) (s_iload_n dX12_full_54 rfl rfl) dX12_full_55) dX12_full_56) (s_iload dX12_full_57 rfl) dX12_full_59) dX12_full_60) (s_isub (s_ishl (s_iconst dX12_full_61 rfl) (s_dAI (s_getR ck12 22 (by decide) rfl (s_aload_n dX12_full_62 rfl rfl) dX12_full_63 w6_227) (s_iload_n dX12_full_66 rfl rfl) dX12_full_67) dX12_full_68) (s_iconst dX12_full_69 rfl) dX12_full_70) dX12_full_71 rfl) (s_ishl (s_iconst dX12_full_74 rfl) (s_iload dX12_full_75 rfl) dX12_full_77) (s_iconst dX12_full_81 rfl) (ld_goto (y := 82) dX12_full_78 rfl (ld_in rfl))) dX12_full_82) dX12_full_83 rfl rfl rfl) (t_iinc dX12_full_84 rfl rfl rfl rfl) (lda_cons (ld_in rfl) lda_nil) lda_nil (lda_cons (ld_goto (y := 34) dX12_full_87 rfl (ld_in rfl)) lda_nil) (ld_in rfl) lda_nil
noncomputable def BX12_full : Sm Int32 := (dSeq (dP (fI 12 0) (vR 0) (cI 0)) (dSeq (dIf (dOr (dNot (dCZ q_ne (dCallV 12 DX12_isSlate (aI (aR aN 0 (vR 0)) 1 (vI 1))))) (dNot (dCZ q_ne (dCallV 12 DX12_isDay (aL (aR aN 0 (vR 0)) 1 (d1 o_i2l (vI 2))))))) (dRet (cI (-2))) dSkip) (dSeq (dDo (dCallV 12 DX12_laysNow (aR aN 0 (vR 0)))) (dSeq (dSetI 3 (cI 0)) (dSeq (dSeq (dSetI 4 (cI 0)) LX12_full_1) (dRet (vI 3)))))))
theorem sBX12_full : SS (cvoI, .ireturn) miX12_full [] [] [] [(0, 2), (1, 0), (2, 0)] [(0, 2), (1, 0), (2, 0)] 0 [] BX12_full := (t_sq (p1 := 5) (Γ' := [(0, 2), (1, 0), (2, 0)]) (t_pI ck12 0 (by decide) rfl (Or.inl rfl) (s_aload_n dX12_full_0 rfl rfl) (s_iconst dX12_full_1 rfl) dX12_full_2 w6_205 rfl) (t_sq (p1 := 25) (Γ' := [(0, 2), (1, 0), (2, 0)]) (t_if (pT := 22) (pF := 25) (X := [25]) (XA := []) (XB := [25]) (c_or (p1 := 13) (pT := 22) (pF := 25) (c_not (pT := 22) (pF := 13) (c_ne_ZF (pF := 22) (s_of_xI (x_callV (ts := [(0, 2), (1, 0)]) ck12 rfl kX12_isSlate mokX12_isSlate w8_85 ps5_4 rfl rfl rfl rfl (a_I (ts := [(0, 2)]) 1 (a_R (ts := []) 0 a_nil (s_aload_n dX12_full_5 rfl rfl) rfl) (s_iload_n dX12_full_6 rfl rfl) rfl) dX12_full_7 w8_83)) dX12_full_10 rfl)) (c_not (pT := 22) (pF := 25) (c_ne_ZJ (pT := 25) (s_of_xI (x_callV (ts := [(0, 2), (1, 1)]) ck12 rfl kX12_isDay mokX12_isDay w8_128 ps5_10 rfl rfl rfl rfl (a_L (ts := [(0, 2)]) 1 (a_R (ts := []) 0 a_nil (s_aload_n dX12_full_13 rfl rfl) rfl) (s_i2l (s_iload_n dX12_full_14 rfl rfl) dX12_full_15) rfl) dX12_full_16 w8_126)) dX12_full_19 rfl))) (t_ret (cv := cvI) (fun _ _ => rfl) (s_bipush dX12_full_22 rfl) dX12_full_24) (t_skip (ld_in rfl) rfl) lda_nil (lda_cons (ld_in rfl) lda_nil)) (t_sq (p1 := 29) (Γ' := [(0, 2), (1, 0), (2, 0)]) (t_do (x_callV (ts := [(0, 2)]) ck12 rfl kX12_laysNow mokX12_laysNow w8_140 ps5_13 rfl rfl rfl rfl (a_R (ts := []) 0 a_nil (s_aload_n dX12_full_25 rfl rfl) rfl) dX12_full_26 w8_138) rfl) (t_sq (p1 := 31) (Γ' := [(0, 2), (1, 0), (2, 0), (3, 0)]) (t_istore_n (s_iconst dX12_full_29 rfl) dX12_full_30 rfl rfl rfl) (t_sq (p1 := 90) (Γ' := [(0, 2), (1, 0), (2, 0), (3, 0)]) (t_sq (p1 := 34) (Γ' := [(0, 2), (1, 0), (2, 0), (3, 0), (4, 0)]) (t_istore (s_iconst dX12_full_31 rfl) dX12_full_32 rfl rfl) (tn_to (Γ' := [(0, 2), (1, 0), (2, 0), (3, 0), (4, 0)]) (XA := [90]) sLX12_full_1 (lda_cons (ld_in rfl) lda_nil) rfl)) (t_ret (cv := cvI) (fun _ _ => rfl) (s_iload_n dX12_full_90 rfl rfl) dX12_full_91))))))
noncomputable def DX12_full : Fr → St → Option (Int32 × St) := M1 (fun f => (sI (sI (sR fr0 0 (gR f 0)) 1 (gI f 1)) 2 (gI f 2))) BX12_full
theorem kX12_full : SND yX12_full cX12_full 5 (some .int) 6 [(0, 2), (1, 0), (2, 0)] cvoI DX12_full := snd_I (nw := 3) (by decide) rfl rfl (fun _ _ => rfl) sBX12_full
theorem dX12_when_0 : decode cX12_when 0 = .ok (.aload_n 0, 1) := by decide +kernel
theorem dX12_when_1 : decode cX12_when 1 = .ok (.iconst 0, 1) := by decide +kernel
theorem dX12_when_2 : decode cX12_when 2 = .ok (.putfield 122, 3) := by decide +kernel
theorem dX12_when_5 : decode cX12_when 5 = .ok (.aload_n 0, 1) := by decide +kernel
theorem dX12_when_6 : decode cX12_when 6 = .ok (.iload_n 1, 1) := by decide +kernel
theorem dX12_when_7 : decode cX12_when 7 = .ok (.i2l, 1) := by decide +kernel
theorem dX12_when_8 : decode cX12_when 8 = .ok (.invokevirtual 307, 3) := by decide +kernel
theorem dX12_when_11 : decode cX12_when 11 = .ok (.ifCond .eq 11, 3) := by decide +kernel
theorem dX12_when_14 : decode cX12_when 14 = .ok (.aload_n 0, 1) := by decide +kernel
theorem dX12_when_15 : decode cX12_when 15 = .ok (.iload_n 2, 1) := by decide +kernel
theorem dX12_when_16 : decode cX12_when 16 = .ok (.invokevirtual 372, 3) := by decide +kernel
theorem dX12_when_19 : decode cX12_when 19 = .ok (.ifCond .ne 6, 3) := by decide +kernel
theorem dX12_when_22 : decode cX12_when 22 = .ok (.bipush (-2), 2) := by decide +kernel
theorem dX12_when_24 : decode cX12_when 24 = .ok (.ireturn, 1) := by decide +kernel
theorem dX12_when_25 : decode cX12_when 25 = .ok (.aload_n 0, 1) := by decide +kernel
theorem dX12_when_26 : decode cX12_when 26 = .ok (.invokevirtual 382, 3) := by decide +kernel
theorem dX12_when_29 : decode cX12_when 29 = .ok (.iconst 0, 1) := by decide +kernel
theorem dX12_when_30 : decode cX12_when 30 = .ok (.istore_n 3, 1) := by decide +kernel
theorem dX12_when_31 : decode cX12_when 31 = .ok (.iload_n 3, 1) := by decide +kernel
theorem dX12_when_32 : decode cX12_when 32 = .ok (.aload_n 0, 1) := by decide +kernel
theorem dX12_when_33 : decode cX12_when 33 = .ok (.invokevirtual 304, 3) := by decide +kernel
theorem dX12_when_36 : decode cX12_when 36 = .ok (.if_icmp .gt 30, 3) := by decide +kernel
theorem dX12_when_39 : decode cX12_when 39 = .ok (.aload_n 0, 1) := by decide +kernel
theorem dX12_when_40 : decode cX12_when 40 = .ok (.getfield 80, 3) := by decide +kernel
theorem dX12_when_43 : decode cX12_when 43 = .ok (.bipush 24, 2) := by decide +kernel
theorem dX12_when_45 : decode cX12_when 45 = .ok (.iload_n 3, 1) := by decide +kernel
theorem dX12_when_46 : decode cX12_when 46 = .ok (.imul, 1) := by decide +kernel
theorem dX12_when_47 : decode cX12_when 47 = .ok (.bipush 8, 2) := by decide +kernel
theorem dX12_when_49 : decode cX12_when 49 = .ok (.iload_n 2, 1) := by decide +kernel
theorem dX12_when_50 : decode cX12_when 50 = .ok (.imul, 1) := by decide +kernel
theorem dX12_when_51 : decode cX12_when 51 = .ok (.iadd, 1) := by decide +kernel
theorem dX12_when_52 : decode cX12_when 52 = .ok (.iload_n 1, 1) := by decide +kernel
theorem dX12_when_53 : decode cX12_when 53 = .ok (.iadd, 1) := by decide +kernel
theorem dX12_when_54 : decode cX12_when 54 = .ok (.iaload, 1) := by decide +kernel
theorem dX12_when_55 : decode cX12_when 55 = .ok (.ifCond .eq 5, 3) := by decide +kernel
theorem dX12_when_58 : decode cX12_when 58 = .ok (.iload_n 3, 1) := by decide +kernel
theorem dX12_when_59 : decode cX12_when 59 = .ok (.ireturn, 1) := by decide +kernel
theorem dX12_when_60 : decode cX12_when 60 = .ok (.iinc 3 1, 3) := by decide +kernel
theorem dX12_when_63 : decode cX12_when 63 = .ok (.goto (-32), 3) := by decide +kernel
theorem dX12_when_66 : decode cX12_when 66 = .ok (.iconst (-1), 1) := by decide +kernel
theorem dX12_when_67 : decode cX12_when 67 = .ok (.ireturn, 1) := by decide +kernel
theorem mokX12_when : MOK yX12_when cX12_when 4 (some .int) 2 := ⟨w8_205, w1_13, ⟨by decide, by decide⟩, by decide +kernel, by decide⟩
abbrev miX12_when : MI := (yX12_when.cls, cX12_when, 4, 6, false)
noncomputable def LX12_when_1 : Sm Int32 := dLoop (fun f => (sI (sI (sI (sR fr0 0 (gR f 0)) 1 (gI f 1)) 2 (gI f 2)) 3 (gI f 3))) (dCI r_le (vI 3) (dCallV 12 DX12_days (aR aN 0 (vR 0)))) (dIf (dCZ q_ne (dAI (dGR 12 36 (vR 0)) (d2 o_iadd (d2 o_iadd (d2 o_imul (cI 24) (vI 3)) (d2 o_imul (cI 8) (vI 2))) (vI 1)))) (dRet (vI 3)) dSkip) (dInc 3 1)
theorem sLX12_when_1 {ΓL : Gm} {PB PK : List Nat} : SS (cvoI, .ireturn) miX12_when ΓL PB PK [(0, 2), (1, 0), (2, 0), (3, 0)] [(0, 2), (1, 0), (2, 0), (3, 0)] 31 [66] LX12_when_1 := t_loop (pT := 39) (pF := 66) (pu := 60) (PB' := []) (PK' := []) (XB := [60]) (XU := [63]) (fun _ _ => rfl) rfl (c_le_F (pF := 66) (s_iload_n dX12_when_31 rfl rfl) (s_of_xI (x_callV (ts := [(0, 2)]) ck12 rfl kX12_days mokX12_days w8_136 ps5_12 rfl rfl rfl rfl (a_R (ts := []) 0 a_nil (s_aload_n dX12_when_32 rfl rfl) rfl) dX12_when_33 w8_134)) dX12_when_36 rfl) (t_if (pT := 58) (pF := 60) (X := [60]) (XA := []) (XB := [60]) (c_ne_ZF (pF := 60) (s_dAI (s_getR ck12 36 (by decide) rfl (s_aload_n dX12_when_39 rfl rfl) dX12_when_40 w7_1) (s_iadd (s_iadd (s_imul (s_bipush dX12_when_43 rfl) (s_iload_n dX12_when_45 rfl rfl) dX12_when_46) (s_imul (s_bipush dX12_when_47 rfl) (s_iload_n dX12_when_49 rfl rfl) dX12_when_50) dX12_when_51) (s_iload_n dX12_when_52 rfl rfl) dX12_when_53) dX12_when_54) dX12_when_55 rfl) (t_ret (cv := cvI) (fun _ _ => rfl) (s_iload_n dX12_when_58 rfl rfl) dX12_when_59) (t_skip (ld_in rfl) rfl) lda_nil (lda_cons (ld_in rfl) lda_nil)) (t_iinc dX12_when_60 rfl rfl rfl rfl) (lda_cons (ld_in rfl) lda_nil) lda_nil (lda_cons (ld_goto (y := 31) dX12_when_63 rfl (ld_in rfl)) lda_nil) (ld_in rfl) lda_nil
noncomputable def BX12_when : Sm Int32 := (dSeq (dP (fI 12 0) (vR 0) (cI 0)) (dSeq (dIf (dOr (dNot (dCZ q_ne (dCallV 12 DX12_isHouse (aL (aR aN 0 (vR 0)) 1 (d1 o_i2l (vI 1)))))) (dNot (dCZ q_ne (dCallV 12 DX12_isSlate (aI (aR aN 0 (vR 0)) 1 (vI 2)))))) (dRet (cI (-2))) dSkip) (dSeq (dDo (dCallV 12 DX12_laysNow (aR aN 0 (vR 0)))) (dSeq (dSeq (dSetI 3 (cI 0)) LX12_when_1) (dRet (cI (-1)))))))
theorem sBX12_when : SS (cvoI, .ireturn) miX12_when [] [] [] [(0, 2), (1, 0), (2, 0)] [(0, 2), (1, 0), (2, 0)] 0 [] BX12_when := (t_sq (p1 := 5) (Γ' := [(0, 2), (1, 0), (2, 0)]) (t_pI ck12 0 (by decide) rfl (Or.inl rfl) (s_aload_n dX12_when_0 rfl rfl) (s_iconst dX12_when_1 rfl) dX12_when_2 w6_205 rfl) (t_sq (p1 := 25) (Γ' := [(0, 2), (1, 0), (2, 0)]) (t_if (pT := 22) (pF := 25) (X := [25]) (XA := []) (XB := [25]) (c_or (p1 := 14) (pT := 22) (pF := 25) (c_not (pT := 22) (pF := 14) (c_ne_ZF (pF := 22) (s_of_xI (x_callV (ts := [(0, 2), (1, 1)]) ck12 rfl kX12_isHouse mokX12_isHouse w8_58 ps5_0 rfl rfl rfl rfl (a_L (ts := [(0, 2)]) 1 (a_R (ts := []) 0 a_nil (s_aload_n dX12_when_5 rfl rfl) rfl) (s_i2l (s_iload_n dX12_when_6 rfl rfl) dX12_when_7) rfl) dX12_when_8 w8_56)) dX12_when_11 rfl)) (c_not (pT := 22) (pF := 25) (c_ne_ZJ (pT := 25) (s_of_xI (x_callV (ts := [(0, 2), (1, 0)]) ck12 rfl kX12_isSlate mokX12_isSlate w8_85 ps5_4 rfl rfl rfl rfl (a_I (ts := [(0, 2)]) 1 (a_R (ts := []) 0 a_nil (s_aload_n dX12_when_14 rfl rfl) rfl) (s_iload_n dX12_when_15 rfl rfl) rfl) dX12_when_16 w8_83)) dX12_when_19 rfl))) (t_ret (cv := cvI) (fun _ _ => rfl) (s_bipush dX12_when_22 rfl) dX12_when_24) (t_skip (ld_in rfl) rfl) lda_nil (lda_cons (ld_in rfl) lda_nil)) (t_sq (p1 := 29) (Γ' := [(0, 2), (1, 0), (2, 0)]) (t_do (x_callV (ts := [(0, 2)]) ck12 rfl kX12_laysNow mokX12_laysNow w8_140 ps5_13 rfl rfl rfl rfl (a_R (ts := []) 0 a_nil (s_aload_n dX12_when_25 rfl rfl) rfl) dX12_when_26 w8_138) rfl) (t_sq (p1 := 66) (Γ' := [(0, 2), (1, 0), (2, 0)]) (t_sq (p1 := 31) (Γ' := [(0, 2), (1, 0), (2, 0), (3, 0)]) (t_istore_n (s_iconst dX12_when_29 rfl) dX12_when_30 rfl rfl rfl) (tn_to (Γ' := [(0, 2), (1, 0), (2, 0), (3, 0)]) (XA := [66]) sLX12_when_1 (lda_cons (ld_in rfl) lda_nil) rfl)) (t_ret (cv := cvI) (fun _ _ => rfl) (s_iconst dX12_when_66 rfl) dX12_when_67)))))
noncomputable def DX12_when : Fr → St → Option (Int32 × St) := M1 (fun f => (sI (sI (sR fr0 0 (gR f 0)) 1 (gI f 1)) 2 (gI f 2))) BX12_when
theorem kX12_when : SND yX12_when cX12_when 4 (some .int) 6 [(0, 2), (1, 0), (2, 0)] cvoI DX12_when := snd_I (nw := 3) (by decide) rfl rfl (fun _ _ => rfl) sBX12_when
theorem dX12_isCarry_0 : decode cX12_isCarry 0 = .ok (.iload_n 1, 1) := by decide +kernel
theorem dX12_isCarry_1 : decode cX12_isCarry 1 = .ok (.i2l, 1) := by decide +kernel
theorem dX12_isCarry_2 : decode cX12_isCarry 2 = .ok (.lconst 0, 1) := by decide +kernel
theorem dX12_isCarry_3 : decode cX12_isCarry 3 = .ok (.aload_n 0, 1) := by decide +kernel
theorem dX12_isCarry_4 : decode cX12_isCarry 4 = .ok (.invokevirtual 348, 3) := by decide +kernel
theorem dX12_isCarry_7 : decode cX12_isCarry 7 = .ok (.i2l, 1) := by decide +kernel
theorem dX12_isCarry_8 : decode cX12_isCarry 8 = .ok (.lconst 1, 1) := by decide +kernel
theorem dX12_isCarry_9 : decode cX12_isCarry 9 = .ok (.lsub, 1) := by decide +kernel
theorem dX12_isCarry_10 : decode cX12_isCarry 10 = .ok (.invokestatic 127, 3) := by decide +kernel
theorem dX12_isCarry_13 : decode cX12_isCarry 13 = .ok (.ireturn, 1) := by decide +kernel
theorem mokX12_isCarry : MOK yX12_isCarry cX12_isCarry 2 (some .boolean) 1 := ⟨w8_213, w1_13, ⟨by decide, by decide⟩, by decide +kernel, by decide⟩
abbrev miX12_isCarry : MI := (yX12_isCarry.cls, cX12_isCarry, 2, 2, false)
noncomputable def BX12_isCarry : Sm Int32 := (dRet (dCall DX12_in (aL (aL (aL aN 0 (d1 o_i2l (vI 1))) 2 (cL 0)) 4 (d2 o_lsub (d1 o_i2l (dCallV 12 DX12_carryMany (aR aN 0 (vR 0)))) (cL 1)))))
theorem sBX12_isCarry : SS (cvoI, .ireturn) miX12_isCarry [] [] [] [(0, 2), (1, 0)] [(0, 2), (1, 0)] 0 [] BX12_isCarry := (t_ret (cv := cvI) (fun _ _ => rfl) (s_of_xI (x_call (ts := [(0, 1), (2, 1), (4, 1)]) kX12_in mokX12_in w7_141 rfl rfl rfl (a_L (ts := [(0, 1), (2, 1)]) 4 (a_L (ts := [(0, 1)]) 2 (a_L (ts := []) 0 a_nil (s_i2l (s_iload_n dX12_isCarry_0 rfl rfl) dX12_isCarry_1) rfl) (s_lconst dX12_isCarry_2 rfl) rfl) (s_lsub (s_i2l (s_of_xI (x_callV (ts := [(0, 2)]) ck12 rfl kX12_carryMany mokX12_carryMany w8_152 ps6_0 rfl rfl rfl rfl (a_R (ts := []) 0 a_nil (s_aload_n dX12_isCarry_3 rfl rfl) rfl) dX12_isCarry_4 w8_150)) dX12_isCarry_7) (s_lconst dX12_isCarry_8 rfl) dX12_isCarry_9) rfl) dX12_isCarry_10 w7_140)) dX12_isCarry_13)
noncomputable def DX12_isCarry : Fr → St → Option (Int32 × St) := MZ (fun f => (sI (sR fr0 0 (gR f 0)) 1 (gI f 1))) BX12_isCarry
theorem kX12_isCarry : SND yX12_isCarry cX12_isCarry 2 (some .boolean) 2 [(0, 2), (1, 0)] cvoI DX12_isCarry := snd_Z (nw := 2) (by decide) rfl rfl (fun _ _ => rfl) sBX12_isCarry
theorem dX12_done_0 : decode cX12_done 0 = .ok (.aload_n 0, 1) := by decide +kernel
theorem dX12_done_1 : decode cX12_done 1 = .ok (.iconst 0, 1) := by decide +kernel
theorem dX12_done_2 : decode cX12_done 2 = .ok (.putfield 122, 3) := by decide +kernel
theorem dX12_done_5 : decode cX12_done 5 = .ok (.aload_n 0, 1) := by decide +kernel
theorem dX12_done_6 : decode cX12_done 6 = .ok (.iload_n 1, 1) := by decide +kernel
theorem dX12_done_7 : decode cX12_done 7 = .ok (.invokevirtual 388, 3) := by decide +kernel
theorem dX12_done_10 : decode cX12_done 10 = .ok (.ifCond .ne 6, 3) := by decide +kernel
theorem dX12_done_13 : decode cX12_done 13 = .ok (.bipush (-2), 2) := by decide +kernel
theorem dX12_done_15 : decode cX12_done 15 = .ok (.ireturn, 1) := by decide +kernel
theorem dX12_done_16 : decode cX12_done 16 = .ok (.aload_n 0, 1) := by decide +kernel
theorem dX12_done_17 : decode cX12_done 17 = .ok (.invokevirtual 382, 3) := by decide +kernel
theorem dX12_done_20 : decode cX12_done 20 = .ok (.aload_n 0, 1) := by decide +kernel
theorem dX12_done_21 : decode cX12_done 21 = .ok (.getfield 98, 3) := by decide +kernel
theorem dX12_done_24 : decode cX12_done 24 = .ok (.iload_n 1, 1) := by decide +kernel
theorem dX12_done_25 : decode cX12_done 25 = .ok (.iaload, 1) := by decide +kernel
theorem dX12_done_26 : decode cX12_done 26 = .ok (.ifCond .ne 7, 3) := by decide +kernel
theorem dX12_done_29 : decode cX12_done 29 = .ok (.iconst 1, 1) := by decide +kernel
theorem dX12_done_30 : decode cX12_done 30 = .ok (.goto 4, 3) := by decide +kernel
theorem dX12_done_33 : decode cX12_done 33 = .ok (.iconst 0, 1) := by decide +kernel
theorem dX12_done_34 : decode cX12_done 34 = .ok (.ireturn, 1) := by decide +kernel
theorem mokX12_done : MOK yX12_done cX12_done 2 (some .int) 1 := ⟨w8_209, w1_13, ⟨by decide, by decide⟩, by decide +kernel, by decide⟩
abbrev miX12_done : MI := (yX12_done.cls, cX12_done, 2, 6, false)
noncomputable def BX12_done : Sm Int32 := (dSeq (dP (fI 12 0) (vR 0) (cI 0)) (dSeq (dIf (dNot (dCZ q_ne (dCallV 12 DX12_isCarry (aI (aR aN 0 (vR 0)) 1 (vI 1))))) (dRet (cI (-2))) dSkip) (dSeq (dDo (dCallV 12 DX12_laysNow (aR aN 0 (vR 0)))) (dRet (dT (dCZ q_eq (dAI (dGR 12 42 (vR 0)) (vI 1))) (cI 1) (cI 0))))))
theorem sBX12_done : SS (cvoI, .ireturn) miX12_done [] [] [] [(0, 2), (1, 0)] [(0, 2), (1, 0)] 0 [] BX12_done := (t_sq (p1 := 5) (Γ' := [(0, 2), (1, 0)]) (t_pI ck12 0 (by decide) rfl (Or.inl rfl) (s_aload_n dX12_done_0 rfl rfl) (s_iconst dX12_done_1 rfl) dX12_done_2 w6_205 rfl) (t_sq (p1 := 16) (Γ' := [(0, 2), (1, 0)]) (t_if (pT := 13) (pF := 16) (X := [16]) (XA := []) (XB := [16]) (c_not (pT := 13) (pF := 16) (c_ne_ZJ (pT := 16) (s_of_xI (x_callV (ts := [(0, 2), (1, 0)]) ck12 rfl kX12_isCarry mokX12_isCarry w8_212 ps6_7 rfl rfl rfl rfl (a_I (ts := [(0, 2)]) 1 (a_R (ts := []) 0 a_nil (s_aload_n dX12_done_5 rfl rfl) rfl) (s_iload_n dX12_done_6 rfl rfl) rfl) dX12_done_7 w8_210)) dX12_done_10 rfl)) (t_ret (cv := cvI) (fun _ _ => rfl) (s_bipush dX12_done_13 rfl) dX12_done_15) (t_skip (ld_in rfl) rfl) lda_nil (lda_cons (ld_in rfl) lda_nil)) (t_sq (p1 := 20) (Γ' := [(0, 2), (1, 0)]) (t_do (x_callV (ts := [(0, 2)]) ck12 rfl kX12_laysNow mokX12_laysNow w8_140 ps5_13 rfl rfl rfl rfl (a_R (ts := []) 0 a_nil (s_aload_n dX12_done_16 rfl rfl) rfl) dX12_done_17 w8_138) rfl) (t_ret (cv := cvI) (fun _ _ => rfl) (s_T (pT := 29) (pF := 33) (p1 := 30) (pe := 34) (c_eq_ZF (pF := 33) (s_dAI (s_getR ck12 42 (by decide) rfl (s_aload_n dX12_done_20 rfl rfl) dX12_done_21 w7_7) (s_iload_n dX12_done_24 rfl rfl) dX12_done_25) dX12_done_26 rfl) (s_iconst dX12_done_29 rfl) (s_iconst dX12_done_33 rfl) (ld_goto (y := 34) dX12_done_30 rfl (ld_in rfl))) dX12_done_34))))
noncomputable def DX12_done : Fr → St → Option (Int32 × St) := M1 (fun f => (sI (sR fr0 0 (gR f 0)) 1 (gI f 1))) BX12_done
theorem kX12_done : SND yX12_done cX12_done 2 (some .int) 6 [(0, 2), (1, 0)] cvoI DX12_done := snd_I (nw := 2) (by decide) rfl rfl (fun _ _ => rfl) sBX12_done
theorem dX12_dones_0 : decode cX12_dones 0 = .ok (.aload_n 0, 1) := by decide +kernel
theorem dX12_dones_1 : decode cX12_dones 1 = .ok (.iconst 0, 1) := by decide +kernel
theorem dX12_dones_2 : decode cX12_dones 2 = .ok (.putfield 122, 3) := by decide +kernel
theorem dX12_dones_5 : decode cX12_dones 5 = .ok (.aload_n 0, 1) := by decide +kernel
theorem dX12_dones_6 : decode cX12_dones 6 = .ok (.invokevirtual 301, 3) := by decide +kernel
theorem dX12_dones_9 : decode cX12_dones 9 = .ok (.ifCond .ne 6, 3) := by decide +kernel
theorem dX12_dones_12 : decode cX12_dones 12 = .ok (.bipush (-2), 2) := by decide +kernel
theorem dX12_dones_14 : decode cX12_dones 14 = .ok (.ireturn, 1) := by decide +kernel
theorem dX12_dones_15 : decode cX12_dones 15 = .ok (.aload_n 0, 1) := by decide +kernel
theorem dX12_dones_16 : decode cX12_dones 16 = .ok (.invokevirtual 382, 3) := by decide +kernel
theorem dX12_dones_19 : decode cX12_dones 19 = .ok (.iconst 0, 1) := by decide +kernel
theorem dX12_dones_20 : decode cX12_dones 20 = .ok (.istore_n 1, 1) := by decide +kernel
theorem dX12_dones_21 : decode cX12_dones 21 = .ok (.iconst 0, 1) := by decide +kernel
theorem dX12_dones_22 : decode cX12_dones 22 = .ok (.istore_n 2, 1) := by decide +kernel
theorem dX12_dones_23 : decode cX12_dones 23 = .ok (.iload_n 2, 1) := by decide +kernel
theorem dX12_dones_24 : decode cX12_dones 24 = .ok (.aload_n 0, 1) := by decide +kernel
theorem dX12_dones_25 : decode cX12_dones 25 = .ok (.invokevirtual 348, 3) := by decide +kernel
theorem dX12_dones_28 : decode cX12_dones 28 = .ok (.if_icmp .ge 28, 3) := by decide +kernel
theorem dX12_dones_31 : decode cX12_dones 31 = .ok (.iload_n 1, 1) := by decide +kernel
theorem dX12_dones_32 : decode cX12_dones 32 = .ok (.aload_n 0, 1) := by decide +kernel
theorem dX12_dones_33 : decode cX12_dones 33 = .ok (.getfield 98, 3) := by decide +kernel
theorem dX12_dones_36 : decode cX12_dones 36 = .ok (.iload_n 2, 1) := by decide +kernel
theorem dX12_dones_37 : decode cX12_dones 37 = .ok (.iaload, 1) := by decide +kernel
theorem dX12_dones_38 : decode cX12_dones 38 = .ok (.ifCond .ne 9, 3) := by decide +kernel
theorem dX12_dones_41 : decode cX12_dones 41 = .ok (.iconst 1, 1) := by decide +kernel
theorem dX12_dones_42 : decode cX12_dones 42 = .ok (.iload_n 2, 1) := by decide +kernel
theorem dX12_dones_43 : decode cX12_dones 43 = .ok (.ishl, 1) := by decide +kernel
theorem dX12_dones_44 : decode cX12_dones 44 = .ok (.goto 4, 3) := by decide +kernel
theorem dX12_dones_47 : decode cX12_dones 47 = .ok (.iconst 0, 1) := by decide +kernel
theorem dX12_dones_48 : decode cX12_dones 48 = .ok (.ior, 1) := by decide +kernel
theorem dX12_dones_49 : decode cX12_dones 49 = .ok (.istore_n 1, 1) := by decide +kernel
theorem dX12_dones_50 : decode cX12_dones 50 = .ok (.iinc 2 1, 3) := by decide +kernel
theorem dX12_dones_53 : decode cX12_dones 53 = .ok (.goto (-30), 3) := by decide +kernel
theorem dX12_dones_56 : decode cX12_dones 56 = .ok (.iload_n 1, 1) := by decide +kernel
theorem dX12_dones_57 : decode cX12_dones 57 = .ok (.ireturn, 1) := by decide +kernel
theorem mokX12_dones : MOK yX12_dones cX12_dones 3 (some .int) 0 := ⟨w8_217, w1_13, ⟨by decide, by decide⟩, by decide +kernel, by decide⟩
abbrev miX12_dones : MI := (yX12_dones.cls, cX12_dones, 3, 6, false)
noncomputable def LX12_dones_1 : Sm Int32 := dLoop (fun f => (sI (sI (sR fr0 0 (gR f 0)) 1 (gI f 1)) 2 (gI f 2))) (dCI r_lt (vI 2) (dCallV 12 DX12_carryMany (aR aN 0 (vR 0)))) (dSetI 1 (d2 o_ior (vI 1) (dT (dCZ q_eq (dAI (dGR 12 42 (vR 0)) (vI 2))) (d2 o_ishl (cI 1) (vI 2)) (cI 0)))) (dInc 2 1)
theorem sLX12_dones_1 {ΓL : Gm} {PB PK : List Nat} : SS (cvoI, .ireturn) miX12_dones ΓL PB PK [(0, 2), (1, 0), (2, 0)] [(0, 2), (1, 0), (2, 0)] 23 [56] LX12_dones_1 := t_loop (pT := 31) (pF := 56) (pu := 50) (PB' := []) (PK' := []) (XB := [50]) (XU := [53]) (fun _ _ => rfl) rfl (c_lt_F (pF := 56) (s_iload_n dX12_dones_23 rfl rfl) (s_of_xI (x_callV (ts := [(0, 2)]) ck12 rfl kX12_carryMany mokX12_carryMany w8_152 ps6_0 rfl rfl rfl rfl (a_R (ts := []) 0 a_nil (s_aload_n dX12_dones_24 rfl rfl) rfl) dX12_dones_25 w8_150)) dX12_dones_28 rfl) (t_istore_n (s_ior (s_iload_n dX12_dones_31 rfl rfl) (s_T (pT := 41) (pF := 47) (p1 := 44) (pe := 48) (c_eq_ZF (pF := 47) (s_dAI (s_getR ck12 42 (by decide) rfl (s_aload_n dX12_dones_32 rfl rfl) dX12_dones_33 w7_7) (s_iload_n dX12_dones_36 rfl rfl) dX12_dones_37) dX12_dones_38 rfl) (s_ishl (s_iconst dX12_dones_41 rfl) (s_iload_n dX12_dones_42 rfl rfl) dX12_dones_43) (s_iconst dX12_dones_47 rfl) (ld_goto (y := 48) dX12_dones_44 rfl (ld_in rfl))) dX12_dones_48) dX12_dones_49 rfl rfl rfl) (t_iinc dX12_dones_50 rfl rfl rfl rfl) (lda_cons (ld_in rfl) lda_nil) lda_nil (lda_cons (ld_goto (y := 23) dX12_dones_53 rfl (ld_in rfl)) lda_nil) (ld_in rfl) lda_nil
noncomputable def BX12_dones : Sm Int32 := (dSeq (dP (fI 12 0) (vR 0) (cI 0)) (dSeq (dIf (dNot (dCZ q_ne (dCallV 12 DX12_isPort (aR aN 0 (vR 0))))) (dRet (cI (-2))) dSkip) (dSeq (dDo (dCallV 12 DX12_laysNow (aR aN 0 (vR 0)))) (dSeq (dSetI 1 (cI 0)) (dSeq (dSeq (dSetI 2 (cI 0)) LX12_dones_1) (dRet (vI 1)))))))
theorem sBX12_dones : SS (cvoI, .ireturn) miX12_dones [] [] [] [(0, 2)] [(0, 2)] 0 [] BX12_dones := (t_sq (p1 := 5) (Γ' := [(0, 2)]) (t_pI ck12 0 (by decide) rfl (Or.inl rfl) (s_aload_n dX12_dones_0 rfl rfl) (s_iconst dX12_dones_1 rfl) dX12_dones_2 w6_205 rfl) (t_sq (p1 := 15) (Γ' := [(0, 2)]) (t_if (pT := 12) (pF := 15) (X := [15]) (XA := []) (XB := [15]) (c_not (pT := 12) (pF := 15) (c_ne_ZJ (pT := 15) (s_of_xI (x_callV (ts := [(0, 2)]) ck12 rfl kX12_isPort mokX12_isPort w8_132 ps5_11 rfl rfl rfl rfl (a_R (ts := []) 0 a_nil (s_aload_n dX12_dones_5 rfl rfl) rfl) dX12_dones_6 w8_130)) dX12_dones_9 rfl)) (t_ret (cv := cvI) (fun _ _ => rfl) (s_bipush dX12_dones_12 rfl) dX12_dones_14) (t_skip (ld_in rfl) rfl) lda_nil (lda_cons (ld_in rfl) lda_nil)) (t_sq (p1 := 19) (Γ' := [(0, 2)]) (t_do (x_callV (ts := [(0, 2)]) ck12 rfl kX12_laysNow mokX12_laysNow w8_140 ps5_13 rfl rfl rfl rfl (a_R (ts := []) 0 a_nil (s_aload_n dX12_dones_15 rfl rfl) rfl) dX12_dones_16 w8_138) rfl) (t_sq (p1 := 21) (Γ' := [(0, 2), (1, 0)]) (t_istore_n (s_iconst dX12_dones_19 rfl) dX12_dones_20 rfl rfl rfl) (t_sq (p1 := 56) (Γ' := [(0, 2), (1, 0)]) (t_sq (p1 := 23) (Γ' := [(0, 2), (1, 0), (2, 0)]) (t_istore_n (s_iconst dX12_dones_21 rfl) dX12_dones_22 rfl rfl rfl) (tn_to (Γ' := [(0, 2), (1, 0), (2, 0)]) (XA := [56]) sLX12_dones_1 (lda_cons (ld_in rfl) lda_nil) rfl)) (t_ret (cv := cvI) (fun _ _ => rfl) (s_iload_n dX12_dones_56 rfl rfl) dX12_dones_57))))))
noncomputable def DX12_dones : Fr → St → Option (Int32 × St) := M1 (fun f => (sR fr0 0 (gR f 0))) BX12_dones
theorem kX12_dones : SND yX12_dones cX12_dones 3 (some .int) 6 [(0, 2)] cvoI DX12_dones := snd_I (nw := 1) (by decide) rfl rfl (fun _ _ => rfl) sBX12_dones
theorem dX12_why_0 : decode cX12_why 0 = .ok (.aload_n 0, 1) := by decide +kernel
theorem dX12_why_1 : decode cX12_why 1 = .ok (.iconst 0, 1) := by decide +kernel
theorem dX12_why_2 : decode cX12_why 2 = .ok (.putfield 122, 3) := by decide +kernel
theorem dX12_why_5 : decode cX12_why 5 = .ok (.aload_n 0, 1) := by decide +kernel
theorem dX12_why_6 : decode cX12_why 6 = .ok (.iload_n 1, 1) := by decide +kernel
theorem dX12_why_7 : decode cX12_why 7 = .ok (.invokevirtual 388, 3) := by decide +kernel
theorem dX12_why_10 : decode cX12_why 10 = .ok (.ifCond .ne 6, 3) := by decide +kernel
theorem dX12_why_13 : decode cX12_why 13 = .ok (.bipush (-2), 2) := by decide +kernel
theorem dX12_why_15 : decode cX12_why 15 = .ok (.ireturn, 1) := by decide +kernel
theorem dX12_why_16 : decode cX12_why 16 = .ok (.aload_n 0, 1) := by decide +kernel
theorem dX12_why_17 : decode cX12_why 17 = .ok (.invokevirtual 382, 3) := by decide +kernel
theorem dX12_why_20 : decode cX12_why 20 = .ok (.aload_n 0, 1) := by decide +kernel
theorem dX12_why_21 : decode cX12_why 21 = .ok (.getfield 98, 3) := by decide +kernel
theorem dX12_why_24 : decode cX12_why 24 = .ok (.iload_n 1, 1) := by decide +kernel
theorem dX12_why_25 : decode cX12_why 25 = .ok (.iaload, 1) := by decide +kernel
theorem dX12_why_26 : decode cX12_why 26 = .ok (.ireturn, 1) := by decide +kernel
theorem mokX12_why : MOK yX12_why cX12_why 2 (some .int) 1 := ⟨w8_221, w1_13, ⟨by decide, by decide⟩, by decide +kernel, by decide⟩
abbrev miX12_why : MI := (yX12_why.cls, cX12_why, 2, 6, false)
noncomputable def BX12_why : Sm Int32 := (dSeq (dP (fI 12 0) (vR 0) (cI 0)) (dSeq (dIf (dNot (dCZ q_ne (dCallV 12 DX12_isCarry (aI (aR aN 0 (vR 0)) 1 (vI 1))))) (dRet (cI (-2))) dSkip) (dSeq (dDo (dCallV 12 DX12_laysNow (aR aN 0 (vR 0)))) (dRet (dAI (dGR 12 42 (vR 0)) (vI 1))))))
theorem sBX12_why : SS (cvoI, .ireturn) miX12_why [] [] [] [(0, 2), (1, 0)] [(0, 2), (1, 0)] 0 [] BX12_why := (t_sq (p1 := 5) (Γ' := [(0, 2), (1, 0)]) (t_pI ck12 0 (by decide) rfl (Or.inl rfl) (s_aload_n dX12_why_0 rfl rfl) (s_iconst dX12_why_1 rfl) dX12_why_2 w6_205 rfl) (t_sq (p1 := 16) (Γ' := [(0, 2), (1, 0)]) (t_if (pT := 13) (pF := 16) (X := [16]) (XA := []) (XB := [16]) (c_not (pT := 13) (pF := 16) (c_ne_ZJ (pT := 16) (s_of_xI (x_callV (ts := [(0, 2), (1, 0)]) ck12 rfl kX12_isCarry mokX12_isCarry w8_212 ps6_7 rfl rfl rfl rfl (a_I (ts := [(0, 2)]) 1 (a_R (ts := []) 0 a_nil (s_aload_n dX12_why_5 rfl rfl) rfl) (s_iload_n dX12_why_6 rfl rfl) rfl) dX12_why_7 w8_210)) dX12_why_10 rfl)) (t_ret (cv := cvI) (fun _ _ => rfl) (s_bipush dX12_why_13 rfl) dX12_why_15) (t_skip (ld_in rfl) rfl) lda_nil (lda_cons (ld_in rfl) lda_nil)) (t_sq (p1 := 20) (Γ' := [(0, 2), (1, 0)]) (t_do (x_callV (ts := [(0, 2)]) ck12 rfl kX12_laysNow mokX12_laysNow w8_140 ps5_13 rfl rfl rfl rfl (a_R (ts := []) 0 a_nil (s_aload_n dX12_why_16 rfl rfl) rfl) dX12_why_17 w8_138) rfl) (t_ret (cv := cvI) (fun _ _ => rfl) (s_dAI (s_getR ck12 42 (by decide) rfl (s_aload_n dX12_why_20 rfl rfl) dX12_why_21 w7_7) (s_iload_n dX12_why_24 rfl rfl) dX12_why_25) dX12_why_26))))
noncomputable def DX12_why : Fr → St → Option (Int32 × St) := M1 (fun f => (sI (sR fr0 0 (gR f 0)) 1 (gI f 1))) BX12_why
theorem kX12_why : SND yX12_why cX12_why 2 (some .int) 6 [(0, 2), (1, 0)] cvoI DX12_why := snd_I (nw := 2) (by decide) rfl rfl (fun _ _ => rfl) sBX12_why
theorem dX12_load_0 : decode cX12_load 0 = .ok (.aload_n 0, 1) := by decide +kernel
theorem dX12_load_1 : decode cX12_load 1 = .ok (.iconst 0, 1) := by decide +kernel
theorem dX12_load_2 : decode cX12_load 2 = .ok (.putfield 122, 3) := by decide +kernel
theorem dX12_load_5 : decode cX12_load 5 = .ok (.aload_n 0, 1) := by decide +kernel
theorem dX12_load_6 : decode cX12_load 6 = .ok (.iload_n 1, 1) := by decide +kernel
theorem dX12_load_7 : decode cX12_load 7 = .ok (.invokevirtual 388, 3) := by decide +kernel
theorem dX12_load_10 : decode cX12_load 10 = .ok (.ifCond .ne 6, 3) := by decide +kernel
theorem dX12_load_13 : decode cX12_load 13 = .ok (.bipush (-2), 2) := by decide +kernel
theorem dX12_load_15 : decode cX12_load 15 = .ok (.ireturn, 1) := by decide +kernel
theorem dX12_load_16 : decode cX12_load 16 = .ok (.aload_n 0, 1) := by decide +kernel
theorem dX12_load_17 : decode cX12_load 17 = .ok (.invokevirtual 382, 3) := by decide +kernel
theorem dX12_load_20 : decode cX12_load 20 = .ok (.aload_n 0, 1) := by decide +kernel
theorem dX12_load_21 : decode cX12_load 21 = .ok (.getfield 98, 3) := by decide +kernel
theorem dX12_load_24 : decode cX12_load 24 = .ok (.iload_n 1, 1) := by decide +kernel
theorem dX12_load_25 : decode cX12_load 25 = .ok (.iaload, 1) := by decide +kernel
theorem dX12_load_26 : decode cX12_load 26 = .ok (.ifCond .ne 12, 3) := by decide +kernel
theorem dX12_load_29 : decode cX12_load 29 = .ok (.aload_n 0, 1) := by decide +kernel
theorem dX12_load_30 : decode cX12_load 30 = .ok (.getfield 101, 3) := by decide +kernel
theorem dX12_load_33 : decode cX12_load 33 = .ok (.iload_n 1, 1) := by decide +kernel
theorem dX12_load_34 : decode cX12_load 34 = .ok (.iaload, 1) := by decide +kernel
theorem dX12_load_35 : decode cX12_load 35 = .ok (.goto 4, 3) := by decide +kernel
theorem dX12_load_38 : decode cX12_load 38 = .ok (.iconst (-1), 1) := by decide +kernel
theorem dX12_load_39 : decode cX12_load 39 = .ok (.ireturn, 1) := by decide +kernel
theorem mokX12_load : MOK yX12_load cX12_load 2 (some .int) 1 := ⟨w8_225, w1_13, ⟨by decide, by decide⟩, by decide +kernel, by decide⟩
abbrev miX12_load : MI := (yX12_load.cls, cX12_load, 2, 6, false)
noncomputable def BX12_load : Sm Int32 := (dSeq (dP (fI 12 0) (vR 0) (cI 0)) (dSeq (dIf (dNot (dCZ q_ne (dCallV 12 DX12_isCarry (aI (aR aN 0 (vR 0)) 1 (vI 1))))) (dRet (cI (-2))) dSkip) (dSeq (dDo (dCallV 12 DX12_laysNow (aR aN 0 (vR 0)))) (dRet (dT (dCZ q_eq (dAI (dGR 12 42 (vR 0)) (vI 1))) (dAI (dGR 12 43 (vR 0)) (vI 1)) (cI (-1)))))))
theorem sBX12_load : SS (cvoI, .ireturn) miX12_load [] [] [] [(0, 2), (1, 0)] [(0, 2), (1, 0)] 0 [] BX12_load := (t_sq (p1 := 5) (Γ' := [(0, 2), (1, 0)]) (t_pI ck12 0 (by decide) rfl (Or.inl rfl) (s_aload_n dX12_load_0 rfl rfl) (s_iconst dX12_load_1 rfl) dX12_load_2 w6_205 rfl) (t_sq (p1 := 16) (Γ' := [(0, 2), (1, 0)]) (t_if (pT := 13) (pF := 16) (X := [16]) (XA := []) (XB := [16]) (c_not (pT := 13) (pF := 16) (c_ne_ZJ (pT := 16) (s_of_xI (x_callV (ts := [(0, 2), (1, 0)]) ck12 rfl kX12_isCarry mokX12_isCarry w8_212 ps6_7 rfl rfl rfl rfl (a_I (ts := [(0, 2)]) 1 (a_R (ts := []) 0 a_nil (s_aload_n dX12_load_5 rfl rfl) rfl) (s_iload_n dX12_load_6 rfl rfl) rfl) dX12_load_7 w8_210)) dX12_load_10 rfl)) (t_ret (cv := cvI) (fun _ _ => rfl) (s_bipush dX12_load_13 rfl) dX12_load_15) (t_skip (ld_in rfl) rfl) lda_nil (lda_cons (ld_in rfl) lda_nil)) (t_sq (p1 := 20) (Γ' := [(0, 2), (1, 0)]) (t_do (x_callV (ts := [(0, 2)]) ck12 rfl kX12_laysNow mokX12_laysNow w8_140 ps5_13 rfl rfl rfl rfl (a_R (ts := []) 0 a_nil (s_aload_n dX12_load_16 rfl rfl) rfl) dX12_load_17 w8_138) rfl) (t_ret (cv := cvI) (fun _ _ => rfl) (s_T (pT := 29) (pF := 38) (p1 := 35) (pe := 39) (c_eq_ZF (pF := 38) (s_dAI (s_getR ck12 42 (by decide) rfl (s_aload_n dX12_load_20 rfl rfl) dX12_load_21 w7_7) (s_iload_n dX12_load_24 rfl rfl) dX12_load_25) dX12_load_26 rfl) (s_dAI (s_getR ck12 43 (by decide) rfl (s_aload_n dX12_load_29 rfl rfl) dX12_load_30 w7_8) (s_iload_n dX12_load_33 rfl rfl) dX12_load_34) (s_iconst dX12_load_38 rfl) (ld_goto (y := 39) dX12_load_35 rfl (ld_in rfl))) dX12_load_39))))
noncomputable def DX12_load : Fr → St → Option (Int32 × St) := M1 (fun f => (sI (sR fr0 0 (gR f 0)) 1 (gI f 1))) BX12_load
theorem kX12_load : SND yX12_load cX12_load 2 (some .int) 6 [(0, 2), (1, 0)] cvoI DX12_load := snd_I (nw := 2) (by decide) rfl rfl (fun _ _ => rfl) sBX12_load
theorem dX12_idle_0 : decode cX12_idle 0 = .ok (.aload_n 0, 1) := by decide +kernel
theorem dX12_idle_1 : decode cX12_idle 1 = .ok (.iconst 0, 1) := by decide +kernel
theorem dX12_idle_2 : decode cX12_idle 2 = .ok (.putfield 122, 3) := by decide +kernel
theorem dX12_idle_5 : decode cX12_idle 5 = .ok (.aload_n 0, 1) := by decide +kernel
theorem dX12_idle_6 : decode cX12_idle 6 = .ok (.iload_n 1, 1) := by decide +kernel
theorem dX12_idle_7 : decode cX12_idle 7 = .ok (.invokevirtual 391, 3) := by decide +kernel
theorem dX12_idle_10 : decode cX12_idle 10 = .ok (.ifCond .ne 6, 3) := by decide +kernel
theorem dX12_idle_13 : decode cX12_idle 13 = .ok (.bipush (-2), 2) := by decide +kernel
theorem dX12_idle_15 : decode cX12_idle 15 = .ok (.ireturn, 1) := by decide +kernel
theorem dX12_idle_16 : decode cX12_idle 16 = .ok (.aload_n 0, 1) := by decide +kernel
theorem dX12_idle_17 : decode cX12_idle 17 = .ok (.invokevirtual 382, 3) := by decide +kernel
theorem dX12_idle_20 : decode cX12_idle 20 = .ok (.iconst 1, 1) := by decide +kernel
theorem dX12_idle_21 : decode cX12_idle 21 = .ok (.aload_n 0, 1) := by decide +kernel
theorem dX12_idle_22 : decode cX12_idle 22 = .ok (.invokevirtual 295, 3) := by decide +kernel
theorem dX12_idle_25 : decode cX12_idle 25 = .ok (.ishl, 1) := by decide +kernel
theorem dX12_idle_26 : decode cX12_idle 26 = .ok (.iconst 1, 1) := by decide +kernel
theorem dX12_idle_27 : decode cX12_idle 27 = .ok (.isub, 1) := by decide +kernel
theorem dX12_idle_28 : decode cX12_idle 28 = .ok (.istore_n 2, 1) := by decide +kernel
theorem dX12_idle_29 : decode cX12_idle 29 = .ok (.iconst 0, 1) := by decide +kernel
theorem dX12_idle_30 : decode cX12_idle 30 = .ok (.istore_n 3, 1) := by decide +kernel
theorem dX12_idle_31 : decode cX12_idle 31 = .ok (.iload_n 3, 1) := by decide +kernel
theorem dX12_idle_32 : decode cX12_idle 32 = .ok (.aload_n 0, 1) := by decide +kernel
theorem dX12_idle_33 : decode cX12_idle 33 = .ok (.invokevirtual 348, 3) := by decide +kernel
theorem dX12_idle_36 : decode cX12_idle 36 = .ok (.if_icmp .ge 41, 3) := by decide +kernel
theorem dX12_idle_39 : decode cX12_idle 39 = .ok (.aload_n 0, 1) := by decide +kernel
theorem dX12_idle_40 : decode cX12_idle 40 = .ok (.getfield 98, 3) := by decide +kernel
theorem dX12_idle_43 : decode cX12_idle 43 = .ok (.iload_n 3, 1) := by decide +kernel
theorem dX12_idle_44 : decode cX12_idle 44 = .ok (.iaload, 1) := by decide +kernel
theorem dX12_idle_45 : decode cX12_idle 45 = .ok (.ifCond .ne 26, 3) := by decide +kernel
theorem dX12_idle_48 : decode cX12_idle 48 = .ok (.aload_n 0, 1) := by decide +kernel
theorem dX12_idle_49 : decode cX12_idle 49 = .ok (.iload_n 3, 1) := by decide +kernel
theorem dX12_idle_50 : decode cX12_idle 50 = .ok (.iconst 3, 1) := by decide +kernel
theorem dX12_idle_51 : decode cX12_idle 51 = .ok (.invokevirtual 326, 3) := by decide +kernel
theorem dX12_idle_54 : decode cX12_idle 54 = .ok (.iload_n 1, 1) := by decide +kernel
theorem dX12_idle_55 : decode cX12_idle 55 = .ok (.if_icmp .ne 16, 3) := by decide +kernel
theorem dX12_idle_58 : decode cX12_idle 58 = .ok (.iload_n 2, 1) := by decide +kernel
theorem dX12_idle_59 : decode cX12_idle 59 = .ok (.iconst 1, 1) := by decide +kernel
theorem dX12_idle_60 : decode cX12_idle 60 = .ok (.aload_n 0, 1) := by decide +kernel
theorem dX12_idle_61 : decode cX12_idle 61 = .ok (.iload_n 3, 1) := by decide +kernel
theorem dX12_idle_62 : decode cX12_idle 62 = .ok (.iconst 0, 1) := by decide +kernel
theorem dX12_idle_63 : decode cX12_idle 63 = .ok (.invokevirtual 326, 3) := by decide +kernel
theorem dX12_idle_66 : decode cX12_idle 66 = .ok (.ishl, 1) := by decide +kernel
theorem dX12_idle_67 : decode cX12_idle 67 = .ok (.iconst (-1), 1) := by decide +kernel
theorem dX12_idle_68 : decode cX12_idle 68 = .ok (.ixor, 1) := by decide +kernel
theorem dX12_idle_69 : decode cX12_idle 69 = .ok (.iand, 1) := by decide +kernel
theorem dX12_idle_70 : decode cX12_idle 70 = .ok (.istore_n 2, 1) := by decide +kernel
theorem dX12_idle_71 : decode cX12_idle 71 = .ok (.iinc 3 1, 3) := by decide +kernel
theorem dX12_idle_74 : decode cX12_idle 74 = .ok (.goto (-43), 3) := by decide +kernel
theorem dX12_idle_77 : decode cX12_idle 77 = .ok (.iload_n 2, 1) := by decide +kernel
theorem dX12_idle_78 : decode cX12_idle 78 = .ok (.ireturn, 1) := by decide +kernel
theorem mokX12_idle : MOK yX12_idle cX12_idle 4 (some .int) 1 := ⟨w8_229, w1_13, ⟨by decide, by decide⟩, by decide +kernel, by decide⟩
abbrev miX12_idle : MI := (yX12_idle.cls, cX12_idle, 4, 6, false)
noncomputable def LX12_idle_1 : Sm Int32 := dLoop (fun f => (sI (sI (sI (sR fr0 0 (gR f 0)) 1 (gI f 1)) 2 (gI f 2)) 3 (gI f 3))) (dCI r_lt (vI 3) (dCallV 12 DX12_carryMany (aR aN 0 (vR 0)))) (dIf (dAnd (dCZ q_eq (dAI (dGR 12 42 (vR 0)) (vI 3))) (dCI r_eq (dCallV 12 DX12_carryPart (aI (aI (aR aN 0 (vR 0)) 1 (vI 3)) 2 (cI 3))) (vI 1))) (dSetI 2 (d2 o_iand (vI 2) (d2 o_ixor (d2 o_ishl (cI 1) (dCallV 12 DX12_carryPart (aI (aI (aR aN 0 (vR 0)) 1 (vI 3)) 2 (cI 0)))) (cI (-1))))) dSkip) (dInc 3 1)
theorem sLX12_idle_1 {ΓL : Gm} {PB PK : List Nat} : SS (cvoI, .ireturn) miX12_idle ΓL PB PK [(0, 2), (1, 0), (2, 0), (3, 0)] [(0, 2), (1, 0), (2, 0), (3, 0)] 31 [77] LX12_idle_1 := t_loop (pT := 39) (pF := 77) (pu := 71) (PB' := []) (PK' := []) (XB := [71]) (XU := [74]) (fun _ _ => rfl) rfl (c_lt_F (pF := 77) (s_iload_n dX12_idle_31 rfl rfl) (s_of_xI (x_callV (ts := [(0, 2)]) ck12 rfl kX12_carryMany mokX12_carryMany w8_152 ps6_0 rfl rfl rfl rfl (a_R (ts := []) 0 a_nil (s_aload_n dX12_idle_32 rfl rfl) rfl) dX12_idle_33 w8_150)) dX12_idle_36 rfl) (t_if (pT := 58) (pF := 71) (X := [71]) (XA := [71]) (XB := [71]) (c_and (p1 := 48) (pT := 58) (pF := 71) (c_eq_ZF (pF := 71) (s_dAI (s_getR ck12 42 (by decide) rfl (s_aload_n dX12_idle_39 rfl rfl) dX12_idle_40 w7_7) (s_iload_n dX12_idle_43 rfl rfl) dX12_idle_44) dX12_idle_45 rfl) (c_eq_F (pF := 71) (s_of_xI (x_callV (ts := [(0, 2), (1, 0), (2, 0)]) ck12 rfl kX12_carryPart mokX12_carryPart w8_156 ps6_1 rfl rfl rfl rfl (a_I (ts := [(0, 2), (1, 0)]) 2 (a_I (ts := [(0, 2)]) 1 (a_R (ts := []) 0 a_nil (s_aload_n dX12_idle_48 rfl rfl) rfl) (s_iload_n dX12_idle_49 rfl rfl) rfl) (s_iconst dX12_idle_50 rfl) rfl) dX12_idle_51 w8_154)) (s_iload_n dX12_idle_54 rfl rfl) dX12_idle_55 rfl)) (t_istore_n (s_iand (s_iload_n dX12_idle_58 rfl rfl) (s_ixor (s_ishl (s_iconst dX12_idle_59 rfl) (s_of_xI (x_callV (ts := [(0, 2), (1, 0), (2, 0)]) ck12 rfl kX12_carryPart mokX12_carryPart w8_156 ps6_1 rfl rfl rfl rfl (a_I (ts := [(0, 2), (1, 0)]) 2 (a_I (ts := [(0, 2)]) 1 (a_R (ts := []) 0 a_nil (s_aload_n dX12_idle_60 rfl rfl) rfl) (s_iload_n dX12_idle_61 rfl rfl) rfl) (s_iconst dX12_idle_62 rfl) rfl) dX12_idle_63 w8_154)) dX12_idle_66) (s_iconst dX12_idle_67 rfl) dX12_idle_68) dX12_idle_69) dX12_idle_70 rfl rfl rfl) (t_skip (ld_in rfl) rfl) (lda_cons (ld_in rfl) lda_nil) (lda_cons (ld_in rfl) lda_nil)) (t_iinc dX12_idle_71 rfl rfl rfl rfl) (lda_cons (ld_in rfl) lda_nil) lda_nil (lda_cons (ld_goto (y := 31) dX12_idle_74 rfl (ld_in rfl)) lda_nil) (ld_in rfl) lda_nil
noncomputable def BX12_idle : Sm Int32 := (dSeq (dP (fI 12 0) (vR 0) (cI 0)) (dSeq (dIf (dNot (dCZ q_ne (dCallV 12 DX12_isAhead (aI (aR aN 0 (vR 0)) 1 (vI 1))))) (dRet (cI (-2))) dSkip) (dSeq (dDo (dCallV 12 DX12_laysNow (aR aN 0 (vR 0)))) (dSeq (dSetI 2 (d2 o_isub (d2 o_ishl (cI 1) (dCallV 12 DX12_carriers (aR aN 0 (vR 0)))) (cI 1))) (dSeq (dSeq (dSetI 3 (cI 0)) LX12_idle_1) (dRet (vI 2)))))))
theorem sBX12_idle : SS (cvoI, .ireturn) miX12_idle [] [] [] [(0, 2), (1, 0)] [(0, 2), (1, 0)] 0 [] BX12_idle := (t_sq (p1 := 5) (Γ' := [(0, 2), (1, 0)]) (t_pI ck12 0 (by decide) rfl (Or.inl rfl) (s_aload_n dX12_idle_0 rfl rfl) (s_iconst dX12_idle_1 rfl) dX12_idle_2 w6_205 rfl) (t_sq (p1 := 16) (Γ' := [(0, 2), (1, 0)]) (t_if (pT := 13) (pF := 16) (X := [16]) (XA := []) (XB := [16]) (c_not (pT := 13) (pF := 16) (c_ne_ZJ (pT := 16) (s_of_xI (x_callV (ts := [(0, 2), (1, 0)]) ck12 rfl kX12_isAhead mokX12_isAhead w8_232 ps6_8 rfl rfl rfl rfl (a_I (ts := [(0, 2)]) 1 (a_R (ts := []) 0 a_nil (s_aload_n dX12_idle_5 rfl rfl) rfl) (s_iload_n dX12_idle_6 rfl rfl) rfl) dX12_idle_7 w8_230)) dX12_idle_10 rfl)) (t_ret (cv := cvI) (fun _ _ => rfl) (s_bipush dX12_idle_13 rfl) dX12_idle_15) (t_skip (ld_in rfl) rfl) lda_nil (lda_cons (ld_in rfl) lda_nil)) (t_sq (p1 := 20) (Γ' := [(0, 2), (1, 0)]) (t_do (x_callV (ts := [(0, 2)]) ck12 rfl kX12_laysNow mokX12_laysNow w8_140 ps5_13 rfl rfl rfl rfl (a_R (ts := []) 0 a_nil (s_aload_n dX12_idle_16 rfl rfl) rfl) dX12_idle_17 w8_138) rfl) (t_sq (p1 := 29) (Γ' := [(0, 2), (1, 0), (2, 0)]) (t_istore_n (s_isub (s_ishl (s_iconst dX12_idle_20 rfl) (s_of_xI (x_callV (ts := [(0, 2)]) ck12 rfl kX12_carriers mokX12_carriers w8_74 ps5_3 rfl rfl rfl rfl (a_R (ts := []) 0 a_nil (s_aload_n dX12_idle_21 rfl rfl) rfl) dX12_idle_22 w8_72)) dX12_idle_25) (s_iconst dX12_idle_26 rfl) dX12_idle_27) dX12_idle_28 rfl rfl rfl) (t_sq (p1 := 77) (Γ' := [(0, 2), (1, 0), (2, 0)]) (t_sq (p1 := 31) (Γ' := [(0, 2), (1, 0), (2, 0), (3, 0)]) (t_istore_n (s_iconst dX12_idle_29 rfl) dX12_idle_30 rfl rfl rfl) (tn_to (Γ' := [(0, 2), (1, 0), (2, 0), (3, 0)]) (XA := [77]) sLX12_idle_1 (lda_cons (ld_in rfl) lda_nil) rfl)) (t_ret (cv := cvI) (fun _ _ => rfl) (s_iload_n dX12_idle_77 rfl rfl) dX12_idle_78))))))
noncomputable def DX12_idle : Fr → St → Option (Int32 × St) := M1 (fun f => (sI (sR fr0 0 (gR f 0)) 1 (gI f 1))) BX12_idle
theorem kX12_idle : SND yX12_idle cX12_idle 4 (some .int) 6 [(0, 2), (1, 0)] cvoI DX12_idle := snd_I (nw := 2) (by decide) rfl rfl (fun _ _ => rfl) sBX12_idle
theorem dX12_moves_0 : decode cX12_moves 0 = .ok (.aload_n 0, 1) := by decide +kernel
theorem dX12_moves_1 : decode cX12_moves 1 = .ok (.iconst 0, 1) := by decide +kernel
theorem dX12_moves_2 : decode cX12_moves 2 = .ok (.putfield 122, 3) := by decide +kernel
theorem dX12_moves_5 : decode cX12_moves 5 = .ok (.aload_n 0, 1) := by decide +kernel
theorem dX12_moves_6 : decode cX12_moves 6 = .ok (.iload_n 1, 1) := by decide +kernel
theorem dX12_moves_7 : decode cX12_moves 7 = .ok (.invokevirtual 372, 3) := by decide +kernel
theorem dX12_moves_10 : decode cX12_moves 10 = .ok (.ifCond .ne 6, 3) := by decide +kernel
theorem dX12_moves_13 : decode cX12_moves 13 = .ok (.bipush (-2), 2) := by decide +kernel
theorem dX12_moves_15 : decode cX12_moves 15 = .ok (.ireturn, 1) := by decide +kernel
theorem dX12_moves_16 : decode cX12_moves 16 = .ok (.aload_n 0, 1) := by decide +kernel
theorem dX12_moves_17 : decode cX12_moves 17 = .ok (.invokevirtual 382, 3) := by decide +kernel
theorem dX12_moves_20 : decode cX12_moves 20 = .ok (.iconst 0, 1) := by decide +kernel
theorem dX12_moves_21 : decode cX12_moves 21 = .ok (.istore_n 2, 1) := by decide +kernel
theorem dX12_moves_22 : decode cX12_moves 22 = .ok (.iconst 0, 1) := by decide +kernel
theorem dX12_moves_23 : decode cX12_moves 23 = .ok (.istore_n 3, 1) := by decide +kernel
theorem dX12_moves_24 : decode cX12_moves 24 = .ok (.iload_n 3, 1) := by decide +kernel
theorem dX12_moves_25 : decode cX12_moves 25 = .ok (.aload_n 0, 1) := by decide +kernel
theorem dX12_moves_26 : decode cX12_moves 26 = .ok (.invokevirtual 348, 3) := by decide +kernel
theorem dX12_moves_29 : decode cX12_moves 29 = .ok (.if_icmp .ge 36, 3) := by decide +kernel
theorem dX12_moves_32 : decode cX12_moves 32 = .ok (.iload_n 2, 1) := by decide +kernel
theorem dX12_moves_33 : decode cX12_moves 33 = .ok (.aload_n 0, 1) := by decide +kernel
theorem dX12_moves_34 : decode cX12_moves 34 = .ok (.getfield 98, 3) := by decide +kernel
theorem dX12_moves_37 : decode cX12_moves 37 = .ok (.iload_n 3, 1) := by decide +kernel
theorem dX12_moves_38 : decode cX12_moves 38 = .ok (.iaload, 1) := by decide +kernel
theorem dX12_moves_39 : decode cX12_moves 39 = .ok (.ifCond .ne 17, 3) := by decide +kernel
theorem dX12_moves_42 : decode cX12_moves 42 = .ok (.aload_n 0, 1) := by decide +kernel
theorem dX12_moves_43 : decode cX12_moves 43 = .ok (.iload_n 3, 1) := by decide +kernel
theorem dX12_moves_44 : decode cX12_moves 44 = .ok (.iconst 1, 1) := by decide +kernel
theorem dX12_moves_45 : decode cX12_moves 45 = .ok (.invokevirtual 326, 3) := by decide +kernel
theorem dX12_moves_48 : decode cX12_moves 48 = .ok (.iload_n 1, 1) := by decide +kernel
theorem dX12_moves_49 : decode cX12_moves 49 = .ok (.if_icmp .ne 7, 3) := by decide +kernel
theorem dX12_moves_52 : decode cX12_moves 52 = .ok (.iconst 1, 1) := by decide +kernel
theorem dX12_moves_53 : decode cX12_moves 53 = .ok (.goto 4, 3) := by decide +kernel
theorem dX12_moves_56 : decode cX12_moves 56 = .ok (.iconst 0, 1) := by decide +kernel
theorem dX12_moves_57 : decode cX12_moves 57 = .ok (.iadd, 1) := by decide +kernel
theorem dX12_moves_58 : decode cX12_moves 58 = .ok (.istore_n 2, 1) := by decide +kernel
theorem dX12_moves_59 : decode cX12_moves 59 = .ok (.iinc 3 1, 3) := by decide +kernel
theorem dX12_moves_62 : decode cX12_moves 62 = .ok (.goto (-38), 3) := by decide +kernel
theorem dX12_moves_65 : decode cX12_moves 65 = .ok (.iload_n 2, 1) := by decide +kernel
theorem dX12_moves_66 : decode cX12_moves 66 = .ok (.ireturn, 1) := by decide +kernel
theorem mokX12_moves : MOK yX12_moves cX12_moves 4 (some .int) 1 := ⟨w8_237, w1_13, ⟨by decide, by decide⟩, by decide +kernel, by decide⟩
abbrev miX12_moves : MI := (yX12_moves.cls, cX12_moves, 4, 6, false)
noncomputable def LX12_moves_1 : Sm Int32 := dLoop (fun f => (sI (sI (sI (sR fr0 0 (gR f 0)) 1 (gI f 1)) 2 (gI f 2)) 3 (gI f 3))) (dCI r_lt (vI 3) (dCallV 12 DX12_carryMany (aR aN 0 (vR 0)))) (dSetI 2 (d2 o_iadd (vI 2) (dT (dAnd (dCZ q_eq (dAI (dGR 12 42 (vR 0)) (vI 3))) (dCI r_eq (dCallV 12 DX12_carryPart (aI (aI (aR aN 0 (vR 0)) 1 (vI 3)) 2 (cI 1))) (vI 1))) (cI 1) (cI 0)))) (dInc 3 1)
theorem sLX12_moves_1 {ΓL : Gm} {PB PK : List Nat} : SS (cvoI, .ireturn) miX12_moves ΓL PB PK [(0, 2), (1, 0), (2, 0), (3, 0)] [(0, 2), (1, 0), (2, 0), (3, 0)] 24 [65] LX12_moves_1 := t_loop (pT := 32) (pF := 65) (pu := 59) (PB' := []) (PK' := []) (XB := [59]) (XU := [62]) (fun _ _ => rfl) rfl (c_lt_F (pF := 65) (s_iload_n dX12_moves_24 rfl rfl) (s_of_xI (x_callV (ts := [(0, 2)]) ck12 rfl kX12_carryMany mokX12_carryMany w8_152 ps6_0 rfl rfl rfl rfl (a_R (ts := []) 0 a_nil (s_aload_n dX12_moves_25 rfl rfl) rfl) dX12_moves_26 w8_150)) dX12_moves_29 rfl) (t_istore_n (s_iadd (s_iload_n dX12_moves_32 rfl rfl) (s_T (pT := 52) (pF := 56) (p1 := 53) (pe := 57) (c_and (p1 := 42) (pT := 52) (pF := 56) (c_eq_ZF (pF := 56) (s_dAI (s_getR ck12 42 (by decide) rfl (s_aload_n dX12_moves_33 rfl rfl) dX12_moves_34 w7_7) (s_iload_n dX12_moves_37 rfl rfl) dX12_moves_38) dX12_moves_39 rfl) (c_eq_F (pF := 56) (s_of_xI (x_callV (ts := [(0, 2), (1, 0), (2, 0)]) ck12 rfl kX12_carryPart mokX12_carryPart w8_156 ps6_1 rfl rfl rfl rfl (a_I (ts := [(0, 2), (1, 0)]) 2 (a_I (ts := [(0, 2)]) 1 (a_R (ts := []) 0 a_nil (s_aload_n dX12_moves_42 rfl rfl) rfl) (s_iload_n dX12_moves_43 rfl rfl) rfl) (s_iconst dX12_moves_44 rfl) rfl) dX12_moves_45 w8_154)) (s_iload_n dX12_moves_48 rfl rfl) dX12_moves_49 rfl)) (s_iconst dX12_moves_52 rfl) (s_iconst dX12_moves_56 rfl) (ld_goto (y := 57) dX12_moves_53 rfl (ld_in rfl))) dX12_moves_57) dX12_moves_58 rfl rfl rfl) (t_iinc dX12_moves_59 rfl rfl rfl rfl) (lda_cons (ld_in rfl) lda_nil) lda_nil (lda_cons (ld_goto (y := 24) dX12_moves_62 rfl (ld_in rfl)) lda_nil) (ld_in rfl) lda_nil
noncomputable def BX12_moves : Sm Int32 := (dSeq (dP (fI 12 0) (vR 0) (cI 0)) (dSeq (dIf (dNot (dCZ q_ne (dCallV 12 DX12_isSlate (aI (aR aN 0 (vR 0)) 1 (vI 1))))) (dRet (cI (-2))) dSkip) (dSeq (dDo (dCallV 12 DX12_laysNow (aR aN 0 (vR 0)))) (dSeq (dSetI 2 (cI 0)) (dSeq (dSeq (dSetI 3 (cI 0)) LX12_moves_1) (dRet (vI 2)))))))
theorem sBX12_moves : SS (cvoI, .ireturn) miX12_moves [] [] [] [(0, 2), (1, 0)] [(0, 2), (1, 0)] 0 [] BX12_moves := (t_sq (p1 := 5) (Γ' := [(0, 2), (1, 0)]) (t_pI ck12 0 (by decide) rfl (Or.inl rfl) (s_aload_n dX12_moves_0 rfl rfl) (s_iconst dX12_moves_1 rfl) dX12_moves_2 w6_205 rfl) (t_sq (p1 := 16) (Γ' := [(0, 2), (1, 0)]) (t_if (pT := 13) (pF := 16) (X := [16]) (XA := []) (XB := [16]) (c_not (pT := 13) (pF := 16) (c_ne_ZJ (pT := 16) (s_of_xI (x_callV (ts := [(0, 2), (1, 0)]) ck12 rfl kX12_isSlate mokX12_isSlate w8_85 ps5_4 rfl rfl rfl rfl (a_I (ts := [(0, 2)]) 1 (a_R (ts := []) 0 a_nil (s_aload_n dX12_moves_5 rfl rfl) rfl) (s_iload_n dX12_moves_6 rfl rfl) rfl) dX12_moves_7 w8_83)) dX12_moves_10 rfl)) (t_ret (cv := cvI) (fun _ _ => rfl) (s_bipush dX12_moves_13 rfl) dX12_moves_15) (t_skip (ld_in rfl) rfl) lda_nil (lda_cons (ld_in rfl) lda_nil)) (t_sq (p1 := 20) (Γ' := [(0, 2), (1, 0)]) (t_do (x_callV (ts := [(0, 2)]) ck12 rfl kX12_laysNow mokX12_laysNow w8_140 ps5_13 rfl rfl rfl rfl (a_R (ts := []) 0 a_nil (s_aload_n dX12_moves_16 rfl rfl) rfl) dX12_moves_17 w8_138) rfl) (t_sq (p1 := 22) (Γ' := [(0, 2), (1, 0), (2, 0)]) (t_istore_n (s_iconst dX12_moves_20 rfl) dX12_moves_21 rfl rfl rfl) (t_sq (p1 := 65) (Γ' := [(0, 2), (1, 0), (2, 0)]) (t_sq (p1 := 24) (Γ' := [(0, 2), (1, 0), (2, 0), (3, 0)]) (t_istore_n (s_iconst dX12_moves_22 rfl) dX12_moves_23 rfl rfl rfl) (tn_to (Γ' := [(0, 2), (1, 0), (2, 0), (3, 0)]) (XA := [65]) sLX12_moves_1 (lda_cons (ld_in rfl) lda_nil) rfl)) (t_ret (cv := cvI) (fun _ _ => rfl) (s_iload_n dX12_moves_65 rfl rfl) dX12_moves_66))))))
noncomputable def DX12_moves : Fr → St → Option (Int32 × St) := M1 (fun f => (sI (sR fr0 0 (gR f 0)) 1 (gI f 1))) BX12_moves
theorem kX12_moves : SND yX12_moves cX12_moves 4 (some .int) 6 [(0, 2), (1, 0)] cvoI DX12_moves := snd_I (nw := 2) (by decide) rfl rfl (fun _ _ => rfl) sBX12_moves
theorem dX12_trips_0 : decode cX12_trips 0 = .ok (.aload_n 0, 1) := by decide +kernel
theorem dX12_trips_1 : decode cX12_trips 1 = .ok (.iconst 0, 1) := by decide +kernel
theorem dX12_trips_2 : decode cX12_trips 2 = .ok (.putfield 122, 3) := by decide +kernel
theorem dX12_trips_5 : decode cX12_trips 5 = .ok (.aload_n 0, 1) := by decide +kernel
theorem dX12_trips_6 : decode cX12_trips 6 = .ok (.iload_n 1, 1) := by decide +kernel
theorem dX12_trips_7 : decode cX12_trips 7 = .ok (.invokevirtual 366, 3) := by decide +kernel
theorem dX12_trips_10 : decode cX12_trips 10 = .ok (.ifCond .ne 6, 3) := by decide +kernel
theorem dX12_trips_13 : decode cX12_trips 13 = .ok (.bipush (-2), 2) := by decide +kernel
theorem dX12_trips_15 : decode cX12_trips 15 = .ok (.ireturn, 1) := by decide +kernel
theorem dX12_trips_16 : decode cX12_trips 16 = .ok (.aload_n 0, 1) := by decide +kernel
theorem dX12_trips_17 : decode cX12_trips 17 = .ok (.invokevirtual 382, 3) := by decide +kernel
theorem dX12_trips_20 : decode cX12_trips 20 = .ok (.iconst 0, 1) := by decide +kernel
theorem dX12_trips_21 : decode cX12_trips 21 = .ok (.istore_n 2, 1) := by decide +kernel
theorem dX12_trips_22 : decode cX12_trips 22 = .ok (.iconst 0, 1) := by decide +kernel
theorem dX12_trips_23 : decode cX12_trips 23 = .ok (.istore_n 3, 1) := by decide +kernel
theorem dX12_trips_24 : decode cX12_trips 24 = .ok (.iload_n 3, 1) := by decide +kernel
theorem dX12_trips_25 : decode cX12_trips 25 = .ok (.aload_n 0, 1) := by decide +kernel
theorem dX12_trips_26 : decode cX12_trips 26 = .ok (.invokevirtual 348, 3) := by decide +kernel
theorem dX12_trips_29 : decode cX12_trips 29 = .ok (.if_icmp .ge 36, 3) := by decide +kernel
theorem dX12_trips_32 : decode cX12_trips 32 = .ok (.iload_n 2, 1) := by decide +kernel
theorem dX12_trips_33 : decode cX12_trips 33 = .ok (.aload_n 0, 1) := by decide +kernel
theorem dX12_trips_34 : decode cX12_trips 34 = .ok (.getfield 98, 3) := by decide +kernel
theorem dX12_trips_37 : decode cX12_trips 37 = .ok (.iload_n 3, 1) := by decide +kernel
theorem dX12_trips_38 : decode cX12_trips 38 = .ok (.iaload, 1) := by decide +kernel
theorem dX12_trips_39 : decode cX12_trips 39 = .ok (.ifCond .ne 17, 3) := by decide +kernel
theorem dX12_trips_42 : decode cX12_trips 42 = .ok (.aload_n 0, 1) := by decide +kernel
theorem dX12_trips_43 : decode cX12_trips 43 = .ok (.iload_n 3, 1) := by decide +kernel
theorem dX12_trips_44 : decode cX12_trips 44 = .ok (.iconst 0, 1) := by decide +kernel
theorem dX12_trips_45 : decode cX12_trips 45 = .ok (.invokevirtual 326, 3) := by decide +kernel
theorem dX12_trips_48 : decode cX12_trips 48 = .ok (.iload_n 1, 1) := by decide +kernel
theorem dX12_trips_49 : decode cX12_trips 49 = .ok (.if_icmp .ne 7, 3) := by decide +kernel
theorem dX12_trips_52 : decode cX12_trips 52 = .ok (.iconst 1, 1) := by decide +kernel
theorem dX12_trips_53 : decode cX12_trips 53 = .ok (.goto 4, 3) := by decide +kernel
theorem dX12_trips_56 : decode cX12_trips 56 = .ok (.iconst 0, 1) := by decide +kernel
theorem dX12_trips_57 : decode cX12_trips 57 = .ok (.iadd, 1) := by decide +kernel
theorem dX12_trips_58 : decode cX12_trips 58 = .ok (.istore_n 2, 1) := by decide +kernel
theorem dX12_trips_59 : decode cX12_trips 59 = .ok (.iinc 3 1, 3) := by decide +kernel
theorem dX12_trips_62 : decode cX12_trips 62 = .ok (.goto (-38), 3) := by decide +kernel
theorem dX12_trips_65 : decode cX12_trips 65 = .ok (.iload_n 2, 1) := by decide +kernel
theorem dX12_trips_66 : decode cX12_trips 66 = .ok (.ireturn, 1) := by decide +kernel
theorem mokX12_trips : MOK yX12_trips cX12_trips 4 (some .int) 1 := ⟨w9_1, w1_13, ⟨by decide, by decide⟩, by decide +kernel, by decide⟩
abbrev miX12_trips : MI := (yX12_trips.cls, cX12_trips, 4, 6, false)
noncomputable def LX12_trips_1 : Sm Int32 := dLoop (fun f => (sI (sI (sI (sR fr0 0 (gR f 0)) 1 (gI f 1)) 2 (gI f 2)) 3 (gI f 3))) (dCI r_lt (vI 3) (dCallV 12 DX12_carryMany (aR aN 0 (vR 0)))) (dSetI 2 (d2 o_iadd (vI 2) (dT (dAnd (dCZ q_eq (dAI (dGR 12 42 (vR 0)) (vI 3))) (dCI r_eq (dCallV 12 DX12_carryPart (aI (aI (aR aN 0 (vR 0)) 1 (vI 3)) 2 (cI 0))) (vI 1))) (cI 1) (cI 0)))) (dInc 3 1)
theorem sLX12_trips_1 {ΓL : Gm} {PB PK : List Nat} : SS (cvoI, .ireturn) miX12_trips ΓL PB PK [(0, 2), (1, 0), (2, 0), (3, 0)] [(0, 2), (1, 0), (2, 0), (3, 0)] 24 [65] LX12_trips_1 := t_loop (pT := 32) (pF := 65) (pu := 59) (PB' := []) (PK' := []) (XB := [59]) (XU := [62]) (fun _ _ => rfl) rfl (c_lt_F (pF := 65) (s_iload_n dX12_trips_24 rfl rfl) (s_of_xI (x_callV (ts := [(0, 2)]) ck12 rfl kX12_carryMany mokX12_carryMany w8_152 ps6_0 rfl rfl rfl rfl (a_R (ts := []) 0 a_nil (s_aload_n dX12_trips_25 rfl rfl) rfl) dX12_trips_26 w8_150)) dX12_trips_29 rfl) (t_istore_n (s_iadd (s_iload_n dX12_trips_32 rfl rfl) (s_T (pT := 52) (pF := 56) (p1 := 53) (pe := 57) (c_and (p1 := 42) (pT := 52) (pF := 56) (c_eq_ZF (pF := 56) (s_dAI (s_getR ck12 42 (by decide) rfl (s_aload_n dX12_trips_33 rfl rfl) dX12_trips_34 w7_7) (s_iload_n dX12_trips_37 rfl rfl) dX12_trips_38) dX12_trips_39 rfl) (c_eq_F (pF := 56) (s_of_xI (x_callV (ts := [(0, 2), (1, 0), (2, 0)]) ck12 rfl kX12_carryPart mokX12_carryPart w8_156 ps6_1 rfl rfl rfl rfl (a_I (ts := [(0, 2), (1, 0)]) 2 (a_I (ts := [(0, 2)]) 1 (a_R (ts := []) 0 a_nil (s_aload_n dX12_trips_42 rfl rfl) rfl) (s_iload_n dX12_trips_43 rfl rfl) rfl) (s_iconst dX12_trips_44 rfl) rfl) dX12_trips_45 w8_154)) (s_iload_n dX12_trips_48 rfl rfl) dX12_trips_49 rfl)) (s_iconst dX12_trips_52 rfl) (s_iconst dX12_trips_56 rfl) (ld_goto (y := 57) dX12_trips_53 rfl (ld_in rfl))) dX12_trips_57) dX12_trips_58 rfl rfl rfl) (t_iinc dX12_trips_59 rfl rfl rfl rfl) (lda_cons (ld_in rfl) lda_nil) lda_nil (lda_cons (ld_goto (y := 24) dX12_trips_62 rfl (ld_in rfl)) lda_nil) (ld_in rfl) lda_nil
noncomputable def BX12_trips : Sm Int32 := (dSeq (dP (fI 12 0) (vR 0) (cI 0)) (dSeq (dIf (dNot (dCZ q_ne (dCallV 12 DX12_isCarrier (aI (aR aN 0 (vR 0)) 1 (vI 1))))) (dRet (cI (-2))) dSkip) (dSeq (dDo (dCallV 12 DX12_laysNow (aR aN 0 (vR 0)))) (dSeq (dSetI 2 (cI 0)) (dSeq (dSeq (dSetI 3 (cI 0)) LX12_trips_1) (dRet (vI 2)))))))
theorem sBX12_trips : SS (cvoI, .ireturn) miX12_trips [] [] [] [(0, 2), (1, 0)] [(0, 2), (1, 0)] 0 [] BX12_trips := (t_sq (p1 := 5) (Γ' := [(0, 2), (1, 0)]) (t_pI ck12 0 (by decide) rfl (Or.inl rfl) (s_aload_n dX12_trips_0 rfl rfl) (s_iconst dX12_trips_1 rfl) dX12_trips_2 w6_205 rfl) (t_sq (p1 := 16) (Γ' := [(0, 2), (1, 0)]) (t_if (pT := 13) (pF := 16) (X := [16]) (XA := []) (XB := [16]) (c_not (pT := 13) (pF := 16) (c_ne_ZJ (pT := 16) (s_of_xI (x_callV (ts := [(0, 2), (1, 0)]) ck12 rfl kX12_isCarrier mokX12_isCarrier w8_70 ps5_2 rfl rfl rfl rfl (a_I (ts := [(0, 2)]) 1 (a_R (ts := []) 0 a_nil (s_aload_n dX12_trips_5 rfl rfl) rfl) (s_iload_n dX12_trips_6 rfl rfl) rfl) dX12_trips_7 w8_68)) dX12_trips_10 rfl)) (t_ret (cv := cvI) (fun _ _ => rfl) (s_bipush dX12_trips_13 rfl) dX12_trips_15) (t_skip (ld_in rfl) rfl) lda_nil (lda_cons (ld_in rfl) lda_nil)) (t_sq (p1 := 20) (Γ' := [(0, 2), (1, 0)]) (t_do (x_callV (ts := [(0, 2)]) ck12 rfl kX12_laysNow mokX12_laysNow w8_140 ps5_13 rfl rfl rfl rfl (a_R (ts := []) 0 a_nil (s_aload_n dX12_trips_16 rfl rfl) rfl) dX12_trips_17 w8_138) rfl) (t_sq (p1 := 22) (Γ' := [(0, 2), (1, 0), (2, 0)]) (t_istore_n (s_iconst dX12_trips_20 rfl) dX12_trips_21 rfl rfl rfl) (t_sq (p1 := 65) (Γ' := [(0, 2), (1, 0), (2, 0)]) (t_sq (p1 := 24) (Γ' := [(0, 2), (1, 0), (2, 0), (3, 0)]) (t_istore_n (s_iconst dX12_trips_22 rfl) dX12_trips_23 rfl rfl rfl) (tn_to (Γ' := [(0, 2), (1, 0), (2, 0), (3, 0)]) (XA := [65]) sLX12_trips_1 (lda_cons (ld_in rfl) lda_nil) rfl)) (t_ret (cv := cvI) (fun _ _ => rfl) (s_iload_n dX12_trips_65 rfl rfl) dX12_trips_66))))))
noncomputable def DX12_trips : Fr → St → Option (Int32 × St) := M1 (fun f => (sI (sR fr0 0 (gR f 0)) 1 (gI f 1))) BX12_trips
theorem kX12_trips : SND yX12_trips cX12_trips 4 (some .int) 6 [(0, 2), (1, 0)] cvoI DX12_trips := snd_I (nw := 2) (by decide) rfl rfl (fun _ _ => rfl) sBX12_trips
theorem dX12_toil_0 : decode cX12_toil 0 = .ok (.aload_n 0, 1) := by decide +kernel
theorem dX12_toil_1 : decode cX12_toil 1 = .ok (.iconst 0, 1) := by decide +kernel
theorem dX12_toil_2 : decode cX12_toil 2 = .ok (.putfield 122, 3) := by decide +kernel
theorem dX12_toil_5 : decode cX12_toil 5 = .ok (.aload_n 0, 1) := by decide +kernel
theorem dX12_toil_6 : decode cX12_toil 6 = .ok (.iload_n 1, 1) := by decide +kernel
theorem dX12_toil_7 : decode cX12_toil 7 = .ok (.invokevirtual 366, 3) := by decide +kernel
theorem dX12_toil_10 : decode cX12_toil 10 = .ok (.ifCond .ne 6, 3) := by decide +kernel
theorem dX12_toil_13 : decode cX12_toil 13 = .ok (.bipush (-2), 2) := by decide +kernel
theorem dX12_toil_15 : decode cX12_toil 15 = .ok (.ireturn, 1) := by decide +kernel
theorem dX12_toil_16 : decode cX12_toil 16 = .ok (.aload_n 0, 1) := by decide +kernel
theorem dX12_toil_17 : decode cX12_toil 17 = .ok (.invokevirtual 382, 3) := by decide +kernel
theorem dX12_toil_20 : decode cX12_toil 20 = .ok (.iconst 0, 1) := by decide +kernel
theorem dX12_toil_21 : decode cX12_toil 21 = .ok (.istore_n 2, 1) := by decide +kernel
theorem dX12_toil_22 : decode cX12_toil 22 = .ok (.iconst 0, 1) := by decide +kernel
theorem dX12_toil_23 : decode cX12_toil 23 = .ok (.istore_n 3, 1) := by decide +kernel
theorem dX12_toil_24 : decode cX12_toil 24 = .ok (.iload_n 3, 1) := by decide +kernel
theorem dX12_toil_25 : decode cX12_toil 25 = .ok (.aload_n 0, 1) := by decide +kernel
theorem dX12_toil_26 : decode cX12_toil 26 = .ok (.invokevirtual 348, 3) := by decide +kernel
theorem dX12_toil_29 : decode cX12_toil 29 = .ok (.if_icmp .ge 41, 3) := by decide +kernel
theorem dX12_toil_32 : decode cX12_toil 32 = .ok (.iload_n 2, 1) := by decide +kernel
theorem dX12_toil_33 : decode cX12_toil 33 = .ok (.aload_n 0, 1) := by decide +kernel
theorem dX12_toil_34 : decode cX12_toil 34 = .ok (.getfield 98, 3) := by decide +kernel
theorem dX12_toil_37 : decode cX12_toil 37 = .ok (.iload_n 3, 1) := by decide +kernel
theorem dX12_toil_38 : decode cX12_toil 38 = .ok (.iaload, 1) := by decide +kernel
theorem dX12_toil_39 : decode cX12_toil 39 = .ok (.ifCond .ne 22, 3) := by decide +kernel
theorem dX12_toil_42 : decode cX12_toil 42 = .ok (.aload_n 0, 1) := by decide +kernel
theorem dX12_toil_43 : decode cX12_toil 43 = .ok (.iload_n 3, 1) := by decide +kernel
theorem dX12_toil_44 : decode cX12_toil 44 = .ok (.iconst 0, 1) := by decide +kernel
theorem dX12_toil_45 : decode cX12_toil 45 = .ok (.invokevirtual 326, 3) := by decide +kernel
theorem dX12_toil_48 : decode cX12_toil 48 = .ok (.iload_n 1, 1) := by decide +kernel
theorem dX12_toil_49 : decode cX12_toil 49 = .ok (.if_icmp .ne 12, 3) := by decide +kernel
theorem dX12_toil_52 : decode cX12_toil 52 = .ok (.aload_n 0, 1) := by decide +kernel
theorem dX12_toil_53 : decode cX12_toil 53 = .ok (.getfield 101, 3) := by decide +kernel
theorem dX12_toil_56 : decode cX12_toil 56 = .ok (.iload_n 3, 1) := by decide +kernel
theorem dX12_toil_57 : decode cX12_toil 57 = .ok (.iaload, 1) := by decide +kernel
theorem dX12_toil_58 : decode cX12_toil 58 = .ok (.goto 4, 3) := by decide +kernel
theorem dX12_toil_61 : decode cX12_toil 61 = .ok (.iconst 0, 1) := by decide +kernel
theorem dX12_toil_62 : decode cX12_toil 62 = .ok (.iadd, 1) := by decide +kernel
theorem dX12_toil_63 : decode cX12_toil 63 = .ok (.istore_n 2, 1) := by decide +kernel
theorem dX12_toil_64 : decode cX12_toil 64 = .ok (.iinc 3 1, 3) := by decide +kernel
theorem dX12_toil_67 : decode cX12_toil 67 = .ok (.goto (-43), 3) := by decide +kernel
theorem dX12_toil_70 : decode cX12_toil 70 = .ok (.iload_n 2, 1) := by decide +kernel
theorem dX12_toil_71 : decode cX12_toil 71 = .ok (.ireturn, 1) := by decide +kernel
theorem mokX12_toil : MOK yX12_toil cX12_toil 4 (some .int) 1 := ⟨w9_5, w1_13, ⟨by decide, by decide⟩, by decide +kernel, by decide⟩
abbrev miX12_toil : MI := (yX12_toil.cls, cX12_toil, 4, 6, false)
noncomputable def LX12_toil_1 : Sm Int32 := dLoop (fun f => (sI (sI (sI (sR fr0 0 (gR f 0)) 1 (gI f 1)) 2 (gI f 2)) 3 (gI f 3))) (dCI r_lt (vI 3) (dCallV 12 DX12_carryMany (aR aN 0 (vR 0)))) (dSetI 2 (d2 o_iadd (vI 2) (dT (dAnd (dCZ q_eq (dAI (dGR 12 42 (vR 0)) (vI 3))) (dCI r_eq (dCallV 12 DX12_carryPart (aI (aI (aR aN 0 (vR 0)) 1 (vI 3)) 2 (cI 0))) (vI 1))) (dAI (dGR 12 43 (vR 0)) (vI 3)) (cI 0)))) (dInc 3 1)
theorem sLX12_toil_1 {ΓL : Gm} {PB PK : List Nat} : SS (cvoI, .ireturn) miX12_toil ΓL PB PK [(0, 2), (1, 0), (2, 0), (3, 0)] [(0, 2), (1, 0), (2, 0), (3, 0)] 24 [70] LX12_toil_1 := t_loop (pT := 32) (pF := 70) (pu := 64) (PB' := []) (PK' := []) (XB := [64]) (XU := [67]) (fun _ _ => rfl) rfl (c_lt_F (pF := 70) (s_iload_n dX12_toil_24 rfl rfl) (s_of_xI (x_callV (ts := [(0, 2)]) ck12 rfl kX12_carryMany mokX12_carryMany w8_152 ps6_0 rfl rfl rfl rfl (a_R (ts := []) 0 a_nil (s_aload_n dX12_toil_25 rfl rfl) rfl) dX12_toil_26 w8_150)) dX12_toil_29 rfl) (t_istore_n (s_iadd (s_iload_n dX12_toil_32 rfl rfl) (s_T (pT := 52) (pF := 61) (p1 := 58) (pe := 62) (c_and (p1 := 42) (pT := 52) (pF := 61) (c_eq_ZF (pF := 61) (s_dAI (s_getR ck12 42 (by decide) rfl (s_aload_n dX12_toil_33 rfl rfl) dX12_toil_34 w7_7) (s_iload_n dX12_toil_37 rfl rfl) dX12_toil_38) dX12_toil_39 rfl) (c_eq_F (pF := 61) (s_of_xI (x_callV (ts := [(0, 2), (1, 0), (2, 0)]) ck12 rfl kX12_carryPart mokX12_carryPart w8_156 ps6_1 rfl rfl rfl rfl (a_I (ts := [(0, 2), (1, 0)]) 2 (a_I (ts := [(0, 2)]) 1 (a_R (ts := []) 0 a_nil (s_aload_n dX12_toil_42 rfl rfl) rfl) (s_iload_n dX12_toil_43 rfl rfl) rfl) (s_iconst dX12_toil_44 rfl) rfl) dX12_toil_45 w8_154)) (s_iload_n dX12_toil_48 rfl rfl) dX12_toil_49 rfl)) (s_dAI (s_getR ck12 43 (by decide) rfl (s_aload_n dX12_toil_52 rfl rfl) dX12_toil_53 w7_8) (s_iload_n dX12_toil_56 rfl rfl) dX12_toil_57) (s_iconst dX12_toil_61 rfl) (ld_goto (y := 62) dX12_toil_58 rfl (ld_in rfl))) dX12_toil_62) dX12_toil_63 rfl rfl rfl) (t_iinc dX12_toil_64 rfl rfl rfl rfl) (lda_cons (ld_in rfl) lda_nil) lda_nil (lda_cons (ld_goto (y := 24) dX12_toil_67 rfl (ld_in rfl)) lda_nil) (ld_in rfl) lda_nil
noncomputable def BX12_toil : Sm Int32 := (dSeq (dP (fI 12 0) (vR 0) (cI 0)) (dSeq (dIf (dNot (dCZ q_ne (dCallV 12 DX12_isCarrier (aI (aR aN 0 (vR 0)) 1 (vI 1))))) (dRet (cI (-2))) dSkip) (dSeq (dDo (dCallV 12 DX12_laysNow (aR aN 0 (vR 0)))) (dSeq (dSetI 2 (cI 0)) (dSeq (dSeq (dSetI 3 (cI 0)) LX12_toil_1) (dRet (vI 2)))))))
theorem sBX12_toil : SS (cvoI, .ireturn) miX12_toil [] [] [] [(0, 2), (1, 0)] [(0, 2), (1, 0)] 0 [] BX12_toil := (t_sq (p1 := 5) (Γ' := [(0, 2), (1, 0)]) (t_pI ck12 0 (by decide) rfl (Or.inl rfl) (s_aload_n dX12_toil_0 rfl rfl) (s_iconst dX12_toil_1 rfl) dX12_toil_2 w6_205 rfl) (t_sq (p1 := 16) (Γ' := [(0, 2), (1, 0)]) (t_if (pT := 13) (pF := 16) (X := [16]) (XA := []) (XB := [16]) (c_not (pT := 13) (pF := 16) (c_ne_ZJ (pT := 16) (s_of_xI (x_callV (ts := [(0, 2), (1, 0)]) ck12 rfl kX12_isCarrier mokX12_isCarrier w8_70 ps5_2 rfl rfl rfl rfl (a_I (ts := [(0, 2)]) 1 (a_R (ts := []) 0 a_nil (s_aload_n dX12_toil_5 rfl rfl) rfl) (s_iload_n dX12_toil_6 rfl rfl) rfl) dX12_toil_7 w8_68)) dX12_toil_10 rfl)) (t_ret (cv := cvI) (fun _ _ => rfl) (s_bipush dX12_toil_13 rfl) dX12_toil_15) (t_skip (ld_in rfl) rfl) lda_nil (lda_cons (ld_in rfl) lda_nil)) (t_sq (p1 := 20) (Γ' := [(0, 2), (1, 0)]) (t_do (x_callV (ts := [(0, 2)]) ck12 rfl kX12_laysNow mokX12_laysNow w8_140 ps5_13 rfl rfl rfl rfl (a_R (ts := []) 0 a_nil (s_aload_n dX12_toil_16 rfl rfl) rfl) dX12_toil_17 w8_138) rfl) (t_sq (p1 := 22) (Γ' := [(0, 2), (1, 0), (2, 0)]) (t_istore_n (s_iconst dX12_toil_20 rfl) dX12_toil_21 rfl rfl rfl) (t_sq (p1 := 70) (Γ' := [(0, 2), (1, 0), (2, 0)]) (t_sq (p1 := 24) (Γ' := [(0, 2), (1, 0), (2, 0), (3, 0)]) (t_istore_n (s_iconst dX12_toil_22 rfl) dX12_toil_23 rfl rfl rfl) (tn_to (Γ' := [(0, 2), (1, 0), (2, 0), (3, 0)]) (XA := [70]) sLX12_toil_1 (lda_cons (ld_in rfl) lda_nil) rfl)) (t_ret (cv := cvI) (fun _ _ => rfl) (s_iload_n dX12_toil_70 rfl rfl) dX12_toil_71))))))
noncomputable def DX12_toil : Fr → St → Option (Int32 × St) := M1 (fun f => (sI (sR fr0 0 (gR f 0)) 1 (gI f 1))) BX12_toil
theorem kX12_toil : SND yX12_toil cX12_toil 4 (some .int) 6 [(0, 2), (1, 0)] cvoI DX12_toil := snd_I (nw := 2) (by decide) rfl rfl (fun _ _ => rfl) sBX12_toil
theorem dX12_rubbed_0 : decode cX12_rubbed 0 = .ok (.aload_n 0, 1) := by decide +kernel
theorem dX12_rubbed_1 : decode cX12_rubbed 1 = .ok (.iconst 0, 1) := by decide +kernel
theorem dX12_rubbed_2 : decode cX12_rubbed 2 = .ok (.putfield 122, 3) := by decide +kernel
theorem dX12_rubbed_5 : decode cX12_rubbed 5 = .ok (.aload_n 0, 1) := by decide +kernel
theorem dX12_rubbed_6 : decode cX12_rubbed 6 = .ok (.iload_n 1, 1) := by decide +kernel
theorem dX12_rubbed_7 : decode cX12_rubbed 7 = .ok (.invokevirtual 372, 3) := by decide +kernel
theorem dX12_rubbed_10 : decode cX12_rubbed 10 = .ok (.ifCond .ne 6, 3) := by decide +kernel
theorem dX12_rubbed_13 : decode cX12_rubbed 13 = .ok (.bipush (-2), 2) := by decide +kernel
theorem dX12_rubbed_15 : decode cX12_rubbed 15 = .ok (.ireturn, 1) := by decide +kernel
theorem dX12_rubbed_16 : decode cX12_rubbed 16 = .ok (.aload_n 0, 1) := by decide +kernel
theorem dX12_rubbed_17 : decode cX12_rubbed 17 = .ok (.invokevirtual 382, 3) := by decide +kernel
theorem dX12_rubbed_20 : decode cX12_rubbed 20 = .ok (.aload_n 0, 1) := by decide +kernel
theorem dX12_rubbed_21 : decode cX12_rubbed 21 = .ok (.getfield 49, 3) := by decide +kernel
theorem dX12_rubbed_24 : decode cX12_rubbed 24 = .ok (.iload_n 1, 1) := by decide +kernel
theorem dX12_rubbed_25 : decode cX12_rubbed 25 = .ok (.iaload, 1) := by decide +kernel
theorem dX12_rubbed_26 : decode cX12_rubbed 26 = .ok (.aload_n 0, 1) := by decide +kernel
theorem dX12_rubbed_27 : decode cX12_rubbed 27 = .ok (.getfield 77, 3) := by decide +kernel
theorem dX12_rubbed_30 : decode cX12_rubbed 30 = .ok (.iconst 3, 1) := by decide +kernel
theorem dX12_rubbed_31 : decode cX12_rubbed 31 = .ok (.aload_n 0, 1) := by decide +kernel
theorem dX12_rubbed_32 : decode cX12_rubbed 32 = .ok (.invokevirtual 304, 3) := by decide +kernel
theorem dX12_rubbed_35 : decode cX12_rubbed 35 = .ok (.imul, 1) := by decide +kernel
theorem dX12_rubbed_36 : decode cX12_rubbed 36 = .ok (.iload_n 1, 1) := by decide +kernel
theorem dX12_rubbed_37 : decode cX12_rubbed 37 = .ok (.iadd, 1) := by decide +kernel
theorem dX12_rubbed_38 : decode cX12_rubbed 38 = .ok (.iaload, 1) := by decide +kernel
theorem dX12_rubbed_39 : decode cX12_rubbed 39 = .ok (.invokestatic 394, 3) := by decide +kernel
theorem dX12_rubbed_42 : decode cX12_rubbed 42 = .ok (.isub, 1) := by decide +kernel
theorem dX12_rubbed_43 : decode cX12_rubbed 43 = .ok (.ireturn, 1) := by decide +kernel
theorem mokX12_rubbed : MOK yX12_rubbed cX12_rubbed 2 (some .int) 1 := ⟨w9_9, w1_13, ⟨by decide, by decide⟩, by decide +kernel, by decide⟩
abbrev miX12_rubbed : MI := (yX12_rubbed.cls, cX12_rubbed, 2, 6, false)
noncomputable def BX12_rubbed : Sm Int32 := (dSeq (dP (fI 12 0) (vR 0) (cI 0)) (dSeq (dIf (dNot (dCZ q_ne (dCallV 12 DX12_isSlate (aI (aR aN 0 (vR 0)) 1 (vI 1))))) (dRet (cI (-2))) dSkip) (dSeq (dDo (dCallV 12 DX12_laysNow (aR aN 0 (vR 0)))) (dRet (d2 o_isub (dAI (dGR 12 22 (vR 0)) (vI 1)) (dCall DX12_sizeOf (aI aN 0 (dAI (dGR 12 35 (vR 0)) (d2 o_iadd (d2 o_imul (cI 3) (dCallV 12 DX12_days (aR aN 0 (vR 0)))) (vI 1))))))))))
theorem sBX12_rubbed : SS (cvoI, .ireturn) miX12_rubbed [] [] [] [(0, 2), (1, 0)] [(0, 2), (1, 0)] 0 [] BX12_rubbed := (t_sq (p1 := 5) (Γ' := [(0, 2), (1, 0)]) (t_pI ck12 0 (by decide) rfl (Or.inl rfl) (s_aload_n dX12_rubbed_0 rfl rfl) (s_iconst dX12_rubbed_1 rfl) dX12_rubbed_2 w6_205 rfl) (t_sq (p1 := 16) (Γ' := [(0, 2), (1, 0)]) (t_if (pT := 13) (pF := 16) (X := [16]) (XA := []) (XB := [16]) (c_not (pT := 13) (pF := 16) (c_ne_ZJ (pT := 16) (s_of_xI (x_callV (ts := [(0, 2), (1, 0)]) ck12 rfl kX12_isSlate mokX12_isSlate w8_85 ps5_4 rfl rfl rfl rfl (a_I (ts := [(0, 2)]) 1 (a_R (ts := []) 0 a_nil (s_aload_n dX12_rubbed_5 rfl rfl) rfl) (s_iload_n dX12_rubbed_6 rfl rfl) rfl) dX12_rubbed_7 w8_83)) dX12_rubbed_10 rfl)) (t_ret (cv := cvI) (fun _ _ => rfl) (s_bipush dX12_rubbed_13 rfl) dX12_rubbed_15) (t_skip (ld_in rfl) rfl) lda_nil (lda_cons (ld_in rfl) lda_nil)) (t_sq (p1 := 20) (Γ' := [(0, 2), (1, 0)]) (t_do (x_callV (ts := [(0, 2)]) ck12 rfl kX12_laysNow mokX12_laysNow w8_140 ps5_13 rfl rfl rfl rfl (a_R (ts := []) 0 a_nil (s_aload_n dX12_rubbed_16 rfl rfl) rfl) dX12_rubbed_17 w8_138) rfl) (t_ret (cv := cvI) (fun _ _ => rfl) (s_isub (s_dAI (s_getR ck12 22 (by decide) rfl (s_aload_n dX12_rubbed_20 rfl rfl) dX12_rubbed_21 w6_227) (s_iload_n dX12_rubbed_24 rfl rfl) dX12_rubbed_25) (s_of_xI (x_call (ts := [(0, 0)]) kX12_sizeOf mokX12_sizeOf w9_11 rfl rfl rfl (a_I (ts := []) 0 a_nil (s_dAI (s_getR ck12 35 (by decide) rfl (s_aload_n dX12_rubbed_26 rfl rfl) dX12_rubbed_27 w7_0) (s_iadd (s_imul (s_iconst dX12_rubbed_30 rfl) (s_of_xI (x_callV (ts := [(0, 2)]) ck12 rfl kX12_days mokX12_days w8_136 ps5_12 rfl rfl rfl rfl (a_R (ts := []) 0 a_nil (s_aload_n dX12_rubbed_31 rfl rfl) rfl) dX12_rubbed_32 w8_134)) dX12_rubbed_35) (s_iload_n dX12_rubbed_36 rfl rfl) dX12_rubbed_37) dX12_rubbed_38) rfl) dX12_rubbed_39 w9_10)) dX12_rubbed_42) dX12_rubbed_43))))
noncomputable def DX12_rubbed : Fr → St → Option (Int32 × St) := M1 (fun f => (sI (sR fr0 0 (gR f 0)) 1 (gI f 1))) BX12_rubbed
theorem kX12_rubbed : SND yX12_rubbed cX12_rubbed 2 (some .int) 6 [(0, 2), (1, 0)] cvoI DX12_rubbed := snd_I (nw := 2) (by decide) rfl rfl (fun _ _ => rfl) sBX12_rubbed
theorem dX12_gossip_0 : decode cX12_gossip 0 = .ok (.aload_n 0, 1) := by decide +kernel
theorem dX12_gossip_1 : decode cX12_gossip 1 = .ok (.iconst 0, 1) := by decide +kernel
theorem dX12_gossip_2 : decode cX12_gossip 2 = .ok (.putfield 122, 3) := by decide +kernel
theorem dX12_gossip_5 : decode cX12_gossip 5 = .ok (.aload_n 0, 1) := by decide +kernel
theorem dX12_gossip_6 : decode cX12_gossip 6 = .ok (.invokevirtual 301, 3) := by decide +kernel
theorem dX12_gossip_9 : decode cX12_gossip 9 = .ok (.ifCond .ne 6, 3) := by decide +kernel
theorem dX12_gossip_12 : decode cX12_gossip 12 = .ok (.bipush (-2), 2) := by decide +kernel
theorem dX12_gossip_14 : decode cX12_gossip 14 = .ok (.ireturn, 1) := by decide +kernel
theorem dX12_gossip_15 : decode cX12_gossip 15 = .ok (.aload_n 0, 1) := by decide +kernel
theorem dX12_gossip_16 : decode cX12_gossip 16 = .ok (.invokevirtual 382, 3) := by decide +kernel
theorem dX12_gossip_19 : decode cX12_gossip 19 = .ok (.iconst (-1), 1) := by decide +kernel
theorem dX12_gossip_20 : decode cX12_gossip 20 = .ok (.istore_n 1, 1) := by decide +kernel
theorem dX12_gossip_21 : decode cX12_gossip 21 = .ok (.iconst (-1), 1) := by decide +kernel
theorem dX12_gossip_22 : decode cX12_gossip 22 = .ok (.istore_n 2, 1) := by decide +kernel
theorem dX12_gossip_23 : decode cX12_gossip 23 = .ok (.iconst 0, 1) := by decide +kernel
theorem dX12_gossip_24 : decode cX12_gossip 24 = .ok (.istore_n 3, 1) := by decide +kernel
theorem dX12_gossip_25 : decode cX12_gossip 25 = .ok (.iload_n 3, 1) := by decide +kernel
theorem dX12_gossip_26 : decode cX12_gossip 26 = .ok (.aload_n 0, 1) := by decide +kernel
theorem dX12_gossip_27 : decode cX12_gossip 27 = .ok (.invokevirtual 292, 3) := by decide +kernel
theorem dX12_gossip_30 : decode cX12_gossip 30 = .ok (.if_icmp .ge 59, 3) := by decide +kernel
theorem dX12_gossip_33 : decode cX12_gossip 33 = .ok (.iconst 0, 1) := by decide +kernel
theorem dX12_gossip_34 : decode cX12_gossip 34 = .ok (.istore 4, 2) := by decide +kernel
theorem dX12_gossip_36 : decode cX12_gossip 36 = .ok (.iconst 0, 1) := by decide +kernel
theorem dX12_gossip_37 : decode cX12_gossip 37 = .ok (.istore 5, 2) := by decide +kernel
theorem dX12_gossip_39 : decode cX12_gossip 39 = .ok (.iload 5, 2) := by decide +kernel
theorem dX12_gossip_41 : decode cX12_gossip 41 = .ok (.aload_n 0, 1) := by decide +kernel
theorem dX12_gossip_42 : decode cX12_gossip 42 = .ok (.invokevirtual 298, 3) := by decide +kernel
theorem dX12_gossip_45 : decode cX12_gossip 45 = .ok (.if_icmp .ge 24, 3) := by decide +kernel
theorem dX12_gossip_48 : decode cX12_gossip 48 = .ok (.iload 4, 2) := by decide +kernel
theorem dX12_gossip_50 : decode cX12_gossip 50 = .ok (.aload_n 0, 1) := by decide +kernel
theorem dX12_gossip_51 : decode cX12_gossip 51 = .ok (.iload 5, 2) := by decide +kernel
theorem dX12_gossip_53 : decode cX12_gossip 53 = .ok (.iload_n 3, 1) := by decide +kernel
theorem dX12_gossip_54 : decode cX12_gossip 54 = .ok (.invokevirtual 397, 3) := by decide +kernel
theorem dX12_gossip_57 : decode cX12_gossip 57 = .ok (.invokestatic 394, 3) := by decide +kernel
theorem dX12_gossip_60 : decode cX12_gossip 60 = .ok (.iadd, 1) := by decide +kernel
theorem dX12_gossip_61 : decode cX12_gossip 61 = .ok (.istore 4, 2) := by decide +kernel
theorem dX12_gossip_63 : decode cX12_gossip 63 = .ok (.iinc 5 1, 3) := by decide +kernel
theorem dX12_gossip_66 : decode cX12_gossip 66 = .ok (.goto (-27), 3) := by decide +kernel
theorem dX12_gossip_69 : decode cX12_gossip 69 = .ok (.iload 4, 2) := by decide +kernel
theorem dX12_gossip_71 : decode cX12_gossip 71 = .ok (.iload_n 2, 1) := by decide +kernel
theorem dX12_gossip_72 : decode cX12_gossip 72 = .ok (.if_icmp .gt 6, 3) := by decide +kernel
theorem dX12_gossip_75 : decode cX12_gossip 75 = .ok (.goto 8, 3) := by decide +kernel
theorem dX12_gossip_78 : decode cX12_gossip 78 = .ok (.iload_n 3, 1) := by decide +kernel
theorem dX12_gossip_79 : decode cX12_gossip 79 = .ok (.istore_n 1, 1) := by decide +kernel
theorem dX12_gossip_80 : decode cX12_gossip 80 = .ok (.iload 4, 2) := by decide +kernel
theorem dX12_gossip_82 : decode cX12_gossip 82 = .ok (.istore_n 2, 1) := by decide +kernel
theorem dX12_gossip_83 : decode cX12_gossip 83 = .ok (.iinc 3 1, 3) := by decide +kernel
theorem dX12_gossip_86 : decode cX12_gossip 86 = .ok (.goto (-61), 3) := by decide +kernel
theorem dX12_gossip_89 : decode cX12_gossip 89 = .ok (.iload_n 1, 1) := by decide +kernel
theorem dX12_gossip_90 : decode cX12_gossip 90 = .ok (.ireturn, 1) := by decide +kernel
theorem mokX12_gossip : MOK yX12_gossip cX12_gossip 6 (some .int) 0 := ⟨w9_16, w1_13, ⟨by decide, by decide⟩, by decide +kernel, by decide⟩
abbrev miX12_gossip : MI := (yX12_gossip.cls, cX12_gossip, 6, 6, false)
noncomputable def LX12_gossip_1 : Sm Int32 := dLoop (fun f => (sI (sI (sI (sI (sI (sR fr0 0 (gR f 0)) 1 (gI f 1)) 2 (gI f 2)) 3 (gI f 3)) 4 (gI f 4)) 5 (gI f 5))) (dCI r_lt (vI 5) (dCallV 12 DX12_slates (aR aN 0 (vR 0)))) (dSetI 4 (d2 o_iadd (vI 4) (dCall DX12_sizeOf (aI aN 0 (dCallV 12 DX12_knownLast (aI (aI (aR aN 0 (vR 0)) 1 (vI 5)) 2 (vI 3))))))) (dInc 5 1)
theorem sLX12_gossip_1 {ΓL : Gm} {PB PK : List Nat} : SS (cvoI, .ireturn) miX12_gossip ΓL PB PK [(0, 2), (1, 0), (2, 0), (3, 0), (4, 0), (5, 0)] [(0, 2), (1, 0), (2, 0), (3, 0), (4, 0), (5, 0)] 39 [69] LX12_gossip_1 := t_loop (pT := 48) (pF := 69) (pu := 63) (PB' := []) (PK' := []) (XB := [63]) (XU := [66]) (fun _ _ => rfl) rfl (c_lt_F (pF := 69) (s_iload dX12_gossip_39 rfl) (s_of_xI (x_callV (ts := [(0, 2)]) ck12 rfl kX12_slates mokX12_slates w8_89 ps5_5 rfl rfl rfl rfl (a_R (ts := []) 0 a_nil (s_aload_n dX12_gossip_41 rfl rfl) rfl) dX12_gossip_42 w8_87)) dX12_gossip_45 rfl) (t_istore (s_iadd (s_iload dX12_gossip_48 rfl) (s_of_xI (x_call (ts := [(0, 0)]) kX12_sizeOf mokX12_sizeOf w9_11 rfl rfl rfl (a_I (ts := []) 0 a_nil (s_of_xI (x_callV (ts := [(0, 2), (1, 0), (2, 0)]) ck12 rfl kX12_knownLast mokX12_knownLast w9_19 ps6_9 rfl rfl rfl rfl (a_I (ts := [(0, 2), (1, 0)]) 2 (a_I (ts := [(0, 2)]) 1 (a_R (ts := []) 0 a_nil (s_aload_n dX12_gossip_50 rfl rfl) rfl) (s_iload dX12_gossip_51 rfl) rfl) (s_iload_n dX12_gossip_53 rfl rfl) rfl) dX12_gossip_54 w9_17)) rfl) dX12_gossip_57 w9_10)) dX12_gossip_60) dX12_gossip_61 rfl rfl) (t_iinc dX12_gossip_63 rfl rfl rfl rfl) (lda_cons (ld_in rfl) lda_nil) lda_nil (lda_cons (ld_goto (y := 39) dX12_gossip_66 rfl (ld_in rfl)) lda_nil) (ld_in rfl) lda_nil
noncomputable def LX12_gossip_2 : Sm Int32 := dLoop (fun f => (sI (sI (sI (sR fr0 0 (gR f 0)) 1 (gI f 1)) 2 (gI f 2)) 3 (gI f 3))) (dCI r_lt (vI 3) (dCallV 12 DX12_houses (aR aN 0 (vR 0)))) (dSeq (dSetI 4 (cI 0)) (dSeq (dSeq (dSetI 5 (cI 0)) LX12_gossip_1) (dSeq (dIf (dCI r_le (vI 4) (vI 2)) dCnt dSkip) (dSeq (dSetI 1 (vI 3)) (dSetI 2 (vI 4)))))) (dInc 3 1)
theorem sLX12_gossip_2 {ΓL : Gm} {PB PK : List Nat} : SS (cvoI, .ireturn) miX12_gossip ΓL PB PK [(0, 2), (1, 0), (2, 0), (3, 0)] [(0, 2), (1, 0), (2, 0), (3, 0)] 25 [89] LX12_gossip_2 := t_loop (pT := 33) (pF := 89) (pu := 83) (PB' := []) (PK' := [83]) (XB := [83]) (XU := [86]) (fun _ _ => rfl) rfl (c_lt_F (pF := 89) (s_iload_n dX12_gossip_25 rfl rfl) (s_of_xI (x_callV (ts := [(0, 2)]) ck12 rfl kX12_houses mokX12_houses w8_62 ps5_1 rfl rfl rfl rfl (a_R (ts := []) 0 a_nil (s_aload_n dX12_gossip_26 rfl rfl) rfl) dX12_gossip_27 w8_60)) dX12_gossip_30 rfl) (t_sq (p1 := 36) (Γ' := [(0, 2), (1, 0), (2, 0), (3, 0), (4, 0)]) (t_istore (s_iconst dX12_gossip_33 rfl) dX12_gossip_34 rfl rfl) (t_sq (p1 := 69) (Γ' := [(0, 2), (1, 0), (2, 0), (3, 0), (4, 0)]) (t_sq (p1 := 39) (Γ' := [(0, 2), (1, 0), (2, 0), (3, 0), (4, 0), (5, 0)]) (t_istore (s_iconst dX12_gossip_36 rfl) dX12_gossip_37 rfl rfl) (tn_to (Γ' := [(0, 2), (1, 0), (2, 0), (3, 0), (4, 0), (5, 0)]) (XA := [69]) sLX12_gossip_1 (lda_cons (ld_in rfl) lda_nil) rfl)) (t_sq (p1 := 78) (Γ' := [(0, 2), (1, 0), (2, 0), (3, 0), (4, 0)]) (t_if (pT := 75) (pF := 78) (X := [78]) (XA := []) (XB := [78]) (c_le_F (pF := 78) (s_iload dX12_gossip_69 rfl) (s_iload_n dX12_gossip_71 rfl rfl) dX12_gossip_72 rfl) (t_cnt (ld_goto (y := 83) dX12_gossip_75 rfl (ld_in rfl)) rfl) (t_skip (ld_in rfl) rfl) lda_nil (lda_cons (ld_in rfl) lda_nil)) (t_sq (p1 := 80) (Γ' := [(0, 2), (1, 0), (2, 0), (3, 0), (4, 0)]) (t_istore_n (s_iload_n dX12_gossip_78 rfl rfl) dX12_gossip_79 rfl rfl rfl) (t_istore_n (s_iload dX12_gossip_80 rfl) dX12_gossip_82 rfl rfl rfl))))) (t_iinc dX12_gossip_83 rfl rfl rfl rfl) (lda_cons (ld_in rfl) lda_nil) (lda_cons (ld_in rfl) lda_nil) (lda_cons (ld_goto (y := 25) dX12_gossip_86 rfl (ld_in rfl)) lda_nil) (ld_in rfl) lda_nil
noncomputable def BX12_gossip : Sm Int32 := (dSeq (dP (fI 12 0) (vR 0) (cI 0)) (dSeq (dIf (dNot (dCZ q_ne (dCallV 12 DX12_isPort (aR aN 0 (vR 0))))) (dRet (cI (-2))) dSkip) (dSeq (dDo (dCallV 12 DX12_laysNow (aR aN 0 (vR 0)))) (dSeq (dSetI 1 (cI (-1))) (dSeq (dSetI 2 (cI (-1))) (dSeq (dSeq (dSetI 3 (cI 0)) LX12_gossip_2) (dRet (vI 1))))))))
theorem sBX12_gossip : SS (cvoI, .ireturn) miX12_gossip [] [] [] [(0, 2)] [(0, 2)] 0 [] BX12_gossip := (t_sq (p1 := 5) (Γ' := [(0, 2)]) (t_pI ck12 0 (by decide) rfl (Or.inl rfl) (s_aload_n dX12_gossip_0 rfl rfl) (s_iconst dX12_gossip_1 rfl) dX12_gossip_2 w6_205 rfl) (t_sq (p1 := 15) (Γ' := [(0, 2)]) (t_if (pT := 12) (pF := 15) (X := [15]) (XA := []) (XB := [15]) (c_not (pT := 12) (pF := 15) (c_ne_ZJ (pT := 15) (s_of_xI (x_callV (ts := [(0, 2)]) ck12 rfl kX12_isPort mokX12_isPort w8_132 ps5_11 rfl rfl rfl rfl (a_R (ts := []) 0 a_nil (s_aload_n dX12_gossip_5 rfl rfl) rfl) dX12_gossip_6 w8_130)) dX12_gossip_9 rfl)) (t_ret (cv := cvI) (fun _ _ => rfl) (s_bipush dX12_gossip_12 rfl) dX12_gossip_14) (t_skip (ld_in rfl) rfl) lda_nil (lda_cons (ld_in rfl) lda_nil)) (t_sq (p1 := 19) (Γ' := [(0, 2)]) (t_do (x_callV (ts := [(0, 2)]) ck12 rfl kX12_laysNow mokX12_laysNow w8_140 ps5_13 rfl rfl rfl rfl (a_R (ts := []) 0 a_nil (s_aload_n dX12_gossip_15 rfl rfl) rfl) dX12_gossip_16 w8_138) rfl) (t_sq (p1 := 21) (Γ' := [(0, 2), (1, 0)]) (t_istore_n (s_iconst dX12_gossip_19 rfl) dX12_gossip_20 rfl rfl rfl) (t_sq (p1 := 23) (Γ' := [(0, 2), (1, 0), (2, 0)]) (t_istore_n (s_iconst dX12_gossip_21 rfl) dX12_gossip_22 rfl rfl rfl) (t_sq (p1 := 89) (Γ' := [(0, 2), (1, 0), (2, 0)]) (t_sq (p1 := 25) (Γ' := [(0, 2), (1, 0), (2, 0), (3, 0)]) (t_istore_n (s_iconst dX12_gossip_23 rfl) dX12_gossip_24 rfl rfl rfl) (tn_to (Γ' := [(0, 2), (1, 0), (2, 0), (3, 0)]) (XA := [89]) sLX12_gossip_2 (lda_cons (ld_in rfl) lda_nil) rfl)) (t_ret (cv := cvI) (fun _ _ => rfl) (s_iload_n dX12_gossip_89 rfl rfl) dX12_gossip_90)))))))
noncomputable def DX12_gossip : Fr → St → Option (Int32 × St) := M1 (fun f => (sR fr0 0 (gR f 0))) BX12_gossip
theorem kX12_gossip : SND yX12_gossip cX12_gossip 6 (some .int) 6 [(0, 2)] cvoI DX12_gossip := snd_I (nw := 1) (by decide) rfl rfl (fun _ _ => rfl) sBX12_gossip
theorem dX12_famous_0 : decode cX12_famous 0 = .ok (.aload_n 0, 1) := by decide +kernel
theorem dX12_famous_1 : decode cX12_famous 1 = .ok (.iconst 0, 1) := by decide +kernel
theorem dX12_famous_2 : decode cX12_famous 2 = .ok (.putfield 122, 3) := by decide +kernel
theorem dX12_famous_5 : decode cX12_famous 5 = .ok (.aload_n 0, 1) := by decide +kernel
theorem dX12_famous_6 : decode cX12_famous 6 = .ok (.invokevirtual 301, 3) := by decide +kernel
theorem dX12_famous_9 : decode cX12_famous 9 = .ok (.ifCond .ne 6, 3) := by decide +kernel
theorem dX12_famous_12 : decode cX12_famous 12 = .ok (.bipush (-2), 2) := by decide +kernel
theorem dX12_famous_14 : decode cX12_famous 14 = .ok (.ireturn, 1) := by decide +kernel
theorem dX12_famous_15 : decode cX12_famous 15 = .ok (.aload_n 0, 1) := by decide +kernel
theorem dX12_famous_16 : decode cX12_famous 16 = .ok (.invokevirtual 382, 3) := by decide +kernel
theorem dX12_famous_19 : decode cX12_famous 19 = .ok (.iconst (-1), 1) := by decide +kernel
theorem dX12_famous_20 : decode cX12_famous 20 = .ok (.istore_n 1, 1) := by decide +kernel
theorem dX12_famous_21 : decode cX12_famous 21 = .ok (.iconst 0, 1) := by decide +kernel
theorem dX12_famous_22 : decode cX12_famous 22 = .ok (.istore_n 2, 1) := by decide +kernel
theorem dX12_famous_23 : decode cX12_famous 23 = .ok (.iload_n 2, 1) := by decide +kernel
theorem dX12_famous_24 : decode cX12_famous 24 = .ok (.aload_n 0, 1) := by decide +kernel
theorem dX12_famous_25 : decode cX12_famous 25 = .ok (.invokevirtual 298, 3) := by decide +kernel
theorem dX12_famous_28 : decode cX12_famous 28 = .ok (.if_icmp .ge 43, 3) := by decide +kernel
theorem dX12_famous_31 : decode cX12_famous 31 = .ok (.iload_n 1, 1) := by decide +kernel
theorem dX12_famous_32 : decode cX12_famous 32 = .ok (.iconst (-1), 1) := by decide +kernel
theorem dX12_famous_33 : decode cX12_famous 33 = .ok (.if_icmp .eq 30, 3) := by decide +kernel
theorem dX12_famous_36 : decode cX12_famous 36 = .ok (.aload_n 0, 1) := by decide +kernel
theorem dX12_famous_37 : decode cX12_famous 37 = .ok (.iload_n 2, 1) := by decide +kernel
theorem dX12_famous_38 : decode cX12_famous 38 = .ok (.aload_n 0, 1) := by decide +kernel
theorem dX12_famous_39 : decode cX12_famous 39 = .ok (.invokevirtual 304, 3) := by decide +kernel
theorem dX12_famous_42 : decode cX12_famous 42 = .ok (.invokevirtual 385, 3) := by decide +kernel
theorem dX12_famous_45 : decode cX12_famous 45 = .ok (.invokestatic 394, 3) := by decide +kernel
theorem dX12_famous_48 : decode cX12_famous 48 = .ok (.aload_n 0, 1) := by decide +kernel
theorem dX12_famous_49 : decode cX12_famous 49 = .ok (.iload_n 1, 1) := by decide +kernel
theorem dX12_famous_50 : decode cX12_famous 50 = .ok (.aload_n 0, 1) := by decide +kernel
theorem dX12_famous_51 : decode cX12_famous 51 = .ok (.invokevirtual 304, 3) := by decide +kernel
theorem dX12_famous_54 : decode cX12_famous 54 = .ok (.invokevirtual 385, 3) := by decide +kernel
theorem dX12_famous_57 : decode cX12_famous 57 = .ok (.invokestatic 394, 3) := by decide +kernel
theorem dX12_famous_60 : decode cX12_famous 60 = .ok (.if_icmp .le 5, 3) := by decide +kernel
theorem dX12_famous_63 : decode cX12_famous 63 = .ok (.iload_n 2, 1) := by decide +kernel
theorem dX12_famous_64 : decode cX12_famous 64 = .ok (.istore_n 1, 1) := by decide +kernel
theorem dX12_famous_65 : decode cX12_famous 65 = .ok (.iinc 2 1, 3) := by decide +kernel
theorem dX12_famous_68 : decode cX12_famous 68 = .ok (.goto (-45), 3) := by decide +kernel
theorem dX12_famous_71 : decode cX12_famous 71 = .ok (.iload_n 1, 1) := by decide +kernel
theorem dX12_famous_72 : decode cX12_famous 72 = .ok (.ireturn, 1) := by decide +kernel
theorem mokX12_famous : MOK yX12_famous cX12_famous 3 (some .int) 0 := ⟨w9_24, w1_13, ⟨by decide, by decide⟩, by decide +kernel, by decide⟩
abbrev miX12_famous : MI := (yX12_famous.cls, cX12_famous, 3, 6, false)
noncomputable def LX12_famous_1 : Sm Int32 := dLoop (fun f => (sI (sI (sR fr0 0 (gR f 0)) 1 (gI f 1)) 2 (gI f 2))) (dCI r_lt (vI 2) (dCallV 12 DX12_slates (aR aN 0 (vR 0)))) (dIf (dOr (dCI r_eq (vI 1) (cI (-1))) (dCI r_gt (dCall DX12_sizeOf (aI aN 0 (dCallV 12 DX12_heardOf (aI (aI (aR aN 0 (vR 0)) 1 (vI 2)) 2 (dCallV 12 DX12_days (aR aN 0 (vR 0))))))) (dCall DX12_sizeOf (aI aN 0 (dCallV 12 DX12_heardOf (aI (aI (aR aN 0 (vR 0)) 1 (vI 1)) 2 (dCallV 12 DX12_days (aR aN 0 (vR 0))))))))) (dSetI 1 (vI 2)) dSkip) (dInc 2 1)
theorem sLX12_famous_1 {ΓL : Gm} {PB PK : List Nat} : SS (cvoI, .ireturn) miX12_famous ΓL PB PK [(0, 2), (1, 0), (2, 0)] [(0, 2), (1, 0), (2, 0)] 23 [71] LX12_famous_1 := t_loop (pT := 31) (pF := 71) (pu := 65) (PB' := []) (PK' := []) (XB := [65]) (XU := [68]) (fun _ _ => rfl) rfl (c_lt_F (pF := 71) (s_iload_n dX12_famous_23 rfl rfl) (s_of_xI (x_callV (ts := [(0, 2)]) ck12 rfl kX12_slates mokX12_slates w8_89 ps5_5 rfl rfl rfl rfl (a_R (ts := []) 0 a_nil (s_aload_n dX12_famous_24 rfl rfl) rfl) dX12_famous_25 w8_87)) dX12_famous_28 rfl) (t_if (pT := 63) (pF := 65) (X := [65]) (XA := [65]) (XB := [65]) (c_or (p1 := 36) (pT := 63) (pF := 65) (c_eq_J (pT := 63) (s_iload_n dX12_famous_31 rfl rfl) (s_iconst dX12_famous_32 rfl) dX12_famous_33 rfl) (c_gt_F (pF := 65) (s_of_xI (x_call (ts := [(0, 0)]) kX12_sizeOf mokX12_sizeOf w9_11 rfl rfl rfl (a_I (ts := []) 0 a_nil (s_of_xI (x_callV (ts := [(0, 2), (1, 0), (2, 0)]) ck12 rfl kX12_heardOf mokX12_heardOf w8_196 ps6_6 rfl rfl rfl rfl (a_I (ts := [(0, 2), (1, 0)]) 2 (a_I (ts := [(0, 2)]) 1 (a_R (ts := []) 0 a_nil (s_aload_n dX12_famous_36 rfl rfl) rfl) (s_iload_n dX12_famous_37 rfl rfl) rfl) (s_of_xI (x_callV (ts := [(0, 2)]) ck12 rfl kX12_days mokX12_days w8_136 ps5_12 rfl rfl rfl rfl (a_R (ts := []) 0 a_nil (s_aload_n dX12_famous_38 rfl rfl) rfl) dX12_famous_39 w8_134)) rfl) dX12_famous_42 w8_194)) rfl) dX12_famous_45 w9_10)) (s_of_xI (x_call (ts := [(0, 0)]) kX12_sizeOf mokX12_sizeOf w9_11 rfl rfl rfl (a_I (ts := []) 0 a_nil (s_of_xI (x_callV (ts := [(0, 2), (1, 0), (2, 0)]) ck12 rfl kX12_heardOf mokX12_heardOf w8_196 ps6_6 rfl rfl rfl rfl (a_I (ts := [(0, 2), (1, 0)]) 2 (a_I (ts := [(0, 2)]) 1 (a_R (ts := []) 0 a_nil (s_aload_n dX12_famous_48 rfl rfl) rfl) (s_iload_n dX12_famous_49 rfl rfl) rfl) (s_of_xI (x_callV (ts := [(0, 2)]) ck12 rfl kX12_days mokX12_days w8_136 ps5_12 rfl rfl rfl rfl (a_R (ts := []) 0 a_nil (s_aload_n dX12_famous_50 rfl rfl) rfl) dX12_famous_51 w8_134)) rfl) dX12_famous_54 w8_194)) rfl) dX12_famous_57 w9_10)) dX12_famous_60 rfl)) (t_istore_n (s_iload_n dX12_famous_63 rfl rfl) dX12_famous_64 rfl rfl rfl) (t_skip (ld_in rfl) rfl) (lda_cons (ld_in rfl) lda_nil) (lda_cons (ld_in rfl) lda_nil)) (t_iinc dX12_famous_65 rfl rfl rfl rfl) (lda_cons (ld_in rfl) lda_nil) lda_nil (lda_cons (ld_goto (y := 23) dX12_famous_68 rfl (ld_in rfl)) lda_nil) (ld_in rfl) lda_nil
noncomputable def BX12_famous : Sm Int32 := (dSeq (dP (fI 12 0) (vR 0) (cI 0)) (dSeq (dIf (dNot (dCZ q_ne (dCallV 12 DX12_isPort (aR aN 0 (vR 0))))) (dRet (cI (-2))) dSkip) (dSeq (dDo (dCallV 12 DX12_laysNow (aR aN 0 (vR 0)))) (dSeq (dSetI 1 (cI (-1))) (dSeq (dSeq (dSetI 2 (cI 0)) LX12_famous_1) (dRet (vI 1)))))))
theorem sBX12_famous : SS (cvoI, .ireturn) miX12_famous [] [] [] [(0, 2)] [(0, 2)] 0 [] BX12_famous := (t_sq (p1 := 5) (Γ' := [(0, 2)]) (t_pI ck12 0 (by decide) rfl (Or.inl rfl) (s_aload_n dX12_famous_0 rfl rfl) (s_iconst dX12_famous_1 rfl) dX12_famous_2 w6_205 rfl) (t_sq (p1 := 15) (Γ' := [(0, 2)]) (t_if (pT := 12) (pF := 15) (X := [15]) (XA := []) (XB := [15]) (c_not (pT := 12) (pF := 15) (c_ne_ZJ (pT := 15) (s_of_xI (x_callV (ts := [(0, 2)]) ck12 rfl kX12_isPort mokX12_isPort w8_132 ps5_11 rfl rfl rfl rfl (a_R (ts := []) 0 a_nil (s_aload_n dX12_famous_5 rfl rfl) rfl) dX12_famous_6 w8_130)) dX12_famous_9 rfl)) (t_ret (cv := cvI) (fun _ _ => rfl) (s_bipush dX12_famous_12 rfl) dX12_famous_14) (t_skip (ld_in rfl) rfl) lda_nil (lda_cons (ld_in rfl) lda_nil)) (t_sq (p1 := 19) (Γ' := [(0, 2)]) (t_do (x_callV (ts := [(0, 2)]) ck12 rfl kX12_laysNow mokX12_laysNow w8_140 ps5_13 rfl rfl rfl rfl (a_R (ts := []) 0 a_nil (s_aload_n dX12_famous_15 rfl rfl) rfl) dX12_famous_16 w8_138) rfl) (t_sq (p1 := 21) (Γ' := [(0, 2), (1, 0)]) (t_istore_n (s_iconst dX12_famous_19 rfl) dX12_famous_20 rfl rfl rfl) (t_sq (p1 := 71) (Γ' := [(0, 2), (1, 0)]) (t_sq (p1 := 23) (Γ' := [(0, 2), (1, 0), (2, 0)]) (t_istore_n (s_iconst dX12_famous_21 rfl) dX12_famous_22 rfl rfl rfl) (tn_to (Γ' := [(0, 2), (1, 0), (2, 0)]) (XA := [71]) sLX12_famous_1 (lda_cons (ld_in rfl) lda_nil) rfl)) (t_ret (cv := cvI) (fun _ _ => rfl) (s_iload_n dX12_famous_71 rfl rfl) dX12_famous_72))))))
noncomputable def DX12_famous : Fr → St → Option (Int32 × St) := M1 (fun f => (sR fr0 0 (gR f 0))) BX12_famous
theorem kX12_famous : SND yX12_famous cX12_famous 3 (some .int) 6 [(0, 2)] cvoI DX12_famous := snd_I (nw := 1) (by decide) rfl rfl (fun _ _ => rfl) sBX12_famous
theorem dX12_areThree_0 : decode cX12_areThree 0 = .ok (.aload_n 0, 1) := by decide +kernel
theorem dX12_areThree_1 : decode cX12_areThree 1 = .ok (.iload_n 1, 1) := by decide +kernel
theorem dX12_areThree_2 : decode cX12_areThree 2 = .ok (.invokevirtual 366, 3) := by decide +kernel
theorem dX12_areThree_5 : decode cX12_areThree 5 = .ok (.ifCond .eq 24, 3) := by decide +kernel
theorem dX12_areThree_8 : decode cX12_areThree 8 = .ok (.aload_n 0, 1) := by decide +kernel
theorem dX12_areThree_9 : decode cX12_areThree 9 = .ok (.iload_n 2, 1) := by decide +kernel
theorem dX12_areThree_10 : decode cX12_areThree 10 = .ok (.invokevirtual 372, 3) := by decide +kernel
theorem dX12_areThree_13 : decode cX12_areThree 13 = .ok (.ifCond .eq 16, 3) := by decide +kernel
theorem dX12_areThree_16 : decode cX12_areThree 16 = .ok (.aload_n 0, 1) := by decide +kernel
theorem dX12_areThree_17 : decode cX12_areThree 17 = .ok (.iload_n 3, 1) := by decide +kernel
theorem dX12_areThree_18 : decode cX12_areThree 18 = .ok (.i2l, 1) := by decide +kernel
theorem dX12_areThree_19 : decode cX12_areThree 19 = .ok (.invokevirtual 307, 3) := by decide +kernel
theorem dX12_areThree_22 : decode cX12_areThree 22 = .ok (.ifCond .eq 7, 3) := by decide +kernel
theorem dX12_areThree_25 : decode cX12_areThree 25 = .ok (.iconst 1, 1) := by decide +kernel
theorem dX12_areThree_26 : decode cX12_areThree 26 = .ok (.goto 4, 3) := by decide +kernel
theorem dX12_areThree_29 : decode cX12_areThree 29 = .ok (.iconst 0, 1) := by decide +kernel
theorem dX12_areThree_30 : decode cX12_areThree 30 = .ok (.ireturn, 1) := by decide +kernel
theorem mokX12_areThree : MOK yX12_areThree cX12_areThree 4 (some .boolean) 3 := ⟨w9_32, w1_13, ⟨by decide, by decide⟩, by decide +kernel, by decide⟩
abbrev miX12_areThree : MI := (yX12_areThree.cls, cX12_areThree, 4, 3, false)
noncomputable def BX12_areThree : Sm Int32 := (dRet (dB (dAnd (dAnd (dCZ q_ne (dCallV 12 DX12_isCarrier (aI (aR aN 0 (vR 0)) 1 (vI 1)))) (dCZ q_ne (dCallV 12 DX12_isSlate (aI (aR aN 0 (vR 0)) 1 (vI 2))))) (dCZ q_ne (dCallV 12 DX12_isHouse (aL (aR aN 0 (vR 0)) 1 (d1 o_i2l (vI 3))))))))
theorem sBX12_areThree : SS (cvoI, .ireturn) miX12_areThree [] [] [] [(0, 2), (1, 0), (2, 0), (3, 0)] [(0, 2), (1, 0), (2, 0), (3, 0)] 0 [] BX12_areThree := (t_ret (cv := cvI) (fun _ _ => rfl) (s_B (pT := 25) (pF := 29) (pe := 30) (c_and (p1 := 16) (pT := 25) (pF := 29) (c_and (p1 := 8) (pT := 16) (pF := 29) (c_ne_ZF (pF := 29) (s_of_xI (x_callV (ts := [(0, 2), (1, 0)]) ck12 rfl kX12_isCarrier mokX12_isCarrier w8_70 ps5_2 rfl rfl rfl rfl (a_I (ts := [(0, 2)]) 1 (a_R (ts := []) 0 a_nil (s_aload_n dX12_areThree_0 rfl rfl) rfl) (s_iload_n dX12_areThree_1 rfl rfl) rfl) dX12_areThree_2 w8_68)) dX12_areThree_5 rfl) (c_ne_ZF (pF := 29) (s_of_xI (x_callV (ts := [(0, 2), (1, 0)]) ck12 rfl kX12_isSlate mokX12_isSlate w8_85 ps5_4 rfl rfl rfl rfl (a_I (ts := [(0, 2)]) 1 (a_R (ts := []) 0 a_nil (s_aload_n dX12_areThree_8 rfl rfl) rfl) (s_iload_n dX12_areThree_9 rfl rfl) rfl) dX12_areThree_10 w8_83)) dX12_areThree_13 rfl)) (c_ne_ZF (pF := 29) (s_of_xI (x_callV (ts := [(0, 2), (1, 1)]) ck12 rfl kX12_isHouse mokX12_isHouse w8_58 ps5_0 rfl rfl rfl rfl (a_L (ts := [(0, 2)]) 1 (a_R (ts := []) 0 a_nil (s_aload_n dX12_areThree_16 rfl rfl) rfl) (s_i2l (s_iload_n dX12_areThree_17 rfl rfl) dX12_areThree_18) rfl) dX12_areThree_19 w8_56)) dX12_areThree_22 rfl)) dX12_areThree_25 dX12_areThree_26 rfl dX12_areThree_29 rfl) dX12_areThree_30)
noncomputable def DX12_areThree : Fr → St → Option (Int32 × St) := MZ (fun f => (sI (sI (sI (sR fr0 0 (gR f 0)) 1 (gI f 1)) 2 (gI f 2)) 3 (gI f 3))) BX12_areThree
theorem kX12_areThree : SND yX12_areThree cX12_areThree 4 (some .boolean) 3 [(0, 2), (1, 0), (2, 0), (3, 0)] cvoI DX12_areThree := snd_Z (nw := 4) (by decide) rfl rfl (fun _ _ => rfl) sBX12_areThree
