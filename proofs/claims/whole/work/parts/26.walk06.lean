theorem dX12_paste_0 : decode cX12_paste 0 = .ok (.aload_n 0, 1) := by decide +kernel
theorem dX12_paste_1 : decode cX12_paste 1 = .ok (.iconst 0, 1) := by decide +kernel
theorem dX12_paste_2 : decode cX12_paste 2 = .ok (.putfield 122, 3) := by decide +kernel
theorem dX12_paste_5 : decode cX12_paste 5 = .ok (.iload_n 1, 1) := by decide +kernel
theorem dX12_paste_6 : decode cX12_paste 6 = .ok (.invokestatic 131, 3) := by decide +kernel
theorem dX12_paste_9 : decode cX12_paste 9 = .ok (.ifCond .eq 10, 3) := by decide +kernel
theorem dX12_paste_12 : decode cX12_paste 12 = .ok (.iload_n 3, 1) := by decide +kernel
theorem dX12_paste_13 : decode cX12_paste 13 = .ok (.invokestatic 131, 3) := by decide +kernel
theorem dX12_paste_16 : decode cX12_paste 16 = .ok (.ifCond .ne 6, 3) := by decide +kernel
theorem dX12_paste_19 : decode cX12_paste 19 = .ok (.bipush (-2), 2) := by decide +kernel
theorem dX12_paste_21 : decode cX12_paste 21 = .ok (.ireturn, 1) := by decide +kernel
theorem dX12_paste_22 : decode cX12_paste 22 = .ok (.aload_n 0, 1) := by decide +kernel
theorem dX12_paste_23 : decode cX12_paste 23 = .ok (.getfield 7, 3) := by decide +kernel
theorem dX12_paste_26 : decode cX12_paste 26 = .ok (.iload_n 1, 1) := by decide +kernel
theorem dX12_paste_27 : decode cX12_paste 27 = .ok (.iaload, 1) := by decide +kernel
theorem dX12_paste_28 : decode cX12_paste 28 = .ok (.iconst (-1), 1) := by decide +kernel
theorem dX12_paste_29 : decode cX12_paste 29 = .ok (.if_icmp .eq 13, 3) := by decide +kernel
theorem dX12_paste_32 : decode cX12_paste 32 = .ok (.aload_n 0, 1) := by decide +kernel
theorem dX12_paste_33 : decode cX12_paste 33 = .ok (.getfield 7, 3) := by decide +kernel
theorem dX12_paste_36 : decode cX12_paste 36 = .ok (.iload_n 3, 1) := by decide +kernel
theorem dX12_paste_37 : decode cX12_paste 37 = .ok (.iaload, 1) := by decide +kernel
theorem dX12_paste_38 : decode cX12_paste 38 = .ok (.iconst (-1), 1) := by decide +kernel
theorem dX12_paste_39 : decode cX12_paste 39 = .ok (.if_icmp .ne 6, 3) := by decide +kernel
theorem dX12_paste_42 : decode cX12_paste 42 = .ok (.bipush (-6), 2) := by decide +kernel
theorem dX12_paste_44 : decode cX12_paste 44 = .ok (.ireturn, 1) := by decide +kernel
theorem dX12_paste_45 : decode cX12_paste 45 = .ok (.aload_n 0, 1) := by decide +kernel
theorem dX12_paste_46 : decode cX12_paste 46 = .ok (.getfield 7, 3) := by decide +kernel
theorem dX12_paste_49 : decode cX12_paste 49 = .ok (.iload_n 1, 1) := by decide +kernel
theorem dX12_paste_50 : decode cX12_paste 50 = .ok (.iaload, 1) := by decide +kernel
theorem dX12_paste_51 : decode cX12_paste 51 = .ok (.aload_n 0, 1) := by decide +kernel
theorem dX12_paste_52 : decode cX12_paste 52 = .ok (.getfield 7, 3) := by decide +kernel
theorem dX12_paste_55 : decode cX12_paste 55 = .ok (.iload_n 3, 1) := by decide +kernel
theorem dX12_paste_56 : decode cX12_paste 56 = .ok (.iaload, 1) := by decide +kernel
theorem dX12_paste_57 : decode cX12_paste 57 = .ok (.if_icmp .eq 6, 3) := by decide +kernel
theorem dX12_paste_60 : decode cX12_paste 60 = .ok (.bipush (-8), 2) := by decide +kernel
theorem dX12_paste_62 : decode cX12_paste 62 = .ok (.ireturn, 1) := by decide +kernel
theorem dX12_paste_63 : decode cX12_paste 63 = .ok (.iload_n 2, 1) := by decide +kernel
theorem dX12_paste_64 : decode cX12_paste 64 = .ok (.ifCond .lt 48, 3) := by decide +kernel
theorem dX12_paste_67 : decode cX12_paste 67 = .ok (.iload 4, 2) := by decide +kernel
theorem dX12_paste_69 : decode cX12_paste 69 = .ok (.ifCond .lt 43, 3) := by decide +kernel
theorem dX12_paste_72 : decode cX12_paste 72 = .ok (.iload 5, 2) := by decide +kernel
theorem dX12_paste_74 : decode cX12_paste 74 = .ok (.ifCond .lt 38, 3) := by decide +kernel
theorem dX12_paste_77 : decode cX12_paste 77 = .ok (.iload_n 2, 1) := by decide +kernel
theorem dX12_paste_78 : decode cX12_paste 78 = .ok (.i2l, 1) := by decide +kernel
theorem dX12_paste_79 : decode cX12_paste 79 = .ok (.iload 5, 2) := by decide +kernel
theorem dX12_paste_81 : decode cX12_paste 81 = .ok (.i2l, 1) := by decide +kernel
theorem dX12_paste_82 : decode cX12_paste 82 = .ok (.ladd, 1) := by decide +kernel
theorem dX12_paste_83 : decode cX12_paste 83 = .ok (.aload_n 0, 1) := by decide +kernel
theorem dX12_paste_84 : decode cX12_paste 84 = .ok (.getfield 13, 3) := by decide +kernel
theorem dX12_paste_87 : decode cX12_paste 87 = .ok (.iload_n 1, 1) := by decide +kernel
theorem dX12_paste_88 : decode cX12_paste 88 = .ok (.iaload, 1) := by decide +kernel
theorem dX12_paste_89 : decode cX12_paste 89 = .ok (.i2l, 1) := by decide +kernel
theorem dX12_paste_90 : decode cX12_paste 90 = .ok (.lcmp, 1) := by decide +kernel
theorem dX12_paste_91 : decode cX12_paste 91 = .ok (.ifCond .gt 21, 3) := by decide +kernel
theorem dX12_paste_94 : decode cX12_paste 94 = .ok (.iload 4, 2) := by decide +kernel
theorem dX12_paste_96 : decode cX12_paste 96 = .ok (.i2l, 1) := by decide +kernel
theorem dX12_paste_97 : decode cX12_paste 97 = .ok (.iload 5, 2) := by decide +kernel
theorem dX12_paste_99 : decode cX12_paste 99 = .ok (.i2l, 1) := by decide +kernel
theorem dX12_paste_100 : decode cX12_paste 100 = .ok (.ladd, 1) := by decide +kernel
theorem dX12_paste_101 : decode cX12_paste 101 = .ok (.aload_n 0, 1) := by decide +kernel
theorem dX12_paste_102 : decode cX12_paste 102 = .ok (.getfield 13, 3) := by decide +kernel
theorem dX12_paste_105 : decode cX12_paste 105 = .ok (.iload_n 3, 1) := by decide +kernel
theorem dX12_paste_106 : decode cX12_paste 106 = .ok (.iaload, 1) := by decide +kernel
theorem dX12_paste_107 : decode cX12_paste 107 = .ok (.i2l, 1) := by decide +kernel
theorem dX12_paste_108 : decode cX12_paste 108 = .ok (.lcmp, 1) := by decide +kernel
theorem dX12_paste_109 : decode cX12_paste 109 = .ok (.ifCond .le 6, 3) := by decide +kernel
theorem dX12_paste_112 : decode cX12_paste 112 = .ok (.bipush (-7), 2) := by decide +kernel
theorem dX12_paste_114 : decode cX12_paste 114 = .ok (.ireturn, 1) := by decide +kernel
theorem dX12_paste_115 : decode cX12_paste 115 = .ok (.iconst 0, 1) := by decide +kernel
theorem dX12_paste_116 : decode cX12_paste 116 = .ok (.istore 6, 2) := by decide +kernel
theorem dX12_paste_118 : decode cX12_paste 118 = .ok (.iload 6, 2) := by decide +kernel
theorem dX12_paste_120 : decode cX12_paste 120 = .ok (.iload 5, 2) := by decide +kernel
theorem dX12_paste_122 : decode cX12_paste 122 = .ok (.if_icmp .ge 30, 3) := by decide +kernel
theorem dX12_paste_125 : decode cX12_paste 125 = .ok (.aload_n 0, 1) := by decide +kernel
theorem dX12_paste_126 : decode cX12_paste 126 = .ok (.getfield 20, 3) := by decide +kernel
theorem dX12_paste_129 : decode cX12_paste 129 = .ok (.iload 6, 2) := by decide +kernel
theorem dX12_paste_131 : decode cX12_paste 131 = .ok (.aload_n 0, 1) := by decide +kernel
theorem dX12_paste_132 : decode cX12_paste 132 = .ok (.getfield 16, 3) := by decide +kernel
theorem dX12_paste_135 : decode cX12_paste 135 = .ok (.bipush 60, 2) := by decide +kernel
theorem dX12_paste_137 : decode cX12_paste 137 = .ok (.iload_n 1, 1) := by decide +kernel
theorem dX12_paste_138 : decode cX12_paste 138 = .ok (.imul, 1) := by decide +kernel
theorem dX12_paste_139 : decode cX12_paste 139 = .ok (.iload_n 2, 1) := by decide +kernel
theorem dX12_paste_140 : decode cX12_paste 140 = .ok (.iadd, 1) := by decide +kernel
theorem dX12_paste_141 : decode cX12_paste 141 = .ok (.iload 6, 2) := by decide +kernel
theorem dX12_paste_143 : decode cX12_paste 143 = .ok (.iadd, 1) := by decide +kernel
theorem dX12_paste_144 : decode cX12_paste 144 = .ok (.laload, 1) := by decide +kernel
theorem dX12_paste_145 : decode cX12_paste 145 = .ok (.lastore, 1) := by decide +kernel
theorem dX12_paste_146 : decode cX12_paste 146 = .ok (.iinc 6 1, 3) := by decide +kernel
theorem dX12_paste_149 : decode cX12_paste 149 = .ok (.goto (-31), 3) := by decide +kernel
theorem dX12_paste_152 : decode cX12_paste 152 = .ok (.iconst 0, 1) := by decide +kernel
theorem dX12_paste_153 : decode cX12_paste 153 = .ok (.istore 6, 2) := by decide +kernel
theorem dX12_paste_155 : decode cX12_paste 155 = .ok (.iload 6, 2) := by decide +kernel
theorem dX12_paste_157 : decode cX12_paste 157 = .ok (.iload 5, 2) := by decide +kernel
theorem dX12_paste_159 : decode cX12_paste 159 = .ok (.if_icmp .ge 31, 3) := by decide +kernel
theorem dX12_paste_162 : decode cX12_paste 162 = .ok (.aload_n 0, 1) := by decide +kernel
theorem dX12_paste_163 : decode cX12_paste 163 = .ok (.getfield 16, 3) := by decide +kernel
theorem dX12_paste_166 : decode cX12_paste 166 = .ok (.bipush 60, 2) := by decide +kernel
theorem dX12_paste_168 : decode cX12_paste 168 = .ok (.iload_n 3, 1) := by decide +kernel
theorem dX12_paste_169 : decode cX12_paste 169 = .ok (.imul, 1) := by decide +kernel
theorem dX12_paste_170 : decode cX12_paste 170 = .ok (.iload 4, 2) := by decide +kernel
theorem dX12_paste_172 : decode cX12_paste 172 = .ok (.iadd, 1) := by decide +kernel
theorem dX12_paste_173 : decode cX12_paste 173 = .ok (.iload 6, 2) := by decide +kernel
theorem dX12_paste_175 : decode cX12_paste 175 = .ok (.iadd, 1) := by decide +kernel
theorem dX12_paste_176 : decode cX12_paste 176 = .ok (.aload_n 0, 1) := by decide +kernel
theorem dX12_paste_177 : decode cX12_paste 177 = .ok (.getfield 20, 3) := by decide +kernel
theorem dX12_paste_180 : decode cX12_paste 180 = .ok (.iload 6, 2) := by decide +kernel
theorem dX12_paste_182 : decode cX12_paste 182 = .ok (.laload, 1) := by decide +kernel
theorem dX12_paste_183 : decode cX12_paste 183 = .ok (.lastore, 1) := by decide +kernel
theorem dX12_paste_184 : decode cX12_paste 184 = .ok (.iinc 6 1, 3) := by decide +kernel
theorem dX12_paste_187 : decode cX12_paste 187 = .ok (.goto (-32), 3) := by decide +kernel
theorem dX12_paste_190 : decode cX12_paste 190 = .ok (.iconst 0, 1) := by decide +kernel
theorem dX12_paste_191 : decode cX12_paste 191 = .ok (.ireturn, 1) := by decide +kernel
theorem mokX12_paste : MOK yX12_paste cX12_paste 7 (some .int) 5 := ⟨w7_153, w1_13, ⟨by decide, by decide⟩, by decide +kernel, by decide⟩
abbrev miX12_paste : MI := (yX12_paste.cls, cX12_paste, 7, 3, false)
noncomputable def LX12_paste_1 : Sm Int32 := dLoop (fun f => (sI (sI (sI (sI (sI (sI (sR fr0 0 (gR f 0)) 1 (gI f 1)) 2 (gI f 2)) 3 (gI f 3)) 4 (gI f 4)) 5 (gI f 5)) 6 (gI f 6))) (dCI r_lt (vI 6) (vI 5)) (d3 stL (dGR 12 4 (vR 0)) (vI 6) (dAL (dGR 12 3 (vR 0)) (d2 o_iadd (d2 o_iadd (d2 o_imul (cI 60) (vI 1)) (vI 2)) (vI 6)))) (dInc 6 1)
theorem sLX12_paste_1 {ΓL : Gm} {PB PK : List Nat} : SS (cvoI, .ireturn) miX12_paste ΓL PB PK [(0, 2), (1, 0), (2, 0), (3, 0), (4, 0), (5, 0), (6, 0)] [(0, 2), (1, 0), (2, 0), (3, 0), (4, 0), (5, 0), (6, 0)] 118 [152] LX12_paste_1 := t_loop (pT := 125) (pF := 152) (pu := 146) (PB' := []) (PK' := []) (XB := [146]) (XU := [149]) (fun _ _ => rfl) rfl (c_lt_F (pF := 152) (s_iload dX12_paste_118 rfl) (s_iload dX12_paste_120 rfl) dX12_paste_122 rfl) (t_stL (s_getR ck12 4 (by decide) rfl (s_aload_n dX12_paste_125 rfl rfl) dX12_paste_126 w6_209) (s_iload dX12_paste_129 rfl) (s_dAL (s_getR ck12 3 (by decide) rfl (s_aload_n dX12_paste_131 rfl rfl) dX12_paste_132 w6_208) (s_iadd (s_iadd (s_imul (s_bipush dX12_paste_135 rfl) (s_iload_n dX12_paste_137 rfl rfl) dX12_paste_138) (s_iload_n dX12_paste_139 rfl rfl) dX12_paste_140) (s_iload dX12_paste_141 rfl) dX12_paste_143) dX12_paste_144) dX12_paste_145 rfl) (t_iinc dX12_paste_146 rfl rfl rfl rfl) (lda_cons (ld_in rfl) lda_nil) lda_nil (lda_cons (ld_goto (y := 118) dX12_paste_149 rfl (ld_in rfl)) lda_nil) (ld_in rfl) lda_nil
noncomputable def LX12_paste_2 : Sm Int32 := dLoop (fun f => (sI (sI (sI (sI (sI (sI (sR fr0 0 (gR f 0)) 1 (gI f 1)) 2 (gI f 2)) 3 (gI f 3)) 4 (gI f 4)) 5 (gI f 5)) 6 (gI f 6))) (dCI r_lt (vI 6) (vI 5)) (d3 stL (dGR 12 3 (vR 0)) (d2 o_iadd (d2 o_iadd (d2 o_imul (cI 60) (vI 3)) (vI 4)) (vI 6)) (dAL (dGR 12 4 (vR 0)) (vI 6))) (dInc 6 1)
theorem sLX12_paste_2 {ΓL : Gm} {PB PK : List Nat} : SS (cvoI, .ireturn) miX12_paste ΓL PB PK [(0, 2), (1, 0), (2, 0), (3, 0), (4, 0), (5, 0), (6, 0)] [(0, 2), (1, 0), (2, 0), (3, 0), (4, 0), (5, 0), (6, 0)] 155 [190] LX12_paste_2 := t_loop (pT := 162) (pF := 190) (pu := 184) (PB' := []) (PK' := []) (XB := [184]) (XU := [187]) (fun _ _ => rfl) rfl (c_lt_F (pF := 190) (s_iload dX12_paste_155 rfl) (s_iload dX12_paste_157 rfl) dX12_paste_159 rfl) (t_stL (s_getR ck12 3 (by decide) rfl (s_aload_n dX12_paste_162 rfl rfl) dX12_paste_163 w6_208) (s_iadd (s_iadd (s_imul (s_bipush dX12_paste_166 rfl) (s_iload_n dX12_paste_168 rfl rfl) dX12_paste_169) (s_iload dX12_paste_170 rfl) dX12_paste_172) (s_iload dX12_paste_173 rfl) dX12_paste_175) (s_dAL (s_getR ck12 4 (by decide) rfl (s_aload_n dX12_paste_176 rfl rfl) dX12_paste_177 w6_209) (s_iload dX12_paste_180 rfl) dX12_paste_182) dX12_paste_183 rfl) (t_iinc dX12_paste_184 rfl rfl rfl rfl) (lda_cons (ld_in rfl) lda_nil) lda_nil (lda_cons (ld_goto (y := 155) dX12_paste_187 rfl (ld_in rfl)) lda_nil) (ld_in rfl) lda_nil
noncomputable def BX12_paste : Sm Int32 := (dSeq (dP (fI 12 0) (vR 0) (cI 0)) (dSeq (dIf (dOr (dNot (dCZ q_ne (dCall DX12_isSlot (aI aN 0 (vI 1))))) (dNot (dCZ q_ne (dCall DX12_isSlot (aI aN 0 (vI 3)))))) (dRet (cI (-2))) dSkip) (dSeq (dIf (dOr (dCI r_eq (dAI (dGR 12 1 (vR 0)) (vI 1)) (cI (-1))) (dCI r_eq (dAI (dGR 12 1 (vR 0)) (vI 3)) (cI (-1)))) (dRet (cI (-6))) dSkip) (dSeq (dIf (dCI r_ne (dAI (dGR 12 1 (vR 0)) (vI 1)) (dAI (dGR 12 1 (vR 0)) (vI 3))) (dRet (cI (-8))) dSkip) (dSeq (dIf (dOr (dOr (dOr (dOr (dCZ q_lt (vI 2)) (dCZ q_lt (vI 4))) (dCZ q_lt (vI 5))) (dCZ q_gt (d2 o_lcmp (d2 o_ladd (d1 o_i2l (vI 2)) (d1 o_i2l (vI 5))) (d1 o_i2l (dAI (dGR 12 2 (vR 0)) (vI 1)))))) (dCZ q_gt (d2 o_lcmp (d2 o_ladd (d1 o_i2l (vI 4)) (d1 o_i2l (vI 5))) (d1 o_i2l (dAI (dGR 12 2 (vR 0)) (vI 3)))))) (dRet (cI (-7))) dSkip) (dSeq (dSeq (dSetI 6 (cI 0)) LX12_paste_1) (dSeq (dSeq (dSetI 6 (cI 0)) LX12_paste_2) (dRet (cI 0)))))))))
theorem sBX12_paste : SS (cvoI, .ireturn) miX12_paste [] [] [] [(0, 2), (1, 0), (2, 0), (3, 0), (4, 0), (5, 0)] [(0, 2), (1, 0), (2, 0), (3, 0), (4, 0), (5, 0)] 0 [] BX12_paste := (t_sq (p1 := 5) (Γ' := [(0, 2), (1, 0), (2, 0), (3, 0), (4, 0), (5, 0)]) (t_pI ck12 0 (by decide) rfl (Or.inl rfl) (s_aload_n dX12_paste_0 rfl rfl) (s_iconst dX12_paste_1 rfl) dX12_paste_2 w6_205 rfl) (t_sq (p1 := 22) (Γ' := [(0, 2), (1, 0), (2, 0), (3, 0), (4, 0), (5, 0)]) (t_if (pT := 19) (pF := 22) (X := [22]) (XA := []) (XB := [22]) (c_or (p1 := 12) (pT := 19) (pF := 22) (c_not (pT := 19) (pF := 12) (c_ne_ZF (pF := 19) (s_of_xI (x_call (ts := [(0, 0)]) kX12_isSlot mokX12_isSlot w7_137 rfl rfl rfl (a_I (ts := []) 0 a_nil (s_iload_n dX12_paste_5 rfl rfl) rfl) dX12_paste_6 w7_136)) dX12_paste_9 rfl)) (c_not (pT := 19) (pF := 22) (c_ne_ZJ (pT := 22) (s_of_xI (x_call (ts := [(0, 0)]) kX12_isSlot mokX12_isSlot w7_137 rfl rfl rfl (a_I (ts := []) 0 a_nil (s_iload_n dX12_paste_12 rfl rfl) rfl) dX12_paste_13 w7_136)) dX12_paste_16 rfl))) (t_ret (cv := cvI) (fun _ _ => rfl) (s_bipush dX12_paste_19 rfl) dX12_paste_21) (t_skip (ld_in rfl) rfl) lda_nil (lda_cons (ld_in rfl) lda_nil)) (t_sq (p1 := 45) (Γ' := [(0, 2), (1, 0), (2, 0), (3, 0), (4, 0), (5, 0)]) (t_if (pT := 42) (pF := 45) (X := [45]) (XA := []) (XB := [45]) (c_or (p1 := 32) (pT := 42) (pF := 45) (c_eq_J (pT := 42) (s_dAI (s_getR ck12 1 (by decide) rfl (s_aload_n dX12_paste_22 rfl rfl) dX12_paste_23 w6_206) (s_iload_n dX12_paste_26 rfl rfl) dX12_paste_27) (s_iconst dX12_paste_28 rfl) dX12_paste_29 rfl) (c_eq_F (pF := 45) (s_dAI (s_getR ck12 1 (by decide) rfl (s_aload_n dX12_paste_32 rfl rfl) dX12_paste_33 w6_206) (s_iload_n dX12_paste_36 rfl rfl) dX12_paste_37) (s_iconst dX12_paste_38 rfl) dX12_paste_39 rfl)) (t_ret (cv := cvI) (fun _ _ => rfl) (s_bipush dX12_paste_42 rfl) dX12_paste_44) (t_skip (ld_in rfl) rfl) lda_nil (lda_cons (ld_in rfl) lda_nil)) (t_sq (p1 := 63) (Γ' := [(0, 2), (1, 0), (2, 0), (3, 0), (4, 0), (5, 0)]) (t_if (pT := 60) (pF := 63) (X := [63]) (XA := []) (XB := [63]) (c_ne_F (pF := 63) (s_dAI (s_getR ck12 1 (by decide) rfl (s_aload_n dX12_paste_45 rfl rfl) dX12_paste_46 w6_206) (s_iload_n dX12_paste_49 rfl rfl) dX12_paste_50) (s_dAI (s_getR ck12 1 (by decide) rfl (s_aload_n dX12_paste_51 rfl rfl) dX12_paste_52 w6_206) (s_iload_n dX12_paste_55 rfl rfl) dX12_paste_56) dX12_paste_57 rfl) (t_ret (cv := cvI) (fun _ _ => rfl) (s_bipush dX12_paste_60 rfl) dX12_paste_62) (t_skip (ld_in rfl) rfl) lda_nil (lda_cons (ld_in rfl) lda_nil)) (t_sq (p1 := 115) (Γ' := [(0, 2), (1, 0), (2, 0), (3, 0), (4, 0), (5, 0)]) (t_if (pT := 112) (pF := 115) (X := [115]) (XA := []) (XB := [115]) (c_or (p1 := 94) (pT := 112) (pF := 115) (c_or (p1 := 77) (pT := 112) (pF := 94) (c_or (p1 := 72) (pT := 112) (pF := 77) (c_or (p1 := 67) (pT := 112) (pF := 72) (c_lt_ZJ (pT := 112) (s_iload_n dX12_paste_63 rfl rfl) dX12_paste_64 rfl) (c_lt_ZJ (pT := 112) (s_iload dX12_paste_67 rfl) dX12_paste_69 rfl)) (c_lt_ZJ (pT := 112) (s_iload dX12_paste_72 rfl) dX12_paste_74 rfl)) (c_gt_ZJ (pT := 112) (s_lcmp (s_ladd (s_i2l (s_iload_n dX12_paste_77 rfl rfl) dX12_paste_78) (s_i2l (s_iload dX12_paste_79 rfl) dX12_paste_81) dX12_paste_82) (s_i2l (s_dAI (s_getR ck12 2 (by decide) rfl (s_aload_n dX12_paste_83 rfl rfl) dX12_paste_84 w6_207) (s_iload_n dX12_paste_87 rfl rfl) dX12_paste_88) dX12_paste_89) dX12_paste_90) dX12_paste_91 rfl)) (c_gt_ZF (pF := 115) (s_lcmp (s_ladd (s_i2l (s_iload dX12_paste_94 rfl) dX12_paste_96) (s_i2l (s_iload dX12_paste_97 rfl) dX12_paste_99) dX12_paste_100) (s_i2l (s_dAI (s_getR ck12 2 (by decide) rfl (s_aload_n dX12_paste_101 rfl rfl) dX12_paste_102 w6_207) (s_iload_n dX12_paste_105 rfl rfl) dX12_paste_106) dX12_paste_107) dX12_paste_108) dX12_paste_109 rfl)) (t_ret (cv := cvI) (fun _ _ => rfl) (s_bipush dX12_paste_112 rfl) dX12_paste_114) (t_skip (ld_in rfl) rfl) lda_nil (lda_cons (ld_in rfl) lda_nil)) (t_sq (p1 := 152) (Γ' := [(0, 2), (1, 0), (2, 0), (3, 0), (4, 0), (5, 0)]) (t_sq (p1 := 118) (Γ' := [(0, 2), (1, 0), (2, 0), (3, 0), (4, 0), (5, 0), (6, 0)]) (t_istore (s_iconst dX12_paste_115 rfl) dX12_paste_116 rfl rfl) (tn_to (Γ' := [(0, 2), (1, 0), (2, 0), (3, 0), (4, 0), (5, 0), (6, 0)]) (XA := [152]) sLX12_paste_1 (lda_cons (ld_in rfl) lda_nil) rfl)) (t_sq (p1 := 190) (Γ' := [(0, 2), (1, 0), (2, 0), (3, 0), (4, 0), (5, 0)]) (t_sq (p1 := 155) (Γ' := [(0, 2), (1, 0), (2, 0), (3, 0), (4, 0), (5, 0), (6, 0)]) (t_istore (s_iconst dX12_paste_152 rfl) dX12_paste_153 rfl rfl) (tn_to (Γ' := [(0, 2), (1, 0), (2, 0), (3, 0), (4, 0), (5, 0), (6, 0)]) (XA := [190]) sLX12_paste_2 (lda_cons (ld_in rfl) lda_nil) rfl)) (t_ret (cv := cvI) (fun _ _ => rfl) (s_iconst dX12_paste_190 rfl) dX12_paste_191))))))))
noncomputable def DX12_paste : Fr → St → Option (Int32 × St) := M1 (fun f => (sI (sI (sI (sI (sI (sR fr0 0 (gR f 0)) 1 (gI f 1)) 2 (gI f 2)) 3 (gI f 3)) 4 (gI f 4)) 5 (gI f 5))) BX12_paste
theorem kX12_paste : SND yX12_paste cX12_paste 7 (some .int) 3 [(0, 2), (1, 0), (2, 0), (3, 0), (4, 0), (5, 0)] cvoI DX12_paste := snd_I (nw := 6) (by decide) rfl rfl (fun _ _ => rfl) sBX12_paste
theorem dX12_four_0 : decode cX12_four 0 = .ok (.bipush 24, 2) := by decide +kernel
theorem dX12_four_2 : decode cX12_four 2 = .ok (.istore_n 2, 1) := by decide +kernel
theorem dX12_four_3 : decode cX12_four 3 = .ok (.iload_n 2, 1) := by decide +kernel
theorem dX12_four_4 : decode cX12_four 4 = .ok (.ifCond .lt 32, 3) := by decide +kernel
theorem dX12_four_7 : decode cX12_four 7 = .ok (.aload_n 0, 1) := by decide +kernel
theorem dX12_four_8 : decode cX12_four 8 = .ok (.getfield 23, 3) := by decide +kernel
theorem dX12_four_11 : decode cX12_four 11 = .ok (.aload_n 0, 1) := by decide +kernel
theorem dX12_four_12 : decode cX12_four 12 = .ok (.getfield 139, 3) := by decide +kernel
theorem dX12_four_15 : decode cX12_four 15 = .ok (.iload_n 1, 1) := by decide +kernel
theorem dX12_four_16 : decode cX12_four 16 = .ok (.iload_n 2, 1) := by decide +kernel
theorem dX12_four_17 : decode cX12_four 17 = .ok (.ishr, 1) := by decide +kernel
theorem dX12_four_18 : decode cX12_four 18 = .ok (.i2b, 1) := by decide +kernel
theorem dX12_four_19 : decode cX12_four 19 = .ok (.bastore, 1) := by decide +kernel
theorem dX12_four_20 : decode cX12_four 20 = .ok (.aload_n 0, 1) := by decide +kernel
theorem dX12_four_21 : decode cX12_four 21 = .ok (.dup, 1) := by decide +kernel
theorem dX12_four_22 : decode cX12_four 22 = .ok (.getfield 139, 3) := by decide +kernel
theorem dX12_four_25 : decode cX12_four 25 = .ok (.iconst 1, 1) := by decide +kernel
theorem dX12_four_26 : decode cX12_four 26 = .ok (.iadd, 1) := by decide +kernel
theorem dX12_four_27 : decode cX12_four 27 = .ok (.putfield 139, 3) := by decide +kernel
theorem dX12_four_30 : decode cX12_four 30 = .ok (.iinc 2 (-8), 3) := by decide +kernel
theorem dX12_four_33 : decode cX12_four 33 = .ok (.goto (-30), 3) := by decide +kernel
theorem dX12_four_36 : decode cX12_four 36 = .ok (.return_, 1) := by decide +kernel
theorem mokX12_four : MOK yX12_four cX12_four 3 none 1 := ⟨w7_161, w1_13, ⟨by decide, by decide⟩, by decide +kernel, by decide⟩
abbrev miX12_four : MI := (yX12_four.cls, cX12_four, 3, 1, false)
noncomputable def LX12_four_1 : Sm Unit := dLoop (fun f => (sI (sI (sR fr0 0 (gR f 0)) 1 (gI f 1)) 2 (gI f 2))) (dCZ q_ge (vI 2)) (dSeq (d3 (stI 14 nB) (dGR 12 5 (vR 0)) (dGI 12 6 (vR 0)) (d1 o_i2b (d2 o_ishr (vI 1) (vI 2)))) (dUF 12 6 o_iadd (vR 0) (cI 1))) (dInc 2 (-8))
theorem sLX12_four_1 {ΓL : Gm} {PB PK : List Nat} : SS (cvoV, .return_) miX12_four ΓL PB PK [(0, 2), (1, 0), (2, 0)] [(0, 2), (1, 0), (2, 0)] 3 [36] LX12_four_1 := t_loop (pT := 7) (pF := 36) (pu := 30) (PB' := []) (PK' := []) (XB := [30]) (XU := [33]) (fun _ _ => rfl) rfl (c_ge_ZF (pF := 36) (s_iload_n dX12_four_3 rfl rfl) dX12_four_4 rfl) (t_sq (p1 := 20) (Γ' := [(0, 2), (1, 0), (2, 0)]) (t_stB (s_getR ck12 5 (by decide) rfl (s_aload_n dX12_four_7 rfl rfl) dX12_four_8 w6_210) (s_getI ck12 6 (by decide) rfl (s_aload_n dX12_four_11 rfl rfl) dX12_four_12 w6_211) (s_i2b (s_ishr (s_iload_n dX12_four_15 rfl rfl) (s_iload_n dX12_four_16 rfl rfl) dX12_four_17) dX12_four_18) dX12_four_19 rfl) (t_UF ck12 6 (by decide) rfl (Or.inl rfl) (s_aload_n dX12_four_20 rfl rfl) dX12_four_21 dX12_four_22 w6_211 (s_iconst dX12_four_25 rfl) (fun _ _ _ _ => rulI fun a b K => lv_iadd a b dX12_four_26 K) dX12_four_27 w6_211 rfl)) (t_iinc dX12_four_30 rfl rfl rfl rfl) (lda_cons (ld_in rfl) lda_nil) lda_nil (lda_cons (ld_goto (y := 3) dX12_four_33 rfl (ld_in rfl)) lda_nil) (ld_in rfl) lda_nil
noncomputable def BX12_four : Sm Unit := (dSeq (dSeq (dSetI 2 (cI 24)) LX12_four_1) dRet0)
theorem sBX12_four : SS (cvoV, .return_) miX12_four [] [] [] [(0, 2), (1, 0)] [(0, 2), (1, 0)] 0 [] BX12_four := (t_sq (p1 := 36) (Γ' := [(0, 2), (1, 0)]) (t_sq (p1 := 3) (Γ' := [(0, 2), (1, 0), (2, 0)]) (t_istore_n (s_bipush dX12_four_0 rfl) dX12_four_2 rfl rfl rfl) (tn_to (Γ' := [(0, 2), (1, 0), (2, 0)]) (XA := [36]) sLX12_four_1 (lda_cons (ld_in rfl) lda_nil) rfl)) (t_ret0 (fun _ _ => rfl) dX12_four_36))
noncomputable def DX12_four : Fr → St → Option (Unit × St) := M1 (fun f => (sI (sR fr0 0 (gR f 0)) 1 (gI f 1))) BX12_four
theorem kX12_four : SND yX12_four cX12_four 3 none 1 [(0, 2), (1, 0)] cvoV DX12_four := snd_V (nw := 2) (by decide) (fun z => by cases z) rfl rfl (fun _ _ => rfl) sBX12_four
theorem dX12_feed_0 : decode cX12_feed 0 = .ok (.aload_n 0, 1) := by decide +kernel
theorem dX12_feed_1 : decode cX12_feed 1 = .ok (.iconst 0, 1) := by decide +kernel
theorem dX12_feed_2 : decode cX12_feed 2 = .ok (.putfield 122, 3) := by decide +kernel
theorem dX12_feed_5 : decode cX12_feed 5 = .ok (.aload_n 0, 1) := by decide +kernel
theorem dX12_feed_6 : decode cX12_feed 6 = .ok (.getfield 139, 3) := by decide +kernel
theorem dX12_feed_9 : decode cX12_feed 9 = .ok (.bipush 20, 2) := by decide +kernel
theorem dX12_feed_11 : decode cX12_feed 11 = .ok (.iadd, 1) := by decide +kernel
theorem dX12_feed_12 : decode cX12_feed 12 = .ok (.sipush 800, 3) := by decide +kernel
theorem dX12_feed_15 : decode cX12_feed 15 = .ok (.if_icmp .le 5, 3) := by decide +kernel
theorem dX12_feed_18 : decode cX12_feed 18 = .ok (.iconst (-1), 1) := by decide +kernel
theorem dX12_feed_19 : decode cX12_feed 19 = .ok (.ireturn, 1) := by decide +kernel
theorem dX12_feed_20 : decode cX12_feed 20 = .ok (.aload_n 0, 1) := by decide +kernel
theorem dX12_feed_21 : decode cX12_feed 21 = .ok (.iload_n 1, 1) := by decide +kernel
theorem dX12_feed_22 : decode cX12_feed 22 = .ok (.invokevirtual 142, 3) := by decide +kernel
theorem dX12_feed_25 : decode cX12_feed 25 = .ok (.aload_n 0, 1) := by decide +kernel
theorem dX12_feed_26 : decode cX12_feed 26 = .ok (.iload_n 2, 1) := by decide +kernel
theorem dX12_feed_27 : decode cX12_feed 27 = .ok (.invokevirtual 142, 3) := by decide +kernel
theorem dX12_feed_30 : decode cX12_feed 30 = .ok (.aload_n 0, 1) := by decide +kernel
theorem dX12_feed_31 : decode cX12_feed 31 = .ok (.iload_n 3, 1) := by decide +kernel
theorem dX12_feed_32 : decode cX12_feed 32 = .ok (.invokevirtual 142, 3) := by decide +kernel
theorem dX12_feed_35 : decode cX12_feed 35 = .ok (.aload_n 0, 1) := by decide +kernel
theorem dX12_feed_36 : decode cX12_feed 36 = .ok (.iload 4, 2) := by decide +kernel
theorem dX12_feed_38 : decode cX12_feed 38 = .ok (.invokevirtual 142, 3) := by decide +kernel
theorem dX12_feed_41 : decode cX12_feed 41 = .ok (.aload_n 0, 1) := by decide +kernel
theorem dX12_feed_42 : decode cX12_feed 42 = .ok (.iload 5, 2) := by decide +kernel
theorem dX12_feed_44 : decode cX12_feed 44 = .ok (.invokevirtual 142, 3) := by decide +kernel
theorem dX12_feed_47 : decode cX12_feed 47 = .ok (.aload_n 0, 1) := by decide +kernel
theorem dX12_feed_48 : decode cX12_feed 48 = .ok (.getfield 139, 3) := by decide +kernel
theorem dX12_feed_51 : decode cX12_feed 51 = .ok (.ireturn, 1) := by decide +kernel
theorem mokX12_feed : MOK yX12_feed cX12_feed 6 (some .int) 5 := ⟨w7_157, w1_13, ⟨by decide, by decide⟩, by decide +kernel, by decide⟩
abbrev miX12_feed : MI := (yX12_feed.cls, cX12_feed, 6, 2, false)
noncomputable def BX12_feed : Sm Int32 := (dSeq (dP (fI 12 0) (vR 0) (cI 0)) (dSeq (dIf (dCI r_gt (d2 o_iadd (dGI 12 6 (vR 0)) (cI 20)) (cI 800)) (dRet (cI (-1))) dSkip) (dSeq (dDo (dCallV 12 DX12_four (aI (aR aN 0 (vR 0)) 1 (vI 1)))) (dSeq (dDo (dCallV 12 DX12_four (aI (aR aN 0 (vR 0)) 1 (vI 2)))) (dSeq (dDo (dCallV 12 DX12_four (aI (aR aN 0 (vR 0)) 1 (vI 3)))) (dSeq (dDo (dCallV 12 DX12_four (aI (aR aN 0 (vR 0)) 1 (vI 4)))) (dSeq (dDo (dCallV 12 DX12_four (aI (aR aN 0 (vR 0)) 1 (vI 5)))) (dRet (dGI 12 6 (vR 0))))))))))
theorem sBX12_feed : SS (cvoI, .ireturn) miX12_feed [] [] [] [(0, 2), (1, 0), (2, 0), (3, 0), (4, 0), (5, 0)] [(0, 2), (1, 0), (2, 0), (3, 0), (4, 0), (5, 0)] 0 [] BX12_feed := (t_sq (p1 := 5) (Γ' := [(0, 2), (1, 0), (2, 0), (3, 0), (4, 0), (5, 0)]) (t_pI ck12 0 (by decide) rfl (Or.inl rfl) (s_aload_n dX12_feed_0 rfl rfl) (s_iconst dX12_feed_1 rfl) dX12_feed_2 w6_205 rfl) (t_sq (p1 := 20) (Γ' := [(0, 2), (1, 0), (2, 0), (3, 0), (4, 0), (5, 0)]) (t_if (pT := 18) (pF := 20) (X := [20]) (XA := []) (XB := [20]) (c_gt_F (pF := 20) (s_iadd (s_getI ck12 6 (by decide) rfl (s_aload_n dX12_feed_5 rfl rfl) dX12_feed_6 w6_211) (s_bipush dX12_feed_9 rfl) dX12_feed_11) (s_sipush dX12_feed_12 rfl) dX12_feed_15 rfl) (t_ret (cv := cvI) (fun _ _ => rfl) (s_iconst dX12_feed_18 rfl) dX12_feed_19) (t_skip (ld_in rfl) rfl) lda_nil (lda_cons (ld_in rfl) lda_nil)) (t_sq (p1 := 25) (Γ' := [(0, 2), (1, 0), (2, 0), (3, 0), (4, 0), (5, 0)]) (t_do (x_callV (ts := [(0, 2), (1, 0)]) ck12 rfl kX12_four mokX12_four w7_160 ps3_7 rfl rfl rfl rfl (a_I (ts := [(0, 2)]) 1 (a_R (ts := []) 0 a_nil (s_aload_n dX12_feed_20 rfl rfl) rfl) (s_iload_n dX12_feed_21 rfl rfl) rfl) dX12_feed_22 w7_158) rfl) (t_sq (p1 := 30) (Γ' := [(0, 2), (1, 0), (2, 0), (3, 0), (4, 0), (5, 0)]) (t_do (x_callV (ts := [(0, 2), (1, 0)]) ck12 rfl kX12_four mokX12_four w7_160 ps3_7 rfl rfl rfl rfl (a_I (ts := [(0, 2)]) 1 (a_R (ts := []) 0 a_nil (s_aload_n dX12_feed_25 rfl rfl) rfl) (s_iload_n dX12_feed_26 rfl rfl) rfl) dX12_feed_27 w7_158) rfl) (t_sq (p1 := 35) (Γ' := [(0, 2), (1, 0), (2, 0), (3, 0), (4, 0), (5, 0)]) (t_do (x_callV (ts := [(0, 2), (1, 0)]) ck12 rfl kX12_four mokX12_four w7_160 ps3_7 rfl rfl rfl rfl (a_I (ts := [(0, 2)]) 1 (a_R (ts := []) 0 a_nil (s_aload_n dX12_feed_30 rfl rfl) rfl) (s_iload_n dX12_feed_31 rfl rfl) rfl) dX12_feed_32 w7_158) rfl) (t_sq (p1 := 41) (Γ' := [(0, 2), (1, 0), (2, 0), (3, 0), (4, 0), (5, 0)]) (t_do (x_callV (ts := [(0, 2), (1, 0)]) ck12 rfl kX12_four mokX12_four w7_160 ps3_7 rfl rfl rfl rfl (a_I (ts := [(0, 2)]) 1 (a_R (ts := []) 0 a_nil (s_aload_n dX12_feed_35 rfl rfl) rfl) (s_iload dX12_feed_36 rfl) rfl) dX12_feed_38 w7_158) rfl) (t_sq (p1 := 47) (Γ' := [(0, 2), (1, 0), (2, 0), (3, 0), (4, 0), (5, 0)]) (t_do (x_callV (ts := [(0, 2), (1, 0)]) ck12 rfl kX12_four mokX12_four w7_160 ps3_7 rfl rfl rfl rfl (a_I (ts := [(0, 2)]) 1 (a_R (ts := []) 0 a_nil (s_aload_n dX12_feed_41 rfl rfl) rfl) (s_iload dX12_feed_42 rfl) rfl) dX12_feed_44 w7_158) rfl) (t_ret (cv := cvI) (fun _ _ => rfl) (s_getI ck12 6 (by decide) rfl (s_aload_n dX12_feed_47 rfl rfl) dX12_feed_48 w6_211) dX12_feed_51))))))))
noncomputable def DX12_feed : Fr → St → Option (Int32 × St) := M1 (fun f => (sI (sI (sI (sI (sI (sR fr0 0 (gR f 0)) 1 (gI f 1)) 2 (gI f 2)) 3 (gI f 3)) 4 (gI f 4)) 5 (gI f 5))) BX12_feed
theorem kX12_feed : SND yX12_feed cX12_feed 6 (some .int) 2 [(0, 2), (1, 0), (2, 0), (3, 0), (4, 0), (5, 0)] cvoI DX12_feed := snd_I (nw := 6) (by decide) rfl rfl (fun _ _ => rfl) sBX12_feed
theorem dX12_carriers_0 : decode cX12_carriers 0 = .ok (.aload_n 0, 1) := by decide +kernel
theorem dX12_carriers_1 : decode cX12_carriers 1 = .ok (.getfield 34, 3) := by decide +kernel
theorem dX12_carriers_4 : decode cX12_carriers 4 = .ok (.iconst 5, 1) := by decide +kernel
theorem dX12_carriers_5 : decode cX12_carriers 5 = .ok (.iaload, 1) := by decide +kernel
theorem dX12_carriers_6 : decode cX12_carriers 6 = .ok (.ireturn, 1) := by decide +kernel
theorem mokX12_carriers : MOK yX12_carriers cX12_carriers 1 (some .int) 0 := ⟨w8_75, w1_13, ⟨by decide, by decide⟩, by decide +kernel, by decide⟩
abbrev miX12_carriers : MI := (yX12_carriers.cls, cX12_carriers, 1, 1, false)
noncomputable def BX12_carriers : Sm Int32 := (dRet (dAI (dGR 12 17 (vR 0)) (cI 5)))
theorem sBX12_carriers : SS (cvoI, .ireturn) miX12_carriers [] [] [] [(0, 2)] [(0, 2)] 0 [] BX12_carriers := (t_ret (cv := cvI) (fun _ _ => rfl) (s_dAI (s_getR ck12 17 (by decide) rfl (s_aload_n dX12_carriers_0 rfl rfl) dX12_carriers_1 w6_222) (s_iconst dX12_carriers_4 rfl) dX12_carriers_5) dX12_carriers_6)
noncomputable def DX12_carriers : Fr → St → Option (Int32 × St) := M1 (fun f => (sR fr0 0 (gR f 0))) BX12_carriers
theorem kX12_carriers : SND yX12_carriers cX12_carriers 1 (some .int) 1 [(0, 2)] cvoI DX12_carriers := snd_I (nw := 1) (by decide) rfl rfl (fun _ _ => rfl) sBX12_carriers
theorem dX12_daysTo_0 : decode cX12_daysTo 0 = .ok (.ldc 172, 2) := by decide +kernel
theorem dX12_daysTo_2 : decode cX12_daysTo 2 = .ok (.istore_n 2, 1) := by decide +kernel
theorem dX12_daysTo_3 : decode cX12_daysTo 3 = .ok (.iconst 0, 1) := by decide +kernel
theorem dX12_daysTo_4 : decode cX12_daysTo 4 = .ok (.istore_n 3, 1) := by decide +kernel
theorem dX12_daysTo_5 : decode cX12_daysTo 5 = .ok (.iload_n 3, 1) := by decide +kernel
theorem dX12_daysTo_6 : decode cX12_daysTo 6 = .ok (.sipush 256, 3) := by decide +kernel
theorem dX12_daysTo_9 : decode cX12_daysTo 9 = .ok (.if_icmp .ge 42, 3) := by decide +kernel
theorem dX12_daysTo_12 : decode cX12_daysTo 12 = .ok (.aload_n 0, 1) := by decide +kernel
theorem dX12_daysTo_13 : decode cX12_daysTo 13 = .ok (.getfield 113, 3) := by decide +kernel
theorem dX12_daysTo_16 : decode cX12_daysTo 16 = .ok (.sipush 256, 3) := by decide +kernel
theorem dX12_daysTo_19 : decode cX12_daysTo 19 = .ok (.iload_n 1, 1) := by decide +kernel
theorem dX12_daysTo_20 : decode cX12_daysTo 20 = .ok (.imul, 1) := by decide +kernel
theorem dX12_daysTo_21 : decode cX12_daysTo 21 = .ok (.iload_n 3, 1) := by decide +kernel
theorem dX12_daysTo_22 : decode cX12_daysTo 22 = .ok (.iadd, 1) := by decide +kernel
theorem dX12_daysTo_23 : decode cX12_daysTo 23 = .ok (.iaload, 1) := by decide +kernel
theorem dX12_daysTo_24 : decode cX12_daysTo 24 = .ok (.iload_n 2, 1) := by decide +kernel
theorem dX12_daysTo_25 : decode cX12_daysTo 25 = .ok (.if_icmp .ge 18, 3) := by decide +kernel
theorem dX12_daysTo_28 : decode cX12_daysTo 28 = .ok (.aload_n 0, 1) := by decide +kernel
theorem dX12_daysTo_29 : decode cX12_daysTo 29 = .ok (.getfield 113, 3) := by decide +kernel
theorem dX12_daysTo_32 : decode cX12_daysTo 32 = .ok (.sipush 256, 3) := by decide +kernel
theorem dX12_daysTo_35 : decode cX12_daysTo 35 = .ok (.iload_n 1, 1) := by decide +kernel
theorem dX12_daysTo_36 : decode cX12_daysTo 36 = .ok (.imul, 1) := by decide +kernel
theorem dX12_daysTo_37 : decode cX12_daysTo 37 = .ok (.iload_n 3, 1) := by decide +kernel
theorem dX12_daysTo_38 : decode cX12_daysTo 38 = .ok (.iadd, 1) := by decide +kernel
theorem dX12_daysTo_39 : decode cX12_daysTo 39 = .ok (.iaload, 1) := by decide +kernel
theorem dX12_daysTo_40 : decode cX12_daysTo 40 = .ok (.goto 4, 3) := by decide +kernel
theorem dX12_daysTo_43 : decode cX12_daysTo 43 = .ok (.iload_n 2, 1) := by decide +kernel
theorem dX12_daysTo_44 : decode cX12_daysTo 44 = .ok (.istore_n 2, 1) := by decide +kernel
theorem dX12_daysTo_45 : decode cX12_daysTo 45 = .ok (.iinc 3 1, 3) := by decide +kernel
theorem dX12_daysTo_48 : decode cX12_daysTo 48 = .ok (.goto (-43), 3) := by decide +kernel
theorem dX12_daysTo_51 : decode cX12_daysTo 51 = .ok (.iload_n 2, 1) := by decide +kernel
theorem dX12_daysTo_52 : decode cX12_daysTo 52 = .ok (.ireturn, 1) := by decide +kernel
theorem mokX12_daysTo : MOK yX12_daysTo cX12_daysTo 4 (some .int) 1 := ⟨w9_48, w1_13, ⟨by decide, by decide⟩, by decide +kernel, by decide⟩
abbrev miX12_daysTo : MI := (yX12_daysTo.cls, cX12_daysTo, 4, 1, false)
noncomputable def LX12_daysTo_1 : Sm Int32 := dLoop (fun f => (sI (sI (sI (sR fr0 0 (gR f 0)) 1 (gI f 1)) 2 (gI f 2)) 3 (gI f 3))) (dCI r_lt (vI 3) (cI 256)) (dSetI 2 (dT (dCI r_lt (dAI (dGR 12 49 (vR 0)) (d2 o_iadd (d2 o_imul (cI 256) (vI 1)) (vI 3))) (vI 2)) (dAI (dGR 12 49 (vR 0)) (d2 o_iadd (d2 o_imul (cI 256) (vI 1)) (vI 3))) (vI 2))) (dInc 3 1)
theorem sLX12_daysTo_1 {ΓL : Gm} {PB PK : List Nat} : SS (cvoI, .ireturn) miX12_daysTo ΓL PB PK [(0, 2), (1, 0), (2, 0), (3, 0)] [(0, 2), (1, 0), (2, 0), (3, 0)] 5 [51] LX12_daysTo_1 := t_loop (pT := 12) (pF := 51) (pu := 45) (PB' := []) (PK' := []) (XB := [45]) (XU := [48]) (fun _ _ => rfl) rfl (c_lt_F (pF := 51) (s_iload_n dX12_daysTo_5 rfl rfl) (s_sipush dX12_daysTo_6 rfl) dX12_daysTo_9 rfl) (t_istore_n (s_T (pT := 28) (pF := 43) (p1 := 40) (pe := 44) (c_lt_F (pF := 43) (s_dAI (s_getR ck12 49 (by decide) rfl (s_aload_n dX12_daysTo_12 rfl rfl) dX12_daysTo_13 w7_14) (s_iadd (s_imul (s_sipush dX12_daysTo_16 rfl) (s_iload_n dX12_daysTo_19 rfl rfl) dX12_daysTo_20) (s_iload_n dX12_daysTo_21 rfl rfl) dX12_daysTo_22) dX12_daysTo_23) (s_iload_n dX12_daysTo_24 rfl rfl) dX12_daysTo_25 rfl) (s_dAI (s_getR ck12 49 (by decide) rfl (s_aload_n dX12_daysTo_28 rfl rfl) dX12_daysTo_29 w7_14) (s_iadd (s_imul (s_sipush dX12_daysTo_32 rfl) (s_iload_n dX12_daysTo_35 rfl rfl) dX12_daysTo_36) (s_iload_n dX12_daysTo_37 rfl rfl) dX12_daysTo_38) dX12_daysTo_39) (s_iload_n dX12_daysTo_43 rfl rfl) (ld_goto (y := 44) dX12_daysTo_40 rfl (ld_in rfl))) dX12_daysTo_44 rfl rfl rfl) (t_iinc dX12_daysTo_45 rfl rfl rfl rfl) (lda_cons (ld_in rfl) lda_nil) lda_nil (lda_cons (ld_goto (y := 5) dX12_daysTo_48 rfl (ld_in rfl)) lda_nil) (ld_in rfl) lda_nil
noncomputable def BX12_daysTo : Sm Int32 := (dSeq (dSetI 2 (cI 100000)) (dSeq (dSeq (dSetI 3 (cI 0)) LX12_daysTo_1) (dRet (vI 2))))
theorem sBX12_daysTo : SS (cvoI, .ireturn) miX12_daysTo [] [] [] [(0, 2), (1, 0)] [(0, 2), (1, 0)] 0 [] BX12_daysTo := (t_sq (p1 := 3) (Γ' := [(0, 2), (1, 0), (2, 0)]) (t_istore_n (s_ldc dX12_daysTo_0 w7_197) dX12_daysTo_2 rfl rfl rfl) (t_sq (p1 := 51) (Γ' := [(0, 2), (1, 0), (2, 0)]) (t_sq (p1 := 5) (Γ' := [(0, 2), (1, 0), (2, 0), (3, 0)]) (t_istore_n (s_iconst dX12_daysTo_3 rfl) dX12_daysTo_4 rfl rfl rfl) (tn_to (Γ' := [(0, 2), (1, 0), (2, 0), (3, 0)]) (XA := [51]) sLX12_daysTo_1 (lda_cons (ld_in rfl) lda_nil) rfl)) (t_ret (cv := cvI) (fun _ _ => rfl) (s_iload_n dX12_daysTo_51 rfl rfl) dX12_daysTo_52)))
noncomputable def DX12_daysTo : Fr → St → Option (Int32 × St) := M1 (fun f => (sI (sR fr0 0 (gR f 0)) 1 (gI f 1))) BX12_daysTo
theorem kX12_daysTo : SND yX12_daysTo cX12_daysTo 4 (some .int) 1 [(0, 2), (1, 0)] cvoI DX12_daysTo := snd_I (nw := 2) (by decide) rfl rfl (fun _ _ => rfl) sBX12_daysTo
theorem dX12_climbOf_0 : decode cX12_climbOf 0 = .ok (.aload_n 0, 1) := by decide +kernel
theorem dX12_climbOf_1 : decode cX12_climbOf 1 = .ok (.getfield 37, 3) := by decide +kernel
theorem dX12_climbOf_4 : decode cX12_climbOf 4 = .ok (.iload_n 2, 1) := by decide +kernel
theorem dX12_climbOf_5 : decode cX12_climbOf 5 = .ok (.iaload, 1) := by decide +kernel
theorem dX12_climbOf_6 : decode cX12_climbOf 6 = .ok (.aload_n 0, 1) := by decide +kernel
theorem dX12_climbOf_7 : decode cX12_climbOf 7 = .ok (.getfield 37, 3) := by decide +kernel
theorem dX12_climbOf_10 : decode cX12_climbOf 10 = .ok (.iload_n 1, 1) := by decide +kernel
theorem dX12_climbOf_11 : decode cX12_climbOf 11 = .ok (.iaload, 1) := by decide +kernel
theorem dX12_climbOf_12 : decode cX12_climbOf 12 = .ok (.if_icmp .le 19, 3) := by decide +kernel
theorem dX12_climbOf_15 : decode cX12_climbOf 15 = .ok (.aload_n 0, 1) := by decide +kernel
theorem dX12_climbOf_16 : decode cX12_climbOf 16 = .ok (.getfield 37, 3) := by decide +kernel
theorem dX12_climbOf_19 : decode cX12_climbOf 19 = .ok (.iload_n 2, 1) := by decide +kernel
theorem dX12_climbOf_20 : decode cX12_climbOf 20 = .ok (.iaload, 1) := by decide +kernel
theorem dX12_climbOf_21 : decode cX12_climbOf 21 = .ok (.aload_n 0, 1) := by decide +kernel
theorem dX12_climbOf_22 : decode cX12_climbOf 22 = .ok (.getfield 37, 3) := by decide +kernel
theorem dX12_climbOf_25 : decode cX12_climbOf 25 = .ok (.iload_n 1, 1) := by decide +kernel
theorem dX12_climbOf_26 : decode cX12_climbOf 26 = .ok (.iaload, 1) := by decide +kernel
theorem dX12_climbOf_27 : decode cX12_climbOf 27 = .ok (.isub, 1) := by decide +kernel
theorem dX12_climbOf_28 : decode cX12_climbOf 28 = .ok (.goto 4, 3) := by decide +kernel
theorem dX12_climbOf_31 : decode cX12_climbOf 31 = .ok (.iconst 0, 1) := by decide +kernel
theorem dX12_climbOf_32 : decode cX12_climbOf 32 = .ok (.ireturn, 1) := by decide +kernel
theorem mokX12_climbOf : MOK yX12_climbOf cX12_climbOf 3 (some .int) 2 := ⟨w8_117, w1_13, ⟨by decide, by decide⟩, by decide +kernel, by decide⟩
abbrev miX12_climbOf : MI := (yX12_climbOf.cls, cX12_climbOf, 3, 1, false)
noncomputable def BX12_climbOf : Sm Int32 := (dRet (dT (dCI r_gt (dAI (dGR 12 18 (vR 0)) (vI 2)) (dAI (dGR 12 18 (vR 0)) (vI 1))) (d2 o_isub (dAI (dGR 12 18 (vR 0)) (vI 2)) (dAI (dGR 12 18 (vR 0)) (vI 1))) (cI 0)))
theorem sBX12_climbOf : SS (cvoI, .ireturn) miX12_climbOf [] [] [] [(0, 2), (1, 0), (2, 0)] [(0, 2), (1, 0), (2, 0)] 0 [] BX12_climbOf := (t_ret (cv := cvI) (fun _ _ => rfl) (s_T (pT := 15) (pF := 31) (p1 := 28) (pe := 32) (c_gt_F (pF := 31) (s_dAI (s_getR ck12 18 (by decide) rfl (s_aload_n dX12_climbOf_0 rfl rfl) dX12_climbOf_1 w6_223) (s_iload_n dX12_climbOf_4 rfl rfl) dX12_climbOf_5) (s_dAI (s_getR ck12 18 (by decide) rfl (s_aload_n dX12_climbOf_6 rfl rfl) dX12_climbOf_7 w6_223) (s_iload_n dX12_climbOf_10 rfl rfl) dX12_climbOf_11) dX12_climbOf_12 rfl) (s_isub (s_dAI (s_getR ck12 18 (by decide) rfl (s_aload_n dX12_climbOf_15 rfl rfl) dX12_climbOf_16 w6_223) (s_iload_n dX12_climbOf_19 rfl rfl) dX12_climbOf_20) (s_dAI (s_getR ck12 18 (by decide) rfl (s_aload_n dX12_climbOf_21 rfl rfl) dX12_climbOf_22 w6_223) (s_iload_n dX12_climbOf_25 rfl rfl) dX12_climbOf_26) dX12_climbOf_27) (s_iconst dX12_climbOf_31 rfl) (ld_goto (y := 32) dX12_climbOf_28 rfl (ld_in rfl))) dX12_climbOf_32)
noncomputable def DX12_climbOf : Fr → St → Option (Int32 × St) := M1 (fun f => (sI (sI (sR fr0 0 (gR f 0)) 1 (gI f 1)) 2 (gI f 2))) BX12_climbOf
theorem kX12_climbOf : SND yX12_climbOf cX12_climbOf 3 (some .int) 1 [(0, 2), (1, 0), (2, 0)] cvoI DX12_climbOf := snd_I (nw := 3) (by decide) rfl rfl (fun _ _ => rfl) sBX12_climbOf
theorem dX12_isBit_0 : decode cX12_isBit 0 = .ok (.iload_n 0, 1) := by decide +kernel
theorem dX12_isBit_1 : decode cX12_isBit 1 = .ok (.iload_n 1, 1) := by decide +kernel
theorem dX12_isBit_2 : decode cX12_isBit 2 = .ok (.ishr, 1) := by decide +kernel
theorem dX12_isBit_3 : decode cX12_isBit 3 = .ok (.iconst 1, 1) := by decide +kernel
theorem dX12_isBit_4 : decode cX12_isBit 4 = .ok (.iand, 1) := by decide +kernel
theorem dX12_isBit_5 : decode cX12_isBit 5 = .ok (.iconst 1, 1) := by decide +kernel
theorem dX12_isBit_6 : decode cX12_isBit 6 = .ok (.if_icmp .ne 7, 3) := by decide +kernel
theorem dX12_isBit_9 : decode cX12_isBit 9 = .ok (.iconst 1, 1) := by decide +kernel
theorem dX12_isBit_10 : decode cX12_isBit 10 = .ok (.goto 4, 3) := by decide +kernel
theorem dX12_isBit_13 : decode cX12_isBit 13 = .ok (.iconst 0, 1) := by decide +kernel
theorem dX12_isBit_14 : decode cX12_isBit 14 = .ok (.ireturn, 1) := by decide +kernel
theorem mokX12_isBit : MOK yX12_isBit cX12_isBit 2 (some .boolean) 2 := ⟨w8_105, w1_13, ⟨by decide, by decide⟩, by decide +kernel, by decide⟩
abbrev miX12_isBit : MI := (yX12_isBit.cls, cX12_isBit, 2, 1, false)
noncomputable def BX12_isBit : Sm Int32 := (dRet (dB (dCI r_eq (d2 o_iand (d2 o_ishr (vI 0) (vI 1)) (cI 1)) (cI 1))))
theorem sBX12_isBit : SS (cvoI, .ireturn) miX12_isBit [] [] [] [(0, 0), (1, 0)] [(0, 0), (1, 0)] 0 [] BX12_isBit := (t_ret (cv := cvI) (fun _ _ => rfl) (s_B (pT := 9) (pF := 13) (pe := 14) (c_eq_F (pF := 13) (s_iand (s_ishr (s_iload_n dX12_isBit_0 rfl rfl) (s_iload_n dX12_isBit_1 rfl rfl) dX12_isBit_2) (s_iconst dX12_isBit_3 rfl) dX12_isBit_4) (s_iconst dX12_isBit_5 rfl) dX12_isBit_6 rfl) dX12_isBit_9 dX12_isBit_10 rfl dX12_isBit_13 rfl) dX12_isBit_14)
noncomputable def DX12_isBit : Fr → St → Option (Int32 × St) := MZ (fun f => (sI (sI fr0 0 (gI f 0)) 1 (gI f 1))) BX12_isBit
theorem kX12_isBit : SND yX12_isBit cX12_isBit 2 (some .boolean) 1 [(0, 0), (1, 0)] cvoI DX12_isBit := snd_Z (nw := 2) (by decide) rfl rfl (fun _ _ => rfl) sBX12_isBit
theorem dX12_heavyOf_0 : decode cX12_heavyOf 0 = .ok (.iconst 0, 1) := by decide +kernel
theorem dX12_heavyOf_1 : decode cX12_heavyOf 1 = .ok (.istore_n 3, 1) := by decide +kernel
theorem dX12_heavyOf_2 : decode cX12_heavyOf 2 = .ok (.iconst 0, 1) := by decide +kernel
theorem dX12_heavyOf_3 : decode cX12_heavyOf 3 = .ok (.istore 4, 2) := by decide +kernel
theorem dX12_heavyOf_5 : decode cX12_heavyOf 5 = .ok (.iload 4, 2) := by decide +kernel
theorem dX12_heavyOf_7 : decode cX12_heavyOf 7 = .ok (.aload_n 0, 1) := by decide +kernel
theorem dX12_heavyOf_8 : decode cX12_heavyOf 8 = .ok (.getfield 49, 3) := by decide +kernel
theorem dX12_heavyOf_11 : decode cX12_heavyOf 11 = .ok (.iload_n 1, 1) := by decide +kernel
theorem dX12_heavyOf_12 : decode cX12_heavyOf 12 = .ok (.iaload, 1) := by decide +kernel
theorem dX12_heavyOf_13 : decode cX12_heavyOf 13 = .ok (.if_icmp .ge 37, 3) := by decide +kernel
theorem dX12_heavyOf_16 : decode cX12_heavyOf 16 = .ok (.iload_n 3, 1) := by decide +kernel
theorem dX12_heavyOf_17 : decode cX12_heavyOf 17 = .ok (.iload_n 2, 1) := by decide +kernel
theorem dX12_heavyOf_18 : decode cX12_heavyOf 18 = .ok (.iload 4, 2) := by decide +kernel
theorem dX12_heavyOf_20 : decode cX12_heavyOf 20 = .ok (.invokestatic 322, 3) := by decide +kernel
theorem dX12_heavyOf_23 : decode cX12_heavyOf 23 = .ok (.ifCond .eq 18, 3) := by decide +kernel
theorem dX12_heavyOf_26 : decode cX12_heavyOf 26 = .ok (.aload_n 0, 1) := by decide +kernel
theorem dX12_heavyOf_27 : decode cX12_heavyOf 27 = .ok (.getfield 52, 3) := by decide +kernel
theorem dX12_heavyOf_30 : decode cX12_heavyOf 30 = .ok (.bipush 6, 2) := by decide +kernel
theorem dX12_heavyOf_32 : decode cX12_heavyOf 32 = .ok (.iload_n 1, 1) := by decide +kernel
theorem dX12_heavyOf_33 : decode cX12_heavyOf 33 = .ok (.imul, 1) := by decide +kernel
theorem dX12_heavyOf_34 : decode cX12_heavyOf 34 = .ok (.iload 4, 2) := by decide +kernel
theorem dX12_heavyOf_36 : decode cX12_heavyOf 36 = .ok (.iadd, 1) := by decide +kernel
theorem dX12_heavyOf_37 : decode cX12_heavyOf 37 = .ok (.iaload, 1) := by decide +kernel
theorem dX12_heavyOf_38 : decode cX12_heavyOf 38 = .ok (.goto 4, 3) := by decide +kernel
theorem dX12_heavyOf_41 : decode cX12_heavyOf 41 = .ok (.iconst 0, 1) := by decide +kernel
theorem dX12_heavyOf_42 : decode cX12_heavyOf 42 = .ok (.iadd, 1) := by decide +kernel
theorem dX12_heavyOf_43 : decode cX12_heavyOf 43 = .ok (.istore_n 3, 1) := by decide +kernel
theorem dX12_heavyOf_44 : decode cX12_heavyOf 44 = .ok (.iinc 4 1, 3) := by decide +kernel
theorem dX12_heavyOf_47 : decode cX12_heavyOf 47 = .ok (.goto (-42), 3) := by decide +kernel
theorem dX12_heavyOf_50 : decode cX12_heavyOf 50 = .ok (.iload_n 3, 1) := by decide +kernel
theorem dX12_heavyOf_51 : decode cX12_heavyOf 51 = .ok (.ireturn, 1) := by decide +kernel
theorem mokX12_heavyOf : MOK yX12_heavyOf cX12_heavyOf 5 (some .int) 2 := ⟨w8_165, w1_13, ⟨by decide, by decide⟩, by decide +kernel, by decide⟩
abbrev miX12_heavyOf : MI := (yX12_heavyOf.cls, cX12_heavyOf, 5, 2, false)
noncomputable def LX12_heavyOf_1 : Sm Int32 := dLoop (fun f => (sI (sI (sI (sI (sR fr0 0 (gR f 0)) 1 (gI f 1)) 2 (gI f 2)) 3 (gI f 3)) 4 (gI f 4))) (dCI r_lt (vI 4) (dAI (dGR 12 22 (vR 0)) (vI 1))) (dSetI 3 (d2 o_iadd (vI 3) (dT (dCZ q_ne (dCall DX12_isBit (aI (aI aN 0 (vI 2)) 1 (vI 4)))) (dAI (dGR 12 23 (vR 0)) (d2 o_iadd (d2 o_imul (cI 6) (vI 1)) (vI 4))) (cI 0)))) (dInc 4 1)
theorem sLX12_heavyOf_1 {ΓL : Gm} {PB PK : List Nat} : SS (cvoI, .ireturn) miX12_heavyOf ΓL PB PK [(0, 2), (1, 0), (2, 0), (3, 0), (4, 0)] [(0, 2), (1, 0), (2, 0), (3, 0), (4, 0)] 5 [50] LX12_heavyOf_1 := t_loop (pT := 16) (pF := 50) (pu := 44) (PB' := []) (PK' := []) (XB := [44]) (XU := [47]) (fun _ _ => rfl) rfl (c_lt_F (pF := 50) (s_iload dX12_heavyOf_5 rfl) (s_dAI (s_getR ck12 22 (by decide) rfl (s_aload_n dX12_heavyOf_7 rfl rfl) dX12_heavyOf_8 w6_227) (s_iload_n dX12_heavyOf_11 rfl rfl) dX12_heavyOf_12) dX12_heavyOf_13 rfl) (t_istore_n (s_iadd (s_iload_n dX12_heavyOf_16 rfl rfl) (s_T (pT := 26) (pF := 41) (p1 := 38) (pe := 42) (c_ne_ZF (pF := 41) (s_of_xI (x_call (ts := [(0, 0), (1, 0)]) kX12_isBit mokX12_isBit w8_104 rfl rfl rfl (a_I (ts := [(0, 0)]) 1 (a_I (ts := []) 0 a_nil (s_iload_n dX12_heavyOf_17 rfl rfl) rfl) (s_iload dX12_heavyOf_18 rfl) rfl) dX12_heavyOf_20 w8_103)) dX12_heavyOf_23 rfl) (s_dAI (s_getR ck12 23 (by decide) rfl (s_aload_n dX12_heavyOf_26 rfl rfl) dX12_heavyOf_27 w6_228) (s_iadd (s_imul (s_bipush dX12_heavyOf_30 rfl) (s_iload_n dX12_heavyOf_32 rfl rfl) dX12_heavyOf_33) (s_iload dX12_heavyOf_34 rfl) dX12_heavyOf_36) dX12_heavyOf_37) (s_iconst dX12_heavyOf_41 rfl) (ld_goto (y := 42) dX12_heavyOf_38 rfl (ld_in rfl))) dX12_heavyOf_42) dX12_heavyOf_43 rfl rfl rfl) (t_iinc dX12_heavyOf_44 rfl rfl rfl rfl) (lda_cons (ld_in rfl) lda_nil) lda_nil (lda_cons (ld_goto (y := 5) dX12_heavyOf_47 rfl (ld_in rfl)) lda_nil) (ld_in rfl) lda_nil
noncomputable def BX12_heavyOf : Sm Int32 := (dSeq (dSetI 3 (cI 0)) (dSeq (dSeq (dSetI 4 (cI 0)) LX12_heavyOf_1) (dRet (vI 3))))
theorem sBX12_heavyOf : SS (cvoI, .ireturn) miX12_heavyOf [] [] [] [(0, 2), (1, 0), (2, 0)] [(0, 2), (1, 0), (2, 0)] 0 [] BX12_heavyOf := (t_sq (p1 := 2) (Γ' := [(0, 2), (1, 0), (2, 0), (3, 0)]) (t_istore_n (s_iconst dX12_heavyOf_0 rfl) dX12_heavyOf_1 rfl rfl rfl) (t_sq (p1 := 50) (Γ' := [(0, 2), (1, 0), (2, 0), (3, 0)]) (t_sq (p1 := 5) (Γ' := [(0, 2), (1, 0), (2, 0), (3, 0), (4, 0)]) (t_istore (s_iconst dX12_heavyOf_2 rfl) dX12_heavyOf_3 rfl rfl) (tn_to (Γ' := [(0, 2), (1, 0), (2, 0), (3, 0), (4, 0)]) (XA := [50]) sLX12_heavyOf_1 (lda_cons (ld_in rfl) lda_nil) rfl)) (t_ret (cv := cvI) (fun _ _ => rfl) (s_iload_n dX12_heavyOf_50 rfl rfl) dX12_heavyOf_51)))
noncomputable def DX12_heavyOf : Fr → St → Option (Int32 × St) := M1 (fun f => (sI (sI (sR fr0 0 (gR f 0)) 1 (gI f 1)) 2 (gI f 2))) BX12_heavyOf
theorem kX12_heavyOf : SND yX12_heavyOf cX12_heavyOf 5 (some .int) 2 [(0, 2), (1, 0), (2, 0)] cvoI DX12_heavyOf := snd_I (nw := 3) (by decide) rfl rfl (fun _ _ => rfl) sBX12_heavyOf
theorem dX12_houses_0 : decode cX12_houses 0 = .ok (.aload_n 0, 1) := by decide +kernel
theorem dX12_houses_1 : decode cX12_houses 1 = .ok (.getfield 34, 3) := by decide +kernel
theorem dX12_houses_4 : decode cX12_houses 4 = .ok (.iconst 3, 1) := by decide +kernel
theorem dX12_houses_5 : decode cX12_houses 5 = .ok (.iaload, 1) := by decide +kernel
theorem dX12_houses_6 : decode cX12_houses 6 = .ok (.ireturn, 1) := by decide +kernel
theorem mokX12_houses : MOK yX12_houses cX12_houses 1 (some .int) 0 := ⟨w8_63, w1_13, ⟨by decide, by decide⟩, by decide +kernel, by decide⟩
abbrev miX12_houses : MI := (yX12_houses.cls, cX12_houses, 1, 1, false)
noncomputable def BX12_houses : Sm Int32 := (dRet (dAI (dGR 12 17 (vR 0)) (cI 3)))
theorem sBX12_houses : SS (cvoI, .ireturn) miX12_houses [] [] [] [(0, 2)] [(0, 2)] 0 [] BX12_houses := (t_ret (cv := cvI) (fun _ _ => rfl) (s_dAI (s_getR ck12 17 (by decide) rfl (s_aload_n dX12_houses_0 rfl rfl) dX12_houses_1 w6_222) (s_iconst dX12_houses_4 rfl) dX12_houses_5) dX12_houses_6)
noncomputable def DX12_houses : Fr → St → Option (Int32 × St) := M1 (fun f => (sR fr0 0 (gR f 0))) BX12_houses
theorem kX12_houses : SND yX12_houses cX12_houses 1 (some .int) 1 [(0, 2)] cvoI DX12_houses := snd_I (nw := 1) (by decide) rfl rfl (fun _ _ => rfl) sBX12_houses
theorem dX12_isWay_0 : decode cX12_isWay 0 = .ok (.aload_n 0, 1) := by decide +kernel
theorem dX12_isWay_1 : decode cX12_isWay 1 = .ok (.getfield 319, 3) := by decide +kernel
theorem dX12_isWay_4 : decode cX12_isWay 4 = .ok (.iload_n 2, 1) := by decide +kernel
theorem dX12_isWay_5 : decode cX12_isWay 5 = .ok (.invokestatic 322, 3) := by decide +kernel
theorem dX12_isWay_8 : decode cX12_isWay 8 = .ok (.ifCond .eq 5, 3) := by decide +kernel
theorem dX12_isWay_11 : decode cX12_isWay 11 = .ok (.iconst 0, 1) := by decide +kernel
theorem dX12_isWay_12 : decode cX12_isWay 12 = .ok (.ireturn, 1) := by decide +kernel
theorem dX12_isWay_13 : decode cX12_isWay 13 = .ok (.iconst 0, 1) := by decide +kernel
theorem dX12_isWay_14 : decode cX12_isWay 14 = .ok (.istore_n 3, 1) := by decide +kernel
theorem dX12_isWay_15 : decode cX12_isWay 15 = .ok (.iload_n 3, 1) := by decide +kernel
theorem dX12_isWay_16 : decode cX12_isWay 16 = .ok (.aload_n 0, 1) := by decide +kernel
theorem dX12_isWay_17 : decode cX12_isWay 17 = .ok (.getfield 34, 3) := by decide +kernel
theorem dX12_isWay_20 : decode cX12_isWay 20 = .ok (.iconst 4, 1) := by decide +kernel
theorem dX12_isWay_21 : decode cX12_isWay 21 = .ok (.iaload, 1) := by decide +kernel
theorem dX12_isWay_22 : decode cX12_isWay 22 = .ok (.if_icmp .ge 71, 3) := by decide +kernel
theorem dX12_isWay_25 : decode cX12_isWay 25 = .ok (.iload_n 3, 1) := by decide +kernel
theorem dX12_isWay_26 : decode cX12_isWay 26 = .ok (.aload_n 0, 1) := by decide +kernel
theorem dX12_isWay_27 : decode cX12_isWay 27 = .ok (.getfield 316, 3) := by decide +kernel
theorem dX12_isWay_30 : decode cX12_isWay 30 = .ok (.if_icmp .eq 57, 3) := by decide +kernel
theorem dX12_isWay_33 : decode cX12_isWay 33 = .ok (.aload_n 0, 1) := by decide +kernel
theorem dX12_isWay_34 : decode cX12_isWay 34 = .ok (.getfield 40, 3) := by decide +kernel
theorem dX12_isWay_37 : decode cX12_isWay 37 = .ok (.iconst 2, 1) := by decide +kernel
theorem dX12_isWay_38 : decode cX12_isWay 38 = .ok (.iload_n 3, 1) := by decide +kernel
theorem dX12_isWay_39 : decode cX12_isWay 39 = .ok (.imul, 1) := by decide +kernel
theorem dX12_isWay_40 : decode cX12_isWay 40 = .ok (.iaload, 1) := by decide +kernel
theorem dX12_isWay_41 : decode cX12_isWay 41 = .ok (.iload_n 1, 1) := by decide +kernel
theorem dX12_isWay_42 : decode cX12_isWay 42 = .ok (.if_icmp .ne 17, 3) := by decide +kernel
theorem dX12_isWay_45 : decode cX12_isWay 45 = .ok (.aload_n 0, 1) := by decide +kernel
theorem dX12_isWay_46 : decode cX12_isWay 46 = .ok (.getfield 40, 3) := by decide +kernel
theorem dX12_isWay_49 : decode cX12_isWay 49 = .ok (.iconst 2, 1) := by decide +kernel
theorem dX12_isWay_50 : decode cX12_isWay 50 = .ok (.iload_n 3, 1) := by decide +kernel
theorem dX12_isWay_51 : decode cX12_isWay 51 = .ok (.imul, 1) := by decide +kernel
theorem dX12_isWay_52 : decode cX12_isWay 52 = .ok (.iconst 1, 1) := by decide +kernel
theorem dX12_isWay_53 : decode cX12_isWay 53 = .ok (.iadd, 1) := by decide +kernel
theorem dX12_isWay_54 : decode cX12_isWay 54 = .ok (.iaload, 1) := by decide +kernel
theorem dX12_isWay_55 : decode cX12_isWay 55 = .ok (.iload_n 2, 1) := by decide +kernel
theorem dX12_isWay_56 : decode cX12_isWay 56 = .ok (.if_icmp .eq 29, 3) := by decide +kernel
theorem dX12_isWay_59 : decode cX12_isWay 59 = .ok (.aload_n 0, 1) := by decide +kernel
theorem dX12_isWay_60 : decode cX12_isWay 60 = .ok (.getfield 40, 3) := by decide +kernel
theorem dX12_isWay_63 : decode cX12_isWay 63 = .ok (.iconst 2, 1) := by decide +kernel
theorem dX12_isWay_64 : decode cX12_isWay 64 = .ok (.iload_n 3, 1) := by decide +kernel
theorem dX12_isWay_65 : decode cX12_isWay 65 = .ok (.imul, 1) := by decide +kernel
theorem dX12_isWay_66 : decode cX12_isWay 66 = .ok (.iaload, 1) := by decide +kernel
theorem dX12_isWay_67 : decode cX12_isWay 67 = .ok (.iload_n 2, 1) := by decide +kernel
theorem dX12_isWay_68 : decode cX12_isWay 68 = .ok (.if_icmp .ne 19, 3) := by decide +kernel
theorem dX12_isWay_71 : decode cX12_isWay 71 = .ok (.aload_n 0, 1) := by decide +kernel
theorem dX12_isWay_72 : decode cX12_isWay 72 = .ok (.getfield 40, 3) := by decide +kernel
theorem dX12_isWay_75 : decode cX12_isWay 75 = .ok (.iconst 2, 1) := by decide +kernel
theorem dX12_isWay_76 : decode cX12_isWay 76 = .ok (.iload_n 3, 1) := by decide +kernel
theorem dX12_isWay_77 : decode cX12_isWay 77 = .ok (.imul, 1) := by decide +kernel
theorem dX12_isWay_78 : decode cX12_isWay 78 = .ok (.iconst 1, 1) := by decide +kernel
theorem dX12_isWay_79 : decode cX12_isWay 79 = .ok (.iadd, 1) := by decide +kernel
theorem dX12_isWay_80 : decode cX12_isWay 80 = .ok (.iaload, 1) := by decide +kernel
theorem dX12_isWay_81 : decode cX12_isWay 81 = .ok (.iload_n 1, 1) := by decide +kernel
theorem dX12_isWay_82 : decode cX12_isWay 82 = .ok (.if_icmp .ne 5, 3) := by decide +kernel
theorem dX12_isWay_85 : decode cX12_isWay 85 = .ok (.iconst 1, 1) := by decide +kernel
theorem dX12_isWay_86 : decode cX12_isWay 86 = .ok (.ireturn, 1) := by decide +kernel
theorem dX12_isWay_87 : decode cX12_isWay 87 = .ok (.iinc 3 1, 3) := by decide +kernel
theorem dX12_isWay_90 : decode cX12_isWay 90 = .ok (.goto (-75), 3) := by decide +kernel
theorem dX12_isWay_93 : decode cX12_isWay 93 = .ok (.iconst 0, 1) := by decide +kernel
theorem dX12_isWay_94 : decode cX12_isWay 94 = .ok (.ireturn, 1) := by decide +kernel
theorem mokX12_isWay : MOK yX12_isWay cX12_isWay 4 (some .boolean) 2 := ⟨w8_102, w1_13, ⟨by decide, by decide⟩, by decide +kernel, by decide⟩
abbrev miX12_isWay : MI := (yX12_isWay.cls, cX12_isWay, 4, 2, false)
noncomputable def LX12_isWay_1 : Sm Int32 := dLoop (fun f => (sI (sI (sI (sR fr0 0 (gR f 0)) 1 (gI f 1)) 2 (gI f 2)) 3 (gI f 3))) (dCI r_lt (vI 3) (dAI (dGR 12 17 (vR 0)) (cI 4))) (dIf (dAnd (dCI r_ne (vI 3) (dGI 12 29 (vR 0))) (dOr (dAnd (dCI r_eq (dAI (dGR 12 19 (vR 0)) (d2 o_imul (cI 2) (vI 3))) (vI 1)) (dCI r_eq (dAI (dGR 12 19 (vR 0)) (d2 o_iadd (d2 o_imul (cI 2) (vI 3)) (cI 1))) (vI 2))) (dAnd (dCI r_eq (dAI (dGR 12 19 (vR 0)) (d2 o_imul (cI 2) (vI 3))) (vI 2)) (dCI r_eq (dAI (dGR 12 19 (vR 0)) (d2 o_iadd (d2 o_imul (cI 2) (vI 3)) (cI 1))) (vI 1))))) (dRet (cI 1)) dSkip) (dInc 3 1)
theorem sLX12_isWay_1 {ΓL : Gm} {PB PK : List Nat} : SS (cvoI, .ireturn) miX12_isWay ΓL PB PK [(0, 2), (1, 0), (2, 0), (3, 0)] [(0, 2), (1, 0), (2, 0), (3, 0)] 15 [93] LX12_isWay_1 := t_loop (pT := 25) (pF := 93) (pu := 87) (PB' := []) (PK' := []) (XB := [87]) (XU := [90]) (fun _ _ => rfl) rfl (c_lt_F (pF := 93) (s_iload_n dX12_isWay_15 rfl rfl) (s_dAI (s_getR ck12 17 (by decide) rfl (s_aload_n dX12_isWay_16 rfl rfl) dX12_isWay_17 w6_222) (s_iconst dX12_isWay_20 rfl) dX12_isWay_21) dX12_isWay_22 rfl) (t_if (pT := 85) (pF := 87) (X := [87]) (XA := []) (XB := [87]) (c_and (p1 := 33) (pT := 85) (pF := 87) (c_ne_F (pF := 87) (s_iload_n dX12_isWay_25 rfl rfl) (s_getI ck12 29 (by decide) rfl (s_aload_n dX12_isWay_26 rfl rfl) dX12_isWay_27 w6_234) dX12_isWay_30 rfl) (c_or (p1 := 59) (pT := 85) (pF := 87) (c_and (p1 := 45) (pT := 85) (pF := 59) (c_eq_F (pF := 59) (s_dAI (s_getR ck12 19 (by decide) rfl (s_aload_n dX12_isWay_33 rfl rfl) dX12_isWay_34 w6_224) (s_imul (s_iconst dX12_isWay_37 rfl) (s_iload_n dX12_isWay_38 rfl rfl) dX12_isWay_39) dX12_isWay_40) (s_iload_n dX12_isWay_41 rfl rfl) dX12_isWay_42 rfl) (c_eq_J (pT := 85) (s_dAI (s_getR ck12 19 (by decide) rfl (s_aload_n dX12_isWay_45 rfl rfl) dX12_isWay_46 w6_224) (s_iadd (s_imul (s_iconst dX12_isWay_49 rfl) (s_iload_n dX12_isWay_50 rfl rfl) dX12_isWay_51) (s_iconst dX12_isWay_52 rfl) dX12_isWay_53) dX12_isWay_54) (s_iload_n dX12_isWay_55 rfl rfl) dX12_isWay_56 rfl)) (c_and (p1 := 71) (pT := 85) (pF := 87) (c_eq_F (pF := 87) (s_dAI (s_getR ck12 19 (by decide) rfl (s_aload_n dX12_isWay_59 rfl rfl) dX12_isWay_60 w6_224) (s_imul (s_iconst dX12_isWay_63 rfl) (s_iload_n dX12_isWay_64 rfl rfl) dX12_isWay_65) dX12_isWay_66) (s_iload_n dX12_isWay_67 rfl rfl) dX12_isWay_68 rfl) (c_eq_F (pF := 87) (s_dAI (s_getR ck12 19 (by decide) rfl (s_aload_n dX12_isWay_71 rfl rfl) dX12_isWay_72 w6_224) (s_iadd (s_imul (s_iconst dX12_isWay_75 rfl) (s_iload_n dX12_isWay_76 rfl rfl) dX12_isWay_77) (s_iconst dX12_isWay_78 rfl) dX12_isWay_79) dX12_isWay_80) (s_iload_n dX12_isWay_81 rfl rfl) dX12_isWay_82 rfl)))) (t_ret (cv := cvI) (fun _ _ => rfl) (s_iconst dX12_isWay_85 rfl) dX12_isWay_86) (t_skip (ld_in rfl) rfl) lda_nil (lda_cons (ld_in rfl) lda_nil)) (t_iinc dX12_isWay_87 rfl rfl rfl rfl) (lda_cons (ld_in rfl) lda_nil) lda_nil (lda_cons (ld_goto (y := 15) dX12_isWay_90 rfl (ld_in rfl)) lda_nil) (ld_in rfl) lda_nil
noncomputable def BX12_isWay : Sm Int32 := (dSeq (dIf (dCZ q_ne (dCall DX12_isBit (aI (aI aN 0 (dGI 12 30 (vR 0))) 1 (vI 2)))) (dRet (cI 0)) dSkip) (dSeq (dSeq (dSetI 3 (cI 0)) LX12_isWay_1) (dRet (cI 0))))
theorem sBX12_isWay : SS (cvoI, .ireturn) miX12_isWay [] [] [] [(0, 2), (1, 0), (2, 0)] [(0, 2), (1, 0), (2, 0)] 0 [] BX12_isWay := (t_sq (p1 := 13) (Γ' := [(0, 2), (1, 0), (2, 0)]) (t_if (pT := 11) (pF := 13) (X := [13]) (XA := []) (XB := [13]) (c_ne_ZF (pF := 13) (s_of_xI (x_call (ts := [(0, 0), (1, 0)]) kX12_isBit mokX12_isBit w8_104 rfl rfl rfl (a_I (ts := [(0, 0)]) 1 (a_I (ts := []) 0 a_nil (s_getI ck12 30 (by decide) rfl (s_aload_n dX12_isWay_0 rfl rfl) dX12_isWay_1 w6_235) rfl) (s_iload_n dX12_isWay_4 rfl rfl) rfl) dX12_isWay_5 w8_103)) dX12_isWay_8 rfl) (t_ret (cv := cvI) (fun _ _ => rfl) (s_iconst dX12_isWay_11 rfl) dX12_isWay_12) (t_skip (ld_in rfl) rfl) lda_nil (lda_cons (ld_in rfl) lda_nil)) (t_sq (p1 := 93) (Γ' := [(0, 2), (1, 0), (2, 0)]) (t_sq (p1 := 15) (Γ' := [(0, 2), (1, 0), (2, 0), (3, 0)]) (t_istore_n (s_iconst dX12_isWay_13 rfl) dX12_isWay_14 rfl rfl rfl) (tn_to (Γ' := [(0, 2), (1, 0), (2, 0), (3, 0)]) (XA := [93]) sLX12_isWay_1 (lda_cons (ld_in rfl) lda_nil) rfl)) (t_ret (cv := cvI) (fun _ _ => rfl) (s_iconst dX12_isWay_93 rfl) dX12_isWay_94)))
noncomputable def DX12_isWay : Fr → St → Option (Int32 × St) := MZ (fun f => (sI (sI (sR fr0 0 (gR f 0)) 1 (gI f 1)) 2 (gI f 2))) BX12_isWay
theorem kX12_isWay : SND yX12_isWay cX12_isWay 4 (some .boolean) 2 [(0, 2), (1, 0), (2, 0)] cvoI DX12_isWay := snd_Z (nw := 3) (by decide) rfl rfl (fun _ _ => rfl) sBX12_isWay
theorem dX12_slates_0 : decode cX12_slates 0 = .ok (.aload_n 0, 1) := by decide +kernel
theorem dX12_slates_1 : decode cX12_slates 1 = .ok (.getfield 34, 3) := by decide +kernel
theorem dX12_slates_4 : decode cX12_slates 4 = .ok (.bipush 6, 2) := by decide +kernel
theorem dX12_slates_6 : decode cX12_slates 6 = .ok (.iaload, 1) := by decide +kernel
theorem dX12_slates_7 : decode cX12_slates 7 = .ok (.ireturn, 1) := by decide +kernel
theorem mokX12_slates : MOK yX12_slates cX12_slates 1 (some .int) 0 := ⟨w8_90, w1_13, ⟨by decide, by decide⟩, by decide +kernel, by decide⟩
abbrev miX12_slates : MI := (yX12_slates.cls, cX12_slates, 1, 1, false)
noncomputable def BX12_slates : Sm Int32 := (dRet (dAI (dGR 12 17 (vR 0)) (cI 6)))
theorem sBX12_slates : SS (cvoI, .ireturn) miX12_slates [] [] [] [(0, 2)] [(0, 2)] 0 [] BX12_slates := (t_ret (cv := cvI) (fun _ _ => rfl) (s_dAI (s_getR ck12 17 (by decide) rfl (s_aload_n dX12_slates_0 rfl rfl) dX12_slates_1 w6_222) (s_bipush dX12_slates_4 rfl) dX12_slates_6) dX12_slates_7)
noncomputable def DX12_slates : Fr → St → Option (Int32 × St) := M1 (fun f => (sR fr0 0 (gR f 0))) BX12_slates
theorem kX12_slates : SND yX12_slates cX12_slates 1 (some .int) 1 [(0, 2)] cvoI DX12_slates := snd_I (nw := 1) (by decide) rfl rfl (fun _ _ => rfl) sBX12_slates
theorem dX12_lays_0 : decode cX12_lays 0 = .ok (.aload_n 0, 1) := by decide +kernel
theorem dX12_lays_1 : decode cX12_lays 1 = .ok (.aload_n 0, 1) := by decide +kernel
theorem dX12_lays_2 : decode cX12_lays 2 = .ok (.getfield 34, 3) := by decide +kernel
theorem dX12_lays_5 : decode cX12_lays 5 = .ok (.iconst 1, 1) := by decide +kernel
theorem dX12_lays_6 : decode cX12_lays 6 = .ok (.iaload, 1) := by decide +kernel
theorem dX12_lays_7 : decode cX12_lays 7 = .ok (.putfield 310, 3) := by decide +kernel
theorem dX12_lays_10 : decode cX12_lays 10 = .ok (.aload_n 0, 1) := by decide +kernel
theorem dX12_lays_11 : decode cX12_lays 11 = .ok (.iconst 0, 1) := by decide +kernel
theorem dX12_lays_12 : decode cX12_lays 12 = .ok (.putfield 313, 3) := by decide +kernel
theorem dX12_lays_15 : decode cX12_lays 15 = .ok (.aload_n 0, 1) := by decide +kernel
theorem dX12_lays_16 : decode cX12_lays 16 = .ok (.iconst (-1), 1) := by decide +kernel
theorem dX12_lays_17 : decode cX12_lays 17 = .ok (.putfield 316, 3) := by decide +kernel
theorem dX12_lays_20 : decode cX12_lays 20 = .ok (.aload_n 0, 1) := by decide +kernel
theorem dX12_lays_21 : decode cX12_lays 21 = .ok (.iconst 0, 1) := by decide +kernel
theorem dX12_lays_22 : decode cX12_lays 22 = .ok (.putfield 319, 3) := by decide +kernel
theorem dX12_lays_25 : decode cX12_lays 25 = .ok (.iconst 0, 1) := by decide +kernel
theorem dX12_lays_26 : decode cX12_lays 26 = .ok (.istore_n 1, 1) := by decide +kernel
theorem dX12_lays_27 : decode cX12_lays 27 = .ok (.iload_n 1, 1) := by decide +kernel
theorem dX12_lays_28 : decode cX12_lays 28 = .ok (.aload_n 0, 1) := by decide +kernel
theorem dX12_lays_29 : decode cX12_lays 29 = .ok (.invokevirtual 298, 3) := by decide +kernel
theorem dX12_lays_32 : decode cX12_lays 32 = .ok (.if_icmp .ge 37, 3) := by decide +kernel
theorem dX12_lays_35 : decode cX12_lays 35 = .ok (.aload_n 0, 1) := by decide +kernel
theorem dX12_lays_36 : decode cX12_lays 36 = .ok (.getfield 65, 3) := by decide +kernel
theorem dX12_lays_39 : decode cX12_lays 39 = .ok (.iload_n 1, 1) := by decide +kernel
theorem dX12_lays_40 : decode cX12_lays 40 = .ok (.aload_n 0, 1) := by decide +kernel
theorem dX12_lays_41 : decode cX12_lays 41 = .ok (.getfield 46, 3) := by decide +kernel
theorem dX12_lays_44 : decode cX12_lays 44 = .ok (.iload_n 1, 1) := by decide +kernel
theorem dX12_lays_45 : decode cX12_lays 45 = .ok (.iaload, 1) := by decide +kernel
theorem dX12_lays_46 : decode cX12_lays 46 = .ok (.iastore, 1) := by decide +kernel
theorem dX12_lays_47 : decode cX12_lays 47 = .ok (.aload_n 0, 1) := by decide +kernel
theorem dX12_lays_48 : decode cX12_lays 48 = .ok (.getfield 68, 3) := by decide +kernel
theorem dX12_lays_51 : decode cX12_lays 51 = .ok (.iload_n 1, 1) := by decide +kernel
theorem dX12_lays_52 : decode cX12_lays 52 = .ok (.iconst 1, 1) := by decide +kernel
theorem dX12_lays_53 : decode cX12_lays 53 = .ok (.aload_n 0, 1) := by decide +kernel
theorem dX12_lays_54 : decode cX12_lays 54 = .ok (.getfield 49, 3) := by decide +kernel
theorem dX12_lays_57 : decode cX12_lays 57 = .ok (.iload_n 1, 1) := by decide +kernel
theorem dX12_lays_58 : decode cX12_lays 58 = .ok (.iaload, 1) := by decide +kernel
theorem dX12_lays_59 : decode cX12_lays 59 = .ok (.ishl, 1) := by decide +kernel
theorem dX12_lays_60 : decode cX12_lays 60 = .ok (.iconst 1, 1) := by decide +kernel
theorem dX12_lays_61 : decode cX12_lays 61 = .ok (.isub, 1) := by decide +kernel
theorem dX12_lays_62 : decode cX12_lays 62 = .ok (.iastore, 1) := by decide +kernel
theorem dX12_lays_63 : decode cX12_lays 63 = .ok (.iinc 1 1, 3) := by decide +kernel
theorem dX12_lays_66 : decode cX12_lays 66 = .ok (.goto (-39), 3) := by decide +kernel
theorem dX12_lays_69 : decode cX12_lays 69 = .ok (.iconst 0, 1) := by decide +kernel
theorem dX12_lays_70 : decode cX12_lays 70 = .ok (.istore_n 1, 1) := by decide +kernel
theorem dX12_lays_71 : decode cX12_lays 71 = .ok (.iload_n 1, 1) := by decide +kernel
theorem dX12_lays_72 : decode cX12_lays 72 = .ok (.aload_n 0, 1) := by decide +kernel
theorem dX12_lays_73 : decode cX12_lays 73 = .ok (.getfield 34, 3) := by decide +kernel
theorem dX12_lays_76 : decode cX12_lays 76 = .ok (.bipush 8, 2) := by decide +kernel
theorem dX12_lays_78 : decode cX12_lays 78 = .ok (.iaload, 1) := by decide +kernel
theorem dX12_lays_79 : decode cX12_lays 79 = .ok (.if_icmp .ge 53, 3) := by decide +kernel
theorem dX12_lays_82 : decode cX12_lays 82 = .ok (.aload_n 0, 1) := by decide +kernel
theorem dX12_lays_83 : decode cX12_lays 83 = .ok (.getfield 58, 3) := by decide +kernel
theorem dX12_lays_86 : decode cX12_lays 86 = .ok (.iconst 4, 1) := by decide +kernel
theorem dX12_lays_87 : decode cX12_lays 87 = .ok (.iload_n 1, 1) := by decide +kernel
theorem dX12_lays_88 : decode cX12_lays 88 = .ok (.imul, 1) := by decide +kernel
theorem dX12_lays_89 : decode cX12_lays 89 = .ok (.iaload, 1) := by decide +kernel
theorem dX12_lays_90 : decode cX12_lays 90 = .ok (.iconst (-1), 1) := by decide +kernel
theorem dX12_lays_91 : decode cX12_lays 91 = .ok (.if_icmp .ne 35, 3) := by decide +kernel
theorem dX12_lays_94 : decode cX12_lays 94 = .ok (.aload_n 0, 1) := by decide +kernel
theorem dX12_lays_95 : decode cX12_lays 95 = .ok (.getfield 68, 3) := by decide +kernel
theorem dX12_lays_98 : decode cX12_lays 98 = .ok (.aload_n 0, 1) := by decide +kernel
theorem dX12_lays_99 : decode cX12_lays 99 = .ok (.getfield 58, 3) := by decide +kernel
theorem dX12_lays_102 : decode cX12_lays 102 = .ok (.iconst 4, 1) := by decide +kernel
theorem dX12_lays_103 : decode cX12_lays 103 = .ok (.iload_n 1, 1) := by decide +kernel
theorem dX12_lays_104 : decode cX12_lays 104 = .ok (.imul, 1) := by decide +kernel
theorem dX12_lays_105 : decode cX12_lays 105 = .ok (.iconst 1, 1) := by decide +kernel
theorem dX12_lays_106 : decode cX12_lays 106 = .ok (.iadd, 1) := by decide +kernel
theorem dX12_lays_107 : decode cX12_lays 107 = .ok (.iaload, 1) := by decide +kernel
theorem dX12_lays_108 : decode cX12_lays 108 = .ok (.dup2, 1) := by decide +kernel
theorem dX12_lays_109 : decode cX12_lays 109 = .ok (.iaload, 1) := by decide +kernel
theorem dX12_lays_110 : decode cX12_lays 110 = .ok (.iconst 1, 1) := by decide +kernel
theorem dX12_lays_111 : decode cX12_lays 111 = .ok (.aload_n 0, 1) := by decide +kernel
theorem dX12_lays_112 : decode cX12_lays 112 = .ok (.getfield 58, 3) := by decide +kernel
theorem dX12_lays_115 : decode cX12_lays 115 = .ok (.iconst 4, 1) := by decide +kernel
theorem dX12_lays_116 : decode cX12_lays 116 = .ok (.iload_n 1, 1) := by decide +kernel
theorem dX12_lays_117 : decode cX12_lays 117 = .ok (.imul, 1) := by decide +kernel
theorem dX12_lays_118 : decode cX12_lays 118 = .ok (.iconst 2, 1) := by decide +kernel
theorem dX12_lays_119 : decode cX12_lays 119 = .ok (.iadd, 1) := by decide +kernel
theorem dX12_lays_120 : decode cX12_lays 120 = .ok (.iaload, 1) := by decide +kernel
theorem dX12_lays_121 : decode cX12_lays 121 = .ok (.ishl, 1) := by decide +kernel
theorem dX12_lays_122 : decode cX12_lays 122 = .ok (.iconst (-1), 1) := by decide +kernel
theorem dX12_lays_123 : decode cX12_lays 123 = .ok (.ixor, 1) := by decide +kernel
theorem dX12_lays_124 : decode cX12_lays 124 = .ok (.iand, 1) := by decide +kernel
theorem dX12_lays_125 : decode cX12_lays 125 = .ok (.iastore, 1) := by decide +kernel
theorem dX12_lays_126 : decode cX12_lays 126 = .ok (.iinc 1 1, 3) := by decide +kernel
theorem dX12_lays_129 : decode cX12_lays 129 = .ok (.goto (-58), 3) := by decide +kernel
theorem dX12_lays_132 : decode cX12_lays 132 = .ok (.return_, 1) := by decide +kernel
theorem mokX12_lays : MOK yX12_lays cX12_lays 2 none 0 := ⟨w8_98, w1_13, ⟨by decide, by decide⟩, by decide +kernel, by decide⟩
abbrev miX12_lays : MI := (yX12_lays.cls, cX12_lays, 2, 2, false)
noncomputable def LX12_lays_1 : Sm Unit := dLoop (fun f => (sI (sR fr0 0 (gR f 0)) 1 (gI f 1))) (dCI r_lt (vI 1) (dCallV 12 DX12_slates (aR aN 0 (vR 0)))) (dSeq (d3 (stI 13 idI) (dGR 12 31 (vR 0)) (vI 1) (dAI (dGR 12 21 (vR 0)) (vI 1))) (d3 (stI 13 idI) (dGR 12 32 (vR 0)) (vI 1) (d2 o_isub (d2 o_ishl (cI 1) (dAI (dGR 12 22 (vR 0)) (vI 1))) (cI 1)))) (dInc 1 1)
theorem sLX12_lays_1 {ΓL : Gm} {PB PK : List Nat} : SS (cvoV, .return_) miX12_lays ΓL PB PK [(0, 2), (1, 0)] [(0, 2), (1, 0)] 27 [69] LX12_lays_1 := t_loop (pT := 35) (pF := 69) (pu := 63) (PB' := []) (PK' := []) (XB := [63]) (XU := [66]) (fun _ _ => rfl) rfl (c_lt_F (pF := 69) (s_iload_n dX12_lays_27 rfl rfl) (s_of_xI (x_callV (ts := [(0, 2)]) ck12 rfl kX12_slates mokX12_slates w8_89 ps5_5 rfl rfl rfl rfl (a_R (ts := []) 0 a_nil (s_aload_n dX12_lays_28 rfl rfl) rfl) dX12_lays_29 w8_87)) dX12_lays_32 rfl) (t_sq (p1 := 47) (Γ' := [(0, 2), (1, 0)]) (t_stI (s_getR ck12 31 (by decide) rfl (s_aload_n dX12_lays_35 rfl rfl) dX12_lays_36 w6_236) (s_iload_n dX12_lays_39 rfl rfl) (s_dAI (s_getR ck12 21 (by decide) rfl (s_aload_n dX12_lays_40 rfl rfl) dX12_lays_41 w6_226) (s_iload_n dX12_lays_44 rfl rfl) dX12_lays_45) dX12_lays_46 rfl) (t_stI (s_getR ck12 32 (by decide) rfl (s_aload_n dX12_lays_47 rfl rfl) dX12_lays_48 w6_237) (s_iload_n dX12_lays_51 rfl rfl) (s_isub (s_ishl (s_iconst dX12_lays_52 rfl) (s_dAI (s_getR ck12 22 (by decide) rfl (s_aload_n dX12_lays_53 rfl rfl) dX12_lays_54 w6_227) (s_iload_n dX12_lays_57 rfl rfl) dX12_lays_58) dX12_lays_59) (s_iconst dX12_lays_60 rfl) dX12_lays_61) dX12_lays_62 rfl)) (t_iinc dX12_lays_63 rfl rfl rfl rfl) (lda_cons (ld_in rfl) lda_nil) lda_nil (lda_cons (ld_goto (y := 27) dX12_lays_66 rfl (ld_in rfl)) lda_nil) (ld_in rfl) lda_nil
noncomputable def LX12_lays_2 : Sm Unit := dLoop (fun f => (sI (sR fr0 0 (gR f 0)) 1 (gI f 1))) (dCI r_lt (vI 1) (dAI (dGR 12 17 (vR 0)) (cI 8))) (dIf (dCI r_eq (dAI (dGR 12 25 (vR 0)) (d2 o_imul (cI 4) (vI 1))) (cI (-1))) (dUA o_iand (dGR 12 32 (vR 0)) (dAI (dGR 12 25 (vR 0)) (d2 o_iadd (d2 o_imul (cI 4) (vI 1)) (cI 1))) (d2 o_ixor (d2 o_ishl (cI 1) (dAI (dGR 12 25 (vR 0)) (d2 o_iadd (d2 o_imul (cI 4) (vI 1)) (cI 2)))) (cI (-1)))) dSkip) (dInc 1 1)
theorem sLX12_lays_2 {ΓL : Gm} {PB PK : List Nat} : SS (cvoV, .return_) miX12_lays ΓL PB PK [(0, 2), (1, 0)] [(0, 2), (1, 0)] 71 [132] LX12_lays_2 := t_loop (pT := 82) (pF := 132) (pu := 126) (PB' := []) (PK' := []) (XB := [126]) (XU := [129]) (fun _ _ => rfl) rfl (c_lt_F (pF := 132) (s_iload_n dX12_lays_71 rfl rfl) (s_dAI (s_getR ck12 17 (by decide) rfl (s_aload_n dX12_lays_72 rfl rfl) dX12_lays_73 w6_222) (s_bipush dX12_lays_76 rfl) dX12_lays_78) dX12_lays_79 rfl) (t_if (pT := 94) (pF := 126) (X := [126]) (XA := [126]) (XB := [126]) (c_eq_F (pF := 126) (s_dAI (s_getR ck12 25 (by decide) rfl (s_aload_n dX12_lays_82 rfl rfl) dX12_lays_83 w6_230) (s_imul (s_iconst dX12_lays_86 rfl) (s_iload_n dX12_lays_87 rfl rfl) dX12_lays_88) dX12_lays_89) (s_iconst dX12_lays_90 rfl) dX12_lays_91 rfl) (t_UA (s_getR ck12 32 (by decide) rfl (s_aload_n dX12_lays_94 rfl rfl) dX12_lays_95 w6_237) (s_dAI (s_getR ck12 25 (by decide) rfl (s_aload_n dX12_lays_98 rfl rfl) dX12_lays_99 w6_230) (s_iadd (s_imul (s_iconst dX12_lays_102 rfl) (s_iload_n dX12_lays_103 rfl rfl) dX12_lays_104) (s_iconst dX12_lays_105 rfl) dX12_lays_106) dX12_lays_107) dX12_lays_108 dX12_lays_109 (s_ixor (s_ishl (s_iconst dX12_lays_110 rfl) (s_dAI (s_getR ck12 25 (by decide) rfl (s_aload_n dX12_lays_111 rfl rfl) dX12_lays_112 w6_230) (s_iadd (s_imul (s_iconst dX12_lays_115 rfl) (s_iload_n dX12_lays_116 rfl rfl) dX12_lays_117) (s_iconst dX12_lays_118 rfl) dX12_lays_119) dX12_lays_120) dX12_lays_121) (s_iconst dX12_lays_122 rfl) dX12_lays_123) (fun _ _ _ _ => rulI fun a b K => lv_iand a b dX12_lays_124 K) dX12_lays_125 rfl) (t_skip (ld_in rfl) rfl) (lda_cons (ld_in rfl) lda_nil) (lda_cons (ld_in rfl) lda_nil)) (t_iinc dX12_lays_126 rfl rfl rfl rfl) (lda_cons (ld_in rfl) lda_nil) lda_nil (lda_cons (ld_goto (y := 71) dX12_lays_129 rfl (ld_in rfl)) lda_nil) (ld_in rfl) lda_nil
noncomputable def BX12_lays : Sm Unit := (dSeq (dP (fI 12 27) (vR 0) (dAI (dGR 12 17 (vR 0)) (cI 1))) (dSeq (dP (fI 12 28) (vR 0) (cI 0)) (dSeq (dP (fI 12 29) (vR 0) (cI (-1))) (dSeq (dP (fI 12 30) (vR 0) (cI 0)) (dSeq (dSeq (dSetI 1 (cI 0)) LX12_lays_1) (dSeq (dSeq (dSetI 1 (cI 0)) LX12_lays_2) dRet0))))))
theorem sBX12_lays : SS (cvoV, .return_) miX12_lays [] [] [] [(0, 2)] [(0, 2)] 0 [] BX12_lays := (t_sq (p1 := 10) (Γ' := [(0, 2)]) (t_pI ck12 27 (by decide) rfl (Or.inl rfl) (s_aload_n dX12_lays_0 rfl rfl) (s_dAI (s_getR ck12 17 (by decide) rfl (s_aload_n dX12_lays_1 rfl rfl) dX12_lays_2 w6_222) (s_iconst dX12_lays_5 rfl) dX12_lays_6) dX12_lays_7 w6_232 rfl) (t_sq (p1 := 15) (Γ' := [(0, 2)]) (t_pI ck12 28 (by decide) rfl (Or.inl rfl) (s_aload_n dX12_lays_10 rfl rfl) (s_iconst dX12_lays_11 rfl) dX12_lays_12 w6_233 rfl) (t_sq (p1 := 20) (Γ' := [(0, 2)]) (t_pI ck12 29 (by decide) rfl (Or.inl rfl) (s_aload_n dX12_lays_15 rfl rfl) (s_iconst dX12_lays_16 rfl) dX12_lays_17 w6_234 rfl) (t_sq (p1 := 25) (Γ' := [(0, 2)]) (t_pI ck12 30 (by decide) rfl (Or.inl rfl) (s_aload_n dX12_lays_20 rfl rfl) (s_iconst dX12_lays_21 rfl) dX12_lays_22 w6_235 rfl) (t_sq (p1 := 69) (Γ' := [(0, 2)]) (t_sq (p1 := 27) (Γ' := [(0, 2), (1, 0)]) (t_istore_n (s_iconst dX12_lays_25 rfl) dX12_lays_26 rfl rfl rfl) (tn_to (Γ' := [(0, 2), (1, 0)]) (XA := [69]) sLX12_lays_1 (lda_cons (ld_in rfl) lda_nil) rfl)) (t_sq (p1 := 132) (Γ' := [(0, 2)]) (t_sq (p1 := 71) (Γ' := [(0, 2), (1, 0)]) (t_istore_n (s_iconst dX12_lays_69 rfl) dX12_lays_70 rfl rfl rfl) (tn_to (Γ' := [(0, 2), (1, 0)]) (XA := [132]) sLX12_lays_2 (lda_cons (ld_in rfl) lda_nil) rfl)) (t_ret0 (fun _ _ => rfl) dX12_lays_132)))))))
noncomputable def DX12_lays : Fr → St → Option (Unit × St) := M1 (fun f => (sR fr0 0 (gR f 0))) BX12_lays
theorem kX12_lays : SND yX12_lays cX12_lays 2 none 2 [(0, 2)] cvoV DX12_lays := snd_V (nw := 1) (by decide) (fun z => by cases z) rfl rfl (fun _ _ => rfl) sBX12_lays
theorem dX12_rubs_0 : decode cX12_rubs 0 = .ok (.iconst (-1), 1) := by decide +kernel
theorem dX12_rubs_1 : decode cX12_rubs 1 = .ok (.istore 4, 2) := by decide +kernel
theorem dX12_rubs_3 : decode cX12_rubs 3 = .ok (.iconst 0, 1) := by decide +kernel
theorem dX12_rubs_4 : decode cX12_rubs 4 = .ok (.istore 5, 2) := by decide +kernel
theorem dX12_rubs_6 : decode cX12_rubs 6 = .ok (.iload 5, 2) := by decide +kernel
theorem dX12_rubs_8 : decode cX12_rubs 8 = .ok (.aload_n 0, 1) := by decide +kernel
theorem dX12_rubs_9 : decode cX12_rubs 9 = .ok (.getfield 49, 3) := by decide +kernel
theorem dX12_rubs_12 : decode cX12_rubs 12 = .ok (.iload_n 1, 1) := by decide +kernel
theorem dX12_rubs_13 : decode cX12_rubs 13 = .ok (.iaload, 1) := by decide +kernel
theorem dX12_rubs_14 : decode cX12_rubs 14 = .ok (.if_icmp .ge 68, 3) := by decide +kernel
theorem dX12_rubs_17 : decode cX12_rubs 17 = .ok (.iload_n 2, 1) := by decide +kernel
theorem dX12_rubs_18 : decode cX12_rubs 18 = .ok (.iload 5, 2) := by decide +kernel
theorem dX12_rubs_20 : decode cX12_rubs 20 = .ok (.invokestatic 322, 3) := by decide +kernel
theorem dX12_rubs_23 : decode cX12_rubs 23 = .ok (.ifCond .ne 6, 3) := by decide +kernel
theorem dX12_rubs_26 : decode cX12_rubs 26 = .ok (.goto 50, 3) := by decide +kernel
theorem dX12_rubs_29 : decode cX12_rubs 29 = .ok (.iload 4, 2) := by decide +kernel
theorem dX12_rubs_31 : decode cX12_rubs 31 = .ok (.iconst (-1), 1) := by decide +kernel
theorem dX12_rubs_32 : decode cX12_rubs 32 = .ok (.if_icmp .eq 40, 3) := by decide +kernel
theorem dX12_rubs_35 : decode cX12_rubs 35 = .ok (.iload_n 3, 1) := by decide +kernel
theorem dX12_rubs_36 : decode cX12_rubs 36 = .ok (.iconst 3, 1) := by decide +kernel
theorem dX12_rubs_37 : decode cX12_rubs 37 = .ok (.if_icmp .eq 35, 3) := by decide +kernel
theorem dX12_rubs_40 : decode cX12_rubs 40 = .ok (.iload_n 3, 1) := by decide +kernel
theorem dX12_rubs_41 : decode cX12_rubs 41 = .ok (.iconst 2, 1) := by decide +kernel
theorem dX12_rubs_42 : decode cX12_rubs 42 = .ok (.if_icmp .ne 34, 3) := by decide +kernel
theorem dX12_rubs_45 : decode cX12_rubs 45 = .ok (.aload_n 0, 1) := by decide +kernel
theorem dX12_rubs_46 : decode cX12_rubs 46 = .ok (.getfield 52, 3) := by decide +kernel
theorem dX12_rubs_49 : decode cX12_rubs 49 = .ok (.bipush 6, 2) := by decide +kernel
theorem dX12_rubs_51 : decode cX12_rubs 51 = .ok (.iload_n 1, 1) := by decide +kernel
theorem dX12_rubs_52 : decode cX12_rubs 52 = .ok (.imul, 1) := by decide +kernel
theorem dX12_rubs_53 : decode cX12_rubs 53 = .ok (.iload 5, 2) := by decide +kernel
theorem dX12_rubs_55 : decode cX12_rubs 55 = .ok (.iadd, 1) := by decide +kernel
theorem dX12_rubs_56 : decode cX12_rubs 56 = .ok (.iaload, 1) := by decide +kernel
theorem dX12_rubs_57 : decode cX12_rubs 57 = .ok (.aload_n 0, 1) := by decide +kernel
theorem dX12_rubs_58 : decode cX12_rubs 58 = .ok (.getfield 52, 3) := by decide +kernel
theorem dX12_rubs_61 : decode cX12_rubs 61 = .ok (.bipush 6, 2) := by decide +kernel
theorem dX12_rubs_63 : decode cX12_rubs 63 = .ok (.iload_n 1, 1) := by decide +kernel
theorem dX12_rubs_64 : decode cX12_rubs 64 = .ok (.imul, 1) := by decide +kernel
theorem dX12_rubs_65 : decode cX12_rubs 65 = .ok (.iload 4, 2) := by decide +kernel
theorem dX12_rubs_67 : decode cX12_rubs 67 = .ok (.iadd, 1) := by decide +kernel
theorem dX12_rubs_68 : decode cX12_rubs 68 = .ok (.iaload, 1) := by decide +kernel
theorem dX12_rubs_69 : decode cX12_rubs 69 = .ok (.if_icmp .le 7, 3) := by decide +kernel
theorem dX12_rubs_72 : decode cX12_rubs 72 = .ok (.iload 5, 2) := by decide +kernel
theorem dX12_rubs_74 : decode cX12_rubs 74 = .ok (.istore 4, 2) := by decide +kernel
theorem dX12_rubs_76 : decode cX12_rubs 76 = .ok (.iinc 5 1, 3) := by decide +kernel
theorem dX12_rubs_79 : decode cX12_rubs 79 = .ok (.goto (-73), 3) := by decide +kernel
theorem dX12_rubs_82 : decode cX12_rubs 82 = .ok (.iload_n 3, 1) := by decide +kernel
theorem dX12_rubs_83 : decode cX12_rubs 83 = .ok (.ifCond .eq 9, 3) := by decide +kernel
theorem dX12_rubs_86 : decode cX12_rubs 86 = .ok (.iload 4, 2) := by decide +kernel
theorem dX12_rubs_88 : decode cX12_rubs 88 = .ok (.iconst (-1), 1) := by decide +kernel
theorem dX12_rubs_89 : decode cX12_rubs 89 = .ok (.if_icmp .ne 7, 3) := by decide +kernel
theorem dX12_rubs_92 : decode cX12_rubs 92 = .ok (.iload_n 2, 1) := by decide +kernel
theorem dX12_rubs_93 : decode cX12_rubs 93 = .ok (.goto 11, 3) := by decide +kernel
theorem dX12_rubs_96 : decode cX12_rubs 96 = .ok (.iload_n 2, 1) := by decide +kernel
theorem dX12_rubs_97 : decode cX12_rubs 97 = .ok (.iconst 1, 1) := by decide +kernel
theorem dX12_rubs_98 : decode cX12_rubs 98 = .ok (.iload 4, 2) := by decide +kernel
theorem dX12_rubs_100 : decode cX12_rubs 100 = .ok (.ishl, 1) := by decide +kernel
theorem dX12_rubs_101 : decode cX12_rubs 101 = .ok (.iconst (-1), 1) := by decide +kernel
theorem dX12_rubs_102 : decode cX12_rubs 102 = .ok (.ixor, 1) := by decide +kernel
theorem dX12_rubs_103 : decode cX12_rubs 103 = .ok (.iand, 1) := by decide +kernel
theorem dX12_rubs_104 : decode cX12_rubs 104 = .ok (.ireturn, 1) := by decide +kernel
theorem mokX12_rubs : MOK yX12_rubs cX12_rubs 6 (some .int) 3 := ⟨w8_173, w1_13, ⟨by decide, by decide⟩, by decide +kernel, by decide⟩
abbrev miX12_rubs : MI := (yX12_rubs.cls, cX12_rubs, 6, 2, false)
noncomputable def LX12_rubs_1 : Sm Int32 := dLoop (fun f => (sI (sI (sI (sI (sI (sR fr0 0 (gR f 0)) 1 (gI f 1)) 2 (gI f 2)) 3 (gI f 3)) 4 (gI f 4)) 5 (gI f 5))) (dCI r_lt (vI 5) (dAI (dGR 12 22 (vR 0)) (vI 1))) (dSeq (dIf (dNot (dCZ q_ne (dCall DX12_isBit (aI (aI aN 0 (vI 2)) 1 (vI 5))))) dCnt dSkip) (dIf (dOr (dOr (dCI r_eq (vI 4) (cI (-1))) (dCI r_eq (vI 3) (cI 3))) (dAnd (dCI r_eq (vI 3) (cI 2)) (dCI r_gt (dAI (dGR 12 23 (vR 0)) (d2 o_iadd (d2 o_imul (cI 6) (vI 1)) (vI 5))) (dAI (dGR 12 23 (vR 0)) (d2 o_iadd (d2 o_imul (cI 6) (vI 1)) (vI 4)))))) (dSetI 4 (vI 5)) dSkip)) (dInc 5 1)
theorem sLX12_rubs_1 {ΓL : Gm} {PB PK : List Nat} : SS (cvoI, .ireturn) miX12_rubs ΓL PB PK [(0, 2), (1, 0), (2, 0), (3, 0), (4, 0), (5, 0)] [(0, 2), (1, 0), (2, 0), (3, 0), (4, 0), (5, 0)] 6 [82] LX12_rubs_1 := t_loop (pT := 17) (pF := 82) (pu := 76) (PB' := []) (PK' := [76]) (XB := [76]) (XU := [79]) (fun _ _ => rfl) rfl (c_lt_F (pF := 82) (s_iload dX12_rubs_6 rfl) (s_dAI (s_getR ck12 22 (by decide) rfl (s_aload_n dX12_rubs_8 rfl rfl) dX12_rubs_9 w6_227) (s_iload_n dX12_rubs_12 rfl rfl) dX12_rubs_13) dX12_rubs_14 rfl) (t_sq (p1 := 29) (Γ' := [(0, 2), (1, 0), (2, 0), (3, 0), (4, 0), (5, 0)]) (t_if (pT := 26) (pF := 29) (X := [29]) (XA := []) (XB := [29]) (c_not (pT := 26) (pF := 29) (c_ne_ZJ (pT := 29) (s_of_xI (x_call (ts := [(0, 0), (1, 0)]) kX12_isBit mokX12_isBit w8_104 rfl rfl rfl (a_I (ts := [(0, 0)]) 1 (a_I (ts := []) 0 a_nil (s_iload_n dX12_rubs_17 rfl rfl) rfl) (s_iload dX12_rubs_18 rfl) rfl) dX12_rubs_20 w8_103)) dX12_rubs_23 rfl)) (t_cnt (ld_goto (y := 76) dX12_rubs_26 rfl (ld_in rfl)) rfl) (t_skip (ld_in rfl) rfl) lda_nil (lda_cons (ld_in rfl) lda_nil)) (t_if (pT := 72) (pF := 76) (X := [76]) (XA := [76]) (XB := [76]) (c_or (p1 := 40) (pT := 72) (pF := 76) (c_or (p1 := 35) (pT := 72) (pF := 40) (c_eq_J (pT := 72) (s_iload dX12_rubs_29 rfl) (s_iconst dX12_rubs_31 rfl) dX12_rubs_32 rfl) (c_eq_J (pT := 72) (s_iload_n dX12_rubs_35 rfl rfl) (s_iconst dX12_rubs_36 rfl) dX12_rubs_37 rfl)) (c_and (p1 := 45) (pT := 72) (pF := 76) (c_eq_F (pF := 76) (s_iload_n dX12_rubs_40 rfl rfl) (s_iconst dX12_rubs_41 rfl) dX12_rubs_42 rfl) (c_gt_F (pF := 76) (s_dAI (s_getR ck12 23 (by decide) rfl (s_aload_n dX12_rubs_45 rfl rfl) dX12_rubs_46 w6_228) (s_iadd (s_imul (s_bipush dX12_rubs_49 rfl) (s_iload_n dX12_rubs_51 rfl rfl) dX12_rubs_52) (s_iload dX12_rubs_53 rfl) dX12_rubs_55) dX12_rubs_56) (s_dAI (s_getR ck12 23 (by decide) rfl (s_aload_n dX12_rubs_57 rfl rfl) dX12_rubs_58 w6_228) (s_iadd (s_imul (s_bipush dX12_rubs_61 rfl) (s_iload_n dX12_rubs_63 rfl rfl) dX12_rubs_64) (s_iload dX12_rubs_65 rfl) dX12_rubs_67) dX12_rubs_68) dX12_rubs_69 rfl))) (t_istore (s_iload dX12_rubs_72 rfl) dX12_rubs_74 rfl rfl) (t_skip (ld_in rfl) rfl) (lda_cons (ld_in rfl) lda_nil) (lda_cons (ld_in rfl) lda_nil))) (t_iinc dX12_rubs_76 rfl rfl rfl rfl) (lda_cons (ld_in rfl) lda_nil) (lda_cons (ld_in rfl) lda_nil) (lda_cons (ld_goto (y := 6) dX12_rubs_79 rfl (ld_in rfl)) lda_nil) (ld_in rfl) lda_nil
noncomputable def BX12_rubs : Sm Int32 := (dSeq (dSetI 4 (cI (-1))) (dSeq (dSeq (dSetI 5 (cI 0)) LX12_rubs_1) (dRet (dT (dOr (dCZ q_eq (vI 3)) (dCI r_eq (vI 4) (cI (-1)))) (vI 2) (d2 o_iand (vI 2) (d2 o_ixor (d2 o_ishl (cI 1) (vI 4)) (cI (-1))))))))
theorem sBX12_rubs : SS (cvoI, .ireturn) miX12_rubs [] [] [] [(0, 2), (1, 0), (2, 0), (3, 0)] [(0, 2), (1, 0), (2, 0), (3, 0)] 0 [] BX12_rubs := (t_sq (p1 := 3) (Γ' := [(0, 2), (1, 0), (2, 0), (3, 0), (4, 0)]) (t_istore (s_iconst dX12_rubs_0 rfl) dX12_rubs_1 rfl rfl) (t_sq (p1 := 82) (Γ' := [(0, 2), (1, 0), (2, 0), (3, 0), (4, 0)]) (t_sq (p1 := 6) (Γ' := [(0, 2), (1, 0), (2, 0), (3, 0), (4, 0), (5, 0)]) (t_istore (s_iconst dX12_rubs_3 rfl) dX12_rubs_4 rfl rfl) (tn_to (Γ' := [(0, 2), (1, 0), (2, 0), (3, 0), (4, 0), (5, 0)]) (XA := [82]) sLX12_rubs_1 (lda_cons (ld_in rfl) lda_nil) rfl)) (t_ret (cv := cvI) (fun _ _ => rfl) (s_T (pT := 92) (pF := 96) (p1 := 93) (pe := 104) (c_or (p1 := 86) (pT := 92) (pF := 96) (c_eq_ZJ (pT := 92) (s_iload_n dX12_rubs_82 rfl rfl) dX12_rubs_83 rfl) (c_eq_F (pF := 96) (s_iload dX12_rubs_86 rfl) (s_iconst dX12_rubs_88 rfl) dX12_rubs_89 rfl)) (s_iload_n dX12_rubs_92 rfl rfl) (s_iand (s_iload_n dX12_rubs_96 rfl rfl) (s_ixor (s_ishl (s_iconst dX12_rubs_97 rfl) (s_iload dX12_rubs_98 rfl) dX12_rubs_100) (s_iconst dX12_rubs_101 rfl) dX12_rubs_102) dX12_rubs_103) (ld_goto (y := 104) dX12_rubs_93 rfl (ld_in rfl))) dX12_rubs_104)))
noncomputable def DX12_rubs : Fr → St → Option (Int32 × St) := M1 (fun f => (sI (sI (sI (sR fr0 0 (gR f 0)) 1 (gI f 1)) 2 (gI f 2)) 3 (gI f 3))) BX12_rubs
theorem kX12_rubs : SND yX12_rubs cX12_rubs 6 (some .int) 2 [(0, 2), (1, 0), (2, 0), (3, 0)] cvoI DX12_rubs := snd_I (nw := 4) (by decide) rfl rfl (fun _ _ => rfl) sBX12_rubs
theorem dX12_sizeOf_0 : decode cX12_sizeOf 0 = .ok (.iconst 0, 1) := by decide +kernel
theorem dX12_sizeOf_1 : decode cX12_sizeOf 1 = .ok (.istore_n 1, 1) := by decide +kernel
theorem dX12_sizeOf_2 : decode cX12_sizeOf 2 = .ok (.iload_n 0, 1) := by decide +kernel
theorem dX12_sizeOf_3 : decode cX12_sizeOf 3 = .ok (.istore_n 2, 1) := by decide +kernel
theorem dX12_sizeOf_4 : decode cX12_sizeOf 4 = .ok (.iload_n 2, 1) := by decide +kernel
theorem dX12_sizeOf_5 : decode cX12_sizeOf 5 = .ok (.ifCond .eq 15, 3) := by decide +kernel
theorem dX12_sizeOf_8 : decode cX12_sizeOf 8 = .ok (.iinc 1 1, 3) := by decide +kernel
theorem dX12_sizeOf_11 : decode cX12_sizeOf 11 = .ok (.iload_n 2, 1) := by decide +kernel
theorem dX12_sizeOf_12 : decode cX12_sizeOf 12 = .ok (.iload_n 2, 1) := by decide +kernel
theorem dX12_sizeOf_13 : decode cX12_sizeOf 13 = .ok (.iconst 1, 1) := by decide +kernel
theorem dX12_sizeOf_14 : decode cX12_sizeOf 14 = .ok (.isub, 1) := by decide +kernel
theorem dX12_sizeOf_15 : decode cX12_sizeOf 15 = .ok (.iand, 1) := by decide +kernel
theorem dX12_sizeOf_16 : decode cX12_sizeOf 16 = .ok (.istore_n 2, 1) := by decide +kernel
theorem dX12_sizeOf_17 : decode cX12_sizeOf 17 = .ok (.goto (-13), 3) := by decide +kernel
theorem dX12_sizeOf_20 : decode cX12_sizeOf 20 = .ok (.iload_n 1, 1) := by decide +kernel
theorem dX12_sizeOf_21 : decode cX12_sizeOf 21 = .ok (.ireturn, 1) := by decide +kernel
theorem mokX12_sizeOf : MOK yX12_sizeOf cX12_sizeOf 3 (some .int) 1 := ⟨w9_12, w1_13, ⟨by decide, by decide⟩, by decide +kernel, by decide⟩
abbrev miX12_sizeOf : MI := (yX12_sizeOf.cls, cX12_sizeOf, 3, 1, false)
noncomputable def LX12_sizeOf_1 : Sm Int32 := dLoop (fun f => (sI (sI (sI fr0 0 (gI f 0)) 1 (gI f 1)) 2 (gI f 2))) (dCZ q_ne (vI 2)) (dInc 1 1) (dSetI 2 (d2 o_iand (vI 2) (d2 o_isub (vI 2) (cI 1))))
theorem sLX12_sizeOf_1 {ΓL : Gm} {PB PK : List Nat} : SS (cvoI, .ireturn) miX12_sizeOf ΓL PB PK [(0, 0), (1, 0), (2, 0)] [(0, 0), (1, 0), (2, 0)] 4 [20] LX12_sizeOf_1 := t_loop (pT := 8) (pF := 20) (pu := 11) (PB' := []) (PK' := []) (XB := [11]) (XU := [17]) (fun _ _ => rfl) rfl (c_ne_ZF (pF := 20) (s_iload_n dX12_sizeOf_4 rfl rfl) dX12_sizeOf_5 rfl) (t_iinc dX12_sizeOf_8 rfl rfl rfl rfl) (t_istore_n (s_iand (s_iload_n dX12_sizeOf_11 rfl rfl) (s_isub (s_iload_n dX12_sizeOf_12 rfl rfl) (s_iconst dX12_sizeOf_13 rfl) dX12_sizeOf_14) dX12_sizeOf_15) dX12_sizeOf_16 rfl rfl rfl) (lda_cons (ld_in rfl) lda_nil) lda_nil (lda_cons (ld_goto (y := 4) dX12_sizeOf_17 rfl (ld_in rfl)) lda_nil) (ld_in rfl) lda_nil
noncomputable def BX12_sizeOf : Sm Int32 := (dSeq (dSetI 1 (cI 0)) (dSeq (dSeq (dSetI 2 (vI 0)) LX12_sizeOf_1) (dRet (vI 1))))
theorem sBX12_sizeOf : SS (cvoI, .ireturn) miX12_sizeOf [] [] [] [(0, 0)] [(0, 0)] 0 [] BX12_sizeOf := (t_sq (p1 := 2) (Γ' := [(0, 0), (1, 0)]) (t_istore_n (s_iconst dX12_sizeOf_0 rfl) dX12_sizeOf_1 rfl rfl rfl) (t_sq (p1 := 20) (Γ' := [(0, 0), (1, 0)]) (t_sq (p1 := 4) (Γ' := [(0, 0), (1, 0), (2, 0)]) (t_istore_n (s_iload_n dX12_sizeOf_2 rfl rfl) dX12_sizeOf_3 rfl rfl rfl) (tn_to (Γ' := [(0, 0), (1, 0), (2, 0)]) (XA := [20]) sLX12_sizeOf_1 (lda_cons (ld_in rfl) lda_nil) rfl)) (t_ret (cv := cvI) (fun _ _ => rfl) (s_iload_n dX12_sizeOf_20 rfl rfl) dX12_sizeOf_21)))
noncomputable def DX12_sizeOf : Fr → St → Option (Int32 × St) := M1 (fun f => (sI fr0 0 (gI f 0))) BX12_sizeOf
theorem kX12_sizeOf : SND yX12_sizeOf cX12_sizeOf 3 (some .int) 1 [(0, 0)] cvoI DX12_sizeOf := snd_I (nw := 1) (by decide) rfl rfl (fun _ _ => rfl) sBX12_sizeOf
theorem dX12_laysAlone_0 : decode cX12_laysAlone 0 = .ok (.aload_n 0, 1) := by decide +kernel
theorem dX12_laysAlone_1 : decode cX12_laysAlone 1 = .ok (.invokevirtual 360, 3) := by decide +kernel
theorem dX12_laysAlone_4 : decode cX12_laysAlone 4 = .ok (.aload_n 0, 1) := by decide +kernel
theorem dX12_laysAlone_5 : decode cX12_laysAlone 5 = .ok (.getfield 110, 3) := by decide +kernel
theorem dX12_laysAlone_8 : decode cX12_laysAlone 8 = .ok (.iconst 0, 1) := by decide +kernel
theorem dX12_laysAlone_9 : decode cX12_laysAlone 9 = .ok (.aload_n 0, 1) := by decide +kernel
theorem dX12_laysAlone_10 : decode cX12_laysAlone 10 = .ok (.getfield 68, 3) := by decide +kernel
theorem dX12_laysAlone_13 : decode cX12_laysAlone 13 = .ok (.iload_n 1, 1) := by decide +kernel
theorem dX12_laysAlone_14 : decode cX12_laysAlone 14 = .ok (.iaload, 1) := by decide +kernel
theorem dX12_laysAlone_15 : decode cX12_laysAlone 15 = .ok (.iastore, 1) := by decide +kernel
theorem dX12_laysAlone_16 : decode cX12_laysAlone 16 = .ok (.iconst 1, 1) := by decide +kernel
theorem dX12_laysAlone_17 : decode cX12_laysAlone 17 = .ok (.istore_n 3, 1) := by decide +kernel
theorem dX12_laysAlone_18 : decode cX12_laysAlone 18 = .ok (.iload_n 3, 1) := by decide +kernel
theorem dX12_laysAlone_19 : decode cX12_laysAlone 19 = .ok (.bipush 9, 2) := by decide +kernel
theorem dX12_laysAlone_21 : decode cX12_laysAlone 21 = .ok (.if_icmp .ge 32, 3) := by decide +kernel
theorem dX12_laysAlone_24 : decode cX12_laysAlone 24 = .ok (.aload_n 0, 1) := by decide +kernel
theorem dX12_laysAlone_25 : decode cX12_laysAlone 25 = .ok (.getfield 110, 3) := by decide +kernel
theorem dX12_laysAlone_28 : decode cX12_laysAlone 28 = .ok (.iload_n 3, 1) := by decide +kernel
theorem dX12_laysAlone_29 : decode cX12_laysAlone 29 = .ok (.aload_n 0, 1) := by decide +kernel
theorem dX12_laysAlone_30 : decode cX12_laysAlone 30 = .ok (.iload_n 1, 1) := by decide +kernel
theorem dX12_laysAlone_31 : decode cX12_laysAlone 31 = .ok (.aload_n 0, 1) := by decide +kernel
theorem dX12_laysAlone_32 : decode cX12_laysAlone 32 = .ok (.getfield 110, 3) := by decide +kernel
theorem dX12_laysAlone_35 : decode cX12_laysAlone 35 = .ok (.iload_n 3, 1) := by decide +kernel
theorem dX12_laysAlone_36 : decode cX12_laysAlone 36 = .ok (.iconst 1, 1) := by decide +kernel
theorem dX12_laysAlone_37 : decode cX12_laysAlone 37 = .ok (.isub, 1) := by decide +kernel
theorem dX12_laysAlone_38 : decode cX12_laysAlone 38 = .ok (.iaload, 1) := by decide +kernel
theorem dX12_laysAlone_39 : decode cX12_laysAlone 39 = .ok (.aload_n 0, 1) := by decide +kernel
theorem dX12_laysAlone_40 : decode cX12_laysAlone 40 = .ok (.getfield 310, 3) := by decide +kernel
theorem dX12_laysAlone_43 : decode cX12_laysAlone 43 = .ok (.invokevirtual 344, 3) := by decide +kernel
theorem dX12_laysAlone_46 : decode cX12_laysAlone 46 = .ok (.iastore, 1) := by decide +kernel
theorem dX12_laysAlone_47 : decode cX12_laysAlone 47 = .ok (.iinc 3 1, 3) := by decide +kernel
theorem dX12_laysAlone_50 : decode cX12_laysAlone 50 = .ok (.goto (-32), 3) := by decide +kernel
theorem dX12_laysAlone_53 : decode cX12_laysAlone 53 = .ok (.iconst 0, 1) := by decide +kernel
theorem dX12_laysAlone_54 : decode cX12_laysAlone 54 = .ok (.istore_n 3, 1) := by decide +kernel
theorem dX12_laysAlone_55 : decode cX12_laysAlone 55 = .ok (.iload_n 3, 1) := by decide +kernel
theorem dX12_laysAlone_56 : decode cX12_laysAlone 56 = .ok (.sipush 2048, 3) := by decide +kernel
theorem dX12_laysAlone_59 : decode cX12_laysAlone 59 = .ok (.if_icmp .ge 17, 3) := by decide +kernel
theorem dX12_laysAlone_62 : decode cX12_laysAlone 62 = .ok (.aload_n 0, 1) := by decide +kernel
theorem dX12_laysAlone_63 : decode cX12_laysAlone 63 = .ok (.getfield 113, 3) := by decide +kernel
theorem dX12_laysAlone_66 : decode cX12_laysAlone 66 = .ok (.iload_n 3, 1) := by decide +kernel
theorem dX12_laysAlone_67 : decode cX12_laysAlone 67 = .ok (.ldc 172, 2) := by decide +kernel
theorem dX12_laysAlone_69 : decode cX12_laysAlone 69 = .ok (.iastore, 1) := by decide +kernel
theorem dX12_laysAlone_70 : decode cX12_laysAlone 70 = .ok (.iinc 3 1, 3) := by decide +kernel
theorem dX12_laysAlone_73 : decode cX12_laysAlone 73 = .ok (.goto (-18), 3) := by decide +kernel
theorem dX12_laysAlone_76 : decode cX12_laysAlone 76 = .ok (.iconst 1, 1) := by decide +kernel
theorem dX12_laysAlone_77 : decode cX12_laysAlone 77 = .ok (.istore_n 3, 1) := by decide +kernel
theorem dX12_laysAlone_78 : decode cX12_laysAlone 78 = .ok (.aload_n 0, 1) := by decide +kernel
theorem dX12_laysAlone_79 : decode cX12_laysAlone 79 = .ok (.getfield 116, 3) := by decide +kernel
theorem dX12_laysAlone_82 : decode cX12_laysAlone 82 = .ok (.iconst 0, 1) := by decide +kernel
theorem dX12_laysAlone_83 : decode cX12_laysAlone 83 = .ok (.sipush 256, 3) := by decide +kernel
theorem dX12_laysAlone_86 : decode cX12_laysAlone 86 = .ok (.aload_n 0, 1) := by decide +kernel
theorem dX12_laysAlone_87 : decode cX12_laysAlone 87 = .ok (.getfield 65, 3) := by decide +kernel
theorem dX12_laysAlone_90 : decode cX12_laysAlone 90 = .ok (.iload_n 1, 1) := by decide +kernel
theorem dX12_laysAlone_91 : decode cX12_laysAlone 91 = .ok (.iaload, 1) := by decide +kernel
theorem dX12_laysAlone_92 : decode cX12_laysAlone 92 = .ok (.imul, 1) := by decide +kernel
theorem dX12_laysAlone_93 : decode cX12_laysAlone 93 = .ok (.iconst 1, 1) := by decide +kernel
theorem dX12_laysAlone_94 : decode cX12_laysAlone 94 = .ok (.aload_n 0, 1) := by decide +kernel
theorem dX12_laysAlone_95 : decode cX12_laysAlone 95 = .ok (.getfield 65, 3) := by decide +kernel
theorem dX12_laysAlone_98 : decode cX12_laysAlone 98 = .ok (.iload_n 1, 1) := by decide +kernel
theorem dX12_laysAlone_99 : decode cX12_laysAlone 99 = .ok (.iaload, 1) := by decide +kernel
theorem dX12_laysAlone_100 : decode cX12_laysAlone 100 = .ok (.ishl, 1) := by decide +kernel
theorem dX12_laysAlone_101 : decode cX12_laysAlone 101 = .ok (.iadd, 1) := by decide +kernel
theorem dX12_laysAlone_102 : decode cX12_laysAlone 102 = .ok (.iastore, 1) := by decide +kernel
theorem dX12_laysAlone_103 : decode cX12_laysAlone 103 = .ok (.aload_n 0, 1) := by decide +kernel
theorem dX12_laysAlone_104 : decode cX12_laysAlone 104 = .ok (.getfield 113, 3) := by decide +kernel
theorem dX12_laysAlone_107 : decode cX12_laysAlone 107 = .ok (.aload_n 0, 1) := by decide +kernel
theorem dX12_laysAlone_108 : decode cX12_laysAlone 108 = .ok (.getfield 116, 3) := by decide +kernel
theorem dX12_laysAlone_111 : decode cX12_laysAlone 111 = .ok (.iconst 0, 1) := by decide +kernel
theorem dX12_laysAlone_112 : decode cX12_laysAlone 112 = .ok (.iaload, 1) := by decide +kernel
theorem dX12_laysAlone_113 : decode cX12_laysAlone 113 = .ok (.iconst 0, 1) := by decide +kernel
theorem dX12_laysAlone_114 : decode cX12_laysAlone 114 = .ok (.iastore, 1) := by decide +kernel
theorem dX12_laysAlone_115 : decode cX12_laysAlone 115 = .ok (.iconst 0, 1) := by decide +kernel
theorem dX12_laysAlone_116 : decode cX12_laysAlone 116 = .ok (.istore 4, 2) := by decide +kernel
theorem dX12_laysAlone_118 : decode cX12_laysAlone 118 = .ok (.iload 4, 2) := by decide +kernel
theorem dX12_laysAlone_120 : decode cX12_laysAlone 120 = .ok (.iload_n 3, 1) := by decide +kernel
theorem dX12_laysAlone_121 : decode cX12_laysAlone 121 = .ok (.if_icmp .ge 160, 3) := by decide +kernel
theorem dX12_laysAlone_124 : decode cX12_laysAlone 124 = .ok (.aload_n 0, 1) := by decide +kernel
theorem dX12_laysAlone_125 : decode cX12_laysAlone 125 = .ok (.getfield 116, 3) := by decide +kernel
theorem dX12_laysAlone_128 : decode cX12_laysAlone 128 = .ok (.iload 4, 2) := by decide +kernel
theorem dX12_laysAlone_130 : decode cX12_laysAlone 130 = .ok (.iaload, 1) := by decide +kernel
theorem dX12_laysAlone_131 : decode cX12_laysAlone 131 = .ok (.sipush 256, 3) := by decide +kernel
theorem dX12_laysAlone_134 : decode cX12_laysAlone 134 = .ok (.idiv, 1) := by decide +kernel
theorem dX12_laysAlone_135 : decode cX12_laysAlone 135 = .ok (.istore 5, 2) := by decide +kernel
theorem dX12_laysAlone_137 : decode cX12_laysAlone 137 = .ok (.aload_n 0, 1) := by decide +kernel
theorem dX12_laysAlone_138 : decode cX12_laysAlone 138 = .ok (.getfield 116, 3) := by decide +kernel
theorem dX12_laysAlone_141 : decode cX12_laysAlone 141 = .ok (.iload 4, 2) := by decide +kernel
theorem dX12_laysAlone_143 : decode cX12_laysAlone 143 = .ok (.iaload, 1) := by decide +kernel
theorem dX12_laysAlone_144 : decode cX12_laysAlone 144 = .ok (.sipush 256, 3) := by decide +kernel
theorem dX12_laysAlone_147 : decode cX12_laysAlone 147 = .ok (.irem, 1) := by decide +kernel
theorem dX12_laysAlone_148 : decode cX12_laysAlone 148 = .ok (.istore 6, 2) := by decide +kernel
theorem dX12_laysAlone_150 : decode cX12_laysAlone 150 = .ok (.iconst 0, 1) := by decide +kernel
theorem dX12_laysAlone_151 : decode cX12_laysAlone 151 = .ok (.istore 7, 2) := by decide +kernel
theorem dX12_laysAlone_153 : decode cX12_laysAlone 153 = .ok (.iload 7, 2) := by decide +kernel
theorem dX12_laysAlone_155 : decode cX12_laysAlone 155 = .ok (.aload_n 0, 1) := by decide +kernel
theorem dX12_laysAlone_156 : decode cX12_laysAlone 156 = .ok (.invokevirtual 292, 3) := by decide +kernel
theorem dX12_laysAlone_159 : decode cX12_laysAlone 159 = .ok (.if_icmp .ge 116, 3) := by decide +kernel
theorem dX12_laysAlone_162 : decode cX12_laysAlone 162 = .ok (.aload_n 0, 1) := by decide +kernel
theorem dX12_laysAlone_163 : decode cX12_laysAlone 163 = .ok (.iload 5, 2) := by decide +kernel
theorem dX12_laysAlone_165 : decode cX12_laysAlone 165 = .ok (.iload 7, 2) := by decide +kernel
theorem dX12_laysAlone_167 : decode cX12_laysAlone 167 = .ok (.invokevirtual 335, 3) := by decide +kernel
theorem dX12_laysAlone_170 : decode cX12_laysAlone 170 = .ok (.ifCond .eq 99, 3) := by decide +kernel
theorem dX12_laysAlone_173 : decode cX12_laysAlone 173 = .ok (.aload_n 0, 1) := by decide +kernel
theorem dX12_laysAlone_174 : decode cX12_laysAlone 174 = .ok (.iload_n 1, 1) := by decide +kernel
theorem dX12_laysAlone_175 : decode cX12_laysAlone 175 = .ok (.aload_n 0, 1) := by decide +kernel
theorem dX12_laysAlone_176 : decode cX12_laysAlone 176 = .ok (.getfield 110, 3) := by decide +kernel
theorem dX12_laysAlone_179 : decode cX12_laysAlone 179 = .ok (.iload 6, 2) := by decide +kernel
theorem dX12_laysAlone_181 : decode cX12_laysAlone 181 = .ok (.invokestatic 394, 3) := by decide +kernel
theorem dX12_laysAlone_184 : decode cX12_laysAlone 184 = .ok (.iconst 1, 1) := by decide +kernel
theorem dX12_laysAlone_185 : decode cX12_laysAlone 185 = .ok (.isub, 1) := by decide +kernel
theorem dX12_laysAlone_186 : decode cX12_laysAlone 186 = .ok (.iaload, 1) := by decide +kernel
theorem dX12_laysAlone_187 : decode cX12_laysAlone 187 = .ok (.invokevirtual 338, 3) := by decide +kernel
theorem dX12_laysAlone_190 : decode cX12_laysAlone 190 = .ok (.aload_n 0, 1) := by decide +kernel
theorem dX12_laysAlone_191 : decode cX12_laysAlone 191 = .ok (.iload 5, 2) := by decide +kernel
theorem dX12_laysAlone_193 : decode cX12_laysAlone 193 = .ok (.iload 7, 2) := by decide +kernel
theorem dX12_laysAlone_195 : decode cX12_laysAlone 195 = .ok (.invokevirtual 341, 3) := by decide +kernel
theorem dX12_laysAlone_198 : decode cX12_laysAlone 198 = .ok (.iadd, 1) := by decide +kernel
theorem dX12_laysAlone_199 : decode cX12_laysAlone 199 = .ok (.iload_n 2, 1) := by decide +kernel
theorem dX12_laysAlone_200 : decode cX12_laysAlone 200 = .ok (.if_icmp .le 6, 3) := by decide +kernel
theorem dX12_laysAlone_203 : decode cX12_laysAlone 203 = .ok (.goto 66, 3) := by decide +kernel
theorem dX12_laysAlone_206 : decode cX12_laysAlone 206 = .ok (.sipush 256, 3) := by decide +kernel
theorem dX12_laysAlone_209 : decode cX12_laysAlone 209 = .ok (.iload 7, 2) := by decide +kernel
theorem dX12_laysAlone_211 : decode cX12_laysAlone 211 = .ok (.imul, 1) := by decide +kernel
theorem dX12_laysAlone_212 : decode cX12_laysAlone 212 = .ok (.iload 6, 2) := by decide +kernel
theorem dX12_laysAlone_214 : decode cX12_laysAlone 214 = .ok (.iconst 1, 1) := by decide +kernel
theorem dX12_laysAlone_215 : decode cX12_laysAlone 215 = .ok (.iload 7, 2) := by decide +kernel
theorem dX12_laysAlone_217 : decode cX12_laysAlone 217 = .ok (.ishl, 1) := by decide +kernel
theorem dX12_laysAlone_218 : decode cX12_laysAlone 218 = .ok (.ior, 1) := by decide +kernel
theorem dX12_laysAlone_219 : decode cX12_laysAlone 219 = .ok (.iadd, 1) := by decide +kernel
theorem dX12_laysAlone_220 : decode cX12_laysAlone 220 = .ok (.istore 8, 2) := by decide +kernel
theorem dX12_laysAlone_222 : decode cX12_laysAlone 222 = .ok (.aload_n 0, 1) := by decide +kernel
theorem dX12_laysAlone_223 : decode cX12_laysAlone 223 = .ok (.getfield 113, 3) := by decide +kernel
theorem dX12_laysAlone_226 : decode cX12_laysAlone 226 = .ok (.iload 8, 2) := by decide +kernel
theorem dX12_laysAlone_228 : decode cX12_laysAlone 228 = .ok (.iaload, 1) := by decide +kernel
theorem dX12_laysAlone_229 : decode cX12_laysAlone 229 = .ok (.ldc 172, 2) := by decide +kernel
theorem dX12_laysAlone_231 : decode cX12_laysAlone 231 = .ok (.if_icmp .ge 6, 3) := by decide +kernel
theorem dX12_laysAlone_234 : decode cX12_laysAlone 234 = .ok (.goto 35, 3) := by decide +kernel
theorem dX12_laysAlone_237 : decode cX12_laysAlone 237 = .ok (.aload_n 0, 1) := by decide +kernel
theorem dX12_laysAlone_238 : decode cX12_laysAlone 238 = .ok (.getfield 113, 3) := by decide +kernel
theorem dX12_laysAlone_241 : decode cX12_laysAlone 241 = .ok (.iload 8, 2) := by decide +kernel
theorem dX12_laysAlone_243 : decode cX12_laysAlone 243 = .ok (.aload_n 0, 1) := by decide +kernel
theorem dX12_laysAlone_244 : decode cX12_laysAlone 244 = .ok (.getfield 113, 3) := by decide +kernel
theorem dX12_laysAlone_247 : decode cX12_laysAlone 247 = .ok (.aload_n 0, 1) := by decide +kernel
theorem dX12_laysAlone_248 : decode cX12_laysAlone 248 = .ok (.getfield 116, 3) := by decide +kernel
theorem dX12_laysAlone_251 : decode cX12_laysAlone 251 = .ok (.iload 4, 2) := by decide +kernel
theorem dX12_laysAlone_253 : decode cX12_laysAlone 253 = .ok (.iaload, 1) := by decide +kernel
theorem dX12_laysAlone_254 : decode cX12_laysAlone 254 = .ok (.iaload, 1) := by decide +kernel
theorem dX12_laysAlone_255 : decode cX12_laysAlone 255 = .ok (.iconst 1, 1) := by decide +kernel
theorem dX12_laysAlone_256 : decode cX12_laysAlone 256 = .ok (.iadd, 1) := by decide +kernel
theorem dX12_laysAlone_257 : decode cX12_laysAlone 257 = .ok (.iastore, 1) := by decide +kernel
theorem dX12_laysAlone_258 : decode cX12_laysAlone 258 = .ok (.aload_n 0, 1) := by decide +kernel
theorem dX12_laysAlone_259 : decode cX12_laysAlone 259 = .ok (.getfield 116, 3) := by decide +kernel
theorem dX12_laysAlone_262 : decode cX12_laysAlone 262 = .ok (.iload_n 3, 1) := by decide +kernel
theorem dX12_laysAlone_263 : decode cX12_laysAlone 263 = .ok (.iload 8, 2) := by decide +kernel
theorem dX12_laysAlone_265 : decode cX12_laysAlone 265 = .ok (.iastore, 1) := by decide +kernel
theorem dX12_laysAlone_266 : decode cX12_laysAlone 266 = .ok (.iinc 3 1, 3) := by decide +kernel
theorem dX12_laysAlone_269 : decode cX12_laysAlone 269 = .ok (.iinc 7 1, 3) := by decide +kernel
theorem dX12_laysAlone_272 : decode cX12_laysAlone 272 = .ok (.goto (-119), 3) := by decide +kernel
theorem dX12_laysAlone_275 : decode cX12_laysAlone 275 = .ok (.iinc 4 1, 3) := by decide +kernel
theorem dX12_laysAlone_278 : decode cX12_laysAlone 278 = .ok (.goto (-160), 3) := by decide +kernel
theorem dX12_laysAlone_281 : decode cX12_laysAlone 281 = .ok (.return_, 1) := by decide +kernel
theorem mokX12_laysAlone : MOK yX12_laysAlone cX12_laysAlone 9 none 2 := ⟨w9_44, w1_13, ⟨by decide, by decide⟩, by decide +kernel, by decide⟩
abbrev miX12_laysAlone : MI := (yX12_laysAlone.cls, cX12_laysAlone, 9, 3, false)
noncomputable def LX12_laysAlone_1 : Sm Unit := dLoop (fun f => (sI (sI (sI (sR fr0 0 (gR f 0)) 1 (gI f 1)) 2 (gI f 2)) 3 (gI f 3))) (dCI r_lt (vI 3) (cI 9)) (d3 (stI 13 idI) (dGR 12 48 (vR 0)) (vI 3) (dCallV 12 DX12_rubs (aI (aI (aI (aR aN 0 (vR 0)) 1 (vI 1)) 2 (dAI (dGR 12 48 (vR 0)) (d2 o_isub (vI 3) (cI 1)))) 3 (dGI 12 27 (vR 0))))) (dInc 3 1)
theorem sLX12_laysAlone_1 {ΓL : Gm} {PB PK : List Nat} : SS (cvoV, .return_) miX12_laysAlone ΓL PB PK [(0, 2), (1, 0), (2, 0), (3, 0)] [(0, 2), (1, 0), (2, 0), (3, 0)] 18 [53] LX12_laysAlone_1 := t_loop (pT := 24) (pF := 53) (pu := 47) (PB' := []) (PK' := []) (XB := [47]) (XU := [50]) (fun _ _ => rfl) rfl (c_lt_F (pF := 53) (s_iload_n dX12_laysAlone_18 rfl rfl) (s_bipush dX12_laysAlone_19 rfl) dX12_laysAlone_21 rfl) (t_stI (s_getR ck12 48 (by decide) rfl (s_aload_n dX12_laysAlone_24 rfl rfl) dX12_laysAlone_25 w7_13) (s_iload_n dX12_laysAlone_28 rfl rfl) (s_of_xI (x_callV (ts := [(0, 2), (1, 0), (2, 0), (3, 0)]) ck12 rfl kX12_rubs mokX12_rubs w8_172 ps6_5 rfl rfl rfl rfl (a_I (ts := [(0, 2), (1, 0), (2, 0)]) 3 (a_I (ts := [(0, 2), (1, 0)]) 2 (a_I (ts := [(0, 2)]) 1 (a_R (ts := []) 0 a_nil (s_aload_n dX12_laysAlone_29 rfl rfl) rfl) (s_iload_n dX12_laysAlone_30 rfl rfl) rfl) (s_dAI (s_getR ck12 48 (by decide) rfl (s_aload_n dX12_laysAlone_31 rfl rfl) dX12_laysAlone_32 w7_13) (s_isub (s_iload_n dX12_laysAlone_35 rfl rfl) (s_iconst dX12_laysAlone_36 rfl) dX12_laysAlone_37) dX12_laysAlone_38) rfl) (s_getI ck12 27 (by decide) rfl (s_aload_n dX12_laysAlone_39 rfl rfl) dX12_laysAlone_40 w6_232) rfl) dX12_laysAlone_43 w8_170)) dX12_laysAlone_46 rfl) (t_iinc dX12_laysAlone_47 rfl rfl rfl rfl) (lda_cons (ld_in rfl) lda_nil) lda_nil (lda_cons (ld_goto (y := 18) dX12_laysAlone_50 rfl (ld_in rfl)) lda_nil) (ld_in rfl) lda_nil
noncomputable def LX12_laysAlone_2 : Sm Unit := dLoop (fun f => (sI (sI (sI (sR fr0 0 (gR f 0)) 1 (gI f 1)) 2 (gI f 2)) 3 (gI f 3))) (dCI r_lt (vI 3) (cI 2048)) (d3 (stI 13 idI) (dGR 12 49 (vR 0)) (vI 3) (cI 100000)) (dInc 3 1)
theorem sLX12_laysAlone_2 {ΓL : Gm} {PB PK : List Nat} : SS (cvoV, .return_) miX12_laysAlone ΓL PB PK [(0, 2), (1, 0), (2, 0), (3, 0)] [(0, 2), (1, 0), (2, 0), (3, 0)] 55 [76] LX12_laysAlone_2 := t_loop (pT := 62) (pF := 76) (pu := 70) (PB' := []) (PK' := []) (XB := [70]) (XU := [73]) (fun _ _ => rfl) rfl (c_lt_F (pF := 76) (s_iload_n dX12_laysAlone_55 rfl rfl) (s_sipush dX12_laysAlone_56 rfl) dX12_laysAlone_59 rfl) (t_stI (s_getR ck12 49 (by decide) rfl (s_aload_n dX12_laysAlone_62 rfl rfl) dX12_laysAlone_63 w7_14) (s_iload_n dX12_laysAlone_66 rfl rfl) (s_ldc dX12_laysAlone_67 w7_197) dX12_laysAlone_69 rfl) (t_iinc dX12_laysAlone_70 rfl rfl rfl rfl) (lda_cons (ld_in rfl) lda_nil) lda_nil (lda_cons (ld_goto (y := 55) dX12_laysAlone_73 rfl (ld_in rfl)) lda_nil) (ld_in rfl) lda_nil
noncomputable def LX12_laysAlone_3 : Sm Unit := dLoop (fun f => (sI (sI (sI (sI (sI (sI (sI (sR fr0 0 (gR f 0)) 1 (gI f 1)) 2 (gI f 2)) 3 (gI f 3)) 4 (gI f 4)) 5 (gI f 5)) 6 (gI f 6)) 7 (gI f 7))) (dCI r_lt (vI 7) (dCallV 12 DX12_houses (aR aN 0 (vR 0)))) (dSeq (dIf (dOr (dNot (dCZ q_ne (dCallV 12 DX12_isWay (aI (aI (aR aN 0 (vR 0)) 1 (vI 5)) 2 (vI 7))))) (dCI r_gt (d2 o_iadd (dCallV 12 DX12_heavyOf (aI (aI (aR aN 0 (vR 0)) 1 (vI 1)) 2 (dAI (dGR 12 48 (vR 0)) (d2 o_isub (dCall DX12_sizeOf (aI aN 0 (vI 6))) (cI 1))))) (dCallV 12 DX12_climbOf (aI (aI (aR aN 0 (vR 0)) 1 (vI 5)) 2 (vI 7)))) (vI 2))) dCnt dSkip) (dSeq (dSetI 8 (d2 o_iadd (d2 o_imul (cI 256) (vI 7)) (d2 o_ior (vI 6) (d2 o_ishl (cI 1) (vI 7))))) (dSeq (dIf (dCI r_lt (dAI (dGR 12 49 (vR 0)) (vI 8)) (cI 100000)) dCnt dSkip) (dSeq (d3 (stI 13 idI) (dGR 12 49 (vR 0)) (vI 8) (d2 o_iadd (dAI (dGR 12 49 (vR 0)) (dAI (dGR 12 50 (vR 0)) (vI 4))) (cI 1))) (dSeq (d3 (stI 13 idI) (dGR 12 50 (vR 0)) (vI 3) (vI 8)) (dInc 3 1)))))) (dInc 7 1)
theorem sLX12_laysAlone_3 {ΓL : Gm} {PB PK : List Nat} : SS (cvoV, .return_) miX12_laysAlone ΓL PB PK [(0, 2), (1, 0), (2, 0), (3, 0), (4, 0), (5, 0), (6, 0), (7, 0)] [(0, 2), (1, 0), (2, 0), (3, 0), (4, 0), (5, 0), (6, 0), (7, 0)] 153 [275] LX12_laysAlone_3 := t_loop (pT := 162) (pF := 275) (pu := 269) (PB' := []) (PK' := [269]) (XB := [269]) (XU := [272]) (fun _ _ => rfl) rfl (c_lt_F (pF := 275) (s_iload dX12_laysAlone_153 rfl) (s_of_xI (x_callV (ts := [(0, 2)]) ck12 rfl kX12_houses mokX12_houses w8_62 ps5_1 rfl rfl rfl rfl (a_R (ts := []) 0 a_nil (s_aload_n dX12_laysAlone_155 rfl rfl) rfl) dX12_laysAlone_156 w8_60)) dX12_laysAlone_159 rfl) (t_sq (p1 := 206) (Γ' := [(0, 2), (1, 0), (2, 0), (3, 0), (4, 0), (5, 0), (6, 0), (7, 0)]) (t_if (pT := 269) (pF := 206) (X := [206]) (XA := []) (XB := [206]) (c_or (p1 := 173) (pT := 269) (pF := 206) (c_not (pT := 269) (pF := 173) (c_ne_ZF (pF := 269) (s_of_xI (x_callV (ts := [(0, 2), (1, 0), (2, 0)]) ck12 rfl kX12_isWay mokX12_isWay w8_101 ps5_7 rfl rfl rfl rfl (a_I (ts := [(0, 2), (1, 0)]) 2 (a_I (ts := [(0, 2)]) 1 (a_R (ts := []) 0 a_nil (s_aload_n dX12_laysAlone_162 rfl rfl) rfl) (s_iload dX12_laysAlone_163 rfl) rfl) (s_iload dX12_laysAlone_165 rfl) rfl) dX12_laysAlone_167 w8_99)) dX12_laysAlone_170 rfl)) (c_ldT (p1 := 203) (c_gt_F (pF := 206) (s_iadd (s_of_xI (x_callV (ts := [(0, 2), (1, 0), (2, 0)]) ck12 rfl kX12_heavyOf mokX12_heavyOf w8_164 ps6_3 rfl rfl rfl rfl (a_I (ts := [(0, 2), (1, 0)]) 2 (a_I (ts := [(0, 2)]) 1 (a_R (ts := []) 0 a_nil (s_aload_n dX12_laysAlone_173 rfl rfl) rfl) (s_iload_n dX12_laysAlone_174 rfl rfl) rfl) (s_dAI (s_getR ck12 48 (by decide) rfl (s_aload_n dX12_laysAlone_175 rfl rfl) dX12_laysAlone_176 w7_13) (s_isub (s_of_xI (x_call (ts := [(0, 0)]) kX12_sizeOf mokX12_sizeOf w9_11 rfl rfl rfl (a_I (ts := []) 0 a_nil (s_iload dX12_laysAlone_179 rfl) rfl) dX12_laysAlone_181 w9_10)) (s_iconst dX12_laysAlone_184 rfl) dX12_laysAlone_185) dX12_laysAlone_186) rfl) dX12_laysAlone_187 w8_162)) (s_of_xI (x_callV (ts := [(0, 2), (1, 0), (2, 0)]) ck12 rfl kX12_climbOf mokX12_climbOf w8_116 ps5_9 rfl rfl rfl rfl (a_I (ts := [(0, 2), (1, 0)]) 2 (a_I (ts := [(0, 2)]) 1 (a_R (ts := []) 0 a_nil (s_aload_n dX12_laysAlone_190 rfl rfl) rfl) (s_iload dX12_laysAlone_191 rfl) rfl) (s_iload dX12_laysAlone_193 rfl) rfl) dX12_laysAlone_195 w8_114)) dX12_laysAlone_198) (s_iload_n dX12_laysAlone_199 rfl rfl) dX12_laysAlone_200 rfl) (ld_goto (y := 269) dX12_laysAlone_203 rfl (ld_in rfl)))) (t_cnt (ld_in rfl) rfl) (t_skip (ld_in rfl) rfl) lda_nil (lda_cons (ld_in rfl) lda_nil)) (t_sq (p1 := 222) (Γ' := [(0, 2), (1, 0), (2, 0), (3, 0), (4, 0), (5, 0), (6, 0), (7, 0), (8, 0)]) (t_istore (s_iadd (s_imul (s_sipush dX12_laysAlone_206 rfl) (s_iload dX12_laysAlone_209 rfl) dX12_laysAlone_211) (s_ior (s_iload dX12_laysAlone_212 rfl) (s_ishl (s_iconst dX12_laysAlone_214 rfl) (s_iload dX12_laysAlone_215 rfl) dX12_laysAlone_217) dX12_laysAlone_218) dX12_laysAlone_219) dX12_laysAlone_220 rfl rfl) (t_sq (p1 := 237) (Γ' := [(0, 2), (1, 0), (2, 0), (3, 0), (4, 0), (5, 0), (6, 0), (7, 0), (8, 0)]) (t_if (pT := 234) (pF := 237) (X := [237]) (XA := []) (XB := [237]) (c_lt_F (pF := 237) (s_dAI (s_getR ck12 49 (by decide) rfl (s_aload_n dX12_laysAlone_222 rfl rfl) dX12_laysAlone_223 w7_14) (s_iload dX12_laysAlone_226 rfl) dX12_laysAlone_228) (s_ldc dX12_laysAlone_229 w7_197) dX12_laysAlone_231 rfl) (t_cnt (ld_goto (y := 269) dX12_laysAlone_234 rfl (ld_in rfl)) rfl) (t_skip (ld_in rfl) rfl) lda_nil (lda_cons (ld_in rfl) lda_nil)) (t_sq (p1 := 258) (Γ' := [(0, 2), (1, 0), (2, 0), (3, 0), (4, 0), (5, 0), (6, 0), (7, 0), (8, 0)]) (t_stI (s_getR ck12 49 (by decide) rfl (s_aload_n dX12_laysAlone_237 rfl rfl) dX12_laysAlone_238 w7_14) (s_iload dX12_laysAlone_241 rfl) (s_iadd (s_dAI (s_getR ck12 49 (by decide) rfl (s_aload_n dX12_laysAlone_243 rfl rfl) dX12_laysAlone_244 w7_14) (s_dAI (s_getR ck12 50 (by decide) rfl (s_aload_n dX12_laysAlone_247 rfl rfl) dX12_laysAlone_248 w7_15) (s_iload dX12_laysAlone_251 rfl) dX12_laysAlone_253) dX12_laysAlone_254) (s_iconst dX12_laysAlone_255 rfl) dX12_laysAlone_256) dX12_laysAlone_257 rfl) (t_sq (p1 := 266) (Γ' := [(0, 2), (1, 0), (2, 0), (3, 0), (4, 0), (5, 0), (6, 0), (7, 0), (8, 0)]) (t_stI (s_getR ck12 50 (by decide) rfl (s_aload_n dX12_laysAlone_258 rfl rfl) dX12_laysAlone_259 w7_15) (s_iload_n dX12_laysAlone_262 rfl rfl) (s_iload dX12_laysAlone_263 rfl) dX12_laysAlone_265 rfl) (t_iinc dX12_laysAlone_266 rfl rfl rfl rfl)))))) (t_iinc dX12_laysAlone_269 rfl rfl rfl rfl) (lda_cons (ld_in rfl) lda_nil) (lda_cons (ld_in rfl) lda_nil) (lda_cons (ld_goto (y := 153) dX12_laysAlone_272 rfl (ld_in rfl)) lda_nil) (ld_in rfl) lda_nil
noncomputable def LX12_laysAlone_4 : Sm Unit := dLoop (fun f => (sI (sI (sI (sI (sR fr0 0 (gR f 0)) 1 (gI f 1)) 2 (gI f 2)) 3 (gI f 3)) 4 (gI f 4))) (dCI r_lt (vI 4) (vI 3)) (dSeq (dSetI 5 (d2z o_idiv (dAI (dGR 12 50 (vR 0)) (vI 4)) (cI 256))) (dSeq (dSetI 6 (d2z o_irem (dAI (dGR 12 50 (vR 0)) (vI 4)) (cI 256))) (dSeq (dSetI 7 (cI 0)) LX12_laysAlone_3))) (dInc 4 1)
theorem sLX12_laysAlone_4 {ΓL : Gm} {PB PK : List Nat} : SS (cvoV, .return_) miX12_laysAlone ΓL PB PK [(0, 2), (1, 0), (2, 0), (3, 0), (4, 0)] [(0, 2), (1, 0), (2, 0), (3, 0), (4, 0)] 118 [281] LX12_laysAlone_4 := t_loop (pT := 124) (pF := 281) (pu := 275) (PB' := []) (PK' := []) (XB := [275]) (XU := [278]) (fun _ _ => rfl) rfl (c_lt_F (pF := 281) (s_iload dX12_laysAlone_118 rfl) (s_iload_n dX12_laysAlone_120 rfl rfl) dX12_laysAlone_121 rfl) (t_sq (p1 := 137) (Γ' := [(0, 2), (1, 0), (2, 0), (3, 0), (4, 0), (5, 0)]) (t_istore (s_idiv (s_dAI (s_getR ck12 50 (by decide) rfl (s_aload_n dX12_laysAlone_124 rfl rfl) dX12_laysAlone_125 w7_15) (s_iload dX12_laysAlone_128 rfl) dX12_laysAlone_130) (s_sipush dX12_laysAlone_131 rfl) dX12_laysAlone_134) dX12_laysAlone_135 rfl rfl) (t_sq (p1 := 150) (Γ' := [(0, 2), (1, 0), (2, 0), (3, 0), (4, 0), (5, 0), (6, 0)]) (t_istore (s_irem (s_dAI (s_getR ck12 50 (by decide) rfl (s_aload_n dX12_laysAlone_137 rfl rfl) dX12_laysAlone_138 w7_15) (s_iload dX12_laysAlone_141 rfl) dX12_laysAlone_143) (s_sipush dX12_laysAlone_144 rfl) dX12_laysAlone_147) dX12_laysAlone_148 rfl rfl) (t_sq (p1 := 153) (Γ' := [(0, 2), (1, 0), (2, 0), (3, 0), (4, 0), (5, 0), (6, 0), (7, 0)]) (t_istore (s_iconst dX12_laysAlone_150 rfl) dX12_laysAlone_151 rfl rfl) (tn_to (Γ' := [(0, 2), (1, 0), (2, 0), (3, 0), (4, 0), (5, 0), (6, 0), (7, 0)]) (XA := [275]) sLX12_laysAlone_3 (lda_cons (ld_in rfl) lda_nil) rfl)))) (t_iinc dX12_laysAlone_275 rfl rfl rfl rfl) (lda_cons (ld_in rfl) lda_nil) lda_nil (lda_cons (ld_goto (y := 118) dX12_laysAlone_278 rfl (ld_in rfl)) lda_nil) (ld_in rfl) lda_nil
noncomputable def BX12_laysAlone : Sm Unit := (dSeq (dDo (dCallV 12 DX12_lays (aR aN 0 (vR 0)))) (dSeq (d3 (stI 13 idI) (dGR 12 48 (vR 0)) (cI 0) (dAI (dGR 12 32 (vR 0)) (vI 1))) (dSeq (dSeq (dSetI 3 (cI 1)) LX12_laysAlone_1) (dSeq (dSeq (dSetI 3 (cI 0)) LX12_laysAlone_2) (dSeq (dSetI 3 (cI 1)) (dSeq (d3 (stI 13 idI) (dGR 12 50 (vR 0)) (cI 0) (d2 o_iadd (d2 o_imul (cI 256) (dAI (dGR 12 31 (vR 0)) (vI 1))) (d2 o_ishl (cI 1) (dAI (dGR 12 31 (vR 0)) (vI 1))))) (dSeq (d3 (stI 13 idI) (dGR 12 49 (vR 0)) (dAI (dGR 12 50 (vR 0)) (cI 0)) (cI 0)) (dSeq (dSeq (dSetI 4 (cI 0)) LX12_laysAlone_4) dRet0))))))))
theorem sBX12_laysAlone : SS (cvoV, .return_) miX12_laysAlone [] [] [] [(0, 2), (1, 0), (2, 0)] [(0, 2), (1, 0), (2, 0)] 0 [] BX12_laysAlone := (t_sq (p1 := 4) (Γ' := [(0, 2), (1, 0), (2, 0)]) (t_do (x_callV (ts := [(0, 2)]) ck12 rfl kX12_lays mokX12_lays w8_97 ps5_6 rfl rfl rfl rfl (a_R (ts := []) 0 a_nil (s_aload_n dX12_laysAlone_0 rfl rfl) rfl) dX12_laysAlone_1 w8_95) rfl) (t_sq (p1 := 16) (Γ' := [(0, 2), (1, 0), (2, 0)]) (t_stI (s_getR ck12 48 (by decide) rfl (s_aload_n dX12_laysAlone_4 rfl rfl) dX12_laysAlone_5 w7_13) (s_iconst dX12_laysAlone_8 rfl) (s_dAI (s_getR ck12 32 (by decide) rfl (s_aload_n dX12_laysAlone_9 rfl rfl) dX12_laysAlone_10 w6_237) (s_iload_n dX12_laysAlone_13 rfl rfl) dX12_laysAlone_14) dX12_laysAlone_15 rfl) (t_sq (p1 := 53) (Γ' := [(0, 2), (1, 0), (2, 0)]) (t_sq (p1 := 18) (Γ' := [(0, 2), (1, 0), (2, 0), (3, 0)]) (t_istore_n (s_iconst dX12_laysAlone_16 rfl) dX12_laysAlone_17 rfl rfl rfl) (tn_to (Γ' := [(0, 2), (1, 0), (2, 0), (3, 0)]) (XA := [53]) sLX12_laysAlone_1 (lda_cons (ld_in rfl) lda_nil) rfl)) (t_sq (p1 := 76) (Γ' := [(0, 2), (1, 0), (2, 0)]) (t_sq (p1 := 55) (Γ' := [(0, 2), (1, 0), (2, 0), (3, 0)]) (t_istore_n (s_iconst dX12_laysAlone_53 rfl) dX12_laysAlone_54 rfl rfl rfl) (tn_to (Γ' := [(0, 2), (1, 0), (2, 0), (3, 0)]) (XA := [76]) sLX12_laysAlone_2 (lda_cons (ld_in rfl) lda_nil) rfl)) (t_sq (p1 := 78) (Γ' := [(0, 2), (1, 0), (2, 0), (3, 0)]) (t_istore_n (s_iconst dX12_laysAlone_76 rfl) dX12_laysAlone_77 rfl rfl rfl) (t_sq (p1 := 103) (Γ' := [(0, 2), (1, 0), (2, 0), (3, 0)]) (t_stI (s_getR ck12 50 (by decide) rfl (s_aload_n dX12_laysAlone_78 rfl rfl) dX12_laysAlone_79 w7_15) (s_iconst dX12_laysAlone_82 rfl) (s_iadd (s_imul (s_sipush dX12_laysAlone_83 rfl) (s_dAI (s_getR ck12 31 (by decide) rfl (s_aload_n dX12_laysAlone_86 rfl rfl) dX12_laysAlone_87 w6_236) (s_iload_n dX12_laysAlone_90 rfl rfl) dX12_laysAlone_91) dX12_laysAlone_92) (s_ishl (s_iconst dX12_laysAlone_93 rfl) (s_dAI (s_getR ck12 31 (by decide) rfl (s_aload_n dX12_laysAlone_94 rfl rfl) dX12_laysAlone_95 w6_236) (s_iload_n dX12_laysAlone_98 rfl rfl) dX12_laysAlone_99) dX12_laysAlone_100) dX12_laysAlone_101) dX12_laysAlone_102 rfl) (t_sq (p1 := 115) (Γ' := [(0, 2), (1, 0), (2, 0), (3, 0)]) (t_stI (s_getR ck12 49 (by decide) rfl (s_aload_n dX12_laysAlone_103 rfl rfl) dX12_laysAlone_104 w7_14) (s_dAI (s_getR ck12 50 (by decide) rfl (s_aload_n dX12_laysAlone_107 rfl rfl) dX12_laysAlone_108 w7_15) (s_iconst dX12_laysAlone_111 rfl) dX12_laysAlone_112) (s_iconst dX12_laysAlone_113 rfl) dX12_laysAlone_114 rfl) (t_sq (p1 := 281) (Γ' := [(0, 2), (1, 0), (2, 0), (3, 0)]) (t_sq (p1 := 118) (Γ' := [(0, 2), (1, 0), (2, 0), (3, 0), (4, 0)]) (t_istore (s_iconst dX12_laysAlone_115 rfl) dX12_laysAlone_116 rfl rfl) (tn_to (Γ' := [(0, 2), (1, 0), (2, 0), (3, 0), (4, 0)]) (XA := [281]) sLX12_laysAlone_4 (lda_cons (ld_in rfl) lda_nil) rfl)) (t_ret0 (fun _ _ => rfl) dX12_laysAlone_281)))))))))
noncomputable def DX12_laysAlone : Fr → St → Option (Unit × St) := M1 (fun f => (sI (sI (sR fr0 0 (gR f 0)) 1 (gI f 1)) 2 (gI f 2))) BX12_laysAlone
theorem kX12_laysAlone : SND yX12_laysAlone cX12_laysAlone 9 none 3 [(0, 2), (1, 0), (2, 0)] cvoV DX12_laysAlone := snd_V (nw := 3) (by decide) (fun z => by cases z) rfl rfl (fun _ _ => rfl) sBX12_laysAlone
theorem dX12_strongOf_0 : decode cX12_strongOf 0 = .ok (.iconst 0, 1) := by decide +kernel
theorem dX12_strongOf_1 : decode cX12_strongOf 1 = .ok (.istore_n 2, 1) := by decide +kernel
theorem dX12_strongOf_2 : decode cX12_strongOf 2 = .ok (.iconst 0, 1) := by decide +kernel
theorem dX12_strongOf_3 : decode cX12_strongOf 3 = .ok (.istore_n 3, 1) := by decide +kernel
theorem dX12_strongOf_4 : decode cX12_strongOf 4 = .ok (.iload_n 3, 1) := by decide +kernel
theorem dX12_strongOf_5 : decode cX12_strongOf 5 = .ok (.aload_n 0, 1) := by decide +kernel
theorem dX12_strongOf_6 : decode cX12_strongOf 6 = .ok (.invokevirtual 295, 3) := by decide +kernel
theorem dX12_strongOf_9 : decode cX12_strongOf 9 = .ok (.if_icmp .ge 34, 3) := by decide +kernel
theorem dX12_strongOf_12 : decode cX12_strongOf 12 = .ok (.iload_n 2, 1) := by decide +kernel
theorem dX12_strongOf_13 : decode cX12_strongOf 13 = .ok (.iload_n 1, 1) := by decide +kernel
theorem dX12_strongOf_14 : decode cX12_strongOf 14 = .ok (.iload_n 3, 1) := by decide +kernel
theorem dX12_strongOf_15 : decode cX12_strongOf 15 = .ok (.invokestatic 322, 3) := by decide +kernel
theorem dX12_strongOf_18 : decode cX12_strongOf 18 = .ok (.ifCond .eq 16, 3) := by decide +kernel
theorem dX12_strongOf_21 : decode cX12_strongOf 21 = .ok (.aload_n 0, 1) := by decide +kernel
theorem dX12_strongOf_22 : decode cX12_strongOf 22 = .ok (.getfield 43, 3) := by decide +kernel
theorem dX12_strongOf_25 : decode cX12_strongOf 25 = .ok (.iconst 2, 1) := by decide +kernel
theorem dX12_strongOf_26 : decode cX12_strongOf 26 = .ok (.iload_n 3, 1) := by decide +kernel
theorem dX12_strongOf_27 : decode cX12_strongOf 27 = .ok (.imul, 1) := by decide +kernel
theorem dX12_strongOf_28 : decode cX12_strongOf 28 = .ok (.iconst 1, 1) := by decide +kernel
theorem dX12_strongOf_29 : decode cX12_strongOf 29 = .ok (.iadd, 1) := by decide +kernel
theorem dX12_strongOf_30 : decode cX12_strongOf 30 = .ok (.iaload, 1) := by decide +kernel
theorem dX12_strongOf_31 : decode cX12_strongOf 31 = .ok (.goto 4, 3) := by decide +kernel
theorem dX12_strongOf_34 : decode cX12_strongOf 34 = .ok (.iconst 0, 1) := by decide +kernel
theorem dX12_strongOf_35 : decode cX12_strongOf 35 = .ok (.iadd, 1) := by decide +kernel
theorem dX12_strongOf_36 : decode cX12_strongOf 36 = .ok (.istore_n 2, 1) := by decide +kernel
theorem dX12_strongOf_37 : decode cX12_strongOf 37 = .ok (.iinc 3 1, 3) := by decide +kernel
theorem dX12_strongOf_40 : decode cX12_strongOf 40 = .ok (.goto (-36), 3) := by decide +kernel
theorem dX12_strongOf_43 : decode cX12_strongOf 43 = .ok (.iload_n 2, 1) := by decide +kernel
theorem dX12_strongOf_44 : decode cX12_strongOf 44 = .ok (.ireturn, 1) := by decide +kernel
theorem mokX12_strongOf : MOK yX12_strongOf cX12_strongOf 4 (some .int) 1 := ⟨w9_40, w1_13, ⟨by decide, by decide⟩, by decide +kernel, by decide⟩
abbrev miX12_strongOf : MI := (yX12_strongOf.cls, cX12_strongOf, 4, 2, false)
noncomputable def LX12_strongOf_1 : Sm Int32 := dLoop (fun f => (sI (sI (sI (sR fr0 0 (gR f 0)) 1 (gI f 1)) 2 (gI f 2)) 3 (gI f 3))) (dCI r_lt (vI 3) (dCallV 12 DX12_carriers (aR aN 0 (vR 0)))) (dSetI 2 (d2 o_iadd (vI 2) (dT (dCZ q_ne (dCall DX12_isBit (aI (aI aN 0 (vI 1)) 1 (vI 3)))) (dAI (dGR 12 20 (vR 0)) (d2 o_iadd (d2 o_imul (cI 2) (vI 3)) (cI 1))) (cI 0)))) (dInc 3 1)
theorem sLX12_strongOf_1 {ΓL : Gm} {PB PK : List Nat} : SS (cvoI, .ireturn) miX12_strongOf ΓL PB PK [(0, 2), (1, 0), (2, 0), (3, 0)] [(0, 2), (1, 0), (2, 0), (3, 0)] 4 [43] LX12_strongOf_1 := t_loop (pT := 12) (pF := 43) (pu := 37) (PB' := []) (PK' := []) (XB := [37]) (XU := [40]) (fun _ _ => rfl) rfl (c_lt_F (pF := 43) (s_iload_n dX12_strongOf_4 rfl rfl) (s_of_xI (x_callV (ts := [(0, 2)]) ck12 rfl kX12_carriers mokX12_carriers w8_74 ps5_3 rfl rfl rfl rfl (a_R (ts := []) 0 a_nil (s_aload_n dX12_strongOf_5 rfl rfl) rfl) dX12_strongOf_6 w8_72)) dX12_strongOf_9 rfl) (t_istore_n (s_iadd (s_iload_n dX12_strongOf_12 rfl rfl) (s_T (pT := 21) (pF := 34) (p1 := 31) (pe := 35) (c_ne_ZF (pF := 34) (s_of_xI (x_call (ts := [(0, 0), (1, 0)]) kX12_isBit mokX12_isBit w8_104 rfl rfl rfl (a_I (ts := [(0, 0)]) 1 (a_I (ts := []) 0 a_nil (s_iload_n dX12_strongOf_13 rfl rfl) rfl) (s_iload_n dX12_strongOf_14 rfl rfl) rfl) dX12_strongOf_15 w8_103)) dX12_strongOf_18 rfl) (s_dAI (s_getR ck12 20 (by decide) rfl (s_aload_n dX12_strongOf_21 rfl rfl) dX12_strongOf_22 w6_225) (s_iadd (s_imul (s_iconst dX12_strongOf_25 rfl) (s_iload_n dX12_strongOf_26 rfl rfl) dX12_strongOf_27) (s_iconst dX12_strongOf_28 rfl) dX12_strongOf_29) dX12_strongOf_30) (s_iconst dX12_strongOf_34 rfl) (ld_goto (y := 35) dX12_strongOf_31 rfl (ld_in rfl))) dX12_strongOf_35) dX12_strongOf_36 rfl rfl rfl) (t_iinc dX12_strongOf_37 rfl rfl rfl rfl) (lda_cons (ld_in rfl) lda_nil) lda_nil (lda_cons (ld_goto (y := 4) dX12_strongOf_40 rfl (ld_in rfl)) lda_nil) (ld_in rfl) lda_nil
noncomputable def BX12_strongOf : Sm Int32 := (dSeq (dSetI 2 (cI 0)) (dSeq (dSeq (dSetI 3 (cI 0)) LX12_strongOf_1) (dRet (vI 2))))
theorem sBX12_strongOf : SS (cvoI, .ireturn) miX12_strongOf [] [] [] [(0, 2), (1, 0)] [(0, 2), (1, 0)] 0 [] BX12_strongOf := (t_sq (p1 := 2) (Γ' := [(0, 2), (1, 0), (2, 0)]) (t_istore_n (s_iconst dX12_strongOf_0 rfl) dX12_strongOf_1 rfl rfl rfl) (t_sq (p1 := 43) (Γ' := [(0, 2), (1, 0), (2, 0)]) (t_sq (p1 := 4) (Γ' := [(0, 2), (1, 0), (2, 0), (3, 0)]) (t_istore_n (s_iconst dX12_strongOf_2 rfl) dX12_strongOf_3 rfl rfl rfl) (tn_to (Γ' := [(0, 2), (1, 0), (2, 0), (3, 0)]) (XA := [43]) sLX12_strongOf_1 (lda_cons (ld_in rfl) lda_nil) rfl)) (t_ret (cv := cvI) (fun _ _ => rfl) (s_iload_n dX12_strongOf_43 rfl rfl) dX12_strongOf_44)))
noncomputable def DX12_strongOf : Fr → St → Option (Int32 × St) := M1 (fun f => (sI (sR fr0 0 (gR f 0)) 1 (gI f 1))) BX12_strongOf
theorem kX12_strongOf : SND yX12_strongOf cX12_strongOf 4 (some .int) 2 [(0, 2), (1, 0)] cvoI DX12_strongOf := snd_I (nw := 2) (by decide) rfl rfl (fun _ _ => rfl) sBX12_strongOf
theorem dX12_cartOf_0 : decode cX12_cartOf 0 = .ok (.aload_n 0, 1) := by decide +kernel
theorem dX12_cartOf_1 : decode cX12_cartOf 1 = .ok (.iload_n 2, 1) := by decide +kernel
theorem dX12_cartOf_2 : decode cX12_cartOf 2 = .ok (.aload_n 0, 1) := by decide +kernel
theorem dX12_cartOf_3 : decode cX12_cartOf 3 = .ok (.iload_n 1, 1) := by decide +kernel
theorem dX12_cartOf_4 : decode cX12_cartOf 4 = .ok (.invokevirtual 400, 3) := by decide +kernel
theorem dX12_cartOf_7 : decode cX12_cartOf 7 = .ok (.invokevirtual 403, 3) := by decide +kernel
theorem dX12_cartOf_10 : decode cX12_cartOf 10 = .ok (.aload_n 0, 1) := by decide +kernel
theorem dX12_cartOf_11 : decode cX12_cartOf 11 = .ok (.iload_n 3, 1) := by decide +kernel
theorem dX12_cartOf_12 : decode cX12_cartOf 12 = .ok (.invokevirtual 406, 3) := by decide +kernel
theorem dX12_cartOf_15 : decode cX12_cartOf 15 = .ok (.ldc 172, 2) := by decide +kernel
theorem dX12_cartOf_17 : decode cX12_cartOf 17 = .ok (.if_icmp .lt 7, 3) := by decide +kernel
theorem dX12_cartOf_20 : decode cX12_cartOf 20 = .ok (.iconst (-1), 1) := by decide +kernel
theorem dX12_cartOf_21 : decode cX12_cartOf 21 = .ok (.goto 8, 3) := by decide +kernel
theorem dX12_cartOf_24 : decode cX12_cartOf 24 = .ok (.aload_n 0, 1) := by decide +kernel
theorem dX12_cartOf_25 : decode cX12_cartOf 25 = .ok (.iload_n 3, 1) := by decide +kernel
theorem dX12_cartOf_26 : decode cX12_cartOf 26 = .ok (.invokevirtual 406, 3) := by decide +kernel
theorem dX12_cartOf_29 : decode cX12_cartOf 29 = .ok (.ireturn, 1) := by decide +kernel
theorem mokX12_cartOf : MOK yX12_cartOf cX12_cartOf 4 (some .int) 3 := ⟨w9_36, w1_13, ⟨by decide, by decide⟩, by decide +kernel, by decide⟩
abbrev miX12_cartOf : MI := (yX12_cartOf.cls, cX12_cartOf, 4, 4, false)
noncomputable def BX12_cartOf : Sm Int32 := (dSeq (dDo (dCallV 12 DX12_laysAlone (aI (aI (aR aN 0 (vR 0)) 1 (vI 2)) 2 (dCallV 12 DX12_strongOf (aI (aR aN 0 (vR 0)) 1 (vI 1)))))) (dRet (dT (dCI r_ge (dCallV 12 DX12_daysTo (aI (aR aN 0 (vR 0)) 1 (vI 3))) (cI 100000)) (cI (-1)) (dCallV 12 DX12_daysTo (aI (aR aN 0 (vR 0)) 1 (vI 3))))))
theorem sBX12_cartOf : SS (cvoI, .ireturn) miX12_cartOf [] [] [] [(0, 2), (1, 0), (2, 0), (3, 0)] [(0, 2), (1, 0), (2, 0), (3, 0)] 0 [] BX12_cartOf := (t_sq (p1 := 10) (Γ' := [(0, 2), (1, 0), (2, 0), (3, 0)]) (t_do (x_callV (ts := [(0, 2), (1, 0), (2, 0)]) ck12 rfl kX12_laysAlone mokX12_laysAlone w9_43 ps6_13 rfl rfl rfl rfl (a_I (ts := [(0, 2), (1, 0)]) 2 (a_I (ts := [(0, 2)]) 1 (a_R (ts := []) 0 a_nil (s_aload_n dX12_cartOf_0 rfl rfl) rfl) (s_iload_n dX12_cartOf_1 rfl rfl) rfl) (s_of_xI (x_callV (ts := [(0, 2), (1, 0)]) ck12 rfl kX12_strongOf mokX12_strongOf w9_39 ps6_12 rfl rfl rfl rfl (a_I (ts := [(0, 2)]) 1 (a_R (ts := []) 0 a_nil (s_aload_n dX12_cartOf_2 rfl rfl) rfl) (s_iload_n dX12_cartOf_3 rfl rfl) rfl) dX12_cartOf_4 w9_37)) rfl) dX12_cartOf_7 w9_41) rfl) (t_ret (cv := cvI) (fun _ _ => rfl) (s_T (pT := 20) (pF := 24) (p1 := 21) (pe := 29) (c_ge_F (pF := 24) (s_of_xI (x_callV (ts := [(0, 2), (1, 0)]) ck12 rfl kX12_daysTo mokX12_daysTo w9_47 ps6_14 rfl rfl rfl rfl (a_I (ts := [(0, 2)]) 1 (a_R (ts := []) 0 a_nil (s_aload_n dX12_cartOf_10 rfl rfl) rfl) (s_iload_n dX12_cartOf_11 rfl rfl) rfl) dX12_cartOf_12 w9_45)) (s_ldc dX12_cartOf_15 w7_197) dX12_cartOf_17 rfl) (s_iconst dX12_cartOf_20 rfl) (s_of_xI (x_callV (ts := [(0, 2), (1, 0)]) ck12 rfl kX12_daysTo mokX12_daysTo w9_47 ps6_14 rfl rfl rfl rfl (a_I (ts := [(0, 2)]) 1 (a_R (ts := []) 0 a_nil (s_aload_n dX12_cartOf_24 rfl rfl) rfl) (s_iload_n dX12_cartOf_25 rfl rfl) rfl) dX12_cartOf_26 w9_45)) (ld_goto (y := 29) dX12_cartOf_21 rfl (ld_in rfl))) dX12_cartOf_29))
noncomputable def DX12_cartOf : Fr → St → Option (Int32 × St) := M1 (fun f => (sI (sI (sI (sR fr0 0 (gR f 0)) 1 (gI f 1)) 2 (gI f 2)) 3 (gI f 3))) BX12_cartOf
theorem kX12_cartOf : SND yX12_cartOf cX12_cartOf 4 (some .int) 4 [(0, 2), (1, 0), (2, 0), (3, 0)] cvoI DX12_cartOf := snd_I (nw := 4) (by decide) rfl rfl (fun _ _ => rfl) sBX12_cartOf
theorem dX12_isHouse_0 : decode cX12_isHouse 0 = .ok (.lload_n 1, 1) := by decide +kernel
theorem dX12_isHouse_1 : decode cX12_isHouse 1 = .ok (.lconst 0, 1) := by decide +kernel
theorem dX12_isHouse_2 : decode cX12_isHouse 2 = .ok (.aload_n 0, 1) := by decide +kernel
theorem dX12_isHouse_3 : decode cX12_isHouse 3 = .ok (.invokevirtual 292, 3) := by decide +kernel
theorem dX12_isHouse_6 : decode cX12_isHouse 6 = .ok (.i2l, 1) := by decide +kernel
theorem dX12_isHouse_7 : decode cX12_isHouse 7 = .ok (.lconst 1, 1) := by decide +kernel
theorem dX12_isHouse_8 : decode cX12_isHouse 8 = .ok (.lsub, 1) := by decide +kernel
theorem dX12_isHouse_9 : decode cX12_isHouse 9 = .ok (.invokestatic 127, 3) := by decide +kernel
theorem dX12_isHouse_12 : decode cX12_isHouse 12 = .ok (.ireturn, 1) := by decide +kernel
theorem mokX12_isHouse : MOK yX12_isHouse cX12_isHouse 3 (some .boolean) 1 := ⟨w8_59, w1_13, ⟨by decide, by decide⟩, by decide +kernel, by decide⟩
abbrev miX12_isHouse : MI := (yX12_isHouse.cls, cX12_isHouse, 3, 2, false)
noncomputable def BX12_isHouse : Sm Int32 := (dRet (dCall DX12_in (aL (aL (aL aN 0 (vL 1)) 2 (cL 0)) 4 (d2 o_lsub (d1 o_i2l (dCallV 12 DX12_houses (aR aN 0 (vR 0)))) (cL 1)))))
theorem sBX12_isHouse : SS (cvoI, .ireturn) miX12_isHouse [] [] [] [(0, 2), (1, 1)] [(0, 2), (1, 1)] 0 [] BX12_isHouse := (t_ret (cv := cvI) (fun _ _ => rfl) (s_of_xI (x_call (ts := [(0, 1), (2, 1), (4, 1)]) kX12_in mokX12_in w7_141 rfl rfl rfl (a_L (ts := [(0, 1), (2, 1)]) 4 (a_L (ts := [(0, 1)]) 2 (a_L (ts := []) 0 a_nil (s_lload_n dX12_isHouse_0 rfl rfl) rfl) (s_lconst dX12_isHouse_1 rfl) rfl) (s_lsub (s_i2l (s_of_xI (x_callV (ts := [(0, 2)]) ck12 rfl kX12_houses mokX12_houses w8_62 ps5_1 rfl rfl rfl rfl (a_R (ts := []) 0 a_nil (s_aload_n dX12_isHouse_2 rfl rfl) rfl) dX12_isHouse_3 w8_60)) dX12_isHouse_6) (s_lconst dX12_isHouse_7 rfl) dX12_isHouse_8) rfl) dX12_isHouse_9 w7_140)) dX12_isHouse_12)
noncomputable def DX12_isHouse : Fr → St → Option (Int32 × St) := MZ (fun f => (sL (sR fr0 0 (gR f 0)) 1 (gL f 1))) BX12_isHouse
theorem kX12_isHouse : SND yX12_isHouse cX12_isHouse 3 (some .boolean) 2 [(0, 2), (1, 1)] cvoI DX12_isHouse := snd_Z (nw := 3) (by decide) rfl rfl (fun _ _ => rfl) sBX12_isHouse
theorem dX12_isSlate_0 : decode cX12_isSlate 0 = .ok (.iload_n 1, 1) := by decide +kernel
theorem dX12_isSlate_1 : decode cX12_isSlate 1 = .ok (.i2l, 1) := by decide +kernel
theorem dX12_isSlate_2 : decode cX12_isSlate 2 = .ok (.lconst 0, 1) := by decide +kernel
theorem dX12_isSlate_3 : decode cX12_isSlate 3 = .ok (.aload_n 0, 1) := by decide +kernel
theorem dX12_isSlate_4 : decode cX12_isSlate 4 = .ok (.invokevirtual 298, 3) := by decide +kernel
theorem dX12_isSlate_7 : decode cX12_isSlate 7 = .ok (.i2l, 1) := by decide +kernel
theorem dX12_isSlate_8 : decode cX12_isSlate 8 = .ok (.lconst 1, 1) := by decide +kernel
theorem dX12_isSlate_9 : decode cX12_isSlate 9 = .ok (.lsub, 1) := by decide +kernel
theorem dX12_isSlate_10 : decode cX12_isSlate 10 = .ok (.invokestatic 127, 3) := by decide +kernel
theorem dX12_isSlate_13 : decode cX12_isSlate 13 = .ok (.ireturn, 1) := by decide +kernel
theorem mokX12_isSlate : MOK yX12_isSlate cX12_isSlate 2 (some .boolean) 1 := ⟨w8_86, w1_13, ⟨by decide, by decide⟩, by decide +kernel, by decide⟩
abbrev miX12_isSlate : MI := (yX12_isSlate.cls, cX12_isSlate, 2, 2, false)
noncomputable def BX12_isSlate : Sm Int32 := (dRet (dCall DX12_in (aL (aL (aL aN 0 (d1 o_i2l (vI 1))) 2 (cL 0)) 4 (d2 o_lsub (d1 o_i2l (dCallV 12 DX12_slates (aR aN 0 (vR 0)))) (cL 1)))))
theorem sBX12_isSlate : SS (cvoI, .ireturn) miX12_isSlate [] [] [] [(0, 2), (1, 0)] [(0, 2), (1, 0)] 0 [] BX12_isSlate := (t_ret (cv := cvI) (fun _ _ => rfl) (s_of_xI (x_call (ts := [(0, 1), (2, 1), (4, 1)]) kX12_in mokX12_in w7_141 rfl rfl rfl (a_L (ts := [(0, 1), (2, 1)]) 4 (a_L (ts := [(0, 1)]) 2 (a_L (ts := []) 0 a_nil (s_i2l (s_iload_n dX12_isSlate_0 rfl rfl) dX12_isSlate_1) rfl) (s_lconst dX12_isSlate_2 rfl) rfl) (s_lsub (s_i2l (s_of_xI (x_callV (ts := [(0, 2)]) ck12 rfl kX12_slates mokX12_slates w8_89 ps5_5 rfl rfl rfl rfl (a_R (ts := []) 0 a_nil (s_aload_n dX12_isSlate_3 rfl rfl) rfl) dX12_isSlate_4 w8_87)) dX12_isSlate_7) (s_lconst dX12_isSlate_8 rfl) dX12_isSlate_9) rfl) dX12_isSlate_10 w7_140)) dX12_isSlate_13)
noncomputable def DX12_isSlate : Fr → St → Option (Int32 × St) := MZ (fun f => (sI (sR fr0 0 (gR f 0)) 1 (gI f 1))) BX12_isSlate
theorem kX12_isSlate : SND yX12_isSlate cX12_isSlate 2 (some .boolean) 2 [(0, 2), (1, 0)] cvoI DX12_isSlate := snd_Z (nw := 2) (by decide) rfl rfl (fun _ _ => rfl) sBX12_isSlate
theorem dX12_four__0 : decode cX12_four_ 0 = .ok (.aload_n 0, 1) := by decide +kernel
theorem dX12_four__1 : decode cX12_four_ 1 = .ok (.iconst 0, 1) := by decide +kernel
theorem dX12_four__2 : decode cX12_four_ 2 = .ok (.putfield 122, 3) := by decide +kernel
theorem dX12_four__5 : decode cX12_four_ 5 = .ok (.aload_n 0, 1) := by decide +kernel
theorem dX12_four__6 : decode cX12_four_ 6 = .ok (.iload_n 1, 1) := by decide +kernel
theorem dX12_four__7 : decode cX12_four_ 7 = .ok (.invokevirtual 372, 3) := by decide +kernel
theorem dX12_four__10 : decode cX12_four_ 10 = .ok (.ifCond .eq 12, 3) := by decide +kernel
theorem dX12_four__13 : decode cX12_four_ 13 = .ok (.aload_n 0, 1) := by decide +kernel
theorem dX12_four__14 : decode cX12_four_ 14 = .ok (.iload_n 2, 1) := by decide +kernel
theorem dX12_four__15 : decode cX12_four_ 15 = .ok (.i2l, 1) := by decide +kernel
theorem dX12_four__16 : decode cX12_four_ 16 = .ok (.invokevirtual 307, 3) := by decide +kernel
theorem dX12_four__19 : decode cX12_four_ 19 = .ok (.ifCond .ne 6, 3) := by decide +kernel
theorem dX12_four__22 : decode cX12_four_ 22 = .ok (.bipush (-2), 2) := by decide +kernel
theorem dX12_four__24 : decode cX12_four_ 24 = .ok (.ireturn, 1) := by decide +kernel
theorem dX12_four__25 : decode cX12_four_ 25 = .ok (.iconst (-1), 1) := by decide +kernel
theorem dX12_four__26 : decode cX12_four_ 26 = .ok (.istore_n 3, 1) := by decide +kernel
theorem dX12_four__27 : decode cX12_four_ 27 = .ok (.iconst 1, 1) := by decide +kernel
theorem dX12_four__28 : decode cX12_four_ 28 = .ok (.istore 4, 2) := by decide +kernel
theorem dX12_four__30 : decode cX12_four_ 30 = .ok (.iload 4, 2) := by decide +kernel
theorem dX12_four__32 : decode cX12_four_ 32 = .ok (.iconst 1, 1) := by decide +kernel
theorem dX12_four__33 : decode cX12_four_ 33 = .ok (.aload_n 0, 1) := by decide +kernel
theorem dX12_four__34 : decode cX12_four_ 34 = .ok (.invokevirtual 295, 3) := by decide +kernel
theorem dX12_four__37 : decode cX12_four_ 37 = .ok (.ishl, 1) := by decide +kernel
theorem dX12_four__38 : decode cX12_four_ 38 = .ok (.if_icmp .ge 41, 3) := by decide +kernel
theorem dX12_four__41 : decode cX12_four_ 41 = .ok (.iload_n 3, 1) := by decide +kernel
theorem dX12_four__42 : decode cX12_four_ 42 = .ok (.iconst (-1), 1) := by decide +kernel
theorem dX12_four__43 : decode cX12_four_ 43 = .ok (.if_icmp .eq 15, 3) := by decide +kernel
theorem dX12_four__46 : decode cX12_four_ 46 = .ok (.iload 4, 2) := by decide +kernel
theorem dX12_four__48 : decode cX12_four_ 48 = .ok (.invokestatic 394, 3) := by decide +kernel
theorem dX12_four__51 : decode cX12_four_ 51 = .ok (.iload_n 3, 1) := by decide +kernel
theorem dX12_four__52 : decode cX12_four_ 52 = .ok (.invokestatic 394, 3) := by decide +kernel
theorem dX12_four__55 : decode cX12_four_ 55 = .ok (.if_icmp .ge 18, 3) := by decide +kernel
theorem dX12_four__58 : decode cX12_four_ 58 = .ok (.aload_n 0, 1) := by decide +kernel
theorem dX12_four__59 : decode cX12_four_ 59 = .ok (.iload 4, 2) := by decide +kernel
theorem dX12_four__61 : decode cX12_four_ 61 = .ok (.iload_n 1, 1) := by decide +kernel
theorem dX12_four__62 : decode cX12_four_ 62 = .ok (.iload_n 2, 1) := by decide +kernel
theorem dX12_four__63 : decode cX12_four_ 63 = .ok (.invokevirtual 412, 3) := by decide +kernel
theorem dX12_four__66 : decode cX12_four_ 66 = .ok (.iconst (-1), 1) := by decide +kernel
theorem dX12_four__67 : decode cX12_four_ 67 = .ok (.if_icmp .eq 6, 3) := by decide +kernel
theorem dX12_four__70 : decode cX12_four_ 70 = .ok (.iload 4, 2) := by decide +kernel
theorem dX12_four__72 : decode cX12_four_ 72 = .ok (.istore_n 3, 1) := by decide +kernel
theorem dX12_four__73 : decode cX12_four_ 73 = .ok (.iinc 4 1, 3) := by decide +kernel
theorem dX12_four__76 : decode cX12_four_ 76 = .ok (.goto (-46), 3) := by decide +kernel
theorem dX12_four__79 : decode cX12_four_ 79 = .ok (.iload_n 3, 1) := by decide +kernel
theorem dX12_four__80 : decode cX12_four_ 80 = .ok (.ireturn, 1) := by decide +kernel
theorem mokX12_four_ : MOK yX12_four_ cX12_four_ 5 (some .int) 2 := ⟨w9_85, w1_13, ⟨by decide, by decide⟩, by decide +kernel, by decide⟩
abbrev miX12_four_ : MI := (yX12_four_.cls, cX12_four_, 5, 5, false)
noncomputable def LX12_four__1 : Sm Int32 := dLoop (fun f => (sI (sI (sI (sI (sR fr0 0 (gR f 0)) 1 (gI f 1)) 2 (gI f 2)) 3 (gI f 3)) 4 (gI f 4))) (dCI r_lt (vI 4) (d2 o_ishl (cI 1) (dCallV 12 DX12_carriers (aR aN 0 (vR 0))))) (dIf (dAnd (dOr (dCI r_eq (vI 3) (cI (-1))) (dCI r_lt (dCall DX12_sizeOf (aI aN 0 (vI 4))) (dCall DX12_sizeOf (aI aN 0 (vI 3))))) (dCI r_ne (dCallV 12 DX12_cartOf (aI (aI (aI (aR aN 0 (vR 0)) 1 (vI 4)) 2 (vI 1)) 3 (vI 2))) (cI (-1)))) (dSetI 3 (vI 4)) dSkip) (dInc 4 1)
theorem sLX12_four__1 {ΓL : Gm} {PB PK : List Nat} : SS (cvoI, .ireturn) miX12_four_ ΓL PB PK [(0, 2), (1, 0), (2, 0), (3, 0), (4, 0)] [(0, 2), (1, 0), (2, 0), (3, 0), (4, 0)] 30 [79] LX12_four__1 := t_loop (pT := 41) (pF := 79) (pu := 73) (PB' := []) (PK' := []) (XB := [73]) (XU := [76]) (fun _ _ => rfl) rfl (c_lt_F (pF := 79) (s_iload dX12_four__30 rfl) (s_ishl (s_iconst dX12_four__32 rfl) (s_of_xI (x_callV (ts := [(0, 2)]) ck12 rfl kX12_carriers mokX12_carriers w8_74 ps5_3 rfl rfl rfl rfl (a_R (ts := []) 0 a_nil (s_aload_n dX12_four__33 rfl rfl) rfl) dX12_four__34 w8_72)) dX12_four__37) dX12_four__38 rfl) (t_if (pT := 70) (pF := 73) (X := [73]) (XA := [73]) (XB := [73]) (c_and (p1 := 58) (pT := 70) (pF := 73) (c_or (p1 := 46) (pT := 58) (pF := 73) (c_eq_J (pT := 58) (s_iload_n dX12_four__41 rfl rfl) (s_iconst dX12_four__42 rfl) dX12_four__43 rfl) (c_lt_F (pF := 73) (s_of_xI (x_call (ts := [(0, 0)]) kX12_sizeOf mokX12_sizeOf w9_11 rfl rfl rfl (a_I (ts := []) 0 a_nil (s_iload dX12_four__46 rfl) rfl) dX12_four__48 w9_10)) (s_of_xI (x_call (ts := [(0, 0)]) kX12_sizeOf mokX12_sizeOf w9_11 rfl rfl rfl (a_I (ts := []) 0 a_nil (s_iload_n dX12_four__51 rfl rfl) rfl) dX12_four__52 w9_10)) dX12_four__55 rfl)) (c_ne_F (pF := 73) (s_of_xI (x_callV (ts := [(0, 2), (1, 0), (2, 0), (3, 0)]) ck12 rfl kX12_cartOf mokX12_cartOf w9_35 ps6_11 rfl rfl rfl rfl (a_I (ts := [(0, 2), (1, 0), (2, 0)]) 3 (a_I (ts := [(0, 2), (1, 0)]) 2 (a_I (ts := [(0, 2)]) 1 (a_R (ts := []) 0 a_nil (s_aload_n dX12_four__58 rfl rfl) rfl) (s_iload dX12_four__59 rfl) rfl) (s_iload_n dX12_four__61 rfl rfl) rfl) (s_iload_n dX12_four__62 rfl rfl) rfl) dX12_four__63 w9_33)) (s_iconst dX12_four__66 rfl) dX12_four__67 rfl)) (t_istore_n (s_iload dX12_four__70 rfl) dX12_four__72 rfl rfl rfl) (t_skip (ld_in rfl) rfl) (lda_cons (ld_in rfl) lda_nil) (lda_cons (ld_in rfl) lda_nil)) (t_iinc dX12_four__73 rfl rfl rfl rfl) (lda_cons (ld_in rfl) lda_nil) lda_nil (lda_cons (ld_goto (y := 30) dX12_four__76 rfl (ld_in rfl)) lda_nil) (ld_in rfl) lda_nil
noncomputable def BX12_four_ : Sm Int32 := (dSeq (dP (fI 12 0) (vR 0) (cI 0)) (dSeq (dIf (dOr (dNot (dCZ q_ne (dCallV 12 DX12_isSlate (aI (aR aN 0 (vR 0)) 1 (vI 1))))) (dNot (dCZ q_ne (dCallV 12 DX12_isHouse (aL (aR aN 0 (vR 0)) 1 (d1 o_i2l (vI 2))))))) (dRet (cI (-2))) dSkip) (dSeq (dSetI 3 (cI (-1))) (dSeq (dSeq (dSetI 4 (cI 1)) LX12_four__1) (dRet (vI 3))))))
theorem sBX12_four_ : SS (cvoI, .ireturn) miX12_four_ [] [] [] [(0, 2), (1, 0), (2, 0)] [(0, 2), (1, 0), (2, 0)] 0 [] BX12_four_ := (t_sq (p1 := 5) (Γ' := [(0, 2), (1, 0), (2, 0)]) (t_pI ck12 0 (by decide) rfl (Or.inl rfl) (s_aload_n dX12_four__0 rfl rfl) (s_iconst dX12_four__1 rfl) dX12_four__2 w6_205 rfl) (t_sq (p1 := 25) (Γ' := [(0, 2), (1, 0), (2, 0)]) (t_if (pT := 22) (pF := 25) (X := [25]) (XA := []) (XB := [25]) (c_or (p1 := 13) (pT := 22) (pF := 25) (c_not (pT := 22) (pF := 13) (c_ne_ZF (pF := 22) (s_of_xI (x_callV (ts := [(0, 2), (1, 0)]) ck12 rfl kX12_isSlate mokX12_isSlate w8_85 ps5_4 rfl rfl rfl rfl (a_I (ts := [(0, 2)]) 1 (a_R (ts := []) 0 a_nil (s_aload_n dX12_four__5 rfl rfl) rfl) (s_iload_n dX12_four__6 rfl rfl) rfl) dX12_four__7 w8_83)) dX12_four__10 rfl)) (c_not (pT := 22) (pF := 25) (c_ne_ZJ (pT := 25) (s_of_xI (x_callV (ts := [(0, 2), (1, 1)]) ck12 rfl kX12_isHouse mokX12_isHouse w8_58 ps5_0 rfl rfl rfl rfl (a_L (ts := [(0, 2)]) 1 (a_R (ts := []) 0 a_nil (s_aload_n dX12_four__13 rfl rfl) rfl) (s_i2l (s_iload_n dX12_four__14 rfl rfl) dX12_four__15) rfl) dX12_four__16 w8_56)) dX12_four__19 rfl))) (t_ret (cv := cvI) (fun _ _ => rfl) (s_bipush dX12_four__22 rfl) dX12_four__24) (t_skip (ld_in rfl) rfl) lda_nil (lda_cons (ld_in rfl) lda_nil)) (t_sq (p1 := 27) (Γ' := [(0, 2), (1, 0), (2, 0), (3, 0)]) (t_istore_n (s_iconst dX12_four__25 rfl) dX12_four__26 rfl rfl rfl) (t_sq (p1 := 79) (Γ' := [(0, 2), (1, 0), (2, 0), (3, 0)]) (t_sq (p1 := 30) (Γ' := [(0, 2), (1, 0), (2, 0), (3, 0), (4, 0)]) (t_istore (s_iconst dX12_four__27 rfl) dX12_four__28 rfl rfl) (tn_to (Γ' := [(0, 2), (1, 0), (2, 0), (3, 0), (4, 0)]) (XA := [79]) sLX12_four__1 (lda_cons (ld_in rfl) lda_nil) rfl)) (t_ret (cv := cvI) (fun _ _ => rfl) (s_iload_n dX12_four__79 rfl rfl) dX12_four__80)))))
noncomputable def DX12_four_ : Fr → St → Option (Int32 × St) := M1 (fun f => (sI (sI (sR fr0 0 (gR f 0)) 1 (gI f 1)) 2 (gI f 2))) BX12_four_
theorem kX12_four_ : SND yX12_four_ cX12_four_ 5 (some .int) 5 [(0, 2), (1, 0), (2, 0)] cvoI DX12_four_ := snd_I (nw := 3) (by decide) rfl rfl (fun _ _ => rfl) sBX12_four_
theorem dX12_end_0 : decode cX12_end 0 = .ok (.aload_n 0, 1) := by decide +kernel
theorem dX12_end_1 : decode cX12_end 1 = .ok (.iconst 0, 1) := by decide +kernel
theorem dX12_end_2 : decode cX12_end 2 = .ok (.putfield 122, 3) := by decide +kernel
theorem dX12_end_5 : decode cX12_end 5 = .ok (.iload_n 1, 1) := by decide +kernel
theorem dX12_end_6 : decode cX12_end 6 = .ok (.i2l, 1) := by decide +kernel
theorem dX12_end_7 : decode cX12_end 7 = .ok (.lconst 0, 1) := by decide +kernel
theorem dX12_end_8 : decode cX12_end 8 = .ok (.aload_n 0, 1) := by decide +kernel
theorem dX12_end_9 : decode cX12_end 9 = .ok (.getfield 139, 3) := by decide +kernel
theorem dX12_end_12 : decode cX12_end 12 = .ok (.i2l, 1) := by decide +kernel
theorem dX12_end_13 : decode cX12_end 13 = .ok (.invokestatic 127, 3) := by decide +kernel
theorem dX12_end_16 : decode cX12_end 16 = .ok (.ifCond .ne 5, 3) := by decide +kernel
theorem dX12_end_19 : decode cX12_end 19 = .ok (.iconst (-1), 1) := by decide +kernel
theorem dX12_end_20 : decode cX12_end 20 = .ok (.ireturn, 1) := by decide +kernel
theorem dX12_end_21 : decode cX12_end 21 = .ok (.aload_n 0, 1) := by decide +kernel
theorem dX12_end_22 : decode cX12_end 22 = .ok (.iload_n 1, 1) := by decide +kernel
theorem dX12_end_23 : decode cX12_end 23 = .ok (.putfield 139, 3) := by decide +kernel
theorem dX12_end_26 : decode cX12_end 26 = .ok (.iload_n 1, 1) := by decide +kernel
theorem dX12_end_27 : decode cX12_end 27 = .ok (.ireturn, 1) := by decide +kernel
theorem mokX12_end : MOK yX12_end cX12_end 2 (some .int) 1 := ⟨w7_165, w1_13, ⟨by decide, by decide⟩, by decide +kernel, by decide⟩
abbrev miX12_end : MI := (yX12_end.cls, cX12_end, 2, 2, false)
noncomputable def BX12_end : Sm Int32 := (dSeq (dP (fI 12 0) (vR 0) (cI 0)) (dSeq (dIf (dNot (dCZ q_ne (dCall DX12_in (aL (aL (aL aN 0 (d1 o_i2l (vI 1))) 2 (cL 0)) 4 (d1 o_i2l (dGI 12 6 (vR 0))))))) (dRet (cI (-1))) dSkip) (dSeq (dP (fI 12 6) (vR 0) (vI 1)) (dRet (vI 1)))))
theorem sBX12_end : SS (cvoI, .ireturn) miX12_end [] [] [] [(0, 2), (1, 0)] [(0, 2), (1, 0)] 0 [] BX12_end := (t_sq (p1 := 5) (Γ' := [(0, 2), (1, 0)]) (t_pI ck12 0 (by decide) rfl (Or.inl rfl) (s_aload_n dX12_end_0 rfl rfl) (s_iconst dX12_end_1 rfl) dX12_end_2 w6_205 rfl) (t_sq (p1 := 21) (Γ' := [(0, 2), (1, 0)]) (t_if (pT := 19) (pF := 21) (X := [21]) (XA := []) (XB := [21]) (c_not (pT := 19) (pF := 21) (c_ne_ZJ (pT := 21) (s_of_xI (x_call (ts := [(0, 1), (2, 1), (4, 1)]) kX12_in mokX12_in w7_141 rfl rfl rfl (a_L (ts := [(0, 1), (2, 1)]) 4 (a_L (ts := [(0, 1)]) 2 (a_L (ts := []) 0 a_nil (s_i2l (s_iload_n dX12_end_5 rfl rfl) dX12_end_6) rfl) (s_lconst dX12_end_7 rfl) rfl) (s_i2l (s_getI ck12 6 (by decide) rfl (s_aload_n dX12_end_8 rfl rfl) dX12_end_9 w6_211) dX12_end_12) rfl) dX12_end_13 w7_140)) dX12_end_16 rfl)) (t_ret (cv := cvI) (fun _ _ => rfl) (s_iconst dX12_end_19 rfl) dX12_end_20) (t_skip (ld_in rfl) rfl) lda_nil (lda_cons (ld_in rfl) lda_nil)) (t_sq (p1 := 26) (Γ' := [(0, 2), (1, 0)]) (t_pI ck12 6 (by decide) rfl (Or.inl rfl) (s_aload_n dX12_end_21 rfl rfl) (s_iload_n dX12_end_22 rfl rfl) dX12_end_23 w6_211 rfl) (t_ret (cv := cvI) (fun _ _ => rfl) (s_iload_n dX12_end_26 rfl rfl) dX12_end_27))))
noncomputable def DX12_end : Fr → St → Option (Int32 × St) := M1 (fun f => (sI (sR fr0 0 (gR f 0)) 1 (gI f 1))) BX12_end
theorem kX12_end : SND yX12_end cX12_end 2 (some .int) 2 [(0, 2), (1, 0)] cvoI DX12_end := snd_I (nw := 2) (by decide) rfl rfl (fun _ _ => rfl) sBX12_end
theorem dX12_isByte_0 : decode cX12_isByte 0 = .ok (.iload_n 1, 1) := by decide +kernel
theorem dX12_isByte_1 : decode cX12_isByte 1 = .ok (.aload_n 0, 1) := by decide +kernel
theorem dX12_isByte_2 : decode cX12_isByte 2 = .ok (.getfield 139, 3) := by decide +kernel
theorem dX12_isByte_5 : decode cX12_isByte 5 = .ok (.if_icmp .ge 27, 3) := by decide +kernel
theorem dX12_isByte_8 : decode cX12_isByte 8 = .ok (.aload_n 0, 1) := by decide +kernel
theorem dX12_isByte_9 : decode cX12_isByte 9 = .ok (.getfield 23, 3) := by decide +kernel
theorem dX12_isByte_12 : decode cX12_isByte 12 = .ok (.iload_n 1, 1) := by decide +kernel
theorem dX12_isByte_13 : decode cX12_isByte 13 = .ok (.baload, 1) := by decide +kernel
theorem dX12_isByte_14 : decode cX12_isByte 14 = .ok (.iload_n 2, 1) := by decide +kernel
theorem dX12_isByte_15 : decode cX12_isByte 15 = .ok (.if_icmp .lt 17, 3) := by decide +kernel
theorem dX12_isByte_18 : decode cX12_isByte 18 = .ok (.aload_n 0, 1) := by decide +kernel
theorem dX12_isByte_19 : decode cX12_isByte 19 = .ok (.getfield 23, 3) := by decide +kernel
theorem dX12_isByte_22 : decode cX12_isByte 22 = .ok (.iload_n 1, 1) := by decide +kernel
theorem dX12_isByte_23 : decode cX12_isByte 23 = .ok (.baload, 1) := by decide +kernel
theorem dX12_isByte_24 : decode cX12_isByte 24 = .ok (.iload_n 3, 1) := by decide +kernel
theorem dX12_isByte_25 : decode cX12_isByte 25 = .ok (.if_icmp .gt 7, 3) := by decide +kernel
theorem dX12_isByte_28 : decode cX12_isByte 28 = .ok (.iconst 1, 1) := by decide +kernel
theorem dX12_isByte_29 : decode cX12_isByte 29 = .ok (.goto 4, 3) := by decide +kernel
theorem dX12_isByte_32 : decode cX12_isByte 32 = .ok (.iconst 0, 1) := by decide +kernel
theorem dX12_isByte_33 : decode cX12_isByte 33 = .ok (.ireturn, 1) := by decide +kernel
theorem mokX12_isByte : MOK yX12_isByte cX12_isByte 4 (some .boolean) 3 := ⟨w7_193, w1_13, ⟨by decide, by decide⟩, by decide +kernel, by decide⟩
abbrev miX12_isByte : MI := (yX12_isByte.cls, cX12_isByte, 4, 1, false)
noncomputable def BX12_isByte : Sm Int32 := (dRet (dB (dAnd (dAnd (dCI r_lt (vI 1) (dGI 12 6 (vR 0))) (dCI r_ge (dAB (dGR 12 5 (vR 0)) (vI 1)) (vI 2))) (dCI r_le (dAB (dGR 12 5 (vR 0)) (vI 1)) (vI 3)))))
theorem sBX12_isByte : SS (cvoI, .ireturn) miX12_isByte [] [] [] [(0, 2), (1, 0), (2, 0), (3, 0)] [(0, 2), (1, 0), (2, 0), (3, 0)] 0 [] BX12_isByte := (t_ret (cv := cvI) (fun _ _ => rfl) (s_B (pT := 28) (pF := 32) (pe := 33) (c_and (p1 := 18) (pT := 28) (pF := 32) (c_and (p1 := 8) (pT := 18) (pF := 32) (c_lt_F (pF := 32) (s_iload_n dX12_isByte_0 rfl rfl) (s_getI ck12 6 (by decide) rfl (s_aload_n dX12_isByte_1 rfl rfl) dX12_isByte_2 w6_211) dX12_isByte_5 rfl) (c_ge_F (pF := 32) (s_dAB (s_getR ck12 5 (by decide) rfl (s_aload_n dX12_isByte_8 rfl rfl) dX12_isByte_9 w6_210) (s_iload_n dX12_isByte_12 rfl rfl) dX12_isByte_13) (s_iload_n dX12_isByte_14 rfl rfl) dX12_isByte_15 rfl)) (c_le_F (pF := 32) (s_dAB (s_getR ck12 5 (by decide) rfl (s_aload_n dX12_isByte_18 rfl rfl) dX12_isByte_19 w6_210) (s_iload_n dX12_isByte_22 rfl rfl) dX12_isByte_23) (s_iload_n dX12_isByte_24 rfl rfl) dX12_isByte_25 rfl)) dX12_isByte_28 dX12_isByte_29 rfl dX12_isByte_32 rfl) dX12_isByte_33)
noncomputable def DX12_isByte : Fr → St → Option (Int32 × St) := MZ (fun f => (sI (sI (sI (sR fr0 0 (gR f 0)) 1 (gI f 1)) 2 (gI f 2)) 3 (gI f 3))) BX12_isByte
theorem kX12_isByte : SND yX12_isByte cX12_isByte 4 (some .boolean) 1 [(0, 2), (1, 0), (2, 0), (3, 0)] cvoI DX12_isByte := snd_Z (nw := 4) (by decide) rfl rfl (fun _ _ => rfl) sBX12_isByte
theorem dX12_next_0 : decode cX12_next 0 = .ok (.aload_n 0, 1) := by decide +kernel
theorem dX12_next_1 : decode cX12_next 1 = .ok (.aload_n 0, 1) := by decide +kernel
theorem dX12_next_2 : decode cX12_next 2 = .ok (.getfield 146, 3) := by decide +kernel
theorem dX12_next_5 : decode cX12_next 5 = .ok (.bipush 32, 2) := by decide +kernel
theorem dX12_next_7 : decode cX12_next 7 = .ok (.bipush 32, 2) := by decide +kernel
theorem dX12_next_9 : decode cX12_next 9 = .ok (.invokevirtual 149, 3) := by decide +kernel
theorem dX12_next_12 : decode cX12_next 12 = .ok (.ifCond .ne 18, 3) := by decide +kernel
theorem dX12_next_15 : decode cX12_next 15 = .ok (.aload_n 0, 1) := by decide +kernel
theorem dX12_next_16 : decode cX12_next 16 = .ok (.aload_n 0, 1) := by decide +kernel
theorem dX12_next_17 : decode cX12_next 17 = .ok (.getfield 146, 3) := by decide +kernel
theorem dX12_next_20 : decode cX12_next 20 = .ok (.bipush 10, 2) := by decide +kernel
theorem dX12_next_22 : decode cX12_next 22 = .ok (.bipush 10, 2) := by decide +kernel
theorem dX12_next_24 : decode cX12_next 24 = .ok (.invokevirtual 149, 3) := by decide +kernel
theorem dX12_next_27 : decode cX12_next 27 = .ok (.ifCond .eq 16, 3) := by decide +kernel
theorem dX12_next_30 : decode cX12_next 30 = .ok (.aload_n 0, 1) := by decide +kernel
theorem dX12_next_31 : decode cX12_next 31 = .ok (.dup, 1) := by decide +kernel
theorem dX12_next_32 : decode cX12_next 32 = .ok (.getfield 146, 3) := by decide +kernel
theorem dX12_next_35 : decode cX12_next 35 = .ok (.iconst 1, 1) := by decide +kernel
theorem dX12_next_36 : decode cX12_next 36 = .ok (.iadd, 1) := by decide +kernel
theorem dX12_next_37 : decode cX12_next 37 = .ok (.putfield 146, 3) := by decide +kernel
theorem dX12_next_40 : decode cX12_next 40 = .ok (.goto (-40), 3) := by decide +kernel
theorem dX12_next_43 : decode cX12_next 43 = .ok (.aload_n 0, 1) := by decide +kernel
theorem dX12_next_44 : decode cX12_next 44 = .ok (.aload_n 0, 1) := by decide +kernel
theorem dX12_next_45 : decode cX12_next 45 = .ok (.getfield 146, 3) := by decide +kernel
theorem dX12_next_48 : decode cX12_next 48 = .ok (.putfield 153, 3) := by decide +kernel
theorem dX12_next_51 : decode cX12_next 51 = .ok (.aload_n 0, 1) := by decide +kernel
theorem dX12_next_52 : decode cX12_next 52 = .ok (.iconst 0, 1) := by decide +kernel
theorem dX12_next_53 : decode cX12_next 53 = .ok (.putfield 156, 3) := by decide +kernel
theorem dX12_next_56 : decode cX12_next 56 = .ok (.aload_n 0, 1) := by decide +kernel
theorem dX12_next_57 : decode cX12_next 57 = .ok (.lconst 0, 1) := by decide +kernel
theorem dX12_next_58 : decode cX12_next 58 = .ok (.putfield 159, 3) := by decide +kernel
theorem dX12_next_61 : decode cX12_next 61 = .ok (.aload_n 0, 1) := by decide +kernel
theorem dX12_next_62 : decode cX12_next 62 = .ok (.getfield 146, 3) := by decide +kernel
theorem dX12_next_65 : decode cX12_next 65 = .ok (.aload_n 0, 1) := by decide +kernel
theorem dX12_next_66 : decode cX12_next 66 = .ok (.getfield 139, 3) := by decide +kernel
theorem dX12_next_69 : decode cX12_next 69 = .ok (.if_icmp .ne 11, 3) := by decide +kernel
theorem dX12_next_72 : decode cX12_next 72 = .ok (.aload_n 0, 1) := by decide +kernel
theorem dX12_next_73 : decode cX12_next 73 = .ok (.iconst 0, 1) := by decide +kernel
theorem dX12_next_74 : decode cX12_next 74 = .ok (.putfield 163, 3) := by decide +kernel
theorem dX12_next_77 : decode cX12_next 77 = .ok (.goto 230, 3) := by decide +kernel
theorem dX12_next_80 : decode cX12_next 80 = .ok (.aload_n 0, 1) := by decide +kernel
theorem dX12_next_81 : decode cX12_next 81 = .ok (.aload_n 0, 1) := by decide +kernel
theorem dX12_next_82 : decode cX12_next 82 = .ok (.getfield 146, 3) := by decide +kernel
theorem dX12_next_85 : decode cX12_next 85 = .ok (.bipush 97, 2) := by decide +kernel
theorem dX12_next_87 : decode cX12_next 87 = .ok (.bipush 122, 2) := by decide +kernel
theorem dX12_next_89 : decode cX12_next 89 = .ok (.invokevirtual 149, 3) := by decide +kernel
theorem dX12_next_92 : decode cX12_next 92 = .ok (.ifCond .eq 96, 3) := by decide +kernel
theorem dX12_next_95 : decode cX12_next 95 = .ok (.aload_n 0, 1) := by decide +kernel
theorem dX12_next_96 : decode cX12_next 96 = .ok (.iconst 1, 1) := by decide +kernel
theorem dX12_next_97 : decode cX12_next 97 = .ok (.putfield 163, 3) := by decide +kernel
theorem dX12_next_100 : decode cX12_next 100 = .ok (.iconst 0, 1) := by decide +kernel
theorem dX12_next_101 : decode cX12_next 101 = .ok (.istore_n 1, 1) := by decide +kernel
theorem dX12_next_102 : decode cX12_next 102 = .ok (.aload_n 0, 1) := by decide +kernel
theorem dX12_next_103 : decode cX12_next 103 = .ok (.aload_n 0, 1) := by decide +kernel
theorem dX12_next_104 : decode cX12_next 104 = .ok (.getfield 146, 3) := by decide +kernel
theorem dX12_next_107 : decode cX12_next 107 = .ok (.bipush 97, 2) := by decide +kernel
theorem dX12_next_109 : decode cX12_next 109 = .ok (.bipush 122, 2) := by decide +kernel
theorem dX12_next_111 : decode cX12_next 111 = .ok (.invokevirtual 149, 3) := by decide +kernel
theorem dX12_next_114 : decode cX12_next 114 = .ok (.ifCond .eq 71, 3) := by decide +kernel
theorem dX12_next_117 : decode cX12_next 117 = .ok (.aload_n 0, 1) := by decide +kernel
theorem dX12_next_118 : decode cX12_next 118 = .ok (.iload_n 1, 1) := by decide +kernel
theorem dX12_next_119 : decode cX12_next 119 = .ok (.bipush 11, 2) := by decide +kernel
theorem dX12_next_121 : decode cX12_next 121 = .ok (.if_icmp .le 9, 3) := by decide +kernel
theorem dX12_next_124 : decode cX12_next 124 = .ok (.ldc2_w 166, 3) := by decide +kernel
theorem dX12_next_127 : decode cX12_next 127 = .ok (.goto 26, 3) := by decide +kernel
theorem dX12_next_130 : decode cX12_next 130 = .ok (.ldc2_w 168, 3) := by decide +kernel
theorem dX12_next_133 : decode cX12_next 133 = .ok (.aload_n 0, 1) := by decide +kernel
theorem dX12_next_134 : decode cX12_next 134 = .ok (.getfield 159, 3) := by decide +kernel
theorem dX12_next_137 : decode cX12_next 137 = .ok (.lmul, 1) := by decide +kernel
theorem dX12_next_138 : decode cX12_next 138 = .ok (.aload_n 0, 1) := by decide +kernel
theorem dX12_next_139 : decode cX12_next 139 = .ok (.getfield 23, 3) := by decide +kernel
theorem dX12_next_142 : decode cX12_next 142 = .ok (.aload_n 0, 1) := by decide +kernel
theorem dX12_next_143 : decode cX12_next 143 = .ok (.getfield 146, 3) := by decide +kernel
theorem dX12_next_146 : decode cX12_next 146 = .ok (.baload, 1) := by decide +kernel
theorem dX12_next_147 : decode cX12_next 147 = .ok (.i2l, 1) := by decide +kernel
theorem dX12_next_148 : decode cX12_next 148 = .ok (.ladd, 1) := by decide +kernel
theorem dX12_next_149 : decode cX12_next 149 = .ok (.ldc2_w 170, 3) := by decide +kernel
theorem dX12_next_152 : decode cX12_next 152 = .ok (.lsub, 1) := by decide +kernel
theorem dX12_next_153 : decode cX12_next 153 = .ok (.putfield 159, 3) := by decide +kernel
theorem dX12_next_156 : decode cX12_next 156 = .ok (.iload_n 1, 1) := by decide +kernel
theorem dX12_next_157 : decode cX12_next 157 = .ok (.bipush 11, 2) := by decide +kernel
theorem dX12_next_159 : decode cX12_next 159 = .ok (.if_icmp .le 10, 3) := by decide +kernel
theorem dX12_next_162 : decode cX12_next 162 = .ok (.aload_n 0, 1) := by decide +kernel
theorem dX12_next_163 : decode cX12_next 163 = .ok (.ldc2_w 166, 3) := by decide +kernel
theorem dX12_next_166 : decode cX12_next 166 = .ok (.putfield 159, 3) := by decide +kernel
theorem dX12_next_169 : decode cX12_next 169 = .ok (.aload_n 0, 1) := by decide +kernel
theorem dX12_next_170 : decode cX12_next 170 = .ok (.dup, 1) := by decide +kernel
theorem dX12_next_171 : decode cX12_next 171 = .ok (.getfield 146, 3) := by decide +kernel
theorem dX12_next_174 : decode cX12_next 174 = .ok (.iconst 1, 1) := by decide +kernel
theorem dX12_next_175 : decode cX12_next 175 = .ok (.iadd, 1) := by decide +kernel
theorem dX12_next_176 : decode cX12_next 176 = .ok (.putfield 146, 3) := by decide +kernel
theorem dX12_next_179 : decode cX12_next 179 = .ok (.iinc 1 1, 3) := by decide +kernel
theorem dX12_next_182 : decode cX12_next 182 = .ok (.goto (-80), 3) := by decide +kernel
theorem dX12_next_185 : decode cX12_next 185 = .ok (.goto 122, 3) := by decide +kernel
theorem dX12_next_188 : decode cX12_next 188 = .ok (.aload_n 0, 1) := by decide +kernel
theorem dX12_next_189 : decode cX12_next 189 = .ok (.aload_n 0, 1) := by decide +kernel
theorem dX12_next_190 : decode cX12_next 190 = .ok (.getfield 146, 3) := by decide +kernel
theorem dX12_next_193 : decode cX12_next 193 = .ok (.bipush 48, 2) := by decide +kernel
theorem dX12_next_195 : decode cX12_next 195 = .ok (.bipush 57, 2) := by decide +kernel
theorem dX12_next_197 : decode cX12_next 197 = .ok (.invokevirtual 149, 3) := by decide +kernel
theorem dX12_next_200 : decode cX12_next 200 = .ok (.ifCond .eq 74, 3) := by decide +kernel
theorem dX12_next_203 : decode cX12_next 203 = .ok (.aload_n 0, 1) := by decide +kernel
theorem dX12_next_204 : decode cX12_next 204 = .ok (.iconst 2, 1) := by decide +kernel
theorem dX12_next_205 : decode cX12_next 205 = .ok (.putfield 163, 3) := by decide +kernel
theorem dX12_next_208 : decode cX12_next 208 = .ok (.aload_n 0, 1) := by decide +kernel
theorem dX12_next_209 : decode cX12_next 209 = .ok (.aload_n 0, 1) := by decide +kernel
theorem dX12_next_210 : decode cX12_next 210 = .ok (.getfield 146, 3) := by decide +kernel
theorem dX12_next_213 : decode cX12_next 213 = .ok (.bipush 48, 2) := by decide +kernel
theorem dX12_next_215 : decode cX12_next 215 = .ok (.bipush 57, 2) := by decide +kernel
theorem dX12_next_217 : decode cX12_next 217 = .ok (.invokevirtual 149, 3) := by decide +kernel
theorem dX12_next_220 : decode cX12_next 220 = .ok (.ifCond .eq 87, 3) := by decide +kernel
theorem dX12_next_223 : decode cX12_next 223 = .ok (.aload_n 0, 1) := by decide +kernel
theorem dX12_next_224 : decode cX12_next 224 = .ok (.aload_n 0, 1) := by decide +kernel
theorem dX12_next_225 : decode cX12_next 225 = .ok (.getfield 156, 3) := by decide +kernel
theorem dX12_next_228 : decode cX12_next 228 = .ok (.ldc 172, 2) := by decide +kernel
theorem dX12_next_230 : decode cX12_next 230 = .ok (.if_icmp .le 8, 3) := by decide +kernel
theorem dX12_next_233 : decode cX12_next 233 = .ok (.ldc 173, 2) := by decide +kernel
theorem dX12_next_235 : decode cX12_next 235 = .ok (.goto 23, 3) := by decide +kernel
theorem dX12_next_238 : decode cX12_next 238 = .ok (.bipush 10, 2) := by decide +kernel
theorem dX12_next_240 : decode cX12_next 240 = .ok (.aload_n 0, 1) := by decide +kernel
theorem dX12_next_241 : decode cX12_next 241 = .ok (.getfield 156, 3) := by decide +kernel
theorem dX12_next_244 : decode cX12_next 244 = .ok (.imul, 1) := by decide +kernel
theorem dX12_next_245 : decode cX12_next 245 = .ok (.aload_n 0, 1) := by decide +kernel
theorem dX12_next_246 : decode cX12_next 246 = .ok (.getfield 23, 3) := by decide +kernel
theorem dX12_next_249 : decode cX12_next 249 = .ok (.aload_n 0, 1) := by decide +kernel
theorem dX12_next_250 : decode cX12_next 250 = .ok (.getfield 146, 3) := by decide +kernel
theorem dX12_next_253 : decode cX12_next 253 = .ok (.baload, 1) := by decide +kernel
theorem dX12_next_254 : decode cX12_next 254 = .ok (.iadd, 1) := by decide +kernel
theorem dX12_next_255 : decode cX12_next 255 = .ok (.bipush 48, 2) := by decide +kernel
theorem dX12_next_257 : decode cX12_next 257 = .ok (.isub, 1) := by decide +kernel
theorem dX12_next_258 : decode cX12_next 258 = .ok (.putfield 156, 3) := by decide +kernel
theorem dX12_next_261 : decode cX12_next 261 = .ok (.aload_n 0, 1) := by decide +kernel
theorem dX12_next_262 : decode cX12_next 262 = .ok (.dup, 1) := by decide +kernel
theorem dX12_next_263 : decode cX12_next 263 = .ok (.getfield 146, 3) := by decide +kernel
theorem dX12_next_266 : decode cX12_next 266 = .ok (.iconst 1, 1) := by decide +kernel
theorem dX12_next_267 : decode cX12_next 267 = .ok (.iadd, 1) := by decide +kernel
theorem dX12_next_268 : decode cX12_next 268 = .ok (.putfield 146, 3) := by decide +kernel
theorem dX12_next_271 : decode cX12_next 271 = .ok (.goto (-63), 3) := by decide +kernel
theorem dX12_next_274 : decode cX12_next 274 = .ok (.aload_n 0, 1) := by decide +kernel
theorem dX12_next_275 : decode cX12_next 275 = .ok (.aload_n 0, 1) := by decide +kernel
theorem dX12_next_276 : decode cX12_next 276 = .ok (.getfield 23, 3) := by decide +kernel
theorem dX12_next_279 : decode cX12_next 279 = .ok (.aload_n 0, 1) := by decide +kernel
theorem dX12_next_280 : decode cX12_next 280 = .ok (.getfield 146, 3) := by decide +kernel
theorem dX12_next_283 : decode cX12_next 283 = .ok (.baload, 1) := by decide +kernel
theorem dX12_next_284 : decode cX12_next 284 = .ok (.bipush 59, 2) := by decide +kernel
theorem dX12_next_286 : decode cX12_next 286 = .ok (.if_icmp .ne 7, 3) := by decide +kernel
theorem dX12_next_289 : decode cX12_next 289 = .ok (.iconst 3, 1) := by decide +kernel
theorem dX12_next_290 : decode cX12_next 290 = .ok (.goto 4, 3) := by decide +kernel
theorem dX12_next_293 : decode cX12_next 293 = .ok (.iconst 4, 1) := by decide +kernel
theorem dX12_next_294 : decode cX12_next 294 = .ok (.putfield 163, 3) := by decide +kernel
theorem dX12_next_297 : decode cX12_next 297 = .ok (.aload_n 0, 1) := by decide +kernel
theorem dX12_next_298 : decode cX12_next 298 = .ok (.dup, 1) := by decide +kernel
theorem dX12_next_299 : decode cX12_next 299 = .ok (.getfield 146, 3) := by decide +kernel
theorem dX12_next_302 : decode cX12_next 302 = .ok (.iconst 1, 1) := by decide +kernel
theorem dX12_next_303 : decode cX12_next 303 = .ok (.iadd, 1) := by decide +kernel
theorem dX12_next_304 : decode cX12_next 304 = .ok (.putfield 146, 3) := by decide +kernel
theorem dX12_next_307 : decode cX12_next 307 = .ok (.return_, 1) := by decide +kernel
theorem mokX12_next : MOK yX12_next cX12_next 2 none 0 := ⟨w7_189, w1_13, ⟨by decide, by decide⟩, by decide +kernel, by decide⟩
abbrev miX12_next : MI := (yX12_next.cls, cX12_next, 2, 2, false)
noncomputable def LX12_next_1 : Sm Unit := dLoop (fun f => (sR fr0 0 (gR f 0))) (dOr (dCZ q_ne (dCallV 12 DX12_isByte (aI (aI (aI (aR aN 0 (vR 0)) 1 (dGI 12 7 (vR 0))) 2 (cI 32)) 3 (cI 32)))) (dCZ q_ne (dCallV 12 DX12_isByte (aI (aI (aI (aR aN 0 (vR 0)) 1 (dGI 12 7 (vR 0))) 2 (cI 10)) 3 (cI 10))))) (dUF 12 7 o_iadd (vR 0) (cI 1)) dSkip
theorem sLX12_next_1 {ΓL : Gm} {PB PK : List Nat} : SS (cvoV, .return_) miX12_next ΓL PB PK [(0, 2)] [(0, 2)] 0 [43] LX12_next_1 := t_loop (pT := 30) (pF := 43) (pu := 0) (PB' := []) (PK' := []) (XB := [40]) (XU := [0]) (fun _ _ => rfl) rfl (c_or (p1 := 15) (pT := 30) (pF := 43) (c_ne_ZJ (pT := 30) (s_of_xI (x_callV (ts := [(0, 2), (1, 0), (2, 0), (3, 0)]) ck12 rfl kX12_isByte mokX12_isByte w7_192 ps3_12 rfl rfl rfl rfl (a_I (ts := [(0, 2), (1, 0), (2, 0)]) 3 (a_I (ts := [(0, 2), (1, 0)]) 2 (a_I (ts := [(0, 2)]) 1 (a_R (ts := []) 0 a_nil (s_aload_n dX12_next_0 rfl rfl) rfl) (s_getI ck12 7 (by decide) rfl (s_aload_n dX12_next_1 rfl rfl) dX12_next_2 w6_212) rfl) (s_bipush dX12_next_5 rfl) rfl) (s_bipush dX12_next_7 rfl) rfl) dX12_next_9 w7_190)) dX12_next_12 rfl) (c_ne_ZF (pF := 43) (s_of_xI (x_callV (ts := [(0, 2), (1, 0), (2, 0), (3, 0)]) ck12 rfl kX12_isByte mokX12_isByte w7_192 ps3_12 rfl rfl rfl rfl (a_I (ts := [(0, 2), (1, 0), (2, 0)]) 3 (a_I (ts := [(0, 2), (1, 0)]) 2 (a_I (ts := [(0, 2)]) 1 (a_R (ts := []) 0 a_nil (s_aload_n dX12_next_15 rfl rfl) rfl) (s_getI ck12 7 (by decide) rfl (s_aload_n dX12_next_16 rfl rfl) dX12_next_17 w6_212) rfl) (s_bipush dX12_next_20 rfl) rfl) (s_bipush dX12_next_22 rfl) rfl) dX12_next_24 w7_190)) dX12_next_27 rfl)) (t_UF ck12 7 (by decide) rfl (Or.inl rfl) (s_aload_n dX12_next_30 rfl rfl) dX12_next_31 dX12_next_32 w6_212 (s_iconst dX12_next_35 rfl) (fun _ _ _ _ => rulI fun a b K => lv_iadd a b dX12_next_36 K) dX12_next_37 w6_212 rfl) (t_skip (ld_in rfl) rfl) (lda_cons (ld_goto (y := 0) dX12_next_40 rfl (ld_in rfl)) lda_nil) lda_nil (lda_cons (ld_in rfl) lda_nil) (ld_in rfl) lda_nil
noncomputable def LX12_next_2 : Sm Unit := dLoop (fun f => (sI (sR fr0 0 (gR f 0)) 1 (gI f 1))) (dCZ q_ne (dCallV 12 DX12_isByte (aI (aI (aI (aR aN 0 (vR 0)) 1 (dGI 12 7 (vR 0))) 2 (cI 97)) 3 (cI 122)))) (dSeq (dP (fL 12 11) (vR 0) (dT (dCI r_gt (vI 1) (cI 11)) (cL (-1)) (d2 o_lsub (d2 o_ladd (d2 o_lmul (cL 27) (dGL 12 11 (vR 0))) (d1 o_i2l (dAB (dGR 12 5 (vR 0)) (dGI 12 7 (vR 0))))) (cL 96)))) (dSeq (dIf (dCI r_gt (vI 1) (cI 11)) (dP (fL 12 11) (vR 0) (cL (-1))) dSkip) (dUF 12 7 o_iadd (vR 0) (cI 1)))) (dInc 1 1)
theorem sLX12_next_2 {ΓL : Gm} {PB PK : List Nat} : SS (cvoV, .return_) miX12_next ΓL PB PK [(0, 2), (1, 0)] [(0, 2), (1, 0)] 102 [185] LX12_next_2 := t_loop (pT := 117) (pF := 185) (pu := 179) (PB' := []) (PK' := []) (XB := [179]) (XU := [182]) (fun _ _ => rfl) rfl (c_ne_ZF (pF := 185) (s_of_xI (x_callV (ts := [(0, 2), (1, 0), (2, 0), (3, 0)]) ck12 rfl kX12_isByte mokX12_isByte w7_192 ps3_12 rfl rfl rfl rfl (a_I (ts := [(0, 2), (1, 0), (2, 0)]) 3 (a_I (ts := [(0, 2), (1, 0)]) 2 (a_I (ts := [(0, 2)]) 1 (a_R (ts := []) 0 a_nil (s_aload_n dX12_next_102 rfl rfl) rfl) (s_getI ck12 7 (by decide) rfl (s_aload_n dX12_next_103 rfl rfl) dX12_next_104 w6_212) rfl) (s_bipush dX12_next_107 rfl) rfl) (s_bipush dX12_next_109 rfl) rfl) dX12_next_111 w7_190)) dX12_next_114 rfl) (t_sq (p1 := 156) (Γ' := [(0, 2), (1, 0)]) (t_pL ck12 11 (by decide) rfl (Or.inl rfl) (s_aload_n dX12_next_117 rfl rfl) (s_T (pT := 124) (pF := 130) (p1 := 127) (pe := 153) (c_gt_F (pF := 130) (s_iload_n dX12_next_118 rfl rfl) (s_bipush dX12_next_119 rfl) dX12_next_121 rfl) (s_ldc2 dX12_next_124 w7_194) (s_lsub (s_ladd (s_lmul (s_ldc2 dX12_next_130 w7_195) (s_getL ck12 11 (by decide) rfl (s_aload_n dX12_next_133 rfl rfl) dX12_next_134 w6_216) dX12_next_137) (s_i2l (s_dAB (s_getR ck12 5 (by decide) rfl (s_aload_n dX12_next_138 rfl rfl) dX12_next_139 w6_210) (s_getI ck12 7 (by decide) rfl (s_aload_n dX12_next_142 rfl rfl) dX12_next_143 w6_212) dX12_next_146) dX12_next_147) dX12_next_148) (s_ldc2 dX12_next_149 w7_196) dX12_next_152) (ld_goto (y := 153) dX12_next_127 rfl (ld_in rfl))) dX12_next_153 w6_216 rfl) (t_sq (p1 := 169) (Γ' := [(0, 2), (1, 0)]) (t_if (pT := 162) (pF := 169) (X := [169]) (XA := [169]) (XB := [169]) (c_gt_F (pF := 169) (s_iload_n dX12_next_156 rfl rfl) (s_bipush dX12_next_157 rfl) dX12_next_159 rfl) (t_pL ck12 11 (by decide) rfl (Or.inl rfl) (s_aload_n dX12_next_162 rfl rfl) (s_ldc2 dX12_next_163 w7_194) dX12_next_166 w6_216 rfl) (t_skip (ld_in rfl) rfl) (lda_cons (ld_in rfl) lda_nil) (lda_cons (ld_in rfl) lda_nil)) (t_UF ck12 7 (by decide) rfl (Or.inl rfl) (s_aload_n dX12_next_169 rfl rfl) dX12_next_170 dX12_next_171 w6_212 (s_iconst dX12_next_174 rfl) (fun _ _ _ _ => rulI fun a b K => lv_iadd a b dX12_next_175 K) dX12_next_176 w6_212 rfl))) (t_iinc dX12_next_179 rfl rfl rfl rfl) (lda_cons (ld_in rfl) lda_nil) lda_nil (lda_cons (ld_goto (y := 102) dX12_next_182 rfl (ld_in rfl)) lda_nil) (ld_in rfl) lda_nil
noncomputable def LX12_next_3 : Sm Unit := dLoop (fun f => (sR fr0 0 (gR f 0))) (dCZ q_ne (dCallV 12 DX12_isByte (aI (aI (aI (aR aN 0 (vR 0)) 1 (dGI 12 7 (vR 0))) 2 (cI 48)) 3 (cI 57)))) (dSeq (dP (fI 12 10) (vR 0) (dT (dCI r_gt (dGI 12 10 (vR 0)) (cI 100000)) (cI 1000000) (d2 o_isub (d2 o_iadd (d2 o_imul (cI 10) (dGI 12 10 (vR 0))) (dAB (dGR 12 5 (vR 0)) (dGI 12 7 (vR 0)))) (cI 48)))) (dUF 12 7 o_iadd (vR 0) (cI 1))) dSkip
theorem sLX12_next_3 {ΓL : Gm} {PB PK : List Nat} : SS (cvoV, .return_) miX12_next ΓL PB PK [(0, 2)] [(0, 2)] 208 [307] LX12_next_3 := t_loop (pT := 223) (pF := 307) (pu := 208) (PB' := []) (PK' := []) (XB := [271]) (XU := [208]) (fun _ _ => rfl) rfl (c_ne_ZF (pF := 307) (s_of_xI (x_callV (ts := [(0, 2), (1, 0), (2, 0), (3, 0)]) ck12 rfl kX12_isByte mokX12_isByte w7_192 ps3_12 rfl rfl rfl rfl (a_I (ts := [(0, 2), (1, 0), (2, 0)]) 3 (a_I (ts := [(0, 2), (1, 0)]) 2 (a_I (ts := [(0, 2)]) 1 (a_R (ts := []) 0 a_nil (s_aload_n dX12_next_208 rfl rfl) rfl) (s_getI ck12 7 (by decide) rfl (s_aload_n dX12_next_209 rfl rfl) dX12_next_210 w6_212) rfl) (s_bipush dX12_next_213 rfl) rfl) (s_bipush dX12_next_215 rfl) rfl) dX12_next_217 w7_190)) dX12_next_220 rfl) (t_sq (p1 := 261) (Γ' := [(0, 2)]) (t_pI ck12 10 (by decide) rfl (Or.inl rfl) (s_aload_n dX12_next_223 rfl rfl) (s_T (pT := 233) (pF := 238) (p1 := 235) (pe := 258) (c_gt_F (pF := 238) (s_getI ck12 10 (by decide) rfl (s_aload_n dX12_next_224 rfl rfl) dX12_next_225 w6_215) (s_ldc dX12_next_228 w7_197) dX12_next_230 rfl) (s_ldc dX12_next_233 w7_198) (s_isub (s_iadd (s_imul (s_bipush dX12_next_238 rfl) (s_getI ck12 10 (by decide) rfl (s_aload_n dX12_next_240 rfl rfl) dX12_next_241 w6_215) dX12_next_244) (s_dAB (s_getR ck12 5 (by decide) rfl (s_aload_n dX12_next_245 rfl rfl) dX12_next_246 w6_210) (s_getI ck12 7 (by decide) rfl (s_aload_n dX12_next_249 rfl rfl) dX12_next_250 w6_212) dX12_next_253) dX12_next_254) (s_bipush dX12_next_255 rfl) dX12_next_257) (ld_goto (y := 258) dX12_next_235 rfl (ld_in rfl))) dX12_next_258 w6_215 rfl) (t_UF ck12 7 (by decide) rfl (Or.inl rfl) (s_aload_n dX12_next_261 rfl rfl) dX12_next_262 dX12_next_263 w6_212 (s_iconst dX12_next_266 rfl) (fun _ _ _ _ => rulI fun a b K => lv_iadd a b dX12_next_267 K) dX12_next_268 w6_212 rfl)) (t_skip (ld_in rfl) rfl) (lda_cons (ld_goto (y := 208) dX12_next_271 rfl (ld_in rfl)) lda_nil) lda_nil (lda_cons (ld_in rfl) lda_nil) (ld_in rfl) lda_nil
noncomputable def BX12_next : Sm Unit := (dSeq LX12_next_1 (dSeq (dP (fI 12 9) (vR 0) (dGI 12 7 (vR 0))) (dSeq (dP (fI 12 10) (vR 0) (cI 0)) (dSeq (dP (fL 12 11) (vR 0) (cL 0)) (dSeq (dIf (dCI r_eq (dGI 12 7 (vR 0)) (dGI 12 6 (vR 0))) (dP (fI 12 8) (vR 0) (cI 0)) (dIf (dCZ q_ne (dCallV 12 DX12_isByte (aI (aI (aI (aR aN 0 (vR 0)) 1 (dGI 12 7 (vR 0))) 2 (cI 97)) 3 (cI 122)))) (dSeq (dP (fI 12 8) (vR 0) (cI 1)) (dSeq (dSetI 1 (cI 0)) LX12_next_2)) (dIf (dCZ q_ne (dCallV 12 DX12_isByte (aI (aI (aI (aR aN 0 (vR 0)) 1 (dGI 12 7 (vR 0))) 2 (cI 48)) 3 (cI 57)))) (dSeq (dP (fI 12 8) (vR 0) (cI 2)) LX12_next_3) (dSeq (dP (fI 12 8) (vR 0) (dT (dCI r_eq (dAB (dGR 12 5 (vR 0)) (dGI 12 7 (vR 0))) (cI 59)) (cI 3) (cI 4))) (dUF 12 7 o_iadd (vR 0) (cI 1)))))) dRet0)))))
theorem sBX12_next : SS (cvoV, .return_) miX12_next [] [] [] [(0, 2)] [(0, 2)] 0 [] BX12_next := (t_sq (p1 := 43) (Γ' := [(0, 2)]) (tn_to (Γ' := [(0, 2)]) (XA := [43]) sLX12_next_1 (lda_cons (ld_in rfl) lda_nil) rfl) (t_sq (p1 := 51) (Γ' := [(0, 2)]) (t_pI ck12 9 (by decide) rfl (Or.inl rfl) (s_aload_n dX12_next_43 rfl rfl) (s_getI ck12 7 (by decide) rfl (s_aload_n dX12_next_44 rfl rfl) dX12_next_45 w6_212) dX12_next_48 w6_214 rfl) (t_sq (p1 := 56) (Γ' := [(0, 2)]) (t_pI ck12 10 (by decide) rfl (Or.inl rfl) (s_aload_n dX12_next_51 rfl rfl) (s_iconst dX12_next_52 rfl) dX12_next_53 w6_215 rfl) (t_sq (p1 := 61) (Γ' := [(0, 2)]) (t_pL ck12 11 (by decide) rfl (Or.inl rfl) (s_aload_n dX12_next_56 rfl rfl) (s_lconst dX12_next_57 rfl) dX12_next_58 w6_216 rfl) (t_sq (p1 := 307) (Γ' := [(0, 2)]) (t_if (pT := 72) (pF := 80) (X := [307]) (XA := [77]) (XB := [307]) (c_eq_F (pF := 80) (s_getI ck12 7 (by decide) rfl (s_aload_n dX12_next_61 rfl rfl) dX12_next_62 w6_212) (s_getI ck12 6 (by decide) rfl (s_aload_n dX12_next_65 rfl rfl) dX12_next_66 w6_211) dX12_next_69 rfl) (t_pI ck12 8 (by decide) rfl (Or.inl rfl) (s_aload_n dX12_next_72 rfl rfl) (s_iconst dX12_next_73 rfl) dX12_next_74 w6_213 rfl) (t_if (pT := 95) (pF := 188) (X := [307]) (XA := [185]) (XB := [307]) (c_ne_ZF (pF := 188) (s_of_xI (x_callV (ts := [(0, 2), (1, 0), (2, 0), (3, 0)]) ck12 rfl kX12_isByte mokX12_isByte w7_192 ps3_12 rfl rfl rfl rfl (a_I (ts := [(0, 2), (1, 0), (2, 0)]) 3 (a_I (ts := [(0, 2), (1, 0)]) 2 (a_I (ts := [(0, 2)]) 1 (a_R (ts := []) 0 a_nil (s_aload_n dX12_next_80 rfl rfl) rfl) (s_getI ck12 7 (by decide) rfl (s_aload_n dX12_next_81 rfl rfl) dX12_next_82 w6_212) rfl) (s_bipush dX12_next_85 rfl) rfl) (s_bipush dX12_next_87 rfl) rfl) dX12_next_89 w7_190)) dX12_next_92 rfl) (t_sq (p1 := 100) (Γ' := [(0, 2)]) (t_pI ck12 8 (by decide) rfl (Or.inl rfl) (s_aload_n dX12_next_95 rfl rfl) (s_iconst dX12_next_96 rfl) dX12_next_97 w6_213 rfl) (t_sq (p1 := 102) (Γ' := [(0, 2), (1, 0)]) (t_istore_n (s_iconst dX12_next_100 rfl) dX12_next_101 rfl rfl rfl) (tn_to (Γ' := [(0, 2), (1, 0)]) (XA := [185]) sLX12_next_2 (lda_cons (ld_in rfl) lda_nil) rfl))) (t_if (pT := 203) (pF := 274) (X := [307]) (XA := [307]) (XB := [307]) (c_ne_ZF (pF := 274) (s_of_xI (x_callV (ts := [(0, 2), (1, 0), (2, 0), (3, 0)]) ck12 rfl kX12_isByte mokX12_isByte w7_192 ps3_12 rfl rfl rfl rfl (a_I (ts := [(0, 2), (1, 0), (2, 0)]) 3 (a_I (ts := [(0, 2), (1, 0)]) 2 (a_I (ts := [(0, 2)]) 1 (a_R (ts := []) 0 a_nil (s_aload_n dX12_next_188 rfl rfl) rfl) (s_getI ck12 7 (by decide) rfl (s_aload_n dX12_next_189 rfl rfl) dX12_next_190 w6_212) rfl) (s_bipush dX12_next_193 rfl) rfl) (s_bipush dX12_next_195 rfl) rfl) dX12_next_197 w7_190)) dX12_next_200 rfl) (t_sq (p1 := 208) (Γ' := [(0, 2)]) (t_pI ck12 8 (by decide) rfl (Or.inl rfl) (s_aload_n dX12_next_203 rfl rfl) (s_iconst dX12_next_204 rfl) dX12_next_205 w6_213 rfl) (tn_to (Γ' := [(0, 2)]) (XA := [307]) sLX12_next_3 (lda_cons (ld_in rfl) lda_nil) rfl)) (t_sq (p1 := 297) (Γ' := [(0, 2)]) (t_pI ck12 8 (by decide) rfl (Or.inl rfl) (s_aload_n dX12_next_274 rfl rfl) (s_T (pT := 289) (pF := 293) (p1 := 290) (pe := 294) (c_eq_F (pF := 293) (s_dAB (s_getR ck12 5 (by decide) rfl (s_aload_n dX12_next_275 rfl rfl) dX12_next_276 w6_210) (s_getI ck12 7 (by decide) rfl (s_aload_n dX12_next_279 rfl rfl) dX12_next_280 w6_212) dX12_next_283) (s_bipush dX12_next_284 rfl) dX12_next_286 rfl) (s_iconst dX12_next_289 rfl) (s_iconst dX12_next_293 rfl) (ld_goto (y := 294) dX12_next_290 rfl (ld_in rfl))) dX12_next_294 w6_213 rfl) (t_UF ck12 7 (by decide) rfl (Or.inl rfl) (s_aload_n dX12_next_297 rfl rfl) dX12_next_298 dX12_next_299 w6_212 (s_iconst dX12_next_302 rfl) (fun _ _ _ _ => rulI fun a b K => lv_iadd a b dX12_next_303 K) dX12_next_304 w6_212 rfl)) (lda_cons (ld_in rfl) lda_nil) (lda_cons (ld_in rfl) lda_nil)) (lda_cons (ld_goto (y := 307) dX12_next_185 rfl (ld_in rfl)) lda_nil) (lda_cons (ld_in rfl) lda_nil)) (lda_cons (ld_goto (y := 307) dX12_next_77 rfl (ld_in rfl)) lda_nil) (lda_cons (ld_in rfl) lda_nil)) (t_ret0 (fun _ _ => rfl) dX12_next_307))))))
noncomputable def DX12_next : Fr → St → Option (Unit × St) := M1 (fun f => (sR fr0 0 (gR f 0))) BX12_next
theorem kX12_next : SND yX12_next cX12_next 2 none 2 [(0, 2)] cvoV DX12_next := snd_V (nw := 1) (by decide) (fun z => by cases z) rfl rfl (fun _ _ => rfl) sBX12_next
theorem dX12_isGood_0 : decode cX12_isGood 0 = .ok (.aload_n 0, 1) := by decide +kernel
theorem dX12_isGood_1 : decode cX12_isGood 1 = .ok (.getfield 174, 3) := by decide +kernel
theorem dX12_isGood_4 : decode cX12_isGood 4 = .ok (.ifCond .ne 7, 3) := by decide +kernel
theorem dX12_isGood_7 : decode cX12_isGood 7 = .ok (.iconst 1, 1) := by decide +kernel
theorem dX12_isGood_8 : decode cX12_isGood 8 = .ok (.goto 4, 3) := by decide +kernel
theorem dX12_isGood_11 : decode cX12_isGood 11 = .ok (.iconst 0, 1) := by decide +kernel
theorem dX12_isGood_12 : decode cX12_isGood 12 = .ok (.ireturn, 1) := by decide +kernel
theorem mokX12_isGood : MOK yX12_isGood cX12_isGood 1 (some .boolean) 0 := ⟨w7_202, w1_13, ⟨by decide, by decide⟩, by decide +kernel, by decide⟩
abbrev miX12_isGood : MI := (yX12_isGood.cls, cX12_isGood, 1, 1, false)
noncomputable def BX12_isGood : Sm Int32 := (dRet (dB (dCZ q_eq (dGI 12 12 (vR 0)))))
theorem sBX12_isGood : SS (cvoI, .ireturn) miX12_isGood [] [] [] [(0, 2)] [(0, 2)] 0 [] BX12_isGood := (t_ret (cv := cvI) (fun _ _ => rfl) (s_B (pT := 7) (pF := 11) (pe := 12) (c_eq_ZF (pF := 11) (s_getI ck12 12 (by decide) rfl (s_aload_n dX12_isGood_0 rfl rfl) dX12_isGood_1 w6_217) dX12_isGood_4 rfl) dX12_isGood_7 dX12_isGood_8 rfl dX12_isGood_11 rfl) dX12_isGood_12)
noncomputable def DX12_isGood : Fr → St → Option (Int32 × St) := MZ (fun f => (sR fr0 0 (gR f 0))) BX12_isGood
theorem kX12_isGood : SND yX12_isGood cX12_isGood 1 (some .boolean) 1 [(0, 2)] cvoI DX12_isGood := snd_Z (nw := 1) (by decide) rfl rfl (fun _ _ => rfl) sBX12_isGood
theorem dX12_fails_0 : decode cX12_fails 0 = .ok (.aload_n 0, 1) := by decide +kernel
theorem dX12_fails_1 : decode cX12_fails 1 = .ok (.getfield 174, 3) := by decide +kernel
theorem dX12_fails_4 : decode cX12_fails 4 = .ok (.ifCond .eq 4, 3) := by decide +kernel
theorem dX12_fails_7 : decode cX12_fails 7 = .ok (.return_, 1) := by decide +kernel
theorem dX12_fails_8 : decode cX12_fails 8 = .ok (.aload_n 0, 1) := by decide +kernel
theorem dX12_fails_9 : decode cX12_fails 9 = .ok (.iload_n 1, 1) := by decide +kernel
theorem dX12_fails_10 : decode cX12_fails 10 = .ok (.putfield 174, 3) := by decide +kernel
theorem dX12_fails_13 : decode cX12_fails 13 = .ok (.aload_n 0, 1) := by decide +kernel
theorem dX12_fails_14 : decode cX12_fails 14 = .ok (.aload_n 0, 1) := by decide +kernel
theorem dX12_fails_15 : decode cX12_fails 15 = .ok (.getfield 153, 3) := by decide +kernel
theorem dX12_fails_18 : decode cX12_fails 18 = .ok (.putfield 177, 3) := by decide +kernel
theorem dX12_fails_21 : decode cX12_fails 21 = .ok (.return_, 1) := by decide +kernel
theorem mokX12_fails : MOK yX12_fails cX12_fails 2 none 1 := ⟨w7_219, w1_13, ⟨by decide, by decide⟩, by decide +kernel, by decide⟩
abbrev miX12_fails : MI := (yX12_fails.cls, cX12_fails, 2, 1, false)
noncomputable def BX12_fails : Sm Unit := (dSeq (dIf (dCZ q_ne (dGI 12 12 (vR 0))) dRet0 dSkip) (dSeq (dP (fI 12 12) (vR 0) (vI 1)) (dSeq (dP (fI 12 13) (vR 0) (dGI 12 9 (vR 0))) dRet0)))
theorem sBX12_fails : SS (cvoV, .return_) miX12_fails [] [] [] [(0, 2), (1, 0)] [(0, 2), (1, 0)] 0 [] BX12_fails := (t_sq (p1 := 8) (Γ' := [(0, 2), (1, 0)]) (t_if (pT := 7) (pF := 8) (X := [8]) (XA := []) (XB := [8]) (c_ne_ZF (pF := 8) (s_getI ck12 12 (by decide) rfl (s_aload_n dX12_fails_0 rfl rfl) dX12_fails_1 w6_217) dX12_fails_4 rfl) (t_ret0 (fun _ _ => rfl) dX12_fails_7) (t_skip (ld_in rfl) rfl) lda_nil (lda_cons (ld_in rfl) lda_nil)) (t_sq (p1 := 13) (Γ' := [(0, 2), (1, 0)]) (t_pI ck12 12 (by decide) rfl (Or.inl rfl) (s_aload_n dX12_fails_8 rfl rfl) (s_iload_n dX12_fails_9 rfl rfl) dX12_fails_10 w6_217 rfl) (t_sq (p1 := 21) (Γ' := [(0, 2), (1, 0)]) (t_pI ck12 13 (by decide) rfl (Or.inl rfl) (s_aload_n dX12_fails_13 rfl rfl) (s_getI ck12 9 (by decide) rfl (s_aload_n dX12_fails_14 rfl rfl) dX12_fails_15 w6_214) dX12_fails_18 w6_218 rfl) (t_ret0 (fun _ _ => rfl) dX12_fails_21))))
noncomputable def DX12_fails : Fr → St → Option (Unit × St) := M1 (fun f => (sI (sR fr0 0 (gR f 0)) 1 (gI f 1))) BX12_fails
theorem kX12_fails : SND yX12_fails cX12_fails 2 none 1 [(0, 2), (1, 0)] cvoV DX12_fails := snd_V (nw := 2) (by decide) (fun z => by cases z) rfl rfl (fun _ _ => rfl) sBX12_fails
theorem dX12_is_0 : decode cX12_is 0 = .ok (.aload_n 0, 1) := by decide +kernel
theorem dX12_is_1 : decode cX12_is 1 = .ok (.getfield 174, 3) := by decide +kernel
theorem dX12_is_4 : decode cX12_is 4 = .ok (.ifCond .ne 24, 3) := by decide +kernel
theorem dX12_is_7 : decode cX12_is 7 = .ok (.aload_n 0, 1) := by decide +kernel
theorem dX12_is_8 : decode cX12_is 8 = .ok (.getfield 163, 3) := by decide +kernel
theorem dX12_is_11 : decode cX12_is 11 = .ok (.iconst 1, 1) := by decide +kernel
theorem dX12_is_12 : decode cX12_is 12 = .ok (.if_icmp .ne 16, 3) := by decide +kernel
theorem dX12_is_15 : decode cX12_is 15 = .ok (.aload_n 0, 1) := by decide +kernel
theorem dX12_is_16 : decode cX12_is 16 = .ok (.getfield 159, 3) := by decide +kernel
theorem dX12_is_19 : decode cX12_is 19 = .ok (.lload_n 1, 1) := by decide +kernel
theorem dX12_is_20 : decode cX12_is 20 = .ok (.lcmp, 1) := by decide +kernel
theorem dX12_is_21 : decode cX12_is 21 = .ok (.ifCond .ne 7, 3) := by decide +kernel
theorem dX12_is_24 : decode cX12_is 24 = .ok (.iconst 1, 1) := by decide +kernel
theorem dX12_is_25 : decode cX12_is 25 = .ok (.goto 4, 3) := by decide +kernel
theorem dX12_is_28 : decode cX12_is 28 = .ok (.iconst 0, 1) := by decide +kernel
theorem dX12_is_29 : decode cX12_is 29 = .ok (.ireturn, 1) := by decide +kernel
theorem mokX12_is : MOK yX12_is cX12_is 3 (some .boolean) 1 := ⟨w7_215, w1_13, ⟨by decide, by decide⟩, by decide +kernel, by decide⟩
abbrev miX12_is : MI := (yX12_is.cls, cX12_is, 3, 1, false)
noncomputable def BX12_is : Sm Int32 := (dRet (dB (dAnd (dAnd (dCZ q_eq (dGI 12 12 (vR 0))) (dCI r_eq (dGI 12 8 (vR 0)) (cI 1))) (dCZ q_eq (d2 o_lcmp (dGL 12 11 (vR 0)) (vL 1))))))
theorem sBX12_is : SS (cvoI, .ireturn) miX12_is [] [] [] [(0, 2), (1, 1)] [(0, 2), (1, 1)] 0 [] BX12_is := (t_ret (cv := cvI) (fun _ _ => rfl) (s_B (pT := 24) (pF := 28) (pe := 29) (c_and (p1 := 15) (pT := 24) (pF := 28) (c_and (p1 := 7) (pT := 15) (pF := 28) (c_eq_ZF (pF := 28) (s_getI ck12 12 (by decide) rfl (s_aload_n dX12_is_0 rfl rfl) dX12_is_1 w6_217) dX12_is_4 rfl) (c_eq_F (pF := 28) (s_getI ck12 8 (by decide) rfl (s_aload_n dX12_is_7 rfl rfl) dX12_is_8 w6_213) (s_iconst dX12_is_11 rfl) dX12_is_12 rfl)) (c_eq_ZF (pF := 28) (s_lcmp (s_getL ck12 11 (by decide) rfl (s_aload_n dX12_is_15 rfl rfl) dX12_is_16 w6_216) (s_lload_n dX12_is_19 rfl rfl) dX12_is_20) dX12_is_21 rfl)) dX12_is_24 dX12_is_25 rfl dX12_is_28 rfl) dX12_is_29)
noncomputable def DX12_is : Fr → St → Option (Int32 × St) := MZ (fun f => (sL (sR fr0 0 (gR f 0)) 1 (gL f 1))) BX12_is
theorem kX12_is : SND yX12_is cX12_is 3 (some .boolean) 1 [(0, 2), (1, 1)] cvoI DX12_is := snd_Z (nw := 3) (by decide) rfl rfl (fun _ _ => rfl) sBX12_is
theorem dX12_takes_0 : decode cX12_takes 0 = .ok (.aload_n 0, 1) := by decide +kernel
theorem dX12_takes_1 : decode cX12_takes 1 = .ok (.lload_n 1, 1) := by decide +kernel
theorem dX12_takes_2 : decode cX12_takes 2 = .ok (.invokevirtual 180, 3) := by decide +kernel
theorem dX12_takes_5 : decode cX12_takes 5 = .ok (.ifCond .ne 5, 3) := by decide +kernel
theorem dX12_takes_8 : decode cX12_takes 8 = .ok (.iconst 0, 1) := by decide +kernel
theorem dX12_takes_9 : decode cX12_takes 9 = .ok (.ireturn, 1) := by decide +kernel
theorem dX12_takes_10 : decode cX12_takes 10 = .ok (.aload_n 0, 1) := by decide +kernel
theorem dX12_takes_11 : decode cX12_takes 11 = .ok (.invokevirtual 184, 3) := by decide +kernel
theorem dX12_takes_14 : decode cX12_takes 14 = .ok (.iconst 1, 1) := by decide +kernel
theorem dX12_takes_15 : decode cX12_takes 15 = .ok (.ireturn, 1) := by decide +kernel
theorem mokX12_takes : MOK yX12_takes cX12_takes 3 (some .boolean) 1 := ⟨w7_211, w1_13, ⟨by decide, by decide⟩, by decide +kernel, by decide⟩
abbrev miX12_takes : MI := (yX12_takes.cls, cX12_takes, 3, 3, false)
noncomputable def BX12_takes : Sm Int32 := (dSeq (dIf (dNot (dCZ q_ne (dCallV 12 DX12_is (aL (aR aN 0 (vR 0)) 1 (vL 1))))) (dRet (cI 0)) dSkip) (dSeq (dDo (dCallV 12 DX12_next (aR aN 0 (vR 0)))) (dRet (cI 1))))
theorem sBX12_takes : SS (cvoI, .ireturn) miX12_takes [] [] [] [(0, 2), (1, 1)] [(0, 2), (1, 1)] 0 [] BX12_takes := (t_sq (p1 := 10) (Γ' := [(0, 2), (1, 1)]) (t_if (pT := 8) (pF := 10) (X := [10]) (XA := []) (XB := [10]) (c_not (pT := 8) (pF := 10) (c_ne_ZJ (pT := 10) (s_of_xI (x_callV (ts := [(0, 2), (1, 1)]) ck12 rfl kX12_is mokX12_is w7_214 ps4_0 rfl rfl rfl rfl (a_L (ts := [(0, 2)]) 1 (a_R (ts := []) 0 a_nil (s_aload_n dX12_takes_0 rfl rfl) rfl) (s_lload_n dX12_takes_1 rfl rfl) rfl) dX12_takes_2 w7_212)) dX12_takes_5 rfl)) (t_ret (cv := cvI) (fun _ _ => rfl) (s_iconst dX12_takes_8 rfl) dX12_takes_9) (t_skip (ld_in rfl) rfl) lda_nil (lda_cons (ld_in rfl) lda_nil)) (t_sq (p1 := 14) (Γ' := [(0, 2), (1, 1)]) (t_do (x_callV (ts := [(0, 2)]) ck12 rfl kX12_next mokX12_next w7_188 ps3_11 rfl rfl rfl rfl (a_R (ts := []) 0 a_nil (s_aload_n dX12_takes_10 rfl rfl) rfl) dX12_takes_11 w7_186) rfl) (t_ret (cv := cvI) (fun _ _ => rfl) (s_iconst dX12_takes_14 rfl) dX12_takes_15)))
noncomputable def DX12_takes : Fr → St → Option (Int32 × St) := MZ (fun f => (sL (sR fr0 0 (gR f 0)) 1 (gL f 1))) BX12_takes
theorem kX12_takes : SND yX12_takes cX12_takes 3 (some .boolean) 3 [(0, 2), (1, 1)] cvoI DX12_takes := snd_Z (nw := 3) (by decide) rfl rfl (fun _ _ => rfl) sBX12_takes
theorem dX12_asks_0 : decode cX12_asks 0 = .ok (.aload_n 0, 1) := by decide +kernel
theorem dX12_asks_1 : decode cX12_asks 1 = .ok (.lload_n 1, 1) := by decide +kernel
theorem dX12_asks_2 : decode cX12_asks 2 = .ok (.invokevirtual 187, 3) := by decide +kernel
theorem dX12_asks_5 : decode cX12_asks 5 = .ok (.ifCond .ne 8, 3) := by decide +kernel
theorem dX12_asks_8 : decode cX12_asks 8 = .ok (.aload_n 0, 1) := by decide +kernel
theorem dX12_asks_9 : decode cX12_asks 9 = .ok (.iconst 1, 1) := by decide +kernel
theorem dX12_asks_10 : decode cX12_asks 10 = .ok (.invokevirtual 190, 3) := by decide +kernel
theorem dX12_asks_13 : decode cX12_asks 13 = .ok (.return_, 1) := by decide +kernel
theorem mokX12_asks : MOK yX12_asks cX12_asks 3 none 1 := ⟨w7_207, w1_13, ⟨by decide, by decide⟩, by decide +kernel, by decide⟩
abbrev miX12_asks : MI := (yX12_asks.cls, cX12_asks, 3, 4, false)
noncomputable def BX12_asks : Sm Unit := (dSeq (dIf (dNot (dCZ q_ne (dCallV 12 DX12_takes (aL (aR aN 0 (vR 0)) 1 (vL 1))))) (dDo (dCallV 12 DX12_fails (aI (aR aN 0 (vR 0)) 1 (cI 1)))) dSkip) dRet0)
theorem sBX12_asks : SS (cvoV, .return_) miX12_asks [] [] [] [(0, 2), (1, 1)] [(0, 2), (1, 1)] 0 [] BX12_asks := (t_sq (p1 := 13) (Γ' := [(0, 2), (1, 1)]) (t_if (pT := 8) (pF := 13) (X := [13]) (XA := [13]) (XB := [13]) (c_not (pT := 8) (pF := 13) (c_ne_ZJ (pT := 13) (s_of_xI (x_callV (ts := [(0, 2), (1, 1)]) ck12 rfl kX12_takes mokX12_takes w7_210 ps3_15 rfl rfl rfl rfl (a_L (ts := [(0, 2)]) 1 (a_R (ts := []) 0 a_nil (s_aload_n dX12_asks_0 rfl rfl) rfl) (s_lload_n dX12_asks_1 rfl rfl) rfl) dX12_asks_2 w7_208)) dX12_asks_5 rfl)) (t_do (x_callV (ts := [(0, 2), (1, 0)]) ck12 rfl kX12_fails mokX12_fails w7_218 ps4_1 rfl rfl rfl rfl (a_I (ts := [(0, 2)]) 1 (a_R (ts := []) 0 a_nil (s_aload_n dX12_asks_8 rfl rfl) rfl) (s_iconst dX12_asks_9 rfl) rfl) dX12_asks_10 w7_216) rfl) (t_skip (ld_in rfl) rfl) (lda_cons (ld_in rfl) lda_nil) (lda_cons (ld_in rfl) lda_nil)) (t_ret0 (fun _ _ => rfl) dX12_asks_13))
noncomputable def DX12_asks : Fr → St → Option (Unit × St) := M1 (fun f => (sL (sR fr0 0 (gR f 0)) 1 (gL f 1))) BX12_asks
theorem kX12_asks : SND yX12_asks cX12_asks 3 none 4 [(0, 2), (1, 1)] cvoV DX12_asks := snd_V (nw := 3) (by decide) (fun z => by cases z) rfl rfl (fun _ _ => rfl) sBX12_asks
theorem dX12_number_0 : decode cX12_number 0 = .ok (.aload_n 0, 1) := by decide +kernel
theorem dX12_number_1 : decode cX12_number 1 = .ok (.getfield 174, 3) := by decide +kernel
theorem dX12_number_4 : decode cX12_number 4 = .ok (.ifCond .eq 5, 3) := by decide +kernel
theorem dX12_number_7 : decode cX12_number 7 = .ok (.iload_n 1, 1) := by decide +kernel
theorem dX12_number_8 : decode cX12_number 8 = .ok (.ireturn, 1) := by decide +kernel
theorem dX12_number_9 : decode cX12_number 9 = .ok (.aload_n 0, 1) := by decide +kernel
theorem dX12_number_10 : decode cX12_number 10 = .ok (.getfield 163, 3) := by decide +kernel
theorem dX12_number_13 : decode cX12_number 13 = .ok (.iconst 2, 1) := by decide +kernel
theorem dX12_number_14 : decode cX12_number 14 = .ok (.if_icmp .eq 10, 3) := by decide +kernel
theorem dX12_number_17 : decode cX12_number 17 = .ok (.aload_n 0, 1) := by decide +kernel
theorem dX12_number_18 : decode cX12_number 18 = .ok (.iconst 1, 1) := by decide +kernel
theorem dX12_number_19 : decode cX12_number 19 = .ok (.invokevirtual 190, 3) := by decide +kernel
theorem dX12_number_22 : decode cX12_number 22 = .ok (.iload_n 1, 1) := by decide +kernel
theorem dX12_number_23 : decode cX12_number 23 = .ok (.ireturn, 1) := by decide +kernel
theorem dX12_number_24 : decode cX12_number 24 = .ok (.aload_n 0, 1) := by decide +kernel
theorem dX12_number_25 : decode cX12_number 25 = .ok (.getfield 156, 3) := by decide +kernel
theorem dX12_number_28 : decode cX12_number 28 = .ok (.i2l, 1) := by decide +kernel
theorem dX12_number_29 : decode cX12_number 29 = .ok (.iload_n 1, 1) := by decide +kernel
theorem dX12_number_30 : decode cX12_number 30 = .ok (.i2l, 1) := by decide +kernel
theorem dX12_number_31 : decode cX12_number 31 = .ok (.iload_n 2, 1) := by decide +kernel
theorem dX12_number_32 : decode cX12_number 32 = .ok (.i2l, 1) := by decide +kernel
theorem dX12_number_33 : decode cX12_number 33 = .ok (.invokestatic 127, 3) := by decide +kernel
theorem dX12_number_36 : decode cX12_number 36 = .ok (.ifCond .ne 10, 3) := by decide +kernel
theorem dX12_number_39 : decode cX12_number 39 = .ok (.aload_n 0, 1) := by decide +kernel
theorem dX12_number_40 : decode cX12_number 40 = .ok (.iconst 2, 1) := by decide +kernel
theorem dX12_number_41 : decode cX12_number 41 = .ok (.invokevirtual 190, 3) := by decide +kernel
theorem dX12_number_44 : decode cX12_number 44 = .ok (.iload_n 1, 1) := by decide +kernel
theorem dX12_number_45 : decode cX12_number 45 = .ok (.ireturn, 1) := by decide +kernel
theorem dX12_number_46 : decode cX12_number 46 = .ok (.aload_n 0, 1) := by decide +kernel
theorem dX12_number_47 : decode cX12_number 47 = .ok (.getfield 156, 3) := by decide +kernel
theorem dX12_number_50 : decode cX12_number 50 = .ok (.istore_n 3, 1) := by decide +kernel
theorem dX12_number_51 : decode cX12_number 51 = .ok (.aload_n 0, 1) := by decide +kernel
theorem dX12_number_52 : decode cX12_number 52 = .ok (.invokevirtual 184, 3) := by decide +kernel
theorem dX12_number_55 : decode cX12_number 55 = .ok (.iload_n 3, 1) := by decide +kernel
theorem dX12_number_56 : decode cX12_number 56 = .ok (.ireturn, 1) := by decide +kernel
theorem mokX12_number : MOK yX12_number cX12_number 4 (some .int) 2 := ⟨w7_228, w1_13, ⟨by decide, by decide⟩, by decide +kernel, by decide⟩
abbrev miX12_number : MI := (yX12_number.cls, cX12_number, 4, 3, false)
noncomputable def BX12_number : Sm Int32 := (dSeq (dIf (dCZ q_ne (dGI 12 12 (vR 0))) (dRet (vI 1)) dSkip) (dSeq (dIf (dCI r_ne (dGI 12 8 (vR 0)) (cI 2)) (dSeq (dDo (dCallV 12 DX12_fails (aI (aR aN 0 (vR 0)) 1 (cI 1)))) (dRet (vI 1))) dSkip) (dSeq (dIf (dNot (dCZ q_ne (dCall DX12_in (aL (aL (aL aN 0 (d1 o_i2l (dGI 12 10 (vR 0)))) 2 (d1 o_i2l (vI 1))) 4 (d1 o_i2l (vI 2)))))) (dSeq (dDo (dCallV 12 DX12_fails (aI (aR aN 0 (vR 0)) 1 (cI 2)))) (dRet (vI 1))) dSkip) (dSeq (dSetI 3 (dGI 12 10 (vR 0))) (dSeq (dDo (dCallV 12 DX12_next (aR aN 0 (vR 0)))) (dRet (vI 3)))))))
theorem sBX12_number : SS (cvoI, .ireturn) miX12_number [] [] [] [(0, 2), (1, 0), (2, 0)] [(0, 2), (1, 0), (2, 0)] 0 [] BX12_number := (t_sq (p1 := 9) (Γ' := [(0, 2), (1, 0), (2, 0)]) (t_if (pT := 7) (pF := 9) (X := [9]) (XA := []) (XB := [9]) (c_ne_ZF (pF := 9) (s_getI ck12 12 (by decide) rfl (s_aload_n dX12_number_0 rfl rfl) dX12_number_1 w6_217) dX12_number_4 rfl) (t_ret (cv := cvI) (fun _ _ => rfl) (s_iload_n dX12_number_7 rfl rfl) dX12_number_8) (t_skip (ld_in rfl) rfl) lda_nil (lda_cons (ld_in rfl) lda_nil)) (t_sq (p1 := 24) (Γ' := [(0, 2), (1, 0), (2, 0)]) (t_if (pT := 17) (pF := 24) (X := [24]) (XA := []) (XB := [24]) (c_ne_F (pF := 24) (s_getI ck12 8 (by decide) rfl (s_aload_n dX12_number_9 rfl rfl) dX12_number_10 w6_213) (s_iconst dX12_number_13 rfl) dX12_number_14 rfl) (t_sq (p1 := 22) (Γ' := [(0, 2), (1, 0), (2, 0)]) (t_do (x_callV (ts := [(0, 2), (1, 0)]) ck12 rfl kX12_fails mokX12_fails w7_218 ps4_1 rfl rfl rfl rfl (a_I (ts := [(0, 2)]) 1 (a_R (ts := []) 0 a_nil (s_aload_n dX12_number_17 rfl rfl) rfl) (s_iconst dX12_number_18 rfl) rfl) dX12_number_19 w7_216) rfl) (t_ret (cv := cvI) (fun _ _ => rfl) (s_iload_n dX12_number_22 rfl rfl) dX12_number_23)) (t_skip (ld_in rfl) rfl) lda_nil (lda_cons (ld_in rfl) lda_nil)) (t_sq (p1 := 46) (Γ' := [(0, 2), (1, 0), (2, 0)]) (t_if (pT := 39) (pF := 46) (X := [46]) (XA := []) (XB := [46]) (c_not (pT := 39) (pF := 46) (c_ne_ZJ (pT := 46) (s_of_xI (x_call (ts := [(0, 1), (2, 1), (4, 1)]) kX12_in mokX12_in w7_141 rfl rfl rfl (a_L (ts := [(0, 1), (2, 1)]) 4 (a_L (ts := [(0, 1)]) 2 (a_L (ts := []) 0 a_nil (s_i2l (s_getI ck12 10 (by decide) rfl (s_aload_n dX12_number_24 rfl rfl) dX12_number_25 w6_215) dX12_number_28) rfl) (s_i2l (s_iload_n dX12_number_29 rfl rfl) dX12_number_30) rfl) (s_i2l (s_iload_n dX12_number_31 rfl rfl) dX12_number_32) rfl) dX12_number_33 w7_140)) dX12_number_36 rfl)) (t_sq (p1 := 44) (Γ' := [(0, 2), (1, 0), (2, 0)]) (t_do (x_callV (ts := [(0, 2), (1, 0)]) ck12 rfl kX12_fails mokX12_fails w7_218 ps4_1 rfl rfl rfl rfl (a_I (ts := [(0, 2)]) 1 (a_R (ts := []) 0 a_nil (s_aload_n dX12_number_39 rfl rfl) rfl) (s_iconst dX12_number_40 rfl) rfl) dX12_number_41 w7_216) rfl) (t_ret (cv := cvI) (fun _ _ => rfl) (s_iload_n dX12_number_44 rfl rfl) dX12_number_45)) (t_skip (ld_in rfl) rfl) lda_nil (lda_cons (ld_in rfl) lda_nil)) (t_sq (p1 := 51) (Γ' := [(0, 2), (1, 0), (2, 0), (3, 0)]) (t_istore_n (s_getI ck12 10 (by decide) rfl (s_aload_n dX12_number_46 rfl rfl) dX12_number_47 w6_215) dX12_number_50 rfl rfl rfl) (t_sq (p1 := 55) (Γ' := [(0, 2), (1, 0), (2, 0), (3, 0)]) (t_do (x_callV (ts := [(0, 2)]) ck12 rfl kX12_next mokX12_next w7_188 ps3_11 rfl rfl rfl rfl (a_R (ts := []) 0 a_nil (s_aload_n dX12_number_51 rfl rfl) rfl) dX12_number_52 w7_186) rfl) (t_ret (cv := cvI) (fun _ _ => rfl) (s_iload_n dX12_number_55 rfl rfl) dX12_number_56))))))
noncomputable def DX12_number : Fr → St → Option (Int32 × St) := M1 (fun f => (sI (sI (sR fr0 0 (gR f 0)) 1 (gI f 1)) 2 (gI f 2))) BX12_number
theorem kX12_number : SND yX12_number cX12_number 4 (some .int) 3 [(0, 2), (1, 0), (2, 0)] cvoI DX12_number := snd_I (nw := 3) (by decide) rfl rfl (fun _ _ => rfl) sBX12_number
theorem dX12_number__0 : decode cX12_number_ 0 = .ok (.aload_n 0, 1) := by decide +kernel
theorem dX12_number__1 : decode cX12_number_ 1 = .ok (.lload_n 1, 1) := by decide +kernel
theorem dX12_number__2 : decode cX12_number_ 2 = .ok (.invokevirtual 193, 3) := by decide +kernel
theorem dX12_number__5 : decode cX12_number_ 5 = .ok (.aload_n 0, 1) := by decide +kernel
theorem dX12_number__6 : decode cX12_number_ 6 = .ok (.iload_n 3, 1) := by decide +kernel
theorem dX12_number__7 : decode cX12_number_ 7 = .ok (.iload 4, 2) := by decide +kernel
theorem dX12_number__9 : decode cX12_number_ 9 = .ok (.invokevirtual 197, 3) := by decide +kernel
theorem dX12_number__12 : decode cX12_number_ 12 = .ok (.ireturn, 1) := by decide +kernel
theorem mokX12_number_ : MOK yX12_number_ cX12_number_ 5 (some .int) 3 := ⟨w7_224, w1_13, ⟨by decide, by decide⟩, by decide +kernel, by decide⟩
abbrev miX12_number_ : MI := (yX12_number_.cls, cX12_number_, 5, 5, false)
noncomputable def BX12_number_ : Sm Int32 := (dSeq (dDo (dCallV 12 DX12_asks (aL (aR aN 0 (vR 0)) 1 (vL 1)))) (dRet (dCallV 12 DX12_number (aI (aI (aR aN 0 (vR 0)) 1 (vI 3)) 2 (vI 4)))))
theorem sBX12_number_ : SS (cvoI, .ireturn) miX12_number_ [] [] [] [(0, 2), (1, 1), (3, 0), (4, 0)] [(0, 2), (1, 1), (3, 0), (4, 0)] 0 [] BX12_number_ := (t_sq (p1 := 5) (Γ' := [(0, 2), (1, 1), (3, 0), (4, 0)]) (t_do (x_callV (ts := [(0, 2), (1, 1)]) ck12 rfl kX12_asks mokX12_asks w7_206 ps3_14 rfl rfl rfl rfl (a_L (ts := [(0, 2)]) 1 (a_R (ts := []) 0 a_nil (s_aload_n dX12_number__0 rfl rfl) rfl) (s_lload_n dX12_number__1 rfl rfl) rfl) dX12_number__2 w7_204) rfl) (t_ret (cv := cvI) (fun _ _ => rfl) (s_of_xI (x_callV (ts := [(0, 2), (1, 0), (2, 0)]) ck12 rfl kX12_number mokX12_number w7_227 ps4_3 rfl rfl rfl rfl (a_I (ts := [(0, 2), (1, 0)]) 2 (a_I (ts := [(0, 2)]) 1 (a_R (ts := []) 0 a_nil (s_aload_n dX12_number__5 rfl rfl) rfl) (s_iload_n dX12_number__6 rfl rfl) rfl) (s_iload dX12_number__7 rfl) rfl) dX12_number__9 w7_225)) dX12_number__12))
noncomputable def DX12_number_ : Fr → St → Option (Int32 × St) := M1 (fun f => (sI (sI (sL (sR fr0 0 (gR f 0)) 1 (gL f 1)) 3 (gI f 3)) 4 (gI f 4))) BX12_number_
theorem kX12_number_ : SND yX12_number_ cX12_number_ 5 (some .int) 5 [(0, 2), (1, 1), (3, 0), (4, 0)] cvoI DX12_number_ := snd_I (nw := 5) (by decide) rfl rfl (fun _ _ => rfl) sBX12_number_
theorem dX12_ends_0 : decode cX12_ends 0 = .ok (.aload_n 0, 1) := by decide +kernel
theorem dX12_ends_1 : decode cX12_ends 1 = .ok (.getfield 163, 3) := by decide +kernel
theorem dX12_ends_4 : decode cX12_ends 4 = .ok (.iconst 3, 1) := by decide +kernel
theorem dX12_ends_5 : decode cX12_ends 5 = .ok (.if_icmp .eq 8, 3) := by decide +kernel
theorem dX12_ends_8 : decode cX12_ends 8 = .ok (.aload_n 0, 1) := by decide +kernel
theorem dX12_ends_9 : decode cX12_ends 9 = .ok (.iconst 1, 1) := by decide +kernel
theorem dX12_ends_10 : decode cX12_ends 10 = .ok (.invokevirtual 190, 3) := by decide +kernel
theorem dX12_ends_13 : decode cX12_ends 13 = .ok (.aload_n 0, 1) := by decide +kernel
theorem dX12_ends_14 : decode cX12_ends 14 = .ok (.getfield 174, 3) := by decide +kernel
theorem dX12_ends_17 : decode cX12_ends 17 = .ok (.ifCond .ne 7, 3) := by decide +kernel
theorem dX12_ends_20 : decode cX12_ends 20 = .ok (.aload_n 0, 1) := by decide +kernel
theorem dX12_ends_21 : decode cX12_ends 21 = .ok (.invokevirtual 184, 3) := by decide +kernel
theorem dX12_ends_24 : decode cX12_ends 24 = .ok (.return_, 1) := by decide +kernel
theorem mokX12_ends : MOK yX12_ends cX12_ends 1 none 0 := ⟨w8_40, w1_13, ⟨by decide, by decide⟩, by decide +kernel, by decide⟩
abbrev miX12_ends : MI := (yX12_ends.cls, cX12_ends, 1, 3, false)
noncomputable def BX12_ends : Sm Unit := (dSeq (dIf (dCI r_ne (dGI 12 8 (vR 0)) (cI 3)) (dDo (dCallV 12 DX12_fails (aI (aR aN 0 (vR 0)) 1 (cI 1)))) dSkip) (dSeq (dIf (dCZ q_eq (dGI 12 12 (vR 0))) (dDo (dCallV 12 DX12_next (aR aN 0 (vR 0)))) dSkip) dRet0))
theorem sBX12_ends : SS (cvoV, .return_) miX12_ends [] [] [] [(0, 2)] [(0, 2)] 0 [] BX12_ends := (t_sq (p1 := 13) (Γ' := [(0, 2)]) (t_if (pT := 8) (pF := 13) (X := [13]) (XA := [13]) (XB := [13]) (c_ne_F (pF := 13) (s_getI ck12 8 (by decide) rfl (s_aload_n dX12_ends_0 rfl rfl) dX12_ends_1 w6_213) (s_iconst dX12_ends_4 rfl) dX12_ends_5 rfl) (t_do (x_callV (ts := [(0, 2), (1, 0)]) ck12 rfl kX12_fails mokX12_fails w7_218 ps4_1 rfl rfl rfl rfl (a_I (ts := [(0, 2)]) 1 (a_R (ts := []) 0 a_nil (s_aload_n dX12_ends_8 rfl rfl) rfl) (s_iconst dX12_ends_9 rfl) rfl) dX12_ends_10 w7_216) rfl) (t_skip (ld_in rfl) rfl) (lda_cons (ld_in rfl) lda_nil) (lda_cons (ld_in rfl) lda_nil)) (t_sq (p1 := 24) (Γ' := [(0, 2)]) (t_if (pT := 20) (pF := 24) (X := [24]) (XA := [24]) (XB := [24]) (c_eq_ZF (pF := 24) (s_getI ck12 12 (by decide) rfl (s_aload_n dX12_ends_13 rfl rfl) dX12_ends_14 w6_217) dX12_ends_17 rfl) (t_do (x_callV (ts := [(0, 2)]) ck12 rfl kX12_next mokX12_next w7_188 ps3_11 rfl rfl rfl rfl (a_R (ts := []) 0 a_nil (s_aload_n dX12_ends_20 rfl rfl) rfl) dX12_ends_21 w7_186) rfl) (t_skip (ld_in rfl) rfl) (lda_cons (ld_in rfl) lda_nil) (lda_cons (ld_in rfl) lda_nil)) (t_ret0 (fun _ _ => rfl) dX12_ends_24)))
noncomputable def DX12_ends : Fr → St → Option (Unit × St) := M1 (fun f => (sR fr0 0 (gR f 0))) BX12_ends
theorem kX12_ends : SND yX12_ends cX12_ends 1 none 3 [(0, 2)] cvoV DX12_ends := snd_V (nw := 1) (by decide) (fun z => by cases z) rfl rfl (fun _ _ => rfl) sBX12_ends
theorem dX12_begins_0 : decode cX12_begins 0 = .ok (.aload_n 0, 1) := by decide +kernel
theorem dX12_begins_1 : decode cX12_begins 1 = .ok (.iconst 0, 1) := by decide +kernel
theorem dX12_begins_2 : decode cX12_begins 2 = .ok (.putfield 174, 3) := by decide +kernel
theorem dX12_begins_5 : decode cX12_begins 5 = .ok (.aload_n 0, 1) := by decide +kernel
theorem dX12_begins_6 : decode cX12_begins 6 = .ok (.iconst (-1), 1) := by decide +kernel
theorem dX12_begins_7 : decode cX12_begins 7 = .ok (.putfield 177, 3) := by decide +kernel
theorem dX12_begins_10 : decode cX12_begins 10 = .ok (.aload_n 0, 1) := by decide +kernel
theorem dX12_begins_11 : decode cX12_begins 11 = .ok (.iconst 0, 1) := by decide +kernel
theorem dX12_begins_12 : decode cX12_begins 12 = .ok (.putfield 146, 3) := by decide +kernel
theorem dX12_begins_15 : decode cX12_begins 15 = .ok (.aload_n 0, 1) := by decide +kernel
theorem dX12_begins_16 : decode cX12_begins 16 = .ok (.invokevirtual 184, 3) := by decide +kernel
theorem dX12_begins_19 : decode cX12_begins 19 = .ok (.return_, 1) := by decide +kernel
theorem mokX12_begins : MOK yX12_begins cX12_begins 1 none 0 := ⟨w7_185, w1_13, ⟨by decide, by decide⟩, by decide +kernel, by decide⟩
abbrev miX12_begins : MI := (yX12_begins.cls, cX12_begins, 1, 3, false)
noncomputable def BX12_begins : Sm Unit := (dSeq (dP (fI 12 12) (vR 0) (cI 0)) (dSeq (dP (fI 12 13) (vR 0) (cI (-1))) (dSeq (dP (fI 12 7) (vR 0) (cI 0)) (dSeq (dDo (dCallV 12 DX12_next (aR aN 0 (vR 0)))) dRet0))))
theorem sBX12_begins : SS (cvoV, .return_) miX12_begins [] [] [] [(0, 2)] [(0, 2)] 0 [] BX12_begins := (t_sq (p1 := 5) (Γ' := [(0, 2)]) (t_pI ck12 12 (by decide) rfl (Or.inl rfl) (s_aload_n dX12_begins_0 rfl rfl) (s_iconst dX12_begins_1 rfl) dX12_begins_2 w6_217 rfl) (t_sq (p1 := 10) (Γ' := [(0, 2)]) (t_pI ck12 13 (by decide) rfl (Or.inl rfl) (s_aload_n dX12_begins_5 rfl rfl) (s_iconst dX12_begins_6 rfl) dX12_begins_7 w6_218 rfl) (t_sq (p1 := 15) (Γ' := [(0, 2)]) (t_pI ck12 7 (by decide) rfl (Or.inl rfl) (s_aload_n dX12_begins_10 rfl rfl) (s_iconst dX12_begins_11 rfl) dX12_begins_12 w6_212 rfl) (t_sq (p1 := 19) (Γ' := [(0, 2)]) (t_do (x_callV (ts := [(0, 2)]) ck12 rfl kX12_next mokX12_next w7_188 ps3_11 rfl rfl rfl rfl (a_R (ts := []) 0 a_nil (s_aload_n dX12_begins_15 rfl rfl) rfl) dX12_begins_16 w7_186) rfl) (t_ret0 (fun _ _ => rfl) dX12_begins_19)))))
noncomputable def DX12_begins : Fr → St → Option (Unit × St) := M1 (fun f => (sR fr0 0 (gR f 0))) BX12_begins
theorem kX12_begins : SND yX12_begins cX12_begins 1 none 3 [(0, 2)] cvoV DX12_begins := snd_V (nw := 1) (by decide) (fun z => by cases z) rfl rfl (fun _ _ => rfl) sBX12_begins
