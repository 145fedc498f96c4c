theorem dX0_leave_0 : decode cX0_leave 0 = .ok (.iload_n 2, 1) := by decide +kernel
theorem dX0_leave_1 : decode cX0_leave 1 = .ok (.invokestatic 143, 3) := by decide +kernel
theorem dX0_leave_4 : decode cX0_leave 4 = .ok (.istore 4, 2) := by decide +kernel
theorem dX0_leave_6 : decode cX0_leave 6 = .ok (.iload_n 2, 1) := by decide +kernel
theorem dX0_leave_7 : decode cX0_leave 7 = .ok (.invokestatic 146, 3) := by decide +kernel
theorem dX0_leave_10 : decode cX0_leave 10 = .ok (.istore 5, 2) := by decide +kernel
theorem dX0_leave_12 : decode cX0_leave 12 = .ok (.iload_n 2, 1) := by decide +kernel
theorem dX0_leave_13 : decode cX0_leave 13 = .ok (.bipush 11, 2) := by decide +kernel
theorem dX0_leave_15 : decode cX0_leave 15 = .ok (.ishr, 1) := by decide +kernel
theorem dX0_leave_16 : decode cX0_leave 16 = .ok (.iconst 1, 1) := by decide +kernel
theorem dX0_leave_17 : decode cX0_leave 17 = .ok (.iadd, 1) := by decide +kernel
theorem dX0_leave_18 : decode cX0_leave 18 = .ok (.istore 6, 2) := by decide +kernel
theorem dX0_leave_20 : decode cX0_leave 20 = .ok (.iload 5, 2) := by decide +kernel
theorem dX0_leave_22 : decode cX0_leave 22 = .ok (.invokestatic 106, 3) := by decide +kernel
theorem dX0_leave_25 : decode cX0_leave 25 = .ok (.istore 7, 2) := by decide +kernel
theorem dX0_leave_27 : decode cX0_leave 27 = .ok (.iconst 0, 1) := by decide +kernel
theorem dX0_leave_28 : decode cX0_leave 28 = .ok (.istore 8, 2) := by decide +kernel
theorem dX0_leave_30 : decode cX0_leave 30 = .ok (.iload 8, 2) := by decide +kernel
theorem dX0_leave_32 : decode cX0_leave 32 = .ok (.aload_n 1, 1) := by decide +kernel
theorem dX0_leave_33 : decode cX0_leave 33 = .ok (.getfield 130, 3) := by decide +kernel
theorem dX0_leave_36 : decode cX0_leave 36 = .ok (.if_icmp .ge 134, 3) := by decide +kernel
theorem dX0_leave_39 : decode cX0_leave 39 = .ok (.aload_n 0, 1) := by decide +kernel
theorem dX0_leave_40 : decode cX0_leave 40 = .ok (.getfield 30, 3) := by decide +kernel
theorem dX0_leave_43 : decode cX0_leave 43 = .ok (.iload 4, 2) := by decide +kernel
theorem dX0_leave_45 : decode cX0_leave 45 = .ok (.invokestatic 76, 3) := by decide +kernel
theorem dX0_leave_48 : decode cX0_leave 48 = .ok (.iload 8, 2) := by decide +kernel
theorem dX0_leave_50 : decode cX0_leave 50 = .ok (.invokestatic 136, 3) := by decide +kernel
theorem dX0_leave_53 : decode cX0_leave 53 = .ok (.istore 9, 2) := by decide +kernel
theorem dX0_leave_55 : decode cX0_leave 55 = .ok (.iload 9, 2) := by decide +kernel
theorem dX0_leave_57 : decode cX0_leave 57 = .ok (.ifCond .eq 107, 3) := by decide +kernel
theorem dX0_leave_60 : decode cX0_leave 60 = .ok (.aload_n 0, 1) := by decide +kernel
theorem dX0_leave_61 : decode cX0_leave 61 = .ok (.getfield 24, 3) := by decide +kernel
theorem dX0_leave_64 : decode cX0_leave 64 = .ok (.iload 7, 2) := by decide +kernel
theorem dX0_leave_66 : decode cX0_leave 66 = .ok (.invokestatic 76, 3) := by decide +kernel
theorem dX0_leave_69 : decode cX0_leave 69 = .ok (.aload_n 1, 1) := by decide +kernel
theorem dX0_leave_70 : decode cX0_leave 70 = .ok (.iload 4, 2) := by decide +kernel
theorem dX0_leave_72 : decode cX0_leave 72 = .ok (.iload 8, 2) := by decide +kernel
theorem dX0_leave_74 : decode cX0_leave 74 = .ok (.invokevirtual 149, 3) := by decide +kernel
theorem dX0_leave_77 : decode cX0_leave 77 = .ok (.iadd, 1) := by decide +kernel
theorem dX0_leave_78 : decode cX0_leave 78 = .ok (.iload_n 3, 1) := by decide +kernel
theorem dX0_leave_79 : decode cX0_leave 79 = .ok (.if_icmp .le 6, 3) := by decide +kernel
theorem dX0_leave_82 : decode cX0_leave 82 = .ok (.goto 82, 3) := by decide +kernel
theorem dX0_leave_85 : decode cX0_leave 85 = .ok (.aload_n 0, 1) := by decide +kernel
theorem dX0_leave_86 : decode cX0_leave 86 = .ok (.getfield 11, 3) := by decide +kernel
theorem dX0_leave_89 : decode cX0_leave 89 = .ok (.iload 8, 2) := by decide +kernel
theorem dX0_leave_91 : decode cX0_leave 91 = .ok (.invokestatic 76, 3) := by decide +kernel
theorem dX0_leave_94 : decode cX0_leave 94 = .ok (.iconst (-1), 1) := by decide +kernel
theorem dX0_leave_95 : decode cX0_leave 95 = .ok (.if_icmp .ne 14, 3) := by decide +kernel
theorem dX0_leave_98 : decode cX0_leave 98 = .ok (.aload_n 0, 1) := by decide +kernel
theorem dX0_leave_99 : decode cX0_leave 99 = .ok (.getfield 11, 3) := by decide +kernel
theorem dX0_leave_102 : decode cX0_leave 102 = .ok (.iload 8, 2) := by decide +kernel
theorem dX0_leave_104 : decode cX0_leave 104 = .ok (.iload 6, 2) := by decide +kernel
theorem dX0_leave_106 : decode cX0_leave 106 = .ok (.invokestatic 80, 3) := by decide +kernel
theorem dX0_leave_109 : decode cX0_leave 109 = .ok (.iload 5, 2) := by decide +kernel
theorem dX0_leave_111 : decode cX0_leave 111 = .ok (.iload 8, 2) := by decide +kernel
theorem dX0_leave_113 : decode cX0_leave 113 = .ok (.invokestatic 136, 3) := by decide +kernel
theorem dX0_leave_116 : decode cX0_leave 116 = .ok (.ifCond .ne 33, 3) := by decide +kernel
theorem dX0_leave_119 : decode cX0_leave 119 = .ok (.aload_n 0, 1) := by decide +kernel
theorem dX0_leave_120 : decode cX0_leave 120 = .ok (.getfield 15, 3) := by decide +kernel
theorem dX0_leave_123 : decode cX0_leave 123 = .ok (.iload 8, 2) := by decide +kernel
theorem dX0_leave_125 : decode cX0_leave 125 = .ok (.aload_n 0, 1) := by decide +kernel
theorem dX0_leave_126 : decode cX0_leave 126 = .ok (.getfield 15, 3) := by decide +kernel
theorem dX0_leave_129 : decode cX0_leave 129 = .ok (.iload 8, 2) := by decide +kernel
theorem dX0_leave_131 : decode cX0_leave 131 = .ok (.invokestatic 76, 3) := by decide +kernel
theorem dX0_leave_134 : decode cX0_leave 134 = .ok (.aload_n 0, 1) := by decide +kernel
theorem dX0_leave_135 : decode cX0_leave 135 = .ok (.getfield 27, 3) := by decide +kernel
theorem dX0_leave_138 : decode cX0_leave 138 = .ok (.iload 7, 2) := by decide +kernel
theorem dX0_leave_140 : decode cX0_leave 140 = .ok (.invokestatic 76, 3) := by decide +kernel
theorem dX0_leave_143 : decode cX0_leave 143 = .ok (.invokestatic 111, 3) := by decide +kernel
theorem dX0_leave_146 : decode cX0_leave 146 = .ok (.invokestatic 80, 3) := by decide +kernel
theorem dX0_leave_149 : decode cX0_leave 149 = .ok (.aload_n 0, 1) := by decide +kernel
theorem dX0_leave_150 : decode cX0_leave 150 = .ok (.iload 8, 2) := by decide +kernel
theorem dX0_leave_152 : decode cX0_leave 152 = .ok (.iload 5, 2) := by decide +kernel
theorem dX0_leave_154 : decode cX0_leave 154 = .ok (.iconst 1, 1) := by decide +kernel
theorem dX0_leave_155 : decode cX0_leave 155 = .ok (.iload 8, 2) := by decide +kernel
theorem dX0_leave_157 : decode cX0_leave 157 = .ok (.ishl, 1) := by decide +kernel
theorem dX0_leave_158 : decode cX0_leave 158 = .ok (.ior, 1) := by decide +kernel
theorem dX0_leave_159 : decode cX0_leave 159 = .ok (.iload 6, 2) := by decide +kernel
theorem dX0_leave_161 : decode cX0_leave 161 = .ok (.invokevirtual 84, 3) := by decide +kernel
theorem dX0_leave_164 : decode cX0_leave 164 = .ok (.iinc 8 1, 3) := by decide +kernel
theorem dX0_leave_167 : decode cX0_leave 167 = .ok (.goto (-137), 3) := by decide +kernel
theorem dX0_leave_170 : decode cX0_leave 170 = .ok (.return_, 1) := by decide +kernel
theorem mokX0_leave : MOK yX0_leave cX0_leave 10 none 3 := ⟨w5_78, w1_10, ⟨by decide, by decide⟩, by decide +kernel, by decide⟩
abbrev miX0_leave : MI := (yX0_leave.cls, cX0_leave, 10, 4, false)
noncomputable def LX0_leave_1 : Sm Unit := dLoop (fun f => (sI (sI (sI (sI (sI (sI (sI (sR (sR fr0 0 (gR f 0)) 1 (gR f 1)) 2 (gI f 2)) 3 (gI f 3)) 4 (gI f 4)) 5 (gI f 5)) 6 (gI f 6)) 7 (gI f 7)) 8 (gI f 8))) (dCI r_lt (vI 8) (dGI 5 4 (vR 1))) (dSeq (dSetI 9 (dCall DX11_hasBit (aI (aI aN 0 (dCall DX11_cell (aI (aR aN 0 (dGR 0 6 (vR 0))) 1 (vI 4)))) 1 (vI 8)))) (dSeq (dIf (dOr (dNot (dCZ q_ne (vI 9))) (dCI r_gt (d2 o_iadd (dCall DX11_cell (aI (aR aN 0 (dGR 0 4 (vR 0))) 1 (vI 7))) (dCallV 5 DX5_climbTo (aI (aI (aR aN 0 (vR 1)) 1 (vI 4)) 2 (vI 8)))) (vI 3))) dCnt dSkip) (dSeq (dIf (dCI r_eq (dCall DX11_cell (aI (aR aN 0 (dGR 0 0 (vR 0))) 1 (vI 8))) (cI (-1))) (dDo (dCall DX11_put (aI (aI (aR aN 0 (dGR 0 0 (vR 0))) 1 (vI 8)) 2 (vI 6)))) dSkip) (dSeq (dIf (dNot (dCZ q_ne (dCall DX11_hasBit (aI (aI aN 0 (vI 5)) 1 (vI 8))))) (dDo (dCall DX11_put (aI (aI (aR aN 0 (dGR 0 1 (vR 0))) 1 (vI 8)) 2 (d2 o_imax (dCall DX11_cell (aI (aR aN 0 (dGR 0 1 (vR 0))) 1 (vI 8))) (dCall DX11_cell (aI (aR aN 0 (dGR 0 5 (vR 0))) 1 (vI 7))))))) dSkip) (dDo (dCallV 0 DX0_enter (aI (aI (aI (aR aN 0 (vR 0)) 1 (vI 8)) 2 (d2 o_ior (vI 5) (d2 o_ishl (cI 1) (vI 8)))) 3 (vI 6)))))))) (dInc 8 1)
theorem sLX0_leave_1 {ΓL : Gm} {PB PK : List Nat} : SS (cvoV, .return_) miX0_leave ΓL PB PK [(0, 2), (1, 2), (2, 0), (3, 0), (4, 0), (5, 0), (6, 0), (7, 0), (8, 0)] [(0, 2), (1, 2), (2, 0), (3, 0), (4, 0), (5, 0), (6, 0), (7, 0), (8, 0)] 30 [170] LX0_leave_1 := t_loop (pT := 39) (pF := 170) (pu := 164) (PB' := []) (PK' := [164]) (XB := [164]) (XU := [167]) (fun _ _ => rfl) rfl (c_lt_F (pF := 170) (s_iload dX0_leave_30 rfl) (s_getI ck5 4 (by decide) rfl (s_aload_n dX0_leave_32 rfl rfl) dX0_leave_33 w1_155) dX0_leave_36 rfl) (t_sq (p1 := 55) (Γ' := [(0, 2), (1, 2), (2, 0), (3, 0), (4, 0), (5, 0), (6, 0), (7, 0), (8, 0), (9, 0)]) (t_istore (s_of_xI (x_callN (ts := [(0, 0), (1, 0)]) kX11_hasBit mokX11_hasBit w4_37 rfl rfl rfl (a_I (ts := [(0, 0)]) 1 (a_I (ts := []) 0 a_nil (s_of_xI (x_callN (ts := [(0, 2), (1, 0)]) kX11_cell mokX11_cell w3_229 rfl rfl rfl (a_I (ts := [(0, 2)]) 1 (a_R (ts := []) 0 a_nil (s_getR ck0 6 (by decide) rfl (s_aload_n dX0_leave_39 rfl rfl) dX0_leave_40 w2_137) rfl) (s_iload dX0_leave_43 rfl) rfl) dX0_leave_45 nb25)) rfl) (s_iload dX0_leave_48 rfl) rfl) dX0_leave_50 nb26)) dX0_leave_53 rfl rfl) (t_sq (p1 := 85) (Γ' := [(0, 2), (1, 2), (2, 0), (3, 0), (4, 0), (5, 0), (6, 0), (7, 0), (8, 0), (9, 0)]) (t_if (pT := 164) (pF := 85) (X := [85]) (XA := []) (XB := [85]) (c_or (p1 := 60) (pT := 164) (pF := 85) (c_not (pT := 164) (pF := 60) (c_ne_ZF (pF := 164) (s_iload dX0_leave_55 rfl) dX0_leave_57 rfl)) (c_ldT (p1 := 82) (c_gt_F (pF := 85) (s_iadd (s_of_xI (x_callN (ts := [(0, 2), (1, 0)]) kX11_cell mokX11_cell w3_229 rfl rfl rfl (a_I (ts := [(0, 2)]) 1 (a_R (ts := []) 0 a_nil (s_getR ck0 4 (by decide) rfl (s_aload_n dX0_leave_60 rfl rfl) dX0_leave_61 w2_135) rfl) (s_iload dX0_leave_64 rfl) rfl) dX0_leave_66 nb25)) (s_of_xI (x_callV (ts := [(0, 2), (1, 0), (2, 0)]) ck5 rfl kX5_climbTo mokX5_climbTo w4_61 w4_62 rfl rfl rfl rfl (a_I (ts := [(0, 2), (1, 0)]) 2 (a_I (ts := [(0, 2)]) 1 (a_R (ts := []) 0 a_nil (s_aload_n dX0_leave_69 rfl rfl) rfl) (s_iload dX0_leave_70 rfl) rfl) (s_iload dX0_leave_72 rfl) rfl) dX0_leave_74 w5_85)) dX0_leave_77) (s_iload_n dX0_leave_78 rfl rfl) dX0_leave_79 rfl) (ld_goto (y := 164) dX0_leave_82 rfl (ld_in rfl)))) (t_cnt (ld_in rfl) rfl) (t_skip (ld_in rfl) rfl) lda_nil (lda_cons (ld_in rfl) lda_nil)) (t_sq (p1 := 109) (Γ' := [(0, 2), (1, 2), (2, 0), (3, 0), (4, 0), (5, 0), (6, 0), (7, 0), (8, 0), (9, 0)]) (t_if (pT := 98) (pF := 109) (X := [109]) (XA := [109]) (XB := [109]) (c_eq_F (pF := 109) (s_of_xI (x_callN (ts := [(0, 2), (1, 0)]) kX11_cell mokX11_cell w3_229 rfl rfl rfl (a_I (ts := [(0, 2)]) 1 (a_R (ts := []) 0 a_nil (s_getR ck0 0 (by decide) rfl (s_aload_n dX0_leave_85 rfl rfl) dX0_leave_86 w2_128) rfl) (s_iload dX0_leave_89 rfl) rfl) dX0_leave_91 nb25)) (s_iconst dX0_leave_94 rfl) dX0_leave_95 rfl) (t_do (x_callN (ts := [(0, 2), (1, 0), (2, 0)]) kX11_put mokX11_put w3_161 rfl rfl rfl (a_I (ts := [(0, 2), (1, 0)]) 2 (a_I (ts := [(0, 2)]) 1 (a_R (ts := []) 0 a_nil (s_getR ck0 0 (by decide) rfl (s_aload_n dX0_leave_98 rfl rfl) dX0_leave_99 w2_128) rfl) (s_iload dX0_leave_102 rfl) rfl) (s_iload dX0_leave_104 rfl) rfl) dX0_leave_106 nb24) rfl) (t_skip (ld_in rfl) rfl) (lda_cons (ld_in rfl) lda_nil) (lda_cons (ld_in rfl) lda_nil)) (t_sq (p1 := 149) (Γ' := [(0, 2), (1, 2), (2, 0), (3, 0), (4, 0), (5, 0), (6, 0), (7, 0), (8, 0), (9, 0)]) (t_if (pT := 119) (pF := 149) (X := [149]) (XA := [149]) (XB := [149]) (c_not (pT := 119) (pF := 149) (c_ne_ZJ (pT := 149) (s_of_xI (x_callN (ts := [(0, 0), (1, 0)]) kX11_hasBit mokX11_hasBit w4_37 rfl rfl rfl (a_I (ts := [(0, 0)]) 1 (a_I (ts := []) 0 a_nil (s_iload dX0_leave_109 rfl) rfl) (s_iload dX0_leave_111 rfl) rfl) dX0_leave_113 nb26)) dX0_leave_116 rfl)) (t_do (x_callN (ts := [(0, 2), (1, 0), (2, 0)]) kX11_put mokX11_put w3_161 rfl rfl rfl (a_I (ts := [(0, 2), (1, 0)]) 2 (a_I (ts := [(0, 2)]) 1 (a_R (ts := []) 0 a_nil (s_getR ck0 1 (by decide) rfl (s_aload_n dX0_leave_119 rfl rfl) dX0_leave_120 w2_130) rfl) (s_iload dX0_leave_123 rfl) rfl) (s_mmax (s_of_xI (x_callN (ts := [(0, 2), (1, 0)]) kX11_cell mokX11_cell w3_229 rfl rfl rfl (a_I (ts := [(0, 2)]) 1 (a_R (ts := []) 0 a_nil (s_getR ck0 1 (by decide) rfl (s_aload_n dX0_leave_125 rfl rfl) dX0_leave_126 w2_130) rfl) (s_iload dX0_leave_129 rfl) rfl) dX0_leave_131 nb25)) (s_of_xI (x_callN (ts := [(0, 2), (1, 0)]) kX11_cell mokX11_cell w3_229 rfl rfl rfl (a_I (ts := [(0, 2)]) 1 (a_R (ts := []) 0 a_nil (s_getR ck0 5 (by decide) rfl (s_aload_n dX0_leave_134 rfl rfl) dX0_leave_135 w2_136) rfl) (s_iload dX0_leave_138 rfl) rfl) dX0_leave_140 nb25)) rfl rfl dX0_leave_143 w5_74) rfl) dX0_leave_146 nb24) rfl) (t_skip (ld_in rfl) rfl) (lda_cons (ld_in rfl) lda_nil) (lda_cons (ld_in rfl) lda_nil)) (t_do (x_callV (ts := [(0, 2), (1, 0), (2, 0), (3, 0)]) ck0 rfl kX0_enter mokX0_enter w5_67 ps2_8 rfl rfl rfl rfl (a_I (ts := [(0, 2), (1, 0), (2, 0)]) 3 (a_I (ts := [(0, 2), (1, 0)]) 2 (a_I (ts := [(0, 2)]) 1 (a_R (ts := []) 0 a_nil (s_aload_n dX0_leave_149 rfl rfl) rfl) (s_iload dX0_leave_150 rfl) rfl) (s_ior (s_iload dX0_leave_152 rfl) (s_ishl (s_iconst dX0_leave_154 rfl) (s_iload dX0_leave_155 rfl) dX0_leave_157) dX0_leave_158) rfl) (s_iload dX0_leave_159 rfl) rfl) dX0_leave_161 w5_65) rfl))))) (t_iinc dX0_leave_164 rfl rfl rfl rfl) (lda_cons (ld_in rfl) lda_nil) (lda_cons (ld_in rfl) lda_nil) (lda_cons (ld_goto (y := 30) dX0_leave_167 rfl (ld_in rfl)) lda_nil) (ld_in rfl) lda_nil
noncomputable def BX0_leave : Sm Unit := (dSeq (dSetI 4 (dCall DX0_houseOf (aI aN 0 (vI 2)))) (dSeq (dSetI 5 (dCall DX0_setOf (aI aN 0 (vI 2)))) (dSeq (dSetI 6 (d2 o_iadd (d2 o_ishr (vI 2) (cI 11)) (cI 1))) (dSeq (dSetI 7 (dCall DJ6_bitCount_0f7a4 (aI aN 0 (vI 5)))) (dSeq (dSeq (dSetI 8 (cI 0)) LX0_leave_1) dRet0)))))
theorem sBX0_leave : SS (cvoV, .return_) miX0_leave [] [] [] [(0, 2), (1, 2), (2, 0), (3, 0)] [(0, 2), (1, 2), (2, 0), (3, 0)] 0 [] BX0_leave := (t_sq (p1 := 6) (Γ' := [(0, 2), (1, 2), (2, 0), (3, 0), (4, 0)]) (t_istore (s_of_xI (x_call (ts := [(0, 0)]) kX0_houseOf mokX0_houseOf w5_80 rfl rfl rfl (a_I (ts := []) 0 a_nil (s_iload_n dX0_leave_0 rfl rfl) rfl) dX0_leave_1 w5_79)) dX0_leave_4 rfl rfl) (t_sq (p1 := 12) (Γ' := [(0, 2), (1, 2), (2, 0), (3, 0), (4, 0), (5, 0)]) (t_istore (s_of_xI (x_call (ts := [(0, 0)]) kX0_setOf mokX0_setOf w5_83 rfl rfl rfl (a_I (ts := []) 0 a_nil (s_iload_n dX0_leave_6 rfl rfl) rfl) dX0_leave_7 w5_82)) dX0_leave_10 rfl rfl) (t_sq (p1 := 20) (Γ' := [(0, 2), (1, 2), (2, 0), (3, 0), (4, 0), (5, 0), (6, 0)]) (t_istore (s_iadd (s_ishr (s_iload_n dX0_leave_12 rfl rfl) (s_bipush dX0_leave_13 rfl) dX0_leave_15) (s_iconst dX0_leave_16 rfl) dX0_leave_17) dX0_leave_18 rfl rfl) (t_sq (p1 := 27) (Γ' := [(0, 2), (1, 2), (2, 0), (3, 0), (4, 0), (5, 0), (6, 0), (7, 0)]) (t_istore (s_of_xI (x_call (ts := [(0, 0)]) kJ6_bitCount_0f7a4 mokJ6_bitCount_0f7a4 w5_28 rfl rfl rfl (a_I (ts := []) 0 a_nil (s_iload dX0_leave_20 rfl) rfl) dX0_leave_22 w5_61)) dX0_leave_25 rfl rfl) (t_sq (p1 := 170) (Γ' := [(0, 2), (1, 2), (2, 0), (3, 0), (4, 0), (5, 0), (6, 0), (7, 0)]) (t_sq (p1 := 30) (Γ' := [(0, 2), (1, 2), (2, 0), (3, 0), (4, 0), (5, 0), (6, 0), (7, 0), (8, 0)]) (t_istore (s_iconst dX0_leave_27 rfl) dX0_leave_28 rfl rfl) (tn_to (Γ' := [(0, 2), (1, 2), (2, 0), (3, 0), (4, 0), (5, 0), (6, 0), (7, 0), (8, 0)]) (XA := [170]) sLX0_leave_1 (lda_cons (ld_in rfl) lda_nil) rfl)) (t_ret0 (fun _ _ => rfl) dX0_leave_170))))))
noncomputable def DX0_leave : Fr → St → Option (Unit × St) := M1 (fun f => (sI (sI (sR (sR fr0 0 (gR f 0)) 1 (gR f 1)) 2 (gI f 2)) 3 (gI f 3))) BX0_leave
theorem kX0_leave : SND yX0_leave cX0_leave 10 none 4 [(0, 2), (1, 2), (2, 0), (3, 0)] cvoV DX0_leave := snd_V (nw := 4) (by decide) (fun z => by cases z) rfl rfl (fun _ _ => rfl) sBX0_leave
theorem dX0_prepare_0 : decode cX0_prepare 0 = .ok (.aload_n 0, 1) := by decide +kernel
theorem dX0_prepare_1 : decode cX0_prepare 1 = .ok (.getfield 33, 3) := by decide +kernel
theorem dX0_prepare_4 : decode cX0_prepare 4 = .ok (.iconst 0, 1) := by decide +kernel
theorem dX0_prepare_5 : decode cX0_prepare 5 = .ok (.invokestatic 62, 3) := by decide +kernel
theorem dX0_prepare_8 : decode cX0_prepare 8 = .ok (.aload_n 1, 1) := by decide +kernel
theorem dX0_prepare_9 : decode cX0_prepare 9 = .ok (.iload_n 2, 1) := by decide +kernel
theorem dX0_prepare_10 : decode cX0_prepare 10 = .ok (.invokevirtual 102, 3) := by decide +kernel
theorem dX0_prepare_13 : decode cX0_prepare 13 = .ok (.istore_n 3, 1) := by decide +kernel
theorem dX0_prepare_14 : decode cX0_prepare 14 = .ok (.iconst 1, 1) := by decide +kernel
theorem dX0_prepare_15 : decode cX0_prepare 15 = .ok (.istore 4, 2) := by decide +kernel
theorem dX0_prepare_17 : decode cX0_prepare 17 = .ok (.iload 4, 2) := by decide +kernel
theorem dX0_prepare_19 : decode cX0_prepare 19 = .ok (.bipush 8, 2) := by decide +kernel
theorem dX0_prepare_21 : decode cX0_prepare 21 = .ok (.if_icmp .gt 48, 3) := by decide +kernel
theorem dX0_prepare_24 : decode cX0_prepare 24 = .ok (.aload_n 0, 1) := by decide +kernel
theorem dX0_prepare_25 : decode cX0_prepare 25 = .ok (.getfield 24, 3) := by decide +kernel
theorem dX0_prepare_28 : decode cX0_prepare 28 = .ok (.iload 4, 2) := by decide +kernel
theorem dX0_prepare_30 : decode cX0_prepare 30 = .ok (.aload_n 1, 1) := by decide +kernel
theorem dX0_prepare_31 : decode cX0_prepare 31 = .ok (.iload_n 2, 1) := by decide +kernel
theorem dX0_prepare_32 : decode cX0_prepare 32 = .ok (.iload_n 3, 1) := by decide +kernel
theorem dX0_prepare_33 : decode cX0_prepare 33 = .ok (.invokevirtual 123, 3) := by decide +kernel
theorem dX0_prepare_36 : decode cX0_prepare 36 = .ok (.invokestatic 80, 3) := by decide +kernel
theorem dX0_prepare_39 : decode cX0_prepare 39 = .ok (.aload_n 0, 1) := by decide +kernel
theorem dX0_prepare_40 : decode cX0_prepare 40 = .ok (.getfield 27, 3) := by decide +kernel
theorem dX0_prepare_43 : decode cX0_prepare 43 = .ok (.iload 4, 2) := by decide +kernel
theorem dX0_prepare_45 : decode cX0_prepare 45 = .ok (.iload_n 3, 1) := by decide +kernel
theorem dX0_prepare_46 : decode cX0_prepare 46 = .ok (.invokestatic 106, 3) := by decide +kernel
theorem dX0_prepare_49 : decode cX0_prepare 49 = .ok (.invokestatic 80, 3) := by decide +kernel
theorem dX0_prepare_52 : decode cX0_prepare 52 = .ok (.aload_n 1, 1) := by decide +kernel
theorem dX0_prepare_53 : decode cX0_prepare 53 = .ok (.iload_n 2, 1) := by decide +kernel
theorem dX0_prepare_54 : decode cX0_prepare 54 = .ok (.iload_n 3, 1) := by decide +kernel
theorem dX0_prepare_55 : decode cX0_prepare 55 = .ok (.aload_n 1, 1) := by decide +kernel
theorem dX0_prepare_56 : decode cX0_prepare 56 = .ok (.getfield 117, 3) := by decide +kernel
theorem dX0_prepare_59 : decode cX0_prepare 59 = .ok (.invokevirtual 126, 3) := by decide +kernel
theorem dX0_prepare_62 : decode cX0_prepare 62 = .ok (.istore_n 3, 1) := by decide +kernel
theorem dX0_prepare_63 : decode cX0_prepare 63 = .ok (.iinc 4 1, 3) := by decide +kernel
theorem dX0_prepare_66 : decode cX0_prepare 66 = .ok (.goto (-49), 3) := by decide +kernel
theorem dX0_prepare_69 : decode cX0_prepare 69 = .ok (.iconst 0, 1) := by decide +kernel
theorem dX0_prepare_70 : decode cX0_prepare 70 = .ok (.istore 4, 2) := by decide +kernel
theorem dX0_prepare_72 : decode cX0_prepare 72 = .ok (.iload 4, 2) := by decide +kernel
theorem dX0_prepare_74 : decode cX0_prepare 74 = .ok (.aload_n 1, 1) := by decide +kernel
theorem dX0_prepare_75 : decode cX0_prepare 75 = .ok (.getfield 130, 3) := by decide +kernel
theorem dX0_prepare_78 : decode cX0_prepare 78 = .ok (.if_icmp .ge 25, 3) := by decide +kernel
theorem dX0_prepare_81 : decode cX0_prepare 81 = .ok (.aload_n 0, 1) := by decide +kernel
theorem dX0_prepare_82 : decode cX0_prepare 82 = .ok (.getfield 30, 3) := by decide +kernel
theorem dX0_prepare_85 : decode cX0_prepare 85 = .ok (.iload 4, 2) := by decide +kernel
theorem dX0_prepare_87 : decode cX0_prepare 87 = .ok (.aload_n 1, 1) := by decide +kernel
theorem dX0_prepare_88 : decode cX0_prepare 88 = .ok (.iload 4, 2) := by decide +kernel
theorem dX0_prepare_90 : decode cX0_prepare 90 = .ok (.iconst (-1), 1) := by decide +kernel
theorem dX0_prepare_91 : decode cX0_prepare 91 = .ok (.invokevirtual 133, 3) := by decide +kernel
theorem dX0_prepare_94 : decode cX0_prepare 94 = .ok (.invokestatic 80, 3) := by decide +kernel
theorem dX0_prepare_97 : decode cX0_prepare 97 = .ok (.iinc 4 1, 3) := by decide +kernel
theorem dX0_prepare_100 : decode cX0_prepare 100 = .ok (.goto (-28), 3) := by decide +kernel
theorem dX0_prepare_103 : decode cX0_prepare 103 = .ok (.return_, 1) := by decide +kernel
theorem mokX0_prepare : MOK yX0_prepare cX0_prepare 5 none 2 := ⟨w5_56, w1_10, ⟨by decide, by decide⟩, by decide +kernel, by decide⟩
abbrev miX0_prepare : MI := (yX0_prepare.cls, cX0_prepare, 5, 4, false)
noncomputable def LX0_prepare_1 : Sm Unit := dLoop (fun f => (sI (sI (sI (sR (sR fr0 0 (gR f 0)) 1 (gR f 1)) 2 (gI f 2)) 3 (gI f 3)) 4 (gI f 4))) (dCI r_le (vI 4) (cI 8)) (dSeq (dDo (dCall DX11_put (aI (aI (aR aN 0 (dGR 0 4 (vR 0))) 1 (vI 4)) 2 (dCallV 5 DX5_weightOf (aI (aI (aR aN 0 (vR 1)) 1 (vI 2)) 2 (vI 3)))))) (dSeq (dDo (dCall DX11_put (aI (aI (aR aN 0 (dGR 0 5 (vR 0))) 1 (vI 4)) 2 (dCall DJ6_bitCount_0f7a4 (aI aN 0 (vI 3)))))) (dSetI 3 (dCallV 5 DX5_leftByLaw (aI (aI (aI (aR aN 0 (vR 1)) 1 (vI 2)) 2 (vI 3)) 3 (dGI 5 2 (vR 1))))))) (dInc 4 1)
theorem sLX0_prepare_1 {ΓL : Gm} {PB PK : List Nat} : SS (cvoV, .return_) miX0_prepare ΓL PB PK [(0, 2), (1, 2), (2, 0), (3, 0), (4, 0)] [(0, 2), (1, 2), (2, 0), (3, 0), (4, 0)] 17 [69] LX0_prepare_1 := t_loop (pT := 24) (pF := 69) (pu := 63) (PB' := []) (PK' := []) (XB := [63]) (XU := [66]) (fun _ _ => rfl) rfl (c_le_F (pF := 69) (s_iload dX0_prepare_17 rfl) (s_bipush dX0_prepare_19 rfl) dX0_prepare_21 rfl) (t_sq (p1 := 39) (Γ' := [(0, 2), (1, 2), (2, 0), (3, 0), (4, 0)]) (t_do (x_callN (ts := [(0, 2), (1, 0), (2, 0)]) kX11_put mokX11_put w3_161 rfl rfl rfl (a_I (ts := [(0, 2), (1, 0)]) 2 (a_I (ts := [(0, 2)]) 1 (a_R (ts := []) 0 a_nil (s_getR ck0 4 (by decide) rfl (s_aload_n dX0_prepare_24 rfl rfl) dX0_prepare_25 w2_135) rfl) (s_iload dX0_prepare_28 rfl) rfl) (s_of_xI (x_callV (ts := [(0, 2), (1, 0), (2, 0)]) ck5 rfl kX5_weightOf mokX5_weightOf w4_131 w4_132 rfl rfl rfl rfl (a_I (ts := [(0, 2), (1, 0)]) 2 (a_I (ts := [(0, 2)]) 1 (a_R (ts := []) 0 a_nil (s_aload_n dX0_prepare_30 rfl rfl) rfl) (s_iload_n dX0_prepare_31 rfl rfl) rfl) (s_iload_n dX0_prepare_32 rfl rfl) rfl) dX0_prepare_33 w5_59)) rfl) dX0_prepare_36 nb24) rfl) (t_sq (p1 := 52) (Γ' := [(0, 2), (1, 2), (2, 0), (3, 0), (4, 0)]) (t_do (x_callN (ts := [(0, 2), (1, 0), (2, 0)]) kX11_put mokX11_put w3_161 rfl rfl rfl (a_I (ts := [(0, 2), (1, 0)]) 2 (a_I (ts := [(0, 2)]) 1 (a_R (ts := []) 0 a_nil (s_getR ck0 5 (by decide) rfl (s_aload_n dX0_prepare_39 rfl rfl) dX0_prepare_40 w2_136) rfl) (s_iload dX0_prepare_43 rfl) rfl) (s_of_xI (x_call (ts := [(0, 0)]) kJ6_bitCount_0f7a4 mokJ6_bitCount_0f7a4 w5_28 rfl rfl rfl (a_I (ts := []) 0 a_nil (s_iload_n dX0_prepare_45 rfl rfl) rfl) dX0_prepare_46 w5_61)) rfl) dX0_prepare_49 nb24) rfl) (t_istore_n (s_of_xI (x_callV (ts := [(0, 2), (1, 0), (2, 0), (3, 0)]) ck5 rfl kX5_leftByLaw mokX5_leftByLaw w4_141 w4_142 rfl rfl rfl rfl (a_I (ts := [(0, 2), (1, 0), (2, 0)]) 3 (a_I (ts := [(0, 2), (1, 0)]) 2 (a_I (ts := [(0, 2)]) 1 (a_R (ts := []) 0 a_nil (s_aload_n dX0_prepare_52 rfl rfl) rfl) (s_iload_n dX0_prepare_53 rfl rfl) rfl) (s_iload_n dX0_prepare_54 rfl rfl) rfl) (s_getI ck5 2 (by decide) rfl (s_aload_n dX0_prepare_55 rfl rfl) dX0_prepare_56 w1_143) rfl) dX0_prepare_59 w5_62)) dX0_prepare_62 rfl rfl rfl))) (t_iinc dX0_prepare_63 rfl rfl rfl rfl) (lda_cons (ld_in rfl) lda_nil) lda_nil (lda_cons (ld_goto (y := 17) dX0_prepare_66 rfl (ld_in rfl)) lda_nil) (ld_in rfl) lda_nil
noncomputable def LX0_prepare_2 : Sm Unit := dLoop (fun f => (sI (sI (sI (sR (sR fr0 0 (gR f 0)) 1 (gR f 1)) 2 (gI f 2)) 3 (gI f 3)) 4 (gI f 4))) (dCI r_lt (vI 4) (dGI 5 4 (vR 1))) (dDo (dCall DX11_put (aI (aI (aR aN 0 (dGR 0 6 (vR 0))) 1 (vI 4)) 2 (dCallV 5 DX5_doorsOf (aI (aI (aR aN 0 (vR 1)) 1 (vI 4)) 2 (cI (-1))))))) (dInc 4 1)
theorem sLX0_prepare_2 {ΓL : Gm} {PB PK : List Nat} : SS (cvoV, .return_) miX0_prepare ΓL PB PK [(0, 2), (1, 2), (2, 0), (3, 0), (4, 0)] [(0, 2), (1, 2), (2, 0), (3, 0), (4, 0)] 72 [103] LX0_prepare_2 := t_loop (pT := 81) (pF := 103) (pu := 97) (PB' := []) (PK' := []) (XB := [97]) (XU := [100]) (fun _ _ => rfl) rfl (c_lt_F (pF := 103) (s_iload dX0_prepare_72 rfl) (s_getI ck5 4 (by decide) rfl (s_aload_n dX0_prepare_74 rfl rfl) dX0_prepare_75 w1_155) dX0_prepare_78 rfl) (t_do (x_callN (ts := [(0, 2), (1, 0), (2, 0)]) kX11_put mokX11_put w3_161 rfl rfl rfl (a_I (ts := [(0, 2), (1, 0)]) 2 (a_I (ts := [(0, 2)]) 1 (a_R (ts := []) 0 a_nil (s_getR ck0 6 (by decide) rfl (s_aload_n dX0_prepare_81 rfl rfl) dX0_prepare_82 w2_137) rfl) (s_iload dX0_prepare_85 rfl) rfl) (s_of_xI (x_callV (ts := [(0, 2), (1, 0), (2, 0)]) ck5 rfl kX5_doorsOf mokX5_doorsOf w4_20 w4_21 rfl rfl rfl rfl (a_I (ts := [(0, 2), (1, 0)]) 2 (a_I (ts := [(0, 2)]) 1 (a_R (ts := []) 0 a_nil (s_aload_n dX0_prepare_87 rfl rfl) rfl) (s_iload dX0_prepare_88 rfl) rfl) (s_iconst dX0_prepare_90 rfl) rfl) dX0_prepare_91 w5_63)) rfl) dX0_prepare_94 nb24) rfl) (t_iinc dX0_prepare_97 rfl rfl rfl rfl) (lda_cons (ld_in rfl) lda_nil) lda_nil (lda_cons (ld_goto (y := 72) dX0_prepare_100 rfl (ld_in rfl)) lda_nil) (ld_in rfl) lda_nil
noncomputable def BX0_prepare : Sm Unit := (dSeq (dDo (dCall DJ7_fill_53178 (aI (aR aN 0 (dGR 0 7 (vR 0))) 1 (cI 0)))) (dSeq (dSetI 3 (dCallV 5 DX5_leftAtFirst (aI (aR aN 0 (vR 1)) 1 (vI 2)))) (dSeq (dSeq (dSetI 4 (cI 1)) LX0_prepare_1) (dSeq (dSeq (dSetI 4 (cI 0)) LX0_prepare_2) dRet0))))
theorem sBX0_prepare : SS (cvoV, .return_) miX0_prepare [] [] [] [(0, 2), (1, 2), (2, 0)] [(0, 2), (1, 2), (2, 0)] 0 [] BX0_prepare := (t_sq (p1 := 8) (Γ' := [(0, 2), (1, 2), (2, 0)]) (t_do (x_call (ts := [(0, 2), (1, 0)]) kJ7_fill_53178 mokJ7_fill_53178 w4_52 rfl rfl rfl (a_I (ts := [(0, 2)]) 1 (a_R (ts := []) 0 a_nil (s_getR ck0 7 (by decide) rfl (s_aload_n dX0_prepare_0 rfl rfl) dX0_prepare_1 w2_138) rfl) (s_iconst dX0_prepare_4 rfl) rfl) dX0_prepare_5 w5_57) rfl) (t_sq (p1 := 14) (Γ' := [(0, 2), (1, 2), (2, 0), (3, 0)]) (t_istore_n (s_of_xI (x_callV (ts := [(0, 2), (1, 0)]) ck5 rfl kX5_leftAtFirst mokX5_leftAtFirst w4_99 w4_100 rfl rfl rfl rfl (a_I (ts := [(0, 2)]) 1 (a_R (ts := []) 0 a_nil (s_aload_n dX0_prepare_8 rfl rfl) rfl) (s_iload_n dX0_prepare_9 rfl rfl) rfl) dX0_prepare_10 w5_58)) dX0_prepare_13 rfl rfl rfl) (t_sq (p1 := 69) (Γ' := [(0, 2), (1, 2), (2, 0), (3, 0)]) (t_sq (p1 := 17) (Γ' := [(0, 2), (1, 2), (2, 0), (3, 0), (4, 0)]) (t_istore (s_iconst dX0_prepare_14 rfl) dX0_prepare_15 rfl rfl) (tn_to (Γ' := [(0, 2), (1, 2), (2, 0), (3, 0), (4, 0)]) (XA := [69]) sLX0_prepare_1 (lda_cons (ld_in rfl) lda_nil) rfl)) (t_sq (p1 := 103) (Γ' := [(0, 2), (1, 2), (2, 0), (3, 0)]) (t_sq (p1 := 72) (Γ' := [(0, 2), (1, 2), (2, 0), (3, 0), (4, 0)]) (t_istore (s_iconst dX0_prepare_69 rfl) dX0_prepare_70 rfl rfl) (tn_to (Γ' := [(0, 2), (1, 2), (2, 0), (3, 0), (4, 0)]) (XA := [103]) sLX0_prepare_2 (lda_cons (ld_in rfl) lda_nil) rfl)) (t_ret0 (fun _ _ => rfl) dX0_prepare_103)))))
noncomputable def DX0_prepare : Fr → St → Option (Unit × St) := M1 (fun f => (sI (sR (sR fr0 0 (gR f 0)) 1 (gR f 1)) 2 (gI f 2))) BX0_prepare
theorem kX0_prepare : SND yX0_prepare cX0_prepare 5 none 4 [(0, 2), (1, 2), (2, 0)] cvoV DX0_prepare := snd_V (nw := 3) (by decide) (fun z => by cases z) rfl rfl (fun _ _ => rfl) sBX0_prepare
theorem dX0_search_0 : decode cX0_search 0 = .ok (.aload_n 0, 1) := by decide +kernel
theorem dX0_search_1 : decode cX0_search 1 = .ok (.getfield 48, 3) := by decide +kernel
theorem dX0_search_4 : decode cX0_search 4 = .ok (.iload_n 2, 1) := by decide +kernel
theorem dX0_search_5 : decode cX0_search 5 = .ok (.if_icmp .ne 12, 3) := by decide +kernel
theorem dX0_search_8 : decode cX0_search 8 = .ok (.aload_n 0, 1) := by decide +kernel
theorem dX0_search_9 : decode cX0_search 9 = .ok (.getfield 52, 3) := by decide +kernel
theorem dX0_search_12 : decode cX0_search 12 = .ok (.iload_n 3, 1) := by decide +kernel
theorem dX0_search_13 : decode cX0_search 13 = .ok (.if_icmp .ne 4, 3) := by decide +kernel
theorem dX0_search_16 : decode cX0_search 16 = .ok (.return_, 1) := by decide +kernel
theorem dX0_search_17 : decode cX0_search 17 = .ok (.aload_n 0, 1) := by decide +kernel
theorem dX0_search_18 : decode cX0_search 18 = .ok (.iload_n 2, 1) := by decide +kernel
theorem dX0_search_19 : decode cX0_search 19 = .ok (.putfield 48, 3) := by decide +kernel
theorem dX0_search_22 : decode cX0_search 22 = .ok (.aload_n 0, 1) := by decide +kernel
theorem dX0_search_23 : decode cX0_search 23 = .ok (.iload_n 3, 1) := by decide +kernel
theorem dX0_search_24 : decode cX0_search 24 = .ok (.putfield 52, 3) := by decide +kernel
theorem dX0_search_27 : decode cX0_search 27 = .ok (.aload_n 0, 1) := by decide +kernel
theorem dX0_search_28 : decode cX0_search 28 = .ok (.aload_n 1, 1) := by decide +kernel
theorem dX0_search_29 : decode cX0_search 29 = .ok (.iload_n 2, 1) := by decide +kernel
theorem dX0_search_30 : decode cX0_search 30 = .ok (.invokevirtual 58, 3) := by decide +kernel
theorem dX0_search_33 : decode cX0_search 33 = .ok (.aload_n 0, 1) := by decide +kernel
theorem dX0_search_34 : decode cX0_search 34 = .ok (.getfield 11, 3) := by decide +kernel
theorem dX0_search_37 : decode cX0_search 37 = .ok (.iconst (-1), 1) := by decide +kernel
theorem dX0_search_38 : decode cX0_search 38 = .ok (.invokestatic 62, 3) := by decide +kernel
theorem dX0_search_41 : decode cX0_search 41 = .ok (.aload_n 0, 1) := by decide +kernel
theorem dX0_search_42 : decode cX0_search 42 = .ok (.getfield 15, 3) := by decide +kernel
theorem dX0_search_45 : decode cX0_search 45 = .ok (.iconst (-1), 1) := by decide +kernel
theorem dX0_search_46 : decode cX0_search 46 = .ok (.invokestatic 62, 3) := by decide +kernel
theorem dX0_search_49 : decode cX0_search 49 = .ok (.aload_n 0, 1) := by decide +kernel
theorem dX0_search_50 : decode cX0_search 50 = .ok (.getfield 21, 3) := by decide +kernel
theorem dX0_search_53 : decode cX0_search 53 = .ok (.iconst 0, 1) := by decide +kernel
theorem dX0_search_54 : decode cX0_search 54 = .ok (.invokestatic 62, 3) := by decide +kernel
theorem dX0_search_57 : decode cX0_search 57 = .ok (.aload_n 0, 1) := by decide +kernel
theorem dX0_search_58 : decode cX0_search 58 = .ok (.iconst 0, 1) := by decide +kernel
theorem dX0_search_59 : decode cX0_search 59 = .ok (.putfield 68, 3) := by decide +kernel
theorem dX0_search_62 : decode cX0_search 62 = .ok (.aload_n 1, 1) := by decide +kernel
theorem dX0_search_63 : decode cX0_search 63 = .ok (.getfield 71, 3) := by decide +kernel
theorem dX0_search_66 : decode cX0_search 66 = .ok (.iload_n 2, 1) := by decide +kernel
theorem dX0_search_67 : decode cX0_search 67 = .ok (.invokestatic 76, 3) := by decide +kernel
theorem dX0_search_70 : decode cX0_search 70 = .ok (.istore 4, 2) := by decide +kernel
theorem dX0_search_72 : decode cX0_search 72 = .ok (.aload_n 0, 1) := by decide +kernel
theorem dX0_search_73 : decode cX0_search 73 = .ok (.getfield 11, 3) := by decide +kernel
theorem dX0_search_76 : decode cX0_search 76 = .ok (.iload 4, 2) := by decide +kernel
theorem dX0_search_78 : decode cX0_search 78 = .ok (.iconst 0, 1) := by decide +kernel
theorem dX0_search_79 : decode cX0_search 79 = .ok (.invokestatic 80, 3) := by decide +kernel
theorem dX0_search_82 : decode cX0_search 82 = .ok (.aload_n 0, 1) := by decide +kernel
theorem dX0_search_83 : decode cX0_search 83 = .ok (.getfield 15, 3) := by decide +kernel
theorem dX0_search_86 : decode cX0_search 86 = .ok (.iload 4, 2) := by decide +kernel
theorem dX0_search_88 : decode cX0_search 88 = .ok (.aload_n 0, 1) := by decide +kernel
theorem dX0_search_89 : decode cX0_search 89 = .ok (.getfield 27, 3) := by decide +kernel
theorem dX0_search_92 : decode cX0_search 92 = .ok (.iconst 1, 1) := by decide +kernel
theorem dX0_search_93 : decode cX0_search 93 = .ok (.invokestatic 76, 3) := by decide +kernel
theorem dX0_search_96 : decode cX0_search 96 = .ok (.invokestatic 80, 3) := by decide +kernel
theorem dX0_search_99 : decode cX0_search 99 = .ok (.aload_n 0, 1) := by decide +kernel
theorem dX0_search_100 : decode cX0_search 100 = .ok (.iload 4, 2) := by decide +kernel
theorem dX0_search_102 : decode cX0_search 102 = .ok (.iconst 1, 1) := by decide +kernel
theorem dX0_search_103 : decode cX0_search 103 = .ok (.iload 4, 2) := by decide +kernel
theorem dX0_search_105 : decode cX0_search 105 = .ok (.ishl, 1) := by decide +kernel
theorem dX0_search_106 : decode cX0_search 106 = .ok (.iconst 0, 1) := by decide +kernel
theorem dX0_search_107 : decode cX0_search 107 = .ok (.invokevirtual 84, 3) := by decide +kernel
theorem dX0_search_110 : decode cX0_search 110 = .ok (.iconst 0, 1) := by decide +kernel
theorem dX0_search_111 : decode cX0_search 111 = .ok (.istore 5, 2) := by decide +kernel
theorem dX0_search_113 : decode cX0_search 113 = .ok (.iload 5, 2) := by decide +kernel
theorem dX0_search_115 : decode cX0_search 115 = .ok (.aload_n 0, 1) := by decide +kernel
theorem dX0_search_116 : decode cX0_search 116 = .ok (.getfield 68, 3) := by decide +kernel
theorem dX0_search_119 : decode cX0_search 119 = .ok (.if_icmp .ge 32, 3) := by decide +kernel
theorem dX0_search_122 : decode cX0_search 122 = .ok (.iload 5, 2) := by decide +kernel
theorem dX0_search_124 : decode cX0_search 124 = .ok (.aload_n 0, 1) := by decide +kernel
theorem dX0_search_125 : decode cX0_search 125 = .ok (.getfield 36, 3) := by decide +kernel
theorem dX0_search_128 : decode cX0_search 128 = .ok (.arraylength, 1) := by decide +kernel
theorem dX0_search_129 : decode cX0_search 129 = .ok (.if_icmp .ge 22, 3) := by decide +kernel
theorem dX0_search_132 : decode cX0_search 132 = .ok (.aload_n 0, 1) := by decide +kernel
theorem dX0_search_133 : decode cX0_search 133 = .ok (.aload_n 1, 1) := by decide +kernel
theorem dX0_search_134 : decode cX0_search 134 = .ok (.aload_n 0, 1) := by decide +kernel
theorem dX0_search_135 : decode cX0_search 135 = .ok (.getfield 36, 3) := by decide +kernel
theorem dX0_search_138 : decode cX0_search 138 = .ok (.iload 5, 2) := by decide +kernel
theorem dX0_search_140 : decode cX0_search 140 = .ok (.iaload, 1) := by decide +kernel
theorem dX0_search_141 : decode cX0_search 141 = .ok (.iload_n 3, 1) := by decide +kernel
theorem dX0_search_142 : decode cX0_search 142 = .ok (.invokevirtual 88, 3) := by decide +kernel
theorem dX0_search_145 : decode cX0_search 145 = .ok (.iinc 5 1, 3) := by decide +kernel
theorem dX0_search_148 : decode cX0_search 148 = .ok (.goto (-35), 3) := by decide +kernel
theorem dX0_search_151 : decode cX0_search 151 = .ok (.return_, 1) := by decide +kernel
theorem mokX0_search : MOK yX0_search cX0_search 6 none 3 := ⟨w5_52, w1_10, ⟨by decide, by decide⟩, by decide +kernel, by decide⟩
abbrev miX0_search : MI := (yX0_search.cls, cX0_search, 6, 5, false)
noncomputable def LX0_search_1 : Sm Unit := dLoop (fun f => (sI (sI (sI (sI (sR (sR fr0 0 (gR f 0)) 1 (gR f 1)) 2 (gI f 2)) 3 (gI f 3)) 4 (gI f 4)) 5 (gI f 5))) (dAnd (dCI r_lt (vI 5) (dGI 0 9 (vR 0))) (dCI r_lt (vI 5) (dLen (dGR 0 8 (vR 0))))) (dDo (dCallV 0 DX0_leave (aI (aI (aR (aR aN 0 (vR 0)) 1 (vR 1)) 2 (dAI (dGR 0 8 (vR 0)) (vI 5))) 3 (vI 3)))) (dInc 5 1)
theorem sLX0_search_1 {ΓL : Gm} {PB PK : List Nat} : SS (cvoV, .return_) miX0_search ΓL PB PK [(0, 2), (1, 2), (2, 0), (3, 0), (4, 0), (5, 0)] [(0, 2), (1, 2), (2, 0), (3, 0), (4, 0), (5, 0)] 113 [151] LX0_search_1 := t_loop (pT := 132) (pF := 151) (pu := 145) (PB' := []) (PK' := []) (XB := [145]) (XU := [148]) (fun _ _ => rfl) rfl (c_and (p1 := 122) (pT := 132) (pF := 151) (c_lt_F (pF := 151) (s_iload dX0_search_113 rfl) (s_getI ck0 9 (by decide) rfl (s_aload_n dX0_search_115 rfl rfl) dX0_search_116 w2_140) dX0_search_119 rfl) (c_lt_F (pF := 151) (s_iload dX0_search_122 rfl) (s_len (s_getR ck0 8 (by decide) rfl (s_aload_n dX0_search_124 rfl rfl) dX0_search_125 w2_139) dX0_search_128) dX0_search_129 rfl)) (t_do (x_callV (ts := [(0, 2), (1, 2), (2, 0), (3, 0)]) ck0 rfl kX0_leave mokX0_leave w5_77 ps2_10 rfl rfl rfl rfl (a_I (ts := [(0, 2), (1, 2), (2, 0)]) 3 (a_I (ts := [(0, 2), (1, 2)]) 2 (a_R (ts := [(0, 2)]) 1 (a_R (ts := []) 0 a_nil (s_aload_n dX0_search_132 rfl rfl) rfl) (s_aload_n dX0_search_133 rfl rfl) rfl) (s_dAI (s_getR ck0 8 (by decide) rfl (s_aload_n dX0_search_134 rfl rfl) dX0_search_135 w2_139) (s_iload dX0_search_138 rfl) dX0_search_140) rfl) (s_iload_n dX0_search_141 rfl rfl) rfl) dX0_search_142 w5_75) rfl) (t_iinc dX0_search_145 rfl rfl rfl rfl) (lda_cons (ld_in rfl) lda_nil) lda_nil (lda_cons (ld_goto (y := 113) dX0_search_148 rfl (ld_in rfl)) lda_nil) (ld_in rfl) lda_nil
noncomputable def BX0_search : Sm Unit := (dSeq (dIf (dAnd (dCI r_eq (dGI 0 14 (vR 0)) (vI 2)) (dCI r_eq (dGI 0 15 (vR 0)) (vI 3))) dRet0 dSkip) (dSeq (dP (fI 0 14) (vR 0) (vI 2)) (dSeq (dP (fI 0 15) (vR 0) (vI 3)) (dSeq (dDo (dCallV 0 DX0_prepare (aI (aR (aR aN 0 (vR 0)) 1 (vR 1)) 2 (vI 2)))) (dSeq (dDo (dCall DJ7_fill_53178 (aI (aR aN 0 (dGR 0 0 (vR 0))) 1 (cI (-1))))) (dSeq (dDo (dCall DJ7_fill_53178 (aI (aR aN 0 (dGR 0 1 (vR 0))) 1 (cI (-1))))) (dSeq (dDo (dCall DJ7_fill_53178 (aI (aR aN 0 (dGR 0 3 (vR 0))) 1 (cI 0)))) (dSeq (dP (fI 0 9) (vR 0) (cI 0)) (dSeq (dSetI 4 (dCall DX11_cell (aI (aR aN 0 (dGR 5 13 (vR 1))) 1 (vI 2)))) (dSeq (dDo (dCall DX11_put (aI (aI (aR aN 0 (dGR 0 0 (vR 0))) 1 (vI 4)) 2 (cI 0)))) (dSeq (dDo (dCall DX11_put (aI (aI (aR aN 0 (dGR 0 1 (vR 0))) 1 (vI 4)) 2 (dCall DX11_cell (aI (aR aN 0 (dGR 0 5 (vR 0))) 1 (cI 1)))))) (dSeq (dDo (dCallV 0 DX0_enter (aI (aI (aI (aR aN 0 (vR 0)) 1 (vI 4)) 2 (d2 o_ishl (cI 1) (vI 4))) 3 (cI 0)))) (dSeq (dSeq (dSetI 5 (cI 0)) LX0_search_1) dRet0)))))))))))))
theorem sBX0_search : SS (cvoV, .return_) miX0_search [] [] [] [(0, 2), (1, 2), (2, 0), (3, 0)] [(0, 2), (1, 2), (2, 0), (3, 0)] 0 [] BX0_search := (t_sq (p1 := 17) (Γ' := [(0, 2), (1, 2), (2, 0), (3, 0)]) (t_if (pT := 16) (pF := 17) (X := [17]) (XA := []) (XB := [17]) (c_and (p1 := 8) (pT := 16) (pF := 17) (c_eq_F (pF := 17) (s_getI ck0 14 (by decide) rfl (s_aload_n dX0_search_0 rfl rfl) dX0_search_1 w2_145) (s_iload_n dX0_search_4 rfl rfl) dX0_search_5 rfl) (c_eq_F (pF := 17) (s_getI ck0 15 (by decide) rfl (s_aload_n dX0_search_8 rfl rfl) dX0_search_9 w2_146) (s_iload_n dX0_search_12 rfl rfl) dX0_search_13 rfl)) (t_ret0 (fun _ _ => rfl) dX0_search_16) (t_skip (ld_in rfl) rfl) lda_nil (lda_cons (ld_in rfl) lda_nil)) (t_sq (p1 := 22) (Γ' := [(0, 2), (1, 2), (2, 0), (3, 0)]) (t_pI ck0 14 (by decide) rfl (Or.inl rfl) (s_aload_n dX0_search_17 rfl rfl) (s_iload_n dX0_search_18 rfl rfl) dX0_search_19 w2_145 rfl) (t_sq (p1 := 27) (Γ' := [(0, 2), (1, 2), (2, 0), (3, 0)]) (t_pI ck0 15 (by decide) rfl (Or.inl rfl) (s_aload_n dX0_search_22 rfl rfl) (s_iload_n dX0_search_23 rfl rfl) dX0_search_24 w2_146 rfl) (t_sq (p1 := 33) (Γ' := [(0, 2), (1, 2), (2, 0), (3, 0)]) (t_do (x_callV (ts := [(0, 2), (1, 2), (2, 0)]) ck0 rfl kX0_prepare mokX0_prepare w5_55 ps2_7 rfl rfl rfl rfl (a_I (ts := [(0, 2), (1, 2)]) 2 (a_R (ts := [(0, 2)]) 1 (a_R (ts := []) 0 a_nil (s_aload_n dX0_search_27 rfl rfl) rfl) (s_aload_n dX0_search_28 rfl rfl) rfl) (s_iload_n dX0_search_29 rfl rfl) rfl) dX0_search_30 w5_53) rfl) (t_sq (p1 := 41) (Γ' := [(0, 2), (1, 2), (2, 0), (3, 0)]) (t_do (x_call (ts := [(0, 2), (1, 0)]) kJ7_fill_53178 mokJ7_fill_53178 w4_52 rfl rfl rfl (a_I (ts := [(0, 2)]) 1 (a_R (ts := []) 0 a_nil (s_getR ck0 0 (by decide) rfl (s_aload_n dX0_search_33 rfl rfl) dX0_search_34 w2_128) rfl) (s_iconst dX0_search_37 rfl) rfl) dX0_search_38 w5_57) rfl) (t_sq (p1 := 49) (Γ' := [(0, 2), (1, 2), (2, 0), (3, 0)]) (t_do (x_call (ts := [(0, 2), (1, 0)]) kJ7_fill_53178 mokJ7_fill_53178 w4_52 rfl rfl rfl (a_I (ts := [(0, 2)]) 1 (a_R (ts := []) 0 a_nil (s_getR ck0 1 (by decide) rfl (s_aload_n dX0_search_41 rfl rfl) dX0_search_42 w2_130) rfl) (s_iconst dX0_search_45 rfl) rfl) dX0_search_46 w5_57) rfl) (t_sq (p1 := 57) (Γ' := [(0, 2), (1, 2), (2, 0), (3, 0)]) (t_do (x_call (ts := [(0, 2), (1, 0)]) kJ7_fill_53178 mokJ7_fill_53178 w4_52 rfl rfl rfl (a_I (ts := [(0, 2)]) 1 (a_R (ts := []) 0 a_nil (s_getR ck0 3 (by decide) rfl (s_aload_n dX0_search_49 rfl rfl) dX0_search_50 w2_134) rfl) (s_iconst dX0_search_53 rfl) rfl) dX0_search_54 w5_57) rfl) (t_sq (p1 := 62) (Γ' := [(0, 2), (1, 2), (2, 0), (3, 0)]) (t_pI ck0 9 (by decide) rfl (Or.inl rfl) (s_aload_n dX0_search_57 rfl rfl) (s_iconst dX0_search_58 rfl) dX0_search_59 w2_140 rfl) (t_sq (p1 := 72) (Γ' := [(0, 2), (1, 2), (2, 0), (3, 0), (4, 0)]) (t_istore (s_of_xI (x_callN (ts := [(0, 2), (1, 0)]) kX11_cell mokX11_cell w3_229 rfl rfl rfl (a_I (ts := [(0, 2)]) 1 (a_R (ts := []) 0 a_nil (s_getR ck5 13 (by decide) rfl (s_aload_n dX0_search_62 rfl rfl) dX0_search_63 w1_188) rfl) (s_iload_n dX0_search_66 rfl rfl) rfl) dX0_search_67 nb25)) dX0_search_70 rfl rfl) (t_sq (p1 := 82) (Γ' := [(0, 2), (1, 2), (2, 0), (3, 0), (4, 0)]) (t_do (x_callN (ts := [(0, 2), (1, 0), (2, 0)]) kX11_put mokX11_put w3_161 rfl rfl rfl (a_I (ts := [(0, 2), (1, 0)]) 2 (a_I (ts := [(0, 2)]) 1 (a_R (ts := []) 0 a_nil (s_getR ck0 0 (by decide) rfl (s_aload_n dX0_search_72 rfl rfl) dX0_search_73 w2_128) rfl) (s_iload dX0_search_76 rfl) rfl) (s_iconst dX0_search_78 rfl) rfl) dX0_search_79 nb24) rfl) (t_sq (p1 := 99) (Γ' := [(0, 2), (1, 2), (2, 0), (3, 0), (4, 0)]) (t_do (x_callN (ts := [(0, 2), (1, 0), (2, 0)]) kX11_put mokX11_put w3_161 rfl rfl rfl (a_I (ts := [(0, 2), (1, 0)]) 2 (a_I (ts := [(0, 2)]) 1 (a_R (ts := []) 0 a_nil (s_getR ck0 1 (by decide) rfl (s_aload_n dX0_search_82 rfl rfl) dX0_search_83 w2_130) rfl) (s_iload dX0_search_86 rfl) rfl) (s_of_xI (x_callN (ts := [(0, 2), (1, 0)]) kX11_cell mokX11_cell w3_229 rfl rfl rfl (a_I (ts := [(0, 2)]) 1 (a_R (ts := []) 0 a_nil (s_getR ck0 5 (by decide) rfl (s_aload_n dX0_search_88 rfl rfl) dX0_search_89 w2_136) rfl) (s_iconst dX0_search_92 rfl) rfl) dX0_search_93 nb25)) rfl) dX0_search_96 nb24) rfl) (t_sq (p1 := 110) (Γ' := [(0, 2), (1, 2), (2, 0), (3, 0), (4, 0)]) (t_do (x_callV (ts := [(0, 2), (1, 0), (2, 0), (3, 0)]) ck0 rfl kX0_enter mokX0_enter w5_67 ps2_8 rfl rfl rfl rfl (a_I (ts := [(0, 2), (1, 0), (2, 0)]) 3 (a_I (ts := [(0, 2), (1, 0)]) 2 (a_I (ts := [(0, 2)]) 1 (a_R (ts := []) 0 a_nil (s_aload_n dX0_search_99 rfl rfl) rfl) (s_iload dX0_search_100 rfl) rfl) (s_ishl (s_iconst dX0_search_102 rfl) (s_iload dX0_search_103 rfl) dX0_search_105) rfl) (s_iconst dX0_search_106 rfl) rfl) dX0_search_107 w5_65) rfl) (t_sq (p1 := 151) (Γ' := [(0, 2), (1, 2), (2, 0), (3, 0), (4, 0)]) (t_sq (p1 := 113) (Γ' := [(0, 2), (1, 2), (2, 0), (3, 0), (4, 0), (5, 0)]) (t_istore (s_iconst dX0_search_110 rfl) dX0_search_111 rfl rfl) (tn_to (Γ' := [(0, 2), (1, 2), (2, 0), (3, 0), (4, 0), (5, 0)]) (XA := [151]) sLX0_search_1 (lda_cons (ld_in rfl) lda_nil) rfl)) (t_ret0 (fun _ _ => rfl) dX0_search_151))))))))))))))
noncomputable def DX0_search : Fr → St → Option (Unit × St) := M1 (fun f => (sI (sI (sR (sR fr0 0 (gR f 0)) 1 (gR f 1)) 2 (gI f 2)) 3 (gI f 3))) BX0_search
theorem kX0_search : SND yX0_search cX0_search 6 none 5 [(0, 2), (1, 2), (2, 0), (3, 0)] cvoV DX0_search := snd_V (nw := 4) (by decide) (fun z => by cases z) rfl rfl (fun _ _ => rfl) sBX0_search
theorem dX11_areAlone_0 : decode cX11_areAlone 0 = .ok (.aload_n 0, 1) := by decide +kernel
theorem dX11_areAlone_1 : decode cX11_areAlone 1 = .ok (.getfield 26, 3) := by decide +kernel
theorem dX11_areAlone_4 : decode cX11_areAlone 4 = .ok (.iload_n 1, 1) := by decide +kernel
theorem dX11_areAlone_5 : decode cX11_areAlone 5 = .ok (.invokevirtual 128, 3) := by decide +kernel
theorem dX11_areAlone_8 : decode cX11_areAlone 8 = .ok (.ifCond .eq 18, 3) := by decide +kernel
theorem dX11_areAlone_11 : decode cX11_areAlone 11 = .ok (.aload_n 0, 1) := by decide +kernel
theorem dX11_areAlone_12 : decode cX11_areAlone 12 = .ok (.getfield 26, 3) := by decide +kernel
theorem dX11_areAlone_15 : decode cX11_areAlone 15 = .ok (.iload_n 2, 1) := by decide +kernel
theorem dX11_areAlone_16 : decode cX11_areAlone 16 = .ok (.invokevirtual 140, 3) := by decide +kernel
theorem dX11_areAlone_19 : decode cX11_areAlone 19 = .ok (.ifCond .eq 7, 3) := by decide +kernel
theorem dX11_areAlone_22 : decode cX11_areAlone 22 = .ok (.iconst 1, 1) := by decide +kernel
theorem dX11_areAlone_23 : decode cX11_areAlone 23 = .ok (.goto 4, 3) := by decide +kernel
theorem dX11_areAlone_26 : decode cX11_areAlone 26 = .ok (.iconst 0, 1) := by decide +kernel
theorem dX11_areAlone_27 : decode cX11_areAlone 27 = .ok (.ireturn, 1) := by decide +kernel
theorem mokX11_areAlone : MOK yX11_areAlone cX11_areAlone 3 (some .boolean) 2 := ⟨w5_48, w1_1, ⟨by decide, by decide⟩, by decide +kernel, by decide⟩
abbrev miX11_areAlone : MI := (yX11_areAlone.cls, cX11_areAlone, 3, 2, false)
noncomputable def BX11_areAlone : Sm Int32 := (dRet (dB (dAnd (dCZ q_ne (dCallV 5 DX5_isCarrier (aI (aR aN 0 (dGR 11 2 (vR 0))) 1 (vI 1)))) (dCZ q_ne (dCallV 5 DX5_isSlate (aI (aR aN 0 (dGR 11 2 (vR 0))) 1 (vI 2)))))))
theorem sBX11_areAlone : SS (cvoI, .ireturn) miX11_areAlone [] [] [] [(0, 2), (1, 0), (2, 0)] [(0, 2), (1, 0), (2, 0)] 0 [] BX11_areAlone := (t_ret (cv := cvI) (fun _ _ => rfl) (s_B (pT := 22) (pF := 26) (pe := 27) (c_and (p1 := 11) (pT := 22) (pF := 26) (c_ne_ZF (pF := 26) (s_of_xI (x_callV (ts := [(0, 2), (1, 0)]) ck5 rfl kX5_isCarrier mokX5_isCarrier w3_236 w3_237 rfl rfl rfl rfl (a_I (ts := [(0, 2)]) 1 (a_R (ts := []) 0 a_nil (s_getR ck11 2 (by decide) rfl (s_aload_n dX11_areAlone_0 rfl rfl) dX11_areAlone_1 w2_220) rfl) (s_iload_n dX11_areAlone_4 rfl rfl) rfl) dX11_areAlone_5 w3_235)) dX11_areAlone_8 rfl) (c_ne_ZF (pF := 26) (s_of_xI (x_callV (ts := [(0, 2), (1, 0)]) ck5 rfl kX5_isSlate mokX5_isSlate w4_7 w4_8 rfl rfl rfl rfl (a_I (ts := [(0, 2)]) 1 (a_R (ts := []) 0 a_nil (s_getR ck11 2 (by decide) rfl (s_aload_n dX11_areAlone_11 rfl rfl) dX11_areAlone_12 w2_220) rfl) (s_iload_n dX11_areAlone_15 rfl rfl) rfl) dX11_areAlone_16 w4_6)) dX11_areAlone_19 rfl)) dX11_areAlone_22 dX11_areAlone_23 rfl dX11_areAlone_26 rfl) dX11_areAlone_27)
noncomputable def DX11_areAlone : Fr → St → Option (Int32 × St) := MZ (fun f => (sI (sI (sR fr0 0 (gR f 0)) 1 (gI f 1)) 2 (gI f 2))) BX11_areAlone
theorem kX11_areAlone : SND yX11_areAlone cX11_areAlone 3 (some .boolean) 2 [(0, 2), (1, 0), (2, 0)] cvoI DX11_areAlone := snd_Z (nw := 3) (by decide) rfl rfl (fun _ _ => rfl) sBX11_areAlone
theorem dX11_brings_0 : decode cX11_brings 0 = .ok (.aload_n 0, 1) := by decide +kernel
theorem dX11_brings_1 : decode cX11_brings 1 = .ok (.iload_n 1, 1) := by decide +kernel
theorem dX11_brings_2 : decode cX11_brings 2 = .ok (.iload_n 2, 1) := by decide +kernel
theorem dX11_brings_3 : decode cX11_brings 3 = .ok (.invokevirtual 251, 3) := by decide +kernel
theorem dX11_brings_6 : decode cX11_brings 6 = .ok (.ifCond .eq 14, 3) := by decide +kernel
theorem dX11_brings_9 : decode cX11_brings 9 = .ok (.aload_n 0, 1) := by decide +kernel
theorem dX11_brings_10 : decode cX11_brings 10 = .ok (.getfield 26, 3) := by decide +kernel
theorem dX11_brings_13 : decode cX11_brings 13 = .ok (.iload_n 3, 1) := by decide +kernel
theorem dX11_brings_14 : decode cX11_brings 14 = .ok (.invokevirtual 117, 3) := by decide +kernel
theorem dX11_brings_17 : decode cX11_brings 17 = .ok (.ifCond .ne 6, 3) := by decide +kernel
theorem dX11_brings_20 : decode cX11_brings 20 = .ok (.bipush (-2), 2) := by decide +kernel
theorem dX11_brings_22 : decode cX11_brings 22 = .ok (.ireturn, 1) := by decide +kernel
theorem dX11_brings_23 : decode cX11_brings 23 = .ok (.aload_n 0, 1) := by decide +kernel
theorem dX11_brings_24 : decode cX11_brings 24 = .ok (.getfield 64, 3) := by decide +kernel
theorem dX11_brings_27 : decode cX11_brings 27 = .ok (.aload_n 0, 1) := by decide +kernel
theorem dX11_brings_28 : decode cX11_brings 28 = .ok (.getfield 26, 3) := by decide +kernel
theorem dX11_brings_31 : decode cX11_brings 31 = .ok (.iload_n 2, 1) := by decide +kernel
theorem dX11_brings_32 : decode cX11_brings 32 = .ok (.aload_n 0, 1) := by decide +kernel
theorem dX11_brings_33 : decode cX11_brings 33 = .ok (.getfield 26, 3) := by decide +kernel
theorem dX11_brings_36 : decode cX11_brings 36 = .ok (.getfield 137, 3) := by decide +kernel
theorem dX11_brings_39 : decode cX11_brings 39 = .ok (.iload_n 1, 1) := by decide +kernel
theorem dX11_brings_40 : decode cX11_brings 40 = .ok (.invokestatic 124, 3) := by decide +kernel
theorem dX11_brings_43 : decode cX11_brings 43 = .ok (.invokevirtual 254, 3) := by decide +kernel
theorem dX11_brings_46 : decode cX11_brings 46 = .ok (.aload_n 0, 1) := by decide +kernel
theorem dX11_brings_47 : decode cX11_brings 47 = .ok (.getfield 64, 3) := by decide +kernel
theorem dX11_brings_50 : decode cX11_brings 50 = .ok (.getfield 258, 3) := by decide +kernel
theorem dX11_brings_53 : decode cX11_brings 53 = .ok (.iload_n 3, 1) := by decide +kernel
theorem dX11_brings_54 : decode cX11_brings 54 = .ok (.invokestatic 124, 3) := by decide +kernel
theorem dX11_brings_57 : decode cX11_brings 57 = .ok (.ireturn, 1) := by decide +kernel
theorem mokX11_brings : MOK yX11_brings cX11_brings 4 (some .int) 3 := ⟨w5_44, w1_1, ⟨by decide, by decide⟩, by decide +kernel, by decide⟩
abbrev miX11_brings : MI := (yX11_brings.cls, cX11_brings, 4, 6, false)
noncomputable def BX11_brings : Sm Int32 := (dSeq (dIf (dOr (dNot (dCZ q_ne (dCallV 11 DX11_areAlone (aI (aI (aR aN 0 (vR 0)) 1 (vI 1)) 2 (vI 2))))) (dNot (dCZ q_ne (dCallV 5 DX5_isHouse (aI (aR aN 0 (dGR 11 2 (vR 0))) 1 (vI 3)))))) (dRet (cI (-2))) dSkip) (dSeq (dDo (dCallV 0 DX0_search (aI (aI (aR (aR aN 0 (dGR 11 9 (vR 0))) 1 (dGR 11 2 (vR 0))) 2 (vI 2)) 3 (dCall DX11_cell (aI (aR aN 0 (dGR 5 12 (dGR 11 2 (vR 0)))) 1 (vI 1)))))) (dRet (dCall DX11_cell (aI (aR aN 0 (dGR 0 0 (dGR 11 9 (vR 0)))) 1 (vI 3))))))
theorem sBX11_brings : SS (cvoI, .ireturn) miX11_brings [] [] [] [(0, 2), (1, 0), (2, 0), (3, 0)] [(0, 2), (1, 0), (2, 0), (3, 0)] 0 [] BX11_brings := (t_sq (p1 := 23) (Γ' := [(0, 2), (1, 0), (2, 0), (3, 0)]) (t_if (pT := 20) (pF := 23) (X := [23]) (XA := []) (XB := [23]) (c_or (p1 := 9) (pT := 20) (pF := 23) (c_not (pT := 20) (pF := 9) (c_ne_ZF (pF := 20) (s_of_xI (x_callV (ts := [(0, 2), (1, 0), (2, 0)]) ck11 rfl kX11_areAlone mokX11_areAlone w5_47 ps2_6 rfl rfl rfl rfl (a_I (ts := [(0, 2), (1, 0)]) 2 (a_I (ts := [(0, 2)]) 1 (a_R (ts := []) 0 a_nil (s_aload_n dX11_brings_0 rfl rfl) rfl) (s_iload_n dX11_brings_1 rfl rfl) rfl) (s_iload_n dX11_brings_2 rfl rfl) rfl) dX11_brings_3 w5_45)) dX11_brings_6 rfl)) (c_not (pT := 20) (pF := 23) (c_ne_ZJ (pT := 23) (s_of_xI (x_callV (ts := [(0, 2), (1, 0)]) ck5 rfl kX5_isHouse mokX5_isHouse w3_225 w3_226 rfl rfl rfl rfl (a_I (ts := [(0, 2)]) 1 (a_R (ts := []) 0 a_nil (s_getR ck11 2 (by decide) rfl (s_aload_n dX11_brings_9 rfl rfl) dX11_brings_10 w2_220) rfl) (s_iload_n dX11_brings_13 rfl rfl) rfl) dX11_brings_14 w3_224)) dX11_brings_17 rfl))) (t_ret (cv := cvI) (fun _ _ => rfl) (s_bipush dX11_brings_20 rfl) dX11_brings_22) (t_skip (ld_in rfl) rfl) lda_nil (lda_cons (ld_in rfl) lda_nil)) (t_sq (p1 := 46) (Γ' := [(0, 2), (1, 0), (2, 0), (3, 0)]) (t_do (x_callV (ts := [(0, 2), (1, 2), (2, 0), (3, 0)]) ck0 rfl kX0_search mokX0_search w5_50 w5_51 rfl rfl rfl rfl (a_I (ts := [(0, 2), (1, 2), (2, 0)]) 3 (a_I (ts := [(0, 2), (1, 2)]) 2 (a_R (ts := [(0, 2)]) 1 (a_R (ts := []) 0 a_nil (s_getR ck11 9 (by decide) rfl (s_aload_n dX11_brings_23 rfl rfl) dX11_brings_24 w2_227) rfl) (s_getR ck11 2 (by decide) rfl (s_aload_n dX11_brings_27 rfl rfl) dX11_brings_28 w2_220) rfl) (s_iload_n dX11_brings_31 rfl rfl) rfl) (s_of_xI (x_call (ts := [(0, 2), (1, 0)]) kX11_cell mokX11_cell w3_229 rfl rfl rfl (a_I (ts := [(0, 2)]) 1 (a_R (ts := []) 0 a_nil (s_getR ck5 12 (by decide) rfl (s_getR ck11 2 (by decide) rfl (s_aload_n dX11_brings_32 rfl rfl) dX11_brings_33 w2_220) dX11_brings_36 w1_185) rfl) (s_iload_n dX11_brings_39 rfl rfl) rfl) dX11_brings_40 w3_228)) rfl) dX11_brings_43 w5_49) rfl) (t_ret (cv := cvI) (fun _ _ => rfl) (s_of_xI (x_call (ts := [(0, 2), (1, 0)]) kX11_cell mokX11_cell w3_229 rfl rfl rfl (a_I (ts := [(0, 2)]) 1 (a_R (ts := []) 0 a_nil (s_getR ck0 0 (by decide) rfl (s_getR ck11 9 (by decide) rfl (s_aload_n dX11_brings_46 rfl rfl) dX11_brings_47 w2_227) dX11_brings_50 w2_129) rfl) (s_iload_n dX11_brings_53 rfl rfl) rfl) dX11_brings_54 w3_228)) dX11_brings_57)))
noncomputable def DX11_brings : Fr → St → Option (Int32 × St) := M1 (fun f => (sI (sI (sI (sR fr0 0 (gR f 0)) 1 (gI f 1)) 2 (gI f 2)) 3 (gI f 3))) BX11_brings
theorem kX11_brings : SND yX11_brings cX11_brings 4 (some .int) 6 [(0, 2), (1, 0), (2, 0), (3, 0)] cvoI DX11_brings := snd_I (nw := 4) (by decide) rfl rfl (fun _ _ => rfl) sBX11_brings
theorem dX11_saves_0 : decode cX11_saves 0 = .ok (.aload_n 0, 1) := by decide +kernel
theorem dX11_saves_1 : decode cX11_saves 1 = .ok (.iload_n 1, 1) := by decide +kernel
theorem dX11_saves_2 : decode cX11_saves 2 = .ok (.iload_n 2, 1) := by decide +kernel
theorem dX11_saves_3 : decode cX11_saves 3 = .ok (.invokevirtual 251, 3) := by decide +kernel
theorem dX11_saves_6 : decode cX11_saves 6 = .ok (.ifCond .eq 14, 3) := by decide +kernel
theorem dX11_saves_9 : decode cX11_saves 9 = .ok (.aload_n 0, 1) := by decide +kernel
theorem dX11_saves_10 : decode cX11_saves 10 = .ok (.getfield 26, 3) := by decide +kernel
theorem dX11_saves_13 : decode cX11_saves 13 = .ok (.iload_n 3, 1) := by decide +kernel
theorem dX11_saves_14 : decode cX11_saves 14 = .ok (.invokevirtual 117, 3) := by decide +kernel
theorem dX11_saves_17 : decode cX11_saves 17 = .ok (.ifCond .ne 6, 3) := by decide +kernel
theorem dX11_saves_20 : decode cX11_saves 20 = .ok (.bipush (-2), 2) := by decide +kernel
theorem dX11_saves_22 : decode cX11_saves 22 = .ok (.ireturn, 1) := by decide +kernel
theorem dX11_saves_23 : decode cX11_saves 23 = .ok (.aload_n 0, 1) := by decide +kernel
theorem dX11_saves_24 : decode cX11_saves 24 = .ok (.getfield 64, 3) := by decide +kernel
theorem dX11_saves_27 : decode cX11_saves 27 = .ok (.aload_n 0, 1) := by decide +kernel
theorem dX11_saves_28 : decode cX11_saves 28 = .ok (.getfield 26, 3) := by decide +kernel
theorem dX11_saves_31 : decode cX11_saves 31 = .ok (.iload_n 2, 1) := by decide +kernel
theorem dX11_saves_32 : decode cX11_saves 32 = .ok (.aload_n 0, 1) := by decide +kernel
theorem dX11_saves_33 : decode cX11_saves 33 = .ok (.getfield 26, 3) := by decide +kernel
theorem dX11_saves_36 : decode cX11_saves 36 = .ok (.getfield 137, 3) := by decide +kernel
theorem dX11_saves_39 : decode cX11_saves 39 = .ok (.iload_n 1, 1) := by decide +kernel
theorem dX11_saves_40 : decode cX11_saves 40 = .ok (.invokestatic 124, 3) := by decide +kernel
theorem dX11_saves_43 : decode cX11_saves 43 = .ok (.invokevirtual 254, 3) := by decide +kernel
theorem dX11_saves_46 : decode cX11_saves 46 = .ok (.aload_n 0, 1) := by decide +kernel
theorem dX11_saves_47 : decode cX11_saves 47 = .ok (.getfield 64, 3) := by decide +kernel
theorem dX11_saves_50 : decode cX11_saves 50 = .ok (.getfield 261, 3) := by decide +kernel
theorem dX11_saves_53 : decode cX11_saves 53 = .ok (.iload_n 3, 1) := by decide +kernel
theorem dX11_saves_54 : decode cX11_saves 54 = .ok (.invokestatic 124, 3) := by decide +kernel
theorem dX11_saves_57 : decode cX11_saves 57 = .ok (.ireturn, 1) := by decide +kernel
theorem mokX11_saves : MOK yX11_saves cX11_saves 4 (some .int) 3 := ⟨w5_89, w1_1, ⟨by decide, by decide⟩, by decide +kernel, by decide⟩
abbrev miX11_saves : MI := (yX11_saves.cls, cX11_saves, 4, 6, false)
noncomputable def BX11_saves : Sm Int32 := (dSeq (dIf (dOr (dNot (dCZ q_ne (dCallV 11 DX11_areAlone (aI (aI (aR aN 0 (vR 0)) 1 (vI 1)) 2 (vI 2))))) (dNot (dCZ q_ne (dCallV 5 DX5_isHouse (aI (aR aN 0 (dGR 11 2 (vR 0))) 1 (vI 3)))))) (dRet (cI (-2))) dSkip) (dSeq (dDo (dCallV 0 DX0_search (aI (aI (aR (aR aN 0 (dGR 11 9 (vR 0))) 1 (dGR 11 2 (vR 0))) 2 (vI 2)) 3 (dCall DX11_cell (aI (aR aN 0 (dGR 5 12 (dGR 11 2 (vR 0)))) 1 (vI 1)))))) (dRet (dCall DX11_cell (aI (aR aN 0 (dGR 0 1 (dGR 11 9 (vR 0)))) 1 (vI 3))))))
theorem sBX11_saves : SS (cvoI, .ireturn) miX11_saves [] [] [] [(0, 2), (1, 0), (2, 0), (3, 0)] [(0, 2), (1, 0), (2, 0), (3, 0)] 0 [] BX11_saves := (t_sq (p1 := 23) (Γ' := [(0, 2), (1, 0), (2, 0), (3, 0)]) (t_if (pT := 20) (pF := 23) (X := [23]) (XA := []) (XB := [23]) (c_or (p1 := 9) (pT := 20) (pF := 23) (c_not (pT := 20) (pF := 9) (c_ne_ZF (pF := 20) (s_of_xI (x_callV (ts := [(0, 2), (1, 0), (2, 0)]) ck11 rfl kX11_areAlone mokX11_areAlone w5_47 ps2_6 rfl rfl rfl rfl (a_I (ts := [(0, 2), (1, 0)]) 2 (a_I (ts := [(0, 2)]) 1 (a_R (ts := []) 0 a_nil (s_aload_n dX11_saves_0 rfl rfl) rfl) (s_iload_n dX11_saves_1 rfl rfl) rfl) (s_iload_n dX11_saves_2 rfl rfl) rfl) dX11_saves_3 w5_45)) dX11_saves_6 rfl)) (c_not (pT := 20) (pF := 23) (c_ne_ZJ (pT := 23) (s_of_xI (x_callV (ts := [(0, 2), (1, 0)]) ck5 rfl kX5_isHouse mokX5_isHouse w3_225 w3_226 rfl rfl rfl rfl (a_I (ts := [(0, 2)]) 1 (a_R (ts := []) 0 a_nil (s_getR ck11 2 (by decide) rfl (s_aload_n dX11_saves_9 rfl rfl) dX11_saves_10 w2_220) rfl) (s_iload_n dX11_saves_13 rfl rfl) rfl) dX11_saves_14 w3_224)) dX11_saves_17 rfl))) (t_ret (cv := cvI) (fun _ _ => rfl) (s_bipush dX11_saves_20 rfl) dX11_saves_22) (t_skip (ld_in rfl) rfl) lda_nil (lda_cons (ld_in rfl) lda_nil)) (t_sq (p1 := 46) (Γ' := [(0, 2), (1, 0), (2, 0), (3, 0)]) (t_do (x_callV (ts := [(0, 2), (1, 2), (2, 0), (3, 0)]) ck0 rfl kX0_search mokX0_search w5_50 w5_51 rfl rfl rfl rfl (a_I (ts := [(0, 2), (1, 2), (2, 0)]) 3 (a_I (ts := [(0, 2), (1, 2)]) 2 (a_R (ts := [(0, 2)]) 1 (a_R (ts := []) 0 a_nil (s_getR ck11 9 (by decide) rfl (s_aload_n dX11_saves_23 rfl rfl) dX11_saves_24 w2_227) rfl) (s_getR ck11 2 (by decide) rfl (s_aload_n dX11_saves_27 rfl rfl) dX11_saves_28 w2_220) rfl) (s_iload_n dX11_saves_31 rfl rfl) rfl) (s_of_xI (x_call (ts := [(0, 2), (1, 0)]) kX11_cell mokX11_cell w3_229 rfl rfl rfl (a_I (ts := [(0, 2)]) 1 (a_R (ts := []) 0 a_nil (s_getR ck5 12 (by decide) rfl (s_getR ck11 2 (by decide) rfl (s_aload_n dX11_saves_32 rfl rfl) dX11_saves_33 w2_220) dX11_saves_36 w1_185) rfl) (s_iload_n dX11_saves_39 rfl rfl) rfl) dX11_saves_40 w3_228)) rfl) dX11_saves_43 w5_49) rfl) (t_ret (cv := cvI) (fun _ _ => rfl) (s_of_xI (x_call (ts := [(0, 2), (1, 0)]) kX11_cell mokX11_cell w3_229 rfl rfl rfl (a_I (ts := [(0, 2)]) 1 (a_R (ts := []) 0 a_nil (s_getR ck0 1 (by decide) rfl (s_getR ck11 9 (by decide) rfl (s_aload_n dX11_saves_46 rfl rfl) dX11_saves_47 w2_227) dX11_saves_50 w2_131) rfl) (s_iload_n dX11_saves_53 rfl rfl) rfl) dX11_saves_54 w3_228)) dX11_saves_57)))
noncomputable def DX11_saves : Fr → St → Option (Int32 × St) := M1 (fun f => (sI (sI (sI (sR fr0 0 (gR f 0)) 1 (gI f 1)) 2 (gI f 2)) 3 (gI f 3))) BX11_saves
theorem kX11_saves : SND yX11_saves cX11_saves 4 (some .int) 6 [(0, 2), (1, 0), (2, 0), (3, 0)] cvoI DX11_saves := snd_I (nw := 4) (by decide) rfl rfl (fun _ _ => rfl) sBX11_saves
theorem dX0_housesReached_0 : decode cX0_housesReached 0 = .ok (.iconst 0, 1) := by decide +kernel
theorem dX0_housesReached_1 : decode cX0_housesReached 1 = .ok (.istore_n 1, 1) := by decide +kernel
theorem dX0_housesReached_2 : decode cX0_housesReached 2 = .ok (.iconst 0, 1) := by decide +kernel
theorem dX0_housesReached_3 : decode cX0_housesReached 3 = .ok (.istore_n 2, 1) := by decide +kernel
theorem dX0_housesReached_4 : decode cX0_housesReached 4 = .ok (.iload_n 2, 1) := by decide +kernel
theorem dX0_housesReached_5 : decode cX0_housesReached 5 = .ok (.bipush 8, 2) := by decide +kernel
theorem dX0_housesReached_7 : decode cX0_housesReached 7 = .ok (.if_icmp .ge 27, 3) := by decide +kernel
theorem dX0_housesReached_10 : decode cX0_housesReached 10 = .ok (.aload_n 0, 1) := by decide +kernel
theorem dX0_housesReached_11 : decode cX0_housesReached 11 = .ok (.getfield 11, 3) := by decide +kernel
theorem dX0_housesReached_14 : decode cX0_housesReached 14 = .ok (.iload_n 2, 1) := by decide +kernel
theorem dX0_housesReached_15 : decode cX0_housesReached 15 = .ok (.invokestatic 76, 3) := by decide +kernel
theorem dX0_housesReached_18 : decode cX0_housesReached 18 = .ok (.iconst (-1), 1) := by decide +kernel
theorem dX0_housesReached_19 : decode cX0_housesReached 19 = .ok (.if_icmp .eq 9, 3) := by decide +kernel
theorem dX0_housesReached_22 : decode cX0_housesReached 22 = .ok (.iload_n 1, 1) := by decide +kernel
theorem dX0_housesReached_23 : decode cX0_housesReached 23 = .ok (.iconst 1, 1) := by decide +kernel
theorem dX0_housesReached_24 : decode cX0_housesReached 24 = .ok (.iload_n 2, 1) := by decide +kernel
theorem dX0_housesReached_25 : decode cX0_housesReached 25 = .ok (.ishl, 1) := by decide +kernel
theorem dX0_housesReached_26 : decode cX0_housesReached 26 = .ok (.ior, 1) := by decide +kernel
theorem dX0_housesReached_27 : decode cX0_housesReached 27 = .ok (.istore_n 1, 1) := by decide +kernel
theorem dX0_housesReached_28 : decode cX0_housesReached 28 = .ok (.iinc 2 1, 3) := by decide +kernel
theorem dX0_housesReached_31 : decode cX0_housesReached 31 = .ok (.goto (-27), 3) := by decide +kernel
theorem dX0_housesReached_34 : decode cX0_housesReached 34 = .ok (.iload_n 1, 1) := by decide +kernel
theorem dX0_housesReached_35 : decode cX0_housesReached 35 = .ok (.ireturn, 1) := by decide +kernel
theorem mokX0_housesReached : MOK yX0_housesReached cX0_housesReached 3 (some .int) 0 := ⟨w5_97, w1_10, ⟨by decide, by decide⟩, by decide +kernel, by decide⟩
abbrev miX0_housesReached : MI := (yX0_housesReached.cls, cX0_housesReached, 3, 2, false)
noncomputable def LX0_housesReached_1 : Sm Int32 := dLoop (fun f => (sI (sI (sR fr0 0 (gR f 0)) 1 (gI f 1)) 2 (gI f 2))) (dCI r_lt (vI 2) (cI 8)) (dIf (dCI r_ne (dCall DX11_cell (aI (aR aN 0 (dGR 0 0 (vR 0))) 1 (vI 2))) (cI (-1))) (dSetI 1 (d2 o_ior (vI 1) (d2 o_ishl (cI 1) (vI 2)))) dSkip) (dInc 2 1)
theorem sLX0_housesReached_1 {ΓL : Gm} {PB PK : List Nat} : SS (cvoI, .ireturn) miX0_housesReached ΓL PB PK [(0, 2), (1, 0), (2, 0)] [(0, 2), (1, 0), (2, 0)] 4 [34] LX0_housesReached_1 := t_loop (pT := 10) (pF := 34) (pu := 28) (PB' := []) (PK' := []) (XB := [28]) (XU := [31]) (fun _ _ => rfl) rfl (c_lt_F (pF := 34) (s_iload_n dX0_housesReached_4 rfl rfl) (s_bipush dX0_housesReached_5 rfl) dX0_housesReached_7 rfl) (t_if (pT := 22) (pF := 28) (X := [28]) (XA := [28]) (XB := [28]) (c_ne_F (pF := 28) (s_of_xI (x_callN (ts := [(0, 2), (1, 0)]) kX11_cell mokX11_cell w3_229 rfl rfl rfl (a_I (ts := [(0, 2)]) 1 (a_R (ts := []) 0 a_nil (s_getR ck0 0 (by decide) rfl (s_aload_n dX0_housesReached_10 rfl rfl) dX0_housesReached_11 w2_128) rfl) (s_iload_n dX0_housesReached_14 rfl rfl) rfl) dX0_housesReached_15 nb25)) (s_iconst dX0_housesReached_18 rfl) dX0_housesReached_19 rfl) (t_istore_n (s_ior (s_iload_n dX0_housesReached_22 rfl rfl) (s_ishl (s_iconst dX0_housesReached_23 rfl) (s_iload_n dX0_housesReached_24 rfl rfl) dX0_housesReached_25) dX0_housesReached_26) dX0_housesReached_27 rfl rfl rfl) (t_skip (ld_in rfl) rfl) (lda_cons (ld_in rfl) lda_nil) (lda_cons (ld_in rfl) lda_nil)) (t_iinc dX0_housesReached_28 rfl rfl rfl rfl) (lda_cons (ld_in rfl) lda_nil) lda_nil (lda_cons (ld_goto (y := 4) dX0_housesReached_31 rfl (ld_in rfl)) lda_nil) (ld_in rfl) lda_nil
noncomputable def BX0_housesReached : Sm Int32 := (dSeq (dSetI 1 (cI 0)) (dSeq (dSeq (dSetI 2 (cI 0)) LX0_housesReached_1) (dRet (vI 1))))
theorem sBX0_housesReached : SS (cvoI, .ireturn) miX0_housesReached [] [] [] [(0, 2)] [(0, 2)] 0 [] BX0_housesReached := (t_sq (p1 := 2) (Γ' := [(0, 2), (1, 0)]) (t_istore_n (s_iconst dX0_housesReached_0 rfl) dX0_housesReached_1 rfl rfl rfl) (t_sq (p1 := 34) (Γ' := [(0, 2), (1, 0)]) (t_sq (p1 := 4) (Γ' := [(0, 2), (1, 0), (2, 0)]) (t_istore_n (s_iconst dX0_housesReached_2 rfl) dX0_housesReached_3 rfl rfl rfl) (tn_to (Γ' := [(0, 2), (1, 0), (2, 0)]) (XA := [34]) sLX0_housesReached_1 (lda_cons (ld_in rfl) lda_nil) rfl)) (t_ret (cv := cvI) (fun _ _ => rfl) (s_iload_n dX0_housesReached_34 rfl rfl) dX0_housesReached_35)))
noncomputable def DX0_housesReached : Fr → St → Option (Int32 × St) := M1 (fun f => (sR fr0 0 (gR f 0))) BX0_housesReached
theorem kX0_housesReached : SND yX0_housesReached cX0_housesReached 3 (some .int) 2 [(0, 2)] cvoI DX0_housesReached := snd_I (nw := 1) (by decide) rfl rfl (fun _ _ => rfl) sBX0_housesReached
theorem dX11_can_0 : decode cX11_can 0 = .ok (.aload_n 0, 1) := by decide +kernel
theorem dX11_can_1 : decode cX11_can 1 = .ok (.iload_n 1, 1) := by decide +kernel
theorem dX11_can_2 : decode cX11_can 2 = .ok (.iload_n 2, 1) := by decide +kernel
theorem dX11_can_3 : decode cX11_can 3 = .ok (.invokevirtual 251, 3) := by decide +kernel
theorem dX11_can_6 : decode cX11_can 6 = .ok (.ifCond .ne 6, 3) := by decide +kernel
theorem dX11_can_9 : decode cX11_can 9 = .ok (.bipush (-2), 2) := by decide +kernel
theorem dX11_can_11 : decode cX11_can 11 = .ok (.ireturn, 1) := by decide +kernel
theorem dX11_can_12 : decode cX11_can 12 = .ok (.aload_n 0, 1) := by decide +kernel
theorem dX11_can_13 : decode cX11_can 13 = .ok (.getfield 64, 3) := by decide +kernel
theorem dX11_can_16 : decode cX11_can 16 = .ok (.aload_n 0, 1) := by decide +kernel
theorem dX11_can_17 : decode cX11_can 17 = .ok (.getfield 26, 3) := by decide +kernel
theorem dX11_can_20 : decode cX11_can 20 = .ok (.iload_n 2, 1) := by decide +kernel
theorem dX11_can_21 : decode cX11_can 21 = .ok (.aload_n 0, 1) := by decide +kernel
theorem dX11_can_22 : decode cX11_can 22 = .ok (.getfield 26, 3) := by decide +kernel
theorem dX11_can_25 : decode cX11_can 25 = .ok (.getfield 137, 3) := by decide +kernel
theorem dX11_can_28 : decode cX11_can 28 = .ok (.iload_n 1, 1) := by decide +kernel
theorem dX11_can_29 : decode cX11_can 29 = .ok (.invokestatic 124, 3) := by decide +kernel
theorem dX11_can_32 : decode cX11_can 32 = .ok (.invokevirtual 254, 3) := by decide +kernel
theorem dX11_can_35 : decode cX11_can 35 = .ok (.aload_n 0, 1) := by decide +kernel
theorem dX11_can_36 : decode cX11_can 36 = .ok (.getfield 64, 3) := by decide +kernel
theorem dX11_can_39 : decode cX11_can 39 = .ok (.invokevirtual 264, 3) := by decide +kernel
theorem dX11_can_42 : decode cX11_can 42 = .ok (.ireturn, 1) := by decide +kernel
theorem mokX11_can : MOK yX11_can cX11_can 3 (some .int) 2 := ⟨w5_93, w1_1, ⟨by decide, by decide⟩, by decide +kernel, by decide⟩
abbrev miX11_can : MI := (yX11_can.cls, cX11_can, 3, 6, false)
noncomputable def BX11_can : Sm Int32 := (dSeq (dIf (dNot (dCZ q_ne (dCallV 11 DX11_areAlone (aI (aI (aR aN 0 (vR 0)) 1 (vI 1)) 2 (vI 2))))) (dRet (cI (-2))) dSkip) (dSeq (dDo (dCallV 0 DX0_search (aI (aI (aR (aR aN 0 (dGR 11 9 (vR 0))) 1 (dGR 11 2 (vR 0))) 2 (vI 2)) 3 (dCall DX11_cell (aI (aR aN 0 (dGR 5 12 (dGR 11 2 (vR 0)))) 1 (vI 1)))))) (dRet (dCallV 0 DX0_housesReached (aR aN 0 (dGR 11 9 (vR 0)))))))
theorem sBX11_can : SS (cvoI, .ireturn) miX11_can [] [] [] [(0, 2), (1, 0), (2, 0)] [(0, 2), (1, 0), (2, 0)] 0 [] BX11_can := (t_sq (p1 := 12) (Γ' := [(0, 2), (1, 0), (2, 0)]) (t_if (pT := 9) (pF := 12) (X := [12]) (XA := []) (XB := [12]) (c_not (pT := 9) (pF := 12) (c_ne_ZJ (pT := 12) (s_of_xI (x_callV (ts := [(0, 2), (1, 0), (2, 0)]) ck11 rfl kX11_areAlone mokX11_areAlone w5_47 ps2_6 rfl rfl rfl rfl (a_I (ts := [(0, 2), (1, 0)]) 2 (a_I (ts := [(0, 2)]) 1 (a_R (ts := []) 0 a_nil (s_aload_n dX11_can_0 rfl rfl) rfl) (s_iload_n dX11_can_1 rfl rfl) rfl) (s_iload_n dX11_can_2 rfl rfl) rfl) dX11_can_3 w5_45)) dX11_can_6 rfl)) (t_ret (cv := cvI) (fun _ _ => rfl) (s_bipush dX11_can_9 rfl) dX11_can_11) (t_skip (ld_in rfl) rfl) lda_nil (lda_cons (ld_in rfl) lda_nil)) (t_sq (p1 := 35) (Γ' := [(0, 2), (1, 0), (2, 0)]) (t_do (x_callV (ts := [(0, 2), (1, 2), (2, 0), (3, 0)]) ck0 rfl kX0_search mokX0_search w5_50 w5_51 rfl rfl rfl rfl (a_I (ts := [(0, 2), (1, 2), (2, 0)]) 3 (a_I (ts := [(0, 2), (1, 2)]) 2 (a_R (ts := [(0, 2)]) 1 (a_R (ts := []) 0 a_nil (s_getR ck11 9 (by decide) rfl (s_aload_n dX11_can_12 rfl rfl) dX11_can_13 w2_227) rfl) (s_getR ck11 2 (by decide) rfl (s_aload_n dX11_can_16 rfl rfl) dX11_can_17 w2_220) rfl) (s_iload_n dX11_can_20 rfl rfl) rfl) (s_of_xI (x_call (ts := [(0, 2), (1, 0)]) kX11_cell mokX11_cell w3_229 rfl rfl rfl (a_I (ts := [(0, 2)]) 1 (a_R (ts := []) 0 a_nil (s_getR ck5 12 (by decide) rfl (s_getR ck11 2 (by decide) rfl (s_aload_n dX11_can_21 rfl rfl) dX11_can_22 w2_220) dX11_can_25 w1_185) rfl) (s_iload_n dX11_can_28 rfl rfl) rfl) dX11_can_29 w3_228)) rfl) dX11_can_32 w5_49) rfl) (t_ret (cv := cvI) (fun _ _ => rfl) (s_of_xI (x_callV (ts := [(0, 2)]) ck0 rfl kX0_housesReached mokX0_housesReached w5_95 w5_96 rfl rfl rfl rfl (a_R (ts := []) 0 a_nil (s_getR ck11 9 (by decide) rfl (s_aload_n dX11_can_35 rfl rfl) dX11_can_36 w2_227) rfl) dX11_can_39 w5_94)) dX11_can_42)))
noncomputable def DX11_can : Fr → St → Option (Int32 × St) := M1 (fun f => (sI (sI (sR fr0 0 (gR f 0)) 1 (gI f 1)) 2 (gI f 2))) BX11_can
theorem kX11_can : SND yX11_can cX11_can 3 (some .int) 6 [(0, 2), (1, 0), (2, 0)] cvoI DX11_can := snd_I (nw := 3) (by decide) rfl rfl (fun _ _ => rfl) sBX11_can
theorem dX0_await_0 : decode cX0_await 0 = .ok (.aload_n 0, 1) := by decide +kernel
theorem dX0_await_1 : decode cX0_await 1 = .ok (.getfield 39, 3) := by decide +kernel
theorem dX0_await_4 : decode cX0_await 4 = .ok (.iload_n 2, 1) := by decide +kernel
theorem dX0_await_5 : decode cX0_await 5 = .ok (.invokestatic 76, 3) := by decide +kernel
theorem dX0_await_8 : decode cX0_await 8 = .ok (.istore_n 3, 1) := by decide +kernel
theorem dX0_await_9 : decode cX0_await 9 = .ok (.aload_n 0, 1) := by decide +kernel
theorem dX0_await_10 : decode cX0_await 10 = .ok (.getfield 92, 3) := by decide +kernel
theorem dX0_await_13 : decode cX0_await 13 = .ok (.sipush 3073, 3) := by decide +kernel
theorem dX0_await_16 : decode cX0_await 16 = .ok (.if_icmp .lt 4, 3) := by decide +kernel
theorem dX0_await_19 : decode cX0_await 19 = .ok (.return_, 1) := by decide +kernel
theorem dX0_await_20 : decode cX0_await 20 = .ok (.aload_n 0, 1) := by decide +kernel
theorem dX0_await_21 : decode cX0_await 21 = .ok (.getfield 45, 3) := by decide +kernel
theorem dX0_await_24 : decode cX0_await 24 = .ok (.aload_n 0, 1) := by decide +kernel
theorem dX0_await_25 : decode cX0_await 25 = .ok (.getfield 92, 3) := by decide +kernel
theorem dX0_await_28 : decode cX0_await 28 = .ok (.iload_n 1, 1) := by decide +kernel
theorem dX0_await_29 : decode cX0_await 29 = .ok (.invokestatic 80, 3) := by decide +kernel
theorem dX0_await_32 : decode cX0_await 32 = .ok (.aload_n 0, 1) := by decide +kernel
theorem dX0_await_33 : decode cX0_await 33 = .ok (.getfield 42, 3) := by decide +kernel
theorem dX0_await_36 : decode cX0_await 36 = .ok (.aload_n 0, 1) := by decide +kernel
theorem dX0_await_37 : decode cX0_await 37 = .ok (.getfield 92, 3) := by decide +kernel
theorem dX0_await_40 : decode cX0_await 40 = .ok (.iload_n 3, 1) := by decide +kernel
theorem dX0_await_41 : decode cX0_await 41 = .ok (.invokestatic 80, 3) := by decide +kernel
theorem dX0_await_44 : decode cX0_await 44 = .ok (.aload_n 0, 1) := by decide +kernel
theorem dX0_await_45 : decode cX0_await 45 = .ok (.getfield 39, 3) := by decide +kernel
theorem dX0_await_48 : decode cX0_await 48 = .ok (.iload_n 2, 1) := by decide +kernel
theorem dX0_await_49 : decode cX0_await 49 = .ok (.aload_n 0, 1) := by decide +kernel
theorem dX0_await_50 : decode cX0_await 50 = .ok (.getfield 92, 3) := by decide +kernel
theorem dX0_await_53 : decode cX0_await 53 = .ok (.invokestatic 80, 3) := by decide +kernel
theorem dX0_await_56 : decode cX0_await 56 = .ok (.aload_n 0, 1) := by decide +kernel
theorem dX0_await_57 : decode cX0_await 57 = .ok (.dup, 1) := by decide +kernel
theorem dX0_await_58 : decode cX0_await 58 = .ok (.getfield 92, 3) := by decide +kernel
theorem dX0_await_61 : decode cX0_await 61 = .ok (.iconst 1, 1) := by decide +kernel
theorem dX0_await_62 : decode cX0_await 62 = .ok (.iadd, 1) := by decide +kernel
theorem dX0_await_63 : decode cX0_await 63 = .ok (.putfield 92, 3) := by decide +kernel
theorem dX0_await_66 : decode cX0_await 66 = .ok (.return_, 1) := by decide +kernel
theorem mokX0_await : MOK yX0_await cX0_await 4 none 2 := ⟨w5_109, w1_10, ⟨by decide, by decide⟩, by decide +kernel, by decide⟩
abbrev miX0_await : MI := (yX0_await.cls, cX0_await, 4, 2, false)
noncomputable def BX0_await : Sm Unit := (dSeq (dSetI 3 (dCall DX11_cell (aI (aR aN 0 (dGR 0 10 (vR 0))) 1 (vI 2)))) (dSeq (dIf (dCI r_ge (dGI 0 13 (vR 0)) (cI 3073)) dRet0 dSkip) (dSeq (dDo (dCall DX11_put (aI (aI (aR aN 0 (dGR 0 12 (vR 0))) 1 (dGI 0 13 (vR 0))) 2 (vI 1)))) (dSeq (dDo (dCall DX11_put (aI (aI (aR aN 0 (dGR 0 11 (vR 0))) 1 (dGI 0 13 (vR 0))) 2 (vI 3)))) (dSeq (dDo (dCall DX11_put (aI (aI (aR aN 0 (dGR 0 10 (vR 0))) 1 (vI 2)) 2 (dGI 0 13 (vR 0))))) (dSeq (dUF 0 13 o_iadd (vR 0) (cI 1)) dRet0))))))
theorem sBX0_await : SS (cvoV, .return_) miX0_await [] [] [] [(0, 2), (1, 0), (2, 0)] [(0, 2), (1, 0), (2, 0)] 0 [] BX0_await := (t_sq (p1 := 9) (Γ' := [(0, 2), (1, 0), (2, 0), (3, 0)]) (t_istore_n (s_of_xI (x_callN (ts := [(0, 2), (1, 0)]) kX11_cell mokX11_cell w3_229 rfl rfl rfl (a_I (ts := [(0, 2)]) 1 (a_R (ts := []) 0 a_nil (s_getR ck0 10 (by decide) rfl (s_aload_n dX0_await_0 rfl rfl) dX0_await_1 w2_141) rfl) (s_iload_n dX0_await_4 rfl rfl) rfl) dX0_await_5 nb25)) dX0_await_8 rfl rfl rfl) (t_sq (p1 := 20) (Γ' := [(0, 2), (1, 0), (2, 0), (3, 0)]) (t_if (pT := 19) (pF := 20) (X := [20]) (XA := []) (XB := [20]) (c_ge_F (pF := 20) (s_getI ck0 13 (by decide) rfl (s_aload_n dX0_await_9 rfl rfl) dX0_await_10 w2_144) (s_sipush dX0_await_13 rfl) dX0_await_16 rfl) (t_ret0 (fun _ _ => rfl) dX0_await_19) (t_skip (ld_in rfl) rfl) lda_nil (lda_cons (ld_in rfl) lda_nil)) (t_sq (p1 := 32) (Γ' := [(0, 2), (1, 0), (2, 0), (3, 0)]) (t_do (x_callN (ts := [(0, 2), (1, 0), (2, 0)]) kX11_put mokX11_put w3_161 rfl rfl rfl (a_I (ts := [(0, 2), (1, 0)]) 2 (a_I (ts := [(0, 2)]) 1 (a_R (ts := []) 0 a_nil (s_getR ck0 12 (by decide) rfl (s_aload_n dX0_await_20 rfl rfl) dX0_await_21 w2_143) rfl) (s_getI ck0 13 (by decide) rfl (s_aload_n dX0_await_24 rfl rfl) dX0_await_25 w2_144) rfl) (s_iload_n dX0_await_28 rfl rfl) rfl) dX0_await_29 nb24) rfl) (t_sq (p1 := 44) (Γ' := [(0, 2), (1, 0), (2, 0), (3, 0)]) (t_do (x_callN (ts := [(0, 2), (1, 0), (2, 0)]) kX11_put mokX11_put w3_161 rfl rfl rfl (a_I (ts := [(0, 2), (1, 0)]) 2 (a_I (ts := [(0, 2)]) 1 (a_R (ts := []) 0 a_nil (s_getR ck0 11 (by decide) rfl (s_aload_n dX0_await_32 rfl rfl) dX0_await_33 w2_142) rfl) (s_getI ck0 13 (by decide) rfl (s_aload_n dX0_await_36 rfl rfl) dX0_await_37 w2_144) rfl) (s_iload_n dX0_await_40 rfl rfl) rfl) dX0_await_41 nb24) rfl) (t_sq (p1 := 56) (Γ' := [(0, 2), (1, 0), (2, 0), (3, 0)]) (t_do (x_callN (ts := [(0, 2), (1, 0), (2, 0)]) kX11_put mokX11_put w3_161 rfl rfl rfl (a_I (ts := [(0, 2), (1, 0)]) 2 (a_I (ts := [(0, 2)]) 1 (a_R (ts := []) 0 a_nil (s_getR ck0 10 (by decide) rfl (s_aload_n dX0_await_44 rfl rfl) dX0_await_45 w2_141) rfl) (s_iload_n dX0_await_48 rfl rfl) rfl) (s_getI ck0 13 (by decide) rfl (s_aload_n dX0_await_49 rfl rfl) dX0_await_50 w2_144) rfl) dX0_await_53 nb24) rfl) (t_sq (p1 := 66) (Γ' := [(0, 2), (1, 0), (2, 0), (3, 0)]) (t_UF ck0 13 (by decide) rfl (Or.inl rfl) (s_aload_n dX0_await_56 rfl rfl) dX0_await_57 dX0_await_58 w2_144 (s_iconst dX0_await_61 rfl) (fun _ _ _ _ => rulI fun a b K => lv_iadd a b dX0_await_62 K) dX0_await_63 w2_144 rfl) (t_ret0 (fun _ _ => rfl) dX0_await_66)))))))
noncomputable def DX0_await : Fr → St → Option (Unit × St) := M1 (fun f => (sI (sI (sR fr0 0 (gR f 0)) 1 (gI f 1)) 2 (gI f 2))) BX0_await
theorem kX0_await : SND yX0_await cX0_await 4 none 2 [(0, 2), (1, 0), (2, 0)] cvoV DX0_await := snd_V (nw := 3) (by decide) (fun z => by cases z) rfl rfl (fun _ _ => rfl) sBX0_await
theorem dX0_settle_0 : decode cX0_settle 0 = .ok (.iload_n 2, 1) := by decide +kernel
theorem dX0_settle_1 : decode cX0_settle 1 = .ok (.invokestatic 143, 3) := by decide +kernel
theorem dX0_settle_4 : decode cX0_settle 4 = .ok (.istore 4, 2) := by decide +kernel
theorem dX0_settle_6 : decode cX0_settle 6 = .ok (.iload_n 2, 1) := by decide +kernel
theorem dX0_settle_7 : decode cX0_settle 7 = .ok (.invokestatic 146, 3) := by decide +kernel
theorem dX0_settle_10 : decode cX0_settle 10 = .ok (.istore 5, 2) := by decide +kernel
theorem dX0_settle_12 : decode cX0_settle 12 = .ok (.aload_n 0, 1) := by decide +kernel
theorem dX0_settle_13 : decode cX0_settle 13 = .ok (.iload 4, 2) := by decide +kernel
theorem dX0_settle_15 : decode cX0_settle 15 = .ok (.iload 5, 2) := by decide +kernel
theorem dX0_settle_17 : decode cX0_settle 17 = .ok (.invokevirtual 140, 3) := by decide +kernel
theorem dX0_settle_20 : decode cX0_settle 20 = .ok (.ifCond .ne 4, 3) := by decide +kernel
theorem dX0_settle_23 : decode cX0_settle 23 = .ok (.return_, 1) := by decide +kernel
theorem dX0_settle_24 : decode cX0_settle 24 = .ok (.aload_n 0, 1) := by decide +kernel
theorem dX0_settle_25 : decode cX0_settle 25 = .ok (.getfield 18, 3) := by decide +kernel
theorem dX0_settle_28 : decode cX0_settle 28 = .ok (.iload 4, 2) := by decide +kernel
theorem dX0_settle_30 : decode cX0_settle 30 = .ok (.invokestatic 76, 3) := by decide +kernel
theorem dX0_settle_33 : decode cX0_settle 33 = .ok (.iconst (-1), 1) := by decide +kernel
theorem dX0_settle_34 : decode cX0_settle 34 = .ok (.if_icmp .ne 13, 3) := by decide +kernel
theorem dX0_settle_37 : decode cX0_settle 37 = .ok (.aload_n 0, 1) := by decide +kernel
theorem dX0_settle_38 : decode cX0_settle 38 = .ok (.getfield 18, 3) := by decide +kernel
theorem dX0_settle_41 : decode cX0_settle 41 = .ok (.iload 4, 2) := by decide +kernel
theorem dX0_settle_43 : decode cX0_settle 43 = .ok (.iload_n 3, 1) := by decide +kernel
theorem dX0_settle_44 : decode cX0_settle 44 = .ok (.invokestatic 80, 3) := by decide +kernel
theorem dX0_settle_47 : decode cX0_settle 47 = .ok (.aload_n 0, 1) := by decide +kernel
theorem dX0_settle_48 : decode cX0_settle 48 = .ok (.getfield 24, 3) := by decide +kernel
theorem dX0_settle_51 : decode cX0_settle 51 = .ok (.iload 5, 2) := by decide +kernel
theorem dX0_settle_53 : decode cX0_settle 53 = .ok (.invokestatic 106, 3) := by decide +kernel
theorem dX0_settle_56 : decode cX0_settle 56 = .ok (.invokestatic 76, 3) := by decide +kernel
theorem dX0_settle_59 : decode cX0_settle 59 = .ok (.istore 6, 2) := by decide +kernel
theorem dX0_settle_61 : decode cX0_settle 61 = .ok (.iconst 0, 1) := by decide +kernel
theorem dX0_settle_62 : decode cX0_settle 62 = .ok (.istore 7, 2) := by decide +kernel
theorem dX0_settle_64 : decode cX0_settle 64 = .ok (.iload 7, 2) := by decide +kernel
theorem dX0_settle_66 : decode cX0_settle 66 = .ok (.aload_n 1, 1) := by decide +kernel
theorem dX0_settle_67 : decode cX0_settle 67 = .ok (.getfield 130, 3) := by decide +kernel
theorem dX0_settle_70 : decode cX0_settle 70 = .ok (.if_icmp .ge 61, 3) := by decide +kernel
theorem dX0_settle_73 : decode cX0_settle 73 = .ok (.aload_n 0, 1) := by decide +kernel
theorem dX0_settle_74 : decode cX0_settle 74 = .ok (.getfield 30, 3) := by decide +kernel
theorem dX0_settle_77 : decode cX0_settle 77 = .ok (.iload 4, 2) := by decide +kernel
theorem dX0_settle_79 : decode cX0_settle 79 = .ok (.invokestatic 76, 3) := by decide +kernel
theorem dX0_settle_82 : decode cX0_settle 82 = .ok (.iload 7, 2) := by decide +kernel
theorem dX0_settle_84 : decode cX0_settle 84 = .ok (.invokestatic 136, 3) := by decide +kernel
theorem dX0_settle_87 : decode cX0_settle 87 = .ok (.ifCond .eq 38, 3) := by decide +kernel
theorem dX0_settle_90 : decode cX0_settle 90 = .ok (.iload_n 3, 1) := by decide +kernel
theorem dX0_settle_91 : decode cX0_settle 91 = .ok (.iload 6, 2) := by decide +kernel
theorem dX0_settle_93 : decode cX0_settle 93 = .ok (.aload_n 1, 1) := by decide +kernel
theorem dX0_settle_94 : decode cX0_settle 94 = .ok (.iload 4, 2) := by decide +kernel
theorem dX0_settle_96 : decode cX0_settle 96 = .ok (.iload 7, 2) := by decide +kernel
theorem dX0_settle_98 : decode cX0_settle 98 = .ok (.invokevirtual 149, 3) := by decide +kernel
theorem dX0_settle_101 : decode cX0_settle 101 = .ok (.iadd, 1) := by decide +kernel
theorem dX0_settle_102 : decode cX0_settle 102 = .ok (.invokestatic 111, 3) := by decide +kernel
theorem dX0_settle_105 : decode cX0_settle 105 = .ok (.istore 8, 2) := by decide +kernel
theorem dX0_settle_107 : decode cX0_settle 107 = .ok (.aload_n 0, 1) := by decide +kernel
theorem dX0_settle_108 : decode cX0_settle 108 = .ok (.iload 7, 2) := by decide +kernel
theorem dX0_settle_110 : decode cX0_settle 110 = .ok (.iload 5, 2) := by decide +kernel
theorem dX0_settle_112 : decode cX0_settle 112 = .ok (.iconst 1, 1) := by decide +kernel
theorem dX0_settle_113 : decode cX0_settle 113 = .ok (.iload 7, 2) := by decide +kernel
theorem dX0_settle_115 : decode cX0_settle 115 = .ok (.ishl, 1) := by decide +kernel
theorem dX0_settle_116 : decode cX0_settle 116 = .ok (.ior, 1) := by decide +kernel
theorem dX0_settle_117 : decode cX0_settle 117 = .ok (.iconst 3, 1) := by decide +kernel
theorem dX0_settle_118 : decode cX0_settle 118 = .ok (.ishl, 1) := by decide +kernel
theorem dX0_settle_119 : decode cX0_settle 119 = .ok (.ior, 1) := by decide +kernel
theorem dX0_settle_120 : decode cX0_settle 120 = .ok (.iload 8, 2) := by decide +kernel
theorem dX0_settle_122 : decode cX0_settle 122 = .ok (.invokevirtual 95, 3) := by decide +kernel
theorem dX0_settle_125 : decode cX0_settle 125 = .ok (.iinc 7 1, 3) := by decide +kernel
theorem dX0_settle_128 : decode cX0_settle 128 = .ok (.goto (-64), 3) := by decide +kernel
theorem dX0_settle_131 : decode cX0_settle 131 = .ok (.return_, 1) := by decide +kernel
theorem mokX0_settle : MOK yX0_settle cX0_settle 9 none 3 := ⟨w5_113, w1_10, ⟨by decide, by decide⟩, by decide +kernel, by decide⟩
abbrev miX0_settle : MI := (yX0_settle.cls, cX0_settle, 9, 3, false)
noncomputable def LX0_settle_1 : Sm Unit := dLoop (fun f => (sI (sI (sI (sI (sI (sI (sR (sR fr0 0 (gR f 0)) 1 (gR f 1)) 2 (gI f 2)) 3 (gI f 3)) 4 (gI f 4)) 5 (gI f 5)) 6 (gI f 6)) 7 (gI f 7))) (dCI r_lt (vI 7) (dGI 5 4 (vR 1))) (dIf (dCZ q_ne (dCall DX11_hasBit (aI (aI aN 0 (dCall DX11_cell (aI (aR aN 0 (dGR 0 6 (vR 0))) 1 (vI 4)))) 1 (vI 7)))) (dSeq (dSetI 8 (d2 o_imax (vI 3) (d2 o_iadd (vI 6) (dCallV 5 DX5_climbTo (aI (aI (aR aN 0 (vR 1)) 1 (vI 4)) 2 (vI 7)))))) (dDo (dCallV 0 DX0_await (aI (aI (aR aN 0 (vR 0)) 1 (d2 o_ior (vI 7) (d2 o_ishl (d2 o_ior (vI 5) (d2 o_ishl (cI 1) (vI 7))) (cI 3)))) 2 (vI 8))))) dSkip) (dInc 7 1)
theorem sLX0_settle_1 {ΓL : Gm} {PB PK : List Nat} : SS (cvoV, .return_) miX0_settle ΓL PB PK [(0, 2), (1, 2), (2, 0), (3, 0), (4, 0), (5, 0), (6, 0), (7, 0)] [(0, 2), (1, 2), (2, 0), (3, 0), (4, 0), (5, 0), (6, 0), (7, 0)] 64 [131] LX0_settle_1 := t_loop (pT := 73) (pF := 131) (pu := 125) (PB' := []) (PK' := []) (XB := [125]) (XU := [128]) (fun _ _ => rfl) rfl (c_lt_F (pF := 131) (s_iload dX0_settle_64 rfl) (s_getI ck5 4 (by decide) rfl (s_aload_n dX0_settle_66 rfl rfl) dX0_settle_67 w1_155) dX0_settle_70 rfl) (t_if (pT := 90) (pF := 125) (X := [125]) (XA := [125]) (XB := [125]) (c_ne_ZF (pF := 125) (s_of_xI (x_callN (ts := [(0, 0), (1, 0)]) kX11_hasBit mokX11_hasBit w4_37 rfl rfl rfl (a_I (ts := [(0, 0)]) 1 (a_I (ts := []) 0 a_nil (s_of_xI (x_callN (ts := [(0, 2), (1, 0)]) kX11_cell mokX11_cell w3_229 rfl rfl rfl (a_I (ts := [(0, 2)]) 1 (a_R (ts := []) 0 a_nil (s_getR ck0 6 (by decide) rfl (s_aload_n dX0_settle_73 rfl rfl) dX0_settle_74 w2_137) rfl) (s_iload dX0_settle_77 rfl) rfl) dX0_settle_79 nb25)) rfl) (s_iload dX0_settle_82 rfl) rfl) dX0_settle_84 nb26)) dX0_settle_87 rfl) (t_sq (p1 := 107) (Γ' := [(0, 2), (1, 2), (2, 0), (3, 0), (4, 0), (5, 0), (6, 0), (7, 0), (8, 0)]) (t_istore (s_mmax (s_iload_n dX0_settle_90 rfl rfl) (s_iadd (s_iload dX0_settle_91 rfl) (s_of_xI (x_callV (ts := [(0, 2), (1, 0), (2, 0)]) ck5 rfl kX5_climbTo mokX5_climbTo w4_61 w4_62 rfl rfl rfl rfl (a_I (ts := [(0, 2), (1, 0)]) 2 (a_I (ts := [(0, 2)]) 1 (a_R (ts := []) 0 a_nil (s_aload_n dX0_settle_93 rfl rfl) rfl) (s_iload dX0_settle_94 rfl) rfl) (s_iload dX0_settle_96 rfl) rfl) dX0_settle_98 w5_85)) dX0_settle_101) rfl rfl dX0_settle_102 w5_74) dX0_settle_105 rfl rfl) (t_do (x_callV (ts := [(0, 2), (1, 0), (2, 0)]) ck0 rfl kX0_await mokX0_await w5_108 ps2_11 rfl rfl rfl rfl (a_I (ts := [(0, 2), (1, 0)]) 2 (a_I (ts := [(0, 2)]) 1 (a_R (ts := []) 0 a_nil (s_aload_n dX0_settle_107 rfl rfl) rfl) (s_ior (s_iload dX0_settle_108 rfl) (s_ishl (s_ior (s_iload dX0_settle_110 rfl) (s_ishl (s_iconst dX0_settle_112 rfl) (s_iload dX0_settle_113 rfl) dX0_settle_115) dX0_settle_116) (s_iconst dX0_settle_117 rfl) dX0_settle_118) dX0_settle_119) rfl) (s_iload dX0_settle_120 rfl) rfl) dX0_settle_122 w5_106) rfl)) (t_skip (ld_in rfl) rfl) (lda_cons (ld_in rfl) lda_nil) (lda_cons (ld_in rfl) lda_nil)) (t_iinc dX0_settle_125 rfl rfl rfl rfl) (lda_cons (ld_in rfl) lda_nil) lda_nil (lda_cons (ld_goto (y := 64) dX0_settle_128 rfl (ld_in rfl)) lda_nil) (ld_in rfl) lda_nil
noncomputable def BX0_settle : Sm Unit := (dSeq (dSetI 4 (dCall DX0_houseOf (aI aN 0 (vI 2)))) (dSeq (dSetI 5 (dCall DX0_setOf (aI aN 0 (vI 2)))) (dSeq (dIf (dNot (dCZ q_ne (dCallV 0 DX0_markSeen (aI (aI (aR aN 0 (vR 0)) 1 (vI 4)) 2 (vI 5))))) dRet0 dSkip) (dSeq (dIf (dCI r_eq (dCall DX11_cell (aI (aR aN 0 (dGR 0 2 (vR 0))) 1 (vI 4))) (cI (-1))) (dDo (dCall DX11_put (aI (aI (aR aN 0 (dGR 0 2 (vR 0))) 1 (vI 4)) 2 (vI 3)))) dSkip) (dSeq (dSetI 6 (dCall DX11_cell (aI (aR aN 0 (dGR 0 4 (vR 0))) 1 (dCall DJ6_bitCount_0f7a4 (aI aN 0 (vI 5)))))) (dSeq (dSeq (dSetI 7 (cI 0)) LX0_settle_1) dRet0))))))
theorem sBX0_settle : SS (cvoV, .return_) miX0_settle [] [] [] [(0, 2), (1, 2), (2, 0), (3, 0)] [(0, 2), (1, 2), (2, 0), (3, 0)] 0 [] BX0_settle := (t_sq (p1 := 6) (Γ' := [(0, 2), (1, 2), (2, 0), (3, 0), (4, 0)]) (t_istore (s_of_xI (x_call (ts := [(0, 0)]) kX0_houseOf mokX0_houseOf w5_80 rfl rfl rfl (a_I (ts := []) 0 a_nil (s_iload_n dX0_settle_0 rfl rfl) rfl) dX0_settle_1 w5_79)) dX0_settle_4 rfl rfl) (t_sq (p1 := 12) (Γ' := [(0, 2), (1, 2), (2, 0), (3, 0), (4, 0), (5, 0)]) (t_istore (s_of_xI (x_call (ts := [(0, 0)]) kX0_setOf mokX0_setOf w5_83 rfl rfl rfl (a_I (ts := []) 0 a_nil (s_iload_n dX0_settle_6 rfl rfl) rfl) dX0_settle_7 w5_82)) dX0_settle_10 rfl rfl) (t_sq (p1 := 24) (Γ' := [(0, 2), (1, 2), (2, 0), (3, 0), (4, 0), (5, 0)]) (t_if (pT := 23) (pF := 24) (X := [24]) (XA := []) (XB := [24]) (c_not (pT := 23) (pF := 24) (c_ne_ZJ (pT := 24) (s_of_xI (x_callV (ts := [(0, 2), (1, 0), (2, 0)]) ck0 rfl kX0_markSeen mokX0_markSeen w5_71 ps2_9 rfl rfl rfl rfl (a_I (ts := [(0, 2), (1, 0)]) 2 (a_I (ts := [(0, 2)]) 1 (a_R (ts := []) 0 a_nil (s_aload_n dX0_settle_12 rfl rfl) rfl) (s_iload dX0_settle_13 rfl) rfl) (s_iload dX0_settle_15 rfl) rfl) dX0_settle_17 w5_69)) dX0_settle_20 rfl)) (t_ret0 (fun _ _ => rfl) dX0_settle_23) (t_skip (ld_in rfl) rfl) lda_nil (lda_cons (ld_in rfl) lda_nil)) (t_sq (p1 := 47) (Γ' := [(0, 2), (1, 2), (2, 0), (3, 0), (4, 0), (5, 0)]) (t_if (pT := 37) (pF := 47) (X := [47]) (XA := [47]) (XB := [47]) (c_eq_F (pF := 47) (s_of_xI (x_callN (ts := [(0, 2), (1, 0)]) kX11_cell mokX11_cell w3_229 rfl rfl rfl (a_I (ts := [(0, 2)]) 1 (a_R (ts := []) 0 a_nil (s_getR ck0 2 (by decide) rfl (s_aload_n dX0_settle_24 rfl rfl) dX0_settle_25 w2_132) rfl) (s_iload dX0_settle_28 rfl) rfl) dX0_settle_30 nb25)) (s_iconst dX0_settle_33 rfl) dX0_settle_34 rfl) (t_do (x_callN (ts := [(0, 2), (1, 0), (2, 0)]) kX11_put mokX11_put w3_161 rfl rfl rfl (a_I (ts := [(0, 2), (1, 0)]) 2 (a_I (ts := [(0, 2)]) 1 (a_R (ts := []) 0 a_nil (s_getR ck0 2 (by decide) rfl (s_aload_n dX0_settle_37 rfl rfl) dX0_settle_38 w2_132) rfl) (s_iload dX0_settle_41 rfl) rfl) (s_iload_n dX0_settle_43 rfl rfl) rfl) dX0_settle_44 nb24) rfl) (t_skip (ld_in rfl) rfl) (lda_cons (ld_in rfl) lda_nil) (lda_cons (ld_in rfl) lda_nil)) (t_sq (p1 := 61) (Γ' := [(0, 2), (1, 2), (2, 0), (3, 0), (4, 0), (5, 0), (6, 0)]) (t_istore (s_of_xI (x_callN (ts := [(0, 2), (1, 0)]) kX11_cell mokX11_cell w3_229 rfl rfl rfl (a_I (ts := [(0, 2)]) 1 (a_R (ts := []) 0 a_nil (s_getR ck0 4 (by decide) rfl (s_aload_n dX0_settle_47 rfl rfl) dX0_settle_48 w2_135) rfl) (s_of_xI (x_call (ts := [(0, 0)]) kJ6_bitCount_0f7a4 mokJ6_bitCount_0f7a4 w5_28 rfl rfl rfl (a_I (ts := []) 0 a_nil (s_iload dX0_settle_51 rfl) rfl) dX0_settle_53 w5_61)) rfl) dX0_settle_56 nb25)) dX0_settle_59 rfl rfl) (t_sq (p1 := 131) (Γ' := [(0, 2), (1, 2), (2, 0), (3, 0), (4, 0), (5, 0), (6, 0)]) (t_sq (p1 := 64) (Γ' := [(0, 2), (1, 2), (2, 0), (3, 0), (4, 0), (5, 0), (6, 0), (7, 0)]) (t_istore (s_iconst dX0_settle_61 rfl) dX0_settle_62 rfl rfl) (tn_to (Γ' := [(0, 2), (1, 2), (2, 0), (3, 0), (4, 0), (5, 0), (6, 0), (7, 0)]) (XA := [131]) sLX0_settle_1 (lda_cons (ld_in rfl) lda_nil) rfl)) (t_ret0 (fun _ _ => rfl) dX0_settle_131)))))))
noncomputable def DX0_settle : Fr → St → Option (Unit × St) := M1 (fun f => (sI (sI (sR (sR fr0 0 (gR f 0)) 1 (gR f 1)) 2 (gI f 2)) 3 (gI f 3))) BX0_settle
theorem kX0_settle : SND yX0_settle cX0_settle 9 none 3 [(0, 2), (1, 2), (2, 0), (3, 0)] cvoV DX0_settle := snd_V (nw := 4) (by decide) (fun z => by cases z) rfl rfl (fun _ _ => rfl) sBX0_settle
theorem dX0_findNeeds_0 : decode cX0_findNeeds 0 = .ok (.aload_n 0, 1) := by decide +kernel
theorem dX0_findNeeds_1 : decode cX0_findNeeds 1 = .ok (.getfield 55, 3) := by decide +kernel
theorem dX0_findNeeds_4 : decode cX0_findNeeds 4 = .ok (.iload_n 2, 1) := by decide +kernel
theorem dX0_findNeeds_5 : decode cX0_findNeeds 5 = .ok (.if_icmp .ne 4, 3) := by decide +kernel
theorem dX0_findNeeds_8 : decode cX0_findNeeds 8 = .ok (.return_, 1) := by decide +kernel
theorem dX0_findNeeds_9 : decode cX0_findNeeds 9 = .ok (.aload_n 0, 1) := by decide +kernel
theorem dX0_findNeeds_10 : decode cX0_findNeeds 10 = .ok (.iload_n 2, 1) := by decide +kernel
theorem dX0_findNeeds_11 : decode cX0_findNeeds 11 = .ok (.putfield 55, 3) := by decide +kernel
theorem dX0_findNeeds_14 : decode cX0_findNeeds 14 = .ok (.aload_n 0, 1) := by decide +kernel
theorem dX0_findNeeds_15 : decode cX0_findNeeds 15 = .ok (.aload_n 1, 1) := by decide +kernel
theorem dX0_findNeeds_16 : decode cX0_findNeeds 16 = .ok (.iload_n 2, 1) := by decide +kernel
theorem dX0_findNeeds_17 : decode cX0_findNeeds 17 = .ok (.invokevirtual 58, 3) := by decide +kernel
theorem dX0_findNeeds_20 : decode cX0_findNeeds 20 = .ok (.aload_n 0, 1) := by decide +kernel
theorem dX0_findNeeds_21 : decode cX0_findNeeds 21 = .ok (.getfield 18, 3) := by decide +kernel
theorem dX0_findNeeds_24 : decode cX0_findNeeds 24 = .ok (.iconst (-1), 1) := by decide +kernel
theorem dX0_findNeeds_25 : decode cX0_findNeeds 25 = .ok (.invokestatic 62, 3) := by decide +kernel
theorem dX0_findNeeds_28 : decode cX0_findNeeds 28 = .ok (.aload_n 0, 1) := by decide +kernel
theorem dX0_findNeeds_29 : decode cX0_findNeeds 29 = .ok (.getfield 39, 3) := by decide +kernel
theorem dX0_findNeeds_32 : decode cX0_findNeeds 32 = .ok (.iconst (-1), 1) := by decide +kernel
theorem dX0_findNeeds_33 : decode cX0_findNeeds 33 = .ok (.invokestatic 62, 3) := by decide +kernel
theorem dX0_findNeeds_36 : decode cX0_findNeeds 36 = .ok (.aload_n 0, 1) := by decide +kernel
theorem dX0_findNeeds_37 : decode cX0_findNeeds 37 = .ok (.iconst 0, 1) := by decide +kernel
theorem dX0_findNeeds_38 : decode cX0_findNeeds 38 = .ok (.putfield 92, 3) := by decide +kernel
theorem dX0_findNeeds_41 : decode cX0_findNeeds 41 = .ok (.aload_n 1, 1) := by decide +kernel
theorem dX0_findNeeds_42 : decode cX0_findNeeds 42 = .ok (.getfield 71, 3) := by decide +kernel
theorem dX0_findNeeds_45 : decode cX0_findNeeds 45 = .ok (.iload_n 2, 1) := by decide +kernel
theorem dX0_findNeeds_46 : decode cX0_findNeeds 46 = .ok (.invokestatic 76, 3) := by decide +kernel
theorem dX0_findNeeds_49 : decode cX0_findNeeds 49 = .ok (.istore_n 3, 1) := by decide +kernel
theorem dX0_findNeeds_50 : decode cX0_findNeeds 50 = .ok (.aload_n 0, 1) := by decide +kernel
theorem dX0_findNeeds_51 : decode cX0_findNeeds 51 = .ok (.iload_n 3, 1) := by decide +kernel
theorem dX0_findNeeds_52 : decode cX0_findNeeds 52 = .ok (.iconst 1, 1) := by decide +kernel
theorem dX0_findNeeds_53 : decode cX0_findNeeds 53 = .ok (.iload_n 3, 1) := by decide +kernel
theorem dX0_findNeeds_54 : decode cX0_findNeeds 54 = .ok (.ishl, 1) := by decide +kernel
theorem dX0_findNeeds_55 : decode cX0_findNeeds 55 = .ok (.iconst 3, 1) := by decide +kernel
theorem dX0_findNeeds_56 : decode cX0_findNeeds 56 = .ok (.ishl, 1) := by decide +kernel
theorem dX0_findNeeds_57 : decode cX0_findNeeds 57 = .ok (.ior, 1) := by decide +kernel
theorem dX0_findNeeds_58 : decode cX0_findNeeds 58 = .ok (.iconst 0, 1) := by decide +kernel
theorem dX0_findNeeds_59 : decode cX0_findNeeds 59 = .ok (.invokevirtual 95, 3) := by decide +kernel
theorem dX0_findNeeds_62 : decode cX0_findNeeds 62 = .ok (.iconst 0, 1) := by decide +kernel
theorem dX0_findNeeds_63 : decode cX0_findNeeds 63 = .ok (.istore 4, 2) := by decide +kernel
theorem dX0_findNeeds_65 : decode cX0_findNeeds 65 = .ok (.iload 4, 2) := by decide +kernel
theorem dX0_findNeeds_67 : decode cX0_findNeeds 67 = .ok (.sipush 201, 3) := by decide +kernel
theorem dX0_findNeeds_70 : decode cX0_findNeeds 70 = .ok (.if_icmp .ge 84, 3) := by decide +kernel
theorem dX0_findNeeds_73 : decode cX0_findNeeds 73 = .ok (.iconst 0, 1) := by decide +kernel
theorem dX0_findNeeds_74 : decode cX0_findNeeds 74 = .ok (.istore 5, 2) := by decide +kernel
theorem dX0_findNeeds_76 : decode cX0_findNeeds 76 = .ok (.iload 5, 2) := by decide +kernel
theorem dX0_findNeeds_78 : decode cX0_findNeeds 78 = .ok (.sipush 3073, 3) := by decide +kernel
theorem dX0_findNeeds_81 : decode cX0_findNeeds 81 = .ok (.if_icmp .ge 67, 3) := by decide +kernel
theorem dX0_findNeeds_84 : decode cX0_findNeeds 84 = .ok (.aload_n 0, 1) := by decide +kernel
theorem dX0_findNeeds_85 : decode cX0_findNeeds 85 = .ok (.getfield 39, 3) := by decide +kernel
theorem dX0_findNeeds_88 : decode cX0_findNeeds 88 = .ok (.iload 4, 2) := by decide +kernel
theorem dX0_findNeeds_90 : decode cX0_findNeeds 90 = .ok (.invokestatic 76, 3) := by decide +kernel
theorem dX0_findNeeds_93 : decode cX0_findNeeds 93 = .ok (.iconst (-1), 1) := by decide +kernel
theorem dX0_findNeeds_94 : decode cX0_findNeeds 94 = .ok (.if_icmp .eq 54, 3) := by decide +kernel
theorem dX0_findNeeds_97 : decode cX0_findNeeds 97 = .ok (.aload_n 0, 1) := by decide +kernel
theorem dX0_findNeeds_98 : decode cX0_findNeeds 98 = .ok (.getfield 39, 3) := by decide +kernel
theorem dX0_findNeeds_101 : decode cX0_findNeeds 101 = .ok (.iload 4, 2) := by decide +kernel
theorem dX0_findNeeds_103 : decode cX0_findNeeds 103 = .ok (.invokestatic 76, 3) := by decide +kernel
theorem dX0_findNeeds_106 : decode cX0_findNeeds 106 = .ok (.istore 6, 2) := by decide +kernel
theorem dX0_findNeeds_108 : decode cX0_findNeeds 108 = .ok (.aload_n 0, 1) := by decide +kernel
theorem dX0_findNeeds_109 : decode cX0_findNeeds 109 = .ok (.getfield 39, 3) := by decide +kernel
theorem dX0_findNeeds_112 : decode cX0_findNeeds 112 = .ok (.iload 4, 2) := by decide +kernel
theorem dX0_findNeeds_114 : decode cX0_findNeeds 114 = .ok (.aload_n 0, 1) := by decide +kernel
theorem dX0_findNeeds_115 : decode cX0_findNeeds 115 = .ok (.getfield 42, 3) := by decide +kernel
theorem dX0_findNeeds_118 : decode cX0_findNeeds 118 = .ok (.iload 6, 2) := by decide +kernel
theorem dX0_findNeeds_120 : decode cX0_findNeeds 120 = .ok (.invokestatic 76, 3) := by decide +kernel
theorem dX0_findNeeds_123 : decode cX0_findNeeds 123 = .ok (.invokestatic 80, 3) := by decide +kernel
theorem dX0_findNeeds_126 : decode cX0_findNeeds 126 = .ok (.aload_n 0, 1) := by decide +kernel
theorem dX0_findNeeds_127 : decode cX0_findNeeds 127 = .ok (.aload_n 1, 1) := by decide +kernel
theorem dX0_findNeeds_128 : decode cX0_findNeeds 128 = .ok (.aload_n 0, 1) := by decide +kernel
theorem dX0_findNeeds_129 : decode cX0_findNeeds 129 = .ok (.getfield 45, 3) := by decide +kernel
theorem dX0_findNeeds_132 : decode cX0_findNeeds 132 = .ok (.iload 6, 2) := by decide +kernel
theorem dX0_findNeeds_134 : decode cX0_findNeeds 134 = .ok (.invokestatic 76, 3) := by decide +kernel
theorem dX0_findNeeds_137 : decode cX0_findNeeds 137 = .ok (.iload 4, 2) := by decide +kernel
theorem dX0_findNeeds_139 : decode cX0_findNeeds 139 = .ok (.invokevirtual 99, 3) := by decide +kernel
theorem dX0_findNeeds_142 : decode cX0_findNeeds 142 = .ok (.iinc 5 1, 3) := by decide +kernel
theorem dX0_findNeeds_145 : decode cX0_findNeeds 145 = .ok (.goto (-69), 3) := by decide +kernel
theorem dX0_findNeeds_148 : decode cX0_findNeeds 148 = .ok (.iinc 4 1, 3) := by decide +kernel
theorem dX0_findNeeds_151 : decode cX0_findNeeds 151 = .ok (.goto (-86), 3) := by decide +kernel
theorem dX0_findNeeds_154 : decode cX0_findNeeds 154 = .ok (.return_, 1) := by decide +kernel
theorem mokX0_findNeeds : MOK yX0_findNeeds cX0_findNeeds 7 none 2 := ⟨w5_105, w1_10, ⟨by decide, by decide⟩, by decide +kernel, by decide⟩
abbrev miX0_findNeeds : MI := (yX0_findNeeds.cls, cX0_findNeeds, 7, 5, false)
noncomputable def LX0_findNeeds_1 : Sm Unit := dLoop (fun f => (sI (sI (sI (sI (sR (sR fr0 0 (gR f 0)) 1 (gR f 1)) 2 (gI f 2)) 3 (gI f 3)) 4 (gI f 4)) 5 (gI f 5))) (dAnd (dCI r_lt (vI 5) (cI 3073)) (dCI r_ne (dCall DX11_cell (aI (aR aN 0 (dGR 0 10 (vR 0))) 1 (vI 4))) (cI (-1)))) (dSeq (dSetI 6 (dCall DX11_cell (aI (aR aN 0 (dGR 0 10 (vR 0))) 1 (vI 4)))) (dSeq (dDo (dCall DX11_put (aI (aI (aR aN 0 (dGR 0 10 (vR 0))) 1 (vI 4)) 2 (dCall DX11_cell (aI (aR aN 0 (dGR 0 11 (vR 0))) 1 (vI 6)))))) (dDo (dCallV 0 DX0_settle (aI (aI (aR (aR aN 0 (vR 0)) 1 (vR 1)) 2 (dCall DX11_cell (aI (aR aN 0 (dGR 0 12 (vR 0))) 1 (vI 6)))) 3 (vI 4)))))) (dInc 5 1)
theorem sLX0_findNeeds_1 {ΓL : Gm} {PB PK : List Nat} : SS (cvoV, .return_) miX0_findNeeds ΓL PB PK [(0, 2), (1, 2), (2, 0), (3, 0), (4, 0), (5, 0)] [(0, 2), (1, 2), (2, 0), (3, 0), (4, 0), (5, 0)] 76 [148] LX0_findNeeds_1 := t_loop (pT := 97) (pF := 148) (pu := 142) (PB' := []) (PK' := []) (XB := [142]) (XU := [145]) (fun _ _ => rfl) rfl (c_and (p1 := 84) (pT := 97) (pF := 148) (c_lt_F (pF := 148) (s_iload dX0_findNeeds_76 rfl) (s_sipush dX0_findNeeds_78 rfl) dX0_findNeeds_81 rfl) (c_ne_F (pF := 148) (s_of_xI (x_callN (ts := [(0, 2), (1, 0)]) kX11_cell mokX11_cell w3_229 rfl rfl rfl (a_I (ts := [(0, 2)]) 1 (a_R (ts := []) 0 a_nil (s_getR ck0 10 (by decide) rfl (s_aload_n dX0_findNeeds_84 rfl rfl) dX0_findNeeds_85 w2_141) rfl) (s_iload dX0_findNeeds_88 rfl) rfl) dX0_findNeeds_90 nb25)) (s_iconst dX0_findNeeds_93 rfl) dX0_findNeeds_94 rfl)) (t_sq (p1 := 108) (Γ' := [(0, 2), (1, 2), (2, 0), (3, 0), (4, 0), (5, 0), (6, 0)]) (t_istore (s_of_xI (x_callN (ts := [(0, 2), (1, 0)]) kX11_cell mokX11_cell w3_229 rfl rfl rfl (a_I (ts := [(0, 2)]) 1 (a_R (ts := []) 0 a_nil (s_getR ck0 10 (by decide) rfl (s_aload_n dX0_findNeeds_97 rfl rfl) dX0_findNeeds_98 w2_141) rfl) (s_iload dX0_findNeeds_101 rfl) rfl) dX0_findNeeds_103 nb25)) dX0_findNeeds_106 rfl rfl) (t_sq (p1 := 126) (Γ' := [(0, 2), (1, 2), (2, 0), (3, 0), (4, 0), (5, 0), (6, 0)]) (t_do (x_callN (ts := [(0, 2), (1, 0), (2, 0)]) kX11_put mokX11_put w3_161 rfl rfl rfl (a_I (ts := [(0, 2), (1, 0)]) 2 (a_I (ts := [(0, 2)]) 1 (a_R (ts := []) 0 a_nil (s_getR ck0 10 (by decide) rfl (s_aload_n dX0_findNeeds_108 rfl rfl) dX0_findNeeds_109 w2_141) rfl) (s_iload dX0_findNeeds_112 rfl) rfl) (s_of_xI (x_callN (ts := [(0, 2), (1, 0)]) kX11_cell mokX11_cell w3_229 rfl rfl rfl (a_I (ts := [(0, 2)]) 1 (a_R (ts := []) 0 a_nil (s_getR ck0 11 (by decide) rfl (s_aload_n dX0_findNeeds_114 rfl rfl) dX0_findNeeds_115 w2_142) rfl) (s_iload dX0_findNeeds_118 rfl) rfl) dX0_findNeeds_120 nb25)) rfl) dX0_findNeeds_123 nb24) rfl) (t_do (x_callV (ts := [(0, 2), (1, 2), (2, 0), (3, 0)]) ck0 rfl kX0_settle mokX0_settle w5_112 ps2_12 rfl rfl rfl rfl (a_I (ts := [(0, 2), (1, 2), (2, 0)]) 3 (a_I (ts := [(0, 2), (1, 2)]) 2 (a_R (ts := [(0, 2)]) 1 (a_R (ts := []) 0 a_nil (s_aload_n dX0_findNeeds_126 rfl rfl) rfl) (s_aload_n dX0_findNeeds_127 rfl rfl) rfl) (s_of_xI (x_callN (ts := [(0, 2), (1, 0)]) kX11_cell mokX11_cell w3_229 rfl rfl rfl (a_I (ts := [(0, 2)]) 1 (a_R (ts := []) 0 a_nil (s_getR ck0 12 (by decide) rfl (s_aload_n dX0_findNeeds_128 rfl rfl) dX0_findNeeds_129 w2_143) rfl) (s_iload dX0_findNeeds_132 rfl) rfl) dX0_findNeeds_134 nb25)) rfl) (s_iload dX0_findNeeds_137 rfl) rfl) dX0_findNeeds_139 w5_110) rfl))) (t_iinc dX0_findNeeds_142 rfl rfl rfl rfl) (lda_cons (ld_in rfl) lda_nil) lda_nil (lda_cons (ld_goto (y := 76) dX0_findNeeds_145 rfl (ld_in rfl)) lda_nil) (ld_in rfl) lda_nil
noncomputable def LX0_findNeeds_2 : Sm Unit := dLoop (fun f => (sI (sI (sI (sR (sR fr0 0 (gR f 0)) 1 (gR f 1)) 2 (gI f 2)) 3 (gI f 3)) 4 (gI f 4))) (dCI r_lt (vI 4) (cI 201)) (dSeq (dSetI 5 (cI 0)) LX0_findNeeds_1) (dInc 4 1)
theorem sLX0_findNeeds_2 {ΓL : Gm} {PB PK : List Nat} : SS (cvoV, .return_) miX0_findNeeds ΓL PB PK [(0, 2), (1, 2), (2, 0), (3, 0), (4, 0)] [(0, 2), (1, 2), (2, 0), (3, 0), (4, 0)] 65 [154] LX0_findNeeds_2 := t_loop (pT := 73) (pF := 154) (pu := 148) (PB' := []) (PK' := []) (XB := [148]) (XU := [151]) (fun _ _ => rfl) rfl (c_lt_F (pF := 154) (s_iload dX0_findNeeds_65 rfl) (s_sipush dX0_findNeeds_67 rfl) dX0_findNeeds_70 rfl) (t_sq (p1 := 76) (Γ' := [(0, 2), (1, 2), (2, 0), (3, 0), (4, 0), (5, 0)]) (t_istore (s_iconst dX0_findNeeds_73 rfl) dX0_findNeeds_74 rfl rfl) (tn_to (Γ' := [(0, 2), (1, 2), (2, 0), (3, 0), (4, 0), (5, 0)]) (XA := [148]) sLX0_findNeeds_1 (lda_cons (ld_in rfl) lda_nil) rfl)) (t_iinc dX0_findNeeds_148 rfl rfl rfl rfl) (lda_cons (ld_in rfl) lda_nil) lda_nil (lda_cons (ld_goto (y := 65) dX0_findNeeds_151 rfl (ld_in rfl)) lda_nil) (ld_in rfl) lda_nil
noncomputable def BX0_findNeeds : Sm Unit := (dSeq (dIf (dCI r_eq (dGI 0 16 (vR 0)) (vI 2)) dRet0 dSkip) (dSeq (dP (fI 0 16) (vR 0) (vI 2)) (dSeq (dDo (dCallV 0 DX0_prepare (aI (aR (aR aN 0 (vR 0)) 1 (vR 1)) 2 (vI 2)))) (dSeq (dDo (dCall DJ7_fill_53178 (aI (aR aN 0 (dGR 0 2 (vR 0))) 1 (cI (-1))))) (dSeq (dDo (dCall DJ7_fill_53178 (aI (aR aN 0 (dGR 0 10 (vR 0))) 1 (cI (-1))))) (dSeq (dP (fI 0 13) (vR 0) (cI 0)) (dSeq (dSetI 3 (dCall DX11_cell (aI (aR aN 0 (dGR 5 13 (vR 1))) 1 (vI 2)))) (dSeq (dDo (dCallV 0 DX0_await (aI (aI (aR aN 0 (vR 0)) 1 (d2 o_ior (vI 3) (d2 o_ishl (d2 o_ishl (cI 1) (vI 3)) (cI 3)))) 2 (cI 0)))) (dSeq (dSeq (dSetI 4 (cI 0)) LX0_findNeeds_2) dRet0)))))))))
theorem sBX0_findNeeds : SS (cvoV, .return_) miX0_findNeeds [] [] [] [(0, 2), (1, 2), (2, 0)] [(0, 2), (1, 2), (2, 0)] 0 [] BX0_findNeeds := (t_sq (p1 := 9) (Γ' := [(0, 2), (1, 2), (2, 0)]) (t_if (pT := 8) (pF := 9) (X := [9]) (XA := []) (XB := [9]) (c_eq_F (pF := 9) (s_getI ck0 16 (by decide) rfl (s_aload_n dX0_findNeeds_0 rfl rfl) dX0_findNeeds_1 w2_147) (s_iload_n dX0_findNeeds_4 rfl rfl) dX0_findNeeds_5 rfl) (t_ret0 (fun _ _ => rfl) dX0_findNeeds_8) (t_skip (ld_in rfl) rfl) lda_nil (lda_cons (ld_in rfl) lda_nil)) (t_sq (p1 := 14) (Γ' := [(0, 2), (1, 2), (2, 0)]) (t_pI ck0 16 (by decide) rfl (Or.inl rfl) (s_aload_n dX0_findNeeds_9 rfl rfl) (s_iload_n dX0_findNeeds_10 rfl rfl) dX0_findNeeds_11 w2_147 rfl) (t_sq (p1 := 20) (Γ' := [(0, 2), (1, 2), (2, 0)]) (t_do (x_callV (ts := [(0, 2), (1, 2), (2, 0)]) ck0 rfl kX0_prepare mokX0_prepare w5_55 ps2_7 rfl rfl rfl rfl (a_I (ts := [(0, 2), (1, 2)]) 2 (a_R (ts := [(0, 2)]) 1 (a_R (ts := []) 0 a_nil (s_aload_n dX0_findNeeds_14 rfl rfl) rfl) (s_aload_n dX0_findNeeds_15 rfl rfl) rfl) (s_iload_n dX0_findNeeds_16 rfl rfl) rfl) dX0_findNeeds_17 w5_53) rfl) (t_sq (p1 := 28) (Γ' := [(0, 2), (1, 2), (2, 0)]) (t_do (x_call (ts := [(0, 2), (1, 0)]) kJ7_fill_53178 mokJ7_fill_53178 w4_52 rfl rfl rfl (a_I (ts := [(0, 2)]) 1 (a_R (ts := []) 0 a_nil (s_getR ck0 2 (by decide) rfl (s_aload_n dX0_findNeeds_20 rfl rfl) dX0_findNeeds_21 w2_132) rfl) (s_iconst dX0_findNeeds_24 rfl) rfl) dX0_findNeeds_25 w5_57) rfl) (t_sq (p1 := 36) (Γ' := [(0, 2), (1, 2), (2, 0)]) (t_do (x_call (ts := [(0, 2), (1, 0)]) kJ7_fill_53178 mokJ7_fill_53178 w4_52 rfl rfl rfl (a_I (ts := [(0, 2)]) 1 (a_R (ts := []) 0 a_nil (s_getR ck0 10 (by decide) rfl (s_aload_n dX0_findNeeds_28 rfl rfl) dX0_findNeeds_29 w2_141) rfl) (s_iconst dX0_findNeeds_32 rfl) rfl) dX0_findNeeds_33 w5_57) rfl) (t_sq (p1 := 41) (Γ' := [(0, 2), (1, 2), (2, 0)]) (t_pI ck0 13 (by decide) rfl (Or.inl rfl) (s_aload_n dX0_findNeeds_36 rfl rfl) (s_iconst dX0_findNeeds_37 rfl) dX0_findNeeds_38 w2_144 rfl) (t_sq (p1 := 50) (Γ' := [(0, 2), (1, 2), (2, 0), (3, 0)]) (t_istore_n (s_of_xI (x_callN (ts := [(0, 2), (1, 0)]) kX11_cell mokX11_cell w3_229 rfl rfl rfl (a_I (ts := [(0, 2)]) 1 (a_R (ts := []) 0 a_nil (s_getR ck5 13 (by decide) rfl (s_aload_n dX0_findNeeds_41 rfl rfl) dX0_findNeeds_42 w1_188) rfl) (s_iload_n dX0_findNeeds_45 rfl rfl) rfl) dX0_findNeeds_46 nb25)) dX0_findNeeds_49 rfl rfl rfl) (t_sq (p1 := 62) (Γ' := [(0, 2), (1, 2), (2, 0), (3, 0)]) (t_do (x_callV (ts := [(0, 2), (1, 0), (2, 0)]) ck0 rfl kX0_await mokX0_await w5_108 ps2_11 rfl rfl rfl rfl (a_I (ts := [(0, 2), (1, 0)]) 2 (a_I (ts := [(0, 2)]) 1 (a_R (ts := []) 0 a_nil (s_aload_n dX0_findNeeds_50 rfl rfl) rfl) (s_ior (s_iload_n dX0_findNeeds_51 rfl rfl) (s_ishl (s_ishl (s_iconst dX0_findNeeds_52 rfl) (s_iload_n dX0_findNeeds_53 rfl rfl) dX0_findNeeds_54) (s_iconst dX0_findNeeds_55 rfl) dX0_findNeeds_56) dX0_findNeeds_57) rfl) (s_iconst dX0_findNeeds_58 rfl) rfl) dX0_findNeeds_59 w5_106) rfl) (t_sq (p1 := 154) (Γ' := [(0, 2), (1, 2), (2, 0), (3, 0)]) (t_sq (p1 := 65) (Γ' := [(0, 2), (1, 2), (2, 0), (3, 0), (4, 0)]) (t_istore (s_iconst dX0_findNeeds_62 rfl) dX0_findNeeds_63 rfl rfl) (tn_to (Γ' := [(0, 2), (1, 2), (2, 0), (3, 0), (4, 0)]) (XA := [154]) sLX0_findNeeds_2 (lda_cons (ld_in rfl) lda_nil) rfl)) (t_ret0 (fun _ _ => rfl) dX0_findNeeds_154))))))))))
noncomputable def DX0_findNeeds : Fr → St → Option (Unit × St) := M1 (fun f => (sI (sR (sR fr0 0 (gR f 0)) 1 (gR f 1)) 2 (gI f 2))) BX0_findNeeds
theorem kX0_findNeeds : SND yX0_findNeeds cX0_findNeeds 7 none 5 [(0, 2), (1, 2), (2, 0)] cvoV DX0_findNeeds := snd_V (nw := 3) (by decide) (fun z => by cases z) rfl rfl (fun _ _ => rfl) sBX0_findNeeds
theorem dX11_needs_0 : decode cX11_needs 0 = .ok (.aload_n 0, 1) := by decide +kernel
theorem dX11_needs_1 : decode cX11_needs 1 = .ok (.getfield 26, 3) := by decide +kernel
theorem dX11_needs_4 : decode cX11_needs 4 = .ok (.iload_n 1, 1) := by decide +kernel
theorem dX11_needs_5 : decode cX11_needs 5 = .ok (.invokevirtual 140, 3) := by decide +kernel
theorem dX11_needs_8 : decode cX11_needs 8 = .ok (.ifCond .eq 14, 3) := by decide +kernel
theorem dX11_needs_11 : decode cX11_needs 11 = .ok (.aload_n 0, 1) := by decide +kernel
theorem dX11_needs_12 : decode cX11_needs 12 = .ok (.getfield 26, 3) := by decide +kernel
theorem dX11_needs_15 : decode cX11_needs 15 = .ok (.iload_n 2, 1) := by decide +kernel
theorem dX11_needs_16 : decode cX11_needs 16 = .ok (.invokevirtual 117, 3) := by decide +kernel
theorem dX11_needs_19 : decode cX11_needs 19 = .ok (.ifCond .ne 6, 3) := by decide +kernel
theorem dX11_needs_22 : decode cX11_needs 22 = .ok (.bipush (-2), 2) := by decide +kernel
theorem dX11_needs_24 : decode cX11_needs 24 = .ok (.ireturn, 1) := by decide +kernel
theorem dX11_needs_25 : decode cX11_needs 25 = .ok (.aload_n 0, 1) := by decide +kernel
theorem dX11_needs_26 : decode cX11_needs 26 = .ok (.getfield 64, 3) := by decide +kernel
theorem dX11_needs_29 : decode cX11_needs 29 = .ok (.aload_n 0, 1) := by decide +kernel
theorem dX11_needs_30 : decode cX11_needs 30 = .ok (.getfield 26, 3) := by decide +kernel
theorem dX11_needs_33 : decode cX11_needs 33 = .ok (.iload_n 1, 1) := by decide +kernel
theorem dX11_needs_34 : decode cX11_needs 34 = .ok (.invokevirtual 267, 3) := by decide +kernel
theorem dX11_needs_37 : decode cX11_needs 37 = .ok (.aload_n 0, 1) := by decide +kernel
theorem dX11_needs_38 : decode cX11_needs 38 = .ok (.getfield 64, 3) := by decide +kernel
theorem dX11_needs_41 : decode cX11_needs 41 = .ok (.getfield 271, 3) := by decide +kernel
theorem dX11_needs_44 : decode cX11_needs 44 = .ok (.iload_n 2, 1) := by decide +kernel
theorem dX11_needs_45 : decode cX11_needs 45 = .ok (.invokestatic 124, 3) := by decide +kernel
theorem dX11_needs_48 : decode cX11_needs 48 = .ok (.ireturn, 1) := by decide +kernel
theorem mokX11_needs : MOK yX11_needs cX11_needs 3 (some .int) 2 := ⟨w5_101, w1_1, ⟨by decide, by decide⟩, by decide +kernel, by decide⟩
abbrev miX11_needs : MI := (yX11_needs.cls, cX11_needs, 3, 6, false)
noncomputable def BX11_needs : Sm Int32 := (dSeq (dIf (dOr (dNot (dCZ q_ne (dCallV 5 DX5_isSlate (aI (aR aN 0 (dGR 11 2 (vR 0))) 1 (vI 1))))) (dNot (dCZ q_ne (dCallV 5 DX5_isHouse (aI (aR aN 0 (dGR 11 2 (vR 0))) 1 (vI 2)))))) (dRet (cI (-2))) dSkip) (dSeq (dDo (dCallV 0 DX0_findNeeds (aI (aR (aR aN 0 (dGR 11 9 (vR 0))) 1 (dGR 11 2 (vR 0))) 2 (vI 1)))) (dRet (dCall DX11_cell (aI (aR aN 0 (dGR 0 2 (dGR 11 9 (vR 0)))) 1 (vI 2))))))
theorem sBX11_needs : SS (cvoI, .ireturn) miX11_needs [] [] [] [(0, 2), (1, 0), (2, 0)] [(0, 2), (1, 0), (2, 0)] 0 [] BX11_needs := (t_sq (p1 := 25) (Γ' := [(0, 2), (1, 0), (2, 0)]) (t_if (pT := 22) (pF := 25) (X := [25]) (XA := []) (XB := [25]) (c_or (p1 := 11) (pT := 22) (pF := 25) (c_not (pT := 22) (pF := 11) (c_ne_ZF (pF := 22) (s_of_xI (x_callV (ts := [(0, 2), (1, 0)]) ck5 rfl kX5_isSlate mokX5_isSlate w4_7 w4_8 rfl rfl rfl rfl (a_I (ts := [(0, 2)]) 1 (a_R (ts := []) 0 a_nil (s_getR ck11 2 (by decide) rfl (s_aload_n dX11_needs_0 rfl rfl) dX11_needs_1 w2_220) rfl) (s_iload_n dX11_needs_4 rfl rfl) rfl) dX11_needs_5 w4_6)) dX11_needs_8 rfl)) (c_not (pT := 22) (pF := 25) (c_ne_ZJ (pT := 25) (s_of_xI (x_callV (ts := [(0, 2), (1, 0)]) ck5 rfl kX5_isHouse mokX5_isHouse w3_225 w3_226 rfl rfl rfl rfl (a_I (ts := [(0, 2)]) 1 (a_R (ts := []) 0 a_nil (s_getR ck11 2 (by decide) rfl (s_aload_n dX11_needs_11 rfl rfl) dX11_needs_12 w2_220) rfl) (s_iload_n dX11_needs_15 rfl rfl) rfl) dX11_needs_16 w3_224)) dX11_needs_19 rfl))) (t_ret (cv := cvI) (fun _ _ => rfl) (s_bipush dX11_needs_22 rfl) dX11_needs_24) (t_skip (ld_in rfl) rfl) lda_nil (lda_cons (ld_in rfl) lda_nil)) (t_sq (p1 := 37) (Γ' := [(0, 2), (1, 0), (2, 0)]) (t_do (x_callV (ts := [(0, 2), (1, 2), (2, 0)]) ck0 rfl kX0_findNeeds mokX0_findNeeds w5_103 w5_104 rfl rfl rfl rfl (a_I (ts := [(0, 2), (1, 2)]) 2 (a_R (ts := [(0, 2)]) 1 (a_R (ts := []) 0 a_nil (s_getR ck11 9 (by decide) rfl (s_aload_n dX11_needs_25 rfl rfl) dX11_needs_26 w2_227) rfl) (s_getR ck11 2 (by decide) rfl (s_aload_n dX11_needs_29 rfl rfl) dX11_needs_30 w2_220) rfl) (s_iload_n dX11_needs_33 rfl rfl) rfl) dX11_needs_34 w5_102) rfl) (t_ret (cv := cvI) (fun _ _ => rfl) (s_of_xI (x_call (ts := [(0, 2), (1, 0)]) kX11_cell mokX11_cell w3_229 rfl rfl rfl (a_I (ts := [(0, 2)]) 1 (a_R (ts := []) 0 a_nil (s_getR ck0 2 (by decide) rfl (s_getR ck11 9 (by decide) rfl (s_aload_n dX11_needs_37 rfl rfl) dX11_needs_38 w2_227) dX11_needs_41 w2_133) rfl) (s_iload_n dX11_needs_44 rfl rfl) rfl) dX11_needs_45 w3_228)) dX11_needs_48)))
noncomputable def DX11_needs : Fr → St → Option (Int32 × St) := M1 (fun f => (sI (sI (sR fr0 0 (gR f 0)) 1 (gI f 1)) 2 (gI f 2))) BX11_needs
theorem kX11_needs : SND yX11_needs cX11_needs 3 (some .int) 6 [(0, 2), (1, 0), (2, 0)] cvoI DX11_needs := snd_I (nw := 3) (by decide) rfl rfl (fun _ _ => rfl) sBX11_needs
theorem dX11_porter_0 : decode cX11_porter 0 = .ok (.aload_n 0, 1) := by decide +kernel
theorem dX11_porter_1 : decode cX11_porter 1 = .ok (.getfield 26, 3) := by decide +kernel
theorem dX11_porter_4 : decode cX11_porter 4 = .ok (.iload_n 1, 1) := by decide +kernel
theorem dX11_porter_5 : decode cX11_porter 5 = .ok (.invokevirtual 140, 3) := by decide +kernel
theorem dX11_porter_8 : decode cX11_porter 8 = .ok (.ifCond .eq 14, 3) := by decide +kernel
theorem dX11_porter_11 : decode cX11_porter 11 = .ok (.aload_n 0, 1) := by decide +kernel
theorem dX11_porter_12 : decode cX11_porter 12 = .ok (.getfield 26, 3) := by decide +kernel
theorem dX11_porter_15 : decode cX11_porter 15 = .ok (.iload_n 2, 1) := by decide +kernel
theorem dX11_porter_16 : decode cX11_porter 16 = .ok (.invokevirtual 117, 3) := by decide +kernel
theorem dX11_porter_19 : decode cX11_porter 19 = .ok (.ifCond .ne 6, 3) := by decide +kernel
theorem dX11_porter_22 : decode cX11_porter 22 = .ok (.bipush (-2), 2) := by decide +kernel
theorem dX11_porter_24 : decode cX11_porter 24 = .ok (.ireturn, 1) := by decide +kernel
theorem dX11_porter_25 : decode cX11_porter 25 = .ok (.iconst (-1), 1) := by decide +kernel
theorem dX11_porter_26 : decode cX11_porter 26 = .ok (.istore_n 3, 1) := by decide +kernel
theorem dX11_porter_27 : decode cX11_porter 27 = .ok (.iconst 0, 1) := by decide +kernel
theorem dX11_porter_28 : decode cX11_porter 28 = .ok (.istore 4, 2) := by decide +kernel
theorem dX11_porter_30 : decode cX11_porter 30 = .ok (.iconst 0, 1) := by decide +kernel
theorem dX11_porter_31 : decode cX11_porter 31 = .ok (.istore 5, 2) := by decide +kernel
theorem dX11_porter_33 : decode cX11_porter 33 = .ok (.iload 5, 2) := by decide +kernel
theorem dX11_porter_35 : decode cX11_porter 35 = .ok (.aload_n 0, 1) := by decide +kernel
theorem dX11_porter_36 : decode cX11_porter 36 = .ok (.getfield 26, 3) := by decide +kernel
theorem dX11_porter_39 : decode cX11_porter 39 = .ok (.getfield 274, 3) := by decide +kernel
theorem dX11_porter_42 : decode cX11_porter 42 = .ok (.if_icmp .ge 71, 3) := by decide +kernel
theorem dX11_porter_45 : decode cX11_porter 45 = .ok (.aload_n 0, 1) := by decide +kernel
theorem dX11_porter_46 : decode cX11_porter 46 = .ok (.getfield 64, 3) := by decide +kernel
theorem dX11_porter_49 : decode cX11_porter 49 = .ok (.aload_n 0, 1) := by decide +kernel
theorem dX11_porter_50 : decode cX11_porter 50 = .ok (.getfield 26, 3) := by decide +kernel
theorem dX11_porter_53 : decode cX11_porter 53 = .ok (.iload_n 1, 1) := by decide +kernel
theorem dX11_porter_54 : decode cX11_porter 54 = .ok (.aload_n 0, 1) := by decide +kernel
theorem dX11_porter_55 : decode cX11_porter 55 = .ok (.getfield 26, 3) := by decide +kernel
theorem dX11_porter_58 : decode cX11_porter 58 = .ok (.getfield 137, 3) := by decide +kernel
theorem dX11_porter_61 : decode cX11_porter 61 = .ok (.iload 5, 2) := by decide +kernel
theorem dX11_porter_63 : decode cX11_porter 63 = .ok (.invokestatic 124, 3) := by decide +kernel
theorem dX11_porter_66 : decode cX11_porter 66 = .ok (.invokevirtual 254, 3) := by decide +kernel
theorem dX11_porter_69 : decode cX11_porter 69 = .ok (.aload_n 0, 1) := by decide +kernel
theorem dX11_porter_70 : decode cX11_porter 70 = .ok (.getfield 64, 3) := by decide +kernel
theorem dX11_porter_73 : decode cX11_porter 73 = .ok (.getfield 258, 3) := by decide +kernel
theorem dX11_porter_76 : decode cX11_porter 76 = .ok (.iload_n 2, 1) := by decide +kernel
theorem dX11_porter_77 : decode cX11_porter 77 = .ok (.invokestatic 124, 3) := by decide +kernel
theorem dX11_porter_80 : decode cX11_porter 80 = .ok (.istore 6, 2) := by decide +kernel
theorem dX11_porter_82 : decode cX11_porter 82 = .ok (.iload 6, 2) := by decide +kernel
theorem dX11_porter_84 : decode cX11_porter 84 = .ok (.iconst (-1), 1) := by decide +kernel
theorem dX11_porter_85 : decode cX11_porter 85 = .ok (.if_icmp .eq 22, 3) := by decide +kernel
theorem dX11_porter_88 : decode cX11_porter 88 = .ok (.iload_n 3, 1) := by decide +kernel
theorem dX11_porter_89 : decode cX11_porter 89 = .ok (.iconst (-1), 1) := by decide +kernel
theorem dX11_porter_90 : decode cX11_porter 90 = .ok (.if_icmp .eq 10, 3) := by decide +kernel
theorem dX11_porter_93 : decode cX11_porter 93 = .ok (.iload 6, 2) := by decide +kernel
theorem dX11_porter_95 : decode cX11_porter 95 = .ok (.iload 4, 2) := by decide +kernel
theorem dX11_porter_97 : decode cX11_porter 97 = .ok (.if_icmp .ge 10, 3) := by decide +kernel
theorem dX11_porter_100 : decode cX11_porter 100 = .ok (.iload 5, 2) := by decide +kernel
theorem dX11_porter_102 : decode cX11_porter 102 = .ok (.istore_n 3, 1) := by decide +kernel
theorem dX11_porter_103 : decode cX11_porter 103 = .ok (.iload 6, 2) := by decide +kernel
theorem dX11_porter_105 : decode cX11_porter 105 = .ok (.istore 4, 2) := by decide +kernel
theorem dX11_porter_107 : decode cX11_porter 107 = .ok (.iinc 5 1, 3) := by decide +kernel
theorem dX11_porter_110 : decode cX11_porter 110 = .ok (.goto (-77), 3) := by decide +kernel
theorem dX11_porter_113 : decode cX11_porter 113 = .ok (.iload_n 3, 1) := by decide +kernel
theorem dX11_porter_114 : decode cX11_porter 114 = .ok (.ireturn, 1) := by decide +kernel
theorem mokX11_porter : MOK yX11_porter cX11_porter 7 (some .int) 2 := ⟨w5_117, w1_1, ⟨by decide, by decide⟩, by decide +kernel, by decide⟩
abbrev miX11_porter : MI := (yX11_porter.cls, cX11_porter, 7, 6, false)
noncomputable def LX11_porter_1 : Sm Int32 := dLoop (fun f => (sI (sI (sI (sI (sI (sR fr0 0 (gR f 0)) 1 (gI f 1)) 2 (gI f 2)) 3 (gI f 3)) 4 (gI f 4)) 5 (gI f 5))) (dCI r_lt (vI 5) (dGI 5 6 (dGR 11 2 (vR 0)))) (dSeq (dDo (dCallV 0 DX0_search (aI (aI (aR (aR aN 0 (dGR 11 9 (vR 0))) 1 (dGR 11 2 (vR 0))) 2 (vI 1)) 3 (dCall DX11_cell (aI (aR aN 0 (dGR 5 12 (dGR 11 2 (vR 0)))) 1 (vI 5)))))) (dSeq (dSetI 6 (dCall DX11_cell (aI (aR aN 0 (dGR 0 0 (dGR 11 9 (vR 0)))) 1 (vI 2)))) (dIf (dAnd (dCI r_ne (vI 6) (cI (-1))) (dOr (dCI r_eq (vI 3) (cI (-1))) (dCI r_lt (vI 6) (vI 4)))) (dSeq (dSetI 3 (vI 5)) (dSetI 4 (vI 6))) dSkip))) (dInc 5 1)
theorem sLX11_porter_1 {ΓL : Gm} {PB PK : List Nat} : SS (cvoI, .ireturn) miX11_porter ΓL PB PK [(0, 2), (1, 0), (2, 0), (3, 0), (4, 0), (5, 0)] [(0, 2), (1, 0), (2, 0), (3, 0), (4, 0), (5, 0)] 33 [113] LX11_porter_1 := t_loop (pT := 45) (pF := 113) (pu := 107) (PB' := []) (PK' := []) (XB := [107]) (XU := [110]) (fun _ _ => rfl) rfl (c_lt_F (pF := 113) (s_iload dX11_porter_33 rfl) (s_getI ck5 6 (by decide) rfl (s_getR ck11 2 (by decide) rfl (s_aload_n dX11_porter_35 rfl rfl) dX11_porter_36 w2_220) dX11_porter_39 w1_164) dX11_porter_42 rfl) (t_sq (p1 := 69) (Γ' := [(0, 2), (1, 0), (2, 0), (3, 0), (4, 0), (5, 0)]) (t_do (x_callV (ts := [(0, 2), (1, 2), (2, 0), (3, 0)]) ck0 rfl kX0_search mokX0_search w5_50 w5_51 rfl rfl rfl rfl (a_I (ts := [(0, 2), (1, 2), (2, 0)]) 3 (a_I (ts := [(0, 2), (1, 2)]) 2 (a_R (ts := [(0, 2)]) 1 (a_R (ts := []) 0 a_nil (s_getR ck11 9 (by decide) rfl (s_aload_n dX11_porter_45 rfl rfl) dX11_porter_46 w2_227) rfl) (s_getR ck11 2 (by decide) rfl (s_aload_n dX11_porter_49 rfl rfl) dX11_porter_50 w2_220) rfl) (s_iload_n dX11_porter_53 rfl rfl) rfl) (s_of_xI (x_call (ts := [(0, 2), (1, 0)]) kX11_cell mokX11_cell w3_229 rfl rfl rfl (a_I (ts := [(0, 2)]) 1 (a_R (ts := []) 0 a_nil (s_getR ck5 12 (by decide) rfl (s_getR ck11 2 (by decide) rfl (s_aload_n dX11_porter_54 rfl rfl) dX11_porter_55 w2_220) dX11_porter_58 w1_185) rfl) (s_iload dX11_porter_61 rfl) rfl) dX11_porter_63 w3_228)) rfl) dX11_porter_66 w5_49) rfl) (t_sq (p1 := 82) (Γ' := [(0, 2), (1, 0), (2, 0), (3, 0), (4, 0), (5, 0), (6, 0)]) (t_istore (s_of_xI (x_call (ts := [(0, 2), (1, 0)]) kX11_cell mokX11_cell w3_229 rfl rfl rfl (a_I (ts := [(0, 2)]) 1 (a_R (ts := []) 0 a_nil (s_getR ck0 0 (by decide) rfl (s_getR ck11 9 (by decide) rfl (s_aload_n dX11_porter_69 rfl rfl) dX11_porter_70 w2_227) dX11_porter_73 w2_129) rfl) (s_iload_n dX11_porter_76 rfl rfl) rfl) dX11_porter_77 w3_228)) dX11_porter_80 rfl rfl) (t_if (pT := 100) (pF := 107) (X := [107]) (XA := [107]) (XB := [107]) (c_and (p1 := 88) (pT := 100) (pF := 107) (c_ne_F (pF := 107) (s_iload dX11_porter_82 rfl) (s_iconst dX11_porter_84 rfl) dX11_porter_85 rfl) (c_or (p1 := 93) (pT := 100) (pF := 107) (c_eq_J (pT := 100) (s_iload_n dX11_porter_88 rfl rfl) (s_iconst dX11_porter_89 rfl) dX11_porter_90 rfl) (c_lt_F (pF := 107) (s_iload dX11_porter_93 rfl) (s_iload dX11_porter_95 rfl) dX11_porter_97 rfl))) (t_sq (p1 := 103) (Γ' := [(0, 2), (1, 0), (2, 0), (3, 0), (4, 0), (5, 0), (6, 0)]) (t_istore_n (s_iload dX11_porter_100 rfl) dX11_porter_102 rfl rfl rfl) (t_istore (s_iload dX11_porter_103 rfl) dX11_porter_105 rfl rfl)) (t_skip (ld_in rfl) rfl) (lda_cons (ld_in rfl) lda_nil) (lda_cons (ld_in rfl) lda_nil)))) (t_iinc dX11_porter_107 rfl rfl rfl rfl) (lda_cons (ld_in rfl) lda_nil) lda_nil (lda_cons (ld_goto (y := 33) dX11_porter_110 rfl (ld_in rfl)) lda_nil) (ld_in rfl) lda_nil
noncomputable def BX11_porter : Sm Int32 := (dSeq (dIf (dOr (dNot (dCZ q_ne (dCallV 5 DX5_isSlate (aI (aR aN 0 (dGR 11 2 (vR 0))) 1 (vI 1))))) (dNot (dCZ q_ne (dCallV 5 DX5_isHouse (aI (aR aN 0 (dGR 11 2 (vR 0))) 1 (vI 2)))))) (dRet (cI (-2))) dSkip) (dSeq (dSetI 3 (cI (-1))) (dSeq (dSetI 4 (cI 0)) (dSeq (dSeq (dSetI 5 (cI 0)) LX11_porter_1) (dRet (vI 3))))))
theorem sBX11_porter : SS (cvoI, .ireturn) miX11_porter [] [] [] [(0, 2), (1, 0), (2, 0)] [(0, 2), (1, 0), (2, 0)] 0 [] BX11_porter := (t_sq (p1 := 25) (Γ' := [(0, 2), (1, 0), (2, 0)]) (t_if (pT := 22) (pF := 25) (X := [25]) (XA := []) (XB := [25]) (c_or (p1 := 11) (pT := 22) (pF := 25) (c_not (pT := 22) (pF := 11) (c_ne_ZF (pF := 22) (s_of_xI (x_callV (ts := [(0, 2), (1, 0)]) ck5 rfl kX5_isSlate mokX5_isSlate w4_7 w4_8 rfl rfl rfl rfl (a_I (ts := [(0, 2)]) 1 (a_R (ts := []) 0 a_nil (s_getR ck11 2 (by decide) rfl (s_aload_n dX11_porter_0 rfl rfl) dX11_porter_1 w2_220) rfl) (s_iload_n dX11_porter_4 rfl rfl) rfl) dX11_porter_5 w4_6)) dX11_porter_8 rfl)) (c_not (pT := 22) (pF := 25) (c_ne_ZJ (pT := 25) (s_of_xI (x_callV (ts := [(0, 2), (1, 0)]) ck5 rfl kX5_isHouse mokX5_isHouse w3_225 w3_226 rfl rfl rfl rfl (a_I (ts := [(0, 2)]) 1 (a_R (ts := []) 0 a_nil (s_getR ck11 2 (by decide) rfl (s_aload_n dX11_porter_11 rfl rfl) dX11_porter_12 w2_220) rfl) (s_iload_n dX11_porter_15 rfl rfl) rfl) dX11_porter_16 w3_224)) dX11_porter_19 rfl))) (t_ret (cv := cvI) (fun _ _ => rfl) (s_bipush dX11_porter_22 rfl) dX11_porter_24) (t_skip (ld_in rfl) rfl) lda_nil (lda_cons (ld_in rfl) lda_nil)) (t_sq (p1 := 27) (Γ' := [(0, 2), (1, 0), (2, 0), (3, 0)]) (t_istore_n (s_iconst dX11_porter_25 rfl) dX11_porter_26 rfl rfl rfl) (t_sq (p1 := 30) (Γ' := [(0, 2), (1, 0), (2, 0), (3, 0), (4, 0)]) (t_istore (s_iconst dX11_porter_27 rfl) dX11_porter_28 rfl rfl) (t_sq (p1 := 113) (Γ' := [(0, 2), (1, 0), (2, 0), (3, 0), (4, 0)]) (t_sq (p1 := 33) (Γ' := [(0, 2), (1, 0), (2, 0), (3, 0), (4, 0), (5, 0)]) (t_istore (s_iconst dX11_porter_30 rfl) dX11_porter_31 rfl rfl) (tn_to (Γ' := [(0, 2), (1, 0), (2, 0), (3, 0), (4, 0), (5, 0)]) (XA := [113]) sLX11_porter_1 (lda_cons (ld_in rfl) lda_nil) rfl)) (t_ret (cv := cvI) (fun _ _ => rfl) (s_iload_n dX11_porter_113 rfl rfl) dX11_porter_114)))))
noncomputable def DX11_porter : Fr → St → Option (Int32 × St) := M1 (fun f => (sI (sI (sR fr0 0 (gR f 0)) 1 (gI f 1)) 2 (gI f 2))) BX11_porter
theorem kX11_porter : SND yX11_porter cX11_porter 7 (some .int) 6 [(0, 2), (1, 0), (2, 0)] cvoI DX11_porter := snd_I (nw := 3) (by decide) rfl rfl (fun _ _ => rfl) sBX11_porter
theorem dX0_mostHearers_0 : decode cX0_mostHearers 0 = .ok (.aload_n 1, 1) := by decide +kernel
theorem dX0_mostHearers_1 : decode cX0_mostHearers 1 = .ok (.iload_n 2, 1) := by decide +kernel
theorem dX0_mostHearers_2 : decode cX0_mostHearers 2 = .ok (.invokevirtual 102, 3) := by decide +kernel
theorem dX0_mostHearers_5 : decode cX0_mostHearers 5 = .ok (.invokestatic 106, 3) := by decide +kernel
theorem dX0_mostHearers_8 : decode cX0_mostHearers 8 = .ok (.istore 4, 2) := by decide +kernel
theorem dX0_mostHearers_10 : decode cX0_mostHearers 10 = .ok (.iload 4, 2) := by decide +kernel
theorem dX0_mostHearers_12 : decode cX0_mostHearers 12 = .ok (.ifCond .ne 5, 3) := by decide +kernel
theorem dX0_mostHearers_15 : decode cX0_mostHearers 15 = .ok (.iconst 0, 1) := by decide +kernel
theorem dX0_mostHearers_16 : decode cX0_mostHearers 16 = .ok (.ireturn, 1) := by decide +kernel
theorem dX0_mostHearers_17 : decode cX0_mostHearers 17 = .ok (.iconst 1, 1) := by decide +kernel
theorem dX0_mostHearers_18 : decode cX0_mostHearers 18 = .ok (.istore 5, 2) := by decide +kernel
theorem dX0_mostHearers_20 : decode cX0_mostHearers 20 = .ok (.iconst 0, 1) := by decide +kernel
theorem dX0_mostHearers_21 : decode cX0_mostHearers 21 = .ok (.istore 6, 2) := by decide +kernel
theorem dX0_mostHearers_23 : decode cX0_mostHearers 23 = .ok (.iload 6, 2) := by decide +kernel
theorem dX0_mostHearers_25 : decode cX0_mostHearers 25 = .ok (.iload_n 3, 1) := by decide +kernel
theorem dX0_mostHearers_26 : decode cX0_mostHearers 26 = .ok (.if_icmp .gt 25, 3) := by decide +kernel
theorem dX0_mostHearers_29 : decode cX0_mostHearers 29 = .ok (.iload 5, 2) := by decide +kernel
theorem dX0_mostHearers_31 : decode cX0_mostHearers 31 = .ok (.aload_n 0, 1) := by decide +kernel
theorem dX0_mostHearers_32 : decode cX0_mostHearers 32 = .ok (.getfield 21, 3) := by decide +kernel
theorem dX0_mostHearers_35 : decode cX0_mostHearers 35 = .ok (.iload 6, 2) := by decide +kernel
theorem dX0_mostHearers_37 : decode cX0_mostHearers 37 = .ok (.invokestatic 76, 3) := by decide +kernel
theorem dX0_mostHearers_40 : decode cX0_mostHearers 40 = .ok (.invokestatic 111, 3) := by decide +kernel
theorem dX0_mostHearers_43 : decode cX0_mostHearers 43 = .ok (.istore 5, 2) := by decide +kernel
theorem dX0_mostHearers_45 : decode cX0_mostHearers 45 = .ok (.iinc 6 1, 3) := by decide +kernel
theorem dX0_mostHearers_48 : decode cX0_mostHearers 48 = .ok (.goto (-25), 3) := by decide +kernel
theorem dX0_mostHearers_51 : decode cX0_mostHearers 51 = .ok (.aload_n 1, 1) := by decide +kernel
theorem dX0_mostHearers_52 : decode cX0_mostHearers 52 = .ok (.getfield 117, 3) := by decide +kernel
theorem dX0_mostHearers_55 : decode cX0_mostHearers 55 = .ok (.ifCond .ne 8, 3) := by decide +kernel
theorem dX0_mostHearers_58 : decode cX0_mostHearers 58 = .ok (.iload 5, 2) := by decide +kernel
theorem dX0_mostHearers_60 : decode cX0_mostHearers 60 = .ok (.goto 12, 3) := by decide +kernel
theorem dX0_mostHearers_63 : decode cX0_mostHearers 63 = .ok (.iload 5, 2) := by decide +kernel
theorem dX0_mostHearers_65 : decode cX0_mostHearers 65 = .ok (.iload 4, 2) := by decide +kernel
theorem dX0_mostHearers_67 : decode cX0_mostHearers 67 = .ok (.iconst 1, 1) := by decide +kernel
theorem dX0_mostHearers_68 : decode cX0_mostHearers 68 = .ok (.iadd, 1) := by decide +kernel
theorem dX0_mostHearers_69 : decode cX0_mostHearers 69 = .ok (.invokestatic 120, 3) := by decide +kernel
theorem dX0_mostHearers_72 : decode cX0_mostHearers 72 = .ok (.ireturn, 1) := by decide +kernel
theorem mokX0_mostHearers : MOK yX0_mostHearers cX0_mostHearers 7 (some .int) 3 := ⟨w5_125, w1_10, ⟨by decide, by decide⟩, by decide +kernel, by decide⟩
abbrev miX0_mostHearers : MI := (yX0_mostHearers.cls, cX0_mostHearers, 7, 4, false)
noncomputable def LX0_mostHearers_1 : Sm Int32 := dLoop (fun f => (sI (sI (sI (sI (sI (sR (sR fr0 0 (gR f 0)) 1 (gR f 1)) 2 (gI f 2)) 3 (gI f 3)) 4 (gI f 4)) 5 (gI f 5)) 6 (gI f 6))) (dCI r_le (vI 6) (vI 3)) (dSetI 5 (d2 o_imax (vI 5) (dCall DX11_cell (aI (aR aN 0 (dGR 0 3 (vR 0))) 1 (vI 6))))) (dInc 6 1)
theorem sLX0_mostHearers_1 {ΓL : Gm} {PB PK : List Nat} : SS (cvoI, .ireturn) miX0_mostHearers ΓL PB PK [(0, 2), (1, 2), (2, 0), (3, 0), (4, 0), (5, 0), (6, 0)] [(0, 2), (1, 2), (2, 0), (3, 0), (4, 0), (5, 0), (6, 0)] 23 [51] LX0_mostHearers_1 := t_loop (pT := 29) (pF := 51) (pu := 45) (PB' := []) (PK' := []) (XB := [45]) (XU := [48]) (fun _ _ => rfl) rfl (c_le_F (pF := 51) (s_iload dX0_mostHearers_23 rfl) (s_iload_n dX0_mostHearers_25 rfl rfl) dX0_mostHearers_26 rfl) (t_istore (s_mmax (s_iload dX0_mostHearers_29 rfl) (s_of_xI (x_callN (ts := [(0, 2), (1, 0)]) kX11_cell mokX11_cell w3_229 rfl rfl rfl (a_I (ts := [(0, 2)]) 1 (a_R (ts := []) 0 a_nil (s_getR ck0 3 (by decide) rfl (s_aload_n dX0_mostHearers_31 rfl rfl) dX0_mostHearers_32 w2_134) rfl) (s_iload dX0_mostHearers_35 rfl) rfl) dX0_mostHearers_37 nb25)) rfl rfl dX0_mostHearers_40 w5_74) dX0_mostHearers_43 rfl rfl) (t_iinc dX0_mostHearers_45 rfl rfl rfl rfl) (lda_cons (ld_in rfl) lda_nil) lda_nil (lda_cons (ld_goto (y := 23) dX0_mostHearers_48 rfl (ld_in rfl)) lda_nil) (ld_in rfl) lda_nil
noncomputable def BX0_mostHearers : Sm Int32 := (dSeq (dSetI 4 (dCall DJ6_bitCount_0f7a4 (aI aN 0 (dCallV 5 DX5_leftAtFirst (aI (aR aN 0 (vR 1)) 1 (vI 2)))))) (dSeq (dIf (dCZ q_eq (vI 4)) (dRet (cI 0)) dSkip) (dSeq (dSetI 5 (cI 1)) (dSeq (dSeq (dSetI 6 (cI 0)) LX0_mostHearers_1) (dRet (dT (dCZ q_eq (dGI 5 2 (vR 1))) (vI 5) (d2 o_imin (vI 5) (d2 o_iadd (vI 4) (cI 1)))))))))
theorem sBX0_mostHearers : SS (cvoI, .ireturn) miX0_mostHearers [] [] [] [(0, 2), (1, 2), (2, 0), (3, 0)] [(0, 2), (1, 2), (2, 0), (3, 0)] 0 [] BX0_mostHearers := (t_sq (p1 := 10) (Γ' := [(0, 2), (1, 2), (2, 0), (3, 0), (4, 0)]) (t_istore (s_of_xI (x_call (ts := [(0, 0)]) kJ6_bitCount_0f7a4 mokJ6_bitCount_0f7a4 w5_28 rfl rfl rfl (a_I (ts := []) 0 a_nil (s_of_xI (x_callV (ts := [(0, 2), (1, 0)]) ck5 rfl kX5_leftAtFirst mokX5_leftAtFirst w4_99 w4_100 rfl rfl rfl rfl (a_I (ts := [(0, 2)]) 1 (a_R (ts := []) 0 a_nil (s_aload_n dX0_mostHearers_0 rfl rfl) rfl) (s_iload_n dX0_mostHearers_1 rfl rfl) rfl) dX0_mostHearers_2 w5_58)) rfl) dX0_mostHearers_5 w5_61)) dX0_mostHearers_8 rfl rfl) (t_sq (p1 := 17) (Γ' := [(0, 2), (1, 2), (2, 0), (3, 0), (4, 0)]) (t_if (pT := 15) (pF := 17) (X := [17]) (XA := []) (XB := [17]) (c_eq_ZF (pF := 17) (s_iload dX0_mostHearers_10 rfl) dX0_mostHearers_12 rfl) (t_ret (cv := cvI) (fun _ _ => rfl) (s_iconst dX0_mostHearers_15 rfl) dX0_mostHearers_16) (t_skip (ld_in rfl) rfl) lda_nil (lda_cons (ld_in rfl) lda_nil)) (t_sq (p1 := 20) (Γ' := [(0, 2), (1, 2), (2, 0), (3, 0), (4, 0), (5, 0)]) (t_istore (s_iconst dX0_mostHearers_17 rfl) dX0_mostHearers_18 rfl rfl) (t_sq (p1 := 51) (Γ' := [(0, 2), (1, 2), (2, 0), (3, 0), (4, 0), (5, 0)]) (t_sq (p1 := 23) (Γ' := [(0, 2), (1, 2), (2, 0), (3, 0), (4, 0), (5, 0), (6, 0)]) (t_istore (s_iconst dX0_mostHearers_20 rfl) dX0_mostHearers_21 rfl rfl) (tn_to (Γ' := [(0, 2), (1, 2), (2, 0), (3, 0), (4, 0), (5, 0), (6, 0)]) (XA := [51]) sLX0_mostHearers_1 (lda_cons (ld_in rfl) lda_nil) rfl)) (t_ret (cv := cvI) (fun _ _ => rfl) (s_T (pT := 58) (pF := 63) (p1 := 60) (pe := 72) (c_eq_ZF (pF := 63) (s_getI ck5 2 (by decide) rfl (s_aload_n dX0_mostHearers_51 rfl rfl) dX0_mostHearers_52 w1_143) dX0_mostHearers_55 rfl) (s_iload dX0_mostHearers_58 rfl) (s_mmin (s_iload dX0_mostHearers_63 rfl) (s_iadd (s_iload dX0_mostHearers_65 rfl) (s_iconst dX0_mostHearers_67 rfl) dX0_mostHearers_68) rfl rfl dX0_mostHearers_69 w5_126) (ld_goto (y := 72) dX0_mostHearers_60 rfl (ld_in rfl))) dX0_mostHearers_72)))))
noncomputable def DX0_mostHearers : Fr → St → Option (Int32 × St) := M1 (fun f => (sI (sI (sR (sR fr0 0 (gR f 0)) 1 (gR f 1)) 2 (gI f 2)) 3 (gI f 3))) BX0_mostHearers
theorem kX0_mostHearers : SND yX0_mostHearers cX0_mostHearers 7 (some .int) 4 [(0, 2), (1, 2), (2, 0), (3, 0)] cvoI DX0_mostHearers := snd_I (nw := 4) (by decide) rfl rfl (fun _ _ => rfl) sBX0_mostHearers
theorem dX11_tells_0 : decode cX11_tells 0 = .ok (.aload_n 0, 1) := by decide +kernel
theorem dX11_tells_1 : decode cX11_tells 1 = .ok (.iload_n 1, 1) := by decide +kernel
theorem dX11_tells_2 : decode cX11_tells 2 = .ok (.iload_n 2, 1) := by decide +kernel
theorem dX11_tells_3 : decode cX11_tells 3 = .ok (.invokevirtual 251, 3) := by decide +kernel
theorem dX11_tells_6 : decode cX11_tells 6 = .ok (.ifCond .eq 13, 3) := by decide +kernel
theorem dX11_tells_9 : decode cX11_tells 9 = .ok (.iload_n 3, 1) := by decide +kernel
theorem dX11_tells_10 : decode cX11_tells 10 = .ok (.ifCond .lt 9, 3) := by decide +kernel
theorem dX11_tells_13 : decode cX11_tells 13 = .ok (.iload_n 3, 1) := by decide +kernel
theorem dX11_tells_14 : decode cX11_tells 14 = .ok (.bipush 8, 2) := by decide +kernel
theorem dX11_tells_16 : decode cX11_tells 16 = .ok (.if_icmp .lt 6, 3) := by decide +kernel
theorem dX11_tells_19 : decode cX11_tells 19 = .ok (.bipush (-2), 2) := by decide +kernel
theorem dX11_tells_21 : decode cX11_tells 21 = .ok (.ireturn, 1) := by decide +kernel
theorem dX11_tells_22 : decode cX11_tells 22 = .ok (.aload_n 0, 1) := by decide +kernel
theorem dX11_tells_23 : decode cX11_tells 23 = .ok (.getfield 64, 3) := by decide +kernel
theorem dX11_tells_26 : decode cX11_tells 26 = .ok (.aload_n 0, 1) := by decide +kernel
theorem dX11_tells_27 : decode cX11_tells 27 = .ok (.getfield 26, 3) := by decide +kernel
theorem dX11_tells_30 : decode cX11_tells 30 = .ok (.iload_n 2, 1) := by decide +kernel
theorem dX11_tells_31 : decode cX11_tells 31 = .ok (.aload_n 0, 1) := by decide +kernel
theorem dX11_tells_32 : decode cX11_tells 32 = .ok (.getfield 26, 3) := by decide +kernel
theorem dX11_tells_35 : decode cX11_tells 35 = .ok (.getfield 137, 3) := by decide +kernel
theorem dX11_tells_38 : decode cX11_tells 38 = .ok (.iload_n 1, 1) := by decide +kernel
theorem dX11_tells_39 : decode cX11_tells 39 = .ok (.invokestatic 124, 3) := by decide +kernel
theorem dX11_tells_42 : decode cX11_tells 42 = .ok (.invokevirtual 254, 3) := by decide +kernel
theorem dX11_tells_45 : decode cX11_tells 45 = .ok (.aload_n 0, 1) := by decide +kernel
theorem dX11_tells_46 : decode cX11_tells 46 = .ok (.getfield 64, 3) := by decide +kernel
theorem dX11_tells_49 : decode cX11_tells 49 = .ok (.aload_n 0, 1) := by decide +kernel
theorem dX11_tells_50 : decode cX11_tells 50 = .ok (.getfield 26, 3) := by decide +kernel
theorem dX11_tells_53 : decode cX11_tells 53 = .ok (.iload_n 2, 1) := by decide +kernel
theorem dX11_tells_54 : decode cX11_tells 54 = .ok (.iload_n 3, 1) := by decide +kernel
theorem dX11_tells_55 : decode cX11_tells 55 = .ok (.invokevirtual 277, 3) := by decide +kernel
theorem dX11_tells_58 : decode cX11_tells 58 = .ok (.ireturn, 1) := by decide +kernel
theorem mokX11_tells : MOK yX11_tells cX11_tells 4 (some .int) 3 := ⟨w5_121, w1_1, ⟨by decide, by decide⟩, by decide +kernel, by decide⟩
abbrev miX11_tells : MI := (yX11_tells.cls, cX11_tells, 4, 6, false)
noncomputable def BX11_tells : Sm Int32 := (dSeq (dIf (dOr (dOr (dNot (dCZ q_ne (dCallV 11 DX11_areAlone (aI (aI (aR aN 0 (vR 0)) 1 (vI 1)) 2 (vI 2))))) (dCZ q_lt (vI 3))) (dCI r_ge (vI 3) (cI 8))) (dRet (cI (-2))) dSkip) (dSeq (dDo (dCallV 0 DX0_search (aI (aI (aR (aR aN 0 (dGR 11 9 (vR 0))) 1 (dGR 11 2 (vR 0))) 2 (vI 2)) 3 (dCall DX11_cell (aI (aR aN 0 (dGR 5 12 (dGR 11 2 (vR 0)))) 1 (vI 1)))))) (dRet (dCallV 0 DX0_mostHearers (aI (aI (aR (aR aN 0 (dGR 11 9 (vR 0))) 1 (dGR 11 2 (vR 0))) 2 (vI 2)) 3 (vI 3))))))
theorem sBX11_tells : SS (cvoI, .ireturn) miX11_tells [] [] [] [(0, 2), (1, 0), (2, 0), (3, 0)] [(0, 2), (1, 0), (2, 0), (3, 0)] 0 [] BX11_tells := (t_sq (p1 := 22) (Γ' := [(0, 2), (1, 0), (2, 0), (3, 0)]) (t_if (pT := 19) (pF := 22) (X := [22]) (XA := []) (XB := [22]) (c_or (p1 := 13) (pT := 19) (pF := 22) (c_or (p1 := 9) (pT := 19) (pF := 13) (c_not (pT := 19) (pF := 9) (c_ne_ZF (pF := 19) (s_of_xI (x_callV (ts := [(0, 2), (1, 0), (2, 0)]) ck11 rfl kX11_areAlone mokX11_areAlone w5_47 ps2_6 rfl rfl rfl rfl (a_I (ts := [(0, 2), (1, 0)]) 2 (a_I (ts := [(0, 2)]) 1 (a_R (ts := []) 0 a_nil (s_aload_n dX11_tells_0 rfl rfl) rfl) (s_iload_n dX11_tells_1 rfl rfl) rfl) (s_iload_n dX11_tells_2 rfl rfl) rfl) dX11_tells_3 w5_45)) dX11_tells_6 rfl)) (c_lt_ZJ (pT := 19) (s_iload_n dX11_tells_9 rfl rfl) dX11_tells_10 rfl)) (c_ge_F (pF := 22) (s_iload_n dX11_tells_13 rfl rfl) (s_bipush dX11_tells_14 rfl) dX11_tells_16 rfl)) (t_ret (cv := cvI) (fun _ _ => rfl) (s_bipush dX11_tells_19 rfl) dX11_tells_21) (t_skip (ld_in rfl) rfl) lda_nil (lda_cons (ld_in rfl) lda_nil)) (t_sq (p1 := 45) (Γ' := [(0, 2), (1, 0), (2, 0), (3, 0)]) (t_do (x_callV (ts := [(0, 2), (1, 2), (2, 0), (3, 0)]) ck0 rfl kX0_search mokX0_search w5_50 w5_51 rfl rfl rfl rfl (a_I (ts := [(0, 2), (1, 2), (2, 0)]) 3 (a_I (ts := [(0, 2), (1, 2)]) 2 (a_R (ts := [(0, 2)]) 1 (a_R (ts := []) 0 a_nil (s_getR ck11 9 (by decide) rfl (s_aload_n dX11_tells_22 rfl rfl) dX11_tells_23 w2_227) rfl) (s_getR ck11 2 (by decide) rfl (s_aload_n dX11_tells_26 rfl rfl) dX11_tells_27 w2_220) rfl) (s_iload_n dX11_tells_30 rfl rfl) rfl) (s_of_xI (x_call (ts := [(0, 2), (1, 0)]) kX11_cell mokX11_cell w3_229 rfl rfl rfl (a_I (ts := [(0, 2)]) 1 (a_R (ts := []) 0 a_nil (s_getR ck5 12 (by decide) rfl (s_getR ck11 2 (by decide) rfl (s_aload_n dX11_tells_31 rfl rfl) dX11_tells_32 w2_220) dX11_tells_35 w1_185) rfl) (s_iload_n dX11_tells_38 rfl rfl) rfl) dX11_tells_39 w3_228)) rfl) dX11_tells_42 w5_49) rfl) (t_ret (cv := cvI) (fun _ _ => rfl) (s_of_xI (x_callV (ts := [(0, 2), (1, 2), (2, 0), (3, 0)]) ck0 rfl kX0_mostHearers mokX0_mostHearers w5_123 w5_124 rfl rfl rfl rfl (a_I (ts := [(0, 2), (1, 2), (2, 0)]) 3 (a_I (ts := [(0, 2), (1, 2)]) 2 (a_R (ts := [(0, 2)]) 1 (a_R (ts := []) 0 a_nil (s_getR ck11 9 (by decide) rfl (s_aload_n dX11_tells_45 rfl rfl) dX11_tells_46 w2_227) rfl) (s_getR ck11 2 (by decide) rfl (s_aload_n dX11_tells_49 rfl rfl) dX11_tells_50 w2_220) rfl) (s_iload_n dX11_tells_53 rfl rfl) rfl) (s_iload_n dX11_tells_54 rfl rfl) rfl) dX11_tells_55 w5_122)) dX11_tells_58)))
noncomputable def DX11_tells : Fr → St → Option (Int32 × St) := M1 (fun f => (sI (sI (sI (sR fr0 0 (gR f 0)) 1 (gI f 1)) 2 (gI f 2)) 3 (gI f 3))) BX11_tells
theorem kX11_tells : SND yX11_tells cX11_tells 4 (some .int) 6 [(0, 2), (1, 0), (2, 0), (3, 0)] cvoI DX11_tells := snd_I (nw := 4) (by decide) rfl rfl (fun _ _ => rfl) sBX11_tells
theorem dX5_isCart_0 : decode cX5_isCart 0 = .ok (.iload_n 1, 1) := by decide +kernel
theorem dX5_isCart_1 : decode cX5_isCart 1 = .ok (.ifCond .le 15, 3) := by decide +kernel
theorem dX5_isCart_4 : decode cX5_isCart 4 = .ok (.iload_n 1, 1) := by decide +kernel
theorem dX5_isCart_5 : decode cX5_isCart 5 = .ok (.aload_n 0, 1) := by decide +kernel
theorem dX5_isCart_6 : decode cX5_isCart 6 = .ok (.invokevirtual 96, 3) := by decide +kernel
theorem dX5_isCart_9 : decode cX5_isCart 9 = .ok (.if_icmp .gt 7, 3) := by decide +kernel
theorem dX5_isCart_12 : decode cX5_isCart 12 = .ok (.iconst 1, 1) := by decide +kernel
theorem dX5_isCart_13 : decode cX5_isCart 13 = .ok (.goto 4, 3) := by decide +kernel
theorem dX5_isCart_16 : decode cX5_isCart 16 = .ok (.iconst 0, 1) := by decide +kernel
theorem dX5_isCart_17 : decode cX5_isCart 17 = .ok (.ireturn, 1) := by decide +kernel
theorem mokX5_isCart : MOK yX5_isCart cX5_isCart 2 (some .boolean) 1 := ⟨w5_134, w1_4, ⟨by decide, by decide⟩, by decide +kernel, by decide⟩
abbrev miX5_isCart : MI := (yX5_isCart.cls, cX5_isCart, 2, 2, false)
noncomputable def BX5_isCart : Sm Int32 := (dRet (dB (dAnd (dCZ q_gt (vI 1)) (dCI r_le (vI 1) (dCallV 5 DX5_allCarriers (aR aN 0 (vR 0)))))))
theorem sBX5_isCart : SS (cvoI, .ireturn) miX5_isCart [] [] [] [(0, 2), (1, 0)] [(0, 2), (1, 0)] 0 [] BX5_isCart := (t_ret (cv := cvI) (fun _ _ => rfl) (s_B (pT := 12) (pF := 16) (pe := 17) (c_and (p1 := 4) (pT := 12) (pF := 16) (c_gt_ZF (pF := 16) (s_iload_n dX5_isCart_0 rfl rfl) dX5_isCart_1 rfl) (c_le_F (pF := 16) (s_iload_n dX5_isCart_4 rfl rfl) (s_of_xI (x_callV (ts := [(0, 2)]) ck5 rfl kX5_allCarriers mokX5_allCarriers w4_239 w5_0 rfl rfl rfl rfl (a_R (ts := []) 0 a_nil (s_aload_n dX5_isCart_5 rfl rfl) rfl) dX5_isCart_6 w5_135)) dX5_isCart_9 rfl)) dX5_isCart_12 dX5_isCart_13 rfl dX5_isCart_16 rfl) dX5_isCart_17)
noncomputable def DX5_isCart : Fr → St → Option (Int32 × St) := MZ (fun f => (sI (sR fr0 0 (gR f 0)) 1 (gI f 1))) BX5_isCart
theorem kX5_isCart : SND yX5_isCart cX5_isCart 2 (some .boolean) 2 [(0, 2), (1, 0)] cvoI DX5_isCart := snd_Z (nw := 2) (by decide) rfl rfl (fun _ _ => rfl) sBX5_isCart
theorem dX5_strongTogether_0 : decode cX5_strongTogether 0 = .ok (.iconst 0, 1) := by decide +kernel
theorem dX5_strongTogether_1 : decode cX5_strongTogether 1 = .ok (.istore_n 2, 1) := by decide +kernel
theorem dX5_strongTogether_2 : decode cX5_strongTogether 2 = .ok (.iconst 0, 1) := by decide +kernel
theorem dX5_strongTogether_3 : decode cX5_strongTogether 3 = .ok (.istore_n 3, 1) := by decide +kernel
theorem dX5_strongTogether_4 : decode cX5_strongTogether 4 = .ok (.iload_n 3, 1) := by decide +kernel
theorem dX5_strongTogether_5 : decode cX5_strongTogether 5 = .ok (.aload_n 0, 1) := by decide +kernel
theorem dX5_strongTogether_6 : decode cX5_strongTogether 6 = .ok (.getfield 62, 3) := by decide +kernel
theorem dX5_strongTogether_9 : decode cX5_strongTogether 9 = .ok (.if_icmp .ge 28, 3) := by decide +kernel
theorem dX5_strongTogether_12 : decode cX5_strongTogether 12 = .ok (.iload_n 1, 1) := by decide +kernel
theorem dX5_strongTogether_13 : decode cX5_strongTogether 13 = .ok (.iload_n 3, 1) := by decide +kernel
theorem dX5_strongTogether_14 : decode cX5_strongTogether 14 = .ok (.invokestatic 113, 3) := by decide +kernel
theorem dX5_strongTogether_17 : decode cX5_strongTogether 17 = .ok (.ifCond .eq 14, 3) := by decide +kernel
theorem dX5_strongTogether_20 : decode cX5_strongTogether 20 = .ok (.iload_n 2, 1) := by decide +kernel
theorem dX5_strongTogether_21 : decode cX5_strongTogether 21 = .ok (.aload_n 0, 1) := by decide +kernel
theorem dX5_strongTogether_22 : decode cX5_strongTogether 22 = .ok (.getfield 24, 3) := by decide +kernel
theorem dX5_strongTogether_25 : decode cX5_strongTogether 25 = .ok (.iload_n 3, 1) := by decide +kernel
theorem dX5_strongTogether_26 : decode cX5_strongTogether 26 = .ok (.invokestatic 85, 3) := by decide +kernel
theorem dX5_strongTogether_29 : decode cX5_strongTogether 29 = .ok (.iadd, 1) := by decide +kernel
theorem dX5_strongTogether_30 : decode cX5_strongTogether 30 = .ok (.istore_n 2, 1) := by decide +kernel
theorem dX5_strongTogether_31 : decode cX5_strongTogether 31 = .ok (.iinc 3 1, 3) := by decide +kernel
theorem dX5_strongTogether_34 : decode cX5_strongTogether 34 = .ok (.goto (-30), 3) := by decide +kernel
theorem dX5_strongTogether_37 : decode cX5_strongTogether 37 = .ok (.iload_n 2, 1) := by decide +kernel
theorem dX5_strongTogether_38 : decode cX5_strongTogether 38 = .ok (.ireturn, 1) := by decide +kernel
theorem mokX5_strongTogether : MOK yX5_strongTogether cX5_strongTogether 4 (some .int) 1 := ⟨w5_139, w1_4, ⟨by decide, by decide⟩, by decide +kernel, by decide⟩
abbrev miX5_strongTogether : MI := (yX5_strongTogether.cls, cX5_strongTogether, 4, 2, false)
noncomputable def LX5_strongTogether_1 : Sm Int32 := dLoop (fun f => (sI (sI (sI (sR fr0 0 (gR f 0)) 1 (gI f 1)) 2 (gI f 2)) 3 (gI f 3))) (dCI r_lt (vI 3) (dGI 5 6 (vR 0))) (dIf (dCZ q_ne (dCall DX11_hasBit (aI (aI aN 0 (vI 1)) 1 (vI 3)))) (dSetI 2 (d2 o_iadd (vI 2) (dCall DX11_cell (aI (aR aN 0 (dGR 5 12 (vR 0))) 1 (vI 3))))) dSkip) (dInc 3 1)
theorem sLX5_strongTogether_1 {ΓL : Gm} {PB PK : List Nat} : SS (cvoI, .ireturn) miX5_strongTogether ΓL PB PK [(0, 2), (1, 0), (2, 0), (3, 0)] [(0, 2), (1, 0), (2, 0), (3, 0)] 4 [37] LX5_strongTogether_1 := t_loop (pT := 12) (pF := 37) (pu := 31) (PB' := []) (PK' := []) (XB := [31]) (XU := [34]) (fun _ _ => rfl) rfl (c_lt_F (pF := 37) (s_iload_n dX5_strongTogether_4 rfl rfl) (s_getI ck5 6 (by decide) rfl (s_aload_n dX5_strongTogether_5 rfl rfl) dX5_strongTogether_6 w1_161) dX5_strongTogether_9 rfl) (t_if (pT := 20) (pF := 31) (X := [31]) (XA := [31]) (XB := [31]) (c_ne_ZF (pF := 31) (s_of_xI (x_callN (ts := [(0, 0), (1, 0)]) kX11_hasBit mokX11_hasBit w4_37 rfl rfl rfl (a_I (ts := [(0, 0)]) 1 (a_I (ts := []) 0 a_nil (s_iload_n dX5_strongTogether_12 rfl rfl) rfl) (s_iload_n dX5_strongTogether_13 rfl rfl) rfl) dX5_strongTogether_14 nb21)) dX5_strongTogether_17 rfl) (t_istore_n (s_iadd (s_iload_n dX5_strongTogether_20 rfl rfl) (s_of_xI (x_callN (ts := [(0, 2), (1, 0)]) kX11_cell mokX11_cell w3_229 rfl rfl rfl (a_I (ts := [(0, 2)]) 1 (a_R (ts := []) 0 a_nil (s_getR ck5 12 (by decide) rfl (s_aload_n dX5_strongTogether_21 rfl rfl) dX5_strongTogether_22 w1_183) rfl) (s_iload_n dX5_strongTogether_25 rfl rfl) rfl) dX5_strongTogether_26 nb13)) dX5_strongTogether_29) dX5_strongTogether_30 rfl rfl rfl) (t_skip (ld_in rfl) rfl) (lda_cons (ld_in rfl) lda_nil) (lda_cons (ld_in rfl) lda_nil)) (t_iinc dX5_strongTogether_31 rfl rfl rfl rfl) (lda_cons (ld_in rfl) lda_nil) lda_nil (lda_cons (ld_goto (y := 4) dX5_strongTogether_34 rfl (ld_in rfl)) lda_nil) (ld_in rfl) lda_nil
noncomputable def BX5_strongTogether : Sm Int32 := (dSeq (dSetI 2 (cI 0)) (dSeq (dSeq (dSetI 3 (cI 0)) LX5_strongTogether_1) (dRet (vI 2))))
theorem sBX5_strongTogether : SS (cvoI, .ireturn) miX5_strongTogether [] [] [] [(0, 2), (1, 0)] [(0, 2), (1, 0)] 0 [] BX5_strongTogether := (t_sq (p1 := 2) (Γ' := [(0, 2), (1, 0), (2, 0)]) (t_istore_n (s_iconst dX5_strongTogether_0 rfl) dX5_strongTogether_1 rfl rfl rfl) (t_sq (p1 := 37) (Γ' := [(0, 2), (1, 0), (2, 0)]) (t_sq (p1 := 4) (Γ' := [(0, 2), (1, 0), (2, 0), (3, 0)]) (t_istore_n (s_iconst dX5_strongTogether_2 rfl) dX5_strongTogether_3 rfl rfl rfl) (tn_to (Γ' := [(0, 2), (1, 0), (2, 0), (3, 0)]) (XA := [37]) sLX5_strongTogether_1 (lda_cons (ld_in rfl) lda_nil) rfl)) (t_ret (cv := cvI) (fun _ _ => rfl) (s_iload_n dX5_strongTogether_37 rfl rfl) dX5_strongTogether_38)))
noncomputable def DX5_strongTogether : Fr → St → Option (Int32 × St) := M1 (fun f => (sI (sR fr0 0 (gR f 0)) 1 (gI f 1))) BX5_strongTogether
theorem kX5_strongTogether : SND yX5_strongTogether cX5_strongTogether 4 (some .int) 2 [(0, 2), (1, 0)] cvoI DX5_strongTogether := snd_I (nw := 2) (by decide) rfl rfl (fun _ _ => rfl) sBX5_strongTogether
theorem dX11_cart_0 : decode cX11_cart 0 = .ok (.aload_n 0, 1) := by decide +kernel
theorem dX11_cart_1 : decode cX11_cart 1 = .ok (.getfield 26, 3) := by decide +kernel
theorem dX11_cart_4 : decode cX11_cart 4 = .ok (.iload_n 1, 1) := by decide +kernel
theorem dX11_cart_5 : decode cX11_cart 5 = .ok (.invokevirtual 280, 3) := by decide +kernel
theorem dX11_cart_8 : decode cX11_cart 8 = .ok (.ifCond .eq 25, 3) := by decide +kernel
theorem dX11_cart_11 : decode cX11_cart 11 = .ok (.aload_n 0, 1) := by decide +kernel
theorem dX11_cart_12 : decode cX11_cart 12 = .ok (.getfield 26, 3) := by decide +kernel
theorem dX11_cart_15 : decode cX11_cart 15 = .ok (.iload_n 2, 1) := by decide +kernel
theorem dX11_cart_16 : decode cX11_cart 16 = .ok (.invokevirtual 140, 3) := by decide +kernel
theorem dX11_cart_19 : decode cX11_cart 19 = .ok (.ifCond .eq 14, 3) := by decide +kernel
theorem dX11_cart_22 : decode cX11_cart 22 = .ok (.aload_n 0, 1) := by decide +kernel
theorem dX11_cart_23 : decode cX11_cart 23 = .ok (.getfield 26, 3) := by decide +kernel
theorem dX11_cart_26 : decode cX11_cart 26 = .ok (.iload_n 3, 1) := by decide +kernel
theorem dX11_cart_27 : decode cX11_cart 27 = .ok (.invokevirtual 117, 3) := by decide +kernel
theorem dX11_cart_30 : decode cX11_cart 30 = .ok (.ifCond .ne 6, 3) := by decide +kernel
theorem dX11_cart_33 : decode cX11_cart 33 = .ok (.bipush (-2), 2) := by decide +kernel
theorem dX11_cart_35 : decode cX11_cart 35 = .ok (.ireturn, 1) := by decide +kernel
theorem dX11_cart_36 : decode cX11_cart 36 = .ok (.aload_n 0, 1) := by decide +kernel
theorem dX11_cart_37 : decode cX11_cart 37 = .ok (.getfield 64, 3) := by decide +kernel
theorem dX11_cart_40 : decode cX11_cart 40 = .ok (.aload_n 0, 1) := by decide +kernel
theorem dX11_cart_41 : decode cX11_cart 41 = .ok (.getfield 26, 3) := by decide +kernel
theorem dX11_cart_44 : decode cX11_cart 44 = .ok (.iload_n 2, 1) := by decide +kernel
theorem dX11_cart_45 : decode cX11_cart 45 = .ok (.aload_n 0, 1) := by decide +kernel
theorem dX11_cart_46 : decode cX11_cart 46 = .ok (.getfield 26, 3) := by decide +kernel
theorem dX11_cart_49 : decode cX11_cart 49 = .ok (.iload_n 1, 1) := by decide +kernel
theorem dX11_cart_50 : decode cX11_cart 50 = .ok (.invokevirtual 283, 3) := by decide +kernel
theorem dX11_cart_53 : decode cX11_cart 53 = .ok (.invokevirtual 254, 3) := by decide +kernel
theorem dX11_cart_56 : decode cX11_cart 56 = .ok (.aload_n 0, 1) := by decide +kernel
theorem dX11_cart_57 : decode cX11_cart 57 = .ok (.getfield 64, 3) := by decide +kernel
theorem dX11_cart_60 : decode cX11_cart 60 = .ok (.getfield 258, 3) := by decide +kernel
theorem dX11_cart_63 : decode cX11_cart 63 = .ok (.iload_n 3, 1) := by decide +kernel
theorem dX11_cart_64 : decode cX11_cart 64 = .ok (.invokestatic 124, 3) := by decide +kernel
theorem dX11_cart_67 : decode cX11_cart 67 = .ok (.ireturn, 1) := by decide +kernel
theorem mokX11_cart : MOK yX11_cart cX11_cart 4 (some .int) 3 := ⟨w5_130, w1_1, ⟨by decide, by decide⟩, by decide +kernel, by decide⟩
abbrev miX11_cart : MI := (yX11_cart.cls, cX11_cart, 4, 6, false)
noncomputable def BX11_cart : Sm Int32 := (dSeq (dIf (dOr (dOr (dNot (dCZ q_ne (dCallV 5 DX5_isCart (aI (aR aN 0 (dGR 11 2 (vR 0))) 1 (vI 1))))) (dNot (dCZ q_ne (dCallV 5 DX5_isSlate (aI (aR aN 0 (dGR 11 2 (vR 0))) 1 (vI 2)))))) (dNot (dCZ q_ne (dCallV 5 DX5_isHouse (aI (aR aN 0 (dGR 11 2 (vR 0))) 1 (vI 3)))))) (dRet (cI (-2))) dSkip) (dSeq (dDo (dCallV 0 DX0_search (aI (aI (aR (aR aN 0 (dGR 11 9 (vR 0))) 1 (dGR 11 2 (vR 0))) 2 (vI 2)) 3 (dCallV 5 DX5_strongTogether (aI (aR aN 0 (dGR 11 2 (vR 0))) 1 (vI 1)))))) (dRet (dCall DX11_cell (aI (aR aN 0 (dGR 0 0 (dGR 11 9 (vR 0)))) 1 (vI 3))))))
theorem sBX11_cart : SS (cvoI, .ireturn) miX11_cart [] [] [] [(0, 2), (1, 0), (2, 0), (3, 0)] [(0, 2), (1, 0), (2, 0), (3, 0)] 0 [] BX11_cart := (t_sq (p1 := 36) (Γ' := [(0, 2), (1, 0), (2, 0), (3, 0)]) (t_if (pT := 33) (pF := 36) (X := [36]) (XA := []) (XB := [36]) (c_or (p1 := 22) (pT := 33) (pF := 36) (c_or (p1 := 11) (pT := 33) (pF := 22) (c_not (pT := 33) (pF := 11) (c_ne_ZF (pF := 33) (s_of_xI (x_callV (ts := [(0, 2), (1, 0)]) ck5 rfl kX5_isCart mokX5_isCart w5_132 w5_133 rfl rfl rfl rfl (a_I (ts := [(0, 2)]) 1 (a_R (ts := []) 0 a_nil (s_getR ck11 2 (by decide) rfl (s_aload_n dX11_cart_0 rfl rfl) dX11_cart_1 w2_220) rfl) (s_iload_n dX11_cart_4 rfl rfl) rfl) dX11_cart_5 w5_131)) dX11_cart_8 rfl)) (c_not (pT := 33) (pF := 22) (c_ne_ZF (pF := 33) (s_of_xI (x_callV (ts := [(0, 2), (1, 0)]) ck5 rfl kX5_isSlate mokX5_isSlate w4_7 w4_8 rfl rfl rfl rfl (a_I (ts := [(0, 2)]) 1 (a_R (ts := []) 0 a_nil (s_getR ck11 2 (by decide) rfl (s_aload_n dX11_cart_11 rfl rfl) dX11_cart_12 w2_220) rfl) (s_iload_n dX11_cart_15 rfl rfl) rfl) dX11_cart_16 w4_6)) dX11_cart_19 rfl))) (c_not (pT := 33) (pF := 36) (c_ne_ZJ (pT := 36) (s_of_xI (x_callV (ts := [(0, 2), (1, 0)]) ck5 rfl kX5_isHouse mokX5_isHouse w3_225 w3_226 rfl rfl rfl rfl (a_I (ts := [(0, 2)]) 1 (a_R (ts := []) 0 a_nil (s_getR ck11 2 (by decide) rfl (s_aload_n dX11_cart_22 rfl rfl) dX11_cart_23 w2_220) rfl) (s_iload_n dX11_cart_26 rfl rfl) rfl) dX11_cart_27 w3_224)) dX11_cart_30 rfl))) (t_ret (cv := cvI) (fun _ _ => rfl) (s_bipush dX11_cart_33 rfl) dX11_cart_35) (t_skip (ld_in rfl) rfl) lda_nil (lda_cons (ld_in rfl) lda_nil)) (t_sq (p1 := 56) (Γ' := [(0, 2), (1, 0), (2, 0), (3, 0)]) (t_do (x_callV (ts := [(0, 2), (1, 2), (2, 0), (3, 0)]) ck0 rfl kX0_search mokX0_search w5_50 w5_51 rfl rfl rfl rfl (a_I (ts := [(0, 2), (1, 2), (2, 0)]) 3 (a_I (ts := [(0, 2), (1, 2)]) 2 (a_R (ts := [(0, 2)]) 1 (a_R (ts := []) 0 a_nil (s_getR ck11 9 (by decide) rfl (s_aload_n dX11_cart_36 rfl rfl) dX11_cart_37 w2_227) rfl) (s_getR ck11 2 (by decide) rfl (s_aload_n dX11_cart_40 rfl rfl) dX11_cart_41 w2_220) rfl) (s_iload_n dX11_cart_44 rfl rfl) rfl) (s_of_xI (x_callV (ts := [(0, 2), (1, 0)]) ck5 rfl kX5_strongTogether mokX5_strongTogether w5_137 w5_138 rfl rfl rfl rfl (a_I (ts := [(0, 2)]) 1 (a_R (ts := []) 0 a_nil (s_getR ck11 2 (by decide) rfl (s_aload_n dX11_cart_45 rfl rfl) dX11_cart_46 w2_220) rfl) (s_iload_n dX11_cart_49 rfl rfl) rfl) dX11_cart_50 w5_136)) rfl) dX11_cart_53 w5_49) rfl) (t_ret (cv := cvI) (fun _ _ => rfl) (s_of_xI (x_call (ts := [(0, 2), (1, 0)]) kX11_cell mokX11_cell w3_229 rfl rfl rfl (a_I (ts := [(0, 2)]) 1 (a_R (ts := []) 0 a_nil (s_getR ck0 0 (by decide) rfl (s_getR ck11 9 (by decide) rfl (s_aload_n dX11_cart_56 rfl rfl) dX11_cart_57 w2_227) dX11_cart_60 w2_129) rfl) (s_iload_n dX11_cart_63 rfl rfl) rfl) dX11_cart_64 w3_228)) dX11_cart_67)))
noncomputable def DX11_cart : Fr → St → Option (Int32 × St) := M1 (fun f => (sI (sI (sI (sR fr0 0 (gR f 0)) 1 (gI f 1)) 2 (gI f 2)) 3 (gI f 3))) BX11_cart
theorem kX11_cart : SND yX11_cart cX11_cart 4 (some .int) 6 [(0, 2), (1, 0), (2, 0), (3, 0)] cvoI DX11_cart := snd_I (nw := 4) (by decide) rfl rfl (fun _ _ => rfl) sBX11_cart
theorem dX11_four_0 : decode cX11_four 0 = .ok (.aload_n 0, 1) := by decide +kernel
theorem dX11_four_1 : decode cX11_four 1 = .ok (.getfield 26, 3) := by decide +kernel
theorem dX11_four_4 : decode cX11_four 4 = .ok (.iload_n 1, 1) := by decide +kernel
theorem dX11_four_5 : decode cX11_four 5 = .ok (.invokevirtual 140, 3) := by decide +kernel
theorem dX11_four_8 : decode cX11_four 8 = .ok (.ifCond .eq 14, 3) := by decide +kernel
theorem dX11_four_11 : decode cX11_four 11 = .ok (.aload_n 0, 1) := by decide +kernel
theorem dX11_four_12 : decode cX11_four 12 = .ok (.getfield 26, 3) := by decide +kernel
theorem dX11_four_15 : decode cX11_four 15 = .ok (.iload_n 2, 1) := by decide +kernel
theorem dX11_four_16 : decode cX11_four 16 = .ok (.invokevirtual 117, 3) := by decide +kernel
theorem dX11_four_19 : decode cX11_four 19 = .ok (.ifCond .ne 6, 3) := by decide +kernel
theorem dX11_four_22 : decode cX11_four 22 = .ok (.bipush (-2), 2) := by decide +kernel
theorem dX11_four_24 : decode cX11_four 24 = .ok (.ireturn, 1) := by decide +kernel
theorem dX11_four_25 : decode cX11_four 25 = .ok (.aload_n 0, 1) := by decide +kernel
theorem dX11_four_26 : decode cX11_four 26 = .ok (.getfield 64, 3) := by decide +kernel
theorem dX11_four_29 : decode cX11_four 29 = .ok (.aload_n 0, 1) := by decide +kernel
theorem dX11_four_30 : decode cX11_four 30 = .ok (.getfield 26, 3) := by decide +kernel
theorem dX11_four_33 : decode cX11_four 33 = .ok (.iload_n 1, 1) := by decide +kernel
theorem dX11_four_34 : decode cX11_four 34 = .ok (.invokevirtual 267, 3) := by decide +kernel
theorem dX11_four_37 : decode cX11_four 37 = .ok (.aload_n 0, 1) := by decide +kernel
theorem dX11_four_38 : decode cX11_four 38 = .ok (.getfield 64, 3) := by decide +kernel
theorem dX11_four_41 : decode cX11_four 41 = .ok (.getfield 271, 3) := by decide +kernel
theorem dX11_four_44 : decode cX11_four 44 = .ok (.iload_n 2, 1) := by decide +kernel
theorem dX11_four_45 : decode cX11_four 45 = .ok (.invokestatic 124, 3) := by decide +kernel
theorem dX11_four_48 : decode cX11_four 48 = .ok (.istore_n 3, 1) := by decide +kernel
theorem dX11_four_49 : decode cX11_four 49 = .ok (.iconst (-1), 1) := by decide +kernel
theorem dX11_four_50 : decode cX11_four 50 = .ok (.istore 4, 2) := by decide +kernel
theorem dX11_four_52 : decode cX11_four 52 = .ok (.iload_n 3, 1) := by decide +kernel
theorem dX11_four_53 : decode cX11_four 53 = .ok (.iconst (-1), 1) := by decide +kernel
theorem dX11_four_54 : decode cX11_four 54 = .ok (.if_icmp .ne 5, 3) := by decide +kernel
theorem dX11_four_57 : decode cX11_four 57 = .ok (.iconst (-1), 1) := by decide +kernel
theorem dX11_four_58 : decode cX11_four 58 = .ok (.ireturn, 1) := by decide +kernel
theorem dX11_four_59 : decode cX11_four 59 = .ok (.iconst 1, 1) := by decide +kernel
theorem dX11_four_60 : decode cX11_four 60 = .ok (.istore 5, 2) := by decide +kernel
theorem dX11_four_62 : decode cX11_four 62 = .ok (.iload 5, 2) := by decide +kernel
theorem dX11_four_64 : decode cX11_four 64 = .ok (.aload_n 0, 1) := by decide +kernel
theorem dX11_four_65 : decode cX11_four 65 = .ok (.getfield 26, 3) := by decide +kernel
theorem dX11_four_68 : decode cX11_four 68 = .ok (.invokevirtual 226, 3) := by decide +kernel
theorem dX11_four_71 : decode cX11_four 71 = .ok (.if_icmp .gt 57, 3) := by decide +kernel
theorem dX11_four_74 : decode cX11_four 74 = .ok (.aload_n 0, 1) := by decide +kernel
theorem dX11_four_75 : decode cX11_four 75 = .ok (.getfield 26, 3) := by decide +kernel
theorem dX11_four_78 : decode cX11_four 78 = .ok (.iload 5, 2) := by decide +kernel
theorem dX11_four_80 : decode cX11_four 80 = .ok (.invokevirtual 283, 3) := by decide +kernel
theorem dX11_four_83 : decode cX11_four 83 = .ok (.iload_n 3, 1) := by decide +kernel
theorem dX11_four_84 : decode cX11_four 84 = .ok (.if_icmp .lt 7, 3) := by decide +kernel
theorem dX11_four_87 : decode cX11_four 87 = .ok (.iconst 1, 1) := by decide +kernel
theorem dX11_four_88 : decode cX11_four 88 = .ok (.goto 4, 3) := by decide +kernel
theorem dX11_four_91 : decode cX11_four 91 = .ok (.iconst 0, 1) := by decide +kernel
theorem dX11_four_92 : decode cX11_four 92 = .ok (.istore 6, 2) := by decide +kernel
theorem dX11_four_94 : decode cX11_four 94 = .ok (.iload 6, 2) := by decide +kernel
theorem dX11_four_96 : decode cX11_four 96 = .ok (.ifCond .eq 26, 3) := by decide +kernel
theorem dX11_four_99 : decode cX11_four 99 = .ok (.iload 4, 2) := by decide +kernel
theorem dX11_four_101 : decode cX11_four 101 = .ok (.iconst (-1), 1) := by decide +kernel
theorem dX11_four_102 : decode cX11_four 102 = .ok (.if_icmp .eq 16, 3) := by decide +kernel
theorem dX11_four_105 : decode cX11_four 105 = .ok (.iload 5, 2) := by decide +kernel
theorem dX11_four_107 : decode cX11_four 107 = .ok (.invokestatic 243, 3) := by decide +kernel
theorem dX11_four_110 : decode cX11_four 110 = .ok (.iload 4, 2) := by decide +kernel
theorem dX11_four_112 : decode cX11_four 112 = .ok (.invokestatic 243, 3) := by decide +kernel
theorem dX11_four_115 : decode cX11_four 115 = .ok (.if_icmp .ge 7, 3) := by decide +kernel
theorem dX11_four_118 : decode cX11_four 118 = .ok (.iload 5, 2) := by decide +kernel
theorem dX11_four_120 : decode cX11_four 120 = .ok (.istore 4, 2) := by decide +kernel
theorem dX11_four_122 : decode cX11_four 122 = .ok (.iinc 5 1, 3) := by decide +kernel
theorem dX11_four_125 : decode cX11_four 125 = .ok (.goto (-63), 3) := by decide +kernel
theorem dX11_four_128 : decode cX11_four 128 = .ok (.iload 4, 2) := by decide +kernel
theorem dX11_four_130 : decode cX11_four 130 = .ok (.ireturn, 1) := by decide +kernel
theorem mokX11_four : MOK yX11_four cX11_four 7 (some .int) 2 := ⟨w5_143, w1_1, ⟨by decide, by decide⟩, by decide +kernel, by decide⟩
abbrev miX11_four : MI := (yX11_four.cls, cX11_four, 7, 6, false)
noncomputable def LX11_four_1 : Sm Int32 := dLoop (fun f => (sI (sI (sI (sI (sI (sR fr0 0 (gR f 0)) 1 (gI f 1)) 2 (gI f 2)) 3 (gI f 3)) 4 (gI f 4)) 5 (gI f 5))) (dCI r_le (vI 5) (dCallV 5 DX5_allCarriers (aR aN 0 (dGR 11 2 (vR 0))))) (dSeq (dSetI 6 (dB (dCI r_ge (dCallV 5 DX5_strongTogether (aI (aR aN 0 (dGR 11 2 (vR 0))) 1 (vI 5))) (vI 3)))) (dIf (dAnd (dCZ q_ne (vI 6)) (dOr (dCI r_eq (vI 4) (cI (-1))) (dCI r_lt (dCall DJ6_bitCount_0f7a4 (aI aN 0 (vI 5))) (dCall DJ6_bitCount_0f7a4 (aI aN 0 (vI 4)))))) (dSetI 4 (vI 5)) dSkip)) (dInc 5 1)
theorem sLX11_four_1 {ΓL : Gm} {PB PK : List Nat} : SS (cvoI, .ireturn) miX11_four ΓL PB PK [(0, 2), (1, 0), (2, 0), (3, 0), (4, 0), (5, 0)] [(0, 2), (1, 0), (2, 0), (3, 0), (4, 0), (5, 0)] 62 [128] LX11_four_1 := t_loop (pT := 74) (pF := 128) (pu := 122) (PB' := []) (PK' := []) (XB := [122]) (XU := [125]) (fun _ _ => rfl) rfl (c_le_F (pF := 128) (s_iload dX11_four_62 rfl) (s_of_xI (x_callV (ts := [(0, 2)]) ck5 rfl kX5_allCarriers mokX5_allCarriers w4_239 w5_0 rfl rfl rfl rfl (a_R (ts := []) 0 a_nil (s_getR ck11 2 (by decide) rfl (s_aload_n dX11_four_64 rfl rfl) dX11_four_65 w2_220) rfl) dX11_four_68 w4_238)) dX11_four_71 rfl) (t_sq (p1 := 94) (Γ' := [(0, 2), (1, 0), (2, 0), (3, 0), (4, 0), (5, 0), (6, 0)]) (t_istore (s_B (pT := 87) (pF := 91) (pe := 92) (c_ge_F (pF := 91) (s_of_xI (x_callV (ts := [(0, 2), (1, 0)]) ck5 rfl kX5_strongTogether mokX5_strongTogether w5_137 w5_138 rfl rfl rfl rfl (a_I (ts := [(0, 2)]) 1 (a_R (ts := []) 0 a_nil (s_getR ck11 2 (by decide) rfl (s_aload_n dX11_four_74 rfl rfl) dX11_four_75 w2_220) rfl) (s_iload dX11_four_78 rfl) rfl) dX11_four_80 w5_136)) (s_iload_n dX11_four_83 rfl rfl) dX11_four_84 rfl) dX11_four_87 dX11_four_88 rfl dX11_four_91 rfl) dX11_four_92 rfl rfl) (t_if (pT := 118) (pF := 122) (X := [122]) (XA := [122]) (XB := [122]) (c_and (p1 := 99) (pT := 118) (pF := 122) (c_ne_ZF (pF := 122) (s_iload dX11_four_94 rfl) dX11_four_96 rfl) (c_or (p1 := 105) (pT := 118) (pF := 122) (c_eq_J (pT := 118) (s_iload dX11_four_99 rfl) (s_iconst dX11_four_101 rfl) dX11_four_102 rfl) (c_lt_F (pF := 122) (s_of_xI (x_call (ts := [(0, 0)]) kJ6_bitCount_0f7a4 mokJ6_bitCount_0f7a4 w5_28 rfl rfl rfl (a_I (ts := []) 0 a_nil (s_iload dX11_four_105 rfl) rfl) dX11_four_107 w5_27)) (s_of_xI (x_call (ts := [(0, 0)]) kJ6_bitCount_0f7a4 mokJ6_bitCount_0f7a4 w5_28 rfl rfl rfl (a_I (ts := []) 0 a_nil (s_iload dX11_four_110 rfl) rfl) dX11_four_112 w5_27)) dX11_four_115 rfl))) (t_istore (s_iload dX11_four_118 rfl) dX11_four_120 rfl rfl) (t_skip (ld_in rfl) rfl) (lda_cons (ld_in rfl) lda_nil) (lda_cons (ld_in rfl) lda_nil))) (t_iinc dX11_four_122 rfl rfl rfl rfl) (lda_cons (ld_in rfl) lda_nil) lda_nil (lda_cons (ld_goto (y := 62) dX11_four_125 rfl (ld_in rfl)) lda_nil) (ld_in rfl) lda_nil
noncomputable def BX11_four : Sm Int32 := (dSeq (dIf (dOr (dNot (dCZ q_ne (dCallV 5 DX5_isSlate (aI (aR aN 0 (dGR 11 2 (vR 0))) 1 (vI 1))))) (dNot (dCZ q_ne (dCallV 5 DX5_isHouse (aI (aR aN 0 (dGR 11 2 (vR 0))) 1 (vI 2)))))) (dRet (cI (-2))) dSkip) (dSeq (dDo (dCallV 0 DX0_findNeeds (aI (aR (aR aN 0 (dGR 11 9 (vR 0))) 1 (dGR 11 2 (vR 0))) 2 (vI 1)))) (dSeq (dSetI 3 (dCall DX11_cell (aI (aR aN 0 (dGR 0 2 (dGR 11 9 (vR 0)))) 1 (vI 2)))) (dSeq (dSetI 4 (cI (-1))) (dSeq (dIf (dCI r_eq (vI 3) (cI (-1))) (dRet (cI (-1))) dSkip) (dSeq (dSeq (dSetI 5 (cI 1)) LX11_four_1) (dRet (vI 4))))))))
theorem sBX11_four : SS (cvoI, .ireturn) miX11_four [] [] [] [(0, 2), (1, 0), (2, 0)] [(0, 2), (1, 0), (2, 0)] 0 [] BX11_four := (t_sq (p1 := 25) (Γ' := [(0, 2), (1, 0), (2, 0)]) (t_if (pT := 22) (pF := 25) (X := [25]) (XA := []) (XB := [25]) (c_or (p1 := 11) (pT := 22) (pF := 25) (c_not (pT := 22) (pF := 11) (c_ne_ZF (pF := 22) (s_of_xI (x_callV (ts := [(0, 2), (1, 0)]) ck5 rfl kX5_isSlate mokX5_isSlate w4_7 w4_8 rfl rfl rfl rfl (a_I (ts := [(0, 2)]) 1 (a_R (ts := []) 0 a_nil (s_getR ck11 2 (by decide) rfl (s_aload_n dX11_four_0 rfl rfl) dX11_four_1 w2_220) rfl) (s_iload_n dX11_four_4 rfl rfl) rfl) dX11_four_5 w4_6)) dX11_four_8 rfl)) (c_not (pT := 22) (pF := 25) (c_ne_ZJ (pT := 25) (s_of_xI (x_callV (ts := [(0, 2), (1, 0)]) ck5 rfl kX5_isHouse mokX5_isHouse w3_225 w3_226 rfl rfl rfl rfl (a_I (ts := [(0, 2)]) 1 (a_R (ts := []) 0 a_nil (s_getR ck11 2 (by decide) rfl (s_aload_n dX11_four_11 rfl rfl) dX11_four_12 w2_220) rfl) (s_iload_n dX11_four_15 rfl rfl) rfl) dX11_four_16 w3_224)) dX11_four_19 rfl))) (t_ret (cv := cvI) (fun _ _ => rfl) (s_bipush dX11_four_22 rfl) dX11_four_24) (t_skip (ld_in rfl) rfl) lda_nil (lda_cons (ld_in rfl) lda_nil)) (t_sq (p1 := 37) (Γ' := [(0, 2), (1, 0), (2, 0)]) (t_do (x_callV (ts := [(0, 2), (1, 2), (2, 0)]) ck0 rfl kX0_findNeeds mokX0_findNeeds w5_103 w5_104 rfl rfl rfl rfl (a_I (ts := [(0, 2), (1, 2)]) 2 (a_R (ts := [(0, 2)]) 1 (a_R (ts := []) 0 a_nil (s_getR ck11 9 (by decide) rfl (s_aload_n dX11_four_25 rfl rfl) dX11_four_26 w2_227) rfl) (s_getR ck11 2 (by decide) rfl (s_aload_n dX11_four_29 rfl rfl) dX11_four_30 w2_220) rfl) (s_iload_n dX11_four_33 rfl rfl) rfl) dX11_four_34 w5_102) rfl) (t_sq (p1 := 49) (Γ' := [(0, 2), (1, 0), (2, 0), (3, 0)]) (t_istore_n (s_of_xI (x_call (ts := [(0, 2), (1, 0)]) kX11_cell mokX11_cell w3_229 rfl rfl rfl (a_I (ts := [(0, 2)]) 1 (a_R (ts := []) 0 a_nil (s_getR ck0 2 (by decide) rfl (s_getR ck11 9 (by decide) rfl (s_aload_n dX11_four_37 rfl rfl) dX11_four_38 w2_227) dX11_four_41 w2_133) rfl) (s_iload_n dX11_four_44 rfl rfl) rfl) dX11_four_45 w3_228)) dX11_four_48 rfl rfl rfl) (t_sq (p1 := 52) (Γ' := [(0, 2), (1, 0), (2, 0), (3, 0), (4, 0)]) (t_istore (s_iconst dX11_four_49 rfl) dX11_four_50 rfl rfl) (t_sq (p1 := 59) (Γ' := [(0, 2), (1, 0), (2, 0), (3, 0), (4, 0)]) (t_if (pT := 57) (pF := 59) (X := [59]) (XA := []) (XB := [59]) (c_eq_F (pF := 59) (s_iload_n dX11_four_52 rfl rfl) (s_iconst dX11_four_53 rfl) dX11_four_54 rfl) (t_ret (cv := cvI) (fun _ _ => rfl) (s_iconst dX11_four_57 rfl) dX11_four_58) (t_skip (ld_in rfl) rfl) lda_nil (lda_cons (ld_in rfl) lda_nil)) (t_sq (p1 := 128) (Γ' := [(0, 2), (1, 0), (2, 0), (3, 0), (4, 0)]) (t_sq (p1 := 62) (Γ' := [(0, 2), (1, 0), (2, 0), (3, 0), (4, 0), (5, 0)]) (t_istore (s_iconst dX11_four_59 rfl) dX11_four_60 rfl rfl) (tn_to (Γ' := [(0, 2), (1, 0), (2, 0), (3, 0), (4, 0), (5, 0)]) (XA := [128]) sLX11_four_1 (lda_cons (ld_in rfl) lda_nil) rfl)) (t_ret (cv := cvI) (fun _ _ => rfl) (s_iload dX11_four_128 rfl) dX11_four_130)))))))
noncomputable def DX11_four : Fr → St → Option (Int32 × St) := M1 (fun f => (sI (sI (sR fr0 0 (gR f 0)) 1 (gI f 1)) 2 (gI f 2))) BX11_four
theorem kX11_four : SND yX11_four cX11_four 7 (some .int) 6 [(0, 2), (1, 0), (2, 0)] cvoI DX11_four := snd_I (nw := 3) (by decide) rfl rfl (fun _ _ => rfl) sBX11_four
theorem dX0_housesFor_0 : decode cX0_housesFor 0 = .ok (.iconst 0, 1) := by decide +kernel
theorem dX0_housesFor_1 : decode cX0_housesFor 1 = .ok (.istore_n 2, 1) := by decide +kernel
theorem dX0_housesFor_2 : decode cX0_housesFor 2 = .ok (.iconst 0, 1) := by decide +kernel
theorem dX0_housesFor_3 : decode cX0_housesFor 3 = .ok (.istore_n 3, 1) := by decide +kernel
theorem dX0_housesFor_4 : decode cX0_housesFor 4 = .ok (.iload_n 3, 1) := by decide +kernel
theorem dX0_housesFor_5 : decode cX0_housesFor 5 = .ok (.bipush 8, 2) := by decide +kernel
theorem dX0_housesFor_7 : decode cX0_housesFor 7 = .ok (.if_icmp .ge 36, 3) := by decide +kernel
theorem dX0_housesFor_10 : decode cX0_housesFor 10 = .ok (.aload_n 0, 1) := by decide +kernel
theorem dX0_housesFor_11 : decode cX0_housesFor 11 = .ok (.getfield 18, 3) := by decide +kernel
theorem dX0_housesFor_14 : decode cX0_housesFor 14 = .ok (.iload_n 3, 1) := by decide +kernel
theorem dX0_housesFor_15 : decode cX0_housesFor 15 = .ok (.invokestatic 76, 3) := by decide +kernel
theorem dX0_housesFor_18 : decode cX0_housesFor 18 = .ok (.iconst (-1), 1) := by decide +kernel
theorem dX0_housesFor_19 : decode cX0_housesFor 19 = .ok (.if_icmp .eq 18, 3) := by decide +kernel
theorem dX0_housesFor_22 : decode cX0_housesFor 22 = .ok (.aload_n 0, 1) := by decide +kernel
theorem dX0_housesFor_23 : decode cX0_housesFor 23 = .ok (.getfield 18, 3) := by decide +kernel
theorem dX0_housesFor_26 : decode cX0_housesFor 26 = .ok (.iload_n 3, 1) := by decide +kernel
theorem dX0_housesFor_27 : decode cX0_housesFor 27 = .ok (.invokestatic 76, 3) := by decide +kernel
theorem dX0_housesFor_30 : decode cX0_housesFor 30 = .ok (.iload_n 1, 1) := by decide +kernel
theorem dX0_housesFor_31 : decode cX0_housesFor 31 = .ok (.if_icmp .gt 6, 3) := by decide +kernel
theorem dX0_housesFor_34 : decode cX0_housesFor 34 = .ok (.iinc 2 1, 3) := by decide +kernel
theorem dX0_housesFor_37 : decode cX0_housesFor 37 = .ok (.iinc 3 1, 3) := by decide +kernel
theorem dX0_housesFor_40 : decode cX0_housesFor 40 = .ok (.goto (-36), 3) := by decide +kernel
theorem dX0_housesFor_43 : decode cX0_housesFor 43 = .ok (.iload_n 2, 1) := by decide +kernel
theorem dX0_housesFor_44 : decode cX0_housesFor 44 = .ok (.ireturn, 1) := by decide +kernel
theorem mokX0_housesFor : MOK yX0_housesFor cX0_housesFor 4 (some .int) 1 := ⟨w5_156, w1_10, ⟨by decide, by decide⟩, by decide +kernel, by decide⟩
abbrev miX0_housesFor : MI := (yX0_housesFor.cls, cX0_housesFor, 4, 2, false)
noncomputable def LX0_housesFor_1 : Sm Int32 := dLoop (fun f => (sI (sI (sI (sR fr0 0 (gR f 0)) 1 (gI f 1)) 2 (gI f 2)) 3 (gI f 3))) (dCI r_lt (vI 3) (cI 8)) (dIf (dAnd (dCI r_ne (dCall DX11_cell (aI (aR aN 0 (dGR 0 2 (vR 0))) 1 (vI 3))) (cI (-1))) (dCI r_le (dCall DX11_cell (aI (aR aN 0 (dGR 0 2 (vR 0))) 1 (vI 3))) (vI 1))) (dInc 2 1) dSkip) (dInc 3 1)
theorem sLX0_housesFor_1 {ΓL : Gm} {PB PK : List Nat} : SS (cvoI, .ireturn) miX0_housesFor ΓL PB PK [(0, 2), (1, 0), (2, 0), (3, 0)] [(0, 2), (1, 0), (2, 0), (3, 0)] 4 [43] LX0_housesFor_1 := t_loop (pT := 10) (pF := 43) (pu := 37) (PB' := []) (PK' := []) (XB := [37]) (XU := [40]) (fun _ _ => rfl) rfl (c_lt_F (pF := 43) (s_iload_n dX0_housesFor_4 rfl rfl) (s_bipush dX0_housesFor_5 rfl) dX0_housesFor_7 rfl) (t_if (pT := 34) (pF := 37) (X := [37]) (XA := [37]) (XB := [37]) (c_and (p1 := 22) (pT := 34) (pF := 37) (c_ne_F (pF := 37) (s_of_xI (x_callN (ts := [(0, 2), (1, 0)]) kX11_cell mokX11_cell w3_229 rfl rfl rfl (a_I (ts := [(0, 2)]) 1 (a_R (ts := []) 0 a_nil (s_getR ck0 2 (by decide) rfl (s_aload_n dX0_housesFor_10 rfl rfl) dX0_housesFor_11 w2_132) rfl) (s_iload_n dX0_housesFor_14 rfl rfl) rfl) dX0_housesFor_15 nb25)) (s_iconst dX0_housesFor_18 rfl) dX0_housesFor_19 rfl) (c_le_F (pF := 37) (s_of_xI (x_callN (ts := [(0, 2), (1, 0)]) kX11_cell mokX11_cell w3_229 rfl rfl rfl (a_I (ts := [(0, 2)]) 1 (a_R (ts := []) 0 a_nil (s_getR ck0 2 (by decide) rfl (s_aload_n dX0_housesFor_22 rfl rfl) dX0_housesFor_23 w2_132) rfl) (s_iload_n dX0_housesFor_26 rfl rfl) rfl) dX0_housesFor_27 nb25)) (s_iload_n dX0_housesFor_30 rfl rfl) dX0_housesFor_31 rfl)) (t_iinc dX0_housesFor_34 rfl rfl rfl rfl) (t_skip (ld_in rfl) rfl) (lda_cons (ld_in rfl) lda_nil) (lda_cons (ld_in rfl) lda_nil)) (t_iinc dX0_housesFor_37 rfl rfl rfl rfl) (lda_cons (ld_in rfl) lda_nil) lda_nil (lda_cons (ld_goto (y := 4) dX0_housesFor_40 rfl (ld_in rfl)) lda_nil) (ld_in rfl) lda_nil
noncomputable def BX0_housesFor : Sm Int32 := (dSeq (dSetI 2 (cI 0)) (dSeq (dSeq (dSetI 3 (cI 0)) LX0_housesFor_1) (dRet (vI 2))))
theorem sBX0_housesFor : SS (cvoI, .ireturn) miX0_housesFor [] [] [] [(0, 2), (1, 0)] [(0, 2), (1, 0)] 0 [] BX0_housesFor := (t_sq (p1 := 2) (Γ' := [(0, 2), (1, 0), (2, 0)]) (t_istore_n (s_iconst dX0_housesFor_0 rfl) dX0_housesFor_1 rfl rfl rfl) (t_sq (p1 := 43) (Γ' := [(0, 2), (1, 0), (2, 0)]) (t_sq (p1 := 4) (Γ' := [(0, 2), (1, 0), (2, 0), (3, 0)]) (t_istore_n (s_iconst dX0_housesFor_2 rfl) dX0_housesFor_3 rfl rfl rfl) (tn_to (Γ' := [(0, 2), (1, 0), (2, 0), (3, 0)]) (XA := [43]) sLX0_housesFor_1 (lda_cons (ld_in rfl) lda_nil) rfl)) (t_ret (cv := cvI) (fun _ _ => rfl) (s_iload_n dX0_housesFor_43 rfl rfl) dX0_housesFor_44)))
noncomputable def DX0_housesFor : Fr → St → Option (Int32 × St) := M1 (fun f => (sI (sR fr0 0 (gR f 0)) 1 (gI f 1))) BX0_housesFor
theorem kX0_housesFor : SND yX0_housesFor cX0_housesFor 4 (some .int) 2 [(0, 2), (1, 0)] cvoI DX0_housesFor := snd_I (nw := 2) (by decide) rfl rfl (fun _ _ => rfl) sBX0_housesFor
theorem dX11_housesOfCart_0 : decode cX11_housesOfCart 0 = .ok (.iload_n 1, 1) := by decide +kernel
theorem dX11_housesOfCart_1 : decode cX11_housesOfCart 1 = .ok (.ifCond .ne 7, 3) := by decide +kernel
theorem dX11_housesOfCart_4 : decode cX11_housesOfCart 4 = .ok (.iconst 1, 1) := by decide +kernel
theorem dX11_housesOfCart_5 : decode cX11_housesOfCart 5 = .ok (.goto 18, 3) := by decide +kernel
theorem dX11_housesOfCart_8 : decode cX11_housesOfCart 8 = .ok (.aload_n 0, 1) := by decide +kernel
theorem dX11_housesOfCart_9 : decode cX11_housesOfCart 9 = .ok (.getfield 64, 3) := by decide +kernel
theorem dX11_housesOfCart_12 : decode cX11_housesOfCart 12 = .ok (.aload_n 0, 1) := by decide +kernel
theorem dX11_housesOfCart_13 : decode cX11_housesOfCart 13 = .ok (.getfield 26, 3) := by decide +kernel
theorem dX11_housesOfCart_16 : decode cX11_housesOfCart 16 = .ok (.iload_n 1, 1) := by decide +kernel
theorem dX11_housesOfCart_17 : decode cX11_housesOfCart 17 = .ok (.invokevirtual 283, 3) := by decide +kernel
theorem dX11_housesOfCart_20 : decode cX11_housesOfCart 20 = .ok (.invokevirtual 461, 3) := by decide +kernel
theorem dX11_housesOfCart_23 : decode cX11_housesOfCart 23 = .ok (.ireturn, 1) := by decide +kernel
theorem mokX11_housesOfCart : MOK yX11_housesOfCart cX11_housesOfCart 2 (some .int) 1 := ⟨w5_152, w1_1, ⟨by decide, by decide⟩, by decide +kernel, by decide⟩
abbrev miX11_housesOfCart : MI := (yX11_housesOfCart.cls, cX11_housesOfCart, 2, 3, false)
noncomputable def BX11_housesOfCart : Sm Int32 := (dRet (dT (dCZ q_eq (vI 1)) (cI 1) (dCallV 0 DX0_housesFor (aI (aR aN 0 (dGR 11 9 (vR 0))) 1 (dCallV 5 DX5_strongTogether (aI (aR aN 0 (dGR 11 2 (vR 0))) 1 (vI 1)))))))
theorem sBX11_housesOfCart : SS (cvoI, .ireturn) miX11_housesOfCart [] [] [] [(0, 2), (1, 0)] [(0, 2), (1, 0)] 0 [] BX11_housesOfCart := (t_ret (cv := cvI) (fun _ _ => rfl) (s_T (pT := 4) (pF := 8) (p1 := 5) (pe := 23) (c_eq_ZF (pF := 8) (s_iload_n dX11_housesOfCart_0 rfl rfl) dX11_housesOfCart_1 rfl) (s_iconst dX11_housesOfCart_4 rfl) (s_of_xI (x_callV (ts := [(0, 2), (1, 0)]) ck0 rfl kX0_housesFor mokX0_housesFor w5_154 w5_155 rfl rfl rfl rfl (a_I (ts := [(0, 2)]) 1 (a_R (ts := []) 0 a_nil (s_getR ck11 9 (by decide) rfl (s_aload_n dX11_housesOfCart_8 rfl rfl) dX11_housesOfCart_9 w2_227) rfl) (s_of_xI (x_callV (ts := [(0, 2), (1, 0)]) ck5 rfl kX5_strongTogether mokX5_strongTogether w5_137 w5_138 rfl rfl rfl rfl (a_I (ts := [(0, 2)]) 1 (a_R (ts := []) 0 a_nil (s_getR ck11 2 (by decide) rfl (s_aload_n dX11_housesOfCart_12 rfl rfl) dX11_housesOfCart_13 w2_220) rfl) (s_iload_n dX11_housesOfCart_16 rfl rfl) rfl) dX11_housesOfCart_17 w5_136)) rfl) dX11_housesOfCart_20 w5_153)) (ld_goto (y := 23) dX11_housesOfCart_5 rfl (ld_in rfl))) dX11_housesOfCart_23)
noncomputable def DX11_housesOfCart : Fr → St → Option (Int32 × St) := M1 (fun f => (sI (sR fr0 0 (gR f 0)) 1 (gI f 1))) BX11_housesOfCart
theorem kX11_housesOfCart : SND yX11_housesOfCart cX11_housesOfCart 2 (some .int) 3 [(0, 2), (1, 0)] cvoI DX11_housesOfCart := snd_I (nw := 2) (by decide) rfl rfl (fun _ _ => rfl) sBX11_housesOfCart
theorem dX11_inLowestTerms_0 : decode cX11_inLowestTerms 0 = .ok (.lload_n 2, 1) := by decide +kernel
theorem dX11_inLowestTerms_1 : decode cX11_inLowestTerms 1 = .ok (.lstore 5, 2) := by decide +kernel
theorem dX11_inLowestTerms_3 : decode cX11_inLowestTerms 3 = .ok (.lload_n 0, 1) := by decide +kernel
theorem dX11_inLowestTerms_4 : decode cX11_inLowestTerms 4 = .ok (.lstore 7, 2) := by decide +kernel
theorem dX11_inLowestTerms_6 : decode cX11_inLowestTerms 6 = .ok (.iconst 0, 1) := by decide +kernel
theorem dX11_inLowestTerms_7 : decode cX11_inLowestTerms 7 = .ok (.istore 9, 2) := by decide +kernel
theorem dX11_inLowestTerms_9 : decode cX11_inLowestTerms 9 = .ok (.iload 9, 2) := by decide +kernel
theorem dX11_inLowestTerms_11 : decode cX11_inLowestTerms 11 = .ok (.bipush 100, 2) := by decide +kernel
theorem dX11_inLowestTerms_13 : decode cX11_inLowestTerms 13 = .ok (.if_icmp .ge 31, 3) := by decide +kernel
theorem dX11_inLowestTerms_16 : decode cX11_inLowestTerms 16 = .ok (.lload 7, 2) := by decide +kernel
theorem dX11_inLowestTerms_18 : decode cX11_inLowestTerms 18 = .ok (.lconst 0, 1) := by decide +kernel
theorem dX11_inLowestTerms_19 : decode cX11_inLowestTerms 19 = .ok (.lcmp, 1) := by decide +kernel
theorem dX11_inLowestTerms_20 : decode cX11_inLowestTerms 20 = .ok (.ifCond .eq 24, 3) := by decide +kernel
theorem dX11_inLowestTerms_23 : decode cX11_inLowestTerms 23 = .ok (.lload 5, 2) := by decide +kernel
theorem dX11_inLowestTerms_25 : decode cX11_inLowestTerms 25 = .ok (.lload 7, 2) := by decide +kernel
theorem dX11_inLowestTerms_27 : decode cX11_inLowestTerms 27 = .ok (.lrem, 1) := by decide +kernel
theorem dX11_inLowestTerms_28 : decode cX11_inLowestTerms 28 = .ok (.lstore 10, 2) := by decide +kernel
theorem dX11_inLowestTerms_30 : decode cX11_inLowestTerms 30 = .ok (.lload 7, 2) := by decide +kernel
theorem dX11_inLowestTerms_32 : decode cX11_inLowestTerms 32 = .ok (.lstore 5, 2) := by decide +kernel
theorem dX11_inLowestTerms_34 : decode cX11_inLowestTerms 34 = .ok (.lload 10, 2) := by decide +kernel
theorem dX11_inLowestTerms_36 : decode cX11_inLowestTerms 36 = .ok (.lstore 7, 2) := by decide +kernel
theorem dX11_inLowestTerms_38 : decode cX11_inLowestTerms 38 = .ok (.iinc 9 1, 3) := by decide +kernel
theorem dX11_inLowestTerms_41 : decode cX11_inLowestTerms 41 = .ok (.goto (-32), 3) := by decide +kernel
theorem dX11_inLowestTerms_44 : decode cX11_inLowestTerms 44 = .ok (.lload 5, 2) := by decide +kernel
theorem dX11_inLowestTerms_46 : decode cX11_inLowestTerms 46 = .ok (.lconst 0, 1) := by decide +kernel
theorem dX11_inLowestTerms_47 : decode cX11_inLowestTerms 47 = .ok (.lcmp, 1) := by decide +kernel
theorem dX11_inLowestTerms_48 : decode cX11_inLowestTerms 48 = .ok (.ifCond .ne 5, 3) := by decide +kernel
theorem dX11_inLowestTerms_51 : decode cX11_inLowestTerms 51 = .ok (.lconst 0, 1) := by decide +kernel
theorem dX11_inLowestTerms_52 : decode cX11_inLowestTerms 52 = .ok (.lreturn, 1) := by decide +kernel
theorem dX11_inLowestTerms_53 : decode cX11_inLowestTerms 53 = .ok (.iload 4, 2) := by decide +kernel
theorem dX11_inLowestTerms_55 : decode cX11_inLowestTerms 55 = .ok (.ifCond .ne 7, 3) := by decide +kernel
theorem dX11_inLowestTerms_58 : decode cX11_inLowestTerms 58 = .ok (.lload_n 0, 1) := by decide +kernel
theorem dX11_inLowestTerms_59 : decode cX11_inLowestTerms 59 = .ok (.goto 4, 3) := by decide +kernel
theorem dX11_inLowestTerms_62 : decode cX11_inLowestTerms 62 = .ok (.lload_n 2, 1) := by decide +kernel
theorem dX11_inLowestTerms_63 : decode cX11_inLowestTerms 63 = .ok (.lload 5, 2) := by decide +kernel
theorem dX11_inLowestTerms_65 : decode cX11_inLowestTerms 65 = .ok (.ldiv, 1) := by decide +kernel
theorem dX11_inLowestTerms_66 : decode cX11_inLowestTerms 66 = .ok (.lreturn, 1) := by decide +kernel
theorem mokX11_inLowestTerms : MOK yX11_inLowestTerms cX11_inLowestTerms 12 (some .long) 3 := ⟨w5_165, w1_1, ⟨by decide, by decide⟩, by decide +kernel, by decide⟩
abbrev miX11_inLowestTerms : MI := (yX11_inLowestTerms.cls, cX11_inLowestTerms, 12, 1, false)
noncomputable def LX11_inLowestTerms_1 : Sm Int64 := dLoop (fun f => (sI (sL (sL (sI (sL (sL fr0 0 (gL f 0)) 2 (gL f 2)) 4 (gI f 4)) 5 (gL f 5)) 7 (gL f 7)) 9 (gI f 9))) (dAnd (dCI r_lt (vI 9) (cI 100)) (dCZ q_ne (d2 o_lcmp (vL 7) (cL 0)))) (dSeq (dSetL 10 (d2z o_lrem (vL 5) (vL 7))) (dSeq (dSetL 5 (vL 7)) (dSetL 7 (vL 10)))) (dInc 9 1)
theorem sLX11_inLowestTerms_1 {ΓL : Gm} {PB PK : List Nat} : SS (cvoL, .lreturn) miX11_inLowestTerms ΓL PB PK [(0, 1), (2, 1), (4, 0), (5, 1), (7, 1), (9, 0)] [(0, 1), (2, 1), (4, 0), (5, 1), (7, 1), (9, 0)] 9 [44] LX11_inLowestTerms_1 := t_loop (pT := 23) (pF := 44) (pu := 38) (PB' := []) (PK' := []) (XB := [38]) (XU := [41]) (fun _ _ => rfl) rfl (c_and (p1 := 16) (pT := 23) (pF := 44) (c_lt_F (pF := 44) (s_iload dX11_inLowestTerms_9 rfl) (s_bipush dX11_inLowestTerms_11 rfl) dX11_inLowestTerms_13 rfl) (c_ne_ZF (pF := 44) (s_lcmp (s_lload dX11_inLowestTerms_16 rfl) (s_lconst dX11_inLowestTerms_18 rfl) dX11_inLowestTerms_19) dX11_inLowestTerms_20 rfl)) (t_sq (p1 := 30) (Γ' := [(0, 1), (2, 1), (4, 0), (5, 1), (7, 1), (9, 0), (10, 1)]) (t_lstore (s_lrem (s_lload dX11_inLowestTerms_23 rfl) (s_lload dX11_inLowestTerms_25 rfl) dX11_inLowestTerms_27) dX11_inLowestTerms_28 rfl rfl) (t_sq (p1 := 34) (Γ' := [(0, 1), (2, 1), (4, 0), (5, 1), (7, 1), (9, 0), (10, 1)]) (t_lstore (s_lload dX11_inLowestTerms_30 rfl) dX11_inLowestTerms_32 rfl rfl) (t_lstore (s_lload dX11_inLowestTerms_34 rfl) dX11_inLowestTerms_36 rfl rfl))) (t_iinc dX11_inLowestTerms_38 rfl rfl rfl rfl) (lda_cons (ld_in rfl) lda_nil) lda_nil (lda_cons (ld_goto (y := 9) dX11_inLowestTerms_41 rfl (ld_in rfl)) lda_nil) (ld_in rfl) lda_nil
noncomputable def BX11_inLowestTerms : Sm Int64 := (dSeq (dSetL 5 (vL 2)) (dSeq (dSetL 7 (vL 0)) (dSeq (dSeq (dSetI 9 (cI 0)) LX11_inLowestTerms_1) (dSeq (dIf (dCZ q_eq (d2 o_lcmp (vL 5) (cL 0))) (dRet (cL 0)) dSkip) (dRet (d2z o_ldiv (dT (dCZ q_eq (vI 4)) (vL 0) (vL 2)) (vL 5)))))))
theorem sBX11_inLowestTerms : SS (cvoL, .lreturn) miX11_inLowestTerms [] [] [] [(0, 1), (2, 1), (4, 0)] [(0, 1), (2, 1), (4, 0)] 0 [] BX11_inLowestTerms := (t_sq (p1 := 3) (Γ' := [(0, 1), (2, 1), (4, 0), (5, 1)]) (t_lstore (s_lload_n dX11_inLowestTerms_0 rfl rfl) dX11_inLowestTerms_1 rfl rfl) (t_sq (p1 := 6) (Γ' := [(0, 1), (2, 1), (4, 0), (5, 1), (7, 1)]) (t_lstore (s_lload_n dX11_inLowestTerms_3 rfl rfl) dX11_inLowestTerms_4 rfl rfl) (t_sq (p1 := 44) (Γ' := [(0, 1), (2, 1), (4, 0), (5, 1), (7, 1)]) (t_sq (p1 := 9) (Γ' := [(0, 1), (2, 1), (4, 0), (5, 1), (7, 1), (9, 0)]) (t_istore (s_iconst dX11_inLowestTerms_6 rfl) dX11_inLowestTerms_7 rfl rfl) (tn_to (Γ' := [(0, 1), (2, 1), (4, 0), (5, 1), (7, 1), (9, 0)]) (XA := [44]) sLX11_inLowestTerms_1 (lda_cons (ld_in rfl) lda_nil) rfl)) (t_sq (p1 := 53) (Γ' := [(0, 1), (2, 1), (4, 0), (5, 1), (7, 1)]) (t_if (pT := 51) (pF := 53) (X := [53]) (XA := []) (XB := [53]) (c_eq_ZF (pF := 53) (s_lcmp (s_lload dX11_inLowestTerms_44 rfl) (s_lconst dX11_inLowestTerms_46 rfl) dX11_inLowestTerms_47) dX11_inLowestTerms_48 rfl) (t_ret (cv := cvL) (fun _ _ => rfl) (s_lconst dX11_inLowestTerms_51 rfl) dX11_inLowestTerms_52) (t_skip (ld_in rfl) rfl) lda_nil (lda_cons (ld_in rfl) lda_nil)) (t_ret (cv := cvL) (fun _ _ => rfl) (s_ldiv (s_T (pT := 58) (pF := 62) (p1 := 59) (pe := 63) (c_eq_ZF (pF := 62) (s_iload dX11_inLowestTerms_53 rfl) dX11_inLowestTerms_55 rfl) (s_lload_n dX11_inLowestTerms_58 rfl rfl) (s_lload_n dX11_inLowestTerms_62 rfl rfl) (ld_goto (y := 63) dX11_inLowestTerms_59 rfl (ld_in rfl))) (s_lload dX11_inLowestTerms_63 rfl) dX11_inLowestTerms_65) dX11_inLowestTerms_66)))))
noncomputable def DX11_inLowestTerms : Fr → St → Option (Int64 × St) := M1 (fun f => (sI (sL (sL fr0 0 (gL f 0)) 2 (gL f 2)) 4 (gI f 4))) BX11_inLowestTerms
theorem kX11_inLowestTerms : SND yX11_inLowestTerms cX11_inLowestTerms 12 (some .long) 1 [(0, 1), (2, 1), (4, 0)] cvoL DX11_inLowestTerms := snd_L (nw := 5) (by decide) rfl rfl (fun _ _ => rfl) sBX11_inLowestTerms
theorem dX11_ordersWith_0 : decode cX11_ordersWith 0 = .ok (.getstatic 295, 3) := by decide +kernel
theorem dX11_ordersWith_3 : decode cX11_ordersWith 3 = .ok (.iload_n 1, 1) := by decide +kernel
theorem dX11_ordersWith_4 : decode cX11_ordersWith 4 = .ok (.invokestatic 124, 3) := by decide +kernel
theorem dX11_ordersWith_7 : decode cX11_ordersWith 7 = .ok (.getstatic 295, 3) := by decide +kernel
theorem dX11_ordersWith_10 : decode cX11_ordersWith 10 = .ok (.aload_n 0, 1) := by decide +kernel
theorem dX11_ordersWith_11 : decode cX11_ordersWith 11 = .ok (.getfield 26, 3) := by decide +kernel
theorem dX11_ordersWith_14 : decode cX11_ordersWith 14 = .ok (.getfield 274, 3) := by decide +kernel
theorem dX11_ordersWith_17 : decode cX11_ordersWith 17 = .ok (.iload_n 1, 1) := by decide +kernel
theorem dX11_ordersWith_18 : decode cX11_ordersWith 18 = .ok (.isub, 1) := by decide +kernel
theorem dX11_ordersWith_19 : decode cX11_ordersWith 19 = .ok (.iconst 1, 1) := by decide +kernel
theorem dX11_ordersWith_20 : decode cX11_ordersWith 20 = .ok (.isub, 1) := by decide +kernel
theorem dX11_ordersWith_21 : decode cX11_ordersWith 21 = .ok (.invokestatic 124, 3) := by decide +kernel
theorem dX11_ordersWith_24 : decode cX11_ordersWith 24 = .ok (.imul, 1) := by decide +kernel
theorem dX11_ordersWith_25 : decode cX11_ordersWith 25 = .ok (.ireturn, 1) := by decide +kernel
theorem mokX11_ordersWith : MOK yX11_ordersWith cX11_ordersWith 2 (some .int) 1 := ⟨w5_160, w1_1, ⟨by decide, by decide⟩, by decide +kernel, by decide⟩
abbrev miX11_ordersWith : MI := (yX11_ordersWith.cls, cX11_ordersWith, 2, 2, false)
noncomputable def BX11_ordersWith : Sm Int32 := (dRet (d2 o_imul (dCall DX11_cell (aI (aR aN 0 (cR 2)) 1 (vI 1))) (dCall DX11_cell (aI (aR aN 0 (cR 2)) 1 (d2 o_isub (d2 o_isub (dGI 5 6 (dGR 11 2 (vR 0))) (vI 1)) (cI 1))))))
theorem sBX11_ordersWith : SS (cvoI, .ireturn) miX11_ordersWith [] [] [] [(0, 2), (1, 0)] [(0, 2), (1, 0)] 0 [] BX11_ordersWith := (t_ret (cv := cvI) (fun _ _ => rfl) (s_imul (s_of_xI (x_call (ts := [(0, 2), (1, 0)]) kX11_cell mokX11_cell w3_229 rfl rfl rfl (a_I (ts := [(0, 2)]) 1 (a_R (ts := []) 0 a_nil (s_fact dX11_ordersWith_0 w5_161) rfl) (s_iload_n dX11_ordersWith_3 rfl rfl) rfl) dX11_ordersWith_4 w3_228)) (s_of_xI (x_call (ts := [(0, 2), (1, 0)]) kX11_cell mokX11_cell w3_229 rfl rfl rfl (a_I (ts := [(0, 2)]) 1 (a_R (ts := []) 0 a_nil (s_fact dX11_ordersWith_7 w5_161) rfl) (s_isub (s_isub (s_getI ck5 6 (by decide) rfl (s_getR ck11 2 (by decide) rfl (s_aload_n dX11_ordersWith_10 rfl rfl) dX11_ordersWith_11 w2_220) dX11_ordersWith_14 w1_164) (s_iload_n dX11_ordersWith_17 rfl rfl) dX11_ordersWith_18) (s_iconst dX11_ordersWith_19 rfl) dX11_ordersWith_20) rfl) dX11_ordersWith_21 w3_228)) dX11_ordersWith_24) dX11_ordersWith_25)
noncomputable def DX11_ordersWith : Fr → St → Option (Int32 × St) := M1 (fun f => (sI (sR fr0 0 (gR f 0)) 1 (gI f 1))) BX11_ordersWith
theorem kX11_ordersWith : SND yX11_ordersWith cX11_ordersWith 2 (some .int) 2 [(0, 2), (1, 0)] cvoI DX11_ordersWith := snd_I (nw := 2) (by decide) rfl rfl (fun _ _ => rfl) sBX11_ordersWith
theorem dX11_share_0 : decode cX11_share 0 = .ok (.aload_n 0, 1) := by decide +kernel
theorem dX11_share_1 : decode cX11_share 1 = .ok (.iload_n 2, 1) := by decide +kernel
theorem dX11_share_2 : decode cX11_share 2 = .ok (.iload_n 1, 1) := by decide +kernel
theorem dX11_share_3 : decode cX11_share 3 = .ok (.invokevirtual 251, 3) := by decide +kernel
theorem dX11_share_6 : decode cX11_share 6 = .ok (.ifCond .eq 10, 3) := by decide +kernel
theorem dX11_share_9 : decode cX11_share 9 = .ok (.iload_n 3, 1) := by decide +kernel
theorem dX11_share_10 : decode cX11_share 10 = .ok (.invokestatic 131, 3) := by decide +kernel
theorem dX11_share_13 : decode cX11_share 13 = .ok (.ifCond .ne 6, 3) := by decide +kernel
theorem dX11_share_16 : decode cX11_share 16 = .ok (.bipush (-2), 2) := by decide +kernel
theorem dX11_share_18 : decode cX11_share 18 = .ok (.ireturn, 1) := by decide +kernel
theorem dX11_share_19 : decode cX11_share 19 = .ok (.aload_n 0, 1) := by decide +kernel
theorem dX11_share_20 : decode cX11_share 20 = .ok (.getfield 64, 3) := by decide +kernel
theorem dX11_share_23 : decode cX11_share 23 = .ok (.aload_n 0, 1) := by decide +kernel
theorem dX11_share_24 : decode cX11_share 24 = .ok (.getfield 26, 3) := by decide +kernel
theorem dX11_share_27 : decode cX11_share 27 = .ok (.iload_n 1, 1) := by decide +kernel
theorem dX11_share_28 : decode cX11_share 28 = .ok (.invokevirtual 267, 3) := by decide +kernel
theorem dX11_share_31 : decode cX11_share 31 = .ok (.lconst 0, 1) := by decide +kernel
theorem dX11_share_32 : decode cX11_share 32 = .ok (.lstore 4, 2) := by decide +kernel
theorem dX11_share_34 : decode cX11_share 34 = .ok (.iconst 0, 1) := by decide +kernel
theorem dX11_share_35 : decode cX11_share 35 = .ok (.istore 6, 2) := by decide +kernel
theorem dX11_share_37 : decode cX11_share 37 = .ok (.iload 6, 2) := by decide +kernel
theorem dX11_share_39 : decode cX11_share 39 = .ok (.aload_n 0, 1) := by decide +kernel
theorem dX11_share_40 : decode cX11_share 40 = .ok (.getfield 26, 3) := by decide +kernel
theorem dX11_share_43 : decode cX11_share 43 = .ok (.invokevirtual 226, 3) := by decide +kernel
theorem dX11_share_46 : decode cX11_share 46 = .ok (.if_icmp .gt 56, 3) := by decide +kernel
theorem dX11_share_49 : decode cX11_share 49 = .ok (.iload 6, 2) := by decide +kernel
theorem dX11_share_51 : decode cX11_share 51 = .ok (.iload_n 2, 1) := by decide +kernel
theorem dX11_share_52 : decode cX11_share 52 = .ok (.invokestatic 286, 3) := by decide +kernel
theorem dX11_share_55 : decode cX11_share 55 = .ok (.ifCond .ne 41, 3) := by decide +kernel
theorem dX11_share_58 : decode cX11_share 58 = .ok (.aload_n 0, 1) := by decide +kernel
theorem dX11_share_59 : decode cX11_share 59 = .ok (.iload 6, 2) := by decide +kernel
theorem dX11_share_61 : decode cX11_share 61 = .ok (.iconst 1, 1) := by decide +kernel
theorem dX11_share_62 : decode cX11_share 62 = .ok (.iload_n 2, 1) := by decide +kernel
theorem dX11_share_63 : decode cX11_share 63 = .ok (.ishl, 1) := by decide +kernel
theorem dX11_share_64 : decode cX11_share 64 = .ok (.ior, 1) := by decide +kernel
theorem dX11_share_65 : decode cX11_share 65 = .ok (.invokevirtual 289, 3) := by decide +kernel
theorem dX11_share_68 : decode cX11_share 68 = .ok (.aload_n 0, 1) := by decide +kernel
theorem dX11_share_69 : decode cX11_share 69 = .ok (.iload 6, 2) := by decide +kernel
theorem dX11_share_71 : decode cX11_share 71 = .ok (.invokevirtual 289, 3) := by decide +kernel
theorem dX11_share_74 : decode cX11_share 74 = .ok (.isub, 1) := by decide +kernel
theorem dX11_share_75 : decode cX11_share 75 = .ok (.istore 7, 2) := by decide +kernel
theorem dX11_share_77 : decode cX11_share 77 = .ok (.lload 4, 2) := by decide +kernel
theorem dX11_share_79 : decode cX11_share 79 = .ok (.iload 7, 2) := by decide +kernel
theorem dX11_share_81 : decode cX11_share 81 = .ok (.i2l, 1) := by decide +kernel
theorem dX11_share_82 : decode cX11_share 82 = .ok (.aload_n 0, 1) := by decide +kernel
theorem dX11_share_83 : decode cX11_share 83 = .ok (.iload 6, 2) := by decide +kernel
theorem dX11_share_85 : decode cX11_share 85 = .ok (.invokestatic 243, 3) := by decide +kernel
theorem dX11_share_88 : decode cX11_share 88 = .ok (.invokevirtual 292, 3) := by decide +kernel
theorem dX11_share_91 : decode cX11_share 91 = .ok (.i2l, 1) := by decide +kernel
theorem dX11_share_92 : decode cX11_share 92 = .ok (.lmul, 1) := by decide +kernel
theorem dX11_share_93 : decode cX11_share 93 = .ok (.ladd, 1) := by decide +kernel
theorem dX11_share_94 : decode cX11_share 94 = .ok (.lstore 4, 2) := by decide +kernel
theorem dX11_share_96 : decode cX11_share 96 = .ok (.iinc 6 1, 3) := by decide +kernel
theorem dX11_share_99 : decode cX11_share 99 = .ok (.goto (-62), 3) := by decide +kernel
theorem dX11_share_102 : decode cX11_share 102 = .ok (.lload 4, 2) := by decide +kernel
theorem dX11_share_104 : decode cX11_share 104 = .ok (.getstatic 295, 3) := by decide +kernel
theorem dX11_share_107 : decode cX11_share 107 = .ok (.aload_n 0, 1) := by decide +kernel
theorem dX11_share_108 : decode cX11_share 108 = .ok (.getfield 26, 3) := by decide +kernel
theorem dX11_share_111 : decode cX11_share 111 = .ok (.getfield 274, 3) := by decide +kernel
theorem dX11_share_114 : decode cX11_share 114 = .ok (.invokestatic 124, 3) := by decide +kernel
theorem dX11_share_117 : decode cX11_share 117 = .ok (.i2l, 1) := by decide +kernel
theorem dX11_share_118 : decode cX11_share 118 = .ok (.iload_n 3, 1) := by decide +kernel
theorem dX11_share_119 : decode cX11_share 119 = .ok (.invokestatic 298, 3) := by decide +kernel
theorem dX11_share_122 : decode cX11_share 122 = .ok (.l2i, 1) := by decide +kernel
theorem dX11_share_123 : decode cX11_share 123 = .ok (.ireturn, 1) := by decide +kernel
theorem mokX11_share : MOK yX11_share cX11_share 8 (some .int) 3 := ⟨w5_147, w1_1, ⟨by decide, by decide⟩, by decide +kernel, by decide⟩
abbrev miX11_share : MI := (yX11_share.cls, cX11_share, 8, 6, false)
noncomputable def LX11_share_1 : Sm Int32 := dLoop (fun f => (sI (sL (sI (sI (sI (sR fr0 0 (gR f 0)) 1 (gI f 1)) 2 (gI f 2)) 3 (gI f 3)) 4 (gL f 4)) 6 (gI f 6))) (dCI r_le (vI 6) (dCallV 5 DX5_allCarriers (aR aN 0 (dGR 11 2 (vR 0))))) (dIf (dNot (dCZ q_ne (dCall DX11_hasBit (aI (aI aN 0 (vI 6)) 1 (vI 2))))) (dSeq (dSetI 7 (d2 o_isub (dCallV 11 DX11_housesOfCart (aI (aR aN 0 (vR 0)) 1 (d2 o_ior (vI 6) (d2 o_ishl (cI 1) (vI 2))))) (dCallV 11 DX11_housesOfCart (aI (aR aN 0 (vR 0)) 1 (vI 6))))) (dSetL 4 (d2 o_ladd (vL 4) (d2 o_lmul (d1 o_i2l (vI 7)) (d1 o_i2l (dCallV 11 DX11_ordersWith (aI (aR aN 0 (vR 0)) 1 (dCall DJ6_bitCount_0f7a4 (aI aN 0 (vI 6)))))))))) dSkip) (dInc 6 1)
theorem sLX11_share_1 {ΓL : Gm} {PB PK : List Nat} : SS (cvoI, .ireturn) miX11_share ΓL PB PK [(0, 2), (1, 0), (2, 0), (3, 0), (4, 1), (6, 0)] [(0, 2), (1, 0), (2, 0), (3, 0), (4, 1), (6, 0)] 37 [102] LX11_share_1 := t_loop (pT := 49) (pF := 102) (pu := 96) (PB' := []) (PK' := []) (XB := [96]) (XU := [99]) (fun _ _ => rfl) rfl (c_le_F (pF := 102) (s_iload dX11_share_37 rfl) (s_of_xI (x_callV (ts := [(0, 2)]) ck5 rfl kX5_allCarriers mokX5_allCarriers w4_239 w5_0 rfl rfl rfl rfl (a_R (ts := []) 0 a_nil (s_getR ck11 2 (by decide) rfl (s_aload_n dX11_share_39 rfl rfl) dX11_share_40 w2_220) rfl) dX11_share_43 w4_238)) dX11_share_46 rfl) (t_if (pT := 58) (pF := 96) (X := [96]) (XA := [96]) (XB := [96]) (c_not (pT := 58) (pF := 96) (c_ne_ZJ (pT := 96) (s_of_xI (x_call (ts := [(0, 0), (1, 0)]) kX11_hasBit mokX11_hasBit w4_37 rfl rfl rfl (a_I (ts := [(0, 0)]) 1 (a_I (ts := []) 0 a_nil (s_iload dX11_share_49 rfl) rfl) (s_iload_n dX11_share_51 rfl rfl) rfl) dX11_share_52 w5_148)) dX11_share_55 rfl)) (t_sq (p1 := 77) (Γ' := [(0, 2), (1, 0), (2, 0), (3, 0), (4, 1), (6, 0), (7, 0)]) (t_istore (s_isub (s_of_xI (x_callV (ts := [(0, 2), (1, 0)]) ck11 rfl kX11_housesOfCart mokX11_housesOfCart w5_151 ps2_13 rfl rfl rfl rfl (a_I (ts := [(0, 2)]) 1 (a_R (ts := []) 0 a_nil (s_aload_n dX11_share_58 rfl rfl) rfl) (s_ior (s_iload dX11_share_59 rfl) (s_ishl (s_iconst dX11_share_61 rfl) (s_iload_n dX11_share_62 rfl rfl) dX11_share_63) dX11_share_64) rfl) dX11_share_65 w5_149)) (s_of_xI (x_callV (ts := [(0, 2), (1, 0)]) ck11 rfl kX11_housesOfCart mokX11_housesOfCart w5_151 ps2_13 rfl rfl rfl rfl (a_I (ts := [(0, 2)]) 1 (a_R (ts := []) 0 a_nil (s_aload_n dX11_share_68 rfl rfl) rfl) (s_iload dX11_share_69 rfl) rfl) dX11_share_71 w5_149)) dX11_share_74) dX11_share_75 rfl rfl) (t_lstore (s_ladd (s_lload dX11_share_77 rfl) (s_lmul (s_i2l (s_iload dX11_share_79 rfl) dX11_share_81) (s_i2l (s_of_xI (x_callV (ts := [(0, 2), (1, 0)]) ck11 rfl kX11_ordersWith mokX11_ordersWith w5_159 ps2_14 rfl rfl rfl rfl (a_I (ts := [(0, 2)]) 1 (a_R (ts := []) 0 a_nil (s_aload_n dX11_share_82 rfl rfl) rfl) (s_of_xI (x_call (ts := [(0, 0)]) kJ6_bitCount_0f7a4 mokJ6_bitCount_0f7a4 w5_28 rfl rfl rfl (a_I (ts := []) 0 a_nil (s_iload dX11_share_83 rfl) rfl) dX11_share_85 w5_27)) rfl) dX11_share_88 w5_157)) dX11_share_91) dX11_share_92) dX11_share_93) dX11_share_94 rfl rfl)) (t_skip (ld_in rfl) rfl) (lda_cons (ld_in rfl) lda_nil) (lda_cons (ld_in rfl) lda_nil)) (t_iinc dX11_share_96 rfl rfl rfl rfl) (lda_cons (ld_in rfl) lda_nil) lda_nil (lda_cons (ld_goto (y := 37) dX11_share_99 rfl (ld_in rfl)) lda_nil) (ld_in rfl) lda_nil
noncomputable def BX11_share : Sm Int32 := (dSeq (dIf (dOr (dNot (dCZ q_ne (dCallV 11 DX11_areAlone (aI (aI (aR aN 0 (vR 0)) 1 (vI 2)) 2 (vI 1))))) (dNot (dCZ q_ne (dCall DX11_isChoice (aI aN 0 (vI 3)))))) (dRet (cI (-2))) dSkip) (dSeq (dDo (dCallV 0 DX0_findNeeds (aI (aR (aR aN 0 (dGR 11 9 (vR 0))) 1 (dGR 11 2 (vR 0))) 2 (vI 1)))) (dSeq (dSetL 4 (cL 0)) (dSeq (dSeq (dSetI 6 (cI 0)) LX11_share_1) (dRet (d1 o_l2i (dCall DX11_inLowestTerms (aI (aL (aL aN 0 (vL 4)) 2 (d1 o_i2l (dCall DX11_cell (aI (aR aN 0 (cR 2)) 1 (dGI 5 6 (dGR 11 2 (vR 0))))))) 4 (vI 3)))))))))
theorem sBX11_share : SS (cvoI, .ireturn) miX11_share [] [] [] [(0, 2), (1, 0), (2, 0), (3, 0)] [(0, 2), (1, 0), (2, 0), (3, 0)] 0 [] BX11_share := (t_sq (p1 := 19) (Γ' := [(0, 2), (1, 0), (2, 0), (3, 0)]) (t_if (pT := 16) (pF := 19) (X := [19]) (XA := []) (XB := [19]) (c_or (p1 := 9) (pT := 16) (pF := 19) (c_not (pT := 16) (pF := 9) (c_ne_ZF (pF := 16) (s_of_xI (x_callV (ts := [(0, 2), (1, 0), (2, 0)]) ck11 rfl kX11_areAlone mokX11_areAlone w5_47 ps2_6 rfl rfl rfl rfl (a_I (ts := [(0, 2), (1, 0)]) 2 (a_I (ts := [(0, 2)]) 1 (a_R (ts := []) 0 a_nil (s_aload_n dX11_share_0 rfl rfl) rfl) (s_iload_n dX11_share_1 rfl rfl) rfl) (s_iload_n dX11_share_2 rfl rfl) rfl) dX11_share_3 w5_45)) dX11_share_6 rfl)) (c_not (pT := 16) (pF := 19) (c_ne_ZJ (pT := 19) (s_of_xI (x_call (ts := [(0, 0)]) kX11_isChoice mokX11_isChoice w4_0 rfl rfl rfl (a_I (ts := []) 0 a_nil (s_iload_n dX11_share_9 rfl rfl) rfl) dX11_share_10 w3_239)) dX11_share_13 rfl))) (t_ret (cv := cvI) (fun _ _ => rfl) (s_bipush dX11_share_16 rfl) dX11_share_18) (t_skip (ld_in rfl) rfl) lda_nil (lda_cons (ld_in rfl) lda_nil)) (t_sq (p1 := 31) (Γ' := [(0, 2), (1, 0), (2, 0), (3, 0)]) (t_do (x_callV (ts := [(0, 2), (1, 2), (2, 0)]) ck0 rfl kX0_findNeeds mokX0_findNeeds w5_103 w5_104 rfl rfl rfl rfl (a_I (ts := [(0, 2), (1, 2)]) 2 (a_R (ts := [(0, 2)]) 1 (a_R (ts := []) 0 a_nil (s_getR ck11 9 (by decide) rfl (s_aload_n dX11_share_19 rfl rfl) dX11_share_20 w2_227) rfl) (s_getR ck11 2 (by decide) rfl (s_aload_n dX11_share_23 rfl rfl) dX11_share_24 w2_220) rfl) (s_iload_n dX11_share_27 rfl rfl) rfl) dX11_share_28 w5_102) rfl) (t_sq (p1 := 34) (Γ' := [(0, 2), (1, 0), (2, 0), (3, 0), (4, 1)]) (t_lstore (s_lconst dX11_share_31 rfl) dX11_share_32 rfl rfl) (t_sq (p1 := 102) (Γ' := [(0, 2), (1, 0), (2, 0), (3, 0), (4, 1)]) (t_sq (p1 := 37) (Γ' := [(0, 2), (1, 0), (2, 0), (3, 0), (4, 1), (6, 0)]) (t_istore (s_iconst dX11_share_34 rfl) dX11_share_35 rfl rfl) (tn_to (Γ' := [(0, 2), (1, 0), (2, 0), (3, 0), (4, 1), (6, 0)]) (XA := [102]) sLX11_share_1 (lda_cons (ld_in rfl) lda_nil) rfl)) (t_ret (cv := cvI) (fun _ _ => rfl) (s_l2i (s_of_xL (x_call (ts := [(0, 1), (2, 1), (4, 0)]) kX11_inLowestTerms mokX11_inLowestTerms w5_164 rfl rfl rfl (a_I (ts := [(0, 1), (2, 1)]) 4 (a_L (ts := [(0, 1)]) 2 (a_L (ts := []) 0 a_nil (s_lload dX11_share_102 rfl) rfl) (s_i2l (s_of_xI (x_call (ts := [(0, 2), (1, 0)]) kX11_cell mokX11_cell w3_229 rfl rfl rfl (a_I (ts := [(0, 2)]) 1 (a_R (ts := []) 0 a_nil (s_fact dX11_share_104 w5_161) rfl) (s_getI ck5 6 (by decide) rfl (s_getR ck11 2 (by decide) rfl (s_aload_n dX11_share_107 rfl rfl) dX11_share_108 w2_220) dX11_share_111 w1_164) rfl) dX11_share_114 w3_228)) dX11_share_117) rfl) (s_iload_n dX11_share_118 rfl rfl) rfl) dX11_share_119 w5_163)) dX11_share_122) dX11_share_123)))))
noncomputable def DX11_share : Fr → St → Option (Int32 × St) := M1 (fun f => (sI (sI (sI (sR fr0 0 (gR f 0)) 1 (gI f 1)) 2 (gI f 2)) 3 (gI f 3))) BX11_share
theorem kX11_share : SND yX11_share cX11_share 8 (some .int) 6 [(0, 2), (1, 0), (2, 0), (3, 0)] cvoI DX11_share := snd_I (nw := 4) (by decide) rfl rfl (fun _ _ => rfl) sBX11_share
theorem dX11_hearersWithout_0 : decode cX11_hearersWithout 0 = .ok (.aload_n 0, 1) := by decide +kernel
theorem dX11_hearersWithout_1 : decode cX11_hearersWithout 1 = .ok (.getfield 51, 3) := by decide +kernel
theorem dX11_hearersWithout_4 : decode cX11_hearersWithout 4 = .ok (.getfield 332, 3) := by decide +kernel
theorem dX11_hearersWithout_7 : decode cX11_hearersWithout 7 = .ok (.aload_n 0, 1) := by decide +kernel
theorem dX11_hearersWithout_8 : decode cX11_hearersWithout 8 = .ok (.getfield 26, 3) := by decide +kernel
theorem dX11_hearersWithout_11 : decode cX11_hearersWithout 11 = .ok (.invokevirtual 336, 3) := by decide +kernel
theorem dX11_hearersWithout_14 : decode cX11_hearersWithout 14 = .ok (.aload_n 0, 1) := by decide +kernel
theorem dX11_hearersWithout_15 : decode cX11_hearersWithout 15 = .ok (.getfield 51, 3) := by decide +kernel
theorem dX11_hearersWithout_18 : decode cX11_hearersWithout 18 = .ok (.getfield 332, 3) := by decide +kernel
theorem dX11_hearersWithout_21 : decode cX11_hearersWithout 21 = .ok (.iload_n 2, 1) := by decide +kernel
theorem dX11_hearersWithout_22 : decode cX11_hearersWithout 22 = .ok (.putfield 455, 3) := by decide +kernel
theorem dX11_hearersWithout_25 : decode cX11_hearersWithout 25 = .ok (.aload_n 0, 1) := by decide +kernel
theorem dX11_hearersWithout_26 : decode cX11_hearersWithout 26 = .ok (.getfield 51, 3) := by decide +kernel
theorem dX11_hearersWithout_29 : decode cX11_hearersWithout 29 = .ok (.aload_n 0, 1) := by decide +kernel
theorem dX11_hearersWithout_30 : decode cX11_hearersWithout 30 = .ok (.getfield 26, 3) := by decide +kernel
theorem dX11_hearersWithout_33 : decode cX11_hearersWithout 33 = .ok (.invokevirtual 344, 3) := by decide +kernel
theorem dX11_hearersWithout_36 : decode cX11_hearersWithout 36 = .ok (.aload_n 0, 1) := by decide +kernel
theorem dX11_hearersWithout_37 : decode cX11_hearersWithout 37 = .ok (.getfield 51, 3) := by decide +kernel
theorem dX11_hearersWithout_40 : decode cX11_hearersWithout 40 = .ok (.aload_n 0, 1) := by decide +kernel
theorem dX11_hearersWithout_41 : decode cX11_hearersWithout 41 = .ok (.getfield 26, 3) := by decide +kernel
theorem dX11_hearersWithout_44 : decode cX11_hearersWithout 44 = .ok (.iload_n 1, 1) := by decide +kernel
theorem dX11_hearersWithout_45 : decode cX11_hearersWithout 45 = .ok (.aload_n 0, 1) := by decide +kernel
theorem dX11_hearersWithout_46 : decode cX11_hearersWithout 46 = .ok (.getfield 26, 3) := by decide +kernel
theorem dX11_hearersWithout_49 : decode cX11_hearersWithout 49 = .ok (.getfield 200, 3) := by decide +kernel
theorem dX11_hearersWithout_52 : decode cX11_hearersWithout 52 = .ok (.invokevirtual 190, 3) := by decide +kernel
theorem dX11_hearersWithout_55 : decode cX11_hearersWithout 55 = .ok (.ireturn, 1) := by decide +kernel
theorem mokX11_hearersWithout : MOK yX11_hearersWithout cX11_hearersWithout 3 (some .int) 2 := ⟨w5_173, w1_1, ⟨by decide, by decide⟩, by decide +kernel, by decide⟩
abbrev miX11_hearersWithout : MI := (yX11_hearersWithout.cls, cX11_hearersWithout, 3, 7, false)
noncomputable def BX11_hearersWithout : Sm Int32 := (dSeq (dDo (dCallV 2 DX2_setAsTold (aR (aR aN 0 (dGR 3 1 (dGR 11 7 (vR 0)))) 1 (dGR 11 2 (vR 0))))) (dSeq (dP (fI 2 1) (dGR 3 1 (dGR 11 7 (vR 0))) (vI 2)) (dSeq (dDo (dCallV 3 DX3_fill (aR (aR aN 0 (dGR 11 7 (vR 0))) 1 (dGR 11 2 (vR 0))))) (dRet (dCallV 3 DX3_hearersOn (aI (aI (aR (aR aN 0 (dGR 11 7 (vR 0))) 1 (dGR 11 2 (vR 0))) 2 (vI 1)) 3 (dGI 5 1 (dGR 11 2 (vR 0)))))))))
theorem sBX11_hearersWithout : SS (cvoI, .ireturn) miX11_hearersWithout [] [] [] [(0, 2), (1, 0), (2, 0)] [(0, 2), (1, 0), (2, 0)] 0 [] BX11_hearersWithout := (t_sq (p1 := 14) (Γ' := [(0, 2), (1, 0), (2, 0)]) (t_do (x_callV (ts := [(0, 2), (1, 2)]) ck2 rfl kX2_setAsTold mokX2_setAsTold w4_84 w4_85 rfl rfl rfl rfl (a_R (ts := [(0, 2)]) 1 (a_R (ts := []) 0 a_nil (s_getR ck3 1 (by decide) rfl (s_getR ck11 7 (by decide) rfl (s_aload_n dX11_hearersWithout_0 rfl rfl) dX11_hearersWithout_1 w2_225) dX11_hearersWithout_4 w2_91) rfl) (s_getR ck11 2 (by decide) rfl (s_aload_n dX11_hearersWithout_7 rfl rfl) dX11_hearersWithout_8 w2_220) rfl) dX11_hearersWithout_11 w4_83) rfl) (t_sq (p1 := 25) (Γ' := [(0, 2), (1, 0), (2, 0)]) (t_pI ck2 1 (by decide) rfl (Or.inl rfl) (s_getR ck3 1 (by decide) rfl (s_getR ck11 7 (by decide) rfl (s_aload_n dX11_hearersWithout_14 rfl rfl) dX11_hearersWithout_15 w2_225) dX11_hearersWithout_18 w2_91) (s_iload_n dX11_hearersWithout_21 rfl rfl) dX11_hearersWithout_22 w2_29 rfl) (t_sq (p1 := 36) (Γ' := [(0, 2), (1, 0), (2, 0)]) (t_do (x_callV (ts := [(0, 2), (1, 2)]) ck3 rfl kX3_fill mokX3_fill w4_88 w4_89 rfl rfl rfl rfl (a_R (ts := [(0, 2)]) 1 (a_R (ts := []) 0 a_nil (s_getR ck11 7 (by decide) rfl (s_aload_n dX11_hearersWithout_25 rfl rfl) dX11_hearersWithout_26 w2_225) rfl) (s_getR ck11 2 (by decide) rfl (s_aload_n dX11_hearersWithout_29 rfl rfl) dX11_hearersWithout_30 w2_220) rfl) dX11_hearersWithout_33 w4_87) rfl) (t_ret (cv := cvI) (fun _ _ => rfl) (s_of_xI (x_callV (ts := [(0, 2), (1, 2), (2, 0), (3, 0)]) ck3 rfl kX3_hearersOn mokX3_hearersOn w4_188 w4_189 rfl rfl rfl rfl (a_I (ts := [(0, 2), (1, 2), (2, 0)]) 3 (a_I (ts := [(0, 2), (1, 2)]) 2 (a_R (ts := [(0, 2)]) 1 (a_R (ts := []) 0 a_nil (s_getR ck11 7 (by decide) rfl (s_aload_n dX11_hearersWithout_36 rfl rfl) dX11_hearersWithout_37 w2_225) rfl) (s_getR ck11 2 (by decide) rfl (s_aload_n dX11_hearersWithout_40 rfl rfl) dX11_hearersWithout_41 w2_220) rfl) (s_iload_n dX11_hearersWithout_44 rfl rfl) rfl) (s_getI ck5 1 (by decide) rfl (s_getR ck11 2 (by decide) rfl (s_aload_n dX11_hearersWithout_45 rfl rfl) dX11_hearersWithout_46 w2_220) dX11_hearersWithout_49 w1_139) rfl) dX11_hearersWithout_52 w4_187)) dX11_hearersWithout_55))))
noncomputable def DX11_hearersWithout : Fr → St → Option (Int32 × St) := M1 (fun f => (sI (sI (sR fr0 0 (gR f 0)) 1 (gI f 1)) 2 (gI f 2))) BX11_hearersWithout
theorem kX11_hearersWithout : SND yX11_hearersWithout cX11_hearersWithout 3 (some .int) 7 [(0, 2), (1, 0), (2, 0)] cvoI DX11_hearersWithout := snd_I (nw := 3) (by decide) rfl rfl (fun _ _ => rfl) sBX11_hearersWithout
theorem dX11_block_0 : decode cX11_block 0 = .ok (.aload_n 0, 1) := by decide +kernel
theorem dX11_block_1 : decode cX11_block 1 = .ok (.getfield 26, 3) := by decide +kernel
theorem dX11_block_4 : decode cX11_block 4 = .ok (.iload_n 1, 1) := by decide +kernel
theorem dX11_block_5 : decode cX11_block 5 = .ok (.invokevirtual 140, 3) := by decide +kernel
theorem dX11_block_8 : decode cX11_block 8 = .ok (.ifCond .ne 6, 3) := by decide +kernel
theorem dX11_block_11 : decode cX11_block 11 = .ok (.bipush (-2), 2) := by decide +kernel
theorem dX11_block_13 : decode cX11_block 13 = .ok (.ireturn, 1) := by decide +kernel
theorem dX11_block_14 : decode cX11_block 14 = .ok (.iconst (-1), 1) := by decide +kernel
theorem dX11_block_15 : decode cX11_block 15 = .ok (.istore_n 2, 1) := by decide +kernel
theorem dX11_block_16 : decode cX11_block 16 = .ok (.aload_n 0, 1) := by decide +kernel
theorem dX11_block_17 : decode cX11_block 17 = .ok (.invokevirtual 167, 3) := by decide +kernel
theorem dX11_block_20 : decode cX11_block 20 = .ok (.aload_n 0, 1) := by decide +kernel
theorem dX11_block_21 : decode cX11_block 21 = .ok (.getfield 26, 3) := by decide +kernel
theorem dX11_block_24 : decode cX11_block 24 = .ok (.iload_n 1, 1) := by decide +kernel
theorem dX11_block_25 : decode cX11_block 25 = .ok (.aload_n 0, 1) := by decide +kernel
theorem dX11_block_26 : decode cX11_block 26 = .ok (.getfield 26, 3) := by decide +kernel
theorem dX11_block_29 : decode cX11_block 29 = .ok (.getfield 200, 3) := by decide +kernel
theorem dX11_block_32 : decode cX11_block 32 = .ok (.invokevirtual 190, 3) := by decide +kernel
theorem dX11_block_35 : decode cX11_block 35 = .ok (.invokestatic 243, 3) := by decide +kernel
theorem dX11_block_38 : decode cX11_block 38 = .ok (.istore_n 3, 1) := by decide +kernel
theorem dX11_block_39 : decode cX11_block 39 = .ok (.iconst 0, 1) := by decide +kernel
theorem dX11_block_40 : decode cX11_block 40 = .ok (.istore 4, 2) := by decide +kernel
theorem dX11_block_42 : decode cX11_block 42 = .ok (.iload 4, 2) := by decide +kernel
theorem dX11_block_44 : decode cX11_block 44 = .ok (.aload_n 0, 1) := by decide +kernel
theorem dX11_block_45 : decode cX11_block 45 = .ok (.getfield 26, 3) := by decide +kernel
theorem dX11_block_48 : decode cX11_block 48 = .ok (.getfield 302, 3) := by decide +kernel
theorem dX11_block_51 : decode cX11_block 51 = .ok (.if_icmp .ge 33, 3) := by decide +kernel
theorem dX11_block_54 : decode cX11_block 54 = .ok (.aload_n 0, 1) := by decide +kernel
theorem dX11_block_55 : decode cX11_block 55 = .ok (.iload_n 1, 1) := by decide +kernel
theorem dX11_block_56 : decode cX11_block 56 = .ok (.iload 4, 2) := by decide +kernel
theorem dX11_block_58 : decode cX11_block 58 = .ok (.invokevirtual 305, 3) := by decide +kernel
theorem dX11_block_61 : decode cX11_block 61 = .ok (.invokestatic 243, 3) := by decide +kernel
theorem dX11_block_64 : decode cX11_block 64 = .ok (.istore 5, 2) := by decide +kernel
theorem dX11_block_66 : decode cX11_block 66 = .ok (.iload 5, 2) := by decide +kernel
theorem dX11_block_68 : decode cX11_block 68 = .ok (.iload_n 3, 1) := by decide +kernel
theorem dX11_block_69 : decode cX11_block 69 = .ok (.if_icmp .ge 9, 3) := by decide +kernel
theorem dX11_block_72 : decode cX11_block 72 = .ok (.iload 5, 2) := by decide +kernel
theorem dX11_block_74 : decode cX11_block 74 = .ok (.istore_n 3, 1) := by decide +kernel
theorem dX11_block_75 : decode cX11_block 75 = .ok (.iload 4, 2) := by decide +kernel
theorem dX11_block_77 : decode cX11_block 77 = .ok (.istore_n 2, 1) := by decide +kernel
theorem dX11_block_78 : decode cX11_block 78 = .ok (.iinc 4 1, 3) := by decide +kernel
theorem dX11_block_81 : decode cX11_block 81 = .ok (.goto (-39), 3) := by decide +kernel
theorem dX11_block_84 : decode cX11_block 84 = .ok (.iload_n 2, 1) := by decide +kernel
theorem dX11_block_85 : decode cX11_block 85 = .ok (.ireturn, 1) := by decide +kernel
theorem mokX11_block : MOK yX11_block cX11_block 6 (some .int) 1 := ⟨w5_169, w1_1, ⟨by decide, by decide⟩, by decide +kernel, by decide⟩
abbrev miX11_block : MI := (yX11_block.cls, cX11_block, 6, 8, false)
noncomputable def LX11_block_1 : Sm Int32 := dLoop (fun f => (sI (sI (sI (sI (sR fr0 0 (gR f 0)) 1 (gI f 1)) 2 (gI f 2)) 3 (gI f 3)) 4 (gI f 4))) (dCI r_lt (vI 4) (dGI 5 5 (dGR 11 2 (vR 0)))) (dSeq (dSetI 5 (dCall DJ6_bitCount_0f7a4 (aI aN 0 (dCallV 11 DX11_hearersWithout (aI (aI (aR aN 0 (vR 0)) 1 (vI 1)) 2 (vI 4)))))) (dIf (dCI r_lt (vI 5) (vI 3)) (dSeq (dSetI 3 (vI 5)) (dSetI 2 (vI 4))) dSkip)) (dInc 4 1)
theorem sLX11_block_1 {ΓL : Gm} {PB PK : List Nat} : SS (cvoI, .ireturn) miX11_block ΓL PB PK [(0, 2), (1, 0), (2, 0), (3, 0), (4, 0)] [(0, 2), (1, 0), (2, 0), (3, 0), (4, 0)] 42 [84] LX11_block_1 := t_loop (pT := 54) (pF := 84) (pu := 78) (PB' := []) (PK' := []) (XB := [78]) (XU := [81]) (fun _ _ => rfl) rfl (c_lt_F (pF := 84) (s_iload dX11_block_42 rfl) (s_getI ck5 5 (by decide) rfl (s_getR ck11 2 (by decide) rfl (s_aload_n dX11_block_44 rfl rfl) dX11_block_45 w2_220) dX11_block_48 w1_160) dX11_block_51 rfl) (t_sq (p1 := 66) (Γ' := [(0, 2), (1, 0), (2, 0), (3, 0), (4, 0), (5, 0)]) (t_istore (s_of_xI (x_call (ts := [(0, 0)]) kJ6_bitCount_0f7a4 mokJ6_bitCount_0f7a4 w5_28 rfl rfl rfl (a_I (ts := []) 0 a_nil (s_of_xI (x_callV (ts := [(0, 2), (1, 0), (2, 0)]) ck11 rfl kX11_hearersWithout mokX11_hearersWithout w5_172 ps2_15 rfl rfl rfl rfl (a_I (ts := [(0, 2), (1, 0)]) 2 (a_I (ts := [(0, 2)]) 1 (a_R (ts := []) 0 a_nil (s_aload_n dX11_block_54 rfl rfl) rfl) (s_iload_n dX11_block_55 rfl rfl) rfl) (s_iload dX11_block_56 rfl) rfl) dX11_block_58 w5_170)) rfl) dX11_block_61 w5_27)) dX11_block_64 rfl rfl) (t_if (pT := 72) (pF := 78) (X := [78]) (XA := [78]) (XB := [78]) (c_lt_F (pF := 78) (s_iload dX11_block_66 rfl) (s_iload_n dX11_block_68 rfl rfl) dX11_block_69 rfl) (t_sq (p1 := 75) (Γ' := [(0, 2), (1, 0), (2, 0), (3, 0), (4, 0), (5, 0)]) (t_istore_n (s_iload dX11_block_72 rfl) dX11_block_74 rfl rfl rfl) (t_istore_n (s_iload dX11_block_75 rfl) dX11_block_77 rfl rfl rfl)) (t_skip (ld_in rfl) rfl) (lda_cons (ld_in rfl) lda_nil) (lda_cons (ld_in rfl) lda_nil))) (t_iinc dX11_block_78 rfl rfl rfl rfl) (lda_cons (ld_in rfl) lda_nil) lda_nil (lda_cons (ld_goto (y := 42) dX11_block_81 rfl (ld_in rfl)) lda_nil) (ld_in rfl) lda_nil
noncomputable def BX11_block : Sm Int32 := (dSeq (dIf (dNot (dCZ q_ne (dCallV 5 DX5_isSlate (aI (aR aN 0 (dGR 11 2 (vR 0))) 1 (vI 1))))) (dRet (cI (-2))) dSkip) (dSeq (dSetI 2 (cI (-1))) (dSeq (dSetI 3 (dCall DJ6_bitCount_0f7a4 (aI aN 0 (dCallV 3 DX3_hearersOn (aI (aI (aR (aR aN 0 (dCallV 11 DX11_today (aR aN 0 (vR 0)))) 1 (dGR 11 2 (vR 0))) 2 (vI 1)) 3 (dGI 5 1 (dGR 11 2 (vR 0)))))))) (dSeq (dSeq (dSetI 4 (cI 0)) LX11_block_1) (dRet (vI 2))))))
theorem sBX11_block : SS (cvoI, .ireturn) miX11_block [] [] [] [(0, 2), (1, 0)] [(0, 2), (1, 0)] 0 [] BX11_block := (t_sq (p1 := 14) (Γ' := [(0, 2), (1, 0)]) (t_if (pT := 11) (pF := 14) (X := [14]) (XA := []) (XB := [14]) (c_not (pT := 11) (pF := 14) (c_ne_ZJ (pT := 14) (s_of_xI (x_callV (ts := [(0, 2), (1, 0)]) ck5 rfl kX5_isSlate mokX5_isSlate w4_7 w4_8 rfl rfl rfl rfl (a_I (ts := [(0, 2)]) 1 (a_R (ts := []) 0 a_nil (s_getR ck11 2 (by decide) rfl (s_aload_n dX11_block_0 rfl rfl) dX11_block_1 w2_220) rfl) (s_iload_n dX11_block_4 rfl rfl) rfl) dX11_block_5 w4_6)) dX11_block_8 rfl)) (t_ret (cv := cvI) (fun _ _ => rfl) (s_bipush dX11_block_11 rfl) dX11_block_13) (t_skip (ld_in rfl) rfl) lda_nil (lda_cons (ld_in rfl) lda_nil)) (t_sq (p1 := 16) (Γ' := [(0, 2), (1, 0), (2, 0)]) (t_istore_n (s_iconst dX11_block_14 rfl) dX11_block_15 rfl rfl rfl) (t_sq (p1 := 39) (Γ' := [(0, 2), (1, 0), (2, 0), (3, 0)]) (t_istore_n (s_of_xI (x_call (ts := [(0, 0)]) kJ6_bitCount_0f7a4 mokJ6_bitCount_0f7a4 w5_28 rfl rfl rfl (a_I (ts := []) 0 a_nil (s_of_xI (x_callV (ts := [(0, 2), (1, 2), (2, 0), (3, 0)]) ck3 rfl kX3_hearersOn mokX3_hearersOn w4_188 w4_189 rfl rfl rfl rfl (a_I (ts := [(0, 2), (1, 2), (2, 0)]) 3 (a_I (ts := [(0, 2), (1, 2)]) 2 (a_R (ts := [(0, 2)]) 1 (a_R (ts := []) 0 a_nil (s_of_xR (x_callV (ts := [(0, 2)]) ck11 rfl kX11_today mokX11_today w4_81 ps2_0 rfl rfl rfl rfl (a_R (ts := []) 0 a_nil (s_aload_n dX11_block_16 rfl rfl) rfl) dX11_block_17 w4_79)) rfl) (s_getR ck11 2 (by decide) rfl (s_aload_n dX11_block_20 rfl rfl) dX11_block_21 w2_220) rfl) (s_iload_n dX11_block_24 rfl rfl) rfl) (s_getI ck5 1 (by decide) rfl (s_getR ck11 2 (by decide) rfl (s_aload_n dX11_block_25 rfl rfl) dX11_block_26 w2_220) dX11_block_29 w1_139) rfl) dX11_block_32 w4_187)) rfl) dX11_block_35 w5_27)) dX11_block_38 rfl rfl rfl) (t_sq (p1 := 84) (Γ' := [(0, 2), (1, 0), (2, 0), (3, 0)]) (t_sq (p1 := 42) (Γ' := [(0, 2), (1, 0), (2, 0), (3, 0), (4, 0)]) (t_istore (s_iconst dX11_block_39 rfl) dX11_block_40 rfl rfl) (tn_to (Γ' := [(0, 2), (1, 0), (2, 0), (3, 0), (4, 0)]) (XA := [84]) sLX11_block_1 (lda_cons (ld_in rfl) lda_nil) rfl)) (t_ret (cv := cvI) (fun _ _ => rfl) (s_iload_n dX11_block_84 rfl rfl) dX11_block_85)))))
noncomputable def DX11_block : Fr → St → Option (Int32 × St) := M1 (fun f => (sI (sR fr0 0 (gR f 0)) 1 (gI f 1))) BX11_block
theorem kX11_block : SND yX11_block cX11_block 6 (some .int) 8 [(0, 2), (1, 0)] cvoI DX11_block := snd_I (nw := 2) (by decide) rfl rfl (fun _ _ => rfl) sBX11_block
theorem dX11_hearersBy_0 : decode cX11_hearersBy 0 = .ok (.aload_n 0, 1) := by decide +kernel
theorem dX11_hearersBy_1 : decode cX11_hearersBy 1 = .ok (.getfield 51, 3) := by decide +kernel
theorem dX11_hearersBy_4 : decode cX11_hearersBy 4 = .ok (.getfield 332, 3) := by decide +kernel
theorem dX11_hearersBy_7 : decode cX11_hearersBy 7 = .ok (.aload_n 0, 1) := by decide +kernel
theorem dX11_hearersBy_8 : decode cX11_hearersBy 8 = .ok (.getfield 26, 3) := by decide +kernel
theorem dX11_hearersBy_11 : decode cX11_hearersBy 11 = .ok (.invokevirtual 336, 3) := by decide +kernel
theorem dX11_hearersBy_14 : decode cX11_hearersBy 14 = .ok (.aload_n 0, 1) := by decide +kernel
theorem dX11_hearersBy_15 : decode cX11_hearersBy 15 = .ok (.getfield 51, 3) := by decide +kernel
theorem dX11_hearersBy_18 : decode cX11_hearersBy 18 = .ok (.getfield 332, 3) := by decide +kernel
theorem dX11_hearersBy_21 : decode cX11_hearersBy 21 = .ok (.iload_n 2, 1) := by decide +kernel
theorem dX11_hearersBy_22 : decode cX11_hearersBy 22 = .ok (.putfield 341, 3) := by decide +kernel
theorem dX11_hearersBy_25 : decode cX11_hearersBy 25 = .ok (.aload_n 0, 1) := by decide +kernel
theorem dX11_hearersBy_26 : decode cX11_hearersBy 26 = .ok (.getfield 51, 3) := by decide +kernel
theorem dX11_hearersBy_29 : decode cX11_hearersBy 29 = .ok (.aload_n 0, 1) := by decide +kernel
theorem dX11_hearersBy_30 : decode cX11_hearersBy 30 = .ok (.getfield 26, 3) := by decide +kernel
theorem dX11_hearersBy_33 : decode cX11_hearersBy 33 = .ok (.invokevirtual 344, 3) := by decide +kernel
theorem dX11_hearersBy_36 : decode cX11_hearersBy 36 = .ok (.aload_n 0, 1) := by decide +kernel
theorem dX11_hearersBy_37 : decode cX11_hearersBy 37 = .ok (.getfield 51, 3) := by decide +kernel
theorem dX11_hearersBy_40 : decode cX11_hearersBy 40 = .ok (.aload_n 0, 1) := by decide +kernel
theorem dX11_hearersBy_41 : decode cX11_hearersBy 41 = .ok (.getfield 26, 3) := by decide +kernel
theorem dX11_hearersBy_44 : decode cX11_hearersBy 44 = .ok (.iload_n 1, 1) := by decide +kernel
theorem dX11_hearersBy_45 : decode cX11_hearersBy 45 = .ok (.aload_n 0, 1) := by decide +kernel
theorem dX11_hearersBy_46 : decode cX11_hearersBy 46 = .ok (.getfield 26, 3) := by decide +kernel
theorem dX11_hearersBy_49 : decode cX11_hearersBy 49 = .ok (.getfield 200, 3) := by decide +kernel
theorem dX11_hearersBy_52 : decode cX11_hearersBy 52 = .ok (.invokevirtual 190, 3) := by decide +kernel
theorem dX11_hearersBy_55 : decode cX11_hearersBy 55 = .ok (.ireturn, 1) := by decide +kernel
theorem mokX11_hearersBy : MOK yX11_hearersBy cX11_hearersBy 3 (some .int) 2 := ⟨w5_184, w1_1, ⟨by decide, by decide⟩, by decide +kernel, by decide⟩
abbrev miX11_hearersBy : MI := (yX11_hearersBy.cls, cX11_hearersBy, 3, 7, false)
noncomputable def BX11_hearersBy : Sm Int32 := (dSeq (dDo (dCallV 2 DX2_setAsTold (aR (aR aN 0 (dGR 3 1 (dGR 11 7 (vR 0)))) 1 (dGR 11 2 (vR 0))))) (dSeq (dP (fI 2 0) (dGR 3 1 (dGR 11 7 (vR 0))) (vI 2)) (dSeq (dDo (dCallV 3 DX3_fill (aR (aR aN 0 (dGR 11 7 (vR 0))) 1 (dGR 11 2 (vR 0))))) (dRet (dCallV 3 DX3_hearersOn (aI (aI (aR (aR aN 0 (dGR 11 7 (vR 0))) 1 (dGR 11 2 (vR 0))) 2 (vI 1)) 3 (dGI 5 1 (dGR 11 2 (vR 0)))))))))
theorem sBX11_hearersBy : SS (cvoI, .ireturn) miX11_hearersBy [] [] [] [(0, 2), (1, 0), (2, 0)] [(0, 2), (1, 0), (2, 0)] 0 [] BX11_hearersBy := (t_sq (p1 := 14) (Γ' := [(0, 2), (1, 0), (2, 0)]) (t_do (x_callV (ts := [(0, 2), (1, 2)]) ck2 rfl kX2_setAsTold mokX2_setAsTold w4_84 w4_85 rfl rfl rfl rfl (a_R (ts := [(0, 2)]) 1 (a_R (ts := []) 0 a_nil (s_getR ck3 1 (by decide) rfl (s_getR ck11 7 (by decide) rfl (s_aload_n dX11_hearersBy_0 rfl rfl) dX11_hearersBy_1 w2_225) dX11_hearersBy_4 w2_91) rfl) (s_getR ck11 2 (by decide) rfl (s_aload_n dX11_hearersBy_7 rfl rfl) dX11_hearersBy_8 w2_220) rfl) dX11_hearersBy_11 w4_83) rfl) (t_sq (p1 := 25) (Γ' := [(0, 2), (1, 0), (2, 0)]) (t_pI ck2 0 (by decide) rfl (Or.inl rfl) (s_getR ck3 1 (by decide) rfl (s_getR ck11 7 (by decide) rfl (s_aload_n dX11_hearersBy_14 rfl rfl) dX11_hearersBy_15 w2_225) dX11_hearersBy_18 w2_91) (s_iload_n dX11_hearersBy_21 rfl rfl) dX11_hearersBy_22 w2_27 rfl) (t_sq (p1 := 36) (Γ' := [(0, 2), (1, 0), (2, 0)]) (t_do (x_callV (ts := [(0, 2), (1, 2)]) ck3 rfl kX3_fill mokX3_fill w4_88 w4_89 rfl rfl rfl rfl (a_R (ts := [(0, 2)]) 1 (a_R (ts := []) 0 a_nil (s_getR ck11 7 (by decide) rfl (s_aload_n dX11_hearersBy_25 rfl rfl) dX11_hearersBy_26 w2_225) rfl) (s_getR ck11 2 (by decide) rfl (s_aload_n dX11_hearersBy_29 rfl rfl) dX11_hearersBy_30 w2_220) rfl) dX11_hearersBy_33 w4_87) rfl) (t_ret (cv := cvI) (fun _ _ => rfl) (s_of_xI (x_callV (ts := [(0, 2), (1, 2), (2, 0), (3, 0)]) ck3 rfl kX3_hearersOn mokX3_hearersOn w4_188 w4_189 rfl rfl rfl rfl (a_I (ts := [(0, 2), (1, 2), (2, 0)]) 3 (a_I (ts := [(0, 2), (1, 2)]) 2 (a_R (ts := [(0, 2)]) 1 (a_R (ts := []) 0 a_nil (s_getR ck11 7 (by decide) rfl (s_aload_n dX11_hearersBy_36 rfl rfl) dX11_hearersBy_37 w2_225) rfl) (s_getR ck11 2 (by decide) rfl (s_aload_n dX11_hearersBy_40 rfl rfl) dX11_hearersBy_41 w2_220) rfl) (s_iload_n dX11_hearersBy_44 rfl rfl) rfl) (s_getI ck5 1 (by decide) rfl (s_getR ck11 2 (by decide) rfl (s_aload_n dX11_hearersBy_45 rfl rfl) dX11_hearersBy_46 w2_220) dX11_hearersBy_49 w1_139) rfl) dX11_hearersBy_52 w4_187)) dX11_hearersBy_55))))
noncomputable def DX11_hearersBy : Fr → St → Option (Int32 × St) := M1 (fun f => (sI (sI (sR fr0 0 (gR f 0)) 1 (gI f 1)) 2 (gI f 2))) BX11_hearersBy
theorem kX11_hearersBy : SND yX11_hearersBy cX11_hearersBy 3 (some .int) 7 [(0, 2), (1, 0), (2, 0)] cvoI DX11_hearersBy := snd_I (nw := 3) (by decide) rfl rfl (fun _ _ => rfl) sBX11_hearersBy
theorem dX11_isLaw_0 : decode cX11_isLaw 0 = .ok (.iload_n 0, 1) := by decide +kernel
theorem dX11_isLaw_1 : decode cX11_isLaw 1 = .ok (.ifCond .lt 12, 3) := by decide +kernel
theorem dX11_isLaw_4 : decode cX11_isLaw 4 = .ok (.iload_n 0, 1) := by decide +kernel
theorem dX11_isLaw_5 : decode cX11_isLaw 5 = .ok (.iconst 4, 1) := by decide +kernel
theorem dX11_isLaw_6 : decode cX11_isLaw 6 = .ok (.if_icmp .ge 7, 3) := by decide +kernel
theorem dX11_isLaw_9 : decode cX11_isLaw 9 = .ok (.iconst 1, 1) := by decide +kernel
theorem dX11_isLaw_10 : decode cX11_isLaw 10 = .ok (.goto 4, 3) := by decide +kernel
theorem dX11_isLaw_13 : decode cX11_isLaw 13 = .ok (.iconst 0, 1) := by decide +kernel
theorem dX11_isLaw_14 : decode cX11_isLaw 14 = .ok (.ireturn, 1) := by decide +kernel
theorem mokX11_isLaw : MOK yX11_isLaw cX11_isLaw 1 (some .boolean) 1 := ⟨w5_180, w1_1, ⟨by decide, by decide⟩, by decide +kernel, by decide⟩
abbrev miX11_isLaw : MI := (yX11_isLaw.cls, cX11_isLaw, 1, 1, false)
noncomputable def BX11_isLaw : Sm Int32 := (dRet (dB (dAnd (dCZ q_ge (vI 0)) (dCI r_lt (vI 0) (cI 4)))))
theorem sBX11_isLaw : SS (cvoI, .ireturn) miX11_isLaw [] [] [] [(0, 0)] [(0, 0)] 0 [] BX11_isLaw := (t_ret (cv := cvI) (fun _ _ => rfl) (s_B (pT := 9) (pF := 13) (pe := 14) (c_and (p1 := 4) (pT := 9) (pF := 13) (c_ge_ZF (pF := 13) (s_iload_n dX11_isLaw_0 rfl rfl) dX11_isLaw_1 rfl) (c_lt_F (pF := 13) (s_iload_n dX11_isLaw_4 rfl rfl) (s_iconst dX11_isLaw_5 rfl) dX11_isLaw_6 rfl)) dX11_isLaw_9 dX11_isLaw_10 rfl dX11_isLaw_13 rfl) dX11_isLaw_14)
noncomputable def DX11_isLaw : Fr → St → Option (Int32 × St) := MZ (fun f => (sI fr0 0 (gI f 0))) BX11_isLaw
theorem kX11_isLaw : SND yX11_isLaw cX11_isLaw 1 (some .boolean) 1 [(0, 0)] cvoI DX11_isLaw := snd_Z (nw := 1) (by decide) rfl rfl (fun _ _ => rfl) sBX11_isLaw
theorem dX11_by_0 : decode cX11_by 0 = .ok (.aload_n 0, 1) := by decide +kernel
theorem dX11_by_1 : decode cX11_by 1 = .ok (.getfield 26, 3) := by decide +kernel
theorem dX11_by_4 : decode cX11_by 4 = .ok (.iload_n 1, 1) := by decide +kernel
theorem dX11_by_5 : decode cX11_by 5 = .ok (.invokevirtual 140, 3) := by decide +kernel
theorem dX11_by_8 : decode cX11_by 8 = .ok (.ifCond .eq 19, 3) := by decide +kernel
theorem dX11_by_11 : decode cX11_by 11 = .ok (.iload_n 2, 1) := by decide +kernel
theorem dX11_by_12 : decode cX11_by 12 = .ok (.invokestatic 308, 3) := by decide +kernel
theorem dX11_by_15 : decode cX11_by 15 = .ok (.ifCond .eq 12, 3) := by decide +kernel
theorem dX11_by_18 : decode cX11_by 18 = .ok (.aload_n 0, 1) := by decide +kernel
theorem dX11_by_19 : decode cX11_by 19 = .ok (.iload_n 1, 1) := by decide +kernel
theorem dX11_by_20 : decode cX11_by 20 = .ok (.iload_n 2, 1) := by decide +kernel
theorem dX11_by_21 : decode cX11_by 21 = .ok (.invokevirtual 311, 3) := by decide +kernel
theorem dX11_by_24 : decode cX11_by 24 = .ok (.goto 5, 3) := by decide +kernel
theorem dX11_by_27 : decode cX11_by 27 = .ok (.bipush (-2), 2) := by decide +kernel
theorem dX11_by_29 : decode cX11_by 29 = .ok (.ireturn, 1) := by decide +kernel
theorem mokX11_by : MOK yX11_by cX11_by 3 (some .int) 2 := ⟨w5_177, w1_1, ⟨by decide, by decide⟩, by decide +kernel, by decide⟩
abbrev miX11_by : MI := (yX11_by.cls, cX11_by, 3, 8, false)
noncomputable def BX11_by : Sm Int32 := (dRet (dT (dAnd (dCZ q_ne (dCallV 5 DX5_isSlate (aI (aR aN 0 (dGR 11 2 (vR 0))) 1 (vI 1)))) (dCZ q_ne (dCall DX11_isLaw (aI aN 0 (vI 2))))) (dCallV 11 DX11_hearersBy (aI (aI (aR aN 0 (vR 0)) 1 (vI 1)) 2 (vI 2))) (cI (-2))))
theorem sBX11_by : SS (cvoI, .ireturn) miX11_by [] [] [] [(0, 2), (1, 0), (2, 0)] [(0, 2), (1, 0), (2, 0)] 0 [] BX11_by := (t_ret (cv := cvI) (fun _ _ => rfl) (s_T (pT := 18) (pF := 27) (p1 := 24) (pe := 29) (c_and (p1 := 11) (pT := 18) (pF := 27) (c_ne_ZF (pF := 27) (s_of_xI (x_callV (ts := [(0, 2), (1, 0)]) ck5 rfl kX5_isSlate mokX5_isSlate w4_7 w4_8 rfl rfl rfl rfl (a_I (ts := [(0, 2)]) 1 (a_R (ts := []) 0 a_nil (s_getR ck11 2 (by decide) rfl (s_aload_n dX11_by_0 rfl rfl) dX11_by_1 w2_220) rfl) (s_iload_n dX11_by_4 rfl rfl) rfl) dX11_by_5 w4_6)) dX11_by_8 rfl) (c_ne_ZF (pF := 27) (s_of_xI (x_call (ts := [(0, 0)]) kX11_isLaw mokX11_isLaw w5_179 rfl rfl rfl (a_I (ts := []) 0 a_nil (s_iload_n dX11_by_11 rfl rfl) rfl) dX11_by_12 w5_178)) dX11_by_15 rfl)) (s_of_xI (x_callV (ts := [(0, 2), (1, 0), (2, 0)]) ck11 rfl kX11_hearersBy mokX11_hearersBy w5_183 ps3_0 rfl rfl rfl rfl (a_I (ts := [(0, 2), (1, 0)]) 2 (a_I (ts := [(0, 2)]) 1 (a_R (ts := []) 0 a_nil (s_aload_n dX11_by_18 rfl rfl) rfl) (s_iload_n dX11_by_19 rfl rfl) rfl) (s_iload_n dX11_by_20 rfl rfl) rfl) dX11_by_21 w5_181)) (s_bipush dX11_by_27 rfl) (ld_goto (y := 29) dX11_by_24 rfl (ld_in rfl))) dX11_by_29)
noncomputable def DX11_by : Fr → St → Option (Int32 × St) := M1 (fun f => (sI (sI (sR fr0 0 (gR f 0)) 1 (gI f 1)) 2 (gI f 2))) BX11_by
theorem kX11_by : SND yX11_by cX11_by 3 (some .int) 8 [(0, 2), (1, 0), (2, 0)] cvoI DX11_by := snd_I (nw := 3) (by decide) rfl rfl (fun _ _ => rfl) sBX11_by
theorem dX11_law_0 : decode cX11_law 0 = .ok (.aload_n 0, 1) := by decide +kernel
theorem dX11_law_1 : decode cX11_law 1 = .ok (.getfield 26, 3) := by decide +kernel
theorem dX11_law_4 : decode cX11_law 4 = .ok (.iload_n 1, 1) := by decide +kernel
theorem dX11_law_5 : decode cX11_law 5 = .ok (.invokevirtual 140, 3) := by decide +kernel
theorem dX11_law_8 : decode cX11_law 8 = .ok (.ifCond .ne 6, 3) := by decide +kernel
theorem dX11_law_11 : decode cX11_law 11 = .ok (.bipush (-2), 2) := by decide +kernel
theorem dX11_law_13 : decode cX11_law 13 = .ok (.ireturn, 1) := by decide +kernel
theorem dX11_law_14 : decode cX11_law 14 = .ok (.iconst 0, 1) := by decide +kernel
theorem dX11_law_15 : decode cX11_law 15 = .ok (.istore_n 2, 1) := by decide +kernel
theorem dX11_law_16 : decode cX11_law 16 = .ok (.iconst (-1), 1) := by decide +kernel
theorem dX11_law_17 : decode cX11_law 17 = .ok (.istore_n 3, 1) := by decide +kernel
theorem dX11_law_18 : decode cX11_law 18 = .ok (.iconst 0, 1) := by decide +kernel
theorem dX11_law_19 : decode cX11_law 19 = .ok (.istore 4, 2) := by decide +kernel
theorem dX11_law_21 : decode cX11_law 21 = .ok (.iload 4, 2) := by decide +kernel
theorem dX11_law_23 : decode cX11_law 23 = .ok (.iconst 4, 1) := by decide +kernel
theorem dX11_law_24 : decode cX11_law 24 = .ok (.if_icmp .ge 33, 3) := by decide +kernel
theorem dX11_law_27 : decode cX11_law 27 = .ok (.aload_n 0, 1) := by decide +kernel
theorem dX11_law_28 : decode cX11_law 28 = .ok (.iload_n 1, 1) := by decide +kernel
theorem dX11_law_29 : decode cX11_law 29 = .ok (.iload 4, 2) := by decide +kernel
theorem dX11_law_31 : decode cX11_law 31 = .ok (.invokevirtual 311, 3) := by decide +kernel
theorem dX11_law_34 : decode cX11_law 34 = .ok (.invokestatic 243, 3) := by decide +kernel
theorem dX11_law_37 : decode cX11_law 37 = .ok (.istore 5, 2) := by decide +kernel
theorem dX11_law_39 : decode cX11_law 39 = .ok (.iload 5, 2) := by decide +kernel
theorem dX11_law_41 : decode cX11_law 41 = .ok (.iload_n 3, 1) := by decide +kernel
theorem dX11_law_42 : decode cX11_law 42 = .ok (.if_icmp .le 9, 3) := by decide +kernel
theorem dX11_law_45 : decode cX11_law 45 = .ok (.iload 5, 2) := by decide +kernel
theorem dX11_law_47 : decode cX11_law 47 = .ok (.istore_n 3, 1) := by decide +kernel
theorem dX11_law_48 : decode cX11_law 48 = .ok (.iload 4, 2) := by decide +kernel
theorem dX11_law_50 : decode cX11_law 50 = .ok (.istore_n 2, 1) := by decide +kernel
theorem dX11_law_51 : decode cX11_law 51 = .ok (.iinc 4 1, 3) := by decide +kernel
theorem dX11_law_54 : decode cX11_law 54 = .ok (.goto (-33), 3) := by decide +kernel
theorem dX11_law_57 : decode cX11_law 57 = .ok (.iload_n 2, 1) := by decide +kernel
theorem dX11_law_58 : decode cX11_law 58 = .ok (.ireturn, 1) := by decide +kernel
theorem mokX11_law : MOK yX11_law cX11_law 6 (some .int) 1 := ⟨w5_188, w1_1, ⟨by decide, by decide⟩, by decide +kernel, by decide⟩
abbrev miX11_law : MI := (yX11_law.cls, cX11_law, 6, 8, false)
noncomputable def LX11_law_1 : Sm Int32 := dLoop (fun f => (sI (sI (sI (sI (sR fr0 0 (gR f 0)) 1 (gI f 1)) 2 (gI f 2)) 3 (gI f 3)) 4 (gI f 4))) (dCI r_lt (vI 4) (cI 4)) (dSeq (dSetI 5 (dCall DJ6_bitCount_0f7a4 (aI aN 0 (dCallV 11 DX11_hearersBy (aI (aI (aR aN 0 (vR 0)) 1 (vI 1)) 2 (vI 4)))))) (dIf (dCI r_gt (vI 5) (vI 3)) (dSeq (dSetI 3 (vI 5)) (dSetI 2 (vI 4))) dSkip)) (dInc 4 1)
theorem sLX11_law_1 {ΓL : Gm} {PB PK : List Nat} : SS (cvoI, .ireturn) miX11_law ΓL PB PK [(0, 2), (1, 0), (2, 0), (3, 0), (4, 0)] [(0, 2), (1, 0), (2, 0), (3, 0), (4, 0)] 21 [57] LX11_law_1 := t_loop (pT := 27) (pF := 57) (pu := 51) (PB' := []) (PK' := []) (XB := [51]) (XU := [54]) (fun _ _ => rfl) rfl (c_lt_F (pF := 57) (s_iload dX11_law_21 rfl) (s_iconst dX11_law_23 rfl) dX11_law_24 rfl) (t_sq (p1 := 39) (Γ' := [(0, 2), (1, 0), (2, 0), (3, 0), (4, 0), (5, 0)]) (t_istore (s_of_xI (x_call (ts := [(0, 0)]) kJ6_bitCount_0f7a4 mokJ6_bitCount_0f7a4 w5_28 rfl rfl rfl (a_I (ts := []) 0 a_nil (s_of_xI (x_callV (ts := [(0, 2), (1, 0), (2, 0)]) ck11 rfl kX11_hearersBy mokX11_hearersBy w5_183 ps3_0 rfl rfl rfl rfl (a_I (ts := [(0, 2), (1, 0)]) 2 (a_I (ts := [(0, 2)]) 1 (a_R (ts := []) 0 a_nil (s_aload_n dX11_law_27 rfl rfl) rfl) (s_iload_n dX11_law_28 rfl rfl) rfl) (s_iload dX11_law_29 rfl) rfl) dX11_law_31 w5_181)) rfl) dX11_law_34 w5_27)) dX11_law_37 rfl rfl) (t_if (pT := 45) (pF := 51) (X := [51]) (XA := [51]) (XB := [51]) (c_gt_F (pF := 51) (s_iload dX11_law_39 rfl) (s_iload_n dX11_law_41 rfl rfl) dX11_law_42 rfl) (t_sq (p1 := 48) (Γ' := [(0, 2), (1, 0), (2, 0), (3, 0), (4, 0), (5, 0)]) (t_istore_n (s_iload dX11_law_45 rfl) dX11_law_47 rfl rfl rfl) (t_istore_n (s_iload dX11_law_48 rfl) dX11_law_50 rfl rfl rfl)) (t_skip (ld_in rfl) rfl) (lda_cons (ld_in rfl) lda_nil) (lda_cons (ld_in rfl) lda_nil))) (t_iinc dX11_law_51 rfl rfl rfl rfl) (lda_cons (ld_in rfl) lda_nil) lda_nil (lda_cons (ld_goto (y := 21) dX11_law_54 rfl (ld_in rfl)) lda_nil) (ld_in rfl) lda_nil
noncomputable def BX11_law : Sm Int32 := (dSeq (dIf (dNot (dCZ q_ne (dCallV 5 DX5_isSlate (aI (aR aN 0 (dGR 11 2 (vR 0))) 1 (vI 1))))) (dRet (cI (-2))) dSkip) (dSeq (dSetI 2 (cI 0)) (dSeq (dSetI 3 (cI (-1))) (dSeq (dSeq (dSetI 4 (cI 0)) LX11_law_1) (dRet (vI 2))))))
theorem sBX11_law : SS (cvoI, .ireturn) miX11_law [] [] [] [(0, 2), (1, 0)] [(0, 2), (1, 0)] 0 [] BX11_law := (t_sq (p1 := 14) (Γ' := [(0, 2), (1, 0)]) (t_if (pT := 11) (pF := 14) (X := [14]) (XA := []) (XB := [14]) (c_not (pT := 11) (pF := 14) (c_ne_ZJ (pT := 14) (s_of_xI (x_callV (ts := [(0, 2), (1, 0)]) ck5 rfl kX5_isSlate mokX5_isSlate w4_7 w4_8 rfl rfl rfl rfl (a_I (ts := [(0, 2)]) 1 (a_R (ts := []) 0 a_nil (s_getR ck11 2 (by decide) rfl (s_aload_n dX11_law_0 rfl rfl) dX11_law_1 w2_220) rfl) (s_iload_n dX11_law_4 rfl rfl) rfl) dX11_law_5 w4_6)) dX11_law_8 rfl)) (t_ret (cv := cvI) (fun _ _ => rfl) (s_bipush dX11_law_11 rfl) dX11_law_13) (t_skip (ld_in rfl) rfl) lda_nil (lda_cons (ld_in rfl) lda_nil)) (t_sq (p1 := 16) (Γ' := [(0, 2), (1, 0), (2, 0)]) (t_istore_n (s_iconst dX11_law_14 rfl) dX11_law_15 rfl rfl rfl) (t_sq (p1 := 18) (Γ' := [(0, 2), (1, 0), (2, 0), (3, 0)]) (t_istore_n (s_iconst dX11_law_16 rfl) dX11_law_17 rfl rfl rfl) (t_sq (p1 := 57) (Γ' := [(0, 2), (1, 0), (2, 0), (3, 0)]) (t_sq (p1 := 21) (Γ' := [(0, 2), (1, 0), (2, 0), (3, 0), (4, 0)]) (t_istore (s_iconst dX11_law_18 rfl) dX11_law_19 rfl rfl) (tn_to (Γ' := [(0, 2), (1, 0), (2, 0), (3, 0), (4, 0)]) (XA := [57]) sLX11_law_1 (lda_cons (ld_in rfl) lda_nil) rfl)) (t_ret (cv := cvI) (fun _ _ => rfl) (s_iload_n dX11_law_57 rfl rfl) dX11_law_58)))))
noncomputable def DX11_law : Fr → St → Option (Int32 × St) := M1 (fun f => (sI (sR fr0 0 (gR f 0)) 1 (gI f 1))) BX11_law
theorem kX11_law : SND yX11_law cX11_law 6 (some .int) 8 [(0, 2), (1, 0)] cvoI DX11_law := snd_I (nw := 2) (by decide) rfl rfl (fun _ _ => rfl) sBX11_law
