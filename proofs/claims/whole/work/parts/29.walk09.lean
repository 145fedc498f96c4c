theorem dX12_brings_0 : decode cX12_brings 0 = .ok (.aload_n 0, 1) := by decide +kernel
theorem dX12_brings_1 : decode cX12_brings 1 = .ok (.iconst 0, 1) := by decide +kernel
theorem dX12_brings_2 : decode cX12_brings 2 = .ok (.putfield 122, 3) := by decide +kernel
theorem dX12_brings_5 : decode cX12_brings 5 = .ok (.aload_n 0, 1) := by decide +kernel
theorem dX12_brings_6 : decode cX12_brings 6 = .ok (.iload_n 1, 1) := by decide +kernel
theorem dX12_brings_7 : decode cX12_brings 7 = .ok (.iload_n 2, 1) := by decide +kernel
theorem dX12_brings_8 : decode cX12_brings 8 = .ok (.iload_n 3, 1) := by decide +kernel
theorem dX12_brings_9 : decode cX12_brings 9 = .ok (.invokevirtual 409, 3) := by decide +kernel
theorem dX12_brings_12 : decode cX12_brings 12 = .ok (.ifCond .eq 15, 3) := by decide +kernel
theorem dX12_brings_15 : decode cX12_brings 15 = .ok (.aload_n 0, 1) := by decide +kernel
theorem dX12_brings_16 : decode cX12_brings 16 = .ok (.iconst 1, 1) := by decide +kernel
theorem dX12_brings_17 : decode cX12_brings 17 = .ok (.iload_n 1, 1) := by decide +kernel
theorem dX12_brings_18 : decode cX12_brings 18 = .ok (.ishl, 1) := by decide +kernel
theorem dX12_brings_19 : decode cX12_brings 19 = .ok (.iload_n 2, 1) := by decide +kernel
theorem dX12_brings_20 : decode cX12_brings 20 = .ok (.iload_n 3, 1) := by decide +kernel
theorem dX12_brings_21 : decode cX12_brings 21 = .ok (.invokevirtual 412, 3) := by decide +kernel
theorem dX12_brings_24 : decode cX12_brings 24 = .ok (.goto 5, 3) := by decide +kernel
theorem dX12_brings_27 : decode cX12_brings 27 = .ok (.bipush (-2), 2) := by decide +kernel
theorem dX12_brings_29 : decode cX12_brings 29 = .ok (.ireturn, 1) := by decide +kernel
theorem mokX12_brings : MOK yX12_brings cX12_brings 4 (some .int) 3 := ⟨w9_28, w1_13, ⟨by decide, by decide⟩, by decide +kernel, by decide⟩
abbrev miX12_brings : MI := (yX12_brings.cls, cX12_brings, 4, 5, false)
noncomputable def BX12_brings : Sm Int32 := (dSeq (dP (fI 12 0) (vR 0) (cI 0)) (dRet (dT (dCZ q_ne (dCallV 12 DX12_areThree (aI (aI (aI (aR aN 0 (vR 0)) 1 (vI 1)) 2 (vI 2)) 3 (vI 3)))) (dCallV 12 DX12_cartOf (aI (aI (aI (aR aN 0 (vR 0)) 1 (d2 o_ishl (cI 1) (vI 1))) 2 (vI 2)) 3 (vI 3))) (cI (-2)))))
theorem sBX12_brings : SS (cvoI, .ireturn) miX12_brings [] [] [] [(0, 2), (1, 0), (2, 0), (3, 0)] [(0, 2), (1, 0), (2, 0), (3, 0)] 0 [] BX12_brings := (t_sq (p1 := 5) (Γ' := [(0, 2), (1, 0), (2, 0), (3, 0)]) (t_pI ck12 0 (by decide) rfl (Or.inl rfl) (s_aload_n dX12_brings_0 rfl rfl) (s_iconst dX12_brings_1 rfl) dX12_brings_2 w6_205 rfl) (t_ret (cv := cvI) (fun _ _ => rfl) (s_T (pT := 15) (pF := 27) (p1 := 24) (pe := 29) (c_ne_ZF (pF := 27) (s_of_xI (x_callV (ts := [(0, 2), (1, 0), (2, 0), (3, 0)]) ck12 rfl kX12_areThree mokX12_areThree w9_31 ps6_10 rfl rfl rfl rfl (a_I (ts := [(0, 2), (1, 0), (2, 0)]) 3 (a_I (ts := [(0, 2), (1, 0)]) 2 (a_I (ts := [(0, 2)]) 1 (a_R (ts := []) 0 a_nil (s_aload_n dX12_brings_5 rfl rfl) rfl) (s_iload_n dX12_brings_6 rfl rfl) rfl) (s_iload_n dX12_brings_7 rfl rfl) rfl) (s_iload_n dX12_brings_8 rfl rfl) rfl) dX12_brings_9 w9_29)) dX12_brings_12 rfl) (s_of_xI (x_callV (ts := [(0, 2), (1, 0), (2, 0), (3, 0)]) ck12 rfl kX12_cartOf mokX12_cartOf w9_35 ps6_11 rfl rfl rfl rfl (a_I (ts := [(0, 2), (1, 0), (2, 0)]) 3 (a_I (ts := [(0, 2), (1, 0)]) 2 (a_I (ts := [(0, 2)]) 1 (a_R (ts := []) 0 a_nil (s_aload_n dX12_brings_15 rfl rfl) rfl) (s_ishl (s_iconst dX12_brings_16 rfl) (s_iload_n dX12_brings_17 rfl rfl) dX12_brings_18) rfl) (s_iload_n dX12_brings_19 rfl rfl) rfl) (s_iload_n dX12_brings_20 rfl rfl) rfl) dX12_brings_21 w9_33)) (s_bipush dX12_brings_27 rfl) (ld_goto (y := 29) dX12_brings_24 rfl (ld_in rfl))) dX12_brings_29))
noncomputable def DX12_brings : Fr → St → Option (Int32 × St) := M1 (fun f => (sI (sI (sI (sR fr0 0 (gR f 0)) 1 (gI f 1)) 2 (gI f 2)) 3 (gI f 3))) BX12_brings
theorem kX12_brings : SND yX12_brings cX12_brings 4 (some .int) 5 [(0, 2), (1, 0), (2, 0), (3, 0)] cvoI DX12_brings := snd_I (nw := 4) (by decide) rfl rfl (fun _ _ => rfl) sBX12_brings
theorem dX12_saves_0 : decode cX12_saves 0 = .ok (.aload_n 0, 1) := by decide +kernel
theorem dX12_saves_1 : decode cX12_saves 1 = .ok (.iconst 0, 1) := by decide +kernel
theorem dX12_saves_2 : decode cX12_saves 2 = .ok (.putfield 122, 3) := by decide +kernel
theorem dX12_saves_5 : decode cX12_saves 5 = .ok (.aload_n 0, 1) := by decide +kernel
theorem dX12_saves_6 : decode cX12_saves 6 = .ok (.iload_n 1, 1) := by decide +kernel
theorem dX12_saves_7 : decode cX12_saves 7 = .ok (.iload_n 2, 1) := by decide +kernel
theorem dX12_saves_8 : decode cX12_saves 8 = .ok (.iload_n 3, 1) := by decide +kernel
theorem dX12_saves_9 : decode cX12_saves 9 = .ok (.invokevirtual 409, 3) := by decide +kernel
theorem dX12_saves_12 : decode cX12_saves 12 = .ok (.ifCond .ne 6, 3) := by decide +kernel
theorem dX12_saves_15 : decode cX12_saves 15 = .ok (.bipush (-2), 2) := by decide +kernel
theorem dX12_saves_17 : decode cX12_saves 17 = .ok (.ireturn, 1) := by decide +kernel
theorem dX12_saves_18 : decode cX12_saves 18 = .ok (.aload_n 0, 1) := by decide +kernel
theorem dX12_saves_19 : decode cX12_saves 19 = .ok (.iload_n 2, 1) := by decide +kernel
theorem dX12_saves_20 : decode cX12_saves 20 = .ok (.aload_n 0, 1) := by decide +kernel
theorem dX12_saves_21 : decode cX12_saves 21 = .ok (.getfield 43, 3) := by decide +kernel
theorem dX12_saves_24 : decode cX12_saves 24 = .ok (.iconst 2, 1) := by decide +kernel
theorem dX12_saves_25 : decode cX12_saves 25 = .ok (.iload_n 1, 1) := by decide +kernel
theorem dX12_saves_26 : decode cX12_saves 26 = .ok (.imul, 1) := by decide +kernel
theorem dX12_saves_27 : decode cX12_saves 27 = .ok (.iconst 1, 1) := by decide +kernel
theorem dX12_saves_28 : decode cX12_saves 28 = .ok (.iadd, 1) := by decide +kernel
theorem dX12_saves_29 : decode cX12_saves 29 = .ok (.iaload, 1) := by decide +kernel
theorem dX12_saves_30 : decode cX12_saves 30 = .ok (.invokevirtual 403, 3) := by decide +kernel
theorem dX12_saves_33 : decode cX12_saves 33 = .ok (.iload_n 3, 1) := by decide +kernel
theorem dX12_saves_34 : decode cX12_saves 34 = .ok (.aload_n 0, 1) := by decide +kernel
theorem dX12_saves_35 : decode cX12_saves 35 = .ok (.getfield 65, 3) := by decide +kernel
theorem dX12_saves_38 : decode cX12_saves 38 = .ok (.iload_n 2, 1) := by decide +kernel
theorem dX12_saves_39 : decode cX12_saves 39 = .ok (.iaload, 1) := by decide +kernel
theorem dX12_saves_40 : decode cX12_saves 40 = .ok (.if_icmp .ne 13, 3) := by decide +kernel
theorem dX12_saves_43 : decode cX12_saves 43 = .ok (.aload_n 0, 1) := by decide +kernel
theorem dX12_saves_44 : decode cX12_saves 44 = .ok (.getfield 110, 3) := by decide +kernel
theorem dX12_saves_47 : decode cX12_saves 47 = .ok (.iconst 0, 1) := by decide +kernel
theorem dX12_saves_48 : decode cX12_saves 48 = .ok (.iaload, 1) := by decide +kernel
theorem dX12_saves_49 : decode cX12_saves 49 = .ok (.invokestatic 394, 3) := by decide +kernel
theorem dX12_saves_52 : decode cX12_saves 52 = .ok (.ireturn, 1) := by decide +kernel
theorem dX12_saves_53 : decode cX12_saves 53 = .ok (.iconst (-1), 1) := by decide +kernel
theorem dX12_saves_54 : decode cX12_saves 54 = .ok (.istore 4, 2) := by decide +kernel
theorem dX12_saves_56 : decode cX12_saves 56 = .ok (.iconst 0, 1) := by decide +kernel
theorem dX12_saves_57 : decode cX12_saves 57 = .ok (.istore 5, 2) := by decide +kernel
theorem dX12_saves_59 : decode cX12_saves 59 = .ok (.iload 5, 2) := by decide +kernel
theorem dX12_saves_61 : decode cX12_saves 61 = .ok (.sipush 256, 3) := by decide +kernel
theorem dX12_saves_64 : decode cX12_saves 64 = .ok (.if_icmp .ge 63, 3) := by decide +kernel
theorem dX12_saves_67 : decode cX12_saves 67 = .ok (.aload_n 0, 1) := by decide +kernel
theorem dX12_saves_68 : decode cX12_saves 68 = .ok (.getfield 113, 3) := by decide +kernel
theorem dX12_saves_71 : decode cX12_saves 71 = .ok (.sipush 256, 3) := by decide +kernel
theorem dX12_saves_74 : decode cX12_saves 74 = .ok (.iload_n 3, 1) := by decide +kernel
theorem dX12_saves_75 : decode cX12_saves 75 = .ok (.imul, 1) := by decide +kernel
theorem dX12_saves_76 : decode cX12_saves 76 = .ok (.iload 5, 2) := by decide +kernel
theorem dX12_saves_78 : decode cX12_saves 78 = .ok (.iadd, 1) := by decide +kernel
theorem dX12_saves_79 : decode cX12_saves 79 = .ok (.iaload, 1) := by decide +kernel
theorem dX12_saves_80 : decode cX12_saves 80 = .ok (.ldc 172, 2) := by decide +kernel
theorem dX12_saves_82 : decode cX12_saves 82 = .ok (.if_icmp .lt 6, 3) := by decide +kernel
theorem dX12_saves_85 : decode cX12_saves 85 = .ok (.goto 36, 3) := by decide +kernel
theorem dX12_saves_88 : decode cX12_saves 88 = .ok (.aload_n 0, 1) := by decide +kernel
theorem dX12_saves_89 : decode cX12_saves 89 = .ok (.getfield 110, 3) := by decide +kernel
theorem dX12_saves_92 : decode cX12_saves 92 = .ok (.iload 5, 2) := by decide +kernel
theorem dX12_saves_94 : decode cX12_saves 94 = .ok (.invokestatic 394, 3) := by decide +kernel
theorem dX12_saves_97 : decode cX12_saves 97 = .ok (.iconst 2, 1) := by decide +kernel
theorem dX12_saves_98 : decode cX12_saves 98 = .ok (.isub, 1) := by decide +kernel
theorem dX12_saves_99 : decode cX12_saves 99 = .ok (.iaload, 1) := by decide +kernel
theorem dX12_saves_100 : decode cX12_saves 100 = .ok (.invokestatic 394, 3) := by decide +kernel
theorem dX12_saves_103 : decode cX12_saves 103 = .ok (.istore 6, 2) := by decide +kernel
theorem dX12_saves_105 : decode cX12_saves 105 = .ok (.iload 6, 2) := by decide +kernel
theorem dX12_saves_107 : decode cX12_saves 107 = .ok (.iload 4, 2) := by decide +kernel
theorem dX12_saves_109 : decode cX12_saves 109 = .ok (.if_icmp .le 8, 3) := by decide +kernel
theorem dX12_saves_112 : decode cX12_saves 112 = .ok (.iload 6, 2) := by decide +kernel
theorem dX12_saves_114 : decode cX12_saves 114 = .ok (.goto 5, 3) := by decide +kernel
theorem dX12_saves_117 : decode cX12_saves 117 = .ok (.iload 4, 2) := by decide +kernel
theorem dX12_saves_119 : decode cX12_saves 119 = .ok (.istore 4, 2) := by decide +kernel
theorem dX12_saves_121 : decode cX12_saves 121 = .ok (.iinc 5 1, 3) := by decide +kernel
theorem dX12_saves_124 : decode cX12_saves 124 = .ok (.goto (-65), 3) := by decide +kernel
theorem dX12_saves_127 : decode cX12_saves 127 = .ok (.iload 4, 2) := by decide +kernel
theorem dX12_saves_129 : decode cX12_saves 129 = .ok (.ireturn, 1) := by decide +kernel
theorem mokX12_saves : MOK yX12_saves cX12_saves 7 (some .int) 3 := ⟨w9_52, w1_13, ⟨by decide, by decide⟩, by decide +kernel, by decide⟩
abbrev miX12_saves : MI := (yX12_saves.cls, cX12_saves, 7, 4, false)
noncomputable def LX12_saves_1 : Sm Int32 := dLoop (fun f => (sI (sI (sI (sI (sI (sR fr0 0 (gR f 0)) 1 (gI f 1)) 2 (gI f 2)) 3 (gI f 3)) 4 (gI f 4)) 5 (gI f 5))) (dCI r_lt (vI 5) (cI 256)) (dSeq (dIf (dCI r_ge (dAI (dGR 12 49 (vR 0)) (d2 o_iadd (d2 o_imul (cI 256) (vI 3)) (vI 5))) (cI 100000)) dCnt dSkip) (dSeq (dSetI 6 (dCall DX12_sizeOf (aI aN 0 (dAI (dGR 12 48 (vR 0)) (d2 o_isub (dCall DX12_sizeOf (aI aN 0 (vI 5))) (cI 2)))))) (dSetI 4 (dT (dCI r_gt (vI 6) (vI 4)) (vI 6) (vI 4))))) (dInc 5 1)
theorem sLX12_saves_1 {ΓL : Gm} {PB PK : List Nat} : SS (cvoI, .ireturn) miX12_saves ΓL PB PK [(0, 2), (1, 0), (2, 0), (3, 0), (4, 0), (5, 0)] [(0, 2), (1, 0), (2, 0), (3, 0), (4, 0), (5, 0)] 59 [127] LX12_saves_1 := t_loop (pT := 67) (pF := 127) (pu := 121) (PB' := []) (PK' := [121]) (XB := [121]) (XU := [124]) (fun _ _ => rfl) rfl (c_lt_F (pF := 127) (s_iload dX12_saves_59 rfl) (s_sipush dX12_saves_61 rfl) dX12_saves_64 rfl) (t_sq (p1 := 88) (Γ' := [(0, 2), (1, 0), (2, 0), (3, 0), (4, 0), (5, 0)]) (t_if (pT := 85) (pF := 88) (X := [88]) (XA := []) (XB := [88]) (c_ge_F (pF := 88) (s_dAI (s_getR ck12 49 (by decide) rfl (s_aload_n dX12_saves_67 rfl rfl) dX12_saves_68 w7_14) (s_iadd (s_imul (s_sipush dX12_saves_71 rfl) (s_iload_n dX12_saves_74 rfl rfl) dX12_saves_75) (s_iload dX12_saves_76 rfl) dX12_saves_78) dX12_saves_79) (s_ldc dX12_saves_80 w7_197) dX12_saves_82 rfl) (t_cnt (ld_goto (y := 121) dX12_saves_85 rfl (ld_in rfl)) rfl) (t_skip (ld_in rfl) rfl) lda_nil (lda_cons (ld_in rfl) lda_nil)) (t_sq (p1 := 105) (Γ' := [(0, 2), (1, 0), (2, 0), (3, 0), (4, 0), (5, 0), (6, 0)]) (t_istore (s_of_xI (x_call (ts := [(0, 0)]) kX12_sizeOf mokX12_sizeOf w9_11 rfl rfl rfl (a_I (ts := []) 0 a_nil (s_dAI (s_getR ck12 48 (by decide) rfl (s_aload_n dX12_saves_88 rfl rfl) dX12_saves_89 w7_13) (s_isub (s_of_xI (x_call (ts := [(0, 0)]) kX12_sizeOf mokX12_sizeOf w9_11 rfl rfl rfl (a_I (ts := []) 0 a_nil (s_iload dX12_saves_92 rfl) rfl) dX12_saves_94 w9_10)) (s_iconst dX12_saves_97 rfl) dX12_saves_98) dX12_saves_99) rfl) dX12_saves_100 w9_10)) dX12_saves_103 rfl rfl) (t_istore (s_T (pT := 112) (pF := 117) (p1 := 114) (pe := 119) (c_gt_F (pF := 117) (s_iload dX12_saves_105 rfl) (s_iload dX12_saves_107 rfl) dX12_saves_109 rfl) (s_iload dX12_saves_112 rfl) (s_iload dX12_saves_117 rfl) (ld_goto (y := 119) dX12_saves_114 rfl (ld_in rfl))) dX12_saves_119 rfl rfl))) (t_iinc dX12_saves_121 rfl rfl rfl rfl) (lda_cons (ld_in rfl) lda_nil) (lda_cons (ld_in rfl) lda_nil) (lda_cons (ld_goto (y := 59) dX12_saves_124 rfl (ld_in rfl)) lda_nil) (ld_in rfl) lda_nil
noncomputable def BX12_saves : Sm Int32 := (dSeq (dP (fI 12 0) (vR 0) (cI 0)) (dSeq (dIf (dNot (dCZ q_ne (dCallV 12 DX12_areThree (aI (aI (aI (aR aN 0 (vR 0)) 1 (vI 1)) 2 (vI 2)) 3 (vI 3))))) (dRet (cI (-2))) dSkip) (dSeq (dDo (dCallV 12 DX12_laysAlone (aI (aI (aR aN 0 (vR 0)) 1 (vI 2)) 2 (dAI (dGR 12 20 (vR 0)) (d2 o_iadd (d2 o_imul (cI 2) (vI 1)) (cI 1)))))) (dSeq (dIf (dCI r_eq (vI 3) (dAI (dGR 12 31 (vR 0)) (vI 2))) (dRet (dCall DX12_sizeOf (aI aN 0 (dAI (dGR 12 48 (vR 0)) (cI 0))))) dSkip) (dSeq (dSetI 4 (cI (-1))) (dSeq (dSeq (dSetI 5 (cI 0)) LX12_saves_1) (dRet (vI 4))))))))
theorem sBX12_saves : SS (cvoI, .ireturn) miX12_saves [] [] [] [(0, 2), (1, 0), (2, 0), (3, 0)] [(0, 2), (1, 0), (2, 0), (3, 0)] 0 [] BX12_saves := (t_sq (p1 := 5) (Γ' := [(0, 2), (1, 0), (2, 0), (3, 0)]) (t_pI ck12 0 (by decide) rfl (Or.inl rfl) (s_aload_n dX12_saves_0 rfl rfl) (s_iconst dX12_saves_1 rfl) dX12_saves_2 w6_205 rfl) (t_sq (p1 := 18) (Γ' := [(0, 2), (1, 0), (2, 0), (3, 0)]) (t_if (pT := 15) (pF := 18) (X := [18]) (XA := []) (XB := [18]) (c_not (pT := 15) (pF := 18) (c_ne_ZJ (pT := 18) (s_of_xI (x_callV (ts := [(0, 2), (1, 0), (2, 0), (3, 0)]) ck12 rfl kX12_areThree mokX12_areThree w9_31 ps6_10 rfl rfl rfl rfl (a_I (ts := [(0, 2), (1, 0), (2, 0)]) 3 (a_I (ts := [(0, 2), (1, 0)]) 2 (a_I (ts := [(0, 2)]) 1 (a_R (ts := []) 0 a_nil (s_aload_n dX12_saves_5 rfl rfl) rfl) (s_iload_n dX12_saves_6 rfl rfl) rfl) (s_iload_n dX12_saves_7 rfl rfl) rfl) (s_iload_n dX12_saves_8 rfl rfl) rfl) dX12_saves_9 w9_29)) dX12_saves_12 rfl)) (t_ret (cv := cvI) (fun _ _ => rfl) (s_bipush dX12_saves_15 rfl) dX12_saves_17) (t_skip (ld_in rfl) rfl) lda_nil (lda_cons (ld_in rfl) lda_nil)) (t_sq (p1 := 33) (Γ' := [(0, 2), (1, 0), (2, 0), (3, 0)]) (t_do (x_callV (ts := [(0, 2), (1, 0), (2, 0)]) ck12 rfl kX12_laysAlone mokX12_laysAlone w9_43 ps6_13 rfl rfl rfl rfl (a_I (ts := [(0, 2), (1, 0)]) 2 (a_I (ts := [(0, 2)]) 1 (a_R (ts := []) 0 a_nil (s_aload_n dX12_saves_18 rfl rfl) rfl) (s_iload_n dX12_saves_19 rfl rfl) rfl) (s_dAI (s_getR ck12 20 (by decide) rfl (s_aload_n dX12_saves_20 rfl rfl) dX12_saves_21 w6_225) (s_iadd (s_imul (s_iconst dX12_saves_24 rfl) (s_iload_n dX12_saves_25 rfl rfl) dX12_saves_26) (s_iconst dX12_saves_27 rfl) dX12_saves_28) dX12_saves_29) rfl) dX12_saves_30 w9_41) rfl) (t_sq (p1 := 53) (Γ' := [(0, 2), (1, 0), (2, 0), (3, 0)]) (t_if (pT := 43) (pF := 53) (X := [53]) (XA := []) (XB := [53]) (c_eq_F (pF := 53) (s_iload_n dX12_saves_33 rfl rfl) (s_dAI (s_getR ck12 31 (by decide) rfl (s_aload_n dX12_saves_34 rfl rfl) dX12_saves_35 w6_236) (s_iload_n dX12_saves_38 rfl rfl) dX12_saves_39) dX12_saves_40 rfl) (t_ret (cv := cvI) (fun _ _ => rfl) (s_of_xI (x_call (ts := [(0, 0)]) kX12_sizeOf mokX12_sizeOf w9_11 rfl rfl rfl (a_I (ts := []) 0 a_nil (s_dAI (s_getR ck12 48 (by decide) rfl (s_aload_n dX12_saves_43 rfl rfl) dX12_saves_44 w7_13) (s_iconst dX12_saves_47 rfl) dX12_saves_48) rfl) dX12_saves_49 w9_10)) dX12_saves_52) (t_skip (ld_in rfl) rfl) lda_nil (lda_cons (ld_in rfl) lda_nil)) (t_sq (p1 := 56) (Γ' := [(0, 2), (1, 0), (2, 0), (3, 0), (4, 0)]) (t_istore (s_iconst dX12_saves_53 rfl) dX12_saves_54 rfl rfl) (t_sq (p1 := 127) (Γ' := [(0, 2), (1, 0), (2, 0), (3, 0), (4, 0)]) (t_sq (p1 := 59) (Γ' := [(0, 2), (1, 0), (2, 0), (3, 0), (4, 0), (5, 0)]) (t_istore (s_iconst dX12_saves_56 rfl) dX12_saves_57 rfl rfl) (tn_to (Γ' := [(0, 2), (1, 0), (2, 0), (3, 0), (4, 0), (5, 0)]) (XA := [127]) sLX12_saves_1 (lda_cons (ld_in rfl) lda_nil) rfl)) (t_ret (cv := cvI) (fun _ _ => rfl) (s_iload dX12_saves_127 rfl) dX12_saves_129)))))))
noncomputable def DX12_saves : Fr → St → Option (Int32 × St) := M1 (fun f => (sI (sI (sI (sR fr0 0 (gR f 0)) 1 (gI f 1)) 2 (gI f 2)) 3 (gI f 3))) BX12_saves
theorem kX12_saves : SND yX12_saves cX12_saves 7 (some .int) 4 [(0, 2), (1, 0), (2, 0), (3, 0)] cvoI DX12_saves := snd_I (nw := 4) (by decide) rfl rfl (fun _ _ => rfl) sBX12_saves
theorem dX12_canOf_0 : decode cX12_canOf 0 = .ok (.aload_n 0, 1) := by decide +kernel
theorem dX12_canOf_1 : decode cX12_canOf 1 = .ok (.iload_n 1, 1) := by decide +kernel
theorem dX12_canOf_2 : decode cX12_canOf 2 = .ok (.iload_n 2, 1) := by decide +kernel
theorem dX12_canOf_3 : decode cX12_canOf 3 = .ok (.invokevirtual 403, 3) := by decide +kernel
theorem dX12_canOf_6 : decode cX12_canOf 6 = .ok (.iconst 0, 1) := by decide +kernel
theorem dX12_canOf_7 : decode cX12_canOf 7 = .ok (.istore_n 3, 1) := by decide +kernel
theorem dX12_canOf_8 : decode cX12_canOf 8 = .ok (.iconst 0, 1) := by decide +kernel
theorem dX12_canOf_9 : decode cX12_canOf 9 = .ok (.istore 4, 2) := by decide +kernel
theorem dX12_canOf_11 : decode cX12_canOf 11 = .ok (.iload 4, 2) := by decide +kernel
theorem dX12_canOf_13 : decode cX12_canOf 13 = .ok (.aload_n 0, 1) := by decide +kernel
theorem dX12_canOf_14 : decode cX12_canOf 14 = .ok (.invokevirtual 292, 3) := by decide +kernel
theorem dX12_canOf_17 : decode cX12_canOf 17 = .ok (.if_icmp .ge 31, 3) := by decide +kernel
theorem dX12_canOf_20 : decode cX12_canOf 20 = .ok (.iload_n 3, 1) := by decide +kernel
theorem dX12_canOf_21 : decode cX12_canOf 21 = .ok (.aload_n 0, 1) := by decide +kernel
theorem dX12_canOf_22 : decode cX12_canOf 22 = .ok (.iload 4, 2) := by decide +kernel
theorem dX12_canOf_24 : decode cX12_canOf 24 = .ok (.invokevirtual 406, 3) := by decide +kernel
theorem dX12_canOf_27 : decode cX12_canOf 27 = .ok (.ldc 172, 2) := by decide +kernel
theorem dX12_canOf_29 : decode cX12_canOf 29 = .ok (.if_icmp .ge 10, 3) := by decide +kernel
theorem dX12_canOf_32 : decode cX12_canOf 32 = .ok (.iconst 1, 1) := by decide +kernel
theorem dX12_canOf_33 : decode cX12_canOf 33 = .ok (.iload 4, 2) := by decide +kernel
theorem dX12_canOf_35 : decode cX12_canOf 35 = .ok (.ishl, 1) := by decide +kernel
theorem dX12_canOf_36 : decode cX12_canOf 36 = .ok (.goto 4, 3) := by decide +kernel
theorem dX12_canOf_39 : decode cX12_canOf 39 = .ok (.iconst 0, 1) := by decide +kernel
theorem dX12_canOf_40 : decode cX12_canOf 40 = .ok (.ior, 1) := by decide +kernel
theorem dX12_canOf_41 : decode cX12_canOf 41 = .ok (.istore_n 3, 1) := by decide +kernel
theorem dX12_canOf_42 : decode cX12_canOf 42 = .ok (.iinc 4 1, 3) := by decide +kernel
theorem dX12_canOf_45 : decode cX12_canOf 45 = .ok (.goto (-34), 3) := by decide +kernel
theorem dX12_canOf_48 : decode cX12_canOf 48 = .ok (.iload_n 3, 1) := by decide +kernel
theorem dX12_canOf_49 : decode cX12_canOf 49 = .ok (.ireturn, 1) := by decide +kernel
theorem mokX12_canOf : MOK yX12_canOf cX12_canOf 5 (some .int) 2 := ⟨w9_60, w1_13, ⟨by decide, by decide⟩, by decide +kernel, by decide⟩
abbrev miX12_canOf : MI := (yX12_canOf.cls, cX12_canOf, 5, 4, false)
noncomputable def LX12_canOf_1 : Sm Int32 := dLoop (fun f => (sI (sI (sI (sI (sR fr0 0 (gR f 0)) 1 (gI f 1)) 2 (gI f 2)) 3 (gI f 3)) 4 (gI f 4))) (dCI r_lt (vI 4) (dCallV 12 DX12_houses (aR aN 0 (vR 0)))) (dSetI 3 (d2 o_ior (vI 3) (dT (dCI r_lt (dCallV 12 DX12_daysTo (aI (aR aN 0 (vR 0)) 1 (vI 4))) (cI 100000)) (d2 o_ishl (cI 1) (vI 4)) (cI 0)))) (dInc 4 1)
theorem sLX12_canOf_1 {ΓL : Gm} {PB PK : List Nat} : SS (cvoI, .ireturn) miX12_canOf ΓL PB PK [(0, 2), (1, 0), (2, 0), (3, 0), (4, 0)] [(0, 2), (1, 0), (2, 0), (3, 0), (4, 0)] 11 [48] LX12_canOf_1 := t_loop (pT := 20) (pF := 48) (pu := 42) (PB' := []) (PK' := []) (XB := [42]) (XU := [45]) (fun _ _ => rfl) rfl (c_lt_F (pF := 48) (s_iload dX12_canOf_11 rfl) (s_of_xI (x_callV (ts := [(0, 2)]) ck12 rfl kX12_houses mokX12_houses w8_62 ps5_1 rfl rfl rfl rfl (a_R (ts := []) 0 a_nil (s_aload_n dX12_canOf_13 rfl rfl) rfl) dX12_canOf_14 w8_60)) dX12_canOf_17 rfl) (t_istore_n (s_ior (s_iload_n dX12_canOf_20 rfl rfl) (s_T (pT := 32) (pF := 39) (p1 := 36) (pe := 40) (c_lt_F (pF := 39) (s_of_xI (x_callV (ts := [(0, 2), (1, 0)]) ck12 rfl kX12_daysTo mokX12_daysTo w9_47 ps6_14 rfl rfl rfl rfl (a_I (ts := [(0, 2)]) 1 (a_R (ts := []) 0 a_nil (s_aload_n dX12_canOf_21 rfl rfl) rfl) (s_iload dX12_canOf_22 rfl) rfl) dX12_canOf_24 w9_45)) (s_ldc dX12_canOf_27 w7_197) dX12_canOf_29 rfl) (s_ishl (s_iconst dX12_canOf_32 rfl) (s_iload dX12_canOf_33 rfl) dX12_canOf_35) (s_iconst dX12_canOf_39 rfl) (ld_goto (y := 40) dX12_canOf_36 rfl (ld_in rfl))) dX12_canOf_40) dX12_canOf_41 rfl rfl rfl) (t_iinc dX12_canOf_42 rfl rfl rfl rfl) (lda_cons (ld_in rfl) lda_nil) lda_nil (lda_cons (ld_goto (y := 11) dX12_canOf_45 rfl (ld_in rfl)) lda_nil) (ld_in rfl) lda_nil
noncomputable def BX12_canOf : Sm Int32 := (dSeq (dDo (dCallV 12 DX12_laysAlone (aI (aI (aR aN 0 (vR 0)) 1 (vI 1)) 2 (vI 2)))) (dSeq (dSetI 3 (cI 0)) (dSeq (dSeq (dSetI 4 (cI 0)) LX12_canOf_1) (dRet (vI 3)))))
theorem sBX12_canOf : SS (cvoI, .ireturn) miX12_canOf [] [] [] [(0, 2), (1, 0), (2, 0)] [(0, 2), (1, 0), (2, 0)] 0 [] BX12_canOf := (t_sq (p1 := 6) (Γ' := [(0, 2), (1, 0), (2, 0)]) (t_do (x_callV (ts := [(0, 2), (1, 0), (2, 0)]) ck12 rfl kX12_laysAlone mokX12_laysAlone w9_43 ps6_13 rfl rfl rfl rfl (a_I (ts := [(0, 2), (1, 0)]) 2 (a_I (ts := [(0, 2)]) 1 (a_R (ts := []) 0 a_nil (s_aload_n dX12_canOf_0 rfl rfl) rfl) (s_iload_n dX12_canOf_1 rfl rfl) rfl) (s_iload_n dX12_canOf_2 rfl rfl) rfl) dX12_canOf_3 w9_41) rfl) (t_sq (p1 := 8) (Γ' := [(0, 2), (1, 0), (2, 0), (3, 0)]) (t_istore_n (s_iconst dX12_canOf_6 rfl) dX12_canOf_7 rfl rfl rfl) (t_sq (p1 := 48) (Γ' := [(0, 2), (1, 0), (2, 0), (3, 0)]) (t_sq (p1 := 11) (Γ' := [(0, 2), (1, 0), (2, 0), (3, 0), (4, 0)]) (t_istore (s_iconst dX12_canOf_8 rfl) dX12_canOf_9 rfl rfl) (tn_to (Γ' := [(0, 2), (1, 0), (2, 0), (3, 0), (4, 0)]) (XA := [48]) sLX12_canOf_1 (lda_cons (ld_in rfl) lda_nil) rfl)) (t_ret (cv := cvI) (fun _ _ => rfl) (s_iload_n dX12_canOf_48 rfl rfl) dX12_canOf_49))))
noncomputable def DX12_canOf : Fr → St → Option (Int32 × St) := M1 (fun f => (sI (sI (sR fr0 0 (gR f 0)) 1 (gI f 1)) 2 (gI f 2))) BX12_canOf
theorem kX12_canOf : SND yX12_canOf cX12_canOf 5 (some .int) 4 [(0, 2), (1, 0), (2, 0)] cvoI DX12_canOf := snd_I (nw := 3) (by decide) rfl rfl (fun _ _ => rfl) sBX12_canOf
theorem dX12_can_0 : decode cX12_can 0 = .ok (.aload_n 0, 1) := by decide +kernel
theorem dX12_can_1 : decode cX12_can 1 = .ok (.iconst 0, 1) := by decide +kernel
theorem dX12_can_2 : decode cX12_can 2 = .ok (.putfield 122, 3) := by decide +kernel
theorem dX12_can_5 : decode cX12_can 5 = .ok (.aload_n 0, 1) := by decide +kernel
theorem dX12_can_6 : decode cX12_can 6 = .ok (.iload_n 1, 1) := by decide +kernel
theorem dX12_can_7 : decode cX12_can 7 = .ok (.invokevirtual 366, 3) := by decide +kernel
theorem dX12_can_10 : decode cX12_can 10 = .ok (.ifCond .eq 29, 3) := by decide +kernel
theorem dX12_can_13 : decode cX12_can 13 = .ok (.aload_n 0, 1) := by decide +kernel
theorem dX12_can_14 : decode cX12_can 14 = .ok (.iload_n 2, 1) := by decide +kernel
theorem dX12_can_15 : decode cX12_can 15 = .ok (.invokevirtual 372, 3) := by decide +kernel
theorem dX12_can_18 : decode cX12_can 18 = .ok (.ifCond .eq 21, 3) := by decide +kernel
theorem dX12_can_21 : decode cX12_can 21 = .ok (.aload_n 0, 1) := by decide +kernel
theorem dX12_can_22 : decode cX12_can 22 = .ok (.iload_n 2, 1) := by decide +kernel
theorem dX12_can_23 : decode cX12_can 23 = .ok (.aload_n 0, 1) := by decide +kernel
theorem dX12_can_24 : decode cX12_can 24 = .ok (.getfield 43, 3) := by decide +kernel
theorem dX12_can_27 : decode cX12_can 27 = .ok (.iconst 2, 1) := by decide +kernel
theorem dX12_can_28 : decode cX12_can 28 = .ok (.iload_n 1, 1) := by decide +kernel
theorem dX12_can_29 : decode cX12_can 29 = .ok (.imul, 1) := by decide +kernel
theorem dX12_can_30 : decode cX12_can 30 = .ok (.iconst 1, 1) := by decide +kernel
theorem dX12_can_31 : decode cX12_can 31 = .ok (.iadd, 1) := by decide +kernel
theorem dX12_can_32 : decode cX12_can 32 = .ok (.iaload, 1) := by decide +kernel
theorem dX12_can_33 : decode cX12_can 33 = .ok (.invokevirtual 415, 3) := by decide +kernel
theorem dX12_can_36 : decode cX12_can 36 = .ok (.goto 5, 3) := by decide +kernel
theorem dX12_can_39 : decode cX12_can 39 = .ok (.bipush (-2), 2) := by decide +kernel
theorem dX12_can_41 : decode cX12_can 41 = .ok (.ireturn, 1) := by decide +kernel
theorem mokX12_can : MOK yX12_can cX12_can 3 (some .int) 2 := ⟨w9_56, w1_13, ⟨by decide, by decide⟩, by decide +kernel, by decide⟩
abbrev miX12_can : MI := (yX12_can.cls, cX12_can, 3, 5, false)
noncomputable def BX12_can : Sm Int32 := (dSeq (dP (fI 12 0) (vR 0) (cI 0)) (dRet (dT (dAnd (dCZ q_ne (dCallV 12 DX12_isCarrier (aI (aR aN 0 (vR 0)) 1 (vI 1)))) (dCZ q_ne (dCallV 12 DX12_isSlate (aI (aR aN 0 (vR 0)) 1 (vI 2))))) (dCallV 12 DX12_canOf (aI (aI (aR aN 0 (vR 0)) 1 (vI 2)) 2 (dAI (dGR 12 20 (vR 0)) (d2 o_iadd (d2 o_imul (cI 2) (vI 1)) (cI 1))))) (cI (-2)))))
theorem sBX12_can : SS (cvoI, .ireturn) miX12_can [] [] [] [(0, 2), (1, 0), (2, 0)] [(0, 2), (1, 0), (2, 0)] 0 [] BX12_can := (t_sq (p1 := 5) (Γ' := [(0, 2), (1, 0), (2, 0)]) (t_pI ck12 0 (by decide) rfl (Or.inl rfl) (s_aload_n dX12_can_0 rfl rfl) (s_iconst dX12_can_1 rfl) dX12_can_2 w6_205 rfl) (t_ret (cv := cvI) (fun _ _ => rfl) (s_T (pT := 21) (pF := 39) (p1 := 36) (pe := 41) (c_and (p1 := 13) (pT := 21) (pF := 39) (c_ne_ZF (pF := 39) (s_of_xI (x_callV (ts := [(0, 2), (1, 0)]) ck12 rfl kX12_isCarrier mokX12_isCarrier w8_70 ps5_2 rfl rfl rfl rfl (a_I (ts := [(0, 2)]) 1 (a_R (ts := []) 0 a_nil (s_aload_n dX12_can_5 rfl rfl) rfl) (s_iload_n dX12_can_6 rfl rfl) rfl) dX12_can_7 w8_68)) dX12_can_10 rfl) (c_ne_ZF (pF := 39) (s_of_xI (x_callV (ts := [(0, 2), (1, 0)]) ck12 rfl kX12_isSlate mokX12_isSlate w8_85 ps5_4 rfl rfl rfl rfl (a_I (ts := [(0, 2)]) 1 (a_R (ts := []) 0 a_nil (s_aload_n dX12_can_13 rfl rfl) rfl) (s_iload_n dX12_can_14 rfl rfl) rfl) dX12_can_15 w8_83)) dX12_can_18 rfl)) (s_of_xI (x_callV (ts := [(0, 2), (1, 0), (2, 0)]) ck12 rfl kX12_canOf mokX12_canOf w9_59 ps6_15 rfl rfl rfl rfl (a_I (ts := [(0, 2), (1, 0)]) 2 (a_I (ts := [(0, 2)]) 1 (a_R (ts := []) 0 a_nil (s_aload_n dX12_can_21 rfl rfl) rfl) (s_iload_n dX12_can_22 rfl rfl) rfl) (s_dAI (s_getR ck12 20 (by decide) rfl (s_aload_n dX12_can_23 rfl rfl) dX12_can_24 w6_225) (s_iadd (s_imul (s_iconst dX12_can_27 rfl) (s_iload_n dX12_can_28 rfl rfl) dX12_can_29) (s_iconst dX12_can_30 rfl) dX12_can_31) dX12_can_32) rfl) dX12_can_33 w9_57)) (s_bipush dX12_can_39 rfl) (ld_goto (y := 41) dX12_can_36 rfl (ld_in rfl))) dX12_can_41))
noncomputable def DX12_can : Fr → St → Option (Int32 × St) := M1 (fun f => (sI (sI (sR fr0 0 (gR f 0)) 1 (gI f 1)) 2 (gI f 2))) BX12_can
theorem kX12_can : SND yX12_can cX12_can 3 (some .int) 5 [(0, 2), (1, 0), (2, 0)] cvoI DX12_can := snd_I (nw := 3) (by decide) rfl rfl (fun _ _ => rfl) sBX12_can
theorem dX12_needs_0 : decode cX12_needs 0 = .ok (.aload_n 0, 1) := by decide +kernel
theorem dX12_needs_1 : decode cX12_needs 1 = .ok (.iconst 0, 1) := by decide +kernel
theorem dX12_needs_2 : decode cX12_needs 2 = .ok (.putfield 122, 3) := by decide +kernel
theorem dX12_needs_5 : decode cX12_needs 5 = .ok (.aload_n 0, 1) := by decide +kernel
theorem dX12_needs_6 : decode cX12_needs 6 = .ok (.iload_n 1, 1) := by decide +kernel
theorem dX12_needs_7 : decode cX12_needs 7 = .ok (.invokevirtual 372, 3) := by decide +kernel
theorem dX12_needs_10 : decode cX12_needs 10 = .ok (.ifCond .eq 12, 3) := by decide +kernel
theorem dX12_needs_13 : decode cX12_needs 13 = .ok (.aload_n 0, 1) := by decide +kernel
theorem dX12_needs_14 : decode cX12_needs 14 = .ok (.iload_n 2, 1) := by decide +kernel
theorem dX12_needs_15 : decode cX12_needs 15 = .ok (.i2l, 1) := by decide +kernel
theorem dX12_needs_16 : decode cX12_needs 16 = .ok (.invokevirtual 307, 3) := by decide +kernel
theorem dX12_needs_19 : decode cX12_needs 19 = .ok (.ifCond .ne 6, 3) := by decide +kernel
theorem dX12_needs_22 : decode cX12_needs 22 = .ok (.bipush (-2), 2) := by decide +kernel
theorem dX12_needs_24 : decode cX12_needs 24 = .ok (.ireturn, 1) := by decide +kernel
theorem dX12_needs_25 : decode cX12_needs 25 = .ok (.aload_n 0, 1) := by decide +kernel
theorem dX12_needs_26 : decode cX12_needs 26 = .ok (.iload_n 1, 1) := by decide +kernel
theorem dX12_needs_27 : decode cX12_needs 27 = .ok (.ldc 172, 2) := by decide +kernel
theorem dX12_needs_29 : decode cX12_needs 29 = .ok (.invokevirtual 403, 3) := by decide +kernel
theorem dX12_needs_32 : decode cX12_needs 32 = .ok (.aload_n 0, 1) := by decide +kernel
theorem dX12_needs_33 : decode cX12_needs 33 = .ok (.iload_n 2, 1) := by decide +kernel
theorem dX12_needs_34 : decode cX12_needs 34 = .ok (.invokevirtual 406, 3) := by decide +kernel
theorem dX12_needs_37 : decode cX12_needs 37 = .ok (.ldc 172, 2) := by decide +kernel
theorem dX12_needs_39 : decode cX12_needs 39 = .ok (.if_icmp .lt 5, 3) := by decide +kernel
theorem dX12_needs_42 : decode cX12_needs 42 = .ok (.iconst (-1), 1) := by decide +kernel
theorem dX12_needs_43 : decode cX12_needs 43 = .ok (.ireturn, 1) := by decide +kernel
theorem dX12_needs_44 : decode cX12_needs 44 = .ok (.iconst 0, 1) := by decide +kernel
theorem dX12_needs_45 : decode cX12_needs 45 = .ok (.istore_n 3, 1) := by decide +kernel
theorem dX12_needs_46 : decode cX12_needs 46 = .ok (.aload_n 0, 1) := by decide +kernel
theorem dX12_needs_47 : decode cX12_needs 47 = .ok (.iload_n 1, 1) := by decide +kernel
theorem dX12_needs_48 : decode cX12_needs 48 = .ok (.iload_n 3, 1) := by decide +kernel
theorem dX12_needs_49 : decode cX12_needs 49 = .ok (.invokevirtual 415, 3) := by decide +kernel
theorem dX12_needs_52 : decode cX12_needs 52 = .ok (.iload_n 2, 1) := by decide +kernel
theorem dX12_needs_53 : decode cX12_needs 53 = .ok (.invokestatic 322, 3) := by decide +kernel
theorem dX12_needs_56 : decode cX12_needs 56 = .ok (.ifCond .ne 9, 3) := by decide +kernel
theorem dX12_needs_59 : decode cX12_needs 59 = .ok (.iinc 3 1, 3) := by decide +kernel
theorem dX12_needs_62 : decode cX12_needs 62 = .ok (.goto (-16), 3) := by decide +kernel
theorem dX12_needs_65 : decode cX12_needs 65 = .ok (.iload_n 3, 1) := by decide +kernel
theorem dX12_needs_66 : decode cX12_needs 66 = .ok (.ireturn, 1) := by decide +kernel
theorem mokX12_needs : MOK yX12_needs cX12_needs 4 (some .int) 2 := ⟨w9_64, w1_13, ⟨by decide, by decide⟩, by decide +kernel, by decide⟩
abbrev miX12_needs : MI := (yX12_needs.cls, cX12_needs, 4, 5, false)
noncomputable def LX12_needs_1 : Sm Int32 := dLoop (fun f => (sI (sI (sI (sR fr0 0 (gR f 0)) 1 (gI f 1)) 2 (gI f 2)) 3 (gI f 3))) (dNot (dCZ q_ne (dCall DX12_isBit (aI (aI aN 0 (dCallV 12 DX12_canOf (aI (aI (aR aN 0 (vR 0)) 1 (vI 1)) 2 (vI 3)))) 1 (vI 2))))) (dInc 3 1) dSkip
theorem sLX12_needs_1 {ΓL : Gm} {PB PK : List Nat} : SS (cvoI, .ireturn) miX12_needs ΓL PB PK [(0, 2), (1, 0), (2, 0), (3, 0)] [(0, 2), (1, 0), (2, 0), (3, 0)] 46 [65] LX12_needs_1 := t_loop (pT := 59) (pF := 65) (pu := 46) (PB' := []) (PK' := []) (XB := [62]) (XU := [46]) (fun _ _ => rfl) rfl (c_not (pT := 59) (pF := 65) (c_ne_ZJ (pT := 65) (s_of_xI (x_call (ts := [(0, 0), (1, 0)]) kX12_isBit mokX12_isBit w8_104 rfl rfl rfl (a_I (ts := [(0, 0)]) 1 (a_I (ts := []) 0 a_nil (s_of_xI (x_callV (ts := [(0, 2), (1, 0), (2, 0)]) ck12 rfl kX12_canOf mokX12_canOf w9_59 ps6_15 rfl rfl rfl rfl (a_I (ts := [(0, 2), (1, 0)]) 2 (a_I (ts := [(0, 2)]) 1 (a_R (ts := []) 0 a_nil (s_aload_n dX12_needs_46 rfl rfl) rfl) (s_iload_n dX12_needs_47 rfl rfl) rfl) (s_iload_n dX12_needs_48 rfl rfl) rfl) dX12_needs_49 w9_57)) rfl) (s_iload_n dX12_needs_52 rfl rfl) rfl) dX12_needs_53 w8_103)) dX12_needs_56 rfl)) (t_iinc dX12_needs_59 rfl rfl rfl rfl) (t_skip (ld_in rfl) rfl) (lda_cons (ld_goto (y := 46) dX12_needs_62 rfl (ld_in rfl)) lda_nil) lda_nil (lda_cons (ld_in rfl) lda_nil) (ld_in rfl) lda_nil
noncomputable def BX12_needs : Sm Int32 := (dSeq (dP (fI 12 0) (vR 0) (cI 0)) (dSeq (dIf (dOr (dNot (dCZ q_ne (dCallV 12 DX12_isSlate (aI (aR aN 0 (vR 0)) 1 (vI 1))))) (dNot (dCZ q_ne (dCallV 12 DX12_isHouse (aL (aR aN 0 (vR 0)) 1 (d1 o_i2l (vI 2))))))) (dRet (cI (-2))) dSkip) (dSeq (dDo (dCallV 12 DX12_laysAlone (aI (aI (aR aN 0 (vR 0)) 1 (vI 1)) 2 (cI 100000)))) (dSeq (dIf (dCI r_ge (dCallV 12 DX12_daysTo (aI (aR aN 0 (vR 0)) 1 (vI 2))) (cI 100000)) (dRet (cI (-1))) dSkip) (dSeq (dSetI 3 (cI 0)) (dSeq LX12_needs_1 (dRet (vI 3))))))))
theorem sBX12_needs : SS (cvoI, .ireturn) miX12_needs [] [] [] [(0, 2), (1, 0), (2, 0)] [(0, 2), (1, 0), (2, 0)] 0 [] BX12_needs := (t_sq (p1 := 5) (Γ' := [(0, 2), (1, 0), (2, 0)]) (t_pI ck12 0 (by decide) rfl (Or.inl rfl) (s_aload_n dX12_needs_0 rfl rfl) (s_iconst dX12_needs_1 rfl) dX12_needs_2 w6_205 rfl) (t_sq (p1 := 25) (Γ' := [(0, 2), (1, 0), (2, 0)]) (t_if (pT := 22) (pF := 25) (X := [25]) (XA := []) (XB := [25]) (c_or (p1 := 13) (pT := 22) (pF := 25) (c_not (pT := 22) (pF := 13) (c_ne_ZF (pF := 22) (s_of_xI (x_callV (ts := [(0, 2), (1, 0)]) ck12 rfl kX12_isSlate mokX12_isSlate w8_85 ps5_4 rfl rfl rfl rfl (a_I (ts := [(0, 2)]) 1 (a_R (ts := []) 0 a_nil (s_aload_n dX12_needs_5 rfl rfl) rfl) (s_iload_n dX12_needs_6 rfl rfl) rfl) dX12_needs_7 w8_83)) dX12_needs_10 rfl)) (c_not (pT := 22) (pF := 25) (c_ne_ZJ (pT := 25) (s_of_xI (x_callV (ts := [(0, 2), (1, 1)]) ck12 rfl kX12_isHouse mokX12_isHouse w8_58 ps5_0 rfl rfl rfl rfl (a_L (ts := [(0, 2)]) 1 (a_R (ts := []) 0 a_nil (s_aload_n dX12_needs_13 rfl rfl) rfl) (s_i2l (s_iload_n dX12_needs_14 rfl rfl) dX12_needs_15) rfl) dX12_needs_16 w8_56)) dX12_needs_19 rfl))) (t_ret (cv := cvI) (fun _ _ => rfl) (s_bipush dX12_needs_22 rfl) dX12_needs_24) (t_skip (ld_in rfl) rfl) lda_nil (lda_cons (ld_in rfl) lda_nil)) (t_sq (p1 := 32) (Γ' := [(0, 2), (1, 0), (2, 0)]) (t_do (x_callV (ts := [(0, 2), (1, 0), (2, 0)]) ck12 rfl kX12_laysAlone mokX12_laysAlone w9_43 ps6_13 rfl rfl rfl rfl (a_I (ts := [(0, 2), (1, 0)]) 2 (a_I (ts := [(0, 2)]) 1 (a_R (ts := []) 0 a_nil (s_aload_n dX12_needs_25 rfl rfl) rfl) (s_iload_n dX12_needs_26 rfl rfl) rfl) (s_ldc dX12_needs_27 w7_197) rfl) dX12_needs_29 w9_41) rfl) (t_sq (p1 := 44) (Γ' := [(0, 2), (1, 0), (2, 0)]) (t_if (pT := 42) (pF := 44) (X := [44]) (XA := []) (XB := [44]) (c_ge_F (pF := 44) (s_of_xI (x_callV (ts := [(0, 2), (1, 0)]) ck12 rfl kX12_daysTo mokX12_daysTo w9_47 ps6_14 rfl rfl rfl rfl (a_I (ts := [(0, 2)]) 1 (a_R (ts := []) 0 a_nil (s_aload_n dX12_needs_32 rfl rfl) rfl) (s_iload_n dX12_needs_33 rfl rfl) rfl) dX12_needs_34 w9_45)) (s_ldc dX12_needs_37 w7_197) dX12_needs_39 rfl) (t_ret (cv := cvI) (fun _ _ => rfl) (s_iconst dX12_needs_42 rfl) dX12_needs_43) (t_skip (ld_in rfl) rfl) lda_nil (lda_cons (ld_in rfl) lda_nil)) (t_sq (p1 := 46) (Γ' := [(0, 2), (1, 0), (2, 0), (3, 0)]) (t_istore_n (s_iconst dX12_needs_44 rfl) dX12_needs_45 rfl rfl rfl) (t_sq (p1 := 65) (Γ' := [(0, 2), (1, 0), (2, 0), (3, 0)]) (tn_to (Γ' := [(0, 2), (1, 0), (2, 0), (3, 0)]) (XA := [65]) sLX12_needs_1 (lda_cons (ld_in rfl) lda_nil) rfl) (t_ret (cv := cvI) (fun _ _ => rfl) (s_iload_n dX12_needs_65 rfl rfl) dX12_needs_66)))))))
noncomputable def DX12_needs : Fr → St → Option (Int32 × St) := M1 (fun f => (sI (sI (sR fr0 0 (gR f 0)) 1 (gI f 1)) 2 (gI f 2))) BX12_needs
theorem kX12_needs : SND yX12_needs cX12_needs 4 (some .int) 5 [(0, 2), (1, 0), (2, 0)] cvoI DX12_needs := snd_I (nw := 3) (by decide) rfl rfl (fun _ _ => rfl) sBX12_needs
theorem dX12_porter_0 : decode cX12_porter 0 = .ok (.aload_n 0, 1) := by decide +kernel
theorem dX12_porter_1 : decode cX12_porter 1 = .ok (.iconst 0, 1) := by decide +kernel
theorem dX12_porter_2 : decode cX12_porter 2 = .ok (.putfield 122, 3) := by decide +kernel
theorem dX12_porter_5 : decode cX12_porter 5 = .ok (.aload_n 0, 1) := by decide +kernel
theorem dX12_porter_6 : decode cX12_porter 6 = .ok (.iload_n 1, 1) := by decide +kernel
theorem dX12_porter_7 : decode cX12_porter 7 = .ok (.invokevirtual 372, 3) := by decide +kernel
theorem dX12_porter_10 : decode cX12_porter 10 = .ok (.ifCond .eq 12, 3) := by decide +kernel
theorem dX12_porter_13 : decode cX12_porter 13 = .ok (.aload_n 0, 1) := by decide +kernel
theorem dX12_porter_14 : decode cX12_porter 14 = .ok (.iload_n 2, 1) := by decide +kernel
theorem dX12_porter_15 : decode cX12_porter 15 = .ok (.i2l, 1) := by decide +kernel
theorem dX12_porter_16 : decode cX12_porter 16 = .ok (.invokevirtual 307, 3) := by decide +kernel
theorem dX12_porter_19 : decode cX12_porter 19 = .ok (.ifCond .ne 6, 3) := by decide +kernel
theorem dX12_porter_22 : decode cX12_porter 22 = .ok (.bipush (-2), 2) := by decide +kernel
theorem dX12_porter_24 : decode cX12_porter 24 = .ok (.ireturn, 1) := by decide +kernel
theorem dX12_porter_25 : decode cX12_porter 25 = .ok (.iconst (-1), 1) := by decide +kernel
theorem dX12_porter_26 : decode cX12_porter 26 = .ok (.istore_n 3, 1) := by decide +kernel
theorem dX12_porter_27 : decode cX12_porter 27 = .ok (.ldc 172, 2) := by decide +kernel
theorem dX12_porter_29 : decode cX12_porter 29 = .ok (.istore 4, 2) := by decide +kernel
theorem dX12_porter_31 : decode cX12_porter 31 = .ok (.iconst 0, 1) := by decide +kernel
theorem dX12_porter_32 : decode cX12_porter 32 = .ok (.istore 5, 2) := by decide +kernel
theorem dX12_porter_34 : decode cX12_porter 34 = .ok (.iload 5, 2) := by decide +kernel
theorem dX12_porter_36 : decode cX12_porter 36 = .ok (.aload_n 0, 1) := by decide +kernel
theorem dX12_porter_37 : decode cX12_porter 37 = .ok (.invokevirtual 295, 3) := by decide +kernel
theorem dX12_porter_40 : decode cX12_porter 40 = .ok (.if_icmp .ge 48, 3) := by decide +kernel
theorem dX12_porter_43 : decode cX12_porter 43 = .ok (.aload_n 0, 1) := by decide +kernel
theorem dX12_porter_44 : decode cX12_porter 44 = .ok (.iload_n 1, 1) := by decide +kernel
theorem dX12_porter_45 : decode cX12_porter 45 = .ok (.aload_n 0, 1) := by decide +kernel
theorem dX12_porter_46 : decode cX12_porter 46 = .ok (.getfield 43, 3) := by decide +kernel
theorem dX12_porter_49 : decode cX12_porter 49 = .ok (.iconst 2, 1) := by decide +kernel
theorem dX12_porter_50 : decode cX12_porter 50 = .ok (.iload 5, 2) := by decide +kernel
theorem dX12_porter_52 : decode cX12_porter 52 = .ok (.imul, 1) := by decide +kernel
theorem dX12_porter_53 : decode cX12_porter 53 = .ok (.iconst 1, 1) := by decide +kernel
theorem dX12_porter_54 : decode cX12_porter 54 = .ok (.iadd, 1) := by decide +kernel
theorem dX12_porter_55 : decode cX12_porter 55 = .ok (.iaload, 1) := by decide +kernel
theorem dX12_porter_56 : decode cX12_porter 56 = .ok (.invokevirtual 403, 3) := by decide +kernel
theorem dX12_porter_59 : decode cX12_porter 59 = .ok (.aload_n 0, 1) := by decide +kernel
theorem dX12_porter_60 : decode cX12_porter 60 = .ok (.iload_n 2, 1) := by decide +kernel
theorem dX12_porter_61 : decode cX12_porter 61 = .ok (.invokevirtual 406, 3) := by decide +kernel
theorem dX12_porter_64 : decode cX12_porter 64 = .ok (.iload 4, 2) := by decide +kernel
theorem dX12_porter_66 : decode cX12_porter 66 = .ok (.if_icmp .lt 6, 3) := by decide +kernel
theorem dX12_porter_69 : decode cX12_porter 69 = .ok (.goto 13, 3) := by decide +kernel
theorem dX12_porter_72 : decode cX12_porter 72 = .ok (.iload 5, 2) := by decide +kernel
theorem dX12_porter_74 : decode cX12_porter 74 = .ok (.istore_n 3, 1) := by decide +kernel
theorem dX12_porter_75 : decode cX12_porter 75 = .ok (.aload_n 0, 1) := by decide +kernel
theorem dX12_porter_76 : decode cX12_porter 76 = .ok (.iload_n 2, 1) := by decide +kernel
theorem dX12_porter_77 : decode cX12_porter 77 = .ok (.invokevirtual 406, 3) := by decide +kernel
theorem dX12_porter_80 : decode cX12_porter 80 = .ok (.istore 4, 2) := by decide +kernel
theorem dX12_porter_82 : decode cX12_porter 82 = .ok (.iinc 5 1, 3) := by decide +kernel
theorem dX12_porter_85 : decode cX12_porter 85 = .ok (.goto (-51), 3) := by decide +kernel
theorem dX12_porter_88 : decode cX12_porter 88 = .ok (.iload_n 3, 1) := by decide +kernel
theorem dX12_porter_89 : decode cX12_porter 89 = .ok (.ireturn, 1) := by decide +kernel
theorem mokX12_porter : MOK yX12_porter cX12_porter 6 (some .int) 2 := ⟨w9_68, w1_13, ⟨by decide, by decide⟩, by decide +kernel, by decide⟩
abbrev miX12_porter : MI := (yX12_porter.cls, cX12_porter, 6, 4, false)
noncomputable def LX12_porter_1 : Sm Int32 := dLoop (fun f => (sI (sI (sI (sI (sI (sR fr0 0 (gR f 0)) 1 (gI f 1)) 2 (gI f 2)) 3 (gI f 3)) 4 (gI f 4)) 5 (gI f 5))) (dCI r_lt (vI 5) (dCallV 12 DX12_carriers (aR aN 0 (vR 0)))) (dSeq (dDo (dCallV 12 DX12_laysAlone (aI (aI (aR aN 0 (vR 0)) 1 (vI 1)) 2 (dAI (dGR 12 20 (vR 0)) (d2 o_iadd (d2 o_imul (cI 2) (vI 5)) (cI 1)))))) (dSeq (dIf (dCI r_ge (dCallV 12 DX12_daysTo (aI (aR aN 0 (vR 0)) 1 (vI 2))) (vI 4)) dCnt dSkip) (dSeq (dSetI 3 (vI 5)) (dSetI 4 (dCallV 12 DX12_daysTo (aI (aR aN 0 (vR 0)) 1 (vI 2))))))) (dInc 5 1)
theorem sLX12_porter_1 {ΓL : Gm} {PB PK : List Nat} : SS (cvoI, .ireturn) miX12_porter ΓL PB PK [(0, 2), (1, 0), (2, 0), (3, 0), (4, 0), (5, 0)] [(0, 2), (1, 0), (2, 0), (3, 0), (4, 0), (5, 0)] 34 [88] LX12_porter_1 := t_loop (pT := 43) (pF := 88) (pu := 82) (PB' := []) (PK' := [82]) (XB := [82]) (XU := [85]) (fun _ _ => rfl) rfl (c_lt_F (pF := 88) (s_iload dX12_porter_34 rfl) (s_of_xI (x_callV (ts := [(0, 2)]) ck12 rfl kX12_carriers mokX12_carriers w8_74 ps5_3 rfl rfl rfl rfl (a_R (ts := []) 0 a_nil (s_aload_n dX12_porter_36 rfl rfl) rfl) dX12_porter_37 w8_72)) dX12_porter_40 rfl) (t_sq (p1 := 59) (Γ' := [(0, 2), (1, 0), (2, 0), (3, 0), (4, 0), (5, 0)]) (t_do (x_callV (ts := [(0, 2), (1, 0), (2, 0)]) ck12 rfl kX12_laysAlone mokX12_laysAlone w9_43 ps6_13 rfl rfl rfl rfl (a_I (ts := [(0, 2), (1, 0)]) 2 (a_I (ts := [(0, 2)]) 1 (a_R (ts := []) 0 a_nil (s_aload_n dX12_porter_43 rfl rfl) rfl) (s_iload_n dX12_porter_44 rfl rfl) rfl) (s_dAI (s_getR ck12 20 (by decide) rfl (s_aload_n dX12_porter_45 rfl rfl) dX12_porter_46 w6_225) (s_iadd (s_imul (s_iconst dX12_porter_49 rfl) (s_iload dX12_porter_50 rfl) dX12_porter_52) (s_iconst dX12_porter_53 rfl) dX12_porter_54) dX12_porter_55) rfl) dX12_porter_56 w9_41) rfl) (t_sq (p1 := 72) (Γ' := [(0, 2), (1, 0), (2, 0), (3, 0), (4, 0), (5, 0)]) (t_if (pT := 69) (pF := 72) (X := [72]) (XA := []) (XB := [72]) (c_ge_F (pF := 72) (s_of_xI (x_callV (ts := [(0, 2), (1, 0)]) ck12 rfl kX12_daysTo mokX12_daysTo w9_47 ps6_14 rfl rfl rfl rfl (a_I (ts := [(0, 2)]) 1 (a_R (ts := []) 0 a_nil (s_aload_n dX12_porter_59 rfl rfl) rfl) (s_iload_n dX12_porter_60 rfl rfl) rfl) dX12_porter_61 w9_45)) (s_iload dX12_porter_64 rfl) dX12_porter_66 rfl) (t_cnt (ld_goto (y := 82) dX12_porter_69 rfl (ld_in rfl)) rfl) (t_skip (ld_in rfl) rfl) lda_nil (lda_cons (ld_in rfl) lda_nil)) (t_sq (p1 := 75) (Γ' := [(0, 2), (1, 0), (2, 0), (3, 0), (4, 0), (5, 0)]) (t_istore_n (s_iload dX12_porter_72 rfl) dX12_porter_74 rfl rfl rfl) (t_istore (s_of_xI (x_callV (ts := [(0, 2), (1, 0)]) ck12 rfl kX12_daysTo mokX12_daysTo w9_47 ps6_14 rfl rfl rfl rfl (a_I (ts := [(0, 2)]) 1 (a_R (ts := []) 0 a_nil (s_aload_n dX12_porter_75 rfl rfl) rfl) (s_iload_n dX12_porter_76 rfl rfl) rfl) dX12_porter_77 w9_45)) dX12_porter_80 rfl rfl)))) (t_iinc dX12_porter_82 rfl rfl rfl rfl) (lda_cons (ld_in rfl) lda_nil) (lda_cons (ld_in rfl) lda_nil) (lda_cons (ld_goto (y := 34) dX12_porter_85 rfl (ld_in rfl)) lda_nil) (ld_in rfl) lda_nil
noncomputable def BX12_porter : Sm Int32 := (dSeq (dP (fI 12 0) (vR 0) (cI 0)) (dSeq (dIf (dOr (dNot (dCZ q_ne (dCallV 12 DX12_isSlate (aI (aR aN 0 (vR 0)) 1 (vI 1))))) (dNot (dCZ q_ne (dCallV 12 DX12_isHouse (aL (aR aN 0 (vR 0)) 1 (d1 o_i2l (vI 2))))))) (dRet (cI (-2))) dSkip) (dSeq (dSetI 3 (cI (-1))) (dSeq (dSetI 4 (cI 100000)) (dSeq (dSeq (dSetI 5 (cI 0)) LX12_porter_1) (dRet (vI 3)))))))
theorem sBX12_porter : SS (cvoI, .ireturn) miX12_porter [] [] [] [(0, 2), (1, 0), (2, 0)] [(0, 2), (1, 0), (2, 0)] 0 [] BX12_porter := (t_sq (p1 := 5) (Γ' := [(0, 2), (1, 0), (2, 0)]) (t_pI ck12 0 (by decide) rfl (Or.inl rfl) (s_aload_n dX12_porter_0 rfl rfl) (s_iconst dX12_porter_1 rfl) dX12_porter_2 w6_205 rfl) (t_sq (p1 := 25) (Γ' := [(0, 2), (1, 0), (2, 0)]) (t_if (pT := 22) (pF := 25) (X := [25]) (XA := []) (XB := [25]) (c_or (p1 := 13) (pT := 22) (pF := 25) (c_not (pT := 22) (pF := 13) (c_ne_ZF (pF := 22) (s_of_xI (x_callV (ts := [(0, 2), (1, 0)]) ck12 rfl kX12_isSlate mokX12_isSlate w8_85 ps5_4 rfl rfl rfl rfl (a_I (ts := [(0, 2)]) 1 (a_R (ts := []) 0 a_nil (s_aload_n dX12_porter_5 rfl rfl) rfl) (s_iload_n dX12_porter_6 rfl rfl) rfl) dX12_porter_7 w8_83)) dX12_porter_10 rfl)) (c_not (pT := 22) (pF := 25) (c_ne_ZJ (pT := 25) (s_of_xI (x_callV (ts := [(0, 2), (1, 1)]) ck12 rfl kX12_isHouse mokX12_isHouse w8_58 ps5_0 rfl rfl rfl rfl (a_L (ts := [(0, 2)]) 1 (a_R (ts := []) 0 a_nil (s_aload_n dX12_porter_13 rfl rfl) rfl) (s_i2l (s_iload_n dX12_porter_14 rfl rfl) dX12_porter_15) rfl) dX12_porter_16 w8_56)) dX12_porter_19 rfl))) (t_ret (cv := cvI) (fun _ _ => rfl) (s_bipush dX12_porter_22 rfl) dX12_porter_24) (t_skip (ld_in rfl) rfl) lda_nil (lda_cons (ld_in rfl) lda_nil)) (t_sq (p1 := 27) (Γ' := [(0, 2), (1, 0), (2, 0), (3, 0)]) (t_istore_n (s_iconst dX12_porter_25 rfl) dX12_porter_26 rfl rfl rfl) (t_sq (p1 := 31) (Γ' := [(0, 2), (1, 0), (2, 0), (3, 0), (4, 0)]) (t_istore (s_ldc dX12_porter_27 w7_197) dX12_porter_29 rfl rfl) (t_sq (p1 := 88) (Γ' := [(0, 2), (1, 0), (2, 0), (3, 0), (4, 0)]) (t_sq (p1 := 34) (Γ' := [(0, 2), (1, 0), (2, 0), (3, 0), (4, 0), (5, 0)]) (t_istore (s_iconst dX12_porter_31 rfl) dX12_porter_32 rfl rfl) (tn_to (Γ' := [(0, 2), (1, 0), (2, 0), (3, 0), (4, 0), (5, 0)]) (XA := [88]) sLX12_porter_1 (lda_cons (ld_in rfl) lda_nil) rfl)) (t_ret (cv := cvI) (fun _ _ => rfl) (s_iload_n dX12_porter_88 rfl rfl) dX12_porter_89))))))
noncomputable def DX12_porter : Fr → St → Option (Int32 × St) := M1 (fun f => (sI (sI (sR fr0 0 (gR f 0)) 1 (gI f 1)) 2 (gI f 2))) BX12_porter
theorem kX12_porter : SND yX12_porter cX12_porter 6 (some .int) 4 [(0, 2), (1, 0), (2, 0)] cvoI DX12_porter := snd_I (nw := 3) (by decide) rfl rfl (fun _ _ => rfl) sBX12_porter
theorem dX12_knowing_0 : decode cX12_knowing 0 = .ok (.aload_n 0, 1) := by decide +kernel
theorem dX12_knowing_1 : decode cX12_knowing 1 = .ok (.getfield 110, 3) := by decide +kernel
theorem dX12_knowing_4 : decode cX12_knowing 4 = .ok (.iconst 0, 1) := by decide +kernel
theorem dX12_knowing_5 : decode cX12_knowing 5 = .ok (.iaload, 1) := by decide +kernel
theorem dX12_knowing_6 : decode cX12_knowing 6 = .ok (.ifCond .eq 7, 3) := by decide +kernel
theorem dX12_knowing_9 : decode cX12_knowing 9 = .ok (.iconst 1, 1) := by decide +kernel
theorem dX12_knowing_10 : decode cX12_knowing 10 = .ok (.goto 4, 3) := by decide +kernel
theorem dX12_knowing_13 : decode cX12_knowing 13 = .ok (.iconst 0, 1) := by decide +kernel
theorem dX12_knowing_14 : decode cX12_knowing 14 = .ok (.istore_n 2, 1) := by decide +kernel
theorem dX12_knowing_15 : decode cX12_knowing 15 = .ok (.iconst 1, 1) := by decide +kernel
theorem dX12_knowing_16 : decode cX12_knowing 16 = .ok (.istore_n 3, 1) := by decide +kernel
theorem dX12_knowing_17 : decode cX12_knowing 17 = .ok (.iload_n 3, 1) := by decide +kernel
theorem dX12_knowing_18 : decode cX12_knowing 18 = .ok (.iload_n 1, 1) := by decide +kernel
theorem dX12_knowing_19 : decode cX12_knowing 19 = .ok (.if_icmp .ge 28, 3) := by decide +kernel
theorem dX12_knowing_22 : decode cX12_knowing 22 = .ok (.iload_n 2, 1) := by decide +kernel
theorem dX12_knowing_23 : decode cX12_knowing 23 = .ok (.aload_n 0, 1) := by decide +kernel
theorem dX12_knowing_24 : decode cX12_knowing 24 = .ok (.getfield 110, 3) := by decide +kernel
theorem dX12_knowing_27 : decode cX12_knowing 27 = .ok (.iload_n 3, 1) := by decide +kernel
theorem dX12_knowing_28 : decode cX12_knowing 28 = .ok (.iconst 1, 1) := by decide +kernel
theorem dX12_knowing_29 : decode cX12_knowing 29 = .ok (.isub, 1) := by decide +kernel
theorem dX12_knowing_30 : decode cX12_knowing 30 = .ok (.iaload, 1) := by decide +kernel
theorem dX12_knowing_31 : decode cX12_knowing 31 = .ok (.ifCond .eq 7, 3) := by decide +kernel
theorem dX12_knowing_34 : decode cX12_knowing 34 = .ok (.iconst 1, 1) := by decide +kernel
theorem dX12_knowing_35 : decode cX12_knowing 35 = .ok (.goto 4, 3) := by decide +kernel
theorem dX12_knowing_38 : decode cX12_knowing 38 = .ok (.iconst 0, 1) := by decide +kernel
theorem dX12_knowing_39 : decode cX12_knowing 39 = .ok (.iadd, 1) := by decide +kernel
theorem dX12_knowing_40 : decode cX12_knowing 40 = .ok (.istore_n 2, 1) := by decide +kernel
theorem dX12_knowing_41 : decode cX12_knowing 41 = .ok (.iinc 3 1, 3) := by decide +kernel
theorem dX12_knowing_44 : decode cX12_knowing 44 = .ok (.goto (-27), 3) := by decide +kernel
theorem dX12_knowing_47 : decode cX12_knowing 47 = .ok (.iload_n 2, 1) := by decide +kernel
theorem dX12_knowing_48 : decode cX12_knowing 48 = .ok (.ireturn, 1) := by decide +kernel
theorem mokX12_knowing : MOK yX12_knowing cX12_knowing 4 (some .int) 1 := ⟨w9_77, w1_13, ⟨by decide, by decide⟩, by decide +kernel, by decide⟩
abbrev miX12_knowing : MI := (yX12_knowing.cls, cX12_knowing, 4, 1, false)
noncomputable def LX12_knowing_1 : Sm Int32 := dLoop (fun f => (sI (sI (sI (sR fr0 0 (gR f 0)) 1 (gI f 1)) 2 (gI f 2)) 3 (gI f 3))) (dCI r_lt (vI 3) (vI 1)) (dSetI 2 (d2 o_iadd (vI 2) (dT (dCZ q_ne (dAI (dGR 12 48 (vR 0)) (d2 o_isub (vI 3) (cI 1)))) (cI 1) (cI 0)))) (dInc 3 1)
theorem sLX12_knowing_1 {ΓL : Gm} {PB PK : List Nat} : SS (cvoI, .ireturn) miX12_knowing ΓL PB PK [(0, 2), (1, 0), (2, 0), (3, 0)] [(0, 2), (1, 0), (2, 0), (3, 0)] 17 [47] LX12_knowing_1 := t_loop (pT := 22) (pF := 47) (pu := 41) (PB' := []) (PK' := []) (XB := [41]) (XU := [44]) (fun _ _ => rfl) rfl (c_lt_F (pF := 47) (s_iload_n dX12_knowing_17 rfl rfl) (s_iload_n dX12_knowing_18 rfl rfl) dX12_knowing_19 rfl) (t_istore_n (s_iadd (s_iload_n dX12_knowing_22 rfl rfl) (s_T (pT := 34) (pF := 38) (p1 := 35) (pe := 39) (c_ne_ZF (pF := 38) (s_dAI (s_getR ck12 48 (by decide) rfl (s_aload_n dX12_knowing_23 rfl rfl) dX12_knowing_24 w7_13) (s_isub (s_iload_n dX12_knowing_27 rfl rfl) (s_iconst dX12_knowing_28 rfl) dX12_knowing_29) dX12_knowing_30) dX12_knowing_31 rfl) (s_iconst dX12_knowing_34 rfl) (s_iconst dX12_knowing_38 rfl) (ld_goto (y := 39) dX12_knowing_35 rfl (ld_in rfl))) dX12_knowing_39) dX12_knowing_40 rfl rfl rfl) (t_iinc dX12_knowing_41 rfl rfl rfl rfl) (lda_cons (ld_in rfl) lda_nil) lda_nil (lda_cons (ld_goto (y := 17) dX12_knowing_44 rfl (ld_in rfl)) lda_nil) (ld_in rfl) lda_nil
noncomputable def BX12_knowing : Sm Int32 := (dSeq (dSetI 2 (dT (dCZ q_ne (dAI (dGR 12 48 (vR 0)) (cI 0))) (cI 1) (cI 0))) (dSeq (dSeq (dSetI 3 (cI 1)) LX12_knowing_1) (dRet (vI 2))))
theorem sBX12_knowing : SS (cvoI, .ireturn) miX12_knowing [] [] [] [(0, 2), (1, 0)] [(0, 2), (1, 0)] 0 [] BX12_knowing := (t_sq (p1 := 15) (Γ' := [(0, 2), (1, 0), (2, 0)]) (t_istore_n (s_T (pT := 9) (pF := 13) (p1 := 10) (pe := 14) (c_ne_ZF (pF := 13) (s_dAI (s_getR ck12 48 (by decide) rfl (s_aload_n dX12_knowing_0 rfl rfl) dX12_knowing_1 w7_13) (s_iconst dX12_knowing_4 rfl) dX12_knowing_5) dX12_knowing_6 rfl) (s_iconst dX12_knowing_9 rfl) (s_iconst dX12_knowing_13 rfl) (ld_goto (y := 14) dX12_knowing_10 rfl (ld_in rfl))) dX12_knowing_14 rfl rfl rfl) (t_sq (p1 := 47) (Γ' := [(0, 2), (1, 0), (2, 0)]) (t_sq (p1 := 17) (Γ' := [(0, 2), (1, 0), (2, 0), (3, 0)]) (t_istore_n (s_iconst dX12_knowing_15 rfl) dX12_knowing_16 rfl rfl rfl) (tn_to (Γ' := [(0, 2), (1, 0), (2, 0), (3, 0)]) (XA := [47]) sLX12_knowing_1 (lda_cons (ld_in rfl) lda_nil) rfl)) (t_ret (cv := cvI) (fun _ _ => rfl) (s_iload_n dX12_knowing_47 rfl rfl) dX12_knowing_48)))
noncomputable def DX12_knowing : Fr → St → Option (Int32 × St) := M1 (fun f => (sI (sR fr0 0 (gR f 0)) 1 (gI f 1))) BX12_knowing
theorem kX12_knowing : SND yX12_knowing cX12_knowing 4 (some .int) 1 [(0, 2), (1, 0)] cvoI DX12_knowing := snd_I (nw := 2) (by decide) rfl rfl (fun _ _ => rfl) sBX12_knowing
theorem dX12_tells_0 : decode cX12_tells 0 = .ok (.aload_n 0, 1) := by decide +kernel
theorem dX12_tells_1 : decode cX12_tells 1 = .ok (.iconst 0, 1) := by decide +kernel
theorem dX12_tells_2 : decode cX12_tells 2 = .ok (.putfield 122, 3) := by decide +kernel
theorem dX12_tells_5 : decode cX12_tells 5 = .ok (.aload_n 0, 1) := by decide +kernel
theorem dX12_tells_6 : decode cX12_tells 6 = .ok (.iload_n 1, 1) := by decide +kernel
theorem dX12_tells_7 : decode cX12_tells 7 = .ok (.invokevirtual 366, 3) := by decide +kernel
theorem dX12_tells_10 : decode cX12_tells 10 = .ok (.ifCond .eq 23, 3) := by decide +kernel
theorem dX12_tells_13 : decode cX12_tells 13 = .ok (.aload_n 0, 1) := by decide +kernel
theorem dX12_tells_14 : decode cX12_tells 14 = .ok (.iload_n 2, 1) := by decide +kernel
theorem dX12_tells_15 : decode cX12_tells 15 = .ok (.invokevirtual 372, 3) := by decide +kernel
theorem dX12_tells_18 : decode cX12_tells 18 = .ok (.ifCond .eq 15, 3) := by decide +kernel
theorem dX12_tells_21 : decode cX12_tells 21 = .ok (.iload_n 3, 1) := by decide +kernel
theorem dX12_tells_22 : decode cX12_tells 22 = .ok (.i2l, 1) := by decide +kernel
theorem dX12_tells_23 : decode cX12_tells 23 = .ok (.lconst 0, 1) := by decide +kernel
theorem dX12_tells_24 : decode cX12_tells 24 = .ok (.ldc2_w 418, 3) := by decide +kernel
theorem dX12_tells_27 : decode cX12_tells 27 = .ok (.invokestatic 127, 3) := by decide +kernel
theorem dX12_tells_30 : decode cX12_tells 30 = .ok (.ifCond .ne 6, 3) := by decide +kernel
theorem dX12_tells_33 : decode cX12_tells 33 = .ok (.bipush (-2), 2) := by decide +kernel
theorem dX12_tells_35 : decode cX12_tells 35 = .ok (.ireturn, 1) := by decide +kernel
theorem dX12_tells_36 : decode cX12_tells 36 = .ok (.aload_n 0, 1) := by decide +kernel
theorem dX12_tells_37 : decode cX12_tells 37 = .ok (.iload_n 2, 1) := by decide +kernel
theorem dX12_tells_38 : decode cX12_tells 38 = .ok (.aload_n 0, 1) := by decide +kernel
theorem dX12_tells_39 : decode cX12_tells 39 = .ok (.getfield 43, 3) := by decide +kernel
theorem dX12_tells_42 : decode cX12_tells 42 = .ok (.iconst 2, 1) := by decide +kernel
theorem dX12_tells_43 : decode cX12_tells 43 = .ok (.iload_n 1, 1) := by decide +kernel
theorem dX12_tells_44 : decode cX12_tells 44 = .ok (.imul, 1) := by decide +kernel
theorem dX12_tells_45 : decode cX12_tells 45 = .ok (.iconst 1, 1) := by decide +kernel
theorem dX12_tells_46 : decode cX12_tells 46 = .ok (.iadd, 1) := by decide +kernel
theorem dX12_tells_47 : decode cX12_tells 47 = .ok (.iaload, 1) := by decide +kernel
theorem dX12_tells_48 : decode cX12_tells 48 = .ok (.invokevirtual 403, 3) := by decide +kernel
theorem dX12_tells_51 : decode cX12_tells 51 = .ok (.iconst 0, 1) := by decide +kernel
theorem dX12_tells_52 : decode cX12_tells 52 = .ok (.istore 4, 2) := by decide +kernel
theorem dX12_tells_54 : decode cX12_tells 54 = .ok (.iconst 0, 1) := by decide +kernel
theorem dX12_tells_55 : decode cX12_tells 55 = .ok (.istore 5, 2) := by decide +kernel
theorem dX12_tells_57 : decode cX12_tells 57 = .ok (.iload 5, 2) := by decide +kernel
theorem dX12_tells_59 : decode cX12_tells 59 = .ok (.sipush 2048, 3) := by decide +kernel
theorem dX12_tells_62 : decode cX12_tells 62 = .ok (.if_icmp .ge 53, 3) := by decide +kernel
theorem dX12_tells_65 : decode cX12_tells 65 = .ok (.aload_n 0, 1) := by decide +kernel
theorem dX12_tells_66 : decode cX12_tells 66 = .ok (.getfield 113, 3) := by decide +kernel
theorem dX12_tells_69 : decode cX12_tells 69 = .ok (.iload 5, 2) := by decide +kernel
theorem dX12_tells_71 : decode cX12_tells 71 = .ok (.iaload, 1) := by decide +kernel
theorem dX12_tells_72 : decode cX12_tells 72 = .ok (.iload_n 3, 1) := by decide +kernel
theorem dX12_tells_73 : decode cX12_tells 73 = .ok (.if_icmp .gt 36, 3) := by decide +kernel
theorem dX12_tells_76 : decode cX12_tells 76 = .ok (.aload_n 0, 1) := by decide +kernel
theorem dX12_tells_77 : decode cX12_tells 77 = .ok (.iload 5, 2) := by decide +kernel
theorem dX12_tells_79 : decode cX12_tells 79 = .ok (.sipush 256, 3) := by decide +kernel
theorem dX12_tells_82 : decode cX12_tells 82 = .ok (.irem, 1) := by decide +kernel
theorem dX12_tells_83 : decode cX12_tells 83 = .ok (.invokestatic 394, 3) := by decide +kernel
theorem dX12_tells_86 : decode cX12_tells 86 = .ok (.invokevirtual 420, 3) := by decide +kernel
theorem dX12_tells_89 : decode cX12_tells 89 = .ok (.iload 4, 2) := by decide +kernel
theorem dX12_tells_91 : decode cX12_tells 91 = .ok (.if_icmp .le 18, 3) := by decide +kernel
theorem dX12_tells_94 : decode cX12_tells 94 = .ok (.aload_n 0, 1) := by decide +kernel
theorem dX12_tells_95 : decode cX12_tells 95 = .ok (.iload 5, 2) := by decide +kernel
theorem dX12_tells_97 : decode cX12_tells 97 = .ok (.sipush 256, 3) := by decide +kernel
theorem dX12_tells_100 : decode cX12_tells 100 = .ok (.irem, 1) := by decide +kernel
theorem dX12_tells_101 : decode cX12_tells 101 = .ok (.invokestatic 394, 3) := by decide +kernel
theorem dX12_tells_104 : decode cX12_tells 104 = .ok (.invokevirtual 420, 3) := by decide +kernel
theorem dX12_tells_107 : decode cX12_tells 107 = .ok (.istore 4, 2) := by decide +kernel
theorem dX12_tells_109 : decode cX12_tells 109 = .ok (.iinc 5 1, 3) := by decide +kernel
theorem dX12_tells_112 : decode cX12_tells 112 = .ok (.goto (-55), 3) := by decide +kernel
theorem dX12_tells_115 : decode cX12_tells 115 = .ok (.iload 4, 2) := by decide +kernel
theorem dX12_tells_117 : decode cX12_tells 117 = .ok (.ireturn, 1) := by decide +kernel
theorem mokX12_tells : MOK yX12_tells cX12_tells 6 (some .int) 3 := ⟨w9_72, w1_13, ⟨by decide, by decide⟩, by decide +kernel, by decide⟩
abbrev miX12_tells : MI := (yX12_tells.cls, cX12_tells, 6, 4, false)
noncomputable def LX12_tells_1 : Sm Int32 := dLoop (fun f => (sI (sI (sI (sI (sI (sR fr0 0 (gR f 0)) 1 (gI f 1)) 2 (gI f 2)) 3 (gI f 3)) 4 (gI f 4)) 5 (gI f 5))) (dCI r_lt (vI 5) (cI 2048)) (dIf (dAnd (dCI r_le (dAI (dGR 12 49 (vR 0)) (vI 5)) (vI 3)) (dCI r_gt (dCallV 12 DX12_knowing (aI (aR aN 0 (vR 0)) 1 (dCall DX12_sizeOf (aI aN 0 (d2z o_irem (vI 5) (cI 256)))))) (vI 4))) (dSetI 4 (dCallV 12 DX12_knowing (aI (aR aN 0 (vR 0)) 1 (dCall DX12_sizeOf (aI aN 0 (d2z o_irem (vI 5) (cI 256))))))) dSkip) (dInc 5 1)
theorem sLX12_tells_1 {ΓL : Gm} {PB PK : List Nat} : SS (cvoI, .ireturn) miX12_tells ΓL PB PK [(0, 2), (1, 0), (2, 0), (3, 0), (4, 0), (5, 0)] [(0, 2), (1, 0), (2, 0), (3, 0), (4, 0), (5, 0)] 57 [115] LX12_tells_1 := t_loop (pT := 65) (pF := 115) (pu := 109) (PB' := []) (PK' := []) (XB := [109]) (XU := [112]) (fun _ _ => rfl) rfl (c_lt_F (pF := 115) (s_iload dX12_tells_57 rfl) (s_sipush dX12_tells_59 rfl) dX12_tells_62 rfl) (t_if (pT := 94) (pF := 109) (X := [109]) (XA := [109]) (XB := [109]) (c_and (p1 := 76) (pT := 94) (pF := 109) (c_le_F (pF := 109) (s_dAI (s_getR ck12 49 (by decide) rfl (s_aload_n dX12_tells_65 rfl rfl) dX12_tells_66 w7_14) (s_iload dX12_tells_69 rfl) dX12_tells_71) (s_iload_n dX12_tells_72 rfl rfl) dX12_tells_73 rfl) (c_gt_F (pF := 109) (s_of_xI (x_callV (ts := [(0, 2), (1, 0)]) ck12 rfl kX12_knowing mokX12_knowing w9_76 ps7_0 rfl rfl rfl rfl (a_I (ts := [(0, 2)]) 1 (a_R (ts := []) 0 a_nil (s_aload_n dX12_tells_76 rfl rfl) rfl) (s_of_xI (x_call (ts := [(0, 0)]) kX12_sizeOf mokX12_sizeOf w9_11 rfl rfl rfl (a_I (ts := []) 0 a_nil (s_irem (s_iload dX12_tells_77 rfl) (s_sipush dX12_tells_79 rfl) dX12_tells_82) rfl) dX12_tells_83 w9_10)) rfl) dX12_tells_86 w9_74)) (s_iload dX12_tells_89 rfl) dX12_tells_91 rfl)) (t_istore (s_of_xI (x_callV (ts := [(0, 2), (1, 0)]) ck12 rfl kX12_knowing mokX12_knowing w9_76 ps7_0 rfl rfl rfl rfl (a_I (ts := [(0, 2)]) 1 (a_R (ts := []) 0 a_nil (s_aload_n dX12_tells_94 rfl rfl) rfl) (s_of_xI (x_call (ts := [(0, 0)]) kX12_sizeOf mokX12_sizeOf w9_11 rfl rfl rfl (a_I (ts := []) 0 a_nil (s_irem (s_iload dX12_tells_95 rfl) (s_sipush dX12_tells_97 rfl) dX12_tells_100) rfl) dX12_tells_101 w9_10)) rfl) dX12_tells_104 w9_74)) dX12_tells_107 rfl rfl) (t_skip (ld_in rfl) rfl) (lda_cons (ld_in rfl) lda_nil) (lda_cons (ld_in rfl) lda_nil)) (t_iinc dX12_tells_109 rfl rfl rfl rfl) (lda_cons (ld_in rfl) lda_nil) lda_nil (lda_cons (ld_goto (y := 57) dX12_tells_112 rfl (ld_in rfl)) lda_nil) (ld_in rfl) lda_nil
noncomputable def BX12_tells : Sm Int32 := (dSeq (dP (fI 12 0) (vR 0) (cI 0)) (dSeq (dIf (dOr (dOr (dNot (dCZ q_ne (dCallV 12 DX12_isCarrier (aI (aR aN 0 (vR 0)) 1 (vI 1))))) (dNot (dCZ q_ne (dCallV 12 DX12_isSlate (aI (aR aN 0 (vR 0)) 1 (vI 2)))))) (dNot (dCZ q_ne (dCall DX12_in (aL (aL (aL aN 0 (d1 o_i2l (vI 3))) 2 (cL 0)) 4 (cL 7)))))) (dRet (cI (-2))) dSkip) (dSeq (dDo (dCallV 12 DX12_laysAlone (aI (aI (aR aN 0 (vR 0)) 1 (vI 2)) 2 (dAI (dGR 12 20 (vR 0)) (d2 o_iadd (d2 o_imul (cI 2) (vI 1)) (cI 1)))))) (dSeq (dSetI 4 (cI 0)) (dSeq (dSeq (dSetI 5 (cI 0)) LX12_tells_1) (dRet (vI 4)))))))
theorem sBX12_tells : SS (cvoI, .ireturn) miX12_tells [] [] [] [(0, 2), (1, 0), (2, 0), (3, 0)] [(0, 2), (1, 0), (2, 0), (3, 0)] 0 [] BX12_tells := (t_sq (p1 := 5) (Γ' := [(0, 2), (1, 0), (2, 0), (3, 0)]) (t_pI ck12 0 (by decide) rfl (Or.inl rfl) (s_aload_n dX12_tells_0 rfl rfl) (s_iconst dX12_tells_1 rfl) dX12_tells_2 w6_205 rfl) (t_sq (p1 := 36) (Γ' := [(0, 2), (1, 0), (2, 0), (3, 0)]) (t_if (pT := 33) (pF := 36) (X := [36]) (XA := []) (XB := [36]) (c_or (p1 := 21) (pT := 33) (pF := 36) (c_or (p1 := 13) (pT := 33) (pF := 21) (c_not (pT := 33) (pF := 13) (c_ne_ZF (pF := 33) (s_of_xI (x_callV (ts := [(0, 2), (1, 0)]) ck12 rfl kX12_isCarrier mokX12_isCarrier w8_70 ps5_2 rfl rfl rfl rfl (a_I (ts := [(0, 2)]) 1 (a_R (ts := []) 0 a_nil (s_aload_n dX12_tells_5 rfl rfl) rfl) (s_iload_n dX12_tells_6 rfl rfl) rfl) dX12_tells_7 w8_68)) dX12_tells_10 rfl)) (c_not (pT := 33) (pF := 21) (c_ne_ZF (pF := 33) (s_of_xI (x_callV (ts := [(0, 2), (1, 0)]) ck12 rfl kX12_isSlate mokX12_isSlate w8_85 ps5_4 rfl rfl rfl rfl (a_I (ts := [(0, 2)]) 1 (a_R (ts := []) 0 a_nil (s_aload_n dX12_tells_13 rfl rfl) rfl) (s_iload_n dX12_tells_14 rfl rfl) rfl) dX12_tells_15 w8_83)) dX12_tells_18 rfl))) (c_not (pT := 33) (pF := 36) (c_ne_ZJ (pT := 36) (s_of_xI (x_call (ts := [(0, 1), (2, 1), (4, 1)]) kX12_in mokX12_in w7_141 rfl rfl rfl (a_L (ts := [(0, 1), (2, 1)]) 4 (a_L (ts := [(0, 1)]) 2 (a_L (ts := []) 0 a_nil (s_i2l (s_iload_n dX12_tells_21 rfl rfl) dX12_tells_22) rfl) (s_lconst dX12_tells_23 rfl) rfl) (s_ldc2 dX12_tells_24 w9_73) rfl) dX12_tells_27 w7_140)) dX12_tells_30 rfl))) (t_ret (cv := cvI) (fun _ _ => rfl) (s_bipush dX12_tells_33 rfl) dX12_tells_35) (t_skip (ld_in rfl) rfl) lda_nil (lda_cons (ld_in rfl) lda_nil)) (t_sq (p1 := 51) (Γ' := [(0, 2), (1, 0), (2, 0), (3, 0)]) (t_do (x_callV (ts := [(0, 2), (1, 0), (2, 0)]) ck12 rfl kX12_laysAlone mokX12_laysAlone w9_43 ps6_13 rfl rfl rfl rfl (a_I (ts := [(0, 2), (1, 0)]) 2 (a_I (ts := [(0, 2)]) 1 (a_R (ts := []) 0 a_nil (s_aload_n dX12_tells_36 rfl rfl) rfl) (s_iload_n dX12_tells_37 rfl rfl) rfl) (s_dAI (s_getR ck12 20 (by decide) rfl (s_aload_n dX12_tells_38 rfl rfl) dX12_tells_39 w6_225) (s_iadd (s_imul (s_iconst dX12_tells_42 rfl) (s_iload_n dX12_tells_43 rfl rfl) dX12_tells_44) (s_iconst dX12_tells_45 rfl) dX12_tells_46) dX12_tells_47) rfl) dX12_tells_48 w9_41) rfl) (t_sq (p1 := 54) (Γ' := [(0, 2), (1, 0), (2, 0), (3, 0), (4, 0)]) (t_istore (s_iconst dX12_tells_51 rfl) dX12_tells_52 rfl rfl) (t_sq (p1 := 115) (Γ' := [(0, 2), (1, 0), (2, 0), (3, 0), (4, 0)]) (t_sq (p1 := 57) (Γ' := [(0, 2), (1, 0), (2, 0), (3, 0), (4, 0), (5, 0)]) (t_istore (s_iconst dX12_tells_54 rfl) dX12_tells_55 rfl rfl) (tn_to (Γ' := [(0, 2), (1, 0), (2, 0), (3, 0), (4, 0), (5, 0)]) (XA := [115]) sLX12_tells_1 (lda_cons (ld_in rfl) lda_nil) rfl)) (t_ret (cv := cvI) (fun _ _ => rfl) (s_iload dX12_tells_115 rfl) dX12_tells_117))))))
noncomputable def DX12_tells : Fr → St → Option (Int32 × St) := M1 (fun f => (sI (sI (sI (sR fr0 0 (gR f 0)) 1 (gI f 1)) 2 (gI f 2)) 3 (gI f 3))) BX12_tells
theorem kX12_tells : SND yX12_tells cX12_tells 6 (some .int) 4 [(0, 2), (1, 0), (2, 0), (3, 0)] cvoI DX12_tells := snd_I (nw := 4) (by decide) rfl rfl (fun _ _ => rfl) sBX12_tells
theorem dX12_cart_0 : decode cX12_cart 0 = .ok (.aload_n 0, 1) := by decide +kernel
theorem dX12_cart_1 : decode cX12_cart 1 = .ok (.iconst 0, 1) := by decide +kernel
theorem dX12_cart_2 : decode cX12_cart 2 = .ok (.putfield 122, 3) := by decide +kernel
theorem dX12_cart_5 : decode cX12_cart 5 = .ok (.iload_n 1, 1) := by decide +kernel
theorem dX12_cart_6 : decode cX12_cart 6 = .ok (.i2l, 1) := by decide +kernel
theorem dX12_cart_7 : decode cX12_cart 7 = .ok (.lconst 1, 1) := by decide +kernel
theorem dX12_cart_8 : decode cX12_cart 8 = .ok (.iconst 1, 1) := by decide +kernel
theorem dX12_cart_9 : decode cX12_cart 9 = .ok (.aload_n 0, 1) := by decide +kernel
theorem dX12_cart_10 : decode cX12_cart 10 = .ok (.invokevirtual 295, 3) := by decide +kernel
theorem dX12_cart_13 : decode cX12_cart 13 = .ok (.ishl, 1) := by decide +kernel
theorem dX12_cart_14 : decode cX12_cart 14 = .ok (.i2l, 1) := by decide +kernel
theorem dX12_cart_15 : decode cX12_cart 15 = .ok (.lconst 1, 1) := by decide +kernel
theorem dX12_cart_16 : decode cX12_cart 16 = .ok (.lsub, 1) := by decide +kernel
theorem dX12_cart_17 : decode cX12_cart 17 = .ok (.invokestatic 127, 3) := by decide +kernel
theorem dX12_cart_20 : decode cX12_cart 20 = .ok (.ifCond .eq 30, 3) := by decide +kernel
theorem dX12_cart_23 : decode cX12_cart 23 = .ok (.aload_n 0, 1) := by decide +kernel
theorem dX12_cart_24 : decode cX12_cart 24 = .ok (.iload_n 2, 1) := by decide +kernel
theorem dX12_cart_25 : decode cX12_cart 25 = .ok (.invokevirtual 372, 3) := by decide +kernel
theorem dX12_cart_28 : decode cX12_cart 28 = .ok (.ifCond .eq 22, 3) := by decide +kernel
theorem dX12_cart_31 : decode cX12_cart 31 = .ok (.aload_n 0, 1) := by decide +kernel
theorem dX12_cart_32 : decode cX12_cart 32 = .ok (.iload_n 3, 1) := by decide +kernel
theorem dX12_cart_33 : decode cX12_cart 33 = .ok (.i2l, 1) := by decide +kernel
theorem dX12_cart_34 : decode cX12_cart 34 = .ok (.invokevirtual 307, 3) := by decide +kernel
theorem dX12_cart_37 : decode cX12_cart 37 = .ok (.ifCond .eq 13, 3) := by decide +kernel
theorem dX12_cart_40 : decode cX12_cart 40 = .ok (.aload_n 0, 1) := by decide +kernel
theorem dX12_cart_41 : decode cX12_cart 41 = .ok (.iload_n 1, 1) := by decide +kernel
theorem dX12_cart_42 : decode cX12_cart 42 = .ok (.iload_n 2, 1) := by decide +kernel
theorem dX12_cart_43 : decode cX12_cart 43 = .ok (.iload_n 3, 1) := by decide +kernel
theorem dX12_cart_44 : decode cX12_cart 44 = .ok (.invokevirtual 412, 3) := by decide +kernel
theorem dX12_cart_47 : decode cX12_cart 47 = .ok (.goto 5, 3) := by decide +kernel
theorem dX12_cart_50 : decode cX12_cart 50 = .ok (.bipush (-2), 2) := by decide +kernel
theorem dX12_cart_52 : decode cX12_cart 52 = .ok (.ireturn, 1) := by decide +kernel
theorem mokX12_cart : MOK yX12_cart cX12_cart 4 (some .int) 3 := ⟨w9_81, w1_13, ⟨by decide, by decide⟩, by decide +kernel, by decide⟩
abbrev miX12_cart : MI := (yX12_cart.cls, cX12_cart, 4, 5, false)
noncomputable def BX12_cart : Sm Int32 := (dSeq (dP (fI 12 0) (vR 0) (cI 0)) (dRet (dT (dAnd (dAnd (dCZ q_ne (dCall DX12_in (aL (aL (aL aN 0 (d1 o_i2l (vI 1))) 2 (cL 1)) 4 (d2 o_lsub (d1 o_i2l (d2 o_ishl (cI 1) (dCallV 12 DX12_carriers (aR aN 0 (vR 0))))) (cL 1))))) (dCZ q_ne (dCallV 12 DX12_isSlate (aI (aR aN 0 (vR 0)) 1 (vI 2))))) (dCZ q_ne (dCallV 12 DX12_isHouse (aL (aR aN 0 (vR 0)) 1 (d1 o_i2l (vI 3)))))) (dCallV 12 DX12_cartOf (aI (aI (aI (aR aN 0 (vR 0)) 1 (vI 1)) 2 (vI 2)) 3 (vI 3))) (cI (-2)))))
theorem sBX12_cart : SS (cvoI, .ireturn) miX12_cart [] [] [] [(0, 2), (1, 0), (2, 0), (3, 0)] [(0, 2), (1, 0), (2, 0), (3, 0)] 0 [] BX12_cart := (t_sq (p1 := 5) (Γ' := [(0, 2), (1, 0), (2, 0), (3, 0)]) (t_pI ck12 0 (by decide) rfl (Or.inl rfl) (s_aload_n dX12_cart_0 rfl rfl) (s_iconst dX12_cart_1 rfl) dX12_cart_2 w6_205 rfl) (t_ret (cv := cvI) (fun _ _ => rfl) (s_T (pT := 40) (pF := 50) (p1 := 47) (pe := 52) (c_and (p1 := 31) (pT := 40) (pF := 50) (c_and (p1 := 23) (pT := 31) (pF := 50) (c_ne_ZF (pF := 50) (s_of_xI (x_call (ts := [(0, 1), (2, 1), (4, 1)]) kX12_in mokX12_in w7_141 rfl rfl rfl (a_L (ts := [(0, 1), (2, 1)]) 4 (a_L (ts := [(0, 1)]) 2 (a_L (ts := []) 0 a_nil (s_i2l (s_iload_n dX12_cart_5 rfl rfl) dX12_cart_6) rfl) (s_lconst dX12_cart_7 rfl) rfl) (s_lsub (s_i2l (s_ishl (s_iconst dX12_cart_8 rfl) (s_of_xI (x_callV (ts := [(0, 2)]) ck12 rfl kX12_carriers mokX12_carriers w8_74 ps5_3 rfl rfl rfl rfl (a_R (ts := []) 0 a_nil (s_aload_n dX12_cart_9 rfl rfl) rfl) dX12_cart_10 w8_72)) dX12_cart_13) dX12_cart_14) (s_lconst dX12_cart_15 rfl) dX12_cart_16) rfl) dX12_cart_17 w7_140)) dX12_cart_20 rfl) (c_ne_ZF (pF := 50) (s_of_xI (x_callV (ts := [(0, 2), (1, 0)]) ck12 rfl kX12_isSlate mokX12_isSlate w8_85 ps5_4 rfl rfl rfl rfl (a_I (ts := [(0, 2)]) 1 (a_R (ts := []) 0 a_nil (s_aload_n dX12_cart_23 rfl rfl) rfl) (s_iload_n dX12_cart_24 rfl rfl) rfl) dX12_cart_25 w8_83)) dX12_cart_28 rfl)) (c_ne_ZF (pF := 50) (s_of_xI (x_callV (ts := [(0, 2), (1, 1)]) ck12 rfl kX12_isHouse mokX12_isHouse w8_58 ps5_0 rfl rfl rfl rfl (a_L (ts := [(0, 2)]) 1 (a_R (ts := []) 0 a_nil (s_aload_n dX12_cart_31 rfl rfl) rfl) (s_i2l (s_iload_n dX12_cart_32 rfl rfl) dX12_cart_33) rfl) dX12_cart_34 w8_56)) dX12_cart_37 rfl)) (s_of_xI (x_callV (ts := [(0, 2), (1, 0), (2, 0), (3, 0)]) ck12 rfl kX12_cartOf mokX12_cartOf w9_35 ps6_11 rfl rfl rfl rfl (a_I (ts := [(0, 2), (1, 0), (2, 0)]) 3 (a_I (ts := [(0, 2), (1, 0)]) 2 (a_I (ts := [(0, 2)]) 1 (a_R (ts := []) 0 a_nil (s_aload_n dX12_cart_40 rfl rfl) rfl) (s_iload_n dX12_cart_41 rfl rfl) rfl) (s_iload_n dX12_cart_42 rfl rfl) rfl) (s_iload_n dX12_cart_43 rfl rfl) rfl) dX12_cart_44 w9_33)) (s_bipush dX12_cart_50 rfl) (ld_goto (y := 52) dX12_cart_47 rfl (ld_in rfl))) dX12_cart_52))
noncomputable def DX12_cart : Fr → St → Option (Int32 × St) := M1 (fun f => (sI (sI (sI (sR fr0 0 (gR f 0)) 1 (gI f 1)) 2 (gI f 2)) 3 (gI f 3))) BX12_cart
theorem kX12_cart : SND yX12_cart cX12_cart 4 (some .int) 5 [(0, 2), (1, 0), (2, 0), (3, 0)] cvoI DX12_cart := snd_I (nw := 4) (by decide) rfl rfl (fun _ _ => rfl) sBX12_cart
theorem dX12_worthOf_0 : decode cX12_worthOf 0 = .ok (.iload_n 2, 1) := by decide +kernel
theorem dX12_worthOf_1 : decode cX12_worthOf 1 = .ok (.ifCond .ne 7, 3) := by decide +kernel
theorem dX12_worthOf_4 : decode cX12_worthOf 4 = .ok (.iconst 1, 1) := by decide +kernel
theorem dX12_worthOf_5 : decode cX12_worthOf 5 = .ok (.goto 16, 3) := by decide +kernel
theorem dX12_worthOf_8 : decode cX12_worthOf 8 = .ok (.aload_n 0, 1) := by decide +kernel
theorem dX12_worthOf_9 : decode cX12_worthOf 9 = .ok (.iload_n 1, 1) := by decide +kernel
theorem dX12_worthOf_10 : decode cX12_worthOf 10 = .ok (.aload_n 0, 1) := by decide +kernel
theorem dX12_worthOf_11 : decode cX12_worthOf 11 = .ok (.iload_n 2, 1) := by decide +kernel
theorem dX12_worthOf_12 : decode cX12_worthOf 12 = .ok (.invokevirtual 400, 3) := by decide +kernel
theorem dX12_worthOf_15 : decode cX12_worthOf 15 = .ok (.invokevirtual 415, 3) := by decide +kernel
theorem dX12_worthOf_18 : decode cX12_worthOf 18 = .ok (.invokestatic 394, 3) := by decide +kernel
theorem dX12_worthOf_21 : decode cX12_worthOf 21 = .ok (.ireturn, 1) := by decide +kernel
theorem mokX12_worthOf : MOK yX12_worthOf cX12_worthOf 3 (some .int) 2 := ⟨w9_96, w1_13, ⟨by decide, by decide⟩, by decide +kernel, by decide⟩
abbrev miX12_worthOf : MI := (yX12_worthOf.cls, cX12_worthOf, 3, 5, false)
noncomputable def BX12_worthOf : Sm Int32 := (dRet (dT (dCZ q_eq (vI 2)) (cI 1) (dCall DX12_sizeOf (aI aN 0 (dCallV 12 DX12_canOf (aI (aI (aR aN 0 (vR 0)) 1 (vI 1)) 2 (dCallV 12 DX12_strongOf (aI (aR aN 0 (vR 0)) 1 (vI 2)))))))))
theorem sBX12_worthOf : SS (cvoI, .ireturn) miX12_worthOf [] [] [] [(0, 2), (1, 0), (2, 0)] [(0, 2), (1, 0), (2, 0)] 0 [] BX12_worthOf := (t_ret (cv := cvI) (fun _ _ => rfl) (s_T (pT := 4) (pF := 8) (p1 := 5) (pe := 21) (c_eq_ZF (pF := 8) (s_iload_n dX12_worthOf_0 rfl rfl) dX12_worthOf_1 rfl) (s_iconst dX12_worthOf_4 rfl) (s_of_xI (x_call (ts := [(0, 0)]) kX12_sizeOf mokX12_sizeOf w9_11 rfl rfl rfl (a_I (ts := []) 0 a_nil (s_of_xI (x_callV (ts := [(0, 2), (1, 0), (2, 0)]) ck12 rfl kX12_canOf mokX12_canOf w9_59 ps6_15 rfl rfl rfl rfl (a_I (ts := [(0, 2), (1, 0)]) 2 (a_I (ts := [(0, 2)]) 1 (a_R (ts := []) 0 a_nil (s_aload_n dX12_worthOf_8 rfl rfl) rfl) (s_iload_n dX12_worthOf_9 rfl rfl) rfl) (s_of_xI (x_callV (ts := [(0, 2), (1, 0)]) ck12 rfl kX12_strongOf mokX12_strongOf w9_39 ps6_12 rfl rfl rfl rfl (a_I (ts := [(0, 2)]) 1 (a_R (ts := []) 0 a_nil (s_aload_n dX12_worthOf_10 rfl rfl) rfl) (s_iload_n dX12_worthOf_11 rfl rfl) rfl) dX12_worthOf_12 w9_37)) rfl) dX12_worthOf_15 w9_57)) rfl) dX12_worthOf_18 w9_10)) (ld_goto (y := 21) dX12_worthOf_5 rfl (ld_in rfl))) dX12_worthOf_21)
noncomputable def DX12_worthOf : Fr → St → Option (Int32 × St) := M1 (fun f => (sI (sI (sR fr0 0 (gR f 0)) 1 (gI f 1)) 2 (gI f 2))) BX12_worthOf
theorem kX12_worthOf : SND yX12_worthOf cX12_worthOf 3 (some .int) 5 [(0, 2), (1, 0), (2, 0)] cvoI DX12_worthOf := snd_I (nw := 3) (by decide) rfl rfl (fun _ _ => rfl) sBX12_worthOf
theorem dX12_times_0 : decode cX12_times 0 = .ok (.iload_n 0, 1) := by decide +kernel
theorem dX12_times_1 : decode cX12_times 1 = .ok (.iconst 2, 1) := by decide +kernel
theorem dX12_times_2 : decode cX12_times 2 = .ok (.if_icmp .ge 7, 3) := by decide +kernel
theorem dX12_times_5 : decode cX12_times 5 = .ok (.iconst 1, 1) := by decide +kernel
theorem dX12_times_6 : decode cX12_times 6 = .ok (.goto 11, 3) := by decide +kernel
theorem dX12_times_9 : decode cX12_times 9 = .ok (.iload_n 0, 1) := by decide +kernel
theorem dX12_times_10 : decode cX12_times 10 = .ok (.iload_n 0, 1) := by decide +kernel
theorem dX12_times_11 : decode cX12_times 11 = .ok (.iconst 1, 1) := by decide +kernel
theorem dX12_times_12 : decode cX12_times 12 = .ok (.isub, 1) := by decide +kernel
theorem dX12_times_13 : decode cX12_times 13 = .ok (.invokestatic 423, 3) := by decide +kernel
theorem dX12_times_16 : decode cX12_times 16 = .ok (.imul, 1) := by decide +kernel
theorem dX12_times_17 : decode cX12_times 17 = .ok (.ireturn, 1) := by decide +kernel
theorem mokX12_times : MOK yX12_times cX12_times 1 (some .int) 1 := ⟨w9_92, w1_13, ⟨by decide, by decide⟩, by decide +kernel, by decide⟩
abbrev miX12_times (n : Nat) : MI := (yX12_times.cls, cX12_times, 1, n + 1, false)
noncomputable def DX12_times_n : Nat → Fr → St → Option (Int32 × St)
  | 0 => fun _ _ => none
  | n + 1 => M1 (fun f => (sI fr0 0 (gI f 0))) (dRet (dT (dCI r_lt (vI 0) (cI 2)) (cI 1) (d2 o_imul (vI 0) (dCall (DX12_times_n n) (aI aN 0 (d2 o_isub (vI 0) (cI 1)))))))
theorem kX12_times_n : ∀ n, SND yX12_times cX12_times 1 (some .int) n [(0, 0)] cvoI (DX12_times_n n)
  | 0 => ⟨fun g h v h' q => (by cases q), fun l κ g h v h' q => (by cases q)⟩
  | n + 1 => snd_I (nw := 1) (by decide) rfl rfl (fun _ _ => rfl) (Γ' := [(0, 0)]) (t_ret (cv := cvI) (fun _ _ => rfl) (s_T (pT := 5) (pF := 9) (p1 := 6) (pe := 17) (c_lt_F (pF := 9) (s_iload_n dX12_times_0 rfl rfl) (s_iconst dX12_times_1 rfl) dX12_times_2 rfl) (s_iconst dX12_times_5 rfl) (s_imul (s_iload_n dX12_times_9 rfl rfl) (s_of_xI (x_call (ts := [(0, 0)]) (kX12_times_n n) mokX12_times w9_91 rfl (by simp) rfl (a_I (ts := []) 0 a_nil (s_isub (s_iload_n dX12_times_10 rfl rfl) (s_iconst dX12_times_11 rfl) dX12_times_12) rfl) dX12_times_13 w9_90)) dX12_times_16) (ld_goto (y := 17) dX12_times_6 rfl (ld_in rfl))) dX12_times_17)
theorem dX12_common_0 : decode cX12_common 0 = .ok (.lload_n 2, 1) := by decide +kernel
theorem dX12_common_1 : decode cX12_common 1 = .ok (.lconst 0, 1) := by decide +kernel
theorem dX12_common_2 : decode cX12_common 2 = .ok (.lcmp, 1) := by decide +kernel
theorem dX12_common_3 : decode cX12_common 3 = .ok (.ifCond .ne 18, 3) := by decide +kernel
theorem dX12_common_6 : decode cX12_common 6 = .ok (.lload_n 0, 1) := by decide +kernel
theorem dX12_common_7 : decode cX12_common 7 = .ok (.lconst 0, 1) := by decide +kernel
theorem dX12_common_8 : decode cX12_common 8 = .ok (.lcmp, 1) := by decide +kernel
theorem dX12_common_9 : decode cX12_common 9 = .ok (.ifCond .ge 8, 3) := by decide +kernel
theorem dX12_common_12 : decode cX12_common 12 = .ok (.lload_n 0, 1) := by decide +kernel
theorem dX12_common_13 : decode cX12_common 13 = .ok (.lneg, 1) := by decide +kernel
theorem dX12_common_14 : decode cX12_common 14 = .ok (.goto 14, 3) := by decide +kernel
theorem dX12_common_17 : decode cX12_common 17 = .ok (.lload_n 0, 1) := by decide +kernel
theorem dX12_common_18 : decode cX12_common 18 = .ok (.goto 10, 3) := by decide +kernel
theorem dX12_common_21 : decode cX12_common 21 = .ok (.lload_n 2, 1) := by decide +kernel
theorem dX12_common_22 : decode cX12_common 22 = .ok (.lload_n 0, 1) := by decide +kernel
theorem dX12_common_23 : decode cX12_common 23 = .ok (.lload_n 2, 1) := by decide +kernel
theorem dX12_common_24 : decode cX12_common 24 = .ok (.lrem, 1) := by decide +kernel
theorem dX12_common_25 : decode cX12_common 25 = .ok (.invokestatic 426, 3) := by decide +kernel
theorem dX12_common_28 : decode cX12_common 28 = .ok (.lreturn, 1) := by decide +kernel
theorem mokX12_common : MOK yX12_common cX12_common 4 (some .long) 2 := ⟨w9_102, w1_13, ⟨by decide, by decide⟩, by decide +kernel, by decide⟩
abbrev miX12_common (n : Nat) : MI := (yX12_common.cls, cX12_common, 4, n + 1, false)
noncomputable def DX12_common_n : Nat → Fr → St → Option (Int64 × St)
  | 0 => fun _ _ => none
  | n + 1 => M1 (fun f => (sL (sL fr0 0 (gL f 0)) 2 (gL f 2))) (dRet (dT (dCZ q_eq (d2 o_lcmp (vL 2) (cL 0))) (dT (dCZ q_lt (d2 o_lcmp (vL 0) (cL 0))) (d1 o_lneg (vL 0)) (vL 0)) (dCall (DX12_common_n n) (aL (aL aN 0 (vL 2)) 2 (d2z o_lrem (vL 0) (vL 2))))))
theorem kX12_common_n : ∀ n, SND yX12_common cX12_common 4 (some .long) n [(0, 1), (2, 1)] cvoL (DX12_common_n n)
  | 0 => ⟨fun g h v h' q => (by cases q), fun l κ g h v h' q => (by cases q)⟩
  | n + 1 => snd_L (nw := 4) (by decide) rfl rfl (fun _ _ => rfl) (Γ' := [(0, 1), (2, 1)]) (t_ret (cv := cvL) (fun _ _ => rfl) (s_T (pT := 6) (pF := 21) (p1 := 28) (pe := 28) (c_eq_ZF (pF := 21) (s_lcmp (s_lload_n dX12_common_0 rfl rfl) (s_lconst dX12_common_1 rfl) dX12_common_2) dX12_common_3 rfl) (s_T (pT := 12) (pF := 17) (p1 := 14) (pe := 28) (c_lt_ZF (pF := 17) (s_lcmp (s_lload_n dX12_common_6 rfl rfl) (s_lconst dX12_common_7 rfl) dX12_common_8) dX12_common_9 rfl) (s_lneg (s_lload_n dX12_common_12 rfl rfl) dX12_common_13) (s_ld (p1 := 18) (pe := 28) (s_lload_n dX12_common_17 rfl rfl) (ld_goto (y := 28) dX12_common_18 rfl (ld_in rfl))) (ld_goto (y := 28) dX12_common_14 rfl (ld_in rfl))) (s_of_xL (x_call (ts := [(0, 1), (2, 1)]) (kX12_common_n n) mokX12_common w9_101 rfl (by simp) rfl (a_L (ts := [(0, 1)]) 2 (a_L (ts := []) 0 a_nil (s_lload_n dX12_common_21 rfl rfl) rfl) (s_lrem (s_lload_n dX12_common_22 rfl rfl) (s_lload_n dX12_common_23 rfl rfl) dX12_common_24) rfl) dX12_common_25 w9_100)) (ld_in rfl)) dX12_common_28)
theorem dX12_part_0 : decode cX12_part 0 = .ok (.iload 4, 2) := by decide +kernel
theorem dX12_part_2 : decode cX12_part 2 = .ok (.ifCond .ne 7, 3) := by decide +kernel
theorem dX12_part_5 : decode cX12_part 5 = .ok (.lload_n 0, 1) := by decide +kernel
theorem dX12_part_6 : decode cX12_part 6 = .ok (.goto 4, 3) := by decide +kernel
theorem dX12_part_9 : decode cX12_part 9 = .ok (.lload_n 2, 1) := by decide +kernel
theorem dX12_part_10 : decode cX12_part 10 = .ok (.lload_n 0, 1) := by decide +kernel
theorem dX12_part_11 : decode cX12_part 11 = .ok (.lload_n 2, 1) := by decide +kernel
theorem dX12_part_12 : decode cX12_part 12 = .ok (.invokestatic 426, 3) := by decide +kernel
theorem dX12_part_15 : decode cX12_part 15 = .ok (.ldiv, 1) := by decide +kernel
theorem dX12_part_16 : decode cX12_part 16 = .ok (.lreturn, 1) := by decide +kernel
theorem mokX12_part : MOK yX12_part cX12_part 5 (some .long) 3 := ⟨w9_99, w1_13, ⟨by decide, by decide⟩, by decide +kernel, by decide⟩
abbrev miX12_part : MI := (yX12_part.cls, cX12_part, 5, 101, false)
noncomputable def BX12_part : Sm Int64 := (dRet (d2z o_ldiv (dT (dCZ q_eq (vI 4)) (vL 0) (vL 2)) (dCall (DX12_common_n 100) (aL (aL aN 0 (vL 0)) 2 (vL 2)))))
theorem sBX12_part : SS (cvoL, .lreturn) miX12_part [] [] [] [(0, 1), (2, 1), (4, 0)] [(0, 1), (2, 1), (4, 0)] 0 [] BX12_part := (t_ret (cv := cvL) (fun _ _ => rfl) (s_ldiv (s_T (pT := 5) (pF := 9) (p1 := 6) (pe := 10) (c_eq_ZF (pF := 9) (s_iload dX12_part_0 rfl) dX12_part_2 rfl) (s_lload_n dX12_part_5 rfl rfl) (s_lload_n dX12_part_9 rfl rfl) (ld_goto (y := 10) dX12_part_6 rfl (ld_in rfl))) (s_of_xL (x_call (ts := [(0, 1), (2, 1)]) (kX12_common_n 100) mokX12_common w9_101 rfl rfl rfl (a_L (ts := [(0, 1)]) 2 (a_L (ts := []) 0 a_nil (s_lload_n dX12_part_10 rfl rfl) rfl) (s_lload_n dX12_part_11 rfl rfl) rfl) dX12_part_12 w9_100)) dX12_part_15) dX12_part_16)
noncomputable def DX12_part : Fr → St → Option (Int64 × St) := M1 (fun f => (sI (sL (sL fr0 0 (gL f 0)) 2 (gL f 2)) 4 (gI f 4))) BX12_part
theorem kX12_part : SND yX12_part cX12_part 5 (some .long) 101 [(0, 1), (2, 1), (4, 0)] cvoL DX12_part := snd_L (nw := 5) (by decide) rfl rfl (fun _ _ => rfl) sBX12_part
theorem dX12_share_0 : decode cX12_share 0 = .ok (.aload_n 0, 1) := by decide +kernel
theorem dX12_share_1 : decode cX12_share 1 = .ok (.iconst 0, 1) := by decide +kernel
theorem dX12_share_2 : decode cX12_share 2 = .ok (.putfield 122, 3) := by decide +kernel
theorem dX12_share_5 : decode cX12_share 5 = .ok (.aload_n 0, 1) := by decide +kernel
theorem dX12_share_6 : decode cX12_share 6 = .ok (.iload_n 1, 1) := by decide +kernel
theorem dX12_share_7 : decode cX12_share 7 = .ok (.invokevirtual 372, 3) := by decide +kernel
theorem dX12_share_10 : decode cX12_share 10 = .ok (.ifCond .eq 18, 3) := by decide +kernel
theorem dX12_share_13 : decode cX12_share 13 = .ok (.aload_n 0, 1) := by decide +kernel
theorem dX12_share_14 : decode cX12_share 14 = .ok (.iload_n 2, 1) := by decide +kernel
theorem dX12_share_15 : decode cX12_share 15 = .ok (.invokevirtual 366, 3) := by decide +kernel
theorem dX12_share_18 : decode cX12_share 18 = .ok (.ifCond .eq 10, 3) := by decide +kernel
theorem dX12_share_21 : decode cX12_share 21 = .ok (.iload_n 3, 1) := by decide +kernel
theorem dX12_share_22 : decode cX12_share 22 = .ok (.invokestatic 369, 3) := by decide +kernel
theorem dX12_share_25 : decode cX12_share 25 = .ok (.ifCond .ne 6, 3) := by decide +kernel
theorem dX12_share_28 : decode cX12_share 28 = .ok (.bipush (-2), 2) := by decide +kernel
theorem dX12_share_30 : decode cX12_share 30 = .ok (.ireturn, 1) := by decide +kernel
theorem dX12_share_31 : decode cX12_share 31 = .ok (.iconst 0, 1) := by decide +kernel
theorem dX12_share_32 : decode cX12_share 32 = .ok (.istore 4, 2) := by decide +kernel
theorem dX12_share_34 : decode cX12_share 34 = .ok (.iconst 0, 1) := by decide +kernel
theorem dX12_share_35 : decode cX12_share 35 = .ok (.istore 5, 2) := by decide +kernel
theorem dX12_share_37 : decode cX12_share 37 = .ok (.iload 5, 2) := by decide +kernel
theorem dX12_share_39 : decode cX12_share 39 = .ok (.iconst 1, 1) := by decide +kernel
theorem dX12_share_40 : decode cX12_share 40 = .ok (.aload_n 0, 1) := by decide +kernel
theorem dX12_share_41 : decode cX12_share 41 = .ok (.invokevirtual 295, 3) := by decide +kernel
theorem dX12_share_44 : decode cX12_share 44 = .ok (.ishl, 1) := by decide +kernel
theorem dX12_share_45 : decode cX12_share 45 = .ok (.if_icmp .ge 71, 3) := by decide +kernel
theorem dX12_share_48 : decode cX12_share 48 = .ok (.iload 5, 2) := by decide +kernel
theorem dX12_share_50 : decode cX12_share 50 = .ok (.iload_n 2, 1) := by decide +kernel
theorem dX12_share_51 : decode cX12_share 51 = .ok (.invokestatic 322, 3) := by decide +kernel
theorem dX12_share_54 : decode cX12_share 54 = .ok (.ifCond .eq 6, 3) := by decide +kernel
theorem dX12_share_57 : decode cX12_share 57 = .ok (.goto 53, 3) := by decide +kernel
theorem dX12_share_60 : decode cX12_share 60 = .ok (.iload 5, 2) := by decide +kernel
theorem dX12_share_62 : decode cX12_share 62 = .ok (.invokestatic 394, 3) := by decide +kernel
theorem dX12_share_65 : decode cX12_share 65 = .ok (.istore 6, 2) := by decide +kernel
theorem dX12_share_67 : decode cX12_share 67 = .ok (.iload 4, 2) := by decide +kernel
theorem dX12_share_69 : decode cX12_share 69 = .ok (.iload 6, 2) := by decide +kernel
theorem dX12_share_71 : decode cX12_share 71 = .ok (.invokestatic 423, 3) := by decide +kernel
theorem dX12_share_74 : decode cX12_share 74 = .ok (.aload_n 0, 1) := by decide +kernel
theorem dX12_share_75 : decode cX12_share 75 = .ok (.invokevirtual 295, 3) := by decide +kernel
theorem dX12_share_78 : decode cX12_share 78 = .ok (.iload 6, 2) := by decide +kernel
theorem dX12_share_80 : decode cX12_share 80 = .ok (.isub, 1) := by decide +kernel
theorem dX12_share_81 : decode cX12_share 81 = .ok (.iconst 1, 1) := by decide +kernel
theorem dX12_share_82 : decode cX12_share 82 = .ok (.isub, 1) := by decide +kernel
theorem dX12_share_83 : decode cX12_share 83 = .ok (.invokestatic 423, 3) := by decide +kernel
theorem dX12_share_86 : decode cX12_share 86 = .ok (.imul, 1) := by decide +kernel
theorem dX12_share_87 : decode cX12_share 87 = .ok (.aload_n 0, 1) := by decide +kernel
theorem dX12_share_88 : decode cX12_share 88 = .ok (.iload_n 1, 1) := by decide +kernel
theorem dX12_share_89 : decode cX12_share 89 = .ok (.iload 5, 2) := by decide +kernel
theorem dX12_share_91 : decode cX12_share 91 = .ok (.iconst 1, 1) := by decide +kernel
theorem dX12_share_92 : decode cX12_share 92 = .ok (.iload_n 2, 1) := by decide +kernel
theorem dX12_share_93 : decode cX12_share 93 = .ok (.ishl, 1) := by decide +kernel
theorem dX12_share_94 : decode cX12_share 94 = .ok (.ior, 1) := by decide +kernel
theorem dX12_share_95 : decode cX12_share 95 = .ok (.invokevirtual 430, 3) := by decide +kernel
theorem dX12_share_98 : decode cX12_share 98 = .ok (.aload_n 0, 1) := by decide +kernel
theorem dX12_share_99 : decode cX12_share 99 = .ok (.iload_n 1, 1) := by decide +kernel
theorem dX12_share_100 : decode cX12_share 100 = .ok (.iload 5, 2) := by decide +kernel
theorem dX12_share_102 : decode cX12_share 102 = .ok (.invokevirtual 430, 3) := by decide +kernel
theorem dX12_share_105 : decode cX12_share 105 = .ok (.isub, 1) := by decide +kernel
theorem dX12_share_106 : decode cX12_share 106 = .ok (.imul, 1) := by decide +kernel
theorem dX12_share_107 : decode cX12_share 107 = .ok (.iadd, 1) := by decide +kernel
theorem dX12_share_108 : decode cX12_share 108 = .ok (.istore 4, 2) := by decide +kernel
theorem dX12_share_110 : decode cX12_share 110 = .ok (.iinc 5 1, 3) := by decide +kernel
theorem dX12_share_113 : decode cX12_share 113 = .ok (.goto (-76), 3) := by decide +kernel
theorem dX12_share_116 : decode cX12_share 116 = .ok (.iload 4, 2) := by decide +kernel
theorem dX12_share_118 : decode cX12_share 118 = .ok (.i2l, 1) := by decide +kernel
theorem dX12_share_119 : decode cX12_share 119 = .ok (.aload_n 0, 1) := by decide +kernel
theorem dX12_share_120 : decode cX12_share 120 = .ok (.invokevirtual 295, 3) := by decide +kernel
theorem dX12_share_123 : decode cX12_share 123 = .ok (.invokestatic 423, 3) := by decide +kernel
theorem dX12_share_126 : decode cX12_share 126 = .ok (.i2l, 1) := by decide +kernel
theorem dX12_share_127 : decode cX12_share 127 = .ok (.iload_n 3, 1) := by decide +kernel
theorem dX12_share_128 : decode cX12_share 128 = .ok (.invokestatic 433, 3) := by decide +kernel
theorem dX12_share_131 : decode cX12_share 131 = .ok (.l2i, 1) := by decide +kernel
theorem dX12_share_132 : decode cX12_share 132 = .ok (.ireturn, 1) := by decide +kernel
theorem mokX12_share : MOK yX12_share cX12_share 7 (some .int) 3 := ⟨w9_89, w1_13, ⟨by decide, by decide⟩, by decide +kernel, by decide⟩
abbrev miX12_share : MI := (yX12_share.cls, cX12_share, 7, 102, false)
noncomputable def LX12_share_1 : Sm Int32 := dLoop (fun f => (sI (sI (sI (sI (sI (sR fr0 0 (gR f 0)) 1 (gI f 1)) 2 (gI f 2)) 3 (gI f 3)) 4 (gI f 4)) 5 (gI f 5))) (dCI r_lt (vI 5) (d2 o_ishl (cI 1) (dCallV 12 DX12_carriers (aR aN 0 (vR 0))))) (dSeq (dIf (dCZ q_ne (dCall DX12_isBit (aI (aI aN 0 (vI 5)) 1 (vI 2)))) dCnt dSkip) (dSeq (dSetI 6 (dCall DX12_sizeOf (aI aN 0 (vI 5)))) (dSetI 4 (d2 o_iadd (vI 4) (d2 o_imul (d2 o_imul (dCall (DX12_times_n 6) (aI aN 0 (vI 6))) (dCall (DX12_times_n 6) (aI aN 0 (d2 o_isub (d2 o_isub (dCallV 12 DX12_carriers (aR aN 0 (vR 0))) (vI 6)) (cI 1))))) (d2 o_isub (dCallV 12 DX12_worthOf (aI (aI (aR aN 0 (vR 0)) 1 (vI 1)) 2 (d2 o_ior (vI 5) (d2 o_ishl (cI 1) (vI 2))))) (dCallV 12 DX12_worthOf (aI (aI (aR aN 0 (vR 0)) 1 (vI 1)) 2 (vI 5))))))))) (dInc 5 1)
theorem sLX12_share_1 {ΓL : Gm} {PB PK : List Nat} : SS (cvoI, .ireturn) miX12_share ΓL PB PK [(0, 2), (1, 0), (2, 0), (3, 0), (4, 0), (5, 0)] [(0, 2), (1, 0), (2, 0), (3, 0), (4, 0), (5, 0)] 37 [116] LX12_share_1 := t_loop (pT := 48) (pF := 116) (pu := 110) (PB' := []) (PK' := [110]) (XB := [110]) (XU := [113]) (fun _ _ => rfl) rfl (c_lt_F (pF := 116) (s_iload dX12_share_37 rfl) (s_ishl (s_iconst dX12_share_39 rfl) (s_of_xI (x_callV (ts := [(0, 2)]) ck12 rfl kX12_carriers mokX12_carriers w8_74 ps5_3 rfl rfl rfl rfl (a_R (ts := []) 0 a_nil (s_aload_n dX12_share_40 rfl rfl) rfl) dX12_share_41 w8_72)) dX12_share_44) dX12_share_45 rfl) (t_sq (p1 := 60) (Γ' := [(0, 2), (1, 0), (2, 0), (3, 0), (4, 0), (5, 0)]) (t_if (pT := 57) (pF := 60) (X := [60]) (XA := []) (XB := [60]) (c_ne_ZF (pF := 60) (s_of_xI (x_call (ts := [(0, 0), (1, 0)]) kX12_isBit mokX12_isBit w8_104 rfl rfl rfl (a_I (ts := [(0, 0)]) 1 (a_I (ts := []) 0 a_nil (s_iload dX12_share_48 rfl) rfl) (s_iload_n dX12_share_50 rfl rfl) rfl) dX12_share_51 w8_103)) dX12_share_54 rfl) (t_cnt (ld_goto (y := 110) dX12_share_57 rfl (ld_in rfl)) rfl) (t_skip (ld_in rfl) rfl) lda_nil (lda_cons (ld_in rfl) lda_nil)) (t_sq (p1 := 67) (Γ' := [(0, 2), (1, 0), (2, 0), (3, 0), (4, 0), (5, 0), (6, 0)]) (t_istore (s_of_xI (x_call (ts := [(0, 0)]) kX12_sizeOf mokX12_sizeOf w9_11 rfl rfl rfl (a_I (ts := []) 0 a_nil (s_iload dX12_share_60 rfl) rfl) dX12_share_62 w9_10)) dX12_share_65 rfl rfl) (t_istore (s_iadd (s_iload dX12_share_67 rfl) (s_imul (s_imul (s_of_xI (x_call (ts := [(0, 0)]) (kX12_times_n 6) mokX12_times w9_91 rfl rfl rfl (a_I (ts := []) 0 a_nil (s_iload dX12_share_69 rfl) rfl) dX12_share_71 w9_90)) (s_of_xI (x_call (ts := [(0, 0)]) (kX12_times_n 6) mokX12_times w9_91 rfl rfl rfl (a_I (ts := []) 0 a_nil (s_isub (s_isub (s_of_xI (x_callV (ts := [(0, 2)]) ck12 rfl kX12_carriers mokX12_carriers w8_74 ps5_3 rfl rfl rfl rfl (a_R (ts := []) 0 a_nil (s_aload_n dX12_share_74 rfl rfl) rfl) dX12_share_75 w8_72)) (s_iload dX12_share_78 rfl) dX12_share_80) (s_iconst dX12_share_81 rfl) dX12_share_82) rfl) dX12_share_83 w9_90)) dX12_share_86) (s_isub (s_of_xI (x_callV (ts := [(0, 2), (1, 0), (2, 0)]) ck12 rfl kX12_worthOf mokX12_worthOf w9_95 ps7_1 rfl rfl rfl rfl (a_I (ts := [(0, 2), (1, 0)]) 2 (a_I (ts := [(0, 2)]) 1 (a_R (ts := []) 0 a_nil (s_aload_n dX12_share_87 rfl rfl) rfl) (s_iload_n dX12_share_88 rfl rfl) rfl) (s_ior (s_iload dX12_share_89 rfl) (s_ishl (s_iconst dX12_share_91 rfl) (s_iload_n dX12_share_92 rfl rfl) dX12_share_93) dX12_share_94) rfl) dX12_share_95 w9_93)) (s_of_xI (x_callV (ts := [(0, 2), (1, 0), (2, 0)]) ck12 rfl kX12_worthOf mokX12_worthOf w9_95 ps7_1 rfl rfl rfl rfl (a_I (ts := [(0, 2), (1, 0)]) 2 (a_I (ts := [(0, 2)]) 1 (a_R (ts := []) 0 a_nil (s_aload_n dX12_share_98 rfl rfl) rfl) (s_iload_n dX12_share_99 rfl rfl) rfl) (s_iload dX12_share_100 rfl) rfl) dX12_share_102 w9_93)) dX12_share_105) dX12_share_106) dX12_share_107) dX12_share_108 rfl rfl))) (t_iinc dX12_share_110 rfl rfl rfl rfl) (lda_cons (ld_in rfl) lda_nil) (lda_cons (ld_in rfl) lda_nil) (lda_cons (ld_goto (y := 37) dX12_share_113 rfl (ld_in rfl)) lda_nil) (ld_in rfl) lda_nil
noncomputable def BX12_share : Sm Int32 := (dSeq (dP (fI 12 0) (vR 0) (cI 0)) (dSeq (dIf (dOr (dOr (dNot (dCZ q_ne (dCallV 12 DX12_isSlate (aI (aR aN 0 (vR 0)) 1 (vI 1))))) (dNot (dCZ q_ne (dCallV 12 DX12_isCarrier (aI (aR aN 0 (vR 0)) 1 (vI 2)))))) (dNot (dCZ q_ne (dCall DX12_isHalf (aI aN 0 (vI 3)))))) (dRet (cI (-2))) dSkip) (dSeq (dSetI 4 (cI 0)) (dSeq (dSeq (dSetI 5 (cI 0)) LX12_share_1) (dRet (d1 o_l2i (dCall DX12_part (aI (aL (aL aN 0 (d1 o_i2l (vI 4))) 2 (d1 o_i2l (dCall (DX12_times_n 6) (aI aN 0 (dCallV 12 DX12_carriers (aR aN 0 (vR 0))))))) 4 (vI 3)))))))))
theorem sBX12_share : SS (cvoI, .ireturn) miX12_share [] [] [] [(0, 2), (1, 0), (2, 0), (3, 0)] [(0, 2), (1, 0), (2, 0), (3, 0)] 0 [] BX12_share := (t_sq (p1 := 5) (Γ' := [(0, 2), (1, 0), (2, 0), (3, 0)]) (t_pI ck12 0 (by decide) rfl (Or.inl rfl) (s_aload_n dX12_share_0 rfl rfl) (s_iconst dX12_share_1 rfl) dX12_share_2 w6_205 rfl) (t_sq (p1 := 31) (Γ' := [(0, 2), (1, 0), (2, 0), (3, 0)]) (t_if (pT := 28) (pF := 31) (X := [31]) (XA := []) (XB := [31]) (c_or (p1 := 21) (pT := 28) (pF := 31) (c_or (p1 := 13) (pT := 28) (pF := 21) (c_not (pT := 28) (pF := 13) (c_ne_ZF (pF := 28) (s_of_xI (x_callV (ts := [(0, 2), (1, 0)]) ck12 rfl kX12_isSlate mokX12_isSlate w8_85 ps5_4 rfl rfl rfl rfl (a_I (ts := [(0, 2)]) 1 (a_R (ts := []) 0 a_nil (s_aload_n dX12_share_5 rfl rfl) rfl) (s_iload_n dX12_share_6 rfl rfl) rfl) dX12_share_7 w8_83)) dX12_share_10 rfl)) (c_not (pT := 28) (pF := 21) (c_ne_ZF (pF := 28) (s_of_xI (x_callV (ts := [(0, 2), (1, 0)]) ck12 rfl kX12_isCarrier mokX12_isCarrier w8_70 ps5_2 rfl rfl rfl rfl (a_I (ts := [(0, 2)]) 1 (a_R (ts := []) 0 a_nil (s_aload_n dX12_share_13 rfl rfl) rfl) (s_iload_n dX12_share_14 rfl rfl) rfl) dX12_share_15 w8_68)) dX12_share_18 rfl))) (c_not (pT := 28) (pF := 31) (c_ne_ZJ (pT := 31) (s_of_xI (x_call (ts := [(0, 0)]) kX12_isHalf mokX12_isHalf w8_77 rfl rfl rfl (a_I (ts := []) 0 a_nil (s_iload_n dX12_share_21 rfl rfl) rfl) dX12_share_22 w8_76)) dX12_share_25 rfl))) (t_ret (cv := cvI) (fun _ _ => rfl) (s_bipush dX12_share_28 rfl) dX12_share_30) (t_skip (ld_in rfl) rfl) lda_nil (lda_cons (ld_in rfl) lda_nil)) (t_sq (p1 := 34) (Γ' := [(0, 2), (1, 0), (2, 0), (3, 0), (4, 0)]) (t_istore (s_iconst dX12_share_31 rfl) dX12_share_32 rfl rfl) (t_sq (p1 := 116) (Γ' := [(0, 2), (1, 0), (2, 0), (3, 0), (4, 0)]) (t_sq (p1 := 37) (Γ' := [(0, 2), (1, 0), (2, 0), (3, 0), (4, 0), (5, 0)]) (t_istore (s_iconst dX12_share_34 rfl) dX12_share_35 rfl rfl) (tn_to (Γ' := [(0, 2), (1, 0), (2, 0), (3, 0), (4, 0), (5, 0)]) (XA := [116]) sLX12_share_1 (lda_cons (ld_in rfl) lda_nil) rfl)) (t_ret (cv := cvI) (fun _ _ => rfl) (s_l2i (s_of_xL (x_call (ts := [(0, 1), (2, 1), (4, 0)]) kX12_part mokX12_part w9_98 rfl rfl rfl (a_I (ts := [(0, 1), (2, 1)]) 4 (a_L (ts := [(0, 1)]) 2 (a_L (ts := []) 0 a_nil (s_i2l (s_iload dX12_share_116 rfl) dX12_share_118) rfl) (s_i2l (s_of_xI (x_call (ts := [(0, 0)]) (kX12_times_n 6) mokX12_times w9_91 rfl rfl rfl (a_I (ts := []) 0 a_nil (s_of_xI (x_callV (ts := [(0, 2)]) ck12 rfl kX12_carriers mokX12_carriers w8_74 ps5_3 rfl rfl rfl rfl (a_R (ts := []) 0 a_nil (s_aload_n dX12_share_119 rfl rfl) rfl) dX12_share_120 w8_72)) rfl) dX12_share_123 w9_90)) dX12_share_126) rfl) (s_iload_n dX12_share_127 rfl rfl) rfl) dX12_share_128 w9_97)) dX12_share_131) dX12_share_132)))))
noncomputable def DX12_share : Fr → St → Option (Int32 × St) := M1 (fun f => (sI (sI (sI (sR fr0 0 (gR f 0)) 1 (gI f 1)) 2 (gI f 2)) 3 (gI f 3))) BX12_share
theorem kX12_share : SND yX12_share cX12_share 7 (some .int) 102 [(0, 2), (1, 0), (2, 0), (3, 0)] cvoI DX12_share := snd_I (nw := 4) (by decide) rfl rfl (fun _ _ => rfl) sBX12_share
theorem dX12_block_0 : decode cX12_block 0 = .ok (.aload_n 0, 1) := by decide +kernel
theorem dX12_block_1 : decode cX12_block 1 = .ok (.iconst 0, 1) := by decide +kernel
theorem dX12_block_2 : decode cX12_block 2 = .ok (.putfield 122, 3) := by decide +kernel
theorem dX12_block_5 : decode cX12_block 5 = .ok (.aload_n 0, 1) := by decide +kernel
theorem dX12_block_6 : decode cX12_block 6 = .ok (.iload_n 1, 1) := by decide +kernel
theorem dX12_block_7 : decode cX12_block 7 = .ok (.invokevirtual 372, 3) := by decide +kernel
theorem dX12_block_10 : decode cX12_block 10 = .ok (.ifCond .ne 6, 3) := by decide +kernel
theorem dX12_block_13 : decode cX12_block 13 = .ok (.bipush (-2), 2) := by decide +kernel
theorem dX12_block_15 : decode cX12_block 15 = .ok (.ireturn, 1) := by decide +kernel
theorem dX12_block_16 : decode cX12_block 16 = .ok (.aload_n 0, 1) := by decide +kernel
theorem dX12_block_17 : decode cX12_block 17 = .ok (.invokevirtual 382, 3) := by decide +kernel
theorem dX12_block_20 : decode cX12_block 20 = .ok (.iconst (-1), 1) := by decide +kernel
theorem dX12_block_21 : decode cX12_block 21 = .ok (.istore_n 2, 1) := by decide +kernel
theorem dX12_block_22 : decode cX12_block 22 = .ok (.aload_n 0, 1) := by decide +kernel
theorem dX12_block_23 : decode cX12_block 23 = .ok (.iload_n 1, 1) := by decide +kernel
theorem dX12_block_24 : decode cX12_block 24 = .ok (.aload_n 0, 1) := by decide +kernel
theorem dX12_block_25 : decode cX12_block 25 = .ok (.invokevirtual 304, 3) := by decide +kernel
theorem dX12_block_28 : decode cX12_block 28 = .ok (.invokevirtual 385, 3) := by decide +kernel
theorem dX12_block_31 : decode cX12_block 31 = .ok (.invokestatic 394, 3) := by decide +kernel
theorem dX12_block_34 : decode cX12_block 34 = .ok (.istore_n 3, 1) := by decide +kernel
theorem dX12_block_35 : decode cX12_block 35 = .ok (.iconst 0, 1) := by decide +kernel
theorem dX12_block_36 : decode cX12_block 36 = .ok (.istore 4, 2) := by decide +kernel
theorem dX12_block_38 : decode cX12_block 38 = .ok (.iload 4, 2) := by decide +kernel
theorem dX12_block_40 : decode cX12_block 40 = .ok (.aload_n 0, 1) := by decide +kernel
theorem dX12_block_41 : decode cX12_block 41 = .ok (.getfield 34, 3) := by decide +kernel
theorem dX12_block_44 : decode cX12_block 44 = .ok (.iconst 4, 1) := by decide +kernel
theorem dX12_block_45 : decode cX12_block 45 = .ok (.iaload, 1) := by decide +kernel
theorem dX12_block_46 : decode cX12_block 46 = .ok (.if_icmp .ge 52, 3) := by decide +kernel
theorem dX12_block_49 : decode cX12_block 49 = .ok (.aload_n 0, 1) := by decide +kernel
theorem dX12_block_50 : decode cX12_block 50 = .ok (.invokevirtual 360, 3) := by decide +kernel
theorem dX12_block_53 : decode cX12_block 53 = .ok (.aload_n 0, 1) := by decide +kernel
theorem dX12_block_54 : decode cX12_block 54 = .ok (.iload 4, 2) := by decide +kernel
theorem dX12_block_56 : decode cX12_block 56 = .ok (.putfield 316, 3) := by decide +kernel
theorem dX12_block_59 : decode cX12_block 59 = .ok (.aload_n 0, 1) := by decide +kernel
theorem dX12_block_60 : decode cX12_block 60 = .ok (.invokevirtual 363, 3) := by decide +kernel
theorem dX12_block_63 : decode cX12_block 63 = .ok (.aload_n 0, 1) := by decide +kernel
theorem dX12_block_64 : decode cX12_block 64 = .ok (.iload_n 1, 1) := by decide +kernel
theorem dX12_block_65 : decode cX12_block 65 = .ok (.aload_n 0, 1) := by decide +kernel
theorem dX12_block_66 : decode cX12_block 66 = .ok (.invokevirtual 304, 3) := by decide +kernel
theorem dX12_block_69 : decode cX12_block 69 = .ok (.invokevirtual 385, 3) := by decide +kernel
theorem dX12_block_72 : decode cX12_block 72 = .ok (.invokestatic 394, 3) := by decide +kernel
theorem dX12_block_75 : decode cX12_block 75 = .ok (.istore 5, 2) := by decide +kernel
theorem dX12_block_77 : decode cX12_block 77 = .ok (.iload 5, 2) := by decide +kernel
theorem dX12_block_79 : decode cX12_block 79 = .ok (.iload_n 3, 1) := by decide +kernel
theorem dX12_block_80 : decode cX12_block 80 = .ok (.if_icmp .lt 6, 3) := by decide +kernel
theorem dX12_block_83 : decode cX12_block 83 = .ok (.goto 9, 3) := by decide +kernel
theorem dX12_block_86 : decode cX12_block 86 = .ok (.iload 4, 2) := by decide +kernel
theorem dX12_block_88 : decode cX12_block 88 = .ok (.istore_n 2, 1) := by decide +kernel
theorem dX12_block_89 : decode cX12_block 89 = .ok (.iload 5, 2) := by decide +kernel
theorem dX12_block_91 : decode cX12_block 91 = .ok (.istore_n 3, 1) := by decide +kernel
theorem dX12_block_92 : decode cX12_block 92 = .ok (.iinc 4 1, 3) := by decide +kernel
theorem dX12_block_95 : decode cX12_block 95 = .ok (.goto (-57), 3) := by decide +kernel
theorem dX12_block_98 : decode cX12_block 98 = .ok (.iload_n 2, 1) := by decide +kernel
theorem dX12_block_99 : decode cX12_block 99 = .ok (.ireturn, 1) := by decide +kernel
theorem mokX12_block : MOK yX12_block cX12_block 6 (some .int) 1 := ⟨w9_106, w1_13, ⟨by decide, by decide⟩, by decide +kernel, by decide⟩
abbrev miX12_block : MI := (yX12_block.cls, cX12_block, 6, 6, false)
noncomputable def LX12_block_1 : Sm Int32 := dLoop (fun f => (sI (sI (sI (sI (sR fr0 0 (gR f 0)) 1 (gI f 1)) 2 (gI f 2)) 3 (gI f 3)) 4 (gI f 4))) (dCI r_lt (vI 4) (dAI (dGR 12 17 (vR 0)) (cI 4))) (dSeq (dDo (dCallV 12 DX12_lays (aR aN 0 (vR 0)))) (dSeq (dP (fI 12 29) (vR 0) (vI 4)) (dSeq (dDo (dCallV 12 DX12_runs (aR aN 0 (vR 0)))) (dSeq (dSetI 5 (dCall DX12_sizeOf (aI aN 0 (dCallV 12 DX12_heardOf (aI (aI (aR aN 0 (vR 0)) 1 (vI 1)) 2 (dCallV 12 DX12_days (aR aN 0 (vR 0)))))))) (dSeq (dIf (dCI r_ge (vI 5) (vI 3)) dCnt dSkip) (dSeq (dSetI 2 (vI 4)) (dSetI 3 (vI 5)))))))) (dInc 4 1)
theorem sLX12_block_1 {ΓL : Gm} {PB PK : List Nat} : SS (cvoI, .ireturn) miX12_block ΓL PB PK [(0, 2), (1, 0), (2, 0), (3, 0), (4, 0)] [(0, 2), (1, 0), (2, 0), (3, 0), (4, 0)] 38 [98] LX12_block_1 := t_loop (pT := 49) (pF := 98) (pu := 92) (PB' := []) (PK' := [92]) (XB := [92]) (XU := [95]) (fun _ _ => rfl) rfl (c_lt_F (pF := 98) (s_iload dX12_block_38 rfl) (s_dAI (s_getR ck12 17 (by decide) rfl (s_aload_n dX12_block_40 rfl rfl) dX12_block_41 w6_222) (s_iconst dX12_block_44 rfl) dX12_block_45) dX12_block_46 rfl) (t_sq (p1 := 53) (Γ' := [(0, 2), (1, 0), (2, 0), (3, 0), (4, 0)]) (t_do (x_callV (ts := [(0, 2)]) ck12 rfl kX12_lays mokX12_lays w8_97 ps5_6 rfl rfl rfl rfl (a_R (ts := []) 0 a_nil (s_aload_n dX12_block_49 rfl rfl) rfl) dX12_block_50 w8_95) rfl) (t_sq (p1 := 59) (Γ' := [(0, 2), (1, 0), (2, 0), (3, 0), (4, 0)]) (t_pI ck12 29 (by decide) rfl (Or.inl rfl) (s_aload_n dX12_block_53 rfl rfl) (s_iload dX12_block_54 rfl) dX12_block_56 w6_234 rfl) (t_sq (p1 := 63) (Γ' := [(0, 2), (1, 0), (2, 0), (3, 0), (4, 0)]) (t_do (x_callV (ts := [(0, 2)]) ck12 rfl kX12_runs mokX12_runs w8_144 ps5_14 rfl rfl rfl rfl (a_R (ts := []) 0 a_nil (s_aload_n dX12_block_59 rfl rfl) rfl) dX12_block_60 w8_142) rfl) (t_sq (p1 := 77) (Γ' := [(0, 2), (1, 0), (2, 0), (3, 0), (4, 0), (5, 0)]) (t_istore (s_of_xI (x_call (ts := [(0, 0)]) kX12_sizeOf mokX12_sizeOf w9_11 rfl rfl rfl (a_I (ts := []) 0 a_nil (s_of_xI (x_callV (ts := [(0, 2), (1, 0), (2, 0)]) ck12 rfl kX12_heardOf mokX12_heardOf w8_196 ps6_6 rfl rfl rfl rfl (a_I (ts := [(0, 2), (1, 0)]) 2 (a_I (ts := [(0, 2)]) 1 (a_R (ts := []) 0 a_nil (s_aload_n dX12_block_63 rfl rfl) rfl) (s_iload_n dX12_block_64 rfl rfl) rfl) (s_of_xI (x_callV (ts := [(0, 2)]) ck12 rfl kX12_days mokX12_days w8_136 ps5_12 rfl rfl rfl rfl (a_R (ts := []) 0 a_nil (s_aload_n dX12_block_65 rfl rfl) rfl) dX12_block_66 w8_134)) rfl) dX12_block_69 w8_194)) rfl) dX12_block_72 w9_10)) dX12_block_75 rfl rfl) (t_sq (p1 := 86) (Γ' := [(0, 2), (1, 0), (2, 0), (3, 0), (4, 0), (5, 0)]) (t_if (pT := 83) (pF := 86) (X := [86]) (XA := []) (XB := [86]) (c_ge_F (pF := 86) (s_iload dX12_block_77 rfl) (s_iload_n dX12_block_79 rfl rfl) dX12_block_80 rfl) (t_cnt (ld_goto (y := 92) dX12_block_83 rfl (ld_in rfl)) rfl) (t_skip (ld_in rfl) rfl) lda_nil (lda_cons (ld_in rfl) lda_nil)) (t_sq (p1 := 89) (Γ' := [(0, 2), (1, 0), (2, 0), (3, 0), (4, 0), (5, 0)]) (t_istore_n (s_iload dX12_block_86 rfl) dX12_block_88 rfl rfl rfl) (t_istore_n (s_iload dX12_block_89 rfl) dX12_block_91 rfl rfl rfl))))))) (t_iinc dX12_block_92 rfl rfl rfl rfl) (lda_cons (ld_in rfl) lda_nil) (lda_cons (ld_in rfl) lda_nil) (lda_cons (ld_goto (y := 38) dX12_block_95 rfl (ld_in rfl)) lda_nil) (ld_in rfl) lda_nil
noncomputable def BX12_block : Sm Int32 := (dSeq (dP (fI 12 0) (vR 0) (cI 0)) (dSeq (dIf (dNot (dCZ q_ne (dCallV 12 DX12_isSlate (aI (aR aN 0 (vR 0)) 1 (vI 1))))) (dRet (cI (-2))) dSkip) (dSeq (dDo (dCallV 12 DX12_laysNow (aR aN 0 (vR 0)))) (dSeq (dSetI 2 (cI (-1))) (dSeq (dSetI 3 (dCall DX12_sizeOf (aI aN 0 (dCallV 12 DX12_heardOf (aI (aI (aR aN 0 (vR 0)) 1 (vI 1)) 2 (dCallV 12 DX12_days (aR aN 0 (vR 0)))))))) (dSeq (dSeq (dSetI 4 (cI 0)) LX12_block_1) (dRet (vI 2))))))))
theorem sBX12_block : SS (cvoI, .ireturn) miX12_block [] [] [] [(0, 2), (1, 0)] [(0, 2), (1, 0)] 0 [] BX12_block := (t_sq (p1 := 5) (Γ' := [(0, 2), (1, 0)]) (t_pI ck12 0 (by decide) rfl (Or.inl rfl) (s_aload_n dX12_block_0 rfl rfl) (s_iconst dX12_block_1 rfl) dX12_block_2 w6_205 rfl) (t_sq (p1 := 16) (Γ' := [(0, 2), (1, 0)]) (t_if (pT := 13) (pF := 16) (X := [16]) (XA := []) (XB := [16]) (c_not (pT := 13) (pF := 16) (c_ne_ZJ (pT := 16) (s_of_xI (x_callV (ts := [(0, 2), (1, 0)]) ck12 rfl kX12_isSlate mokX12_isSlate w8_85 ps5_4 rfl rfl rfl rfl (a_I (ts := [(0, 2)]) 1 (a_R (ts := []) 0 a_nil (s_aload_n dX12_block_5 rfl rfl) rfl) (s_iload_n dX12_block_6 rfl rfl) rfl) dX12_block_7 w8_83)) dX12_block_10 rfl)) (t_ret (cv := cvI) (fun _ _ => rfl) (s_bipush dX12_block_13 rfl) dX12_block_15) (t_skip (ld_in rfl) rfl) lda_nil (lda_cons (ld_in rfl) lda_nil)) (t_sq (p1 := 20) (Γ' := [(0, 2), (1, 0)]) (t_do (x_callV (ts := [(0, 2)]) ck12 rfl kX12_laysNow mokX12_laysNow w8_140 ps5_13 rfl rfl rfl rfl (a_R (ts := []) 0 a_nil (s_aload_n dX12_block_16 rfl rfl) rfl) dX12_block_17 w8_138) rfl) (t_sq (p1 := 22) (Γ' := [(0, 2), (1, 0), (2, 0)]) (t_istore_n (s_iconst dX12_block_20 rfl) dX12_block_21 rfl rfl rfl) (t_sq (p1 := 35) (Γ' := [(0, 2), (1, 0), (2, 0), (3, 0)]) (t_istore_n (s_of_xI (x_call (ts := [(0, 0)]) kX12_sizeOf mokX12_sizeOf w9_11 rfl rfl rfl (a_I (ts := []) 0 a_nil (s_of_xI (x_callV (ts := [(0, 2), (1, 0), (2, 0)]) ck12 rfl kX12_heardOf mokX12_heardOf w8_196 ps6_6 rfl rfl rfl rfl (a_I (ts := [(0, 2), (1, 0)]) 2 (a_I (ts := [(0, 2)]) 1 (a_R (ts := []) 0 a_nil (s_aload_n dX12_block_22 rfl rfl) rfl) (s_iload_n dX12_block_23 rfl rfl) rfl) (s_of_xI (x_callV (ts := [(0, 2)]) ck12 rfl kX12_days mokX12_days w8_136 ps5_12 rfl rfl rfl rfl (a_R (ts := []) 0 a_nil (s_aload_n dX12_block_24 rfl rfl) rfl) dX12_block_25 w8_134)) rfl) dX12_block_28 w8_194)) rfl) dX12_block_31 w9_10)) dX12_block_34 rfl rfl rfl) (t_sq (p1 := 98) (Γ' := [(0, 2), (1, 0), (2, 0), (3, 0)]) (t_sq (p1 := 38) (Γ' := [(0, 2), (1, 0), (2, 0), (3, 0), (4, 0)]) (t_istore (s_iconst dX12_block_35 rfl) dX12_block_36 rfl rfl) (tn_to (Γ' := [(0, 2), (1, 0), (2, 0), (3, 0), (4, 0)]) (XA := [98]) sLX12_block_1 (lda_cons (ld_in rfl) lda_nil) rfl)) (t_ret (cv := cvI) (fun _ _ => rfl) (s_iload_n dX12_block_98 rfl rfl) dX12_block_99)))))))
noncomputable def DX12_block : Fr → St → Option (Int32 × St) := M1 (fun f => (sI (sR fr0 0 (gR f 0)) 1 (gI f 1))) BX12_block
theorem kX12_block : SND yX12_block cX12_block 6 (some .int) 6 [(0, 2), (1, 0)] cvoI DX12_block := snd_I (nw := 2) (by decide) rfl rfl (fun _ _ => rfl) sBX12_block
theorem dX12_runsBy_0 : decode cX12_runsBy 0 = .ok (.aload_n 0, 1) := by decide +kernel
theorem dX12_runsBy_1 : decode cX12_runsBy 1 = .ok (.invokevirtual 360, 3) := by decide +kernel
theorem dX12_runsBy_4 : decode cX12_runsBy 4 = .ok (.aload_n 0, 1) := by decide +kernel
theorem dX12_runsBy_5 : decode cX12_runsBy 5 = .ok (.iload_n 1, 1) := by decide +kernel
theorem dX12_runsBy_6 : decode cX12_runsBy 6 = .ok (.putfield 310, 3) := by decide +kernel
theorem dX12_runsBy_9 : decode cX12_runsBy 9 = .ok (.aload_n 0, 1) := by decide +kernel
theorem dX12_runsBy_10 : decode cX12_runsBy 10 = .ok (.invokevirtual 363, 3) := by decide +kernel
theorem dX12_runsBy_13 : decode cX12_runsBy 13 = .ok (.return_, 1) := by decide +kernel
theorem mokX12_runsBy : MOK yX12_runsBy cX12_runsBy 2 none 1 := ⟨w9_114, w1_13, ⟨by decide, by decide⟩, by decide +kernel, by decide⟩
abbrev miX12_runsBy : MI := (yX12_runsBy.cls, cX12_runsBy, 2, 5, false)
noncomputable def BX12_runsBy : Sm Unit := (dSeq (dDo (dCallV 12 DX12_lays (aR aN 0 (vR 0)))) (dSeq (dP (fI 12 27) (vR 0) (vI 1)) (dSeq (dDo (dCallV 12 DX12_runs (aR aN 0 (vR 0)))) dRet0)))
theorem sBX12_runsBy : SS (cvoV, .return_) miX12_runsBy [] [] [] [(0, 2), (1, 0)] [(0, 2), (1, 0)] 0 [] BX12_runsBy := (t_sq (p1 := 4) (Γ' := [(0, 2), (1, 0)]) (t_do (x_callV (ts := [(0, 2)]) ck12 rfl kX12_lays mokX12_lays w8_97 ps5_6 rfl rfl rfl rfl (a_R (ts := []) 0 a_nil (s_aload_n dX12_runsBy_0 rfl rfl) rfl) dX12_runsBy_1 w8_95) rfl) (t_sq (p1 := 9) (Γ' := [(0, 2), (1, 0)]) (t_pI ck12 27 (by decide) rfl (Or.inl rfl) (s_aload_n dX12_runsBy_4 rfl rfl) (s_iload_n dX12_runsBy_5 rfl rfl) dX12_runsBy_6 w6_232 rfl) (t_sq (p1 := 13) (Γ' := [(0, 2), (1, 0)]) (t_do (x_callV (ts := [(0, 2)]) ck12 rfl kX12_runs mokX12_runs w8_144 ps5_14 rfl rfl rfl rfl (a_R (ts := []) 0 a_nil (s_aload_n dX12_runsBy_9 rfl rfl) rfl) dX12_runsBy_10 w8_142) rfl) (t_ret0 (fun _ _ => rfl) dX12_runsBy_13))))
noncomputable def DX12_runsBy : Fr → St → Option (Unit × St) := M1 (fun f => (sI (sR fr0 0 (gR f 0)) 1 (gI f 1))) BX12_runsBy
theorem kX12_runsBy : SND yX12_runsBy cX12_runsBy 2 none 5 [(0, 2), (1, 0)] cvoV DX12_runsBy := snd_V (nw := 2) (by decide) (fun z => by cases z) rfl rfl (fun _ _ => rfl) sBX12_runsBy
theorem dX12_by_0 : decode cX12_by 0 = .ok (.aload_n 0, 1) := by decide +kernel
theorem dX12_by_1 : decode cX12_by 1 = .ok (.iconst 0, 1) := by decide +kernel
theorem dX12_by_2 : decode cX12_by 2 = .ok (.putfield 122, 3) := by decide +kernel
theorem dX12_by_5 : decode cX12_by 5 = .ok (.aload_n 0, 1) := by decide +kernel
theorem dX12_by_6 : decode cX12_by 6 = .ok (.iload_n 1, 1) := by decide +kernel
theorem dX12_by_7 : decode cX12_by 7 = .ok (.invokevirtual 372, 3) := by decide +kernel
theorem dX12_by_10 : decode cX12_by 10 = .ok (.ifCond .eq 15, 3) := by decide +kernel
theorem dX12_by_13 : decode cX12_by 13 = .ok (.iload_n 2, 1) := by decide +kernel
theorem dX12_by_14 : decode cX12_by 14 = .ok (.i2l, 1) := by decide +kernel
theorem dX12_by_15 : decode cX12_by 15 = .ok (.lconst 0, 1) := by decide +kernel
theorem dX12_by_16 : decode cX12_by 16 = .ok (.ldc2_w 125, 3) := by decide +kernel
theorem dX12_by_19 : decode cX12_by 19 = .ok (.invokestatic 127, 3) := by decide +kernel
theorem dX12_by_22 : decode cX12_by 22 = .ok (.ifCond .ne 6, 3) := by decide +kernel
theorem dX12_by_25 : decode cX12_by 25 = .ok (.bipush (-2), 2) := by decide +kernel
theorem dX12_by_27 : decode cX12_by 27 = .ok (.ireturn, 1) := by decide +kernel
theorem dX12_by_28 : decode cX12_by 28 = .ok (.aload_n 0, 1) := by decide +kernel
theorem dX12_by_29 : decode cX12_by 29 = .ok (.iload_n 2, 1) := by decide +kernel
theorem dX12_by_30 : decode cX12_by 30 = .ok (.invokevirtual 437, 3) := by decide +kernel
theorem dX12_by_33 : decode cX12_by 33 = .ok (.aload_n 0, 1) := by decide +kernel
theorem dX12_by_34 : decode cX12_by 34 = .ok (.iload_n 1, 1) := by decide +kernel
theorem dX12_by_35 : decode cX12_by 35 = .ok (.aload_n 0, 1) := by decide +kernel
theorem dX12_by_36 : decode cX12_by 36 = .ok (.invokevirtual 304, 3) := by decide +kernel
theorem dX12_by_39 : decode cX12_by 39 = .ok (.invokevirtual 385, 3) := by decide +kernel
theorem dX12_by_42 : decode cX12_by 42 = .ok (.ireturn, 1) := by decide +kernel
theorem mokX12_by : MOK yX12_by cX12_by 3 (some .int) 2 := ⟨w9_110, w1_13, ⟨by decide, by decide⟩, by decide +kernel, by decide⟩
abbrev miX12_by : MI := (yX12_by.cls, cX12_by, 3, 6, false)
noncomputable def BX12_by : Sm Int32 := (dSeq (dP (fI 12 0) (vR 0) (cI 0)) (dSeq (dIf (dOr (dNot (dCZ q_ne (dCallV 12 DX12_isSlate (aI (aR aN 0 (vR 0)) 1 (vI 1))))) (dNot (dCZ q_ne (dCall DX12_in (aL (aL (aL aN 0 (d1 o_i2l (vI 2))) 2 (cL 0)) 4 (cL 3)))))) (dRet (cI (-2))) dSkip) (dSeq (dDo (dCallV 12 DX12_runsBy (aI (aR aN 0 (vR 0)) 1 (vI 2)))) (dRet (dCallV 12 DX12_heardOf (aI (aI (aR aN 0 (vR 0)) 1 (vI 1)) 2 (dCallV 12 DX12_days (aR aN 0 (vR 0)))))))))
theorem sBX12_by : SS (cvoI, .ireturn) miX12_by [] [] [] [(0, 2), (1, 0), (2, 0)] [(0, 2), (1, 0), (2, 0)] 0 [] BX12_by := (t_sq (p1 := 5) (Γ' := [(0, 2), (1, 0), (2, 0)]) (t_pI ck12 0 (by decide) rfl (Or.inl rfl) (s_aload_n dX12_by_0 rfl rfl) (s_iconst dX12_by_1 rfl) dX12_by_2 w6_205 rfl) (t_sq (p1 := 28) (Γ' := [(0, 2), (1, 0), (2, 0)]) (t_if (pT := 25) (pF := 28) (X := [28]) (XA := []) (XB := [28]) (c_or (p1 := 13) (pT := 25) (pF := 28) (c_not (pT := 25) (pF := 13) (c_ne_ZF (pF := 25) (s_of_xI (x_callV (ts := [(0, 2), (1, 0)]) ck12 rfl kX12_isSlate mokX12_isSlate w8_85 ps5_4 rfl rfl rfl rfl (a_I (ts := [(0, 2)]) 1 (a_R (ts := []) 0 a_nil (s_aload_n dX12_by_5 rfl rfl) rfl) (s_iload_n dX12_by_6 rfl rfl) rfl) dX12_by_7 w8_83)) dX12_by_10 rfl)) (c_not (pT := 25) (pF := 28) (c_ne_ZJ (pT := 28) (s_of_xI (x_call (ts := [(0, 1), (2, 1), (4, 1)]) kX12_in mokX12_in w7_141 rfl rfl rfl (a_L (ts := [(0, 1), (2, 1)]) 4 (a_L (ts := [(0, 1)]) 2 (a_L (ts := []) 0 a_nil (s_i2l (s_iload_n dX12_by_13 rfl rfl) dX12_by_14) rfl) (s_lconst dX12_by_15 rfl) rfl) (s_ldc2 dX12_by_16 w7_139) rfl) dX12_by_19 w7_140)) dX12_by_22 rfl))) (t_ret (cv := cvI) (fun _ _ => rfl) (s_bipush dX12_by_25 rfl) dX12_by_27) (t_skip (ld_in rfl) rfl) lda_nil (lda_cons (ld_in rfl) lda_nil)) (t_sq (p1 := 33) (Γ' := [(0, 2), (1, 0), (2, 0)]) (t_do (x_callV (ts := [(0, 2), (1, 0)]) ck12 rfl kX12_runsBy mokX12_runsBy w9_113 ps7_2 rfl rfl rfl rfl (a_I (ts := [(0, 2)]) 1 (a_R (ts := []) 0 a_nil (s_aload_n dX12_by_28 rfl rfl) rfl) (s_iload_n dX12_by_29 rfl rfl) rfl) dX12_by_30 w9_111) rfl) (t_ret (cv := cvI) (fun _ _ => rfl) (s_of_xI (x_callV (ts := [(0, 2), (1, 0), (2, 0)]) ck12 rfl kX12_heardOf mokX12_heardOf w8_196 ps6_6 rfl rfl rfl rfl (a_I (ts := [(0, 2), (1, 0)]) 2 (a_I (ts := [(0, 2)]) 1 (a_R (ts := []) 0 a_nil (s_aload_n dX12_by_33 rfl rfl) rfl) (s_iload_n dX12_by_34 rfl rfl) rfl) (s_of_xI (x_callV (ts := [(0, 2)]) ck12 rfl kX12_days mokX12_days w8_136 ps5_12 rfl rfl rfl rfl (a_R (ts := []) 0 a_nil (s_aload_n dX12_by_35 rfl rfl) rfl) dX12_by_36 w8_134)) rfl) dX12_by_39 w8_194)) dX12_by_42))))
noncomputable def DX12_by : Fr → St → Option (Int32 × St) := M1 (fun f => (sI (sI (sR fr0 0 (gR f 0)) 1 (gI f 1)) 2 (gI f 2))) BX12_by
theorem kX12_by : SND yX12_by cX12_by 3 (some .int) 6 [(0, 2), (1, 0), (2, 0)] cvoI DX12_by := snd_I (nw := 3) (by decide) rfl rfl (fun _ _ => rfl) sBX12_by
theorem dX12_law_0 : decode cX12_law 0 = .ok (.aload_n 0, 1) := by decide +kernel
theorem dX12_law_1 : decode cX12_law 1 = .ok (.iconst 0, 1) := by decide +kernel
theorem dX12_law_2 : decode cX12_law 2 = .ok (.putfield 122, 3) := by decide +kernel
theorem dX12_law_5 : decode cX12_law 5 = .ok (.aload_n 0, 1) := by decide +kernel
theorem dX12_law_6 : decode cX12_law 6 = .ok (.iload_n 1, 1) := by decide +kernel
theorem dX12_law_7 : decode cX12_law 7 = .ok (.invokevirtual 372, 3) := by decide +kernel
theorem dX12_law_10 : decode cX12_law 10 = .ok (.ifCond .ne 6, 3) := by decide +kernel
theorem dX12_law_13 : decode cX12_law 13 = .ok (.bipush (-2), 2) := by decide +kernel
theorem dX12_law_15 : decode cX12_law 15 = .ok (.ireturn, 1) := by decide +kernel
theorem dX12_law_16 : decode cX12_law 16 = .ok (.iconst 0, 1) := by decide +kernel
theorem dX12_law_17 : decode cX12_law 17 = .ok (.istore_n 2, 1) := by decide +kernel
theorem dX12_law_18 : decode cX12_law 18 = .ok (.iconst (-1), 1) := by decide +kernel
theorem dX12_law_19 : decode cX12_law 19 = .ok (.istore_n 3, 1) := by decide +kernel
theorem dX12_law_20 : decode cX12_law 20 = .ok (.iconst 0, 1) := by decide +kernel
theorem dX12_law_21 : decode cX12_law 21 = .ok (.istore 4, 2) := by decide +kernel
theorem dX12_law_23 : decode cX12_law 23 = .ok (.iload 4, 2) := by decide +kernel
theorem dX12_law_25 : decode cX12_law 25 = .ok (.iconst 4, 1) := by decide +kernel
theorem dX12_law_26 : decode cX12_law 26 = .ok (.if_icmp .ge 44, 3) := by decide +kernel
theorem dX12_law_29 : decode cX12_law 29 = .ok (.aload_n 0, 1) := by decide +kernel
theorem dX12_law_30 : decode cX12_law 30 = .ok (.iload 4, 2) := by decide +kernel
theorem dX12_law_32 : decode cX12_law 32 = .ok (.invokevirtual 437, 3) := by decide +kernel
theorem dX12_law_35 : decode cX12_law 35 = .ok (.aload_n 0, 1) := by decide +kernel
theorem dX12_law_36 : decode cX12_law 36 = .ok (.iload_n 1, 1) := by decide +kernel
theorem dX12_law_37 : decode cX12_law 37 = .ok (.aload_n 0, 1) := by decide +kernel
theorem dX12_law_38 : decode cX12_law 38 = .ok (.invokevirtual 304, 3) := by decide +kernel
theorem dX12_law_41 : decode cX12_law 41 = .ok (.invokevirtual 385, 3) := by decide +kernel
theorem dX12_law_44 : decode cX12_law 44 = .ok (.invokestatic 394, 3) := by decide +kernel
theorem dX12_law_47 : decode cX12_law 47 = .ok (.istore 5, 2) := by decide +kernel
theorem dX12_law_49 : decode cX12_law 49 = .ok (.iload 5, 2) := by decide +kernel
theorem dX12_law_51 : decode cX12_law 51 = .ok (.iload_n 3, 1) := by decide +kernel
theorem dX12_law_52 : decode cX12_law 52 = .ok (.if_icmp .gt 6, 3) := by decide +kernel
theorem dX12_law_55 : decode cX12_law 55 = .ok (.goto 9, 3) := by decide +kernel
theorem dX12_law_58 : decode cX12_law 58 = .ok (.iload 4, 2) := by decide +kernel
theorem dX12_law_60 : decode cX12_law 60 = .ok (.istore_n 2, 1) := by decide +kernel
theorem dX12_law_61 : decode cX12_law 61 = .ok (.iload 5, 2) := by decide +kernel
theorem dX12_law_63 : decode cX12_law 63 = .ok (.istore_n 3, 1) := by decide +kernel
theorem dX12_law_64 : decode cX12_law 64 = .ok (.iinc 4 1, 3) := by decide +kernel
theorem dX12_law_67 : decode cX12_law 67 = .ok (.goto (-44), 3) := by decide +kernel
theorem dX12_law_70 : decode cX12_law 70 = .ok (.iload_n 2, 1) := by decide +kernel
theorem dX12_law_71 : decode cX12_law 71 = .ok (.ireturn, 1) := by decide +kernel
theorem mokX12_law : MOK yX12_law cX12_law 6 (some .int) 1 := ⟨w9_118, w1_13, ⟨by decide, by decide⟩, by decide +kernel, by decide⟩
abbrev miX12_law : MI := (yX12_law.cls, cX12_law, 6, 6, false)
noncomputable def LX12_law_1 : Sm Int32 := dLoop (fun f => (sI (sI (sI (sI (sR fr0 0 (gR f 0)) 1 (gI f 1)) 2 (gI f 2)) 3 (gI f 3)) 4 (gI f 4))) (dCI r_lt (vI 4) (cI 4)) (dSeq (dDo (dCallV 12 DX12_runsBy (aI (aR aN 0 (vR 0)) 1 (vI 4)))) (dSeq (dSetI 5 (dCall DX12_sizeOf (aI aN 0 (dCallV 12 DX12_heardOf (aI (aI (aR aN 0 (vR 0)) 1 (vI 1)) 2 (dCallV 12 DX12_days (aR aN 0 (vR 0)))))))) (dSeq (dIf (dCI r_le (vI 5) (vI 3)) dCnt dSkip) (dSeq (dSetI 2 (vI 4)) (dSetI 3 (vI 5)))))) (dInc 4 1)
theorem sLX12_law_1 {ΓL : Gm} {PB PK : List Nat} : SS (cvoI, .ireturn) miX12_law ΓL PB PK [(0, 2), (1, 0), (2, 0), (3, 0), (4, 0)] [(0, 2), (1, 0), (2, 0), (3, 0), (4, 0)] 23 [70] LX12_law_1 := t_loop (pT := 29) (pF := 70) (pu := 64) (PB' := []) (PK' := [64]) (XB := [64]) (XU := [67]) (fun _ _ => rfl) rfl (c_lt_F (pF := 70) (s_iload dX12_law_23 rfl) (s_iconst dX12_law_25 rfl) dX12_law_26 rfl) (t_sq (p1 := 35) (Γ' := [(0, 2), (1, 0), (2, 0), (3, 0), (4, 0)]) (t_do (x_callV (ts := [(0, 2), (1, 0)]) ck12 rfl kX12_runsBy mokX12_runsBy w9_113 ps7_2 rfl rfl rfl rfl (a_I (ts := [(0, 2)]) 1 (a_R (ts := []) 0 a_nil (s_aload_n dX12_law_29 rfl rfl) rfl) (s_iload dX12_law_30 rfl) rfl) dX12_law_32 w9_111) rfl) (t_sq (p1 := 49) (Γ' := [(0, 2), (1, 0), (2, 0), (3, 0), (4, 0), (5, 0)]) (t_istore (s_of_xI (x_call (ts := [(0, 0)]) kX12_sizeOf mokX12_sizeOf w9_11 rfl rfl rfl (a_I (ts := []) 0 a_nil (s_of_xI (x_callV (ts := [(0, 2), (1, 0), (2, 0)]) ck12 rfl kX12_heardOf mokX12_heardOf w8_196 ps6_6 rfl rfl rfl rfl (a_I (ts := [(0, 2), (1, 0)]) 2 (a_I (ts := [(0, 2)]) 1 (a_R (ts := []) 0 a_nil (s_aload_n dX12_law_35 rfl rfl) rfl) (s_iload_n dX12_law_36 rfl rfl) rfl) (s_of_xI (x_callV (ts := [(0, 2)]) ck12 rfl kX12_days mokX12_days w8_136 ps5_12 rfl rfl rfl rfl (a_R (ts := []) 0 a_nil (s_aload_n dX12_law_37 rfl rfl) rfl) dX12_law_38 w8_134)) rfl) dX12_law_41 w8_194)) rfl) dX12_law_44 w9_10)) dX12_law_47 rfl rfl) (t_sq (p1 := 58) (Γ' := [(0, 2), (1, 0), (2, 0), (3, 0), (4, 0), (5, 0)]) (t_if (pT := 55) (pF := 58) (X := [58]) (XA := []) (XB := [58]) (c_le_F (pF := 58) (s_iload dX12_law_49 rfl) (s_iload_n dX12_law_51 rfl rfl) dX12_law_52 rfl) (t_cnt (ld_goto (y := 64) dX12_law_55 rfl (ld_in rfl)) rfl) (t_skip (ld_in rfl) rfl) lda_nil (lda_cons (ld_in rfl) lda_nil)) (t_sq (p1 := 61) (Γ' := [(0, 2), (1, 0), (2, 0), (3, 0), (4, 0), (5, 0)]) (t_istore_n (s_iload dX12_law_58 rfl) dX12_law_60 rfl rfl rfl) (t_istore_n (s_iload dX12_law_61 rfl) dX12_law_63 rfl rfl rfl))))) (t_iinc dX12_law_64 rfl rfl rfl rfl) (lda_cons (ld_in rfl) lda_nil) (lda_cons (ld_in rfl) lda_nil) (lda_cons (ld_goto (y := 23) dX12_law_67 rfl (ld_in rfl)) lda_nil) (ld_in rfl) lda_nil
noncomputable def BX12_law : Sm Int32 := (dSeq (dP (fI 12 0) (vR 0) (cI 0)) (dSeq (dIf (dNot (dCZ q_ne (dCallV 12 DX12_isSlate (aI (aR aN 0 (vR 0)) 1 (vI 1))))) (dRet (cI (-2))) dSkip) (dSeq (dSetI 2 (cI 0)) (dSeq (dSetI 3 (cI (-1))) (dSeq (dSeq (dSetI 4 (cI 0)) LX12_law_1) (dRet (vI 2)))))))
theorem sBX12_law : SS (cvoI, .ireturn) miX12_law [] [] [] [(0, 2), (1, 0)] [(0, 2), (1, 0)] 0 [] BX12_law := (t_sq (p1 := 5) (Γ' := [(0, 2), (1, 0)]) (t_pI ck12 0 (by decide) rfl (Or.inl rfl) (s_aload_n dX12_law_0 rfl rfl) (s_iconst dX12_law_1 rfl) dX12_law_2 w6_205 rfl) (t_sq (p1 := 16) (Γ' := [(0, 2), (1, 0)]) (t_if (pT := 13) (pF := 16) (X := [16]) (XA := []) (XB := [16]) (c_not (pT := 13) (pF := 16) (c_ne_ZJ (pT := 16) (s_of_xI (x_callV (ts := [(0, 2), (1, 0)]) ck12 rfl kX12_isSlate mokX12_isSlate w8_85 ps5_4 rfl rfl rfl rfl (a_I (ts := [(0, 2)]) 1 (a_R (ts := []) 0 a_nil (s_aload_n dX12_law_5 rfl rfl) rfl) (s_iload_n dX12_law_6 rfl rfl) rfl) dX12_law_7 w8_83)) dX12_law_10 rfl)) (t_ret (cv := cvI) (fun _ _ => rfl) (s_bipush dX12_law_13 rfl) dX12_law_15) (t_skip (ld_in rfl) rfl) lda_nil (lda_cons (ld_in rfl) lda_nil)) (t_sq (p1 := 18) (Γ' := [(0, 2), (1, 0), (2, 0)]) (t_istore_n (s_iconst dX12_law_16 rfl) dX12_law_17 rfl rfl rfl) (t_sq (p1 := 20) (Γ' := [(0, 2), (1, 0), (2, 0), (3, 0)]) (t_istore_n (s_iconst dX12_law_18 rfl) dX12_law_19 rfl rfl rfl) (t_sq (p1 := 70) (Γ' := [(0, 2), (1, 0), (2, 0), (3, 0)]) (t_sq (p1 := 23) (Γ' := [(0, 2), (1, 0), (2, 0), (3, 0), (4, 0)]) (t_istore (s_iconst dX12_law_20 rfl) dX12_law_21 rfl rfl) (tn_to (Γ' := [(0, 2), (1, 0), (2, 0), (3, 0), (4, 0)]) (XA := [70]) sLX12_law_1 (lda_cons (ld_in rfl) lda_nil) rfl)) (t_ret (cv := cvI) (fun _ _ => rfl) (s_iload_n dX12_law_70 rfl rfl) dX12_law_71))))))
noncomputable def DX12_law : Fr → St → Option (Int32 × St) := M1 (fun f => (sI (sR fr0 0 (gR f 0)) 1 (gI f 1))) BX12_law
theorem kX12_law : SND yX12_law cX12_law 6 (some .int) 6 [(0, 2), (1, 0)] cvoI DX12_law := snd_I (nw := 2) (by decide) rfl rfl (fun _ _ => rfl) sBX12_law
theorem dX12_beside_0 : decode cX12_beside 0 = .ok (.aload_n 0, 1) := by decide +kernel
theorem dX12_beside_1 : decode cX12_beside 1 = .ok (.iconst 0, 1) := by decide +kernel
theorem dX12_beside_2 : decode cX12_beside 2 = .ok (.putfield 122, 3) := by decide +kernel
theorem dX12_beside_5 : decode cX12_beside 5 = .ok (.aload_n 0, 1) := by decide +kernel
theorem dX12_beside_6 : decode cX12_beside 6 = .ok (.iload_n 1, 1) := by decide +kernel
theorem dX12_beside_7 : decode cX12_beside 7 = .ok (.invokevirtual 372, 3) := by decide +kernel
theorem dX12_beside_10 : decode cX12_beside 10 = .ok (.ifCond .ne 6, 3) := by decide +kernel
theorem dX12_beside_13 : decode cX12_beside 13 = .ok (.bipush (-2), 2) := by decide +kernel
theorem dX12_beside_15 : decode cX12_beside 15 = .ok (.ireturn, 1) := by decide +kernel
theorem dX12_beside_16 : decode cX12_beside 16 = .ok (.aload_n 0, 1) := by decide +kernel
theorem dX12_beside_17 : decode cX12_beside 17 = .ok (.invokevirtual 382, 3) := by decide +kernel
theorem dX12_beside_20 : decode cX12_beside 20 = .ok (.iconst (-1), 1) := by decide +kernel
theorem dX12_beside_21 : decode cX12_beside 21 = .ok (.istore_n 2, 1) := by decide +kernel
theorem dX12_beside_22 : decode cX12_beside 22 = .ok (.iconst 0, 1) := by decide +kernel
theorem dX12_beside_23 : decode cX12_beside 23 = .ok (.istore_n 3, 1) := by decide +kernel
theorem dX12_beside_24 : decode cX12_beside 24 = .ok (.iconst 0, 1) := by decide +kernel
theorem dX12_beside_25 : decode cX12_beside 25 = .ok (.istore 4, 2) := by decide +kernel
theorem dX12_beside_27 : decode cX12_beside 27 = .ok (.iload 4, 2) := by decide +kernel
theorem dX12_beside_29 : decode cX12_beside 29 = .ok (.aload_n 0, 1) := by decide +kernel
theorem dX12_beside_30 : decode cX12_beside 30 = .ok (.invokevirtual 292, 3) := by decide +kernel
theorem dX12_beside_33 : decode cX12_beside 33 = .ok (.if_icmp .ge 51, 3) := by decide +kernel
theorem dX12_beside_36 : decode cX12_beside 36 = .ok (.iload 4, 2) := by decide +kernel
theorem dX12_beside_38 : decode cX12_beside 38 = .ok (.aload_n 0, 1) := by decide +kernel
theorem dX12_beside_39 : decode cX12_beside 39 = .ok (.getfield 46, 3) := by decide +kernel
theorem dX12_beside_42 : decode cX12_beside 42 = .ok (.iload_n 1, 1) := by decide +kernel
theorem dX12_beside_43 : decode cX12_beside 43 = .ok (.iaload, 1) := by decide +kernel
theorem dX12_beside_44 : decode cX12_beside 44 = .ok (.if_icmp .ne 7, 3) := by decide +kernel
theorem dX12_beside_47 : decode cX12_beside 47 = .ok (.iconst 0, 1) := by decide +kernel
theorem dX12_beside_48 : decode cX12_beside 48 = .ok (.goto 13, 3) := by decide +kernel
theorem dX12_beside_51 : decode cX12_beside 51 = .ok (.aload_n 0, 1) := by decide +kernel
theorem dX12_beside_52 : decode cX12_beside 52 = .ok (.iload_n 1, 1) := by decide +kernel
theorem dX12_beside_53 : decode cX12_beside 53 = .ok (.iload 4, 2) := by decide +kernel
theorem dX12_beside_55 : decode cX12_beside 55 = .ok (.invokevirtual 397, 3) := by decide +kernel
theorem dX12_beside_58 : decode cX12_beside 58 = .ok (.invokestatic 394, 3) := by decide +kernel
theorem dX12_beside_61 : decode cX12_beside 61 = .ok (.istore 5, 2) := by decide +kernel
theorem dX12_beside_63 : decode cX12_beside 63 = .ok (.iload 5, 2) := by decide +kernel
theorem dX12_beside_65 : decode cX12_beside 65 = .ok (.iload_n 3, 1) := by decide +kernel
theorem dX12_beside_66 : decode cX12_beside 66 = .ok (.if_icmp .gt 6, 3) := by decide +kernel
theorem dX12_beside_69 : decode cX12_beside 69 = .ok (.goto 9, 3) := by decide +kernel
theorem dX12_beside_72 : decode cX12_beside 72 = .ok (.iload 4, 2) := by decide +kernel
theorem dX12_beside_74 : decode cX12_beside 74 = .ok (.istore_n 2, 1) := by decide +kernel
theorem dX12_beside_75 : decode cX12_beside 75 = .ok (.iload 5, 2) := by decide +kernel
theorem dX12_beside_77 : decode cX12_beside 77 = .ok (.istore_n 3, 1) := by decide +kernel
theorem dX12_beside_78 : decode cX12_beside 78 = .ok (.iinc 4 1, 3) := by decide +kernel
theorem dX12_beside_81 : decode cX12_beside 81 = .ok (.goto (-54), 3) := by decide +kernel
theorem dX12_beside_84 : decode cX12_beside 84 = .ok (.iload_n 2, 1) := by decide +kernel
theorem dX12_beside_85 : decode cX12_beside 85 = .ok (.ireturn, 1) := by decide +kernel
theorem mokX12_beside : MOK yX12_beside cX12_beside 6 (some .int) 1 := ⟨w9_122, w1_13, ⟨by decide, by decide⟩, by decide +kernel, by decide⟩
abbrev miX12_beside : MI := (yX12_beside.cls, cX12_beside, 6, 6, false)
noncomputable def LX12_beside_1 : Sm Int32 := dLoop (fun f => (sI (sI (sI (sI (sR fr0 0 (gR f 0)) 1 (gI f 1)) 2 (gI f 2)) 3 (gI f 3)) 4 (gI f 4))) (dCI r_lt (vI 4) (dCallV 12 DX12_houses (aR aN 0 (vR 0)))) (dSeq (dSetI 5 (dT (dCI r_eq (vI 4) (dAI (dGR 12 21 (vR 0)) (vI 1))) (cI 0) (dCall DX12_sizeOf (aI aN 0 (dCallV 12 DX12_knownLast (aI (aI (aR aN 0 (vR 0)) 1 (vI 1)) 2 (vI 4))))))) (dSeq (dIf (dCI r_le (vI 5) (vI 3)) dCnt dSkip) (dSeq (dSetI 2 (vI 4)) (dSetI 3 (vI 5))))) (dInc 4 1)
theorem sLX12_beside_1 {ΓL : Gm} {PB PK : List Nat} : SS (cvoI, .ireturn) miX12_beside ΓL PB PK [(0, 2), (1, 0), (2, 0), (3, 0), (4, 0)] [(0, 2), (1, 0), (2, 0), (3, 0), (4, 0)] 27 [84] LX12_beside_1 := t_loop (pT := 36) (pF := 84) (pu := 78) (PB' := []) (PK' := [78]) (XB := [78]) (XU := [81]) (fun _ _ => rfl) rfl (c_lt_F (pF := 84) (s_iload dX12_beside_27 rfl) (s_of_xI (x_callV (ts := [(0, 2)]) ck12 rfl kX12_houses mokX12_houses w8_62 ps5_1 rfl rfl rfl rfl (a_R (ts := []) 0 a_nil (s_aload_n dX12_beside_29 rfl rfl) rfl) dX12_beside_30 w8_60)) dX12_beside_33 rfl) (t_sq (p1 := 63) (Γ' := [(0, 2), (1, 0), (2, 0), (3, 0), (4, 0), (5, 0)]) (t_istore (s_T (pT := 47) (pF := 51) (p1 := 48) (pe := 61) (c_eq_F (pF := 51) (s_iload dX12_beside_36 rfl) (s_dAI (s_getR ck12 21 (by decide) rfl (s_aload_n dX12_beside_38 rfl rfl) dX12_beside_39 w6_226) (s_iload_n dX12_beside_42 rfl rfl) dX12_beside_43) dX12_beside_44 rfl) (s_iconst dX12_beside_47 rfl) (s_of_xI (x_call (ts := [(0, 0)]) kX12_sizeOf mokX12_sizeOf w9_11 rfl rfl rfl (a_I (ts := []) 0 a_nil (s_of_xI (x_callV (ts := [(0, 2), (1, 0), (2, 0)]) ck12 rfl kX12_knownLast mokX12_knownLast w9_19 ps6_9 rfl rfl rfl rfl (a_I (ts := [(0, 2), (1, 0)]) 2 (a_I (ts := [(0, 2)]) 1 (a_R (ts := []) 0 a_nil (s_aload_n dX12_beside_51 rfl rfl) rfl) (s_iload_n dX12_beside_52 rfl rfl) rfl) (s_iload dX12_beside_53 rfl) rfl) dX12_beside_55 w9_17)) rfl) dX12_beside_58 w9_10)) (ld_goto (y := 61) dX12_beside_48 rfl (ld_in rfl))) dX12_beside_61 rfl rfl) (t_sq (p1 := 72) (Γ' := [(0, 2), (1, 0), (2, 0), (3, 0), (4, 0), (5, 0)]) (t_if (pT := 69) (pF := 72) (X := [72]) (XA := []) (XB := [72]) (c_le_F (pF := 72) (s_iload dX12_beside_63 rfl) (s_iload_n dX12_beside_65 rfl rfl) dX12_beside_66 rfl) (t_cnt (ld_goto (y := 78) dX12_beside_69 rfl (ld_in rfl)) rfl) (t_skip (ld_in rfl) rfl) lda_nil (lda_cons (ld_in rfl) lda_nil)) (t_sq (p1 := 75) (Γ' := [(0, 2), (1, 0), (2, 0), (3, 0), (4, 0), (5, 0)]) (t_istore_n (s_iload dX12_beside_72 rfl) dX12_beside_74 rfl rfl rfl) (t_istore_n (s_iload dX12_beside_75 rfl) dX12_beside_77 rfl rfl rfl)))) (t_iinc dX12_beside_78 rfl rfl rfl rfl) (lda_cons (ld_in rfl) lda_nil) (lda_cons (ld_in rfl) lda_nil) (lda_cons (ld_goto (y := 27) dX12_beside_81 rfl (ld_in rfl)) lda_nil) (ld_in rfl) lda_nil
noncomputable def BX12_beside : Sm Int32 := (dSeq (dP (fI 12 0) (vR 0) (cI 0)) (dSeq (dIf (dNot (dCZ q_ne (dCallV 12 DX12_isSlate (aI (aR aN 0 (vR 0)) 1 (vI 1))))) (dRet (cI (-2))) dSkip) (dSeq (dDo (dCallV 12 DX12_laysNow (aR aN 0 (vR 0)))) (dSeq (dSetI 2 (cI (-1))) (dSeq (dSetI 3 (cI 0)) (dSeq (dSeq (dSetI 4 (cI 0)) LX12_beside_1) (dRet (vI 2))))))))
theorem sBX12_beside : SS (cvoI, .ireturn) miX12_beside [] [] [] [(0, 2), (1, 0)] [(0, 2), (1, 0)] 0 [] BX12_beside := (t_sq (p1 := 5) (Γ' := [(0, 2), (1, 0)]) (t_pI ck12 0 (by decide) rfl (Or.inl rfl) (s_aload_n dX12_beside_0 rfl rfl) (s_iconst dX12_beside_1 rfl) dX12_beside_2 w6_205 rfl) (t_sq (p1 := 16) (Γ' := [(0, 2), (1, 0)]) (t_if (pT := 13) (pF := 16) (X := [16]) (XA := []) (XB := [16]) (c_not (pT := 13) (pF := 16) (c_ne_ZJ (pT := 16) (s_of_xI (x_callV (ts := [(0, 2), (1, 0)]) ck12 rfl kX12_isSlate mokX12_isSlate w8_85 ps5_4 rfl rfl rfl rfl (a_I (ts := [(0, 2)]) 1 (a_R (ts := []) 0 a_nil (s_aload_n dX12_beside_5 rfl rfl) rfl) (s_iload_n dX12_beside_6 rfl rfl) rfl) dX12_beside_7 w8_83)) dX12_beside_10 rfl)) (t_ret (cv := cvI) (fun _ _ => rfl) (s_bipush dX12_beside_13 rfl) dX12_beside_15) (t_skip (ld_in rfl) rfl) lda_nil (lda_cons (ld_in rfl) lda_nil)) (t_sq (p1 := 20) (Γ' := [(0, 2), (1, 0)]) (t_do (x_callV (ts := [(0, 2)]) ck12 rfl kX12_laysNow mokX12_laysNow w8_140 ps5_13 rfl rfl rfl rfl (a_R (ts := []) 0 a_nil (s_aload_n dX12_beside_16 rfl rfl) rfl) dX12_beside_17 w8_138) rfl) (t_sq (p1 := 22) (Γ' := [(0, 2), (1, 0), (2, 0)]) (t_istore_n (s_iconst dX12_beside_20 rfl) dX12_beside_21 rfl rfl rfl) (t_sq (p1 := 24) (Γ' := [(0, 2), (1, 0), (2, 0), (3, 0)]) (t_istore_n (s_iconst dX12_beside_22 rfl) dX12_beside_23 rfl rfl rfl) (t_sq (p1 := 84) (Γ' := [(0, 2), (1, 0), (2, 0), (3, 0)]) (t_sq (p1 := 27) (Γ' := [(0, 2), (1, 0), (2, 0), (3, 0), (4, 0)]) (t_istore (s_iconst dX12_beside_24 rfl) dX12_beside_25 rfl rfl) (tn_to (Γ' := [(0, 2), (1, 0), (2, 0), (3, 0), (4, 0)]) (XA := [84]) sLX12_beside_1 (lda_cons (ld_in rfl) lda_nil) rfl)) (t_ret (cv := cvI) (fun _ _ => rfl) (s_iload_n dX12_beside_84 rfl rfl) dX12_beside_85)))))))
noncomputable def DX12_beside : Fr → St → Option (Int32 × St) := M1 (fun f => (sI (sR fr0 0 (gR f 0)) 1 (gI f 1))) BX12_beside
theorem kX12_beside : SND yX12_beside cX12_beside 6 (some .int) 6 [(0, 2), (1, 0)] cvoI DX12_beside := snd_I (nw := 2) (by decide) rfl rfl (fun _ _ => rfl) sBX12_beside
theorem dX12_whyNotSeen_0 : decode cX12_whyNotSeen 0 = .ok (.iload_n 1, 1) := by decide +kernel
theorem dX12_whyNotSeen_1 : decode cX12_whyNotSeen 1 = .ok (.invokestatic 131, 3) := by decide +kernel
theorem dX12_whyNotSeen_4 : decode cX12_whyNotSeen 4 = .ok (.ifCond .eq 11, 3) := by decide +kernel
theorem dX12_whyNotSeen_7 : decode cX12_whyNotSeen 7 = .ok (.aload_n 0, 1) := by decide +kernel
theorem dX12_whyNotSeen_8 : decode cX12_whyNotSeen 8 = .ok (.iload_n 2, 1) := by decide +kernel
theorem dX12_whyNotSeen_9 : decode cX12_whyNotSeen 9 = .ok (.invokevirtual 372, 3) := by decide +kernel
theorem dX12_whyNotSeen_12 : decode cX12_whyNotSeen 12 = .ok (.ifCond .ne 6, 3) := by decide +kernel
theorem dX12_whyNotSeen_15 : decode cX12_whyNotSeen 15 = .ok (.bipush (-2), 2) := by decide +kernel
theorem dX12_whyNotSeen_17 : decode cX12_whyNotSeen 17 = .ok (.ireturn, 1) := by decide +kernel
theorem dX12_whyNotSeen_18 : decode cX12_whyNotSeen 18 = .ok (.aload_n 0, 1) := by decide +kernel
theorem dX12_whyNotSeen_19 : decode cX12_whyNotSeen 19 = .ok (.getfield 7, 3) := by decide +kernel
theorem dX12_whyNotSeen_22 : decode cX12_whyNotSeen 22 = .ok (.iload_n 1, 1) := by decide +kernel
theorem dX12_whyNotSeen_23 : decode cX12_whyNotSeen 23 = .ok (.iaload, 1) := by decide +kernel
theorem dX12_whyNotSeen_24 : decode cX12_whyNotSeen 24 = .ok (.iconst (-1), 1) := by decide +kernel
theorem dX12_whyNotSeen_25 : decode cX12_whyNotSeen 25 = .ok (.if_icmp .ne 6, 3) := by decide +kernel
theorem dX12_whyNotSeen_28 : decode cX12_whyNotSeen 28 = .ok (.bipush (-6), 2) := by decide +kernel
theorem dX12_whyNotSeen_30 : decode cX12_whyNotSeen 30 = .ok (.ireturn, 1) := by decide +kernel
theorem dX12_whyNotSeen_31 : decode cX12_whyNotSeen 31 = .ok (.aload_n 0, 1) := by decide +kernel
theorem dX12_whyNotSeen_32 : decode cX12_whyNotSeen 32 = .ok (.getfield 13, 3) := by decide +kernel
theorem dX12_whyNotSeen_35 : decode cX12_whyNotSeen 35 = .ok (.iload_n 1, 1) := by decide +kernel
theorem dX12_whyNotSeen_36 : decode cX12_whyNotSeen 36 = .ok (.iaload, 1) := by decide +kernel
theorem dX12_whyNotSeen_37 : decode cX12_whyNotSeen 37 = .ok (.iconst 2, 1) := by decide +kernel
theorem dX12_whyNotSeen_38 : decode cX12_whyNotSeen 38 = .ok (.irem, 1) := by decide +kernel
theorem dX12_whyNotSeen_39 : decode cX12_whyNotSeen 39 = .ok (.ifCond .eq 6, 3) := by decide +kernel
theorem dX12_whyNotSeen_42 : decode cX12_whyNotSeen 42 = .ok (.bipush (-2), 2) := by decide +kernel
theorem dX12_whyNotSeen_44 : decode cX12_whyNotSeen 44 = .ok (.ireturn, 1) := by decide +kernel
theorem dX12_whyNotSeen_45 : decode cX12_whyNotSeen 45 = .ok (.iconst 0, 1) := by decide +kernel
theorem dX12_whyNotSeen_46 : decode cX12_whyNotSeen 46 = .ok (.istore_n 3, 1) := by decide +kernel
theorem dX12_whyNotSeen_47 : decode cX12_whyNotSeen 47 = .ok (.iload_n 3, 1) := by decide +kernel
theorem dX12_whyNotSeen_48 : decode cX12_whyNotSeen 48 = .ok (.aload_n 0, 1) := by decide +kernel
theorem dX12_whyNotSeen_49 : decode cX12_whyNotSeen 49 = .ok (.getfield 13, 3) := by decide +kernel
theorem dX12_whyNotSeen_52 : decode cX12_whyNotSeen 52 = .ok (.iload_n 1, 1) := by decide +kernel
theorem dX12_whyNotSeen_53 : decode cX12_whyNotSeen 53 = .ok (.iaload, 1) := by decide +kernel
theorem dX12_whyNotSeen_54 : decode cX12_whyNotSeen 54 = .ok (.if_icmp .ge 50, 3) := by decide +kernel
theorem dX12_whyNotSeen_57 : decode cX12_whyNotSeen 57 = .ok (.aload_n 0, 1) := by decide +kernel
theorem dX12_whyNotSeen_58 : decode cX12_whyNotSeen 58 = .ok (.aload_n 0, 1) := by decide +kernel
theorem dX12_whyNotSeen_59 : decode cX12_whyNotSeen 59 = .ok (.getfield 16, 3) := by decide +kernel
theorem dX12_whyNotSeen_62 : decode cX12_whyNotSeen 62 = .ok (.bipush 60, 2) := by decide +kernel
theorem dX12_whyNotSeen_64 : decode cX12_whyNotSeen 64 = .ok (.iload_n 1, 1) := by decide +kernel
theorem dX12_whyNotSeen_65 : decode cX12_whyNotSeen 65 = .ok (.imul, 1) := by decide +kernel
theorem dX12_whyNotSeen_66 : decode cX12_whyNotSeen 66 = .ok (.iload_n 3, 1) := by decide +kernel
theorem dX12_whyNotSeen_67 : decode cX12_whyNotSeen 67 = .ok (.iadd, 1) := by decide +kernel
theorem dX12_whyNotSeen_68 : decode cX12_whyNotSeen 68 = .ok (.laload, 1) := by decide +kernel
theorem dX12_whyNotSeen_69 : decode cX12_whyNotSeen 69 = .ok (.invokevirtual 379, 3) := by decide +kernel
theorem dX12_whyNotSeen_72 : decode cX12_whyNotSeen 72 = .ok (.ifCond .eq 23, 3) := by decide +kernel
theorem dX12_whyNotSeen_75 : decode cX12_whyNotSeen 75 = .ok (.aload_n 0, 1) := by decide +kernel
theorem dX12_whyNotSeen_76 : decode cX12_whyNotSeen 76 = .ok (.aload_n 0, 1) := by decide +kernel
theorem dX12_whyNotSeen_77 : decode cX12_whyNotSeen 77 = .ok (.getfield 16, 3) := by decide +kernel
theorem dX12_whyNotSeen_80 : decode cX12_whyNotSeen 80 = .ok (.bipush 60, 2) := by decide +kernel
theorem dX12_whyNotSeen_82 : decode cX12_whyNotSeen 82 = .ok (.iload_n 1, 1) := by decide +kernel
theorem dX12_whyNotSeen_83 : decode cX12_whyNotSeen 83 = .ok (.imul, 1) := by decide +kernel
theorem dX12_whyNotSeen_84 : decode cX12_whyNotSeen 84 = .ok (.iload_n 3, 1) := by decide +kernel
theorem dX12_whyNotSeen_85 : decode cX12_whyNotSeen 85 = .ok (.iadd, 1) := by decide +kernel
theorem dX12_whyNotSeen_86 : decode cX12_whyNotSeen 86 = .ok (.iconst 1, 1) := by decide +kernel
theorem dX12_whyNotSeen_87 : decode cX12_whyNotSeen 87 = .ok (.iadd, 1) := by decide +kernel
theorem dX12_whyNotSeen_88 : decode cX12_whyNotSeen 88 = .ok (.laload, 1) := by decide +kernel
theorem dX12_whyNotSeen_89 : decode cX12_whyNotSeen 89 = .ok (.invokevirtual 307, 3) := by decide +kernel
theorem dX12_whyNotSeen_92 : decode cX12_whyNotSeen 92 = .ok (.ifCond .ne 6, 3) := by decide +kernel
theorem dX12_whyNotSeen_95 : decode cX12_whyNotSeen 95 = .ok (.bipush (-2), 2) := by decide +kernel
theorem dX12_whyNotSeen_97 : decode cX12_whyNotSeen 97 = .ok (.ireturn, 1) := by decide +kernel
theorem dX12_whyNotSeen_98 : decode cX12_whyNotSeen 98 = .ok (.iinc 3 2, 3) := by decide +kernel
theorem dX12_whyNotSeen_101 : decode cX12_whyNotSeen 101 = .ok (.goto (-54), 3) := by decide +kernel
theorem dX12_whyNotSeen_104 : decode cX12_whyNotSeen 104 = .ok (.iconst 0, 1) := by decide +kernel
theorem dX12_whyNotSeen_105 : decode cX12_whyNotSeen 105 = .ok (.ireturn, 1) := by decide +kernel
theorem mokX12_whyNotSeen : MOK yX12_whyNotSeen cX12_whyNotSeen 4 (some .int) 2 := ⟨w9_130, w1_13, ⟨by decide, by decide⟩, by decide +kernel, by decide⟩
abbrev miX12_whyNotSeen : MI := (yX12_whyNotSeen.cls, cX12_whyNotSeen, 4, 3, false)
noncomputable def LX12_whyNotSeen_1 : Sm Int32 := dLoop (fun f => (sI (sI (sI (sR fr0 0 (gR f 0)) 1 (gI f 1)) 2 (gI f 2)) 3 (gI f 3))) (dCI r_lt (vI 3) (dAI (dGR 12 2 (vR 0)) (vI 1))) (dIf (dOr (dNot (dCZ q_ne (dCallV 12 DX12_isDay (aL (aR aN 0 (vR 0)) 1 (dAL (dGR 12 3 (vR 0)) (d2 o_iadd (d2 o_imul (cI 60) (vI 1)) (vI 3))))))) (dNot (dCZ q_ne (dCallV 12 DX12_isHouse (aL (aR aN 0 (vR 0)) 1 (dAL (dGR 12 3 (vR 0)) (d2 o_iadd (d2 o_iadd (d2 o_imul (cI 60) (vI 1)) (vI 3)) (cI 1)))))))) (dRet (cI (-2))) dSkip) (dInc 3 2)
theorem sLX12_whyNotSeen_1 {ΓL : Gm} {PB PK : List Nat} : SS (cvoI, .ireturn) miX12_whyNotSeen ΓL PB PK [(0, 2), (1, 0), (2, 0), (3, 0)] [(0, 2), (1, 0), (2, 0), (3, 0)] 47 [104] LX12_whyNotSeen_1 := t_loop (pT := 57) (pF := 104) (pu := 98) (PB' := []) (PK' := []) (XB := [98]) (XU := [101]) (fun _ _ => rfl) rfl (c_lt_F (pF := 104) (s_iload_n dX12_whyNotSeen_47 rfl rfl) (s_dAI (s_getR ck12 2 (by decide) rfl (s_aload_n dX12_whyNotSeen_48 rfl rfl) dX12_whyNotSeen_49 w6_207) (s_iload_n dX12_whyNotSeen_52 rfl rfl) dX12_whyNotSeen_53) dX12_whyNotSeen_54 rfl) (t_if (pT := 95) (pF := 98) (X := [98]) (XA := []) (XB := [98]) (c_or (p1 := 75) (pT := 95) (pF := 98) (c_not (pT := 95) (pF := 75) (c_ne_ZF (pF := 95) (s_of_xI (x_callV (ts := [(0, 2), (1, 1)]) ck12 rfl kX12_isDay mokX12_isDay w8_128 ps5_10 rfl rfl rfl rfl (a_L (ts := [(0, 2)]) 1 (a_R (ts := []) 0 a_nil (s_aload_n dX12_whyNotSeen_57 rfl rfl) rfl) (s_dAL (s_getR ck12 3 (by decide) rfl (s_aload_n dX12_whyNotSeen_58 rfl rfl) dX12_whyNotSeen_59 w6_208) (s_iadd (s_imul (s_bipush dX12_whyNotSeen_62 rfl) (s_iload_n dX12_whyNotSeen_64 rfl rfl) dX12_whyNotSeen_65) (s_iload_n dX12_whyNotSeen_66 rfl rfl) dX12_whyNotSeen_67) dX12_whyNotSeen_68) rfl) dX12_whyNotSeen_69 w8_126)) dX12_whyNotSeen_72 rfl)) (c_not (pT := 95) (pF := 98) (c_ne_ZJ (pT := 98) (s_of_xI (x_callV (ts := [(0, 2), (1, 1)]) ck12 rfl kX12_isHouse mokX12_isHouse w8_58 ps5_0 rfl rfl rfl rfl (a_L (ts := [(0, 2)]) 1 (a_R (ts := []) 0 a_nil (s_aload_n dX12_whyNotSeen_75 rfl rfl) rfl) (s_dAL (s_getR ck12 3 (by decide) rfl (s_aload_n dX12_whyNotSeen_76 rfl rfl) dX12_whyNotSeen_77 w6_208) (s_iadd (s_iadd (s_imul (s_bipush dX12_whyNotSeen_80 rfl) (s_iload_n dX12_whyNotSeen_82 rfl rfl) dX12_whyNotSeen_83) (s_iload_n dX12_whyNotSeen_84 rfl rfl) dX12_whyNotSeen_85) (s_iconst dX12_whyNotSeen_86 rfl) dX12_whyNotSeen_87) dX12_whyNotSeen_88) rfl) dX12_whyNotSeen_89 w8_56)) dX12_whyNotSeen_92 rfl))) (t_ret (cv := cvI) (fun _ _ => rfl) (s_bipush dX12_whyNotSeen_95 rfl) dX12_whyNotSeen_97) (t_skip (ld_in rfl) rfl) lda_nil (lda_cons (ld_in rfl) lda_nil)) (t_iinc dX12_whyNotSeen_98 rfl rfl rfl rfl) (lda_cons (ld_in rfl) lda_nil) lda_nil (lda_cons (ld_goto (y := 47) dX12_whyNotSeen_101 rfl (ld_in rfl)) lda_nil) (ld_in rfl) lda_nil
noncomputable def BX12_whyNotSeen : Sm Int32 := (dSeq (dIf (dOr (dNot (dCZ q_ne (dCall DX12_isSlot (aI aN 0 (vI 1))))) (dNot (dCZ q_ne (dCallV 12 DX12_isSlate (aI (aR aN 0 (vR 0)) 1 (vI 2)))))) (dRet (cI (-2))) dSkip) (dSeq (dIf (dCI r_eq (dAI (dGR 12 1 (vR 0)) (vI 1)) (cI (-1))) (dRet (cI (-6))) dSkip) (dSeq (dIf (dCZ q_ne (d2z o_irem (dAI (dGR 12 2 (vR 0)) (vI 1)) (cI 2))) (dRet (cI (-2))) dSkip) (dSeq (dSeq (dSetI 3 (cI 0)) LX12_whyNotSeen_1) (dRet (cI 0))))))
theorem sBX12_whyNotSeen : SS (cvoI, .ireturn) miX12_whyNotSeen [] [] [] [(0, 2), (1, 0), (2, 0)] [(0, 2), (1, 0), (2, 0)] 0 [] BX12_whyNotSeen := (t_sq (p1 := 18) (Γ' := [(0, 2), (1, 0), (2, 0)]) (t_if (pT := 15) (pF := 18) (X := [18]) (XA := []) (XB := [18]) (c_or (p1 := 7) (pT := 15) (pF := 18) (c_not (pT := 15) (pF := 7) (c_ne_ZF (pF := 15) (s_of_xI (x_call (ts := [(0, 0)]) kX12_isSlot mokX12_isSlot w7_137 rfl rfl rfl (a_I (ts := []) 0 a_nil (s_iload_n dX12_whyNotSeen_0 rfl rfl) rfl) dX12_whyNotSeen_1 w7_136)) dX12_whyNotSeen_4 rfl)) (c_not (pT := 15) (pF := 18) (c_ne_ZJ (pT := 18) (s_of_xI (x_callV (ts := [(0, 2), (1, 0)]) ck12 rfl kX12_isSlate mokX12_isSlate w8_85 ps5_4 rfl rfl rfl rfl (a_I (ts := [(0, 2)]) 1 (a_R (ts := []) 0 a_nil (s_aload_n dX12_whyNotSeen_7 rfl rfl) rfl) (s_iload_n dX12_whyNotSeen_8 rfl rfl) rfl) dX12_whyNotSeen_9 w8_83)) dX12_whyNotSeen_12 rfl))) (t_ret (cv := cvI) (fun _ _ => rfl) (s_bipush dX12_whyNotSeen_15 rfl) dX12_whyNotSeen_17) (t_skip (ld_in rfl) rfl) lda_nil (lda_cons (ld_in rfl) lda_nil)) (t_sq (p1 := 31) (Γ' := [(0, 2), (1, 0), (2, 0)]) (t_if (pT := 28) (pF := 31) (X := [31]) (XA := []) (XB := [31]) (c_eq_F (pF := 31) (s_dAI (s_getR ck12 1 (by decide) rfl (s_aload_n dX12_whyNotSeen_18 rfl rfl) dX12_whyNotSeen_19 w6_206) (s_iload_n dX12_whyNotSeen_22 rfl rfl) dX12_whyNotSeen_23) (s_iconst dX12_whyNotSeen_24 rfl) dX12_whyNotSeen_25 rfl) (t_ret (cv := cvI) (fun _ _ => rfl) (s_bipush dX12_whyNotSeen_28 rfl) dX12_whyNotSeen_30) (t_skip (ld_in rfl) rfl) lda_nil (lda_cons (ld_in rfl) lda_nil)) (t_sq (p1 := 45) (Γ' := [(0, 2), (1, 0), (2, 0)]) (t_if (pT := 42) (pF := 45) (X := [45]) (XA := []) (XB := [45]) (c_ne_ZF (pF := 45) (s_irem (s_dAI (s_getR ck12 2 (by decide) rfl (s_aload_n dX12_whyNotSeen_31 rfl rfl) dX12_whyNotSeen_32 w6_207) (s_iload_n dX12_whyNotSeen_35 rfl rfl) dX12_whyNotSeen_36) (s_iconst dX12_whyNotSeen_37 rfl) dX12_whyNotSeen_38) dX12_whyNotSeen_39 rfl) (t_ret (cv := cvI) (fun _ _ => rfl) (s_bipush dX12_whyNotSeen_42 rfl) dX12_whyNotSeen_44) (t_skip (ld_in rfl) rfl) lda_nil (lda_cons (ld_in rfl) lda_nil)) (t_sq (p1 := 104) (Γ' := [(0, 2), (1, 0), (2, 0)]) (t_sq (p1 := 47) (Γ' := [(0, 2), (1, 0), (2, 0), (3, 0)]) (t_istore_n (s_iconst dX12_whyNotSeen_45 rfl) dX12_whyNotSeen_46 rfl rfl rfl) (tn_to (Γ' := [(0, 2), (1, 0), (2, 0), (3, 0)]) (XA := [104]) sLX12_whyNotSeen_1 (lda_cons (ld_in rfl) lda_nil) rfl)) (t_ret (cv := cvI) (fun _ _ => rfl) (s_iconst dX12_whyNotSeen_104 rfl) dX12_whyNotSeen_105)))))
noncomputable def DX12_whyNotSeen : Fr → St → Option (Int32 × St) := M1 (fun f => (sI (sI (sR fr0 0 (gR f 0)) 1 (gI f 1)) 2 (gI f 2))) BX12_whyNotSeen
theorem kX12_whyNotSeen : SND yX12_whyNotSeen cX12_whyNotSeen 4 (some .int) 3 [(0, 2), (1, 0), (2, 0)] cvoI DX12_whyNotSeen := snd_I (nw := 3) (by decide) rfl rfl (fun _ _ => rfl) sBX12_whyNotSeen
theorem dX12_isSo_0 : decode cX12_isSo 0 = .ok (.iconst 0, 1) := by decide +kernel
theorem dX12_isSo_1 : decode cX12_isSo 1 = .ok (.istore_n 3, 1) := by decide +kernel
theorem dX12_isSo_2 : decode cX12_isSo 2 = .ok (.iload_n 3, 1) := by decide +kernel
theorem dX12_isSo_3 : decode cX12_isSo 3 = .ok (.aload_n 0, 1) := by decide +kernel
theorem dX12_isSo_4 : decode cX12_isSo 4 = .ok (.getfield 13, 3) := by decide +kernel
theorem dX12_isSo_7 : decode cX12_isSo 7 = .ok (.iload_n 1, 1) := by decide +kernel
theorem dX12_isSo_8 : decode cX12_isSo 8 = .ok (.iaload, 1) := by decide +kernel
theorem dX12_isSo_9 : decode cX12_isSo 9 = .ok (.if_icmp .ge 50, 3) := by decide +kernel
theorem dX12_isSo_12 : decode cX12_isSo 12 = .ok (.aload_n 0, 1) := by decide +kernel
theorem dX12_isSo_13 : decode cX12_isSo 13 = .ok (.getfield 74, 3) := by decide +kernel
theorem dX12_isSo_16 : decode cX12_isSo 16 = .ok (.iconst 3, 1) := by decide +kernel
theorem dX12_isSo_17 : decode cX12_isSo 17 = .ok (.aload_n 0, 1) := by decide +kernel
theorem dX12_isSo_18 : decode cX12_isSo 18 = .ok (.getfield 16, 3) := by decide +kernel
theorem dX12_isSo_21 : decode cX12_isSo 21 = .ok (.bipush 60, 2) := by decide +kernel
theorem dX12_isSo_23 : decode cX12_isSo 23 = .ok (.iload_n 1, 1) := by decide +kernel
theorem dX12_isSo_24 : decode cX12_isSo 24 = .ok (.imul, 1) := by decide +kernel
theorem dX12_isSo_25 : decode cX12_isSo 25 = .ok (.iload_n 3, 1) := by decide +kernel
theorem dX12_isSo_26 : decode cX12_isSo 26 = .ok (.iadd, 1) := by decide +kernel
theorem dX12_isSo_27 : decode cX12_isSo 27 = .ok (.laload, 1) := by decide +kernel
theorem dX12_isSo_28 : decode cX12_isSo 28 = .ok (.l2i, 1) := by decide +kernel
theorem dX12_isSo_29 : decode cX12_isSo 29 = .ok (.imul, 1) := by decide +kernel
theorem dX12_isSo_30 : decode cX12_isSo 30 = .ok (.iload_n 2, 1) := by decide +kernel
theorem dX12_isSo_31 : decode cX12_isSo 31 = .ok (.iadd, 1) := by decide +kernel
theorem dX12_isSo_32 : decode cX12_isSo 32 = .ok (.iaload, 1) := by decide +kernel
theorem dX12_isSo_33 : decode cX12_isSo 33 = .ok (.i2l, 1) := by decide +kernel
theorem dX12_isSo_34 : decode cX12_isSo 34 = .ok (.aload_n 0, 1) := by decide +kernel
theorem dX12_isSo_35 : decode cX12_isSo 35 = .ok (.getfield 16, 3) := by decide +kernel
theorem dX12_isSo_38 : decode cX12_isSo 38 = .ok (.bipush 60, 2) := by decide +kernel
theorem dX12_isSo_40 : decode cX12_isSo 40 = .ok (.iload_n 1, 1) := by decide +kernel
theorem dX12_isSo_41 : decode cX12_isSo 41 = .ok (.imul, 1) := by decide +kernel
theorem dX12_isSo_42 : decode cX12_isSo 42 = .ok (.iload_n 3, 1) := by decide +kernel
theorem dX12_isSo_43 : decode cX12_isSo 43 = .ok (.iadd, 1) := by decide +kernel
theorem dX12_isSo_44 : decode cX12_isSo 44 = .ok (.iconst 1, 1) := by decide +kernel
theorem dX12_isSo_45 : decode cX12_isSo 45 = .ok (.iadd, 1) := by decide +kernel
theorem dX12_isSo_46 : decode cX12_isSo 46 = .ok (.laload, 1) := by decide +kernel
theorem dX12_isSo_47 : decode cX12_isSo 47 = .ok (.lcmp, 1) := by decide +kernel
theorem dX12_isSo_48 : decode cX12_isSo 48 = .ok (.ifCond .eq 5, 3) := by decide +kernel
theorem dX12_isSo_51 : decode cX12_isSo 51 = .ok (.iconst 0, 1) := by decide +kernel
theorem dX12_isSo_52 : decode cX12_isSo 52 = .ok (.ireturn, 1) := by decide +kernel
theorem dX12_isSo_53 : decode cX12_isSo 53 = .ok (.iinc 3 2, 3) := by decide +kernel
theorem dX12_isSo_56 : decode cX12_isSo 56 = .ok (.goto (-54), 3) := by decide +kernel
theorem dX12_isSo_59 : decode cX12_isSo 59 = .ok (.iconst 1, 1) := by decide +kernel
theorem dX12_isSo_60 : decode cX12_isSo 60 = .ok (.ireturn, 1) := by decide +kernel
theorem mokX12_isSo : MOK yX12_isSo cX12_isSo 4 (some .boolean) 2 := ⟨w9_138, w1_13, ⟨by decide, by decide⟩, by decide +kernel, by decide⟩
abbrev miX12_isSo : MI := (yX12_isSo.cls, cX12_isSo, 4, 1, false)
noncomputable def LX12_isSo_1 : Sm Int32 := dLoop (fun f => (sI (sI (sI (sR fr0 0 (gR f 0)) 1 (gI f 1)) 2 (gI f 2)) 3 (gI f 3))) (dCI r_lt (vI 3) (dAI (dGR 12 2 (vR 0)) (vI 1))) (dIf (dCZ q_ne (d2 o_lcmp (d1 o_i2l (dAI (dGR 12 34 (vR 0)) (d2 o_iadd (d2 o_imul (cI 3) (d1 o_l2i (dAL (dGR 12 3 (vR 0)) (d2 o_iadd (d2 o_imul (cI 60) (vI 1)) (vI 3))))) (vI 2)))) (dAL (dGR 12 3 (vR 0)) (d2 o_iadd (d2 o_iadd (d2 o_imul (cI 60) (vI 1)) (vI 3)) (cI 1))))) (dRet (cI 0)) dSkip) (dInc 3 2)
theorem sLX12_isSo_1 {ΓL : Gm} {PB PK : List Nat} : SS (cvoI, .ireturn) miX12_isSo ΓL PB PK [(0, 2), (1, 0), (2, 0), (3, 0)] [(0, 2), (1, 0), (2, 0), (3, 0)] 2 [59] LX12_isSo_1 := t_loop (pT := 12) (pF := 59) (pu := 53) (PB' := []) (PK' := []) (XB := [53]) (XU := [56]) (fun _ _ => rfl) rfl (c_lt_F (pF := 59) (s_iload_n dX12_isSo_2 rfl rfl) (s_dAI (s_getR ck12 2 (by decide) rfl (s_aload_n dX12_isSo_3 rfl rfl) dX12_isSo_4 w6_207) (s_iload_n dX12_isSo_7 rfl rfl) dX12_isSo_8) dX12_isSo_9 rfl) (t_if (pT := 51) (pF := 53) (X := [53]) (XA := []) (XB := [53]) (c_ne_ZF (pF := 53) (s_lcmp (s_i2l (s_dAI (s_getR ck12 34 (by decide) rfl (s_aload_n dX12_isSo_12 rfl rfl) dX12_isSo_13 w6_239) (s_iadd (s_imul (s_iconst dX12_isSo_16 rfl) (s_l2i (s_dAL (s_getR ck12 3 (by decide) rfl (s_aload_n dX12_isSo_17 rfl rfl) dX12_isSo_18 w6_208) (s_iadd (s_imul (s_bipush dX12_isSo_21 rfl) (s_iload_n dX12_isSo_23 rfl rfl) dX12_isSo_24) (s_iload_n dX12_isSo_25 rfl rfl) dX12_isSo_26) dX12_isSo_27) dX12_isSo_28) dX12_isSo_29) (s_iload_n dX12_isSo_30 rfl rfl) dX12_isSo_31) dX12_isSo_32) dX12_isSo_33) (s_dAL (s_getR ck12 3 (by decide) rfl (s_aload_n dX12_isSo_34 rfl rfl) dX12_isSo_35 w6_208) (s_iadd (s_iadd (s_imul (s_bipush dX12_isSo_38 rfl) (s_iload_n dX12_isSo_40 rfl rfl) dX12_isSo_41) (s_iload_n dX12_isSo_42 rfl rfl) dX12_isSo_43) (s_iconst dX12_isSo_44 rfl) dX12_isSo_45) dX12_isSo_46) dX12_isSo_47) dX12_isSo_48 rfl) (t_ret (cv := cvI) (fun _ _ => rfl) (s_iconst dX12_isSo_51 rfl) dX12_isSo_52) (t_skip (ld_in rfl) rfl) lda_nil (lda_cons (ld_in rfl) lda_nil)) (t_iinc dX12_isSo_53 rfl rfl rfl rfl) (lda_cons (ld_in rfl) lda_nil) lda_nil (lda_cons (ld_goto (y := 2) dX12_isSo_56 rfl (ld_in rfl)) lda_nil) (ld_in rfl) lda_nil
noncomputable def BX12_isSo : Sm Int32 := (dSeq (dSeq (dSetI 3 (cI 0)) LX12_isSo_1) (dRet (cI 1)))
theorem sBX12_isSo : SS (cvoI, .ireturn) miX12_isSo [] [] [] [(0, 2), (1, 0), (2, 0)] [(0, 2), (1, 0), (2, 0)] 0 [] BX12_isSo := (t_sq (p1 := 59) (Γ' := [(0, 2), (1, 0), (2, 0)]) (t_sq (p1 := 2) (Γ' := [(0, 2), (1, 0), (2, 0), (3, 0)]) (t_istore_n (s_iconst dX12_isSo_0 rfl) dX12_isSo_1 rfl rfl rfl) (tn_to (Γ' := [(0, 2), (1, 0), (2, 0), (3, 0)]) (XA := [59]) sLX12_isSo_1 (lda_cons (ld_in rfl) lda_nil) rfl)) (t_ret (cv := cvI) (fun _ _ => rfl) (s_iconst dX12_isSo_59 rfl) dX12_isSo_60))
noncomputable def DX12_isSo : Fr → St → Option (Int32 × St) := MZ (fun f => (sI (sI (sR fr0 0 (gR f 0)) 1 (gI f 1)) 2 (gI f 2))) BX12_isSo
theorem kX12_isSo : SND yX12_isSo cX12_isSo 4 (some .boolean) 1 [(0, 2), (1, 0), (2, 0)] cvoI DX12_isSo := snd_Z (nw := 3) (by decide) rfl rfl (fun _ _ => rfl) sBX12_isSo
theorem dX12_laysSeen_0 : decode cX12_laysSeen 0 = .ok (.aload_n 0, 1) := by decide +kernel
theorem dX12_laysSeen_1 : decode cX12_laysSeen 1 = .ok (.iconst 0, 1) := by decide +kernel
theorem dX12_laysSeen_2 : decode cX12_laysSeen 2 = .ok (.putfield 440, 3) := by decide +kernel
theorem dX12_laysSeen_5 : decode cX12_laysSeen 5 = .ok (.iconst 0, 1) := by decide +kernel
theorem dX12_laysSeen_6 : decode cX12_laysSeen 6 = .ok (.istore_n 3, 1) := by decide +kernel
theorem dX12_laysSeen_7 : decode cX12_laysSeen 7 = .ok (.iload_n 3, 1) := by decide +kernel
theorem dX12_laysSeen_8 : decode cX12_laysSeen 8 = .ok (.bipush 104, 2) := by decide +kernel
theorem dX12_laysSeen_10 : decode cX12_laysSeen 10 = .ok (.if_icmp .ge 16, 3) := by decide +kernel
theorem dX12_laysSeen_13 : decode cX12_laysSeen 13 = .ok (.aload_n 0, 1) := by decide +kernel
theorem dX12_laysSeen_14 : decode cX12_laysSeen 14 = .ok (.getfield 119, 3) := by decide +kernel
theorem dX12_laysSeen_17 : decode cX12_laysSeen 17 = .ok (.iload_n 3, 1) := by decide +kernel
theorem dX12_laysSeen_18 : decode cX12_laysSeen 18 = .ok (.iconst 0, 1) := by decide +kernel
theorem dX12_laysSeen_19 : decode cX12_laysSeen 19 = .ok (.iastore, 1) := by decide +kernel
theorem dX12_laysSeen_20 : decode cX12_laysSeen 20 = .ok (.iinc 3 1, 3) := by decide +kernel
theorem dX12_laysSeen_23 : decode cX12_laysSeen 23 = .ok (.goto (-16), 3) := by decide +kernel
theorem dX12_laysSeen_26 : decode cX12_laysSeen 26 = .ok (.iconst 0, 1) := by decide +kernel
theorem dX12_laysSeen_27 : decode cX12_laysSeen 27 = .ok (.istore_n 3, 1) := by decide +kernel
theorem dX12_laysSeen_28 : decode cX12_laysSeen 28 = .ok (.iload_n 3, 1) := by decide +kernel
theorem dX12_laysSeen_29 : decode cX12_laysSeen 29 = .ok (.aload_n 0, 1) := by decide +kernel
theorem dX12_laysSeen_30 : decode cX12_laysSeen 30 = .ok (.invokevirtual 292, 3) := by decide +kernel
theorem dX12_laysSeen_33 : decode cX12_laysSeen 33 = .ok (.if_icmp .ge 92, 3) := by decide +kernel
theorem dX12_laysSeen_36 : decode cX12_laysSeen 36 = .ok (.aload_n 0, 1) := by decide +kernel
theorem dX12_laysSeen_37 : decode cX12_laysSeen 37 = .ok (.invokevirtual 360, 3) := by decide +kernel
theorem dX12_laysSeen_40 : decode cX12_laysSeen 40 = .ok (.aload_n 0, 1) := by decide +kernel
theorem dX12_laysSeen_41 : decode cX12_laysSeen 41 = .ok (.getfield 65, 3) := by decide +kernel
theorem dX12_laysSeen_44 : decode cX12_laysSeen 44 = .ok (.iload_n 2, 1) := by decide +kernel
theorem dX12_laysSeen_45 : decode cX12_laysSeen 45 = .ok (.iload_n 3, 1) := by decide +kernel
theorem dX12_laysSeen_46 : decode cX12_laysSeen 46 = .ok (.iastore, 1) := by decide +kernel
theorem dX12_laysSeen_47 : decode cX12_laysSeen 47 = .ok (.aload_n 0, 1) := by decide +kernel
theorem dX12_laysSeen_48 : decode cX12_laysSeen 48 = .ok (.invokevirtual 363, 3) := by decide +kernel
theorem dX12_laysSeen_51 : decode cX12_laysSeen 51 = .ok (.aload_n 0, 1) := by decide +kernel
theorem dX12_laysSeen_52 : decode cX12_laysSeen 52 = .ok (.iload_n 1, 1) := by decide +kernel
theorem dX12_laysSeen_53 : decode cX12_laysSeen 53 = .ok (.iload_n 2, 1) := by decide +kernel
theorem dX12_laysSeen_54 : decode cX12_laysSeen 54 = .ok (.invokevirtual 443, 3) := by decide +kernel
theorem dX12_laysSeen_57 : decode cX12_laysSeen 57 = .ok (.ifCond .ne 6, 3) := by decide +kernel
theorem dX12_laysSeen_60 : decode cX12_laysSeen 60 = .ok (.goto 59, 3) := by decide +kernel
theorem dX12_laysSeen_63 : decode cX12_laysSeen 63 = .ok (.aload_n 0, 1) := by decide +kernel
theorem dX12_laysSeen_64 : decode cX12_laysSeen 64 = .ok (.dup, 1) := by decide +kernel
theorem dX12_laysSeen_65 : decode cX12_laysSeen 65 = .ok (.getfield 440, 3) := by decide +kernel
theorem dX12_laysSeen_68 : decode cX12_laysSeen 68 = .ok (.iconst 1, 1) := by decide +kernel
theorem dX12_laysSeen_69 : decode cX12_laysSeen 69 = .ok (.iload_n 3, 1) := by decide +kernel
theorem dX12_laysSeen_70 : decode cX12_laysSeen 70 = .ok (.ishl, 1) := by decide +kernel
theorem dX12_laysSeen_71 : decode cX12_laysSeen 71 = .ok (.ior, 1) := by decide +kernel
theorem dX12_laysSeen_72 : decode cX12_laysSeen 72 = .ok (.putfield 440, 3) := by decide +kernel
theorem dX12_laysSeen_75 : decode cX12_laysSeen 75 = .ok (.iconst 0, 1) := by decide +kernel
theorem dX12_laysSeen_76 : decode cX12_laysSeen 76 = .ok (.istore 4, 2) := by decide +kernel
theorem dX12_laysSeen_78 : decode cX12_laysSeen 78 = .ok (.iload 4, 2) := by decide +kernel
theorem dX12_laysSeen_80 : decode cX12_laysSeen 80 = .ok (.aload_n 0, 1) := by decide +kernel
theorem dX12_laysSeen_81 : decode cX12_laysSeen 81 = .ok (.invokevirtual 304, 3) := by decide +kernel
theorem dX12_laysSeen_84 : decode cX12_laysSeen 84 = .ok (.if_icmp .gt 35, 3) := by decide +kernel
theorem dX12_laysSeen_87 : decode cX12_laysSeen 87 = .ok (.aload_n 0, 1) := by decide +kernel
theorem dX12_laysSeen_88 : decode cX12_laysSeen 88 = .ok (.getfield 119, 3) := by decide +kernel
theorem dX12_laysSeen_91 : decode cX12_laysSeen 91 = .ok (.bipush 8, 2) := by decide +kernel
theorem dX12_laysSeen_93 : decode cX12_laysSeen 93 = .ok (.iload 4, 2) := by decide +kernel
theorem dX12_laysSeen_95 : decode cX12_laysSeen 95 = .ok (.imul, 1) := by decide +kernel
theorem dX12_laysSeen_96 : decode cX12_laysSeen 96 = .ok (.aload_n 0, 1) := by decide +kernel
theorem dX12_laysSeen_97 : decode cX12_laysSeen 97 = .ok (.getfield 74, 3) := by decide +kernel
theorem dX12_laysSeen_100 : decode cX12_laysSeen 100 = .ok (.iconst 3, 1) := by decide +kernel
theorem dX12_laysSeen_101 : decode cX12_laysSeen 101 = .ok (.iload 4, 2) := by decide +kernel
theorem dX12_laysSeen_103 : decode cX12_laysSeen 103 = .ok (.imul, 1) := by decide +kernel
theorem dX12_laysSeen_104 : decode cX12_laysSeen 104 = .ok (.iload_n 2, 1) := by decide +kernel
theorem dX12_laysSeen_105 : decode cX12_laysSeen 105 = .ok (.iadd, 1) := by decide +kernel
theorem dX12_laysSeen_106 : decode cX12_laysSeen 106 = .ok (.iaload, 1) := by decide +kernel
theorem dX12_laysSeen_107 : decode cX12_laysSeen 107 = .ok (.iadd, 1) := by decide +kernel
theorem dX12_laysSeen_108 : decode cX12_laysSeen 108 = .ok (.dup2, 1) := by decide +kernel
theorem dX12_laysSeen_109 : decode cX12_laysSeen 109 = .ok (.iaload, 1) := by decide +kernel
theorem dX12_laysSeen_110 : decode cX12_laysSeen 110 = .ok (.iconst 1, 1) := by decide +kernel
theorem dX12_laysSeen_111 : decode cX12_laysSeen 111 = .ok (.iadd, 1) := by decide +kernel
theorem dX12_laysSeen_112 : decode cX12_laysSeen 112 = .ok (.iastore, 1) := by decide +kernel
theorem dX12_laysSeen_113 : decode cX12_laysSeen 113 = .ok (.iinc 4 1, 3) := by decide +kernel
theorem dX12_laysSeen_116 : decode cX12_laysSeen 116 = .ok (.goto (-38), 3) := by decide +kernel
theorem dX12_laysSeen_119 : decode cX12_laysSeen 119 = .ok (.iinc 3 1, 3) := by decide +kernel
theorem dX12_laysSeen_122 : decode cX12_laysSeen 122 = .ok (.goto (-94), 3) := by decide +kernel
theorem dX12_laysSeen_125 : decode cX12_laysSeen 125 = .ok (.aload_n 0, 1) := by decide +kernel
theorem dX12_laysSeen_126 : decode cX12_laysSeen 126 = .ok (.iconst (-1), 1) := by decide +kernel
theorem dX12_laysSeen_127 : decode cX12_laysSeen 127 = .ok (.putfield 446, 3) := by decide +kernel
theorem dX12_laysSeen_130 : decode cX12_laysSeen 130 = .ok (.aload_n 0, 1) := by decide +kernel
theorem dX12_laysSeen_131 : decode cX12_laysSeen 131 = .ok (.aload_n 0, 1) := by decide +kernel
theorem dX12_laysSeen_132 : decode cX12_laysSeen 132 = .ok (.getfield 440, 3) := by decide +kernel
theorem dX12_laysSeen_135 : decode cX12_laysSeen 135 = .ok (.invokestatic 394, 3) := by decide +kernel
theorem dX12_laysSeen_138 : decode cX12_laysSeen 138 = .ok (.putfield 449, 3) := by decide +kernel
theorem dX12_laysSeen_141 : decode cX12_laysSeen 141 = .ok (.iconst 0, 1) := by decide +kernel
theorem dX12_laysSeen_142 : decode cX12_laysSeen 142 = .ok (.istore_n 3, 1) := by decide +kernel
theorem dX12_laysSeen_143 : decode cX12_laysSeen 143 = .ok (.iload_n 3, 1) := by decide +kernel
theorem dX12_laysSeen_144 : decode cX12_laysSeen 144 = .ok (.aload_n 0, 1) := by decide +kernel
theorem dX12_laysSeen_145 : decode cX12_laysSeen 145 = .ok (.invokevirtual 304, 3) := by decide +kernel
theorem dX12_laysSeen_148 : decode cX12_laysSeen 148 = .ok (.if_icmp .gt 89, 3) := by decide +kernel
theorem dX12_laysSeen_151 : decode cX12_laysSeen 151 = .ok (.iconst 0, 1) := by decide +kernel
theorem dX12_laysSeen_152 : decode cX12_laysSeen 152 = .ok (.istore 4, 2) := by decide +kernel
theorem dX12_laysSeen_154 : decode cX12_laysSeen 154 = .ok (.iconst 0, 1) := by decide +kernel
theorem dX12_laysSeen_155 : decode cX12_laysSeen 155 = .ok (.istore 5, 2) := by decide +kernel
theorem dX12_laysSeen_157 : decode cX12_laysSeen 157 = .ok (.iload 5, 2) := by decide +kernel
theorem dX12_laysSeen_159 : decode cX12_laysSeen 159 = .ok (.aload_n 0, 1) := by decide +kernel
theorem dX12_laysSeen_160 : decode cX12_laysSeen 160 = .ok (.invokevirtual 292, 3) := by decide +kernel
theorem dX12_laysSeen_163 : decode cX12_laysSeen 163 = .ok (.if_icmp .ge 45, 3) := by decide +kernel
theorem dX12_laysSeen_166 : decode cX12_laysSeen 166 = .ok (.aload_n 0, 1) := by decide +kernel
theorem dX12_laysSeen_167 : decode cX12_laysSeen 167 = .ok (.getfield 119, 3) := by decide +kernel
theorem dX12_laysSeen_170 : decode cX12_laysSeen 170 = .ok (.bipush 8, 2) := by decide +kernel
theorem dX12_laysSeen_172 : decode cX12_laysSeen 172 = .ok (.iload_n 3, 1) := by decide +kernel
theorem dX12_laysSeen_173 : decode cX12_laysSeen 173 = .ok (.imul, 1) := by decide +kernel
theorem dX12_laysSeen_174 : decode cX12_laysSeen 174 = .ok (.iload 5, 2) := by decide +kernel
theorem dX12_laysSeen_176 : decode cX12_laysSeen 176 = .ok (.iadd, 1) := by decide +kernel
theorem dX12_laysSeen_177 : decode cX12_laysSeen 177 = .ok (.iaload, 1) := by decide +kernel
theorem dX12_laysSeen_178 : decode cX12_laysSeen 178 = .ok (.iload 4, 2) := by decide +kernel
theorem dX12_laysSeen_180 : decode cX12_laysSeen 180 = .ok (.if_icmp .le 18, 3) := by decide +kernel
theorem dX12_laysSeen_183 : decode cX12_laysSeen 183 = .ok (.aload_n 0, 1) := by decide +kernel
theorem dX12_laysSeen_184 : decode cX12_laysSeen 184 = .ok (.getfield 119, 3) := by decide +kernel
theorem dX12_laysSeen_187 : decode cX12_laysSeen 187 = .ok (.bipush 8, 2) := by decide +kernel
theorem dX12_laysSeen_189 : decode cX12_laysSeen 189 = .ok (.iload_n 3, 1) := by decide +kernel
theorem dX12_laysSeen_190 : decode cX12_laysSeen 190 = .ok (.imul, 1) := by decide +kernel
theorem dX12_laysSeen_191 : decode cX12_laysSeen 191 = .ok (.iload 5, 2) := by decide +kernel
theorem dX12_laysSeen_193 : decode cX12_laysSeen 193 = .ok (.iadd, 1) := by decide +kernel
theorem dX12_laysSeen_194 : decode cX12_laysSeen 194 = .ok (.iaload, 1) := by decide +kernel
theorem dX12_laysSeen_195 : decode cX12_laysSeen 195 = .ok (.goto 5, 3) := by decide +kernel
theorem dX12_laysSeen_198 : decode cX12_laysSeen 198 = .ok (.iload 4, 2) := by decide +kernel
theorem dX12_laysSeen_200 : decode cX12_laysSeen 200 = .ok (.istore 4, 2) := by decide +kernel
theorem dX12_laysSeen_202 : decode cX12_laysSeen 202 = .ok (.iinc 5 1, 3) := by decide +kernel
theorem dX12_laysSeen_205 : decode cX12_laysSeen 205 = .ok (.goto (-48), 3) := by decide +kernel
theorem dX12_laysSeen_208 : decode cX12_laysSeen 208 = .ok (.iload 4, 2) := by decide +kernel
theorem dX12_laysSeen_210 : decode cX12_laysSeen 210 = .ok (.aload_n 0, 1) := by decide +kernel
theorem dX12_laysSeen_211 : decode cX12_laysSeen 211 = .ok (.getfield 449, 3) := by decide +kernel
theorem dX12_laysSeen_214 : decode cX12_laysSeen 214 = .ok (.if_icmp .lt 6, 3) := by decide +kernel
theorem dX12_laysSeen_217 : decode cX12_laysSeen 217 = .ok (.goto 14, 3) := by decide +kernel
theorem dX12_laysSeen_220 : decode cX12_laysSeen 220 = .ok (.aload_n 0, 1) := by decide +kernel
theorem dX12_laysSeen_221 : decode cX12_laysSeen 221 = .ok (.iload_n 3, 1) := by decide +kernel
theorem dX12_laysSeen_222 : decode cX12_laysSeen 222 = .ok (.putfield 446, 3) := by decide +kernel
theorem dX12_laysSeen_225 : decode cX12_laysSeen 225 = .ok (.aload_n 0, 1) := by decide +kernel
theorem dX12_laysSeen_226 : decode cX12_laysSeen 226 = .ok (.iload 4, 2) := by decide +kernel
theorem dX12_laysSeen_228 : decode cX12_laysSeen 228 = .ok (.putfield 449, 3) := by decide +kernel
theorem dX12_laysSeen_231 : decode cX12_laysSeen 231 = .ok (.iinc 3 1, 3) := by decide +kernel
theorem dX12_laysSeen_234 : decode cX12_laysSeen 234 = .ok (.goto (-91), 3) := by decide +kernel
theorem dX12_laysSeen_237 : decode cX12_laysSeen 237 = .ok (.return_, 1) := by decide +kernel
theorem mokX12_laysSeen : MOK yX12_laysSeen cX12_laysSeen 6 none 2 := ⟨w9_134, w1_13, ⟨by decide, by decide⟩, by decide +kernel, by decide⟩
abbrev miX12_laysSeen : MI := (yX12_laysSeen.cls, cX12_laysSeen, 6, 5, false)
noncomputable def LX12_laysSeen_1 : Sm Unit := dLoop (fun f => (sI (sI (sI (sR fr0 0 (gR f 0)) 1 (gI f 1)) 2 (gI f 2)) 3 (gI f 3))) (dCI r_lt (vI 3) (cI 104)) (d3 (stI 13 idI) (dGR 12 54 (vR 0)) (vI 3) (cI 0)) (dInc 3 1)
theorem sLX12_laysSeen_1 {ΓL : Gm} {PB PK : List Nat} : SS (cvoV, .return_) miX12_laysSeen ΓL PB PK [(0, 2), (1, 0), (2, 0), (3, 0)] [(0, 2), (1, 0), (2, 0), (3, 0)] 7 [26] LX12_laysSeen_1 := t_loop (pT := 13) (pF := 26) (pu := 20) (PB' := []) (PK' := []) (XB := [20]) (XU := [23]) (fun _ _ => rfl) rfl (c_lt_F (pF := 26) (s_iload_n dX12_laysSeen_7 rfl rfl) (s_bipush dX12_laysSeen_8 rfl) dX12_laysSeen_10 rfl) (t_stI (s_getR ck12 54 (by decide) rfl (s_aload_n dX12_laysSeen_13 rfl rfl) dX12_laysSeen_14 w7_19) (s_iload_n dX12_laysSeen_17 rfl rfl) (s_iconst dX12_laysSeen_18 rfl) dX12_laysSeen_19 rfl) (t_iinc dX12_laysSeen_20 rfl rfl rfl rfl) (lda_cons (ld_in rfl) lda_nil) lda_nil (lda_cons (ld_goto (y := 7) dX12_laysSeen_23 rfl (ld_in rfl)) lda_nil) (ld_in rfl) lda_nil
noncomputable def LX12_laysSeen_2 : Sm Unit := dLoop (fun f => (sI (sI (sI (sI (sR fr0 0 (gR f 0)) 1 (gI f 1)) 2 (gI f 2)) 3 (gI f 3)) 4 (gI f 4))) (dCI r_le (vI 4) (dCallV 12 DX12_days (aR aN 0 (vR 0)))) (dUA o_iadd (dGR 12 54 (vR 0)) (d2 o_iadd (d2 o_imul (cI 8) (vI 4)) (dAI (dGR 12 34 (vR 0)) (d2 o_iadd (d2 o_imul (cI 3) (vI 4)) (vI 2)))) (cI 1)) (dInc 4 1)
theorem sLX12_laysSeen_2 {ΓL : Gm} {PB PK : List Nat} : SS (cvoV, .return_) miX12_laysSeen ΓL PB PK [(0, 2), (1, 0), (2, 0), (3, 0), (4, 0)] [(0, 2), (1, 0), (2, 0), (3, 0), (4, 0)] 78 [119] LX12_laysSeen_2 := t_loop (pT := 87) (pF := 119) (pu := 113) (PB' := []) (PK' := []) (XB := [113]) (XU := [116]) (fun _ _ => rfl) rfl (c_le_F (pF := 119) (s_iload dX12_laysSeen_78 rfl) (s_of_xI (x_callV (ts := [(0, 2)]) ck12 rfl kX12_days mokX12_days w8_136 ps5_12 rfl rfl rfl rfl (a_R (ts := []) 0 a_nil (s_aload_n dX12_laysSeen_80 rfl rfl) rfl) dX12_laysSeen_81 w8_134)) dX12_laysSeen_84 rfl) (t_UA (s_getR ck12 54 (by decide) rfl (s_aload_n dX12_laysSeen_87 rfl rfl) dX12_laysSeen_88 w7_19) (s_iadd (s_imul (s_bipush dX12_laysSeen_91 rfl) (s_iload dX12_laysSeen_93 rfl) dX12_laysSeen_95) (s_dAI (s_getR ck12 34 (by decide) rfl (s_aload_n dX12_laysSeen_96 rfl rfl) dX12_laysSeen_97 w6_239) (s_iadd (s_imul (s_iconst dX12_laysSeen_100 rfl) (s_iload dX12_laysSeen_101 rfl) dX12_laysSeen_103) (s_iload_n dX12_laysSeen_104 rfl rfl) dX12_laysSeen_105) dX12_laysSeen_106) dX12_laysSeen_107) dX12_laysSeen_108 dX12_laysSeen_109 (s_iconst dX12_laysSeen_110 rfl) (fun _ _ _ _ => rulI fun a b K => lv_iadd a b dX12_laysSeen_111 K) dX12_laysSeen_112 rfl) (t_iinc dX12_laysSeen_113 rfl rfl rfl rfl) (lda_cons (ld_in rfl) lda_nil) lda_nil (lda_cons (ld_goto (y := 78) dX12_laysSeen_116 rfl (ld_in rfl)) lda_nil) (ld_in rfl) lda_nil
noncomputable def LX12_laysSeen_3 : Sm Unit := dLoop (fun f => (sI (sI (sI (sR fr0 0 (gR f 0)) 1 (gI f 1)) 2 (gI f 2)) 3 (gI f 3))) (dCI r_lt (vI 3) (dCallV 12 DX12_houses (aR aN 0 (vR 0)))) (dSeq (dDo (dCallV 12 DX12_lays (aR aN 0 (vR 0)))) (dSeq (d3 (stI 13 idI) (dGR 12 31 (vR 0)) (vI 2) (vI 3)) (dSeq (dDo (dCallV 12 DX12_runs (aR aN 0 (vR 0)))) (dSeq (dIf (dNot (dCZ q_ne (dCallV 12 DX12_isSo (aI (aI (aR aN 0 (vR 0)) 1 (vI 1)) 2 (vI 2))))) dCnt dSkip) (dSeq (dUF 12 51 o_ior (vR 0) (d2 o_ishl (cI 1) (vI 3))) (dSeq (dSetI 4 (cI 0)) LX12_laysSeen_2)))))) (dInc 3 1)
theorem sLX12_laysSeen_3 {ΓL : Gm} {PB PK : List Nat} : SS (cvoV, .return_) miX12_laysSeen ΓL PB PK [(0, 2), (1, 0), (2, 0), (3, 0)] [(0, 2), (1, 0), (2, 0), (3, 0)] 28 [125] LX12_laysSeen_3 := t_loop (pT := 36) (pF := 125) (pu := 119) (PB' := []) (PK' := [119]) (XB := [119]) (XU := [122]) (fun _ _ => rfl) rfl (c_lt_F (pF := 125) (s_iload_n dX12_laysSeen_28 rfl rfl) (s_of_xI (x_callV (ts := [(0, 2)]) ck12 rfl kX12_houses mokX12_houses w8_62 ps5_1 rfl rfl rfl rfl (a_R (ts := []) 0 a_nil (s_aload_n dX12_laysSeen_29 rfl rfl) rfl) dX12_laysSeen_30 w8_60)) dX12_laysSeen_33 rfl) (t_sq (p1 := 40) (Γ' := [(0, 2), (1, 0), (2, 0), (3, 0)]) (t_do (x_callV (ts := [(0, 2)]) ck12 rfl kX12_lays mokX12_lays w8_97 ps5_6 rfl rfl rfl rfl (a_R (ts := []) 0 a_nil (s_aload_n dX12_laysSeen_36 rfl rfl) rfl) dX12_laysSeen_37 w8_95) rfl) (t_sq (p1 := 47) (Γ' := [(0, 2), (1, 0), (2, 0), (3, 0)]) (t_stI (s_getR ck12 31 (by decide) rfl (s_aload_n dX12_laysSeen_40 rfl rfl) dX12_laysSeen_41 w6_236) (s_iload_n dX12_laysSeen_44 rfl rfl) (s_iload_n dX12_laysSeen_45 rfl rfl) dX12_laysSeen_46 rfl) (t_sq (p1 := 51) (Γ' := [(0, 2), (1, 0), (2, 0), (3, 0)]) (t_do (x_callV (ts := [(0, 2)]) ck12 rfl kX12_runs mokX12_runs w8_144 ps5_14 rfl rfl rfl rfl (a_R (ts := []) 0 a_nil (s_aload_n dX12_laysSeen_47 rfl rfl) rfl) dX12_laysSeen_48 w8_142) rfl) (t_sq (p1 := 63) (Γ' := [(0, 2), (1, 0), (2, 0), (3, 0)]) (t_if (pT := 60) (pF := 63) (X := [63]) (XA := []) (XB := [63]) (c_not (pT := 60) (pF := 63) (c_ne_ZJ (pT := 63) (s_of_xI (x_callV (ts := [(0, 2), (1, 0), (2, 0)]) ck12 rfl kX12_isSo mokX12_isSo w9_137 ps7_5 rfl rfl rfl rfl (a_I (ts := [(0, 2), (1, 0)]) 2 (a_I (ts := [(0, 2)]) 1 (a_R (ts := []) 0 a_nil (s_aload_n dX12_laysSeen_51 rfl rfl) rfl) (s_iload_n dX12_laysSeen_52 rfl rfl) rfl) (s_iload_n dX12_laysSeen_53 rfl rfl) rfl) dX12_laysSeen_54 w9_135)) dX12_laysSeen_57 rfl)) (t_cnt (ld_goto (y := 119) dX12_laysSeen_60 rfl (ld_in rfl)) rfl) (t_skip (ld_in rfl) rfl) lda_nil (lda_cons (ld_in rfl) lda_nil)) (t_sq (p1 := 75) (Γ' := [(0, 2), (1, 0), (2, 0), (3, 0)]) (t_UF ck12 51 (by decide) rfl (Or.inl rfl) (s_aload_n dX12_laysSeen_63 rfl rfl) dX12_laysSeen_64 dX12_laysSeen_65 w7_16 (s_ishl (s_iconst dX12_laysSeen_68 rfl) (s_iload_n dX12_laysSeen_69 rfl rfl) dX12_laysSeen_70) (fun _ _ _ _ => rulI fun a b K => lv_ior a b dX12_laysSeen_71 K) dX12_laysSeen_72 w7_16 rfl) (t_sq (p1 := 78) (Γ' := [(0, 2), (1, 0), (2, 0), (3, 0), (4, 0)]) (t_istore (s_iconst dX12_laysSeen_75 rfl) dX12_laysSeen_76 rfl rfl) (tn_to (Γ' := [(0, 2), (1, 0), (2, 0), (3, 0), (4, 0)]) (XA := [119]) sLX12_laysSeen_2 (lda_cons (ld_in rfl) lda_nil) rfl))))))) (t_iinc dX12_laysSeen_119 rfl rfl rfl rfl) (lda_cons (ld_in rfl) lda_nil) (lda_cons (ld_in rfl) lda_nil) (lda_cons (ld_goto (y := 28) dX12_laysSeen_122 rfl (ld_in rfl)) lda_nil) (ld_in rfl) lda_nil
noncomputable def LX12_laysSeen_4 : Sm Unit := dLoop (fun f => (sI (sI (sI (sI (sI (sR fr0 0 (gR f 0)) 1 (gI f 1)) 2 (gI f 2)) 3 (gI f 3)) 4 (gI f 4)) 5 (gI f 5))) (dCI r_lt (vI 5) (dCallV 12 DX12_houses (aR aN 0 (vR 0)))) (dSetI 4 (dT (dCI r_gt (dAI (dGR 12 54 (vR 0)) (d2 o_iadd (d2 o_imul (cI 8) (vI 3)) (vI 5))) (vI 4)) (dAI (dGR 12 54 (vR 0)) (d2 o_iadd (d2 o_imul (cI 8) (vI 3)) (vI 5))) (vI 4))) (dInc 5 1)
theorem sLX12_laysSeen_4 {ΓL : Gm} {PB PK : List Nat} : SS (cvoV, .return_) miX12_laysSeen ΓL PB PK [(0, 2), (1, 0), (2, 0), (3, 0), (4, 0), (5, 0)] [(0, 2), (1, 0), (2, 0), (3, 0), (4, 0), (5, 0)] 157 [208] LX12_laysSeen_4 := t_loop (pT := 166) (pF := 208) (pu := 202) (PB' := []) (PK' := []) (XB := [202]) (XU := [205]) (fun _ _ => rfl) rfl (c_lt_F (pF := 208) (s_iload dX12_laysSeen_157 rfl) (s_of_xI (x_callV (ts := [(0, 2)]) ck12 rfl kX12_houses mokX12_houses w8_62 ps5_1 rfl rfl rfl rfl (a_R (ts := []) 0 a_nil (s_aload_n dX12_laysSeen_159 rfl rfl) rfl) dX12_laysSeen_160 w8_60)) dX12_laysSeen_163 rfl) (t_istore (s_T (pT := 183) (pF := 198) (p1 := 195) (pe := 200) (c_gt_F (pF := 198) (s_dAI (s_getR ck12 54 (by decide) rfl (s_aload_n dX12_laysSeen_166 rfl rfl) dX12_laysSeen_167 w7_19) (s_iadd (s_imul (s_bipush dX12_laysSeen_170 rfl) (s_iload_n dX12_laysSeen_172 rfl rfl) dX12_laysSeen_173) (s_iload dX12_laysSeen_174 rfl) dX12_laysSeen_176) dX12_laysSeen_177) (s_iload dX12_laysSeen_178 rfl) dX12_laysSeen_180 rfl) (s_dAI (s_getR ck12 54 (by decide) rfl (s_aload_n dX12_laysSeen_183 rfl rfl) dX12_laysSeen_184 w7_19) (s_iadd (s_imul (s_bipush dX12_laysSeen_187 rfl) (s_iload_n dX12_laysSeen_189 rfl rfl) dX12_laysSeen_190) (s_iload dX12_laysSeen_191 rfl) dX12_laysSeen_193) dX12_laysSeen_194) (s_iload dX12_laysSeen_198 rfl) (ld_goto (y := 200) dX12_laysSeen_195 rfl (ld_in rfl))) dX12_laysSeen_200 rfl rfl) (t_iinc dX12_laysSeen_202 rfl rfl rfl rfl) (lda_cons (ld_in rfl) lda_nil) lda_nil (lda_cons (ld_goto (y := 157) dX12_laysSeen_205 rfl (ld_in rfl)) lda_nil) (ld_in rfl) lda_nil
noncomputable def LX12_laysSeen_5 : Sm Unit := dLoop (fun f => (sI (sI (sI (sR fr0 0 (gR f 0)) 1 (gI f 1)) 2 (gI f 2)) 3 (gI f 3))) (dCI r_le (vI 3) (dCallV 12 DX12_days (aR aN 0 (vR 0)))) (dSeq (dSetI 4 (cI 0)) (dSeq (dSeq (dSetI 5 (cI 0)) LX12_laysSeen_4) (dSeq (dIf (dCI r_ge (vI 4) (dGI 12 53 (vR 0))) dCnt dSkip) (dSeq (dP (fI 12 52) (vR 0) (vI 3)) (dP (fI 12 53) (vR 0) (vI 4)))))) (dInc 3 1)
theorem sLX12_laysSeen_5 {ΓL : Gm} {PB PK : List Nat} : SS (cvoV, .return_) miX12_laysSeen ΓL PB PK [(0, 2), (1, 0), (2, 0), (3, 0)] [(0, 2), (1, 0), (2, 0), (3, 0)] 143 [237] LX12_laysSeen_5 := t_loop (pT := 151) (pF := 237) (pu := 231) (PB' := []) (PK' := [231]) (XB := [231]) (XU := [234]) (fun _ _ => rfl) rfl (c_le_F (pF := 237) (s_iload_n dX12_laysSeen_143 rfl rfl) (s_of_xI (x_callV (ts := [(0, 2)]) ck12 rfl kX12_days mokX12_days w8_136 ps5_12 rfl rfl rfl rfl (a_R (ts := []) 0 a_nil (s_aload_n dX12_laysSeen_144 rfl rfl) rfl) dX12_laysSeen_145 w8_134)) dX12_laysSeen_148 rfl) (t_sq (p1 := 154) (Γ' := [(0, 2), (1, 0), (2, 0), (3, 0), (4, 0)]) (t_istore (s_iconst dX12_laysSeen_151 rfl) dX12_laysSeen_152 rfl rfl) (t_sq (p1 := 208) (Γ' := [(0, 2), (1, 0), (2, 0), (3, 0), (4, 0)]) (t_sq (p1 := 157) (Γ' := [(0, 2), (1, 0), (2, 0), (3, 0), (4, 0), (5, 0)]) (t_istore (s_iconst dX12_laysSeen_154 rfl) dX12_laysSeen_155 rfl rfl) (tn_to (Γ' := [(0, 2), (1, 0), (2, 0), (3, 0), (4, 0), (5, 0)]) (XA := [208]) sLX12_laysSeen_4 (lda_cons (ld_in rfl) lda_nil) rfl)) (t_sq (p1 := 220) (Γ' := [(0, 2), (1, 0), (2, 0), (3, 0), (4, 0)]) (t_if (pT := 217) (pF := 220) (X := [220]) (XA := []) (XB := [220]) (c_ge_F (pF := 220) (s_iload dX12_laysSeen_208 rfl) (s_getI ck12 53 (by decide) rfl (s_aload_n dX12_laysSeen_210 rfl rfl) dX12_laysSeen_211 w7_18) dX12_laysSeen_214 rfl) (t_cnt (ld_goto (y := 231) dX12_laysSeen_217 rfl (ld_in rfl)) rfl) (t_skip (ld_in rfl) rfl) lda_nil (lda_cons (ld_in rfl) lda_nil)) (t_sq (p1 := 225) (Γ' := [(0, 2), (1, 0), (2, 0), (3, 0), (4, 0)]) (t_pI ck12 52 (by decide) rfl (Or.inl rfl) (s_aload_n dX12_laysSeen_220 rfl rfl) (s_iload_n dX12_laysSeen_221 rfl rfl) dX12_laysSeen_222 w7_17 rfl) (t_pI ck12 53 (by decide) rfl (Or.inl rfl) (s_aload_n dX12_laysSeen_225 rfl rfl) (s_iload dX12_laysSeen_226 rfl) dX12_laysSeen_228 w7_18 rfl))))) (t_iinc dX12_laysSeen_231 rfl rfl rfl rfl) (lda_cons (ld_in rfl) lda_nil) (lda_cons (ld_in rfl) lda_nil) (lda_cons (ld_goto (y := 143) dX12_laysSeen_234 rfl (ld_in rfl)) lda_nil) (ld_in rfl) lda_nil
noncomputable def BX12_laysSeen : Sm Unit := (dSeq (dP (fI 12 51) (vR 0) (cI 0)) (dSeq (dSeq (dSetI 3 (cI 0)) LX12_laysSeen_1) (dSeq (dSeq (dSetI 3 (cI 0)) LX12_laysSeen_3) (dSeq (dP (fI 12 52) (vR 0) (cI (-1))) (dSeq (dP (fI 12 53) (vR 0) (dCall DX12_sizeOf (aI aN 0 (dGI 12 51 (vR 0))))) (dSeq (dSeq (dSetI 3 (cI 0)) LX12_laysSeen_5) dRet0))))))
theorem sBX12_laysSeen : SS (cvoV, .return_) miX12_laysSeen [] [] [] [(0, 2), (1, 0), (2, 0)] [(0, 2), (1, 0), (2, 0)] 0 [] BX12_laysSeen := (t_sq (p1 := 5) (Γ' := [(0, 2), (1, 0), (2, 0)]) (t_pI ck12 51 (by decide) rfl (Or.inl rfl) (s_aload_n dX12_laysSeen_0 rfl rfl) (s_iconst dX12_laysSeen_1 rfl) dX12_laysSeen_2 w7_16 rfl) (t_sq (p1 := 26) (Γ' := [(0, 2), (1, 0), (2, 0)]) (t_sq (p1 := 7) (Γ' := [(0, 2), (1, 0), (2, 0), (3, 0)]) (t_istore_n (s_iconst dX12_laysSeen_5 rfl) dX12_laysSeen_6 rfl rfl rfl) (tn_to (Γ' := [(0, 2), (1, 0), (2, 0), (3, 0)]) (XA := [26]) sLX12_laysSeen_1 (lda_cons (ld_in rfl) lda_nil) rfl)) (t_sq (p1 := 125) (Γ' := [(0, 2), (1, 0), (2, 0)]) (t_sq (p1 := 28) (Γ' := [(0, 2), (1, 0), (2, 0), (3, 0)]) (t_istore_n (s_iconst dX12_laysSeen_26 rfl) dX12_laysSeen_27 rfl rfl rfl) (tn_to (Γ' := [(0, 2), (1, 0), (2, 0), (3, 0)]) (XA := [125]) sLX12_laysSeen_3 (lda_cons (ld_in rfl) lda_nil) rfl)) (t_sq (p1 := 130) (Γ' := [(0, 2), (1, 0), (2, 0)]) (t_pI ck12 52 (by decide) rfl (Or.inl rfl) (s_aload_n dX12_laysSeen_125 rfl rfl) (s_iconst dX12_laysSeen_126 rfl) dX12_laysSeen_127 w7_17 rfl) (t_sq (p1 := 141) (Γ' := [(0, 2), (1, 0), (2, 0)]) (t_pI ck12 53 (by decide) rfl (Or.inl rfl) (s_aload_n dX12_laysSeen_130 rfl rfl) (s_of_xI (x_call (ts := [(0, 0)]) kX12_sizeOf mokX12_sizeOf w9_11 rfl rfl rfl (a_I (ts := []) 0 a_nil (s_getI ck12 51 (by decide) rfl (s_aload_n dX12_laysSeen_131 rfl rfl) dX12_laysSeen_132 w7_16) rfl) dX12_laysSeen_135 w9_10)) dX12_laysSeen_138 w7_18 rfl) (t_sq (p1 := 237) (Γ' := [(0, 2), (1, 0), (2, 0)]) (t_sq (p1 := 143) (Γ' := [(0, 2), (1, 0), (2, 0), (3, 0)]) (t_istore_n (s_iconst dX12_laysSeen_141 rfl) dX12_laysSeen_142 rfl rfl rfl) (tn_to (Γ' := [(0, 2), (1, 0), (2, 0), (3, 0)]) (XA := [237]) sLX12_laysSeen_5 (lda_cons (ld_in rfl) lda_nil) rfl)) (t_ret0 (fun _ _ => rfl) dX12_laysSeen_237)))))))
noncomputable def DX12_laysSeen : Fr → St → Option (Unit × St) := M1 (fun f => (sI (sI (sR fr0 0 (gR f 0)) 1 (gI f 1)) 2 (gI f 2))) BX12_laysSeen
theorem kX12_laysSeen : SND yX12_laysSeen cX12_laysSeen 6 none 5 [(0, 2), (1, 0), (2, 0)] cvoV DX12_laysSeen := snd_V (nw := 3) (by decide) (fun z => by cases z) rfl rfl (fun _ _ => rfl) sBX12_laysSeen
theorem dX12_firsts_0 : decode cX12_firsts 0 = .ok (.aload_n 0, 1) := by decide +kernel
theorem dX12_firsts_1 : decode cX12_firsts 1 = .ok (.iconst 0, 1) := by decide +kernel
theorem dX12_firsts_2 : decode cX12_firsts 2 = .ok (.putfield 122, 3) := by decide +kernel
theorem dX12_firsts_5 : decode cX12_firsts 5 = .ok (.aload_n 0, 1) := by decide +kernel
theorem dX12_firsts_6 : decode cX12_firsts 6 = .ok (.iload_n 1, 1) := by decide +kernel
theorem dX12_firsts_7 : decode cX12_firsts 7 = .ok (.iload_n 2, 1) := by decide +kernel
theorem dX12_firsts_8 : decode cX12_firsts 8 = .ok (.invokevirtual 452, 3) := by decide +kernel
theorem dX12_firsts_11 : decode cX12_firsts 11 = .ok (.istore_n 3, 1) := by decide +kernel
theorem dX12_firsts_12 : decode cX12_firsts 12 = .ok (.iload_n 3, 1) := by decide +kernel
theorem dX12_firsts_13 : decode cX12_firsts 13 = .ok (.ifCond .eq 5, 3) := by decide +kernel
theorem dX12_firsts_16 : decode cX12_firsts 16 = .ok (.iload_n 3, 1) := by decide +kernel
theorem dX12_firsts_17 : decode cX12_firsts 17 = .ok (.ireturn, 1) := by decide +kernel
theorem dX12_firsts_18 : decode cX12_firsts 18 = .ok (.aload_n 0, 1) := by decide +kernel
theorem dX12_firsts_19 : decode cX12_firsts 19 = .ok (.iload_n 1, 1) := by decide +kernel
theorem dX12_firsts_20 : decode cX12_firsts 20 = .ok (.iload_n 2, 1) := by decide +kernel
theorem dX12_firsts_21 : decode cX12_firsts 21 = .ok (.invokevirtual 455, 3) := by decide +kernel
theorem dX12_firsts_24 : decode cX12_firsts 24 = .ok (.aload_n 0, 1) := by decide +kernel
theorem dX12_firsts_25 : decode cX12_firsts 25 = .ok (.getfield 440, 3) := by decide +kernel
theorem dX12_firsts_28 : decode cX12_firsts 28 = .ok (.ireturn, 1) := by decide +kernel
theorem mokX12_firsts : MOK yX12_firsts cX12_firsts 4 (some .int) 2 := ⟨w9_126, w1_13, ⟨by decide, by decide⟩, by decide +kernel, by decide⟩
abbrev miX12_firsts : MI := (yX12_firsts.cls, cX12_firsts, 4, 6, false)
noncomputable def BX12_firsts : Sm Int32 := (dSeq (dP (fI 12 0) (vR 0) (cI 0)) (dSeq (dSetI 3 (dCallV 12 DX12_whyNotSeen (aI (aI (aR aN 0 (vR 0)) 1 (vI 1)) 2 (vI 2)))) (dSeq (dIf (dCZ q_ne (vI 3)) (dRet (vI 3)) dSkip) (dSeq (dDo (dCallV 12 DX12_laysSeen (aI (aI (aR aN 0 (vR 0)) 1 (vI 1)) 2 (vI 2)))) (dRet (dGI 12 51 (vR 0)))))))
theorem sBX12_firsts : SS (cvoI, .ireturn) miX12_firsts [] [] [] [(0, 2), (1, 0), (2, 0)] [(0, 2), (1, 0), (2, 0)] 0 [] BX12_firsts := (t_sq (p1 := 5) (Γ' := [(0, 2), (1, 0), (2, 0)]) (t_pI ck12 0 (by decide) rfl (Or.inl rfl) (s_aload_n dX12_firsts_0 rfl rfl) (s_iconst dX12_firsts_1 rfl) dX12_firsts_2 w6_205 rfl) (t_sq (p1 := 12) (Γ' := [(0, 2), (1, 0), (2, 0), (3, 0)]) (t_istore_n (s_of_xI (x_callV (ts := [(0, 2), (1, 0), (2, 0)]) ck12 rfl kX12_whyNotSeen mokX12_whyNotSeen w9_129 ps7_3 rfl rfl rfl rfl (a_I (ts := [(0, 2), (1, 0)]) 2 (a_I (ts := [(0, 2)]) 1 (a_R (ts := []) 0 a_nil (s_aload_n dX12_firsts_5 rfl rfl) rfl) (s_iload_n dX12_firsts_6 rfl rfl) rfl) (s_iload_n dX12_firsts_7 rfl rfl) rfl) dX12_firsts_8 w9_127)) dX12_firsts_11 rfl rfl rfl) (t_sq (p1 := 18) (Γ' := [(0, 2), (1, 0), (2, 0), (3, 0)]) (t_if (pT := 16) (pF := 18) (X := [18]) (XA := []) (XB := [18]) (c_ne_ZF (pF := 18) (s_iload_n dX12_firsts_12 rfl rfl) dX12_firsts_13 rfl) (t_ret (cv := cvI) (fun _ _ => rfl) (s_iload_n dX12_firsts_16 rfl rfl) dX12_firsts_17) (t_skip (ld_in rfl) rfl) lda_nil (lda_cons (ld_in rfl) lda_nil)) (t_sq (p1 := 24) (Γ' := [(0, 2), (1, 0), (2, 0), (3, 0)]) (t_do (x_callV (ts := [(0, 2), (1, 0), (2, 0)]) ck12 rfl kX12_laysSeen mokX12_laysSeen w9_133 ps7_4 rfl rfl rfl rfl (a_I (ts := [(0, 2), (1, 0)]) 2 (a_I (ts := [(0, 2)]) 1 (a_R (ts := []) 0 a_nil (s_aload_n dX12_firsts_18 rfl rfl) rfl) (s_iload_n dX12_firsts_19 rfl rfl) rfl) (s_iload_n dX12_firsts_20 rfl rfl) rfl) dX12_firsts_21 w9_131) rfl) (t_ret (cv := cvI) (fun _ _ => rfl) (s_getI ck12 51 (by decide) rfl (s_aload_n dX12_firsts_24 rfl rfl) dX12_firsts_25 w7_16) dX12_firsts_28)))))
noncomputable def DX12_firsts : Fr → St → Option (Int32 × St) := M1 (fun f => (sI (sI (sR fr0 0 (gR f 0)) 1 (gI f 1)) 2 (gI f 2))) BX12_firsts
theorem kX12_firsts : SND yX12_firsts cX12_firsts 4 (some .int) 6 [(0, 2), (1, 0), (2, 0)] cvoI DX12_firsts := snd_I (nw := 3) (by decide) rfl rfl (fun _ _ => rfl) sBX12_firsts
theorem dX12_ask_0 : decode cX12_ask 0 = .ok (.aload_n 0, 1) := by decide +kernel
theorem dX12_ask_1 : decode cX12_ask 1 = .ok (.iconst 0, 1) := by decide +kernel
theorem dX12_ask_2 : decode cX12_ask 2 = .ok (.putfield 122, 3) := by decide +kernel
theorem dX12_ask_5 : decode cX12_ask 5 = .ok (.aload_n 0, 1) := by decide +kernel
theorem dX12_ask_6 : decode cX12_ask 6 = .ok (.iload_n 1, 1) := by decide +kernel
theorem dX12_ask_7 : decode cX12_ask 7 = .ok (.iload_n 2, 1) := by decide +kernel
theorem dX12_ask_8 : decode cX12_ask 8 = .ok (.invokevirtual 452, 3) := by decide +kernel
theorem dX12_ask_11 : decode cX12_ask 11 = .ok (.istore_n 3, 1) := by decide +kernel
theorem dX12_ask_12 : decode cX12_ask 12 = .ok (.iload_n 3, 1) := by decide +kernel
theorem dX12_ask_13 : decode cX12_ask 13 = .ok (.ifCond .eq 5, 3) := by decide +kernel
theorem dX12_ask_16 : decode cX12_ask 16 = .ok (.iload_n 3, 1) := by decide +kernel
theorem dX12_ask_17 : decode cX12_ask 17 = .ok (.ireturn, 1) := by decide +kernel
theorem dX12_ask_18 : decode cX12_ask 18 = .ok (.aload_n 0, 1) := by decide +kernel
theorem dX12_ask_19 : decode cX12_ask 19 = .ok (.iload_n 1, 1) := by decide +kernel
theorem dX12_ask_20 : decode cX12_ask 20 = .ok (.iload_n 2, 1) := by decide +kernel
theorem dX12_ask_21 : decode cX12_ask 21 = .ok (.invokevirtual 455, 3) := by decide +kernel
theorem dX12_ask_24 : decode cX12_ask 24 = .ok (.aload_n 0, 1) := by decide +kernel
theorem dX12_ask_25 : decode cX12_ask 25 = .ok (.getfield 446, 3) := by decide +kernel
theorem dX12_ask_28 : decode cX12_ask 28 = .ok (.ireturn, 1) := by decide +kernel
theorem mokX12_ask : MOK yX12_ask cX12_ask 4 (some .int) 2 := ⟨w9_142, w1_13, ⟨by decide, by decide⟩, by decide +kernel, by decide⟩
abbrev miX12_ask : MI := (yX12_ask.cls, cX12_ask, 4, 6, false)
noncomputable def BX12_ask : Sm Int32 := (dSeq (dP (fI 12 0) (vR 0) (cI 0)) (dSeq (dSetI 3 (dCallV 12 DX12_whyNotSeen (aI (aI (aR aN 0 (vR 0)) 1 (vI 1)) 2 (vI 2)))) (dSeq (dIf (dCZ q_ne (vI 3)) (dRet (vI 3)) dSkip) (dSeq (dDo (dCallV 12 DX12_laysSeen (aI (aI (aR aN 0 (vR 0)) 1 (vI 1)) 2 (vI 2)))) (dRet (dGI 12 52 (vR 0)))))))
theorem sBX12_ask : SS (cvoI, .ireturn) miX12_ask [] [] [] [(0, 2), (1, 0), (2, 0)] [(0, 2), (1, 0), (2, 0)] 0 [] BX12_ask := (t_sq (p1 := 5) (Γ' := [(0, 2), (1, 0), (2, 0)]) (t_pI ck12 0 (by decide) rfl (Or.inl rfl) (s_aload_n dX12_ask_0 rfl rfl) (s_iconst dX12_ask_1 rfl) dX12_ask_2 w6_205 rfl) (t_sq (p1 := 12) (Γ' := [(0, 2), (1, 0), (2, 0), (3, 0)]) (t_istore_n (s_of_xI (x_callV (ts := [(0, 2), (1, 0), (2, 0)]) ck12 rfl kX12_whyNotSeen mokX12_whyNotSeen w9_129 ps7_3 rfl rfl rfl rfl (a_I (ts := [(0, 2), (1, 0)]) 2 (a_I (ts := [(0, 2)]) 1 (a_R (ts := []) 0 a_nil (s_aload_n dX12_ask_5 rfl rfl) rfl) (s_iload_n dX12_ask_6 rfl rfl) rfl) (s_iload_n dX12_ask_7 rfl rfl) rfl) dX12_ask_8 w9_127)) dX12_ask_11 rfl rfl rfl) (t_sq (p1 := 18) (Γ' := [(0, 2), (1, 0), (2, 0), (3, 0)]) (t_if (pT := 16) (pF := 18) (X := [18]) (XA := []) (XB := [18]) (c_ne_ZF (pF := 18) (s_iload_n dX12_ask_12 rfl rfl) dX12_ask_13 rfl) (t_ret (cv := cvI) (fun _ _ => rfl) (s_iload_n dX12_ask_16 rfl rfl) dX12_ask_17) (t_skip (ld_in rfl) rfl) lda_nil (lda_cons (ld_in rfl) lda_nil)) (t_sq (p1 := 24) (Γ' := [(0, 2), (1, 0), (2, 0), (3, 0)]) (t_do (x_callV (ts := [(0, 2), (1, 0), (2, 0)]) ck12 rfl kX12_laysSeen mokX12_laysSeen w9_133 ps7_4 rfl rfl rfl rfl (a_I (ts := [(0, 2), (1, 0)]) 2 (a_I (ts := [(0, 2)]) 1 (a_R (ts := []) 0 a_nil (s_aload_n dX12_ask_18 rfl rfl) rfl) (s_iload_n dX12_ask_19 rfl rfl) rfl) (s_iload_n dX12_ask_20 rfl rfl) rfl) dX12_ask_21 w9_131) rfl) (t_ret (cv := cvI) (fun _ _ => rfl) (s_getI ck12 52 (by decide) rfl (s_aload_n dX12_ask_24 rfl rfl) dX12_ask_25 w7_17) dX12_ask_28)))))
noncomputable def DX12_ask : Fr → St → Option (Int32 × St) := M1 (fun f => (sI (sI (sR fr0 0 (gR f 0)) 1 (gI f 1)) 2 (gI f 2))) BX12_ask
theorem kX12_ask : SND yX12_ask cX12_ask 4 (some .int) 6 [(0, 2), (1, 0), (2, 0)] cvoI DX12_ask := snd_I (nw := 3) (by decide) rfl rfl (fun _ _ => rfl) sBX12_ask
theorem dX12_leaves_0 : decode cX12_leaves 0 = .ok (.aload_n 0, 1) := by decide +kernel
theorem dX12_leaves_1 : decode cX12_leaves 1 = .ok (.iconst 0, 1) := by decide +kernel
theorem dX12_leaves_2 : decode cX12_leaves 2 = .ok (.putfield 122, 3) := by decide +kernel
theorem dX12_leaves_5 : decode cX12_leaves 5 = .ok (.aload_n 0, 1) := by decide +kernel
theorem dX12_leaves_6 : decode cX12_leaves 6 = .ok (.iload_n 1, 1) := by decide +kernel
theorem dX12_leaves_7 : decode cX12_leaves 7 = .ok (.iload_n 2, 1) := by decide +kernel
theorem dX12_leaves_8 : decode cX12_leaves 8 = .ok (.invokevirtual 452, 3) := by decide +kernel
theorem dX12_leaves_11 : decode cX12_leaves 11 = .ok (.istore_n 3, 1) := by decide +kernel
theorem dX12_leaves_12 : decode cX12_leaves 12 = .ok (.iload_n 3, 1) := by decide +kernel
theorem dX12_leaves_13 : decode cX12_leaves 13 = .ok (.ifCond .eq 5, 3) := by decide +kernel
theorem dX12_leaves_16 : decode cX12_leaves 16 = .ok (.iload_n 3, 1) := by decide +kernel
theorem dX12_leaves_17 : decode cX12_leaves 17 = .ok (.ireturn, 1) := by decide +kernel
theorem dX12_leaves_18 : decode cX12_leaves 18 = .ok (.aload_n 0, 1) := by decide +kernel
theorem dX12_leaves_19 : decode cX12_leaves 19 = .ok (.iload_n 1, 1) := by decide +kernel
theorem dX12_leaves_20 : decode cX12_leaves 20 = .ok (.iload_n 2, 1) := by decide +kernel
theorem dX12_leaves_21 : decode cX12_leaves 21 = .ok (.invokevirtual 455, 3) := by decide +kernel
theorem dX12_leaves_24 : decode cX12_leaves 24 = .ok (.aload_n 0, 1) := by decide +kernel
theorem dX12_leaves_25 : decode cX12_leaves 25 = .ok (.getfield 449, 3) := by decide +kernel
theorem dX12_leaves_28 : decode cX12_leaves 28 = .ok (.ireturn, 1) := by decide +kernel
theorem mokX12_leaves : MOK yX12_leaves cX12_leaves 4 (some .int) 2 := ⟨w9_146, w1_13, ⟨by decide, by decide⟩, by decide +kernel, by decide⟩
abbrev miX12_leaves : MI := (yX12_leaves.cls, cX12_leaves, 4, 6, false)
noncomputable def BX12_leaves : Sm Int32 := (dSeq (dP (fI 12 0) (vR 0) (cI 0)) (dSeq (dSetI 3 (dCallV 12 DX12_whyNotSeen (aI (aI (aR aN 0 (vR 0)) 1 (vI 1)) 2 (vI 2)))) (dSeq (dIf (dCZ q_ne (vI 3)) (dRet (vI 3)) dSkip) (dSeq (dDo (dCallV 12 DX12_laysSeen (aI (aI (aR aN 0 (vR 0)) 1 (vI 1)) 2 (vI 2)))) (dRet (dGI 12 53 (vR 0)))))))
theorem sBX12_leaves : SS (cvoI, .ireturn) miX12_leaves [] [] [] [(0, 2), (1, 0), (2, 0)] [(0, 2), (1, 0), (2, 0)] 0 [] BX12_leaves := (t_sq (p1 := 5) (Γ' := [(0, 2), (1, 0), (2, 0)]) (t_pI ck12 0 (by decide) rfl (Or.inl rfl) (s_aload_n dX12_leaves_0 rfl rfl) (s_iconst dX12_leaves_1 rfl) dX12_leaves_2 w6_205 rfl) (t_sq (p1 := 12) (Γ' := [(0, 2), (1, 0), (2, 0), (3, 0)]) (t_istore_n (s_of_xI (x_callV (ts := [(0, 2), (1, 0), (2, 0)]) ck12 rfl kX12_whyNotSeen mokX12_whyNotSeen w9_129 ps7_3 rfl rfl rfl rfl (a_I (ts := [(0, 2), (1, 0)]) 2 (a_I (ts := [(0, 2)]) 1 (a_R (ts := []) 0 a_nil (s_aload_n dX12_leaves_5 rfl rfl) rfl) (s_iload_n dX12_leaves_6 rfl rfl) rfl) (s_iload_n dX12_leaves_7 rfl rfl) rfl) dX12_leaves_8 w9_127)) dX12_leaves_11 rfl rfl rfl) (t_sq (p1 := 18) (Γ' := [(0, 2), (1, 0), (2, 0), (3, 0)]) (t_if (pT := 16) (pF := 18) (X := [18]) (XA := []) (XB := [18]) (c_ne_ZF (pF := 18) (s_iload_n dX12_leaves_12 rfl rfl) dX12_leaves_13 rfl) (t_ret (cv := cvI) (fun _ _ => rfl) (s_iload_n dX12_leaves_16 rfl rfl) dX12_leaves_17) (t_skip (ld_in rfl) rfl) lda_nil (lda_cons (ld_in rfl) lda_nil)) (t_sq (p1 := 24) (Γ' := [(0, 2), (1, 0), (2, 0), (3, 0)]) (t_do (x_callV (ts := [(0, 2), (1, 0), (2, 0)]) ck12 rfl kX12_laysSeen mokX12_laysSeen w9_133 ps7_4 rfl rfl rfl rfl (a_I (ts := [(0, 2), (1, 0)]) 2 (a_I (ts := [(0, 2)]) 1 (a_R (ts := []) 0 a_nil (s_aload_n dX12_leaves_18 rfl rfl) rfl) (s_iload_n dX12_leaves_19 rfl rfl) rfl) (s_iload_n dX12_leaves_20 rfl rfl) rfl) dX12_leaves_21 w9_131) rfl) (t_ret (cv := cvI) (fun _ _ => rfl) (s_getI ck12 53 (by decide) rfl (s_aload_n dX12_leaves_24 rfl rfl) dX12_leaves_25 w7_18) dX12_leaves_28)))))
noncomputable def DX12_leaves : Fr → St → Option (Int32 × St) := M1 (fun f => (sI (sI (sR fr0 0 (gR f 0)) 1 (gI f 1)) 2 (gI f 2))) BX12_leaves
theorem kX12_leaves : SND yX12_leaves cX12_leaves 4 (some .int) 6 [(0, 2), (1, 0), (2, 0)] cvoI DX12_leaves := snd_I (nw := 3) (by decide) rfl rfl (fun _ _ => rfl) sBX12_leaves
theorem dX12_laws_0 : decode cX12_laws 0 = .ok (.aload_n 0, 1) := by decide +kernel
theorem dX12_laws_1 : decode cX12_laws 1 = .ok (.iconst 0, 1) := by decide +kernel
theorem dX12_laws_2 : decode cX12_laws 2 = .ok (.putfield 122, 3) := by decide +kernel
theorem dX12_laws_5 : decode cX12_laws 5 = .ok (.aload_n 0, 1) := by decide +kernel
theorem dX12_laws_6 : decode cX12_laws 6 = .ok (.iload_n 1, 1) := by decide +kernel
theorem dX12_laws_7 : decode cX12_laws 7 = .ok (.iload_n 2, 1) := by decide +kernel
theorem dX12_laws_8 : decode cX12_laws 8 = .ok (.invokevirtual 452, 3) := by decide +kernel
theorem dX12_laws_11 : decode cX12_laws 11 = .ok (.istore_n 3, 1) := by decide +kernel
theorem dX12_laws_12 : decode cX12_laws 12 = .ok (.iload_n 3, 1) := by decide +kernel
theorem dX12_laws_13 : decode cX12_laws 13 = .ok (.ifCond .eq 5, 3) := by decide +kernel
theorem dX12_laws_16 : decode cX12_laws 16 = .ok (.iload_n 3, 1) := by decide +kernel
theorem dX12_laws_17 : decode cX12_laws 17 = .ok (.ireturn, 1) := by decide +kernel
theorem dX12_laws_18 : decode cX12_laws 18 = .ok (.aload_n 0, 1) := by decide +kernel
theorem dX12_laws_19 : decode cX12_laws 19 = .ok (.invokevirtual 382, 3) := by decide +kernel
theorem dX12_laws_22 : decode cX12_laws 22 = .ok (.aload_n 0, 1) := by decide +kernel
theorem dX12_laws_23 : decode cX12_laws 23 = .ok (.iload_n 2, 1) := by decide +kernel
theorem dX12_laws_24 : decode cX12_laws 24 = .ok (.aload_n 0, 1) := by decide +kernel
theorem dX12_laws_25 : decode cX12_laws 25 = .ok (.getfield 77, 3) := by decide +kernel
theorem dX12_laws_28 : decode cX12_laws 28 = .ok (.iconst 3, 1) := by decide +kernel
theorem dX12_laws_29 : decode cX12_laws 29 = .ok (.aload_n 0, 1) := by decide +kernel
theorem dX12_laws_30 : decode cX12_laws 30 = .ok (.invokevirtual 304, 3) := by decide +kernel
theorem dX12_laws_33 : decode cX12_laws 33 = .ok (.imul, 1) := by decide +kernel
theorem dX12_laws_34 : decode cX12_laws 34 = .ok (.iload_n 2, 1) := by decide +kernel
theorem dX12_laws_35 : decode cX12_laws 35 = .ok (.iadd, 1) := by decide +kernel
theorem dX12_laws_36 : decode cX12_laws 36 = .ok (.iaload, 1) := by decide +kernel
theorem dX12_laws_37 : decode cX12_laws 37 = .ok (.invokevirtual 338, 3) := by decide +kernel
theorem dX12_laws_40 : decode cX12_laws 40 = .ok (.istore 4, 2) := by decide +kernel
theorem dX12_laws_42 : decode cX12_laws 42 = .ok (.iconst 0, 1) := by decide +kernel
theorem dX12_laws_43 : decode cX12_laws 43 = .ok (.istore 5, 2) := by decide +kernel
theorem dX12_laws_45 : decode cX12_laws 45 = .ok (.iconst 0, 1) := by decide +kernel
theorem dX12_laws_46 : decode cX12_laws 46 = .ok (.istore 6, 2) := by decide +kernel
theorem dX12_laws_48 : decode cX12_laws 48 = .ok (.iload 6, 2) := by decide +kernel
theorem dX12_laws_50 : decode cX12_laws 50 = .ok (.iconst 4, 1) := by decide +kernel
theorem dX12_laws_51 : decode cX12_laws 51 = .ok (.if_icmp .ge 60, 3) := by decide +kernel
theorem dX12_laws_54 : decode cX12_laws 54 = .ok (.aload_n 0, 1) := by decide +kernel
theorem dX12_laws_55 : decode cX12_laws 55 = .ok (.iload 6, 2) := by decide +kernel
theorem dX12_laws_57 : decode cX12_laws 57 = .ok (.invokevirtual 437, 3) := by decide +kernel
theorem dX12_laws_60 : decode cX12_laws 60 = .ok (.iload 5, 2) := by decide +kernel
theorem dX12_laws_62 : decode cX12_laws 62 = .ok (.aload_n 0, 1) := by decide +kernel
theorem dX12_laws_63 : decode cX12_laws 63 = .ok (.iload_n 1, 1) := by decide +kernel
theorem dX12_laws_64 : decode cX12_laws 64 = .ok (.iload_n 2, 1) := by decide +kernel
theorem dX12_laws_65 : decode cX12_laws 65 = .ok (.invokevirtual 443, 3) := by decide +kernel
theorem dX12_laws_68 : decode cX12_laws 68 = .ok (.ifCond .eq 33, 3) := by decide +kernel
theorem dX12_laws_71 : decode cX12_laws 71 = .ok (.aload_n 0, 1) := by decide +kernel
theorem dX12_laws_72 : decode cX12_laws 72 = .ok (.iload_n 2, 1) := by decide +kernel
theorem dX12_laws_73 : decode cX12_laws 73 = .ok (.aload_n 0, 1) := by decide +kernel
theorem dX12_laws_74 : decode cX12_laws 74 = .ok (.getfield 77, 3) := by decide +kernel
theorem dX12_laws_77 : decode cX12_laws 77 = .ok (.iconst 3, 1) := by decide +kernel
theorem dX12_laws_78 : decode cX12_laws 78 = .ok (.aload_n 0, 1) := by decide +kernel
theorem dX12_laws_79 : decode cX12_laws 79 = .ok (.invokevirtual 304, 3) := by decide +kernel
theorem dX12_laws_82 : decode cX12_laws 82 = .ok (.imul, 1) := by decide +kernel
theorem dX12_laws_83 : decode cX12_laws 83 = .ok (.iload_n 2, 1) := by decide +kernel
theorem dX12_laws_84 : decode cX12_laws 84 = .ok (.iadd, 1) := by decide +kernel
theorem dX12_laws_85 : decode cX12_laws 85 = .ok (.iaload, 1) := by decide +kernel
theorem dX12_laws_86 : decode cX12_laws 86 = .ok (.invokevirtual 338, 3) := by decide +kernel
theorem dX12_laws_89 : decode cX12_laws 89 = .ok (.iload 4, 2) := by decide +kernel
theorem dX12_laws_91 : decode cX12_laws 91 = .ok (.if_icmp .ne 10, 3) := by decide +kernel
theorem dX12_laws_94 : decode cX12_laws 94 = .ok (.iconst 1, 1) := by decide +kernel
theorem dX12_laws_95 : decode cX12_laws 95 = .ok (.iload 6, 2) := by decide +kernel
theorem dX12_laws_97 : decode cX12_laws 97 = .ok (.ishl, 1) := by decide +kernel
theorem dX12_laws_98 : decode cX12_laws 98 = .ok (.goto 4, 3) := by decide +kernel
theorem dX12_laws_101 : decode cX12_laws 101 = .ok (.iconst 0, 1) := by decide +kernel
theorem dX12_laws_102 : decode cX12_laws 102 = .ok (.ior, 1) := by decide +kernel
theorem dX12_laws_103 : decode cX12_laws 103 = .ok (.istore 5, 2) := by decide +kernel
theorem dX12_laws_105 : decode cX12_laws 105 = .ok (.iinc 6 1, 3) := by decide +kernel
theorem dX12_laws_108 : decode cX12_laws 108 = .ok (.goto (-60), 3) := by decide +kernel
theorem dX12_laws_111 : decode cX12_laws 111 = .ok (.iload 5, 2) := by decide +kernel
theorem dX12_laws_113 : decode cX12_laws 113 = .ok (.ireturn, 1) := by decide +kernel
theorem mokX12_laws : MOK yX12_laws cX12_laws 7 (some .int) 2 := ⟨w9_150, w1_13, ⟨by decide, by decide⟩, by decide +kernel, by decide⟩
abbrev miX12_laws : MI := (yX12_laws.cls, cX12_laws, 7, 6, false)
noncomputable def LX12_laws_1 : Sm Int32 := dLoop (fun f => (sI (sI (sI (sI (sI (sI (sR fr0 0 (gR f 0)) 1 (gI f 1)) 2 (gI f 2)) 3 (gI f 3)) 4 (gI f 4)) 5 (gI f 5)) 6 (gI f 6))) (dCI r_lt (vI 6) (cI 4)) (dSeq (dDo (dCallV 12 DX12_runsBy (aI (aR aN 0 (vR 0)) 1 (vI 6)))) (dSetI 5 (d2 o_ior (vI 5) (dT (dAnd (dCZ q_ne (dCallV 12 DX12_isSo (aI (aI (aR aN 0 (vR 0)) 1 (vI 1)) 2 (vI 2)))) (dCI r_eq (dCallV 12 DX12_heavyOf (aI (aI (aR aN 0 (vR 0)) 1 (vI 2)) 2 (dAI (dGR 12 35 (vR 0)) (d2 o_iadd (d2 o_imul (cI 3) (dCallV 12 DX12_days (aR aN 0 (vR 0)))) (vI 2))))) (vI 4))) (d2 o_ishl (cI 1) (vI 6)) (cI 0))))) (dInc 6 1)
theorem sLX12_laws_1 {ΓL : Gm} {PB PK : List Nat} : SS (cvoI, .ireturn) miX12_laws ΓL PB PK [(0, 2), (1, 0), (2, 0), (3, 0), (4, 0), (5, 0), (6, 0)] [(0, 2), (1, 0), (2, 0), (3, 0), (4, 0), (5, 0), (6, 0)] 48 [111] LX12_laws_1 := t_loop (pT := 54) (pF := 111) (pu := 105) (PB' := []) (PK' := []) (XB := [105]) (XU := [108]) (fun _ _ => rfl) rfl (c_lt_F (pF := 111) (s_iload dX12_laws_48 rfl) (s_iconst dX12_laws_50 rfl) dX12_laws_51 rfl) (t_sq (p1 := 60) (Γ' := [(0, 2), (1, 0), (2, 0), (3, 0), (4, 0), (5, 0), (6, 0)]) (t_do (x_callV (ts := [(0, 2), (1, 0)]) ck12 rfl kX12_runsBy mokX12_runsBy w9_113 ps7_2 rfl rfl rfl rfl (a_I (ts := [(0, 2)]) 1 (a_R (ts := []) 0 a_nil (s_aload_n dX12_laws_54 rfl rfl) rfl) (s_iload dX12_laws_55 rfl) rfl) dX12_laws_57 w9_111) rfl) (t_istore (s_ior (s_iload dX12_laws_60 rfl) (s_T (pT := 94) (pF := 101) (p1 := 98) (pe := 102) (c_and (p1 := 71) (pT := 94) (pF := 101) (c_ne_ZF (pF := 101) (s_of_xI (x_callV (ts := [(0, 2), (1, 0), (2, 0)]) ck12 rfl kX12_isSo mokX12_isSo w9_137 ps7_5 rfl rfl rfl rfl (a_I (ts := [(0, 2), (1, 0)]) 2 (a_I (ts := [(0, 2)]) 1 (a_R (ts := []) 0 a_nil (s_aload_n dX12_laws_62 rfl rfl) rfl) (s_iload_n dX12_laws_63 rfl rfl) rfl) (s_iload_n dX12_laws_64 rfl rfl) rfl) dX12_laws_65 w9_135)) dX12_laws_68 rfl) (c_eq_F (pF := 101) (s_of_xI (x_callV (ts := [(0, 2), (1, 0), (2, 0)]) ck12 rfl kX12_heavyOf mokX12_heavyOf w8_164 ps6_3 rfl rfl rfl rfl (a_I (ts := [(0, 2), (1, 0)]) 2 (a_I (ts := [(0, 2)]) 1 (a_R (ts := []) 0 a_nil (s_aload_n dX12_laws_71 rfl rfl) rfl) (s_iload_n dX12_laws_72 rfl rfl) rfl) (s_dAI (s_getR ck12 35 (by decide) rfl (s_aload_n dX12_laws_73 rfl rfl) dX12_laws_74 w7_0) (s_iadd (s_imul (s_iconst dX12_laws_77 rfl) (s_of_xI (x_callV (ts := [(0, 2)]) ck12 rfl kX12_days mokX12_days w8_136 ps5_12 rfl rfl rfl rfl (a_R (ts := []) 0 a_nil (s_aload_n dX12_laws_78 rfl rfl) rfl) dX12_laws_79 w8_134)) dX12_laws_82) (s_iload_n dX12_laws_83 rfl rfl) dX12_laws_84) dX12_laws_85) rfl) dX12_laws_86 w8_162)) (s_iload dX12_laws_89 rfl) dX12_laws_91 rfl)) (s_ishl (s_iconst dX12_laws_94 rfl) (s_iload dX12_laws_95 rfl) dX12_laws_97) (s_iconst dX12_laws_101 rfl) (ld_goto (y := 102) dX12_laws_98 rfl (ld_in rfl))) dX12_laws_102) dX12_laws_103 rfl rfl)) (t_iinc dX12_laws_105 rfl rfl rfl rfl) (lda_cons (ld_in rfl) lda_nil) lda_nil (lda_cons (ld_goto (y := 48) dX12_laws_108 rfl (ld_in rfl)) lda_nil) (ld_in rfl) lda_nil
noncomputable def BX12_laws : Sm Int32 := (dSeq (dP (fI 12 0) (vR 0) (cI 0)) (dSeq (dSetI 3 (dCallV 12 DX12_whyNotSeen (aI (aI (aR aN 0 (vR 0)) 1 (vI 1)) 2 (vI 2)))) (dSeq (dIf (dCZ q_ne (vI 3)) (dRet (vI 3)) dSkip) (dSeq (dDo (dCallV 12 DX12_laysNow (aR aN 0 (vR 0)))) (dSeq (dSetI 4 (dCallV 12 DX12_heavyOf (aI (aI (aR aN 0 (vR 0)) 1 (vI 2)) 2 (dAI (dGR 12 35 (vR 0)) (d2 o_iadd (d2 o_imul (cI 3) (dCallV 12 DX12_days (aR aN 0 (vR 0)))) (vI 2)))))) (dSeq (dSetI 5 (cI 0)) (dSeq (dSeq (dSetI 6 (cI 0)) LX12_laws_1) (dRet (vI 5)))))))))
theorem sBX12_laws : SS (cvoI, .ireturn) miX12_laws [] [] [] [(0, 2), (1, 0), (2, 0)] [(0, 2), (1, 0), (2, 0)] 0 [] BX12_laws := (t_sq (p1 := 5) (Γ' := [(0, 2), (1, 0), (2, 0)]) (t_pI ck12 0 (by decide) rfl (Or.inl rfl) (s_aload_n dX12_laws_0 rfl rfl) (s_iconst dX12_laws_1 rfl) dX12_laws_2 w6_205 rfl) (t_sq (p1 := 12) (Γ' := [(0, 2), (1, 0), (2, 0), (3, 0)]) (t_istore_n (s_of_xI (x_callV (ts := [(0, 2), (1, 0), (2, 0)]) ck12 rfl kX12_whyNotSeen mokX12_whyNotSeen w9_129 ps7_3 rfl rfl rfl rfl (a_I (ts := [(0, 2), (1, 0)]) 2 (a_I (ts := [(0, 2)]) 1 (a_R (ts := []) 0 a_nil (s_aload_n dX12_laws_5 rfl rfl) rfl) (s_iload_n dX12_laws_6 rfl rfl) rfl) (s_iload_n dX12_laws_7 rfl rfl) rfl) dX12_laws_8 w9_127)) dX12_laws_11 rfl rfl rfl) (t_sq (p1 := 18) (Γ' := [(0, 2), (1, 0), (2, 0), (3, 0)]) (t_if (pT := 16) (pF := 18) (X := [18]) (XA := []) (XB := [18]) (c_ne_ZF (pF := 18) (s_iload_n dX12_laws_12 rfl rfl) dX12_laws_13 rfl) (t_ret (cv := cvI) (fun _ _ => rfl) (s_iload_n dX12_laws_16 rfl rfl) dX12_laws_17) (t_skip (ld_in rfl) rfl) lda_nil (lda_cons (ld_in rfl) lda_nil)) (t_sq (p1 := 22) (Γ' := [(0, 2), (1, 0), (2, 0), (3, 0)]) (t_do (x_callV (ts := [(0, 2)]) ck12 rfl kX12_laysNow mokX12_laysNow w8_140 ps5_13 rfl rfl rfl rfl (a_R (ts := []) 0 a_nil (s_aload_n dX12_laws_18 rfl rfl) rfl) dX12_laws_19 w8_138) rfl) (t_sq (p1 := 42) (Γ' := [(0, 2), (1, 0), (2, 0), (3, 0), (4, 0)]) (t_istore (s_of_xI (x_callV (ts := [(0, 2), (1, 0), (2, 0)]) ck12 rfl kX12_heavyOf mokX12_heavyOf w8_164 ps6_3 rfl rfl rfl rfl (a_I (ts := [(0, 2), (1, 0)]) 2 (a_I (ts := [(0, 2)]) 1 (a_R (ts := []) 0 a_nil (s_aload_n dX12_laws_22 rfl rfl) rfl) (s_iload_n dX12_laws_23 rfl rfl) rfl) (s_dAI (s_getR ck12 35 (by decide) rfl (s_aload_n dX12_laws_24 rfl rfl) dX12_laws_25 w7_0) (s_iadd (s_imul (s_iconst dX12_laws_28 rfl) (s_of_xI (x_callV (ts := [(0, 2)]) ck12 rfl kX12_days mokX12_days w8_136 ps5_12 rfl rfl rfl rfl (a_R (ts := []) 0 a_nil (s_aload_n dX12_laws_29 rfl rfl) rfl) dX12_laws_30 w8_134)) dX12_laws_33) (s_iload_n dX12_laws_34 rfl rfl) dX12_laws_35) dX12_laws_36) rfl) dX12_laws_37 w8_162)) dX12_laws_40 rfl rfl) (t_sq (p1 := 45) (Γ' := [(0, 2), (1, 0), (2, 0), (3, 0), (4, 0), (5, 0)]) (t_istore (s_iconst dX12_laws_42 rfl) dX12_laws_43 rfl rfl) (t_sq (p1 := 111) (Γ' := [(0, 2), (1, 0), (2, 0), (3, 0), (4, 0), (5, 0)]) (t_sq (p1 := 48) (Γ' := [(0, 2), (1, 0), (2, 0), (3, 0), (4, 0), (5, 0), (6, 0)]) (t_istore (s_iconst dX12_laws_45 rfl) dX12_laws_46 rfl rfl) (tn_to (Γ' := [(0, 2), (1, 0), (2, 0), (3, 0), (4, 0), (5, 0), (6, 0)]) (XA := [111]) sLX12_laws_1 (lda_cons (ld_in rfl) lda_nil) rfl)) (t_ret (cv := cvI) (fun _ _ => rfl) (s_iload dX12_laws_111 rfl) dX12_laws_113))))))))
noncomputable def DX12_laws : Fr → St → Option (Int32 × St) := M1 (fun f => (sI (sI (sR fr0 0 (gR f 0)) 1 (gI f 1)) 2 (gI f 2))) BX12_laws
theorem kX12_laws : SND yX12_laws cX12_laws 7 (some .int) 6 [(0, 2), (1, 0), (2, 0)] cvoI DX12_laws := snd_I (nw := 3) (by decide) rfl rfl (fun _ _ => rfl) sBX12_laws
theorem dX12_getsBy_0 : decode cX12_getsBy 0 = .ok (.aload_n 0, 1) := by decide +kernel
theorem dX12_getsBy_1 : decode cX12_getsBy 1 = .ok (.invokevirtual 360, 3) := by decide +kernel
theorem dX12_getsBy_4 : decode cX12_getsBy 4 = .ok (.aload_n 0, 1) := by decide +kernel
theorem dX12_getsBy_5 : decode cX12_getsBy 5 = .ok (.iload 5, 2) := by decide +kernel
theorem dX12_getsBy_7 : decode cX12_getsBy 7 = .ok (.iload_n 3, 1) := by decide +kernel
theorem dX12_getsBy_8 : decode cX12_getsBy 8 = .ok (.ishl, 1) := by decide +kernel
theorem dX12_getsBy_9 : decode cX12_getsBy 9 = .ok (.iload 6, 2) := by decide +kernel
theorem dX12_getsBy_11 : decode cX12_getsBy 11 = .ok (.iload 4, 2) := by decide +kernel
theorem dX12_getsBy_13 : decode cX12_getsBy 13 = .ok (.ishl, 1) := by decide +kernel
theorem dX12_getsBy_14 : decode cX12_getsBy 14 = .ok (.ior, 1) := by decide +kernel
theorem dX12_getsBy_15 : decode cX12_getsBy 15 = .ok (.putfield 319, 3) := by decide +kernel
theorem dX12_getsBy_18 : decode cX12_getsBy 18 = .ok (.aload_n 0, 1) := by decide +kernel
theorem dX12_getsBy_19 : decode cX12_getsBy 19 = .ok (.invokevirtual 363, 3) := by decide +kernel
theorem dX12_getsBy_22 : decode cX12_getsBy 22 = .ok (.aload_n 0, 1) := by decide +kernel
theorem dX12_getsBy_23 : decode cX12_getsBy 23 = .ok (.iload_n 1, 1) := by decide +kernel
theorem dX12_getsBy_24 : decode cX12_getsBy 24 = .ok (.iload_n 2, 1) := by decide +kernel
theorem dX12_getsBy_25 : decode cX12_getsBy 25 = .ok (.invokevirtual 397, 3) := by decide +kernel
theorem dX12_getsBy_28 : decode cX12_getsBy 28 = .ok (.invokestatic 394, 3) := by decide +kernel
theorem dX12_getsBy_31 : decode cX12_getsBy 31 = .ok (.iconst 2, 1) := by decide +kernel
theorem dX12_getsBy_32 : decode cX12_getsBy 32 = .ok (.iload_n 2, 1) := by decide +kernel
theorem dX12_getsBy_33 : decode cX12_getsBy 33 = .ok (.iload_n 3, 1) := by decide +kernel
theorem dX12_getsBy_34 : decode cX12_getsBy 34 = .ok (.if_icmp .ne 8, 3) := by decide +kernel
theorem dX12_getsBy_37 : decode cX12_getsBy 37 = .ok (.iload 5, 2) := by decide +kernel
theorem dX12_getsBy_39 : decode cX12_getsBy 39 = .ok (.goto 5, 3) := by decide +kernel
theorem dX12_getsBy_42 : decode cX12_getsBy 42 = .ok (.iload 6, 2) := by decide +kernel
theorem dX12_getsBy_44 : decode cX12_getsBy 44 = .ok (.imul, 1) := by decide +kernel
theorem dX12_getsBy_45 : decode cX12_getsBy 45 = .ok (.iadd, 1) := by decide +kernel
theorem dX12_getsBy_46 : decode cX12_getsBy 46 = .ok (.ireturn, 1) := by decide +kernel
theorem mokX12_getsBy : MOK yX12_getsBy cX12_getsBy 7 (some .int) 6 := ⟨w9_162, w1_13, ⟨by decide, by decide⟩, by decide +kernel, by decide⟩
abbrev miX12_getsBy : MI := (yX12_getsBy.cls, cX12_getsBy, 7, 5, false)
noncomputable def BX12_getsBy : Sm Int32 := (dSeq (dDo (dCallV 12 DX12_lays (aR aN 0 (vR 0)))) (dSeq (dP (fI 12 30) (vR 0) (d2 o_ior (d2 o_ishl (vI 5) (vI 3)) (d2 o_ishl (vI 6) (vI 4)))) (dSeq (dDo (dCallV 12 DX12_runs (aR aN 0 (vR 0)))) (dRet (d2 o_iadd (dCall DX12_sizeOf (aI aN 0 (dCallV 12 DX12_knownLast (aI (aI (aR aN 0 (vR 0)) 1 (vI 1)) 2 (vI 2))))) (d2 o_imul (cI 2) (dT (dCI r_eq (vI 2) (vI 3)) (vI 5) (vI 6))))))))
theorem sBX12_getsBy : SS (cvoI, .ireturn) miX12_getsBy [] [] [] [(0, 2), (1, 0), (2, 0), (3, 0), (4, 0), (5, 0), (6, 0)] [(0, 2), (1, 0), (2, 0), (3, 0), (4, 0), (5, 0), (6, 0)] 0 [] BX12_getsBy := (t_sq (p1 := 4) (Γ' := [(0, 2), (1, 0), (2, 0), (3, 0), (4, 0), (5, 0), (6, 0)]) (t_do (x_callV (ts := [(0, 2)]) ck12 rfl kX12_lays mokX12_lays w8_97 ps5_6 rfl rfl rfl rfl (a_R (ts := []) 0 a_nil (s_aload_n dX12_getsBy_0 rfl rfl) rfl) dX12_getsBy_1 w8_95) rfl) (t_sq (p1 := 18) (Γ' := [(0, 2), (1, 0), (2, 0), (3, 0), (4, 0), (5, 0), (6, 0)]) (t_pI ck12 30 (by decide) rfl (Or.inl rfl) (s_aload_n dX12_getsBy_4 rfl rfl) (s_ior (s_ishl (s_iload dX12_getsBy_5 rfl) (s_iload_n dX12_getsBy_7 rfl rfl) dX12_getsBy_8) (s_ishl (s_iload dX12_getsBy_9 rfl) (s_iload dX12_getsBy_11 rfl) dX12_getsBy_13) dX12_getsBy_14) dX12_getsBy_15 w6_235 rfl) (t_sq (p1 := 22) (Γ' := [(0, 2), (1, 0), (2, 0), (3, 0), (4, 0), (5, 0), (6, 0)]) (t_do (x_callV (ts := [(0, 2)]) ck12 rfl kX12_runs mokX12_runs w8_144 ps5_14 rfl rfl rfl rfl (a_R (ts := []) 0 a_nil (s_aload_n dX12_getsBy_18 rfl rfl) rfl) dX12_getsBy_19 w8_142) rfl) (t_ret (cv := cvI) (fun _ _ => rfl) (s_iadd (s_of_xI (x_call (ts := [(0, 0)]) kX12_sizeOf mokX12_sizeOf w9_11 rfl rfl rfl (a_I (ts := []) 0 a_nil (s_of_xI (x_callV (ts := [(0, 2), (1, 0), (2, 0)]) ck12 rfl kX12_knownLast mokX12_knownLast w9_19 ps6_9 rfl rfl rfl rfl (a_I (ts := [(0, 2), (1, 0)]) 2 (a_I (ts := [(0, 2)]) 1 (a_R (ts := []) 0 a_nil (s_aload_n dX12_getsBy_22 rfl rfl) rfl) (s_iload_n dX12_getsBy_23 rfl rfl) rfl) (s_iload_n dX12_getsBy_24 rfl rfl) rfl) dX12_getsBy_25 w9_17)) rfl) dX12_getsBy_28 w9_10)) (s_imul (s_iconst dX12_getsBy_31 rfl) (s_T (pT := 37) (pF := 42) (p1 := 39) (pe := 44) (c_eq_F (pF := 42) (s_iload_n dX12_getsBy_32 rfl rfl) (s_iload_n dX12_getsBy_33 rfl rfl) dX12_getsBy_34 rfl) (s_iload dX12_getsBy_37 rfl) (s_iload dX12_getsBy_42 rfl) (ld_goto (y := 44) dX12_getsBy_39 rfl (ld_in rfl))) dX12_getsBy_44) dX12_getsBy_45) dX12_getsBy_46))))
noncomputable def DX12_getsBy : Fr → St → Option (Int32 × St) := M1 (fun f => (sI (sI (sI (sI (sI (sI (sR fr0 0 (gR f 0)) 1 (gI f 1)) 2 (gI f 2)) 3 (gI f 3)) 4 (gI f 4)) 5 (gI f 5)) 6 (gI f 6))) BX12_getsBy
theorem kX12_getsBy : SND yX12_getsBy cX12_getsBy 7 (some .int) 5 [(0, 2), (1, 0), (2, 0), (3, 0), (4, 0), (5, 0), (6, 0)] cvoI DX12_getsBy := snd_I (nw := 7) (by decide) rfl rfl (fun _ _ => rfl) sBX12_getsBy
