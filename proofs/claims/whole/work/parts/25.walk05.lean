theorem dX11_carry_0 : decode cX11_carry 0 = .ok (.aload_n 0, 1) := by decide +kernel
theorem dX11_carry_1 : decode cX11_carry 1 = .ok (.iload_n 1, 1) := by decide +kernel
theorem dX11_carry_2 : decode cX11_carry 2 = .ok (.iload_n 2, 1) := by decide +kernel
theorem dX11_carry_3 : decode cX11_carry 3 = .ok (.invokevirtual 251, 3) := by decide +kernel
theorem dX11_carry_6 : decode cX11_carry 6 = .ok (.ifCond .eq 26, 3) := by decide +kernel
theorem dX11_carry_9 : decode cX11_carry 9 = .ok (.aload_n 0, 1) := by decide +kernel
theorem dX11_carry_10 : decode cX11_carry 10 = .ok (.getfield 26, 3) := by decide +kernel
theorem dX11_carry_13 : decode cX11_carry 13 = .ok (.iload_n 3, 1) := by decide +kernel
theorem dX11_carry_14 : decode cX11_carry 14 = .ok (.invokevirtual 117, 3) := by decide +kernel
theorem dX11_carry_17 : decode cX11_carry 17 = .ok (.ifCond .eq 15, 3) := by decide +kernel
theorem dX11_carry_20 : decode cX11_carry 20 = .ok (.aload_n 0, 1) := by decide +kernel
theorem dX11_carry_21 : decode cX11_carry 21 = .ok (.getfield 26, 3) := by decide +kernel
theorem dX11_carry_24 : decode cX11_carry 24 = .ok (.iload 4, 2) := by decide +kernel
theorem dX11_carry_26 : decode cX11_carry 26 = .ok (.invokevirtual 223, 3) := by decide +kernel
theorem dX11_carry_29 : decode cX11_carry 29 = .ok (.ifCond .ne 6, 3) := by decide +kernel
theorem dX11_carry_32 : decode cX11_carry 32 = .ok (.bipush (-2), 2) := by decide +kernel
theorem dX11_carry_34 : decode cX11_carry 34 = .ok (.ireturn, 1) := by decide +kernel
theorem dX11_carry_35 : decode cX11_carry 35 = .ok (.aload_n 0, 1) := by decide +kernel
theorem dX11_carry_36 : decode cX11_carry 36 = .ok (.getfield 26, 3) := by decide +kernel
theorem dX11_carry_39 : decode cX11_carry 39 = .ok (.getfield 213, 3) := by decide +kernel
theorem dX11_carry_42 : decode cX11_carry 42 = .ok (.getfield 388, 3) := by decide +kernel
theorem dX11_carry_45 : decode cX11_carry 45 = .ok (.bipush 20, 2) := by decide +kernel
theorem dX11_carry_47 : decode cX11_carry 47 = .ok (.if_icmp .lt 6, 3) := by decide +kernel
theorem dX11_carry_50 : decode cX11_carry 50 = .ok (.bipush (-5), 2) := by decide +kernel
theorem dX11_carry_52 : decode cX11_carry 52 = .ok (.ireturn, 1) := by decide +kernel
theorem dX11_carry_53 : decode cX11_carry 53 = .ok (.aload_n 0, 1) := by decide +kernel
theorem dX11_carry_54 : decode cX11_carry 54 = .ok (.getfield 26, 3) := by decide +kernel
theorem dX11_carry_57 : decode cX11_carry 57 = .ok (.getfield 213, 3) := by decide +kernel
theorem dX11_carry_60 : decode cX11_carry 60 = .ok (.iload_n 1, 1) := by decide +kernel
theorem dX11_carry_61 : decode cX11_carry 61 = .ok (.iload_n 2, 1) := by decide +kernel
theorem dX11_carry_62 : decode cX11_carry 62 = .ok (.iload_n 3, 1) := by decide +kernel
theorem dX11_carry_63 : decode cX11_carry 63 = .ok (.iload 4, 2) := by decide +kernel
theorem dX11_carry_65 : decode cX11_carry 65 = .ok (.invokevirtual 391, 3) := by decide +kernel
theorem dX11_carry_68 : decode cX11_carry 68 = .ok (.aload_n 0, 1) := by decide +kernel
theorem dX11_carry_69 : decode cX11_carry 69 = .ok (.getfield 26, 3) := by decide +kernel
theorem dX11_carry_72 : decode cX11_carry 72 = .ok (.getfield 213, 3) := by decide +kernel
theorem dX11_carry_75 : decode cX11_carry 75 = .ok (.iconst (-1), 1) := by decide +kernel
theorem dX11_carry_76 : decode cX11_carry 76 = .ok (.iconst (-1), 1) := by decide +kernel
theorem dX11_carry_77 : decode cX11_carry 77 = .ok (.invokevirtual 393, 3) := by decide +kernel
theorem dX11_carry_80 : decode cX11_carry 80 = .ok (.aload_n 0, 1) := by decide +kernel
theorem dX11_carry_81 : decode cX11_carry 81 = .ok (.invokevirtual 105, 3) := by decide +kernel
theorem dX11_carry_84 : decode cX11_carry 84 = .ok (.aload_n 0, 1) := by decide +kernel
theorem dX11_carry_85 : decode cX11_carry 85 = .ok (.invokevirtual 167, 3) := by decide +kernel
theorem dX11_carry_88 : decode cX11_carry 88 = .ok (.aload_n 0, 1) := by decide +kernel
theorem dX11_carry_89 : decode cX11_carry 89 = .ok (.getfield 26, 3) := by decide +kernel
theorem dX11_carry_92 : decode cX11_carry 92 = .ok (.getfield 213, 3) := by decide +kernel
theorem dX11_carry_95 : decode cX11_carry 95 = .ok (.getfield 217, 3) := by decide +kernel
theorem dX11_carry_98 : decode cX11_carry 98 = .ok (.iconst 1, 1) := by decide +kernel
theorem dX11_carry_99 : decode cX11_carry 99 = .ok (.isub, 1) := by decide +kernel
theorem dX11_carry_100 : decode cX11_carry 100 = .ok (.invokevirtual 206, 3) := by decide +kernel
theorem dX11_carry_103 : decode cX11_carry 103 = .ok (.ifCond .ne 7, 3) := by decide +kernel
theorem dX11_carry_106 : decode cX11_carry 106 = .ok (.iconst 1, 1) := by decide +kernel
theorem dX11_carry_107 : decode cX11_carry 107 = .ok (.goto 4, 3) := by decide +kernel
theorem dX11_carry_110 : decode cX11_carry 110 = .ok (.iconst 0, 1) := by decide +kernel
theorem dX11_carry_111 : decode cX11_carry 111 = .ok (.ireturn, 1) := by decide +kernel
theorem mokX11_carry : MOK yX11_carry cX11_carry 5 (some .int) 4 := ⟨w6_94, w1_1, ⟨by decide, by decide⟩, by decide +kernel, by decide⟩
abbrev miX11_carry : MI := (yX11_carry.cls, cX11_carry, 5, 8, false)
noncomputable def BX11_carry : Sm Int32 := (dSeq (dIf (dOr (dOr (dNot (dCZ q_ne (dCallV 11 DX11_areAlone (aI (aI (aR aN 0 (vR 0)) 1 (vI 1)) 2 (vI 2))))) (dNot (dCZ q_ne (dCallV 5 DX5_isHouse (aI (aR aN 0 (dGR 11 2 (vR 0))) 1 (vI 3)))))) (dNot (dCZ q_ne (dCallV 5 DX5_isDayAhead (aI (aR aN 0 (dGR 11 2 (vR 0))) 1 (vI 4)))))) (dRet (cI (-2))) dSkip) (dSeq (dIf (dCI r_ge (dGI 1 2 (dGR 5 16 (dGR 11 2 (vR 0)))) (cI 20)) (dRet (cI (-5))) dSkip) (dSeq (dDo (dCallV 1 DX1_add (aI (aI (aI (aI (aR aN 0 (dGR 5 16 (dGR 11 2 (vR 0)))) 1 (vI 1)) 2 (vI 2)) 3 (vI 3)) 4 (vI 4)))) (dSeq (dDo (dCallV 1 DX1_addAct (aI (aI (aR aN 0 (dGR 5 16 (dGR 11 2 (vR 0)))) 1 (cI (-1))) 2 (cI (-1))))) (dSeq (dDo (dCallV 11 DX11_makeStale (aR aN 0 (vR 0)))) (dRet (dT (dCZ q_eq (dCallV 3 DX3_reasonOf (aI (aR aN 0 (dCallV 11 DX11_today (aR aN 0 (vR 0)))) 1 (d2 o_isub (dGI 1 1 (dGR 5 16 (dGR 11 2 (vR 0)))) (cI 1))))) (cI 1) (cI 0))))))))
theorem sBX11_carry : SS (cvoI, .ireturn) miX11_carry [] [] [] [(0, 2), (1, 0), (2, 0), (3, 0), (4, 0)] [(0, 2), (1, 0), (2, 0), (3, 0), (4, 0)] 0 [] BX11_carry := (t_sq (p1 := 35) (Γ' := [(0, 2), (1, 0), (2, 0), (3, 0), (4, 0)]) (t_if (pT := 32) (pF := 35) (X := [35]) (XA := []) (XB := [35]) (c_or (p1 := 20) (pT := 32) (pF := 35) (c_or (p1 := 9) (pT := 32) (pF := 20) (c_not (pT := 32) (pF := 9) (c_ne_ZF (pF := 32) (s_of_xI (x_callV (ts := [(0, 2), (1, 0), (2, 0)]) ck11 rfl kX11_areAlone mokX11_areAlone w5_47 ps2_6 rfl rfl rfl rfl (a_I (ts := [(0, 2), (1, 0)]) 2 (a_I (ts := [(0, 2)]) 1 (a_R (ts := []) 0 a_nil (s_aload_n dX11_carry_0 rfl rfl) rfl) (s_iload_n dX11_carry_1 rfl rfl) rfl) (s_iload_n dX11_carry_2 rfl rfl) rfl) dX11_carry_3 w5_45)) dX11_carry_6 rfl)) (c_not (pT := 32) (pF := 20) (c_ne_ZF (pF := 32) (s_of_xI (x_callV (ts := [(0, 2), (1, 0)]) ck5 rfl kX5_isHouse mokX5_isHouse w3_225 w3_226 rfl rfl rfl rfl (a_I (ts := [(0, 2)]) 1 (a_R (ts := []) 0 a_nil (s_getR ck11 2 (by decide) rfl (s_aload_n dX11_carry_9 rfl rfl) dX11_carry_10 w2_220) rfl) (s_iload_n dX11_carry_13 rfl rfl) rfl) dX11_carry_14 w3_224)) dX11_carry_17 rfl))) (c_not (pT := 32) (pF := 35) (c_ne_ZJ (pT := 35) (s_of_xI (x_callV (ts := [(0, 2), (1, 0)]) ck5 rfl kX5_isDayAhead mokX5_isDayAhead w4_235 w4_236 rfl rfl rfl rfl (a_I (ts := [(0, 2)]) 1 (a_R (ts := []) 0 a_nil (s_getR ck11 2 (by decide) rfl (s_aload_n dX11_carry_20 rfl rfl) dX11_carry_21 w2_220) rfl) (s_iload dX11_carry_24 rfl) rfl) dX11_carry_26 w4_234)) dX11_carry_29 rfl))) (t_ret (cv := cvI) (fun _ _ => rfl) (s_bipush dX11_carry_32 rfl) dX11_carry_34) (t_skip (ld_in rfl) rfl) lda_nil (lda_cons (ld_in rfl) lda_nil)) (t_sq (p1 := 53) (Γ' := [(0, 2), (1, 0), (2, 0), (3, 0), (4, 0)]) (t_if (pT := 50) (pF := 53) (X := [53]) (XA := []) (XB := [53]) (c_ge_F (pF := 53) (s_getI ck1 2 (by decide) rfl (s_getR ck5 16 (by decide) rfl (s_getR ck11 2 (by decide) rfl (s_aload_n dX11_carry_35 rfl rfl) dX11_carry_36 w2_220) dX11_carry_39 w1_200) dX11_carry_42 w1_96) (s_bipush dX11_carry_45 rfl) dX11_carry_47 rfl) (t_ret (cv := cvI) (fun _ _ => rfl) (s_bipush dX11_carry_50 rfl) dX11_carry_52) (t_skip (ld_in rfl) rfl) lda_nil (lda_cons (ld_in rfl) lda_nil)) (t_sq (p1 := 68) (Γ' := [(0, 2), (1, 0), (2, 0), (3, 0), (4, 0)]) (t_do (x_callV (ts := [(0, 2), (1, 0), (2, 0), (3, 0), (4, 0)]) ck1 rfl kX1_add mokX1_add w3_188 w3_189 rfl rfl rfl rfl (a_I (ts := [(0, 2), (1, 0), (2, 0), (3, 0)]) 4 (a_I (ts := [(0, 2), (1, 0), (2, 0)]) 3 (a_I (ts := [(0, 2), (1, 0)]) 2 (a_I (ts := [(0, 2)]) 1 (a_R (ts := []) 0 a_nil (s_getR ck5 16 (by decide) rfl (s_getR ck11 2 (by decide) rfl (s_aload_n dX11_carry_53 rfl rfl) dX11_carry_54 w2_220) dX11_carry_57 w1_200) rfl) (s_iload_n dX11_carry_60 rfl rfl) rfl) (s_iload_n dX11_carry_61 rfl rfl) rfl) (s_iload_n dX11_carry_62 rfl rfl) rfl) (s_iload dX11_carry_63 rfl) rfl) dX11_carry_65 w6_95) rfl) (t_sq (p1 := 80) (Γ' := [(0, 2), (1, 0), (2, 0), (3, 0), (4, 0)]) (t_do (x_callV (ts := [(0, 2), (1, 0), (2, 0)]) ck1 rfl kX1_addAct mokX1_addAct w6_97 w6_98 rfl rfl rfl rfl (a_I (ts := [(0, 2), (1, 0)]) 2 (a_I (ts := [(0, 2)]) 1 (a_R (ts := []) 0 a_nil (s_getR ck5 16 (by decide) rfl (s_getR ck11 2 (by decide) rfl (s_aload_n dX11_carry_68 rfl rfl) dX11_carry_69 w2_220) dX11_carry_72 w1_200) rfl) (s_iconst dX11_carry_75 rfl) rfl) (s_iconst dX11_carry_76 rfl) rfl) dX11_carry_77 w6_96) rfl) (t_sq (p1 := 84) (Γ' := [(0, 2), (1, 0), (2, 0), (3, 0), (4, 0)]) (t_do (x_callV (ts := [(0, 2)]) ck11 rfl kX11_makeStale mokX11_makeStale w3_210 ps1_14 rfl rfl rfl rfl (a_R (ts := []) 0 a_nil (s_aload_n dX11_carry_80 rfl rfl) rfl) dX11_carry_81 w3_208) rfl) (t_ret (cv := cvI) (fun _ _ => rfl) (s_T (pT := 106) (pF := 110) (p1 := 107) (pe := 111) (c_eq_ZF (pF := 110) (s_of_xI (x_callV (ts := [(0, 2), (1, 0)]) ck3 rfl kX3_reasonOf mokX3_reasonOf w4_210 w4_211 rfl rfl rfl rfl (a_I (ts := [(0, 2)]) 1 (a_R (ts := []) 0 a_nil (s_of_xR (x_callV (ts := [(0, 2)]) ck11 rfl kX11_today mokX11_today w4_81 ps2_0 rfl rfl rfl rfl (a_R (ts := []) 0 a_nil (s_aload_n dX11_carry_84 rfl rfl) rfl) dX11_carry_85 w4_79)) rfl) (s_isub (s_getI ck1 1 (by decide) rfl (s_getR ck5 16 (by decide) rfl (s_getR ck11 2 (by decide) rfl (s_aload_n dX11_carry_88 rfl rfl) dX11_carry_89 w2_220) dX11_carry_92 w1_200) dX11_carry_95 w1_94) (s_iconst dX11_carry_98 rfl) dX11_carry_99) rfl) dX11_carry_100 w4_209)) dX11_carry_103 rfl) (s_iconst dX11_carry_106 rfl) (s_iconst dX11_carry_110 rfl) (ld_goto (y := 111) dX11_carry_107 rfl (ld_in rfl))) dX11_carry_111))))))
noncomputable def DX11_carry : Fr → St → Option (Int32 × St) := M1 (fun f => (sI (sI (sI (sI (sR fr0 0 (gR f 0)) 1 (gI f 1)) 2 (gI f 2)) 3 (gI f 3)) 4 (gI f 4))) BX11_carry
theorem kX11_carry : SND yX11_carry cX11_carry 5 (some .int) 8 [(0, 2), (1, 0), (2, 0), (3, 0), (4, 0)] cvoI DX11_carry := snd_I (nw := 5) (by decide) rfl rfl (fun _ _ => rfl) sBX11_carry
theorem dX11_rub_0 : decode cX11_rub 0 = .ok (.aload_n 0, 1) := by decide +kernel
theorem dX11_rub_1 : decode cX11_rub 1 = .ok (.getfield 26, 3) := by decide +kernel
theorem dX11_rub_4 : decode cX11_rub 4 = .ok (.iload_n 1, 1) := by decide +kernel
theorem dX11_rub_5 : decode cX11_rub 5 = .ok (.invokevirtual 140, 3) := by decide +kernel
theorem dX11_rub_8 : decode cX11_rub 8 = .ok (.ifCond .eq 15, 3) := by decide +kernel
theorem dX11_rub_11 : decode cX11_rub 11 = .ok (.aload_n 0, 1) := by decide +kernel
theorem dX11_rub_12 : decode cX11_rub 12 = .ok (.getfield 26, 3) := by decide +kernel
theorem dX11_rub_15 : decode cX11_rub 15 = .ok (.iload_n 1, 1) := by decide +kernel
theorem dX11_rub_16 : decode cX11_rub 16 = .ok (.iload_n 2, 1) := by decide +kernel
theorem dX11_rub_17 : decode cX11_rub 17 = .ok (.invokevirtual 143, 3) := by decide +kernel
theorem dX11_rub_20 : decode cX11_rub 20 = .ok (.ifCond .ne 6, 3) := by decide +kernel
theorem dX11_rub_23 : decode cX11_rub 23 = .ok (.bipush (-2), 2) := by decide +kernel
theorem dX11_rub_25 : decode cX11_rub 25 = .ok (.ireturn, 1) := by decide +kernel
theorem dX11_rub_26 : decode cX11_rub 26 = .ok (.aload_n 0, 1) := by decide +kernel
theorem dX11_rub_27 : decode cX11_rub 27 = .ok (.getfield 26, 3) := by decide +kernel
theorem dX11_rub_30 : decode cX11_rub 30 = .ok (.getfield 213, 3) := by decide +kernel
theorem dX11_rub_33 : decode cX11_rub 33 = .ok (.getfield 388, 3) := by decide +kernel
theorem dX11_rub_36 : decode cX11_rub 36 = .ok (.bipush 20, 2) := by decide +kernel
theorem dX11_rub_38 : decode cX11_rub 38 = .ok (.if_icmp .lt 6, 3) := by decide +kernel
theorem dX11_rub_41 : decode cX11_rub 41 = .ok (.bipush (-5), 2) := by decide +kernel
theorem dX11_rub_43 : decode cX11_rub 43 = .ok (.ireturn, 1) := by decide +kernel
theorem dX11_rub_44 : decode cX11_rub 44 = .ok (.aload_n 0, 1) := by decide +kernel
theorem dX11_rub_45 : decode cX11_rub 45 = .ok (.getfield 26, 3) := by decide +kernel
theorem dX11_rub_48 : decode cX11_rub 48 = .ok (.iload_n 1, 1) := by decide +kernel
theorem dX11_rub_49 : decode cX11_rub 49 = .ok (.invokevirtual 397, 3) := by decide +kernel
theorem dX11_rub_52 : decode cX11_rub 52 = .ok (.iload_n 2, 1) := by decide +kernel
theorem dX11_rub_53 : decode cX11_rub 53 = .ok (.invokestatic 286, 3) := by decide +kernel
theorem dX11_rub_56 : decode cX11_rub 56 = .ok (.istore_n 3, 1) := by decide +kernel
theorem dX11_rub_57 : decode cX11_rub 57 = .ok (.aload_n 0, 1) := by decide +kernel
theorem dX11_rub_58 : decode cX11_rub 58 = .ok (.getfield 26, 3) := by decide +kernel
theorem dX11_rub_61 : decode cX11_rub 61 = .ok (.getfield 213, 3) := by decide +kernel
theorem dX11_rub_64 : decode cX11_rub 64 = .ok (.iload_n 1, 1) := by decide +kernel
theorem dX11_rub_65 : decode cX11_rub 65 = .ok (.iload_n 2, 1) := by decide +kernel
theorem dX11_rub_66 : decode cX11_rub 66 = .ok (.invokevirtual 393, 3) := by decide +kernel
theorem dX11_rub_69 : decode cX11_rub 69 = .ok (.aload_n 0, 1) := by decide +kernel
theorem dX11_rub_70 : decode cX11_rub 70 = .ok (.invokevirtual 105, 3) := by decide +kernel
theorem dX11_rub_73 : decode cX11_rub 73 = .ok (.iload_n 3, 1) := by decide +kernel
theorem dX11_rub_74 : decode cX11_rub 74 = .ok (.ifCond .eq 7, 3) := by decide +kernel
theorem dX11_rub_77 : decode cX11_rub 77 = .ok (.iconst 1, 1) := by decide +kernel
theorem dX11_rub_78 : decode cX11_rub 78 = .ok (.goto 4, 3) := by decide +kernel
theorem dX11_rub_81 : decode cX11_rub 81 = .ok (.iconst 0, 1) := by decide +kernel
theorem dX11_rub_82 : decode cX11_rub 82 = .ok (.ireturn, 1) := by decide +kernel
theorem mokX11_rub : MOK yX11_rub cX11_rub 4 (some .int) 2 := ⟨w6_103, w1_1, ⟨by decide, by decide⟩, by decide +kernel, by decide⟩
abbrev miX11_rub : MI := (yX11_rub.cls, cX11_rub, 4, 4, false)
noncomputable def BX11_rub : Sm Int32 := (dSeq (dIf (dOr (dNot (dCZ q_ne (dCallV 5 DX5_isSlate (aI (aR aN 0 (dGR 11 2 (vR 0))) 1 (vI 1))))) (dNot (dCZ q_ne (dCallV 5 DX5_isWord (aI (aI (aR aN 0 (dGR 11 2 (vR 0))) 1 (vI 1)) 2 (vI 2)))))) (dRet (cI (-2))) dSkip) (dSeq (dIf (dCI r_ge (dGI 1 2 (dGR 5 16 (dGR 11 2 (vR 0)))) (cI 20)) (dRet (cI (-5))) dSkip) (dSeq (dSetI 3 (dCall DX11_hasBit (aI (aI aN 0 (dCallV 5 DX5_leftAtFirst (aI (aR aN 0 (dGR 11 2 (vR 0))) 1 (vI 1)))) 1 (vI 2)))) (dSeq (dDo (dCallV 1 DX1_addAct (aI (aI (aR aN 0 (dGR 5 16 (dGR 11 2 (vR 0)))) 1 (vI 1)) 2 (vI 2)))) (dSeq (dDo (dCallV 11 DX11_makeStale (aR aN 0 (vR 0)))) (dRet (dT (dCZ q_ne (vI 3)) (cI 1) (cI 0))))))))
theorem sBX11_rub : SS (cvoI, .ireturn) miX11_rub [] [] [] [(0, 2), (1, 0), (2, 0)] [(0, 2), (1, 0), (2, 0)] 0 [] BX11_rub := (t_sq (p1 := 26) (Γ' := [(0, 2), (1, 0), (2, 0)]) (t_if (pT := 23) (pF := 26) (X := [26]) (XA := []) (XB := [26]) (c_or (p1 := 11) (pT := 23) (pF := 26) (c_not (pT := 23) (pF := 11) (c_ne_ZF (pF := 23) (s_of_xI (x_callV (ts := [(0, 2), (1, 0)]) ck5 rfl kX5_isSlate mokX5_isSlate w4_7 w4_8 rfl rfl rfl rfl (a_I (ts := [(0, 2)]) 1 (a_R (ts := []) 0 a_nil (s_getR ck11 2 (by decide) rfl (s_aload_n dX11_rub_0 rfl rfl) dX11_rub_1 w2_220) rfl) (s_iload_n dX11_rub_4 rfl rfl) rfl) dX11_rub_5 w4_6)) dX11_rub_8 rfl)) (c_not (pT := 23) (pF := 26) (c_ne_ZJ (pT := 26) (s_of_xI (x_callV (ts := [(0, 2), (1, 0), (2, 0)]) ck5 rfl kX5_isWord mokX5_isWord w4_11 w4_12 rfl rfl rfl rfl (a_I (ts := [(0, 2), (1, 0)]) 2 (a_I (ts := [(0, 2)]) 1 (a_R (ts := []) 0 a_nil (s_getR ck11 2 (by decide) rfl (s_aload_n dX11_rub_11 rfl rfl) dX11_rub_12 w2_220) rfl) (s_iload_n dX11_rub_15 rfl rfl) rfl) (s_iload_n dX11_rub_16 rfl rfl) rfl) dX11_rub_17 w4_10)) dX11_rub_20 rfl))) (t_ret (cv := cvI) (fun _ _ => rfl) (s_bipush dX11_rub_23 rfl) dX11_rub_25) (t_skip (ld_in rfl) rfl) lda_nil (lda_cons (ld_in rfl) lda_nil)) (t_sq (p1 := 44) (Γ' := [(0, 2), (1, 0), (2, 0)]) (t_if (pT := 41) (pF := 44) (X := [44]) (XA := []) (XB := [44]) (c_ge_F (pF := 44) (s_getI ck1 2 (by decide) rfl (s_getR ck5 16 (by decide) rfl (s_getR ck11 2 (by decide) rfl (s_aload_n dX11_rub_26 rfl rfl) dX11_rub_27 w2_220) dX11_rub_30 w1_200) dX11_rub_33 w1_96) (s_bipush dX11_rub_36 rfl) dX11_rub_38 rfl) (t_ret (cv := cvI) (fun _ _ => rfl) (s_bipush dX11_rub_41 rfl) dX11_rub_43) (t_skip (ld_in rfl) rfl) lda_nil (lda_cons (ld_in rfl) lda_nil)) (t_sq (p1 := 57) (Γ' := [(0, 2), (1, 0), (2, 0), (3, 0)]) (t_istore_n (s_of_xI (x_call (ts := [(0, 0), (1, 0)]) kX11_hasBit mokX11_hasBit w4_37 rfl rfl rfl (a_I (ts := [(0, 0)]) 1 (a_I (ts := []) 0 a_nil (s_of_xI (x_callV (ts := [(0, 2), (1, 0)]) ck5 rfl kX5_leftAtFirst mokX5_leftAtFirst w4_99 w4_100 rfl rfl rfl rfl (a_I (ts := [(0, 2)]) 1 (a_R (ts := []) 0 a_nil (s_getR ck11 2 (by decide) rfl (s_aload_n dX11_rub_44 rfl rfl) dX11_rub_45 w2_220) rfl) (s_iload_n dX11_rub_48 rfl rfl) rfl) dX11_rub_49 w6_104)) rfl) (s_iload_n dX11_rub_52 rfl rfl) rfl) dX11_rub_53 w5_148)) dX11_rub_56 rfl rfl rfl) (t_sq (p1 := 69) (Γ' := [(0, 2), (1, 0), (2, 0), (3, 0)]) (t_do (x_callV (ts := [(0, 2), (1, 0), (2, 0)]) ck1 rfl kX1_addAct mokX1_addAct w6_97 w6_98 rfl rfl rfl rfl (a_I (ts := [(0, 2), (1, 0)]) 2 (a_I (ts := [(0, 2)]) 1 (a_R (ts := []) 0 a_nil (s_getR ck5 16 (by decide) rfl (s_getR ck11 2 (by decide) rfl (s_aload_n dX11_rub_57 rfl rfl) dX11_rub_58 w2_220) dX11_rub_61 w1_200) rfl) (s_iload_n dX11_rub_64 rfl rfl) rfl) (s_iload_n dX11_rub_65 rfl rfl) rfl) dX11_rub_66 w6_96) rfl) (t_sq (p1 := 73) (Γ' := [(0, 2), (1, 0), (2, 0), (3, 0)]) (t_do (x_callV (ts := [(0, 2)]) ck11 rfl kX11_makeStale mokX11_makeStale w3_210 ps1_14 rfl rfl rfl rfl (a_R (ts := []) 0 a_nil (s_aload_n dX11_rub_69 rfl rfl) rfl) dX11_rub_70 w3_208) rfl) (t_ret (cv := cvI) (fun _ _ => rfl) (s_T (pT := 77) (pF := 81) (p1 := 78) (pe := 82) (c_ne_ZF (pF := 81) (s_iload_n dX11_rub_73 rfl rfl) dX11_rub_74 rfl) (s_iconst dX11_rub_77 rfl) (s_iconst dX11_rub_81 rfl) (ld_goto (y := 82) dX11_rub_78 rfl (ld_in rfl))) dX11_rub_82))))))
noncomputable def DX11_rub : Fr → St → Option (Int32 × St) := M1 (fun f => (sI (sI (sR fr0 0 (gR f 0)) 1 (gI f 1)) 2 (gI f 2))) BX11_rub
theorem kX11_rub : SND yX11_rub cX11_rub 4 (some .int) 4 [(0, 2), (1, 0), (2, 0)] cvoI DX11_rub := snd_I (nw := 3) (by decide) rfl rfl (fun _ _ => rfl) sBX11_rub
theorem dX1_takeBack_0 : decode cX1_takeBack 0 = .ok (.aload_n 0, 1) := by decide +kernel
theorem dX1_takeBack_1 : decode cX1_takeBack 1 = .ok (.getfield 37, 3) := by decide +kernel
theorem dX1_takeBack_4 : decode cX1_takeBack 4 = .ok (.ifCond .gt 4, 3) := by decide +kernel
theorem dX1_takeBack_7 : decode cX1_takeBack 7 = .ok (.return_, 1) := by decide +kernel
theorem dX1_takeBack_8 : decode cX1_takeBack 8 = .ok (.aload_n 0, 1) := by decide +kernel
theorem dX1_takeBack_9 : decode cX1_takeBack 9 = .ok (.dup, 1) := by decide +kernel
theorem dX1_takeBack_10 : decode cX1_takeBack 10 = .ok (.getfield 37, 3) := by decide +kernel
theorem dX1_takeBack_13 : decode cX1_takeBack 13 = .ok (.iconst 1, 1) := by decide +kernel
theorem dX1_takeBack_14 : decode cX1_takeBack 14 = .ok (.isub, 1) := by decide +kernel
theorem dX1_takeBack_15 : decode cX1_takeBack 15 = .ok (.putfield 37, 3) := by decide +kernel
theorem dX1_takeBack_18 : decode cX1_takeBack 18 = .ok (.aload_n 0, 1) := by decide +kernel
theorem dX1_takeBack_19 : decode cX1_takeBack 19 = .ok (.getfield 27, 3) := by decide +kernel
theorem dX1_takeBack_22 : decode cX1_takeBack 22 = .ok (.aload_n 0, 1) := by decide +kernel
theorem dX1_takeBack_23 : decode cX1_takeBack 23 = .ok (.getfield 37, 3) := by decide +kernel
theorem dX1_takeBack_26 : decode cX1_takeBack 26 = .ok (.invokestatic 50, 3) := by decide +kernel
theorem dX1_takeBack_29 : decode cX1_takeBack 29 = .ok (.iconst (-1), 1) := by decide +kernel
theorem dX1_takeBack_30 : decode cX1_takeBack 30 = .ok (.if_icmp .ne 24, 3) := by decide +kernel
theorem dX1_takeBack_33 : decode cX1_takeBack 33 = .ok (.aload_n 0, 1) := by decide +kernel
theorem dX1_takeBack_34 : decode cX1_takeBack 34 = .ok (.getfield 34, 3) := by decide +kernel
theorem dX1_takeBack_37 : decode cX1_takeBack 37 = .ok (.aload_n 0, 1) := by decide +kernel
theorem dX1_takeBack_38 : decode cX1_takeBack 38 = .ok (.getfield 30, 3) := by decide +kernel
theorem dX1_takeBack_41 : decode cX1_takeBack 41 = .ok (.if_icmp .le 13, 3) := by decide +kernel
theorem dX1_takeBack_44 : decode cX1_takeBack 44 = .ok (.aload_n 0, 1) := by decide +kernel
theorem dX1_takeBack_45 : decode cX1_takeBack 45 = .ok (.dup, 1) := by decide +kernel
theorem dX1_takeBack_46 : decode cX1_takeBack 46 = .ok (.getfield 34, 3) := by decide +kernel
theorem dX1_takeBack_49 : decode cX1_takeBack 49 = .ok (.iconst 1, 1) := by decide +kernel
theorem dX1_takeBack_50 : decode cX1_takeBack 50 = .ok (.isub, 1) := by decide +kernel
theorem dX1_takeBack_51 : decode cX1_takeBack 51 = .ok (.putfield 34, 3) := by decide +kernel
theorem dX1_takeBack_54 : decode cX1_takeBack 54 = .ok (.return_, 1) := by decide +kernel
theorem mokX1_takeBack : MOK yX1_takeBack cX1_takeBack 1 none 0 := ⟨w6_112, w1_5, ⟨by decide, by decide⟩, by decide +kernel, by decide⟩
abbrev miX1_takeBack : MI := (yX1_takeBack.cls, cX1_takeBack, 1, 2, false)
noncomputable def BX1_takeBack : Sm Unit := (dSeq (dIf (dCZ q_le (dGI 1 2 (vR 0))) dRet0 dSkip) (dSeq (dUF 1 2 o_isub (vR 0) (cI 1)) (dSeq (dIf (dAnd (dCI r_eq (dCall DX11_cell (aI (aR aN 0 (dGR 1 8 (vR 0))) 1 (dGI 1 2 (vR 0)))) (cI (-1))) (dCI r_gt (dGI 1 1 (vR 0)) (dGI 1 0 (vR 0)))) (dUF 1 1 o_isub (vR 0) (cI 1)) dSkip) dRet0)))
theorem sBX1_takeBack : SS (cvoV, .return_) miX1_takeBack [] [] [] [(0, 2)] [(0, 2)] 0 [] BX1_takeBack := (t_sq (p1 := 8) (Γ' := [(0, 2)]) (t_if (pT := 7) (pF := 8) (X := [8]) (XA := []) (XB := [8]) (c_le_ZF (pF := 8) (s_getI ck1 2 (by decide) rfl (s_aload_n dX1_takeBack_0 rfl rfl) dX1_takeBack_1 w1_95) dX1_takeBack_4 rfl) (t_ret0 (fun _ _ => rfl) dX1_takeBack_7) (t_skip (ld_in rfl) rfl) lda_nil (lda_cons (ld_in rfl) lda_nil)) (t_sq (p1 := 18) (Γ' := [(0, 2)]) (t_UF ck1 2 (by decide) rfl (Or.inl rfl) (s_aload_n dX1_takeBack_8 rfl rfl) dX1_takeBack_9 dX1_takeBack_10 w1_95 (s_iconst dX1_takeBack_13 rfl) (fun _ _ _ _ => rulI fun a b K => lv_isub a b dX1_takeBack_14 K) dX1_takeBack_15 w1_95 rfl) (t_sq (p1 := 54) (Γ' := [(0, 2)]) (t_if (pT := 44) (pF := 54) (X := [54]) (XA := [54]) (XB := [54]) (c_and (p1 := 33) (pT := 44) (pF := 54) (c_eq_F (pF := 54) (s_of_xI (x_callN (ts := [(0, 2), (1, 0)]) kX11_cell mokX11_cell w3_229 rfl rfl rfl (a_I (ts := [(0, 2)]) 1 (a_R (ts := []) 0 a_nil (s_getR ck1 8 (by decide) rfl (s_aload_n dX1_takeBack_18 rfl rfl) dX1_takeBack_19 w1_109) rfl) (s_getI ck1 2 (by decide) rfl (s_aload_n dX1_takeBack_22 rfl rfl) dX1_takeBack_23 w1_95) rfl) dX1_takeBack_26 nb19)) (s_iconst dX1_takeBack_29 rfl) dX1_takeBack_30 rfl) (c_gt_F (pF := 54) (s_getI ck1 1 (by decide) rfl (s_aload_n dX1_takeBack_33 rfl rfl) dX1_takeBack_34 w1_90) (s_getI ck1 0 (by decide) rfl (s_aload_n dX1_takeBack_37 rfl rfl) dX1_takeBack_38 w1_87) dX1_takeBack_41 rfl)) (t_UF ck1 1 (by decide) rfl (Or.inl rfl) (s_aload_n dX1_takeBack_44 rfl rfl) dX1_takeBack_45 dX1_takeBack_46 w1_90 (s_iconst dX1_takeBack_49 rfl) (fun _ _ _ _ => rulI fun a b K => lv_isub a b dX1_takeBack_50 K) dX1_takeBack_51 w1_90 rfl) (t_skip (ld_in rfl) rfl) (lda_cons (ld_in rfl) lda_nil) (lda_cons (ld_in rfl) lda_nil)) (t_ret0 (fun _ _ => rfl) dX1_takeBack_54))))
noncomputable def DX1_takeBack : Fr → St → Option (Unit × St) := M1 (fun f => (sR fr0 0 (gR f 0))) BX1_takeBack
theorem kX1_takeBack : SND yX1_takeBack cX1_takeBack 1 none 2 [(0, 2)] cvoV DX1_takeBack := snd_V (nw := 1) (by decide) (fun z => by cases z) rfl rfl (fun _ _ => rfl) sBX1_takeBack
theorem dX11_undo_0 : decode cX11_undo 0 = .ok (.aload_n 0, 1) := by decide +kernel
theorem dX11_undo_1 : decode cX11_undo 1 = .ok (.getfield 26, 3) := by decide +kernel
theorem dX11_undo_4 : decode cX11_undo 4 = .ok (.invokevirtual 209, 3) := by decide +kernel
theorem dX11_undo_7 : decode cX11_undo 7 = .ok (.ifCond .ne 6, 3) := by decide +kernel
theorem dX11_undo_10 : decode cX11_undo 10 = .ok (.bipush (-2), 2) := by decide +kernel
theorem dX11_undo_12 : decode cX11_undo 12 = .ok (.ireturn, 1) := by decide +kernel
theorem dX11_undo_13 : decode cX11_undo 13 = .ok (.aload_n 0, 1) := by decide +kernel
theorem dX11_undo_14 : decode cX11_undo 14 = .ok (.getfield 26, 3) := by decide +kernel
theorem dX11_undo_17 : decode cX11_undo 17 = .ok (.getfield 213, 3) := by decide +kernel
theorem dX11_undo_20 : decode cX11_undo 20 = .ok (.getfield 388, 3) := by decide +kernel
theorem dX11_undo_23 : decode cX11_undo 23 = .ok (.ifCond .ne 6, 3) := by decide +kernel
theorem dX11_undo_26 : decode cX11_undo 26 = .ok (.bipush (-5), 2) := by decide +kernel
theorem dX11_undo_28 : decode cX11_undo 28 = .ok (.ireturn, 1) := by decide +kernel
theorem dX11_undo_29 : decode cX11_undo 29 = .ok (.aload_n 0, 1) := by decide +kernel
theorem dX11_undo_30 : decode cX11_undo 30 = .ok (.getfield 26, 3) := by decide +kernel
theorem dX11_undo_33 : decode cX11_undo 33 = .ok (.getfield 213, 3) := by decide +kernel
theorem dX11_undo_36 : decode cX11_undo 36 = .ok (.invokevirtual 400, 3) := by decide +kernel
theorem dX11_undo_39 : decode cX11_undo 39 = .ok (.aload_n 0, 1) := by decide +kernel
theorem dX11_undo_40 : decode cX11_undo 40 = .ok (.invokevirtual 105, 3) := by decide +kernel
theorem dX11_undo_43 : decode cX11_undo 43 = .ok (.aload_n 0, 1) := by decide +kernel
theorem dX11_undo_44 : decode cX11_undo 44 = .ok (.getfield 26, 3) := by decide +kernel
theorem dX11_undo_47 : decode cX11_undo 47 = .ok (.getfield 213, 3) := by decide +kernel
theorem dX11_undo_50 : decode cX11_undo 50 = .ok (.getfield 388, 3) := by decide +kernel
theorem dX11_undo_53 : decode cX11_undo 53 = .ok (.ireturn, 1) := by decide +kernel
theorem mokX11_undo : MOK yX11_undo cX11_undo 1 (some .int) 0 := ⟨w6_108, w1_1, ⟨by decide, by decide⟩, by decide +kernel, by decide⟩
abbrev miX11_undo : MI := (yX11_undo.cls, cX11_undo, 1, 3, false)
noncomputable def BX11_undo : Sm Int32 := (dSeq (dIf (dNot (dCZ q_ne (dCallV 5 DX5_isTold (aR aN 0 (dGR 11 2 (vR 0)))))) (dRet (cI (-2))) dSkip) (dSeq (dIf (dCZ q_eq (dGI 1 2 (dGR 5 16 (dGR 11 2 (vR 0))))) (dRet (cI (-5))) dSkip) (dSeq (dDo (dCallV 1 DX1_takeBack (aR aN 0 (dGR 5 16 (dGR 11 2 (vR 0)))))) (dSeq (dDo (dCallV 11 DX11_makeStale (aR aN 0 (vR 0)))) (dRet (dGI 1 2 (dGR 5 16 (dGR 11 2 (vR 0)))))))))
theorem sBX11_undo : SS (cvoI, .ireturn) miX11_undo [] [] [] [(0, 2)] [(0, 2)] 0 [] BX11_undo := (t_sq (p1 := 13) (Γ' := [(0, 2)]) (t_if (pT := 10) (pF := 13) (X := [13]) (XA := []) (XB := [13]) (c_not (pT := 10) (pF := 13) (c_ne_ZJ (pT := 13) (s_of_xI (x_callV (ts := [(0, 2)]) ck5 rfl kX5_isTold mokX5_isTold w4_76 w4_77 rfl rfl rfl rfl (a_R (ts := []) 0 a_nil (s_getR ck11 2 (by decide) rfl (s_aload_n dX11_undo_0 rfl rfl) dX11_undo_1 w2_220) rfl) dX11_undo_4 w4_217)) dX11_undo_7 rfl)) (t_ret (cv := cvI) (fun _ _ => rfl) (s_bipush dX11_undo_10 rfl) dX11_undo_12) (t_skip (ld_in rfl) rfl) lda_nil (lda_cons (ld_in rfl) lda_nil)) (t_sq (p1 := 29) (Γ' := [(0, 2)]) (t_if (pT := 26) (pF := 29) (X := [29]) (XA := []) (XB := [29]) (c_eq_ZF (pF := 29) (s_getI ck1 2 (by decide) rfl (s_getR ck5 16 (by decide) rfl (s_getR ck11 2 (by decide) rfl (s_aload_n dX11_undo_13 rfl rfl) dX11_undo_14 w2_220) dX11_undo_17 w1_200) dX11_undo_20 w1_96) dX11_undo_23 rfl) (t_ret (cv := cvI) (fun _ _ => rfl) (s_bipush dX11_undo_26 rfl) dX11_undo_28) (t_skip (ld_in rfl) rfl) lda_nil (lda_cons (ld_in rfl) lda_nil)) (t_sq (p1 := 39) (Γ' := [(0, 2)]) (t_do (x_callV (ts := [(0, 2)]) ck1 rfl kX1_takeBack mokX1_takeBack w6_110 w6_111 rfl rfl rfl rfl (a_R (ts := []) 0 a_nil (s_getR ck5 16 (by decide) rfl (s_getR ck11 2 (by decide) rfl (s_aload_n dX11_undo_29 rfl rfl) dX11_undo_30 w2_220) dX11_undo_33 w1_200) rfl) dX11_undo_36 w6_109) rfl) (t_sq (p1 := 43) (Γ' := [(0, 2)]) (t_do (x_callV (ts := [(0, 2)]) ck11 rfl kX11_makeStale mokX11_makeStale w3_210 ps1_14 rfl rfl rfl rfl (a_R (ts := []) 0 a_nil (s_aload_n dX11_undo_39 rfl rfl) rfl) dX11_undo_40 w3_208) rfl) (t_ret (cv := cvI) (fun _ _ => rfl) (s_getI ck1 2 (by decide) rfl (s_getR ck5 16 (by decide) rfl (s_getR ck11 2 (by decide) rfl (s_aload_n dX11_undo_43 rfl rfl) dX11_undo_44 w2_220) dX11_undo_47 w1_200) dX11_undo_50 w1_96) dX11_undo_53)))))
noncomputable def DX11_undo : Fr → St → Option (Int32 × St) := M1 (fun f => (sR fr0 0 (gR f 0))) BX11_undo
theorem kX11_undo : SND yX11_undo cX11_undo 1 (some .int) 3 [(0, 2)] cvoI DX11_undo := snd_I (nw := 1) (by decide) rfl rfl (fun _ _ => rfl) sBX11_undo
theorem dX11_anew_0 : decode cX11_anew 0 = .ok (.aload_n 0, 1) := by decide +kernel
theorem dX11_anew_1 : decode cX11_anew 1 = .ok (.getfield 26, 3) := by decide +kernel
theorem dX11_anew_4 : decode cX11_anew 4 = .ok (.invokevirtual 209, 3) := by decide +kernel
theorem dX11_anew_7 : decode cX11_anew 7 = .ok (.ifCond .ne 6, 3) := by decide +kernel
theorem dX11_anew_10 : decode cX11_anew 10 = .ok (.bipush (-2), 2) := by decide +kernel
theorem dX11_anew_12 : decode cX11_anew 12 = .ok (.ireturn, 1) := by decide +kernel
theorem dX11_anew_13 : decode cX11_anew 13 = .ok (.aload_n 0, 1) := by decide +kernel
theorem dX11_anew_14 : decode cX11_anew 14 = .ok (.getfield 26, 3) := by decide +kernel
theorem dX11_anew_17 : decode cX11_anew 17 = .ok (.getfield 213, 3) := by decide +kernel
theorem dX11_anew_20 : decode cX11_anew 20 = .ok (.getfield 388, 3) := by decide +kernel
theorem dX11_anew_23 : decode cX11_anew 23 = .ok (.istore_n 1, 1) := by decide +kernel
theorem dX11_anew_24 : decode cX11_anew 24 = .ok (.aload_n 0, 1) := by decide +kernel
theorem dX11_anew_25 : decode cX11_anew 25 = .ok (.getfield 26, 3) := by decide +kernel
theorem dX11_anew_28 : decode cX11_anew 28 = .ok (.getfield 213, 3) := by decide +kernel
theorem dX11_anew_31 : decode cX11_anew 31 = .ok (.iconst 0, 1) := by decide +kernel
theorem dX11_anew_32 : decode cX11_anew 32 = .ok (.putfield 388, 3) := by decide +kernel
theorem dX11_anew_35 : decode cX11_anew 35 = .ok (.aload_n 0, 1) := by decide +kernel
theorem dX11_anew_36 : decode cX11_anew 36 = .ok (.getfield 26, 3) := by decide +kernel
theorem dX11_anew_39 : decode cX11_anew 39 = .ok (.getfield 213, 3) := by decide +kernel
theorem dX11_anew_42 : decode cX11_anew 42 = .ok (.aload_n 0, 1) := by decide +kernel
theorem dX11_anew_43 : decode cX11_anew 43 = .ok (.getfield 26, 3) := by decide +kernel
theorem dX11_anew_46 : decode cX11_anew 46 = .ok (.getfield 213, 3) := by decide +kernel
theorem dX11_anew_49 : decode cX11_anew 49 = .ok (.getfield 403, 3) := by decide +kernel
theorem dX11_anew_52 : decode cX11_anew 52 = .ok (.putfield 217, 3) := by decide +kernel
theorem dX11_anew_55 : decode cX11_anew 55 = .ok (.aload_n 0, 1) := by decide +kernel
theorem dX11_anew_56 : decode cX11_anew 56 = .ok (.invokevirtual 105, 3) := by decide +kernel
theorem dX11_anew_59 : decode cX11_anew 59 = .ok (.iload_n 1, 1) := by decide +kernel
theorem dX11_anew_60 : decode cX11_anew 60 = .ok (.ireturn, 1) := by decide +kernel
theorem mokX11_anew : MOK yX11_anew cX11_anew 2 (some .int) 0 := ⟨w6_116, w1_1, ⟨by decide, by decide⟩, by decide +kernel, by decide⟩
abbrev miX11_anew : MI := (yX11_anew.cls, cX11_anew, 2, 3, false)
noncomputable def BX11_anew : Sm Int32 := (dSeq (dIf (dNot (dCZ q_ne (dCallV 5 DX5_isTold (aR aN 0 (dGR 11 2 (vR 0)))))) (dRet (cI (-2))) dSkip) (dSeq (dSetI 1 (dGI 1 2 (dGR 5 16 (dGR 11 2 (vR 0))))) (dSeq (dP (fI 1 2) (dGR 5 16 (dGR 11 2 (vR 0))) (cI 0)) (dSeq (dP (fI 1 1) (dGR 5 16 (dGR 11 2 (vR 0))) (dGI 1 0 (dGR 5 16 (dGR 11 2 (vR 0))))) (dSeq (dDo (dCallV 11 DX11_makeStale (aR aN 0 (vR 0)))) (dRet (vI 1)))))))
theorem sBX11_anew : SS (cvoI, .ireturn) miX11_anew [] [] [] [(0, 2)] [(0, 2)] 0 [] BX11_anew := (t_sq (p1 := 13) (Γ' := [(0, 2)]) (t_if (pT := 10) (pF := 13) (X := [13]) (XA := []) (XB := [13]) (c_not (pT := 10) (pF := 13) (c_ne_ZJ (pT := 13) (s_of_xI (x_callV (ts := [(0, 2)]) ck5 rfl kX5_isTold mokX5_isTold w4_76 w4_77 rfl rfl rfl rfl (a_R (ts := []) 0 a_nil (s_getR ck11 2 (by decide) rfl (s_aload_n dX11_anew_0 rfl rfl) dX11_anew_1 w2_220) rfl) dX11_anew_4 w4_217)) dX11_anew_7 rfl)) (t_ret (cv := cvI) (fun _ _ => rfl) (s_bipush dX11_anew_10 rfl) dX11_anew_12) (t_skip (ld_in rfl) rfl) lda_nil (lda_cons (ld_in rfl) lda_nil)) (t_sq (p1 := 24) (Γ' := [(0, 2), (1, 0)]) (t_istore_n (s_getI ck1 2 (by decide) rfl (s_getR ck5 16 (by decide) rfl (s_getR ck11 2 (by decide) rfl (s_aload_n dX11_anew_13 rfl rfl) dX11_anew_14 w2_220) dX11_anew_17 w1_200) dX11_anew_20 w1_96) dX11_anew_23 rfl rfl rfl) (t_sq (p1 := 35) (Γ' := [(0, 2), (1, 0)]) (t_pI ck1 2 (by decide) rfl (Or.inl rfl) (s_getR ck5 16 (by decide) rfl (s_getR ck11 2 (by decide) rfl (s_aload_n dX11_anew_24 rfl rfl) dX11_anew_25 w2_220) dX11_anew_28 w1_200) (s_iconst dX11_anew_31 rfl) dX11_anew_32 w1_96 rfl) (t_sq (p1 := 55) (Γ' := [(0, 2), (1, 0)]) (t_pI ck1 1 (by decide) rfl (Or.inl rfl) (s_getR ck5 16 (by decide) rfl (s_getR ck11 2 (by decide) rfl (s_aload_n dX11_anew_35 rfl rfl) dX11_anew_36 w2_220) dX11_anew_39 w1_200) (s_getI ck1 0 (by decide) rfl (s_getR ck5 16 (by decide) rfl (s_getR ck11 2 (by decide) rfl (s_aload_n dX11_anew_42 rfl rfl) dX11_anew_43 w2_220) dX11_anew_46 w1_200) dX11_anew_49 w1_89) dX11_anew_52 w1_94 rfl) (t_sq (p1 := 59) (Γ' := [(0, 2), (1, 0)]) (t_do (x_callV (ts := [(0, 2)]) ck11 rfl kX11_makeStale mokX11_makeStale w3_210 ps1_14 rfl rfl rfl rfl (a_R (ts := []) 0 a_nil (s_aload_n dX11_anew_55 rfl rfl) rfl) dX11_anew_56 w3_208) rfl) (t_ret (cv := cvI) (fun _ _ => rfl) (s_iload_n dX11_anew_59 rfl rfl) dX11_anew_60))))))
noncomputable def DX11_anew : Fr → St → Option (Int32 × St) := M1 (fun f => (sR fr0 0 (gR f 0))) BX11_anew
theorem kX11_anew : SND yX11_anew cX11_anew 2 (some .int) 3 [(0, 2)] cvoI DX11_anew := snd_I (nw := 1) (by decide) rfl rfl (fun _ _ => rfl) sBX11_anew
theorem dX10_rainDrawn_0 : decode cX10_rainDrawn 0 = .ok (.iconst 0, 1) := by decide +kernel
theorem dX10_rainDrawn_1 : decode cX10_rainDrawn 1 = .ok (.istore 4, 2) := by decide +kernel
theorem dX10_rainDrawn_3 : decode cX10_rainDrawn 3 = .ok (.lload_n 2, 1) := by decide +kernel
theorem dX10_rainDrawn_4 : decode cX10_rainDrawn 4 = .ok (.lstore 5, 2) := by decide +kernel
theorem dX10_rainDrawn_6 : decode cX10_rainDrawn 6 = .ok (.iconst 0, 1) := by decide +kernel
theorem dX10_rainDrawn_7 : decode cX10_rainDrawn 7 = .ok (.istore 7, 2) := by decide +kernel
theorem dX10_rainDrawn_9 : decode cX10_rainDrawn 9 = .ok (.iload 7, 2) := by decide +kernel
theorem dX10_rainDrawn_11 : decode cX10_rainDrawn 11 = .ok (.aload_n 1, 1) := by decide +kernel
theorem dX10_rainDrawn_12 : decode cX10_rainDrawn 12 = .ok (.getfield 74, 3) := by decide +kernel
theorem dX10_rainDrawn_15 : decode cX10_rainDrawn 15 = .ok (.if_icmp .ge 53, 3) := by decide +kernel
theorem dX10_rainDrawn_18 : decode cX10_rainDrawn 18 = .ok (.ldc2_w 77, 3) := by decide +kernel
theorem dX10_rainDrawn_21 : decode cX10_rainDrawn 21 = .ok (.lload 5, 2) := by decide +kernel
theorem dX10_rainDrawn_23 : decode cX10_rainDrawn 23 = .ok (.lmul, 1) := by decide +kernel
theorem dX10_rainDrawn_24 : decode cX10_rainDrawn 24 = .ok (.ldc2_w 79, 3) := by decide +kernel
theorem dX10_rainDrawn_27 : decode cX10_rainDrawn 27 = .ok (.ladd, 1) := by decide +kernel
theorem dX10_rainDrawn_28 : decode cX10_rainDrawn 28 = .ok (.ldc2_w 81, 3) := by decide +kernel
theorem dX10_rainDrawn_31 : decode cX10_rainDrawn 31 = .ok (.lrem, 1) := by decide +kernel
theorem dX10_rainDrawn_32 : decode cX10_rainDrawn 32 = .ok (.lstore 5, 2) := by decide +kernel
theorem dX10_rainDrawn_34 : decode cX10_rainDrawn 34 = .ok (.lload 5, 2) := by decide +kernel
theorem dX10_rainDrawn_36 : decode cX10_rainDrawn 36 = .ok (.ldc2_w 83, 3) := by decide +kernel
theorem dX10_rainDrawn_39 : decode cX10_rainDrawn 39 = .ok (.ldiv, 1) := by decide +kernel
theorem dX10_rainDrawn_40 : decode cX10_rainDrawn 40 = .ok (.ldc2_w 85, 3) := by decide +kernel
theorem dX10_rainDrawn_43 : decode cX10_rainDrawn 43 = .ok (.lrem, 1) := by decide +kernel
theorem dX10_rainDrawn_44 : decode cX10_rainDrawn 44 = .ok (.aload_n 1, 1) := by decide +kernel
theorem dX10_rainDrawn_45 : decode cX10_rainDrawn 45 = .ok (.getfield 54, 3) := by decide +kernel
theorem dX10_rainDrawn_48 : decode cX10_rainDrawn 48 = .ok (.i2l, 1) := by decide +kernel
theorem dX10_rainDrawn_49 : decode cX10_rainDrawn 49 = .ok (.lcmp, 1) := by decide +kernel
theorem dX10_rainDrawn_50 : decode cX10_rainDrawn 50 = .ok (.ifCond .ge 12, 3) := by decide +kernel
theorem dX10_rainDrawn_53 : decode cX10_rainDrawn 53 = .ok (.iload 4, 2) := by decide +kernel
theorem dX10_rainDrawn_55 : decode cX10_rainDrawn 55 = .ok (.iconst 1, 1) := by decide +kernel
theorem dX10_rainDrawn_56 : decode cX10_rainDrawn 56 = .ok (.iload 7, 2) := by decide +kernel
theorem dX10_rainDrawn_58 : decode cX10_rainDrawn 58 = .ok (.ishl, 1) := by decide +kernel
theorem dX10_rainDrawn_59 : decode cX10_rainDrawn 59 = .ok (.ior, 1) := by decide +kernel
theorem dX10_rainDrawn_60 : decode cX10_rainDrawn 60 = .ok (.istore 4, 2) := by decide +kernel
theorem dX10_rainDrawn_62 : decode cX10_rainDrawn 62 = .ok (.iinc 7 1, 3) := by decide +kernel
theorem dX10_rainDrawn_65 : decode cX10_rainDrawn 65 = .ok (.goto (-56), 3) := by decide +kernel
theorem dX10_rainDrawn_68 : decode cX10_rainDrawn 68 = .ok (.iload 4, 2) := by decide +kernel
theorem dX10_rainDrawn_70 : decode cX10_rainDrawn 70 = .ok (.ireturn, 1) := by decide +kernel
theorem mokX10_rainDrawn : MOK yX10_rainDrawn cX10_rainDrawn 8 (some .int) 2 := ⟨w6_128, w1_11, ⟨by decide, by decide⟩, by decide +kernel, by decide⟩
abbrev miX10_rainDrawn : MI := (yX10_rainDrawn.cls, cX10_rainDrawn, 8, 1, false)
noncomputable def LX10_rainDrawn_1 : Sm Int32 := dLoop (fun f => (sI (sL (sI (sL (sR (sR fr0 0 (gR f 0)) 1 (gR f 1)) 2 (gL f 2)) 4 (gI f 4)) 5 (gL f 5)) 7 (gI f 7))) (dCI r_lt (vI 7) (dGI 5 1 (vR 1))) (dSeq (dSetL 5 (d2z o_lrem (d2 o_ladd (d2 o_lmul (cL 1103515245) (vL 5)) (cL 12345)) (cL 2147483648))) (dIf (dCZ q_lt (d2 o_lcmp (d2z o_lrem (d2z o_ldiv (vL 5) (cL 65536)) (cL 10)) (d1 o_i2l (dGI 5 3 (vR 1))))) (dSetI 4 (d2 o_ior (vI 4) (d2 o_ishl (cI 1) (vI 7)))) dSkip)) (dInc 7 1)
theorem sLX10_rainDrawn_1 {ΓL : Gm} {PB PK : List Nat} : SS (cvoI, .ireturn) miX10_rainDrawn ΓL PB PK [(0, 2), (1, 2), (2, 1), (4, 0), (5, 1), (7, 0)] [(0, 2), (1, 2), (2, 1), (4, 0), (5, 1), (7, 0)] 9 [68] LX10_rainDrawn_1 := t_loop (pT := 18) (pF := 68) (pu := 62) (PB' := []) (PK' := []) (XB := [62]) (XU := [65]) (fun _ _ => rfl) rfl (c_lt_F (pF := 68) (s_iload dX10_rainDrawn_9 rfl) (s_getI ck5 1 (by decide) rfl (s_aload_n dX10_rainDrawn_11 rfl rfl) dX10_rainDrawn_12 w1_138) dX10_rainDrawn_15 rfl) (t_sq (p1 := 34) (Γ' := [(0, 2), (1, 2), (2, 1), (4, 0), (5, 1), (7, 0)]) (t_lstore (s_lrem (s_ladd (s_lmul (s_ldc2 dX10_rainDrawn_18 w6_129) (s_lload dX10_rainDrawn_21 rfl) dX10_rainDrawn_23) (s_ldc2 dX10_rainDrawn_24 w6_130) dX10_rainDrawn_27) (s_ldc2 dX10_rainDrawn_28 w6_131) dX10_rainDrawn_31) dX10_rainDrawn_32 rfl rfl) (t_if (pT := 53) (pF := 62) (X := [62]) (XA := [62]) (XB := [62]) (c_lt_ZF (pF := 62) (s_lcmp (s_lrem (s_ldiv (s_lload dX10_rainDrawn_34 rfl) (s_ldc2 dX10_rainDrawn_36 w6_132) dX10_rainDrawn_39) (s_ldc2 dX10_rainDrawn_40 w6_133) dX10_rainDrawn_43) (s_i2l (s_getI ck5 3 (by decide) rfl (s_aload_n dX10_rainDrawn_44 rfl rfl) dX10_rainDrawn_45 w1_146) dX10_rainDrawn_48) dX10_rainDrawn_49) dX10_rainDrawn_50 rfl) (t_istore (s_ior (s_iload dX10_rainDrawn_53 rfl) (s_ishl (s_iconst dX10_rainDrawn_55 rfl) (s_iload dX10_rainDrawn_56 rfl) dX10_rainDrawn_58) dX10_rainDrawn_59) dX10_rainDrawn_60 rfl rfl) (t_skip (ld_in rfl) rfl) (lda_cons (ld_in rfl) lda_nil) (lda_cons (ld_in rfl) lda_nil))) (t_iinc dX10_rainDrawn_62 rfl rfl rfl rfl) (lda_cons (ld_in rfl) lda_nil) lda_nil (lda_cons (ld_goto (y := 9) dX10_rainDrawn_65 rfl (ld_in rfl)) lda_nil) (ld_in rfl) lda_nil
noncomputable def BX10_rainDrawn : Sm Int32 := (dSeq (dSetI 4 (cI 0)) (dSeq (dSetL 5 (vL 2)) (dSeq (dSeq (dSetI 7 (cI 0)) LX10_rainDrawn_1) (dRet (vI 4)))))
theorem sBX10_rainDrawn : SS (cvoI, .ireturn) miX10_rainDrawn [] [] [] [(0, 2), (1, 2), (2, 1)] [(0, 2), (1, 2), (2, 1)] 0 [] BX10_rainDrawn := (t_sq (p1 := 3) (Γ' := [(0, 2), (1, 2), (2, 1), (4, 0)]) (t_istore (s_iconst dX10_rainDrawn_0 rfl) dX10_rainDrawn_1 rfl rfl) (t_sq (p1 := 6) (Γ' := [(0, 2), (1, 2), (2, 1), (4, 0), (5, 1)]) (t_lstore (s_lload_n dX10_rainDrawn_3 rfl rfl) dX10_rainDrawn_4 rfl rfl) (t_sq (p1 := 68) (Γ' := [(0, 2), (1, 2), (2, 1), (4, 0), (5, 1)]) (t_sq (p1 := 9) (Γ' := [(0, 2), (1, 2), (2, 1), (4, 0), (5, 1), (7, 0)]) (t_istore (s_iconst dX10_rainDrawn_6 rfl) dX10_rainDrawn_7 rfl rfl) (tn_to (Γ' := [(0, 2), (1, 2), (2, 1), (4, 0), (5, 1), (7, 0)]) (XA := [68]) sLX10_rainDrawn_1 (lda_cons (ld_in rfl) lda_nil) rfl)) (t_ret (cv := cvI) (fun _ _ => rfl) (s_iload dX10_rainDrawn_68 rfl) dX10_rainDrawn_70))))
noncomputable def DX10_rainDrawn : Fr → St → Option (Int32 × St) := M1 (fun f => (sL (sR (sR fr0 0 (gR f 0)) 1 (gR f 1)) 2 (gL f 2))) BX10_rainDrawn
theorem kX10_rainDrawn : SND yX10_rainDrawn cX10_rainDrawn 8 (some .int) 1 [(0, 2), (1, 2), (2, 1)] cvoI DX10_rainDrawn := snd_I (nw := 4) (by decide) rfl rfl (fun _ _ => rfl) sBX10_rainDrawn
theorem dX11_isSeed_0 : decode cX11_isSeed 0 = .ok (.iload_n 0, 1) := by decide +kernel
theorem dX11_isSeed_1 : decode cX11_isSeed 1 = .ok (.ifCond .lt 14, 3) := by decide +kernel
theorem dX11_isSeed_4 : decode cX11_isSeed 4 = .ok (.iload_n 0, 1) := by decide +kernel
theorem dX11_isSeed_5 : decode cX11_isSeed 5 = .ok (.ldc_w 440, 3) := by decide +kernel
theorem dX11_isSeed_8 : decode cX11_isSeed 8 = .ok (.if_icmp .gt 7, 3) := by decide +kernel
theorem dX11_isSeed_11 : decode cX11_isSeed 11 = .ok (.iconst 1, 1) := by decide +kernel
theorem dX11_isSeed_12 : decode cX11_isSeed 12 = .ok (.goto 4, 3) := by decide +kernel
theorem dX11_isSeed_15 : decode cX11_isSeed 15 = .ok (.iconst 0, 1) := by decide +kernel
theorem dX11_isSeed_16 : decode cX11_isSeed 16 = .ok (.ireturn, 1) := by decide +kernel
theorem mokX11_isSeed : MOK yX11_isSeed cX11_isSeed 1 (some .boolean) 1 := ⟨w6_123, w1_1, ⟨by decide, by decide⟩, by decide +kernel, by decide⟩
abbrev miX11_isSeed : MI := (yX11_isSeed.cls, cX11_isSeed, 1, 1, false)
noncomputable def BX11_isSeed : Sm Int32 := (dRet (dB (dAnd (dCZ q_ge (vI 0)) (dCI r_le (vI 0) (cI 2000000000)))))
theorem sBX11_isSeed : SS (cvoI, .ireturn) miX11_isSeed [] [] [] [(0, 0)] [(0, 0)] 0 [] BX11_isSeed := (t_ret (cv := cvI) (fun _ _ => rfl) (s_B (pT := 11) (pF := 15) (pe := 16) (c_and (p1 := 4) (pT := 11) (pF := 15) (c_ge_ZF (pF := 15) (s_iload_n dX11_isSeed_0 rfl rfl) dX11_isSeed_1 rfl) (c_le_F (pF := 15) (s_iload_n dX11_isSeed_4 rfl rfl) (s_ldcw dX11_isSeed_5 w6_124) dX11_isSeed_8 rfl)) dX11_isSeed_11 dX11_isSeed_12 rfl dX11_isSeed_15 rfl) dX11_isSeed_16)
noncomputable def DX11_isSeed : Fr → St → Option (Int32 × St) := MZ (fun f => (sI fr0 0 (gI f 0))) BX11_isSeed
theorem kX11_isSeed : SND yX11_isSeed cX11_isSeed 1 (some .boolean) 1 [(0, 0)] cvoI DX11_isSeed := snd_Z (nw := 1) (by decide) rfl rfl (fun _ _ => rfl) sBX11_isSeed
theorem dX11_runInRain_0 : decode cX11_runInRain 0 = .ok (.aload_n 0, 1) := by decide +kernel
theorem dX11_runInRain_1 : decode cX11_runInRain 1 = .ok (.getfield 51, 3) := by decide +kernel
theorem dX11_runInRain_4 : decode cX11_runInRain 4 = .ok (.getfield 332, 3) := by decide +kernel
theorem dX11_runInRain_7 : decode cX11_runInRain 7 = .ok (.aload_n 0, 1) := by decide +kernel
theorem dX11_runInRain_8 : decode cX11_runInRain 8 = .ok (.getfield 26, 3) := by decide +kernel
theorem dX11_runInRain_11 : decode cX11_runInRain 11 = .ok (.invokevirtual 336, 3) := by decide +kernel
theorem dX11_runInRain_14 : decode cX11_runInRain 14 = .ok (.aload_n 0, 1) := by decide +kernel
theorem dX11_runInRain_15 : decode cX11_runInRain 15 = .ok (.getfield 51, 3) := by decide +kernel
theorem dX11_runInRain_18 : decode cX11_runInRain 18 = .ok (.getfield 332, 3) := by decide +kernel
theorem dX11_runInRain_21 : decode cX11_runInRain 21 = .ok (.iload_n 1, 1) := by decide +kernel
theorem dX11_runInRain_22 : decode cX11_runInRain 22 = .ok (.putfield 449, 3) := by decide +kernel
theorem dX11_runInRain_25 : decode cX11_runInRain 25 = .ok (.aload_n 0, 1) := by decide +kernel
theorem dX11_runInRain_26 : decode cX11_runInRain 26 = .ok (.getfield 51, 3) := by decide +kernel
theorem dX11_runInRain_29 : decode cX11_runInRain 29 = .ok (.getfield 332, 3) := by decide +kernel
theorem dX11_runInRain_32 : decode cX11_runInRain 32 = .ok (.aload_n 0, 1) := by decide +kernel
theorem dX11_runInRain_33 : decode cX11_runInRain 33 = .ok (.getfield 26, 3) := by decide +kernel
theorem dX11_runInRain_36 : decode cX11_runInRain 36 = .ok (.invokevirtual 452, 3) := by decide +kernel
theorem dX11_runInRain_39 : decode cX11_runInRain 39 = .ok (.return_, 1) := by decide +kernel
theorem mokX11_runInRain : MOK yX11_runInRain cX11_runInRain 2 none 1 := ⟨w6_137, w1_1, ⟨by decide, by decide⟩, by decide +kernel, by decide⟩
abbrev miX11_runInRain : MI := (yX11_runInRain.cls, cX11_runInRain, 2, 7, false)
noncomputable def BX11_runInRain : Sm Unit := (dSeq (dDo (dCallV 2 DX2_setAsTold (aR (aR aN 0 (dGR 3 1 (dGR 11 7 (vR 0)))) 1 (dGR 11 2 (vR 0))))) (dSeq (dP (fI 2 3) (dGR 3 1 (dGR 11 7 (vR 0))) (vI 1)) (dSeq (dDo (dCallV 2 DX2_runThrough (aR (aR aN 0 (dGR 3 1 (dGR 11 7 (vR 0)))) 1 (dGR 11 2 (vR 0))))) dRet0)))
theorem sBX11_runInRain : SS (cvoV, .return_) miX11_runInRain [] [] [] [(0, 2), (1, 0)] [(0, 2), (1, 0)] 0 [] BX11_runInRain := (t_sq (p1 := 14) (Γ' := [(0, 2), (1, 0)]) (t_do (x_callV (ts := [(0, 2), (1, 2)]) ck2 rfl kX2_setAsTold mokX2_setAsTold w4_84 w4_85 rfl rfl rfl rfl (a_R (ts := [(0, 2)]) 1 (a_R (ts := []) 0 a_nil (s_getR ck3 1 (by decide) rfl (s_getR ck11 7 (by decide) rfl (s_aload_n dX11_runInRain_0 rfl rfl) dX11_runInRain_1 w2_225) dX11_runInRain_4 w2_91) rfl) (s_getR ck11 2 (by decide) rfl (s_aload_n dX11_runInRain_7 rfl rfl) dX11_runInRain_8 w2_220) rfl) dX11_runInRain_11 w4_83) rfl) (t_sq (p1 := 25) (Γ' := [(0, 2), (1, 0)]) (t_pI ck2 3 (by decide) rfl (Or.inl rfl) (s_getR ck3 1 (by decide) rfl (s_getR ck11 7 (by decide) rfl (s_aload_n dX11_runInRain_14 rfl rfl) dX11_runInRain_15 w2_225) dX11_runInRain_18 w2_91) (s_iload_n dX11_runInRain_21 rfl rfl) dX11_runInRain_22 w2_34 rfl) (t_sq (p1 := 39) (Γ' := [(0, 2), (1, 0)]) (t_do (x_callV (ts := [(0, 2), (1, 2)]) ck2 rfl kX2_runThrough mokX2_runThrough w6_30 w6_31 rfl rfl rfl rfl (a_R (ts := [(0, 2)]) 1 (a_R (ts := []) 0 a_nil (s_getR ck3 1 (by decide) rfl (s_getR ck11 7 (by decide) rfl (s_aload_n dX11_runInRain_25 rfl rfl) dX11_runInRain_26 w2_225) dX11_runInRain_29 w2_91) rfl) (s_getR ck11 2 (by decide) rfl (s_aload_n dX11_runInRain_32 rfl rfl) dX11_runInRain_33 w2_220) rfl) dX11_runInRain_36 w6_29) rfl) (t_ret0 (fun _ _ => rfl) dX11_runInRain_39))))
noncomputable def DX11_runInRain : Fr → St → Option (Unit × St) := M1 (fun f => (sI (sR fr0 0 (gR f 0)) 1 (gI f 1))) BX11_runInRain
theorem kX11_runInRain : SND yX11_runInRain cX11_runInRain 2 none 7 [(0, 2), (1, 0)] cvoV DX11_runInRain := snd_V (nw := 2) (by decide) (fun z => by cases z) rfl rfl (fun _ _ => rfl) sBX11_runInRain
theorem dX11_drawn_0 : decode cX11_drawn 0 = .ok (.aload_n 0, 1) := by decide +kernel
theorem dX11_drawn_1 : decode cX11_drawn 1 = .ok (.getfield 26, 3) := by decide +kernel
theorem dX11_drawn_4 : decode cX11_drawn 4 = .ok (.invokevirtual 209, 3) := by decide +kernel
theorem dX11_drawn_7 : decode cX11_drawn 7 = .ok (.ifCond .eq 17, 3) := by decide +kernel
theorem dX11_drawn_10 : decode cX11_drawn 10 = .ok (.iload_n 1, 1) := by decide +kernel
theorem dX11_drawn_11 : decode cX11_drawn 11 = .ok (.invokestatic 406, 3) := by decide +kernel
theorem dX11_drawn_14 : decode cX11_drawn 14 = .ok (.ifCond .eq 10, 3) := by decide +kernel
theorem dX11_drawn_17 : decode cX11_drawn 17 = .ok (.iload_n 2, 1) := by decide +kernel
theorem dX11_drawn_18 : decode cX11_drawn 18 = .ok (.invokestatic 131, 3) := by decide +kernel
theorem dX11_drawn_21 : decode cX11_drawn 21 = .ok (.ifCond .ne 6, 3) := by decide +kernel
theorem dX11_drawn_24 : decode cX11_drawn 24 = .ok (.bipush (-2), 2) := by decide +kernel
theorem dX11_drawn_26 : decode cX11_drawn 26 = .ok (.ireturn, 1) := by decide +kernel
theorem dX11_drawn_27 : decode cX11_drawn 27 = .ok (.aload_n 0, 1) := by decide +kernel
theorem dX11_drawn_28 : decode cX11_drawn 28 = .ok (.getfield 71, 3) := by decide +kernel
theorem dX11_drawn_31 : decode cX11_drawn 31 = .ok (.aload_n 0, 1) := by decide +kernel
theorem dX11_drawn_32 : decode cX11_drawn 32 = .ok (.getfield 26, 3) := by decide +kernel
theorem dX11_drawn_35 : decode cX11_drawn 35 = .ok (.iload_n 1, 1) := by decide +kernel
theorem dX11_drawn_36 : decode cX11_drawn 36 = .ok (.i2l, 1) := by decide +kernel
theorem dX11_drawn_37 : decode cX11_drawn 37 = .ok (.invokevirtual 409, 3) := by decide +kernel
theorem dX11_drawn_40 : decode cX11_drawn 40 = .ok (.istore_n 3, 1) := by decide +kernel
theorem dX11_drawn_41 : decode cX11_drawn 41 = .ok (.iload_n 2, 1) := by decide +kernel
theorem dX11_drawn_42 : decode cX11_drawn 42 = .ok (.ifCond .ne 5, 3) := by decide +kernel
theorem dX11_drawn_45 : decode cX11_drawn 45 = .ok (.iload_n 3, 1) := by decide +kernel
theorem dX11_drawn_46 : decode cX11_drawn 46 = .ok (.ireturn, 1) := by decide +kernel
theorem dX11_drawn_47 : decode cX11_drawn 47 = .ok (.aload_n 0, 1) := by decide +kernel
theorem dX11_drawn_48 : decode cX11_drawn 48 = .ok (.iload_n 3, 1) := by decide +kernel
theorem dX11_drawn_49 : decode cX11_drawn 49 = .ok (.invokevirtual 413, 3) := by decide +kernel
theorem dX11_drawn_52 : decode cX11_drawn 52 = .ok (.iconst 0, 1) := by decide +kernel
theorem dX11_drawn_53 : decode cX11_drawn 53 = .ok (.istore 4, 2) := by decide +kernel
theorem dX11_drawn_55 : decode cX11_drawn 55 = .ok (.iconst 0, 1) := by decide +kernel
theorem dX11_drawn_56 : decode cX11_drawn 56 = .ok (.istore 5, 2) := by decide +kernel
theorem dX11_drawn_58 : decode cX11_drawn 58 = .ok (.iload 5, 2) := by decide +kernel
theorem dX11_drawn_60 : decode cX11_drawn 60 = .ok (.aload_n 0, 1) := by decide +kernel
theorem dX11_drawn_61 : decode cX11_drawn 61 = .ok (.getfield 26, 3) := by decide +kernel
theorem dX11_drawn_64 : decode cX11_drawn 64 = .ok (.getfield 248, 3) := by decide +kernel
theorem dX11_drawn_67 : decode cX11_drawn 67 = .ok (.if_icmp .ge 32, 3) := by decide +kernel
theorem dX11_drawn_70 : decode cX11_drawn 70 = .ok (.iload 4, 2) := by decide +kernel
theorem dX11_drawn_72 : decode cX11_drawn 72 = .ok (.aload_n 0, 1) := by decide +kernel
theorem dX11_drawn_73 : decode cX11_drawn 73 = .ok (.getfield 51, 3) := by decide +kernel
theorem dX11_drawn_76 : decode cX11_drawn 76 = .ok (.getfield 332, 3) := by decide +kernel
theorem dX11_drawn_79 : decode cX11_drawn 79 = .ok (.getfield 416, 3) := by decide +kernel
theorem dX11_drawn_82 : decode cX11_drawn 82 = .ok (.iload 5, 2) := by decide +kernel
theorem dX11_drawn_84 : decode cX11_drawn 84 = .ok (.invokestatic 124, 3) := by decide +kernel
theorem dX11_drawn_87 : decode cX11_drawn 87 = .ok (.invokestatic 243, 3) := by decide +kernel
theorem dX11_drawn_90 : decode cX11_drawn 90 = .ok (.iadd, 1) := by decide +kernel
theorem dX11_drawn_91 : decode cX11_drawn 91 = .ok (.istore 4, 2) := by decide +kernel
theorem dX11_drawn_93 : decode cX11_drawn 93 = .ok (.iinc 5 1, 3) := by decide +kernel
theorem dX11_drawn_96 : decode cX11_drawn 96 = .ok (.goto (-38), 3) := by decide +kernel
theorem dX11_drawn_99 : decode cX11_drawn 99 = .ok (.iload 4, 2) := by decide +kernel
theorem dX11_drawn_101 : decode cX11_drawn 101 = .ok (.ireturn, 1) := by decide +kernel
theorem mokX11_drawn : MOK yX11_drawn cX11_drawn 6 (some .int) 2 := ⟨w6_120, w1_1, ⟨by decide, by decide⟩, by decide +kernel, by decide⟩
abbrev miX11_drawn : MI := (yX11_drawn.cls, cX11_drawn, 6, 8, false)
noncomputable def LX11_drawn_1 : Sm Int32 := dLoop (fun f => (sI (sI (sI (sI (sI (sR fr0 0 (gR f 0)) 1 (gI f 1)) 2 (gI f 2)) 3 (gI f 3)) 4 (gI f 4)) 5 (gI f 5))) (dCI r_lt (vI 5) (dGI 5 7 (dGR 11 2 (vR 0)))) (dSetI 4 (d2 o_iadd (vI 4) (dCall DJ6_bitCount_0f7a4 (aI aN 0 (dCall DX11_cell (aI (aR aN 0 (dGR 2 10 (dGR 3 1 (dGR 11 7 (vR 0))))) 1 (vI 5))))))) (dInc 5 1)
theorem sLX11_drawn_1 {ΓL : Gm} {PB PK : List Nat} : SS (cvoI, .ireturn) miX11_drawn ΓL PB PK [(0, 2), (1, 0), (2, 0), (3, 0), (4, 0), (5, 0)] [(0, 2), (1, 0), (2, 0), (3, 0), (4, 0), (5, 0)] 58 [99] LX11_drawn_1 := t_loop (pT := 70) (pF := 99) (pu := 93) (PB' := []) (PK' := []) (XB := [93]) (XU := [96]) (fun _ _ => rfl) rfl (c_lt_F (pF := 99) (s_iload dX11_drawn_58 rfl) (s_getI ck5 7 (by decide) rfl (s_getR ck11 2 (by decide) rfl (s_aload_n dX11_drawn_60 rfl rfl) dX11_drawn_61 w2_220) dX11_drawn_64 w1_169) dX11_drawn_67 rfl) (t_istore (s_iadd (s_iload dX11_drawn_70 rfl) (s_of_xI (x_call (ts := [(0, 0)]) kJ6_bitCount_0f7a4 mokJ6_bitCount_0f7a4 w5_28 rfl rfl rfl (a_I (ts := []) 0 a_nil (s_of_xI (x_call (ts := [(0, 2), (1, 0)]) kX11_cell mokX11_cell w3_229 rfl rfl rfl (a_I (ts := [(0, 2)]) 1 (a_R (ts := []) 0 a_nil (s_getR ck2 10 (by decide) rfl (s_getR ck3 1 (by decide) rfl (s_getR ck11 7 (by decide) rfl (s_aload_n dX11_drawn_72 rfl rfl) dX11_drawn_73 w2_225) dX11_drawn_76 w2_91) dX11_drawn_79 w2_49) rfl) (s_iload dX11_drawn_82 rfl) rfl) dX11_drawn_84 w3_228)) rfl) dX11_drawn_87 w5_27)) dX11_drawn_90) dX11_drawn_91 rfl rfl) (t_iinc dX11_drawn_93 rfl rfl rfl rfl) (lda_cons (ld_in rfl) lda_nil) lda_nil (lda_cons (ld_goto (y := 58) dX11_drawn_96 rfl (ld_in rfl)) lda_nil) (ld_in rfl) lda_nil
noncomputable def BX11_drawn : Sm Int32 := (dSeq (dIf (dOr (dOr (dNot (dCZ q_ne (dCallV 5 DX5_isTold (aR aN 0 (dGR 11 2 (vR 0)))))) (dNot (dCZ q_ne (dCall DX11_isSeed (aI aN 0 (vI 1)))))) (dNot (dCZ q_ne (dCall DX11_isChoice (aI aN 0 (vI 2)))))) (dRet (cI (-2))) dSkip) (dSeq (dSetI 3 (dCallV 10 DX10_rainDrawn (aL (aR (aR aN 0 (dGR 11 10 (vR 0))) 1 (dGR 11 2 (vR 0))) 2 (d1 o_i2l (vI 1))))) (dSeq (dIf (dCZ q_eq (vI 2)) (dRet (vI 3)) dSkip) (dSeq (dDo (dCallV 11 DX11_runInRain (aI (aR aN 0 (vR 0)) 1 (vI 3)))) (dSeq (dSetI 4 (cI 0)) (dSeq (dSeq (dSetI 5 (cI 0)) LX11_drawn_1) (dRet (vI 4))))))))
theorem sBX11_drawn : SS (cvoI, .ireturn) miX11_drawn [] [] [] [(0, 2), (1, 0), (2, 0)] [(0, 2), (1, 0), (2, 0)] 0 [] BX11_drawn := (t_sq (p1 := 27) (Γ' := [(0, 2), (1, 0), (2, 0)]) (t_if (pT := 24) (pF := 27) (X := [27]) (XA := []) (XB := [27]) (c_or (p1 := 17) (pT := 24) (pF := 27) (c_or (p1 := 10) (pT := 24) (pF := 17) (c_not (pT := 24) (pF := 10) (c_ne_ZF (pF := 24) (s_of_xI (x_callV (ts := [(0, 2)]) ck5 rfl kX5_isTold mokX5_isTold w4_76 w4_77 rfl rfl rfl rfl (a_R (ts := []) 0 a_nil (s_getR ck11 2 (by decide) rfl (s_aload_n dX11_drawn_0 rfl rfl) dX11_drawn_1 w2_220) rfl) dX11_drawn_4 w4_217)) dX11_drawn_7 rfl)) (c_not (pT := 24) (pF := 17) (c_ne_ZF (pF := 24) (s_of_xI (x_call (ts := [(0, 0)]) kX11_isSeed mokX11_isSeed w6_122 rfl rfl rfl (a_I (ts := []) 0 a_nil (s_iload_n dX11_drawn_10 rfl rfl) rfl) dX11_drawn_11 w6_121)) dX11_drawn_14 rfl))) (c_not (pT := 24) (pF := 27) (c_ne_ZJ (pT := 27) (s_of_xI (x_call (ts := [(0, 0)]) kX11_isChoice mokX11_isChoice w4_0 rfl rfl rfl (a_I (ts := []) 0 a_nil (s_iload_n dX11_drawn_17 rfl rfl) rfl) dX11_drawn_18 w3_239)) dX11_drawn_21 rfl))) (t_ret (cv := cvI) (fun _ _ => rfl) (s_bipush dX11_drawn_24 rfl) dX11_drawn_26) (t_skip (ld_in rfl) rfl) lda_nil (lda_cons (ld_in rfl) lda_nil)) (t_sq (p1 := 41) (Γ' := [(0, 2), (1, 0), (2, 0), (3, 0)]) (t_istore_n (s_of_xI (x_callV (ts := [(0, 2), (1, 2), (2, 1)]) ck10 rfl kX10_rainDrawn mokX10_rainDrawn w6_126 w6_127 rfl rfl rfl rfl (a_L (ts := [(0, 2), (1, 2)]) 2 (a_R (ts := [(0, 2)]) 1 (a_R (ts := []) 0 a_nil (s_getR ck11 10 (by decide) rfl (s_aload_n dX11_drawn_27 rfl rfl) dX11_drawn_28 w2_228) rfl) (s_getR ck11 2 (by decide) rfl (s_aload_n dX11_drawn_31 rfl rfl) dX11_drawn_32 w2_220) rfl) (s_i2l (s_iload_n dX11_drawn_35 rfl rfl) dX11_drawn_36) rfl) dX11_drawn_37 w6_125)) dX11_drawn_40 rfl rfl rfl) (t_sq (p1 := 47) (Γ' := [(0, 2), (1, 0), (2, 0), (3, 0)]) (t_if (pT := 45) (pF := 47) (X := [47]) (XA := []) (XB := [47]) (c_eq_ZF (pF := 47) (s_iload_n dX11_drawn_41 rfl rfl) dX11_drawn_42 rfl) (t_ret (cv := cvI) (fun _ _ => rfl) (s_iload_n dX11_drawn_45 rfl rfl) dX11_drawn_46) (t_skip (ld_in rfl) rfl) lda_nil (lda_cons (ld_in rfl) lda_nil)) (t_sq (p1 := 52) (Γ' := [(0, 2), (1, 0), (2, 0), (3, 0)]) (t_do (x_callV (ts := [(0, 2), (1, 0)]) ck11 rfl kX11_runInRain mokX11_runInRain w6_136 ps3_5 rfl rfl rfl rfl (a_I (ts := [(0, 2)]) 1 (a_R (ts := []) 0 a_nil (s_aload_n dX11_drawn_47 rfl rfl) rfl) (s_iload_n dX11_drawn_48 rfl rfl) rfl) dX11_drawn_49 w6_134) rfl) (t_sq (p1 := 55) (Γ' := [(0, 2), (1, 0), (2, 0), (3, 0), (4, 0)]) (t_istore (s_iconst dX11_drawn_52 rfl) dX11_drawn_53 rfl rfl) (t_sq (p1 := 99) (Γ' := [(0, 2), (1, 0), (2, 0), (3, 0), (4, 0)]) (t_sq (p1 := 58) (Γ' := [(0, 2), (1, 0), (2, 0), (3, 0), (4, 0), (5, 0)]) (t_istore (s_iconst dX11_drawn_55 rfl) dX11_drawn_56 rfl rfl) (tn_to (Γ' := [(0, 2), (1, 0), (2, 0), (3, 0), (4, 0), (5, 0)]) (XA := [99]) sLX11_drawn_1 (lda_cons (ld_in rfl) lda_nil) rfl)) (t_ret (cv := cvI) (fun _ _ => rfl) (s_iload dX11_drawn_99 rfl) dX11_drawn_101)))))))
noncomputable def DX11_drawn : Fr → St → Option (Int32 × St) := M1 (fun f => (sI (sI (sR fr0 0 (gR f 0)) 1 (gI f 1)) 2 (gI f 2))) BX11_drawn
theorem kX11_drawn : SND yX11_drawn cX11_drawn 6 (some .int) 8 [(0, 2), (1, 0), (2, 0)] cvoI DX11_drawn := snd_I (nw := 3) (by decide) rfl rfl (fun _ _ => rfl) sBX11_drawn
theorem dX11_luck_0 : decode cX11_luck 0 = .ok (.aload_n 0, 1) := by decide +kernel
theorem dX11_luck_1 : decode cX11_luck 1 = .ok (.getfield 26, 3) := by decide +kernel
theorem dX11_luck_4 : decode cX11_luck 4 = .ok (.iload_n 3, 1) := by decide +kernel
theorem dX11_luck_5 : decode cX11_luck 5 = .ok (.invokevirtual 140, 3) := by decide +kernel
theorem dX11_luck_8 : decode cX11_luck 8 = .ok (.ifCond .eq 19, 3) := by decide +kernel
theorem dX11_luck_11 : decode cX11_luck 11 = .ok (.aload_n 0, 1) := by decide +kernel
theorem dX11_luck_12 : decode cX11_luck 12 = .ok (.getfield 26, 3) := by decide +kernel
theorem dX11_luck_15 : decode cX11_luck 15 = .ok (.iload 4, 2) := by decide +kernel
theorem dX11_luck_17 : decode cX11_luck 17 = .ok (.invokevirtual 117, 3) := by decide +kernel
theorem dX11_luck_20 : decode cX11_luck 20 = .ok (.ifCond .eq 7, 3) := by decide +kernel
theorem dX11_luck_23 : decode cX11_luck 23 = .ok (.iconst 1, 1) := by decide +kernel
theorem dX11_luck_24 : decode cX11_luck 24 = .ok (.goto 4, 3) := by decide +kernel
theorem dX11_luck_27 : decode cX11_luck 27 = .ok (.iconst 0, 1) := by decide +kernel
theorem dX11_luck_28 : decode cX11_luck 28 = .ok (.istore 5, 2) := by decide +kernel
theorem dX11_luck_30 : decode cX11_luck 30 = .ok (.iload 5, 2) := by decide +kernel
theorem dX11_luck_32 : decode cX11_luck 32 = .ok (.ifCond .eq 21, 3) := by decide +kernel
theorem dX11_luck_35 : decode cX11_luck 35 = .ok (.iload_n 1, 1) := by decide +kernel
theorem dX11_luck_36 : decode cX11_luck 36 = .ok (.invokestatic 406, 3) := by decide +kernel
theorem dX11_luck_39 : decode cX11_luck 39 = .ok (.ifCond .eq 14, 3) := by decide +kernel
theorem dX11_luck_42 : decode cX11_luck 42 = .ok (.iload_n 2, 1) := by decide +kernel
theorem dX11_luck_43 : decode cX11_luck 43 = .ok (.iconst 1, 1) := by decide +kernel
theorem dX11_luck_44 : decode cX11_luck 44 = .ok (.if_icmp .lt 9, 3) := by decide +kernel
theorem dX11_luck_47 : decode cX11_luck 47 = .ok (.iload_n 2, 1) := by decide +kernel
theorem dX11_luck_48 : decode cX11_luck 48 = .ok (.bipush 20, 2) := by decide +kernel
theorem dX11_luck_50 : decode cX11_luck 50 = .ok (.if_icmp .le 6, 3) := by decide +kernel
theorem dX11_luck_53 : decode cX11_luck 53 = .ok (.bipush (-2), 2) := by decide +kernel
theorem dX11_luck_55 : decode cX11_luck 55 = .ok (.ireturn, 1) := by decide +kernel
theorem dX11_luck_56 : decode cX11_luck 56 = .ok (.iconst 0, 1) := by decide +kernel
theorem dX11_luck_57 : decode cX11_luck 57 = .ok (.istore 6, 2) := by decide +kernel
theorem dX11_luck_59 : decode cX11_luck 59 = .ok (.iconst 0, 1) := by decide +kernel
theorem dX11_luck_60 : decode cX11_luck 60 = .ok (.istore 7, 2) := by decide +kernel
theorem dX11_luck_62 : decode cX11_luck 62 = .ok (.iload 7, 2) := by decide +kernel
theorem dX11_luck_64 : decode cX11_luck 64 = .ok (.iload_n 2, 1) := by decide +kernel
theorem dX11_luck_65 : decode cX11_luck 65 = .ok (.if_icmp .ge 49, 3) := by decide +kernel
theorem dX11_luck_68 : decode cX11_luck 68 = .ok (.aload_n 0, 1) := by decide +kernel
theorem dX11_luck_69 : decode cX11_luck 69 = .ok (.aload_n 0, 1) := by decide +kernel
theorem dX11_luck_70 : decode cX11_luck 70 = .ok (.getfield 71, 3) := by decide +kernel
theorem dX11_luck_73 : decode cX11_luck 73 = .ok (.aload_n 0, 1) := by decide +kernel
theorem dX11_luck_74 : decode cX11_luck 74 = .ok (.getfield 26, 3) := by decide +kernel
theorem dX11_luck_77 : decode cX11_luck 77 = .ok (.iload_n 1, 1) := by decide +kernel
theorem dX11_luck_78 : decode cX11_luck 78 = .ok (.i2l, 1) := by decide +kernel
theorem dX11_luck_79 : decode cX11_luck 79 = .ok (.iload 7, 2) := by decide +kernel
theorem dX11_luck_81 : decode cX11_luck 81 = .ok (.i2l, 1) := by decide +kernel
theorem dX11_luck_82 : decode cX11_luck 82 = .ok (.ladd, 1) := by decide +kernel
theorem dX11_luck_83 : decode cX11_luck 83 = .ok (.invokevirtual 409, 3) := by decide +kernel
theorem dX11_luck_86 : decode cX11_luck 86 = .ok (.invokevirtual 413, 3) := by decide +kernel
theorem dX11_luck_89 : decode cX11_luck 89 = .ok (.aload_n 0, 1) := by decide +kernel
theorem dX11_luck_90 : decode cX11_luck 90 = .ok (.getfield 51, 3) := by decide +kernel
theorem dX11_luck_93 : decode cX11_luck 93 = .ok (.getfield 332, 3) := by decide +kernel
theorem dX11_luck_96 : decode cX11_luck 96 = .ok (.iload 4, 2) := by decide +kernel
theorem dX11_luck_98 : decode cX11_luck 98 = .ok (.iload_n 3, 1) := by decide +kernel
theorem dX11_luck_99 : decode cX11_luck 99 = .ok (.invokevirtual 419, 3) := by decide +kernel
theorem dX11_luck_102 : decode cX11_luck 102 = .ok (.ifCond .eq 6, 3) := by decide +kernel
theorem dX11_luck_105 : decode cX11_luck 105 = .ok (.iinc 6 1, 3) := by decide +kernel
theorem dX11_luck_108 : decode cX11_luck 108 = .ok (.iinc 7 1, 3) := by decide +kernel
theorem dX11_luck_111 : decode cX11_luck 111 = .ok (.goto (-49), 3) := by decide +kernel
theorem dX11_luck_114 : decode cX11_luck 114 = .ok (.iload 6, 2) := by decide +kernel
theorem dX11_luck_116 : decode cX11_luck 116 = .ok (.ireturn, 1) := by decide +kernel
theorem mokX11_luck : MOK yX11_luck cX11_luck 8 (some .int) 4 := ⟨w6_141, w1_1, ⟨by decide, by decide⟩, by decide +kernel, by decide⟩
abbrev miX11_luck : MI := (yX11_luck.cls, cX11_luck, 8, 8, false)
noncomputable def LX11_luck_1 : Sm Int32 := dLoop (fun f => (sI (sI (sI (sI (sI (sI (sI (sR fr0 0 (gR f 0)) 1 (gI f 1)) 2 (gI f 2)) 3 (gI f 3)) 4 (gI f 4)) 5 (gI f 5)) 6 (gI f 6)) 7 (gI f 7))) (dCI r_lt (vI 7) (vI 2)) (dSeq (dDo (dCallV 11 DX11_runInRain (aI (aR aN 0 (vR 0)) 1 (dCallV 10 DX10_rainDrawn (aL (aR (aR aN 0 (dGR 11 10 (vR 0))) 1 (dGR 11 2 (vR 0))) 2 (d2 o_ladd (d1 o_i2l (vI 1)) (d1 o_i2l (vI 7)))))))) (dIf (dCZ q_ne (dCallV 2 DX2_knownBy (aI (aI (aR aN 0 (dGR 3 1 (dGR 11 7 (vR 0)))) 1 (vI 4)) 2 (vI 3)))) (dInc 6 1) dSkip)) (dInc 7 1)
theorem sLX11_luck_1 {ΓL : Gm} {PB PK : List Nat} : SS (cvoI, .ireturn) miX11_luck ΓL PB PK [(0, 2), (1, 0), (2, 0), (3, 0), (4, 0), (5, 0), (6, 0), (7, 0)] [(0, 2), (1, 0), (2, 0), (3, 0), (4, 0), (5, 0), (6, 0), (7, 0)] 62 [114] LX11_luck_1 := t_loop (pT := 68) (pF := 114) (pu := 108) (PB' := []) (PK' := []) (XB := [108]) (XU := [111]) (fun _ _ => rfl) rfl (c_lt_F (pF := 114) (s_iload dX11_luck_62 rfl) (s_iload_n dX11_luck_64 rfl rfl) dX11_luck_65 rfl) (t_sq (p1 := 89) (Γ' := [(0, 2), (1, 0), (2, 0), (3, 0), (4, 0), (5, 0), (6, 0), (7, 0)]) (t_do (x_callV (ts := [(0, 2), (1, 0)]) ck11 rfl kX11_runInRain mokX11_runInRain w6_136 ps3_5 rfl rfl rfl rfl (a_I (ts := [(0, 2)]) 1 (a_R (ts := []) 0 a_nil (s_aload_n dX11_luck_68 rfl rfl) rfl) (s_of_xI (x_callV (ts := [(0, 2), (1, 2), (2, 1)]) ck10 rfl kX10_rainDrawn mokX10_rainDrawn w6_126 w6_127 rfl rfl rfl rfl (a_L (ts := [(0, 2), (1, 2)]) 2 (a_R (ts := [(0, 2)]) 1 (a_R (ts := []) 0 a_nil (s_getR ck11 10 (by decide) rfl (s_aload_n dX11_luck_69 rfl rfl) dX11_luck_70 w2_228) rfl) (s_getR ck11 2 (by decide) rfl (s_aload_n dX11_luck_73 rfl rfl) dX11_luck_74 w2_220) rfl) (s_ladd (s_i2l (s_iload_n dX11_luck_77 rfl rfl) dX11_luck_78) (s_i2l (s_iload dX11_luck_79 rfl) dX11_luck_81) dX11_luck_82) rfl) dX11_luck_83 w6_125)) rfl) dX11_luck_86 w6_134) rfl) (t_if (pT := 105) (pF := 108) (X := [108]) (XA := [108]) (XB := [108]) (c_ne_ZF (pF := 108) (s_of_xI (x_callV (ts := [(0, 2), (1, 0), (2, 0)]) ck2 rfl kX2_knownBy mokX2_knownBy w6_40 w6_41 rfl rfl rfl rfl (a_I (ts := [(0, 2), (1, 0)]) 2 (a_I (ts := [(0, 2)]) 1 (a_R (ts := []) 0 a_nil (s_getR ck3 1 (by decide) rfl (s_getR ck11 7 (by decide) rfl (s_aload_n dX11_luck_89 rfl rfl) dX11_luck_90 w2_225) dX11_luck_93 w2_91) rfl) (s_iload dX11_luck_96 rfl) rfl) (s_iload_n dX11_luck_98 rfl rfl) rfl) dX11_luck_99 w6_39)) dX11_luck_102 rfl) (t_iinc dX11_luck_105 rfl rfl rfl rfl) (t_skip (ld_in rfl) rfl) (lda_cons (ld_in rfl) lda_nil) (lda_cons (ld_in rfl) lda_nil))) (t_iinc dX11_luck_108 rfl rfl rfl rfl) (lda_cons (ld_in rfl) lda_nil) lda_nil (lda_cons (ld_goto (y := 62) dX11_luck_111 rfl (ld_in rfl)) lda_nil) (ld_in rfl) lda_nil
noncomputable def BX11_luck : Sm Int32 := (dSeq (dSetI 5 (dB (dAnd (dCZ q_ne (dCallV 5 DX5_isSlate (aI (aR aN 0 (dGR 11 2 (vR 0))) 1 (vI 3)))) (dCZ q_ne (dCallV 5 DX5_isHouse (aI (aR aN 0 (dGR 11 2 (vR 0))) 1 (vI 4))))))) (dSeq (dIf (dOr (dOr (dOr (dNot (dCZ q_ne (vI 5))) (dNot (dCZ q_ne (dCall DX11_isSeed (aI aN 0 (vI 1)))))) (dCI r_lt (vI 2) (cI 1))) (dCI r_gt (vI 2) (cI 20))) (dRet (cI (-2))) dSkip) (dSeq (dSetI 6 (cI 0)) (dSeq (dSeq (dSetI 7 (cI 0)) LX11_luck_1) (dRet (vI 6))))))
theorem sBX11_luck : SS (cvoI, .ireturn) miX11_luck [] [] [] [(0, 2), (1, 0), (2, 0), (3, 0), (4, 0)] [(0, 2), (1, 0), (2, 0), (3, 0), (4, 0)] 0 [] BX11_luck := (t_sq (p1 := 30) (Γ' := [(0, 2), (1, 0), (2, 0), (3, 0), (4, 0), (5, 0)]) (t_istore (s_B (pT := 23) (pF := 27) (pe := 28) (c_and (p1 := 11) (pT := 23) (pF := 27) (c_ne_ZF (pF := 27) (s_of_xI (x_callV (ts := [(0, 2), (1, 0)]) ck5 rfl kX5_isSlate mokX5_isSlate w4_7 w4_8 rfl rfl rfl rfl (a_I (ts := [(0, 2)]) 1 (a_R (ts := []) 0 a_nil (s_getR ck11 2 (by decide) rfl (s_aload_n dX11_luck_0 rfl rfl) dX11_luck_1 w2_220) rfl) (s_iload_n dX11_luck_4 rfl rfl) rfl) dX11_luck_5 w4_6)) dX11_luck_8 rfl) (c_ne_ZF (pF := 27) (s_of_xI (x_callV (ts := [(0, 2), (1, 0)]) ck5 rfl kX5_isHouse mokX5_isHouse w3_225 w3_226 rfl rfl rfl rfl (a_I (ts := [(0, 2)]) 1 (a_R (ts := []) 0 a_nil (s_getR ck11 2 (by decide) rfl (s_aload_n dX11_luck_11 rfl rfl) dX11_luck_12 w2_220) rfl) (s_iload dX11_luck_15 rfl) rfl) dX11_luck_17 w3_224)) dX11_luck_20 rfl)) dX11_luck_23 dX11_luck_24 rfl dX11_luck_27 rfl) dX11_luck_28 rfl rfl) (t_sq (p1 := 56) (Γ' := [(0, 2), (1, 0), (2, 0), (3, 0), (4, 0), (5, 0)]) (t_if (pT := 53) (pF := 56) (X := [56]) (XA := []) (XB := [56]) (c_or (p1 := 47) (pT := 53) (pF := 56) (c_or (p1 := 42) (pT := 53) (pF := 47) (c_or (p1 := 35) (pT := 53) (pF := 42) (c_not (pT := 53) (pF := 35) (c_ne_ZF (pF := 53) (s_iload dX11_luck_30 rfl) dX11_luck_32 rfl)) (c_not (pT := 53) (pF := 42) (c_ne_ZF (pF := 53) (s_of_xI (x_call (ts := [(0, 0)]) kX11_isSeed mokX11_isSeed w6_122 rfl rfl rfl (a_I (ts := []) 0 a_nil (s_iload_n dX11_luck_35 rfl rfl) rfl) dX11_luck_36 w6_121)) dX11_luck_39 rfl))) (c_lt_J (pT := 53) (s_iload_n dX11_luck_42 rfl rfl) (s_iconst dX11_luck_43 rfl) dX11_luck_44 rfl)) (c_gt_F (pF := 56) (s_iload_n dX11_luck_47 rfl rfl) (s_bipush dX11_luck_48 rfl) dX11_luck_50 rfl)) (t_ret (cv := cvI) (fun _ _ => rfl) (s_bipush dX11_luck_53 rfl) dX11_luck_55) (t_skip (ld_in rfl) rfl) lda_nil (lda_cons (ld_in rfl) lda_nil)) (t_sq (p1 := 59) (Γ' := [(0, 2), (1, 0), (2, 0), (3, 0), (4, 0), (5, 0), (6, 0)]) (t_istore (s_iconst dX11_luck_56 rfl) dX11_luck_57 rfl rfl) (t_sq (p1 := 114) (Γ' := [(0, 2), (1, 0), (2, 0), (3, 0), (4, 0), (5, 0), (6, 0)]) (t_sq (p1 := 62) (Γ' := [(0, 2), (1, 0), (2, 0), (3, 0), (4, 0), (5, 0), (6, 0), (7, 0)]) (t_istore (s_iconst dX11_luck_59 rfl) dX11_luck_60 rfl rfl) (tn_to (Γ' := [(0, 2), (1, 0), (2, 0), (3, 0), (4, 0), (5, 0), (6, 0), (7, 0)]) (XA := [114]) sLX11_luck_1 (lda_cons (ld_in rfl) lda_nil) rfl)) (t_ret (cv := cvI) (fun _ _ => rfl) (s_iload dX11_luck_114 rfl) dX11_luck_116)))))
noncomputable def DX11_luck : Fr → St → Option (Int32 × St) := M1 (fun f => (sI (sI (sI (sI (sR fr0 0 (gR f 0)) 1 (gI f 1)) 2 (gI f 2)) 3 (gI f 3)) 4 (gI f 4))) BX11_luck
theorem kX11_luck : SND yX11_luck cX11_luck 8 (some .int) 8 [(0, 2), (1, 0), (2, 0), (3, 0), (4, 0)] cvoI DX11_luck := snd_I (nw := 5) (by decide) rfl rfl (fun _ _ => rfl) sBX11_luck
theorem dX11_rate_0 : decode cX11_rate 0 = .ok (.aload_n 0, 1) := by decide +kernel
theorem dX11_rate_1 : decode cX11_rate 1 = .ok (.getfield 26, 3) := by decide +kernel
theorem dX11_rate_4 : decode cX11_rate 4 = .ok (.iload_n 1, 1) := by decide +kernel
theorem dX11_rate_5 : decode cX11_rate 5 = .ok (.invokevirtual 128, 3) := by decide +kernel
theorem dX11_rate_8 : decode cX11_rate 8 = .ok (.ifCond .eq 13, 3) := by decide +kernel
theorem dX11_rate_11 : decode cX11_rate 11 = .ok (.iload_n 2, 1) := by decide +kernel
theorem dX11_rate_12 : decode cX11_rate 12 = .ok (.ifCond .lt 9, 3) := by decide +kernel
theorem dX11_rate_15 : decode cX11_rate 15 = .ok (.iload_n 2, 1) := by decide +kernel
theorem dX11_rate_16 : decode cX11_rate 16 = .ok (.bipush 99, 2) := by decide +kernel
theorem dX11_rate_18 : decode cX11_rate 18 = .ok (.if_icmp .le 6, 3) := by decide +kernel
theorem dX11_rate_21 : decode cX11_rate 21 = .ok (.bipush (-2), 2) := by decide +kernel
theorem dX11_rate_23 : decode cX11_rate 23 = .ok (.ireturn, 1) := by decide +kernel
theorem dX11_rate_24 : decode cX11_rate 24 = .ok (.aload_n 0, 1) := by decide +kernel
theorem dX11_rate_25 : decode cX11_rate 25 = .ok (.getfield 26, 3) := by decide +kernel
theorem dX11_rate_28 : decode cX11_rate 28 = .ok (.getfield 213, 3) := by decide +kernel
theorem dX11_rate_31 : decode cX11_rate 31 = .ok (.getfield 388, 3) := by decide +kernel
theorem dX11_rate_34 : decode cX11_rate 34 = .ok (.ifCond .le 6, 3) := by decide +kernel
theorem dX11_rate_37 : decode cX11_rate 37 = .ok (.bipush (-5), 2) := by decide +kernel
theorem dX11_rate_39 : decode cX11_rate 39 = .ok (.ireturn, 1) := by decide +kernel
theorem dX11_rate_40 : decode cX11_rate 40 = .ok (.aload_n 0, 1) := by decide +kernel
theorem dX11_rate_41 : decode cX11_rate 41 = .ok (.getfield 26, 3) := by decide +kernel
theorem dX11_rate_44 : decode cX11_rate 44 = .ok (.getfield 137, 3) := by decide +kernel
theorem dX11_rate_47 : decode cX11_rate 47 = .ok (.iload_n 1, 1) := by decide +kernel
theorem dX11_rate_48 : decode cX11_rate 48 = .ok (.invokestatic 124, 3) := by decide +kernel
theorem dX11_rate_51 : decode cX11_rate 51 = .ok (.istore_n 3, 1) := by decide +kernel
theorem dX11_rate_52 : decode cX11_rate 52 = .ok (.aload_n 0, 1) := by decide +kernel
theorem dX11_rate_53 : decode cX11_rate 53 = .ok (.getfield 26, 3) := by decide +kernel
theorem dX11_rate_56 : decode cX11_rate 56 = .ok (.getfield 137, 3) := by decide +kernel
theorem dX11_rate_59 : decode cX11_rate 59 = .ok (.iload_n 1, 1) := by decide +kernel
theorem dX11_rate_60 : decode cX11_rate 60 = .ok (.iload_n 2, 1) := by decide +kernel
theorem dX11_rate_61 : decode cX11_rate 61 = .ok (.invokestatic 365, 3) := by decide +kernel
theorem dX11_rate_64 : decode cX11_rate 64 = .ok (.aload_n 0, 1) := by decide +kernel
theorem dX11_rate_65 : decode cX11_rate 65 = .ok (.invokevirtual 105, 3) := by decide +kernel
theorem dX11_rate_68 : decode cX11_rate 68 = .ok (.iload_n 3, 1) := by decide +kernel
theorem dX11_rate_69 : decode cX11_rate 69 = .ok (.ireturn, 1) := by decide +kernel
theorem mokX11_rate : MOK yX11_rate cX11_rate 4 (some .int) 2 := ⟨w6_145, w1_1, ⟨by decide, by decide⟩, by decide +kernel, by decide⟩
abbrev miX11_rate : MI := (yX11_rate.cls, cX11_rate, 4, 3, false)
noncomputable def BX11_rate : Sm Int32 := (dSeq (dIf (dOr (dOr (dNot (dCZ q_ne (dCallV 5 DX5_isCarrier (aI (aR aN 0 (dGR 11 2 (vR 0))) 1 (vI 1))))) (dCZ q_lt (vI 2))) (dCI r_gt (vI 2) (cI 99))) (dRet (cI (-2))) dSkip) (dSeq (dIf (dCZ q_gt (dGI 1 2 (dGR 5 16 (dGR 11 2 (vR 0))))) (dRet (cI (-5))) dSkip) (dSeq (dSetI 3 (dCall DX11_cell (aI (aR aN 0 (dGR 5 12 (dGR 11 2 (vR 0)))) 1 (vI 1)))) (dSeq (dDo (dCall DX11_put (aI (aI (aR aN 0 (dGR 5 12 (dGR 11 2 (vR 0)))) 1 (vI 1)) 2 (vI 2)))) (dSeq (dDo (dCallV 11 DX11_makeStale (aR aN 0 (vR 0)))) (dRet (vI 3)))))))
theorem sBX11_rate : SS (cvoI, .ireturn) miX11_rate [] [] [] [(0, 2), (1, 0), (2, 0)] [(0, 2), (1, 0), (2, 0)] 0 [] BX11_rate := (t_sq (p1 := 24) (Γ' := [(0, 2), (1, 0), (2, 0)]) (t_if (pT := 21) (pF := 24) (X := [24]) (XA := []) (XB := [24]) (c_or (p1 := 15) (pT := 21) (pF := 24) (c_or (p1 := 11) (pT := 21) (pF := 15) (c_not (pT := 21) (pF := 11) (c_ne_ZF (pF := 21) (s_of_xI (x_callV (ts := [(0, 2), (1, 0)]) ck5 rfl kX5_isCarrier mokX5_isCarrier w3_236 w3_237 rfl rfl rfl rfl (a_I (ts := [(0, 2)]) 1 (a_R (ts := []) 0 a_nil (s_getR ck11 2 (by decide) rfl (s_aload_n dX11_rate_0 rfl rfl) dX11_rate_1 w2_220) rfl) (s_iload_n dX11_rate_4 rfl rfl) rfl) dX11_rate_5 w3_235)) dX11_rate_8 rfl)) (c_lt_ZJ (pT := 21) (s_iload_n dX11_rate_11 rfl rfl) dX11_rate_12 rfl)) (c_gt_F (pF := 24) (s_iload_n dX11_rate_15 rfl rfl) (s_bipush dX11_rate_16 rfl) dX11_rate_18 rfl)) (t_ret (cv := cvI) (fun _ _ => rfl) (s_bipush dX11_rate_21 rfl) dX11_rate_23) (t_skip (ld_in rfl) rfl) lda_nil (lda_cons (ld_in rfl) lda_nil)) (t_sq (p1 := 40) (Γ' := [(0, 2), (1, 0), (2, 0)]) (t_if (pT := 37) (pF := 40) (X := [40]) (XA := []) (XB := [40]) (c_gt_ZF (pF := 40) (s_getI ck1 2 (by decide) rfl (s_getR ck5 16 (by decide) rfl (s_getR ck11 2 (by decide) rfl (s_aload_n dX11_rate_24 rfl rfl) dX11_rate_25 w2_220) dX11_rate_28 w1_200) dX11_rate_31 w1_96) dX11_rate_34 rfl) (t_ret (cv := cvI) (fun _ _ => rfl) (s_bipush dX11_rate_37 rfl) dX11_rate_39) (t_skip (ld_in rfl) rfl) lda_nil (lda_cons (ld_in rfl) lda_nil)) (t_sq (p1 := 52) (Γ' := [(0, 2), (1, 0), (2, 0), (3, 0)]) (t_istore_n (s_of_xI (x_call (ts := [(0, 2), (1, 0)]) kX11_cell mokX11_cell w3_229 rfl rfl rfl (a_I (ts := [(0, 2)]) 1 (a_R (ts := []) 0 a_nil (s_getR ck5 12 (by decide) rfl (s_getR ck11 2 (by decide) rfl (s_aload_n dX11_rate_40 rfl rfl) dX11_rate_41 w2_220) dX11_rate_44 w1_185) rfl) (s_iload_n dX11_rate_47 rfl rfl) rfl) dX11_rate_48 w3_228)) dX11_rate_51 rfl rfl rfl) (t_sq (p1 := 64) (Γ' := [(0, 2), (1, 0), (2, 0), (3, 0)]) (t_do (x_call (ts := [(0, 2), (1, 0), (2, 0)]) kX11_put mokX11_put w3_161 rfl rfl rfl (a_I (ts := [(0, 2), (1, 0)]) 2 (a_I (ts := [(0, 2)]) 1 (a_R (ts := []) 0 a_nil (s_getR ck5 12 (by decide) rfl (s_getR ck11 2 (by decide) rfl (s_aload_n dX11_rate_52 rfl rfl) dX11_rate_53 w2_220) dX11_rate_56 w1_185) rfl) (s_iload_n dX11_rate_59 rfl rfl) rfl) (s_iload_n dX11_rate_60 rfl rfl) rfl) dX11_rate_61 w6_43) rfl) (t_sq (p1 := 68) (Γ' := [(0, 2), (1, 0), (2, 0), (3, 0)]) (t_do (x_callV (ts := [(0, 2)]) ck11 rfl kX11_makeStale mokX11_makeStale w3_210 ps1_14 rfl rfl rfl rfl (a_R (ts := []) 0 a_nil (s_aload_n dX11_rate_64 rfl rfl) rfl) dX11_rate_65 w3_208) rfl) (t_ret (cv := cvI) (fun _ _ => rfl) (s_iload_n dX11_rate_68 rfl rfl) dX11_rate_69))))))
noncomputable def DX11_rate : Fr → St → Option (Int32 × St) := M1 (fun f => (sI (sI (sR fr0 0 (gR f 0)) 1 (gI f 1)) 2 (gI f 2))) BX11_rate
theorem kX11_rate : SND yX11_rate cX11_rate 4 (some .int) 3 [(0, 2), (1, 0), (2, 0)] cvoI DX11_rate := snd_I (nw := 3) (by decide) rfl rfl (fun _ _ => rfl) sBX11_rate
theorem dX8_howMany_0 : decode cX8_howMany 0 = .ok (.iconst 0, 1) := by decide +kernel
theorem dX8_howMany_1 : decode cX8_howMany 1 = .ok (.istore_n 1, 1) := by decide +kernel
theorem dX8_howMany_2 : decode cX8_howMany 2 = .ok (.iconst 0, 1) := by decide +kernel
theorem dX8_howMany_3 : decode cX8_howMany 3 = .ok (.istore_n 2, 1) := by decide +kernel
theorem dX8_howMany_4 : decode cX8_howMany 4 = .ok (.iload_n 2, 1) := by decide +kernel
theorem dX8_howMany_5 : decode cX8_howMany 5 = .ok (.iconst 4, 1) := by decide +kernel
theorem dX8_howMany_6 : decode cX8_howMany 6 = .ok (.if_icmp .ge 20, 3) := by decide +kernel
theorem dX8_howMany_9 : decode cX8_howMany 9 = .ok (.aload_n 0, 1) := by decide +kernel
theorem dX8_howMany_10 : decode cX8_howMany 10 = .ok (.iload_n 2, 1) := by decide +kernel
theorem dX8_howMany_11 : decode cX8_howMany 11 = .ok (.invokevirtual 26, 3) := by decide +kernel
theorem dX8_howMany_14 : decode cX8_howMany 14 = .ok (.ifCond .eq 6, 3) := by decide +kernel
theorem dX8_howMany_17 : decode cX8_howMany 17 = .ok (.iinc 1 1, 3) := by decide +kernel
theorem dX8_howMany_20 : decode cX8_howMany 20 = .ok (.iinc 2 1, 3) := by decide +kernel
theorem dX8_howMany_23 : decode cX8_howMany 23 = .ok (.goto (-19), 3) := by decide +kernel
theorem dX8_howMany_26 : decode cX8_howMany 26 = .ok (.iload_n 1, 1) := by decide +kernel
theorem dX8_howMany_27 : decode cX8_howMany 27 = .ok (.ireturn, 1) := by decide +kernel
theorem mokX8_howMany : MOK yX8_howMany cX8_howMany 3 (some .int) 0 := ⟨w6_153, w1_6, ⟨by decide, by decide⟩, by decide +kernel, by decide⟩
abbrev miX8_howMany : MI := (yX8_howMany.cls, cX8_howMany, 3, 3, false)
noncomputable def LX8_howMany_1 : Sm Int32 := dLoop (fun f => (sI (sI (sR fr0 0 (gR f 0)) 1 (gI f 1)) 2 (gI f 2))) (dCI r_lt (vI 2) (cI 4)) (dIf (dCZ q_ne (dCallV 8 DX8_hasRow (aI (aR aN 0 (vR 0)) 1 (vI 2)))) (dInc 1 1) dSkip) (dInc 2 1)
theorem sLX8_howMany_1 {ΓL : Gm} {PB PK : List Nat} : SS (cvoI, .ireturn) miX8_howMany ΓL PB PK [(0, 2), (1, 0), (2, 0)] [(0, 2), (1, 0), (2, 0)] 4 [26] LX8_howMany_1 := t_loop (pT := 9) (pF := 26) (pu := 20) (PB' := []) (PK' := []) (XB := [20]) (XU := [23]) (fun _ _ => rfl) rfl (c_lt_F (pF := 26) (s_iload_n dX8_howMany_4 rfl rfl) (s_iconst dX8_howMany_5 rfl) dX8_howMany_6 rfl) (t_if (pT := 17) (pF := 20) (X := [20]) (XA := [20]) (XB := [20]) (c_ne_ZF (pF := 20) (s_of_xI (x_callV (ts := [(0, 2), (1, 0)]) ck8 rfl kX8_hasRow mokX8_hasRow w5_203 w5_204 rfl rfl rfl rfl (a_I (ts := [(0, 2)]) 1 (a_R (ts := []) 0 a_nil (s_aload_n dX8_howMany_9 rfl rfl) rfl) (s_iload_n dX8_howMany_10 rfl rfl) rfl) dX8_howMany_11 w6_154)) dX8_howMany_14 rfl) (t_iinc dX8_howMany_17 rfl rfl rfl rfl) (t_skip (ld_in rfl) rfl) (lda_cons (ld_in rfl) lda_nil) (lda_cons (ld_in rfl) lda_nil)) (t_iinc dX8_howMany_20 rfl rfl rfl rfl) (lda_cons (ld_in rfl) lda_nil) lda_nil (lda_cons (ld_goto (y := 4) dX8_howMany_23 rfl (ld_in rfl)) lda_nil) (ld_in rfl) lda_nil
noncomputable def BX8_howMany : Sm Int32 := (dSeq (dSetI 1 (cI 0)) (dSeq (dSeq (dSetI 2 (cI 0)) LX8_howMany_1) (dRet (vI 1))))
theorem sBX8_howMany : SS (cvoI, .ireturn) miX8_howMany [] [] [] [(0, 2)] [(0, 2)] 0 [] BX8_howMany := (t_sq (p1 := 2) (Γ' := [(0, 2), (1, 0)]) (t_istore_n (s_iconst dX8_howMany_0 rfl) dX8_howMany_1 rfl rfl rfl) (t_sq (p1 := 26) (Γ' := [(0, 2), (1, 0)]) (t_sq (p1 := 4) (Γ' := [(0, 2), (1, 0), (2, 0)]) (t_istore_n (s_iconst dX8_howMany_2 rfl) dX8_howMany_3 rfl rfl rfl) (tn_to (Γ' := [(0, 2), (1, 0), (2, 0)]) (XA := [26]) sLX8_howMany_1 (lda_cons (ld_in rfl) lda_nil) rfl)) (t_ret (cv := cvI) (fun _ _ => rfl) (s_iload_n dX8_howMany_26 rfl rfl) dX8_howMany_27)))
noncomputable def DX8_howMany : Fr → St → Option (Int32 × St) := M1 (fun f => (sR fr0 0 (gR f 0))) BX8_howMany
theorem kX8_howMany : SND yX8_howMany cX8_howMany 3 (some .int) 3 [(0, 2)] cvoI DX8_howMany := snd_I (nw := 1) (by decide) rfl rfl (fun _ _ => rfl) sBX8_howMany
theorem dX11_count_0 : decode cX11_count 0 = .ok (.iload_n 1, 1) := by decide +kernel
theorem dX11_count_1 : decode cX11_count 1 = .ok (.tableswitch 165 0 11 #[63, 71, 79, 87, 95, 103, 111, 119, 130, 141, 149, 157], 63) := by decide +kernel
theorem dX11_count_64 : decode cX11_count 64 = .ok (.aload_n 0, 1) := by decide +kernel
theorem dX11_count_65 : decode cX11_count 65 = .ok (.getfield 26, 3) := by decide +kernel
theorem dX11_count_68 : decode cX11_count 68 = .ok (.getfield 200, 3) := by decide +kernel
theorem dX11_count_71 : decode cX11_count 71 = .ok (.ireturn, 1) := by decide +kernel
theorem dX11_count_72 : decode cX11_count 72 = .ok (.aload_n 0, 1) := by decide +kernel
theorem dX11_count_73 : decode cX11_count 73 = .ok (.getfield 26, 3) := by decide +kernel
theorem dX11_count_76 : decode cX11_count 76 = .ok (.getfield 422, 3) := by decide +kernel
theorem dX11_count_79 : decode cX11_count 79 = .ok (.ireturn, 1) := by decide +kernel
theorem dX11_count_80 : decode cX11_count 80 = .ok (.aload_n 0, 1) := by decide +kernel
theorem dX11_count_81 : decode cX11_count 81 = .ok (.getfield 26, 3) := by decide +kernel
theorem dX11_count_84 : decode cX11_count 84 = .ok (.getfield 423, 3) := by decide +kernel
theorem dX11_count_87 : decode cX11_count 87 = .ok (.ireturn, 1) := by decide +kernel
theorem dX11_count_88 : decode cX11_count 88 = .ok (.aload_n 0, 1) := by decide +kernel
theorem dX11_count_89 : decode cX11_count 89 = .ok (.getfield 26, 3) := by decide +kernel
theorem dX11_count_92 : decode cX11_count 92 = .ok (.getfield 193, 3) := by decide +kernel
theorem dX11_count_95 : decode cX11_count 95 = .ok (.ireturn, 1) := by decide +kernel
theorem dX11_count_96 : decode cX11_count 96 = .ok (.aload_n 0, 1) := by decide +kernel
theorem dX11_count_97 : decode cX11_count 97 = .ok (.getfield 26, 3) := by decide +kernel
theorem dX11_count_100 : decode cX11_count 100 = .ok (.getfield 302, 3) := by decide +kernel
theorem dX11_count_103 : decode cX11_count 103 = .ok (.ireturn, 1) := by decide +kernel
theorem dX11_count_104 : decode cX11_count 104 = .ok (.aload_n 0, 1) := by decide +kernel
theorem dX11_count_105 : decode cX11_count 105 = .ok (.getfield 26, 3) := by decide +kernel
theorem dX11_count_108 : decode cX11_count 108 = .ok (.getfield 274, 3) := by decide +kernel
theorem dX11_count_111 : decode cX11_count 111 = .ok (.ireturn, 1) := by decide +kernel
theorem dX11_count_112 : decode cX11_count 112 = .ok (.aload_n 0, 1) := by decide +kernel
theorem dX11_count_113 : decode cX11_count 113 = .ok (.getfield 26, 3) := by decide +kernel
theorem dX11_count_116 : decode cX11_count 116 = .ok (.getfield 248, 3) := by decide +kernel
theorem dX11_count_119 : decode cX11_count 119 = .ok (.ireturn, 1) := by decide +kernel
theorem dX11_count_120 : decode cX11_count 120 = .ok (.aload_n 0, 1) := by decide +kernel
theorem dX11_count_121 : decode cX11_count 121 = .ok (.getfield 26, 3) := by decide +kernel
theorem dX11_count_124 : decode cX11_count 124 = .ok (.getfield 213, 3) := by decide +kernel
theorem dX11_count_127 : decode cX11_count 127 = .ok (.getfield 403, 3) := by decide +kernel
theorem dX11_count_130 : decode cX11_count 130 = .ok (.ireturn, 1) := by decide +kernel
theorem dX11_count_131 : decode cX11_count 131 = .ok (.aload_n 0, 1) := by decide +kernel
theorem dX11_count_132 : decode cX11_count 132 = .ok (.getfield 26, 3) := by decide +kernel
theorem dX11_count_135 : decode cX11_count 135 = .ok (.getfield 213, 3) := by decide +kernel
theorem dX11_count_138 : decode cX11_count 138 = .ok (.getfield 388, 3) := by decide +kernel
theorem dX11_count_141 : decode cX11_count 141 = .ok (.ireturn, 1) := by decide +kernel
theorem dX11_count_142 : decode cX11_count 142 = .ok (.aload_n 0, 1) := by decide +kernel
theorem dX11_count_143 : decode cX11_count 143 = .ok (.getfield 26, 3) := by decide +kernel
theorem dX11_count_146 : decode cX11_count 146 = .ok (.getfield 108, 3) := by decide +kernel
theorem dX11_count_149 : decode cX11_count 149 = .ok (.ireturn, 1) := by decide +kernel
theorem dX11_count_150 : decode cX11_count 150 = .ok (.aload_n 0, 1) := by decide +kernel
theorem dX11_count_151 : decode cX11_count 151 = .ok (.getfield 12, 3) := by decide +kernel
theorem dX11_count_154 : decode cX11_count 154 = .ok (.getfield 89, 3) := by decide +kernel
theorem dX11_count_157 : decode cX11_count 157 = .ok (.ireturn, 1) := by decide +kernel
theorem dX11_count_158 : decode cX11_count 158 = .ok (.aload_n 0, 1) := by decide +kernel
theorem dX11_count_159 : decode cX11_count 159 = .ok (.getfield 40, 3) := by decide +kernel
theorem dX11_count_162 : decode cX11_count 162 = .ok (.invokevirtual 426, 3) := by decide +kernel
theorem dX11_count_165 : decode cX11_count 165 = .ok (.ireturn, 1) := by decide +kernel
theorem dX11_count_166 : decode cX11_count 166 = .ok (.iconst (-1), 1) := by decide +kernel
theorem dX11_count_167 : decode cX11_count 167 = .ok (.ireturn, 1) := by decide +kernel
theorem mokX11_count : MOK yX11_count cX11_count 2 (some .int) 1 := ⟨w6_149, w1_1, ⟨by decide, by decide⟩, by decide +kernel, by decide⟩
abbrev miX11_count : MI := (yX11_count.cls, cX11_count, 2, 4, false)
noncomputable def BX11_count : Sm Int32 := (dSw 0 (vI 1) [(dRet (dGI 5 1 (dGR 11 2 (vR 0)))), (dRet (dGI 5 2 (dGR 11 2 (vR 0)))), (dRet (dGI 5 3 (dGR 11 2 (vR 0)))), (dRet (dGI 5 4 (dGR 11 2 (vR 0)))), (dRet (dGI 5 5 (dGR 11 2 (vR 0)))), (dRet (dGI 5 6 (dGR 11 2 (vR 0)))), (dRet (dGI 5 7 (dGR 11 2 (vR 0)))), (dRet (dGI 1 0 (dGR 5 16 (dGR 11 2 (vR 0))))), (dRet (dGI 1 2 (dGR 5 16 (dGR 11 2 (vR 0))))), (dRet (dGI 5 0 (dGR 11 2 (vR 0)))), (dRet (dGI 9 1 (dGR 11 0 (vR 0)))), (dRet (dCallV 8 DX8_howMany (aR aN 0 (dGR 11 5 (vR 0)))))] (dRet (cI (-1))))
theorem sBX11_count : SS (cvoI, .ireturn) miX11_count [] [] [] [(0, 2), (1, 0)] [(0, 2), (1, 0)] 0 [] BX11_count := (t_sw (PK := []) (X := []) (ps := [64, 72, 80, 88, 96, 104, 112, 120, 131, 142, 150, 158]) (lo := 0) (pD := 166) (s_iload_n dX11_count_0 rfl rfl) dX11_count_1 rfl rfl rfl ⟨(t_ret (cv := cvI) (fun _ _ => rfl) (s_getI ck5 1 (by decide) rfl (s_getR ck11 2 (by decide) rfl (s_aload_n dX11_count_64 rfl rfl) dX11_count_65 w2_220) dX11_count_68 w1_139) dX11_count_71), ⟨(t_ret (cv := cvI) (fun _ _ => rfl) (s_getI ck5 2 (by decide) rfl (s_getR ck11 2 (by decide) rfl (s_aload_n dX11_count_72 rfl rfl) dX11_count_73 w2_220) dX11_count_76 w1_144) dX11_count_79), ⟨(t_ret (cv := cvI) (fun _ _ => rfl) (s_getI ck5 3 (by decide) rfl (s_getR ck11 2 (by decide) rfl (s_aload_n dX11_count_80 rfl rfl) dX11_count_81 w2_220) dX11_count_84 w1_148) dX11_count_87), ⟨(t_ret (cv := cvI) (fun _ _ => rfl) (s_getI ck5 4 (by decide) rfl (s_getR ck11 2 (by decide) rfl (s_aload_n dX11_count_88 rfl rfl) dX11_count_89 w2_220) dX11_count_92 w1_156) dX11_count_95), ⟨(t_ret (cv := cvI) (fun _ _ => rfl) (s_getI ck5 5 (by decide) rfl (s_getR ck11 2 (by decide) rfl (s_aload_n dX11_count_96 rfl rfl) dX11_count_97 w2_220) dX11_count_100 w1_160) dX11_count_103), ⟨(t_ret (cv := cvI) (fun _ _ => rfl) (s_getI ck5 6 (by decide) rfl (s_getR ck11 2 (by decide) rfl (s_aload_n dX11_count_104 rfl rfl) dX11_count_105 w2_220) dX11_count_108 w1_164) dX11_count_111), ⟨(t_ret (cv := cvI) (fun _ _ => rfl) (s_getI ck5 7 (by decide) rfl (s_getR ck11 2 (by decide) rfl (s_aload_n dX11_count_112 rfl rfl) dX11_count_113 w2_220) dX11_count_116 w1_169) dX11_count_119), ⟨(t_ret (cv := cvI) (fun _ _ => rfl) (s_getI ck1 0 (by decide) rfl (s_getR ck5 16 (by decide) rfl (s_getR ck11 2 (by decide) rfl (s_aload_n dX11_count_120 rfl rfl) dX11_count_121 w2_220) dX11_count_124 w1_200) dX11_count_127 w1_89) dX11_count_130), ⟨(t_ret (cv := cvI) (fun _ _ => rfl) (s_getI ck1 2 (by decide) rfl (s_getR ck5 16 (by decide) rfl (s_getR ck11 2 (by decide) rfl (s_aload_n dX11_count_131 rfl rfl) dX11_count_132 w2_220) dX11_count_135 w1_200) dX11_count_138 w1_96) dX11_count_141), ⟨(t_ret (cv := cvI) (fun _ _ => rfl) (s_getI ck5 0 (by decide) rfl (s_getR ck11 2 (by decide) rfl (s_aload_n dX11_count_142 rfl rfl) dX11_count_143 w2_220) dX11_count_146 w1_132) dX11_count_149), ⟨(t_ret (cv := cvI) (fun _ _ => rfl) (s_getI ck9 1 (by decide) rfl (s_getR ck11 0 (by decide) rfl (s_aload_n dX11_count_150 rfl rfl) dX11_count_151 w2_218) dX11_count_154 w1_37) dX11_count_157), ⟨(t_ret (cv := cvI) (fun _ _ => rfl) (s_of_xI (x_callV (ts := [(0, 2)]) ck8 rfl kX8_howMany mokX8_howMany w6_151 w6_152 rfl rfl rfl rfl (a_R (ts := []) 0 a_nil (s_getR ck11 5 (by decide) rfl (s_aload_n dX11_count_158 rfl rfl) dX11_count_159 w2_223) rfl) dX11_count_162 w6_150)) dX11_count_165), trivial⟩⟩⟩⟩⟩⟩⟩⟩⟩⟩⟩⟩ (t_ret (cv := cvI) (fun _ _ => rfl) (s_iconst dX11_count_166 rfl) dX11_count_167) rfl)
noncomputable def DX11_count : Fr → St → Option (Int32 × St) := M1 (fun f => (sI (sR fr0 0 (gR f 0)) 1 (gI f 1))) BX11_count
theorem kX11_count : SND yX11_count cX11_count 2 (some .int) 4 [(0, 2), (1, 0)] cvoI DX11_count := snd_I (nw := 2) (by decide) rfl rfl (fun _ _ => rfl) sBX11_count
theorem dX11_image_0 : decode cX11_image 0 = .ok (.iload_n 1, 1) := by decide +kernel
theorem dX11_image_1 : decode cX11_image 1 = .ok (.ifCond .lt 12, 3) := by decide +kernel
theorem dX11_image_4 : decode cX11_image 4 = .ok (.iload_n 1, 1) := by decide +kernel
theorem dX11_image_5 : decode cX11_image 5 = .ok (.aload_n 0, 1) := by decide +kernel
theorem dX11_image_6 : decode cX11_image 6 = .ok (.getfield 33, 3) := by decide +kernel
theorem dX11_image_9 : decode cX11_image 9 = .ok (.arraylength, 1) := by decide +kernel
theorem dX11_image_10 : decode cX11_image 10 = .ok (.if_icmp .lt 6, 3) := by decide +kernel
theorem dX11_image_13 : decode cX11_image 13 = .ok (.bipush (-2), 2) := by decide +kernel
theorem dX11_image_15 : decode cX11_image 15 = .ok (.ireturn, 1) := by decide +kernel
theorem dX11_image_16 : decode cX11_image 16 = .ok (.aload_n 0, 1) := by decide +kernel
theorem dX11_image_17 : decode cX11_image 17 = .ok (.getfield 33, 3) := by decide +kernel
theorem dX11_image_20 : decode cX11_image 20 = .ok (.iload_n 1, 1) := by decide +kernel
theorem dX11_image_21 : decode cX11_image 21 = .ok (.aaload, 1) := by decide +kernel
theorem dX11_image_22 : decode cX11_image 22 = .ok (.ifnonnull 16, 3) := by decide +kernel
theorem dX11_image_25 : decode cX11_image 25 = .ok (.aload_n 0, 1) := by decide +kernel
theorem dX11_image_26 : decode cX11_image 26 = .ok (.getfield 33, 3) := by decide +kernel
theorem dX11_image_29 : decode cX11_image 29 = .ok (.iload_n 1, 1) := by decide +kernel
theorem dX11_image_30 : decode cX11_image 30 = .ok (.new 23, 3) := by decide +kernel
theorem dX11_image_33 : decode cX11_image 33 = .ok (.dup, 1) := by decide +kernel
theorem dX11_image_34 : decode cX11_image 34 = .ok (.invokespecial 25, 3) := by decide +kernel
theorem dX11_image_37 : decode cX11_image 37 = .ok (.aastore, 1) := by decide +kernel
theorem dX11_image_38 : decode cX11_image 38 = .ok (.aload_n 0, 1) := by decide +kernel
theorem dX11_image_39 : decode cX11_image 39 = .ok (.getfield 33, 3) := by decide +kernel
theorem dX11_image_42 : decode cX11_image 42 = .ok (.iload_n 1, 1) := by decide +kernel
theorem dX11_image_43 : decode cX11_image 43 = .ok (.aaload, 1) := by decide +kernel
theorem dX11_image_44 : decode cX11_image 44 = .ok (.aload_n 0, 1) := by decide +kernel
theorem dX11_image_45 : decode cX11_image 45 = .ok (.getfield 26, 3) := by decide +kernel
theorem dX11_image_48 : decode cX11_image 48 = .ok (.invokevirtual 101, 3) := by decide +kernel
theorem dX11_image_51 : decode cX11_image 51 = .ok (.iconst 0, 1) := by decide +kernel
theorem dX11_image_52 : decode cX11_image 52 = .ok (.ireturn, 1) := by decide +kernel
theorem mokX11_image : MOK yX11_image cX11_image 2 (some .int) 1 := ⟨w6_158, w1_1, ⟨by decide, by decide⟩, by decide +kernel, by decide⟩
abbrev miX11_image : MI := (yX11_image.cls, cX11_image, 2, 3, false)
noncomputable def BX11_image : Sm Int32 := (dSeq (dIf (dOr (dCZ q_lt (vI 1)) (dCI r_ge (vI 1) (dLen (dGR 11 4 (vR 0))))) (dRet (cI (-2))) dSkip) (dSeq (dIf (dNot (dNN (dAR (dGR 11 4 (vR 0)) (vI 1)))) (d3 stR (dGR 11 4 (vR 0)) (vI 1) (dNewC 5 DX5_init)) dSkip) (dSeq (dDo (dCallV 5 DX5_copy (aR (aR aN 0 (dAR (dGR 11 4 (vR 0)) (vI 1))) 1 (dGR 11 2 (vR 0))))) (dRet (cI 0)))))
theorem sBX11_image : SS (cvoI, .ireturn) miX11_image [] [] [] [(0, 2), (1, 0)] [(0, 2), (1, 0)] 0 [] BX11_image := (t_sq (p1 := 16) (Γ' := [(0, 2), (1, 0)]) (t_if (pT := 13) (pF := 16) (X := [16]) (XA := []) (XB := [16]) (c_or (p1 := 4) (pT := 13) (pF := 16) (c_lt_ZJ (pT := 13) (s_iload_n dX11_image_0 rfl rfl) dX11_image_1 rfl) (c_ge_F (pF := 16) (s_iload_n dX11_image_4 rfl rfl) (s_len (s_getR ck11 4 (by decide) rfl (s_aload_n dX11_image_5 rfl rfl) dX11_image_6 w2_222) dX11_image_9) dX11_image_10 rfl)) (t_ret (cv := cvI) (fun _ _ => rfl) (s_bipush dX11_image_13 rfl) dX11_image_15) (t_skip (ld_in rfl) rfl) lda_nil (lda_cons (ld_in rfl) lda_nil)) (t_sq (p1 := 38) (Γ' := [(0, 2), (1, 0)]) (t_if (pT := 25) (pF := 38) (X := [38]) (XA := [38]) (XB := [38]) (c_not (pT := 25) (pF := 38) (c_nn_J (pT := 38) (s_dAR (s_getR ck11 4 (by decide) rfl (s_aload_n dX11_image_16 rfl rfl) dX11_image_17 w2_222) (s_iload_n dX11_image_20 rfl rfl) dX11_image_21) dX11_image_22 rfl)) (t_stR (s_getR ck11 4 (by decide) rfl (s_aload_n dX11_image_25 rfl rfl) dX11_image_26 w2_222) (s_iload_n dX11_image_29 rfl rfl) (s_newN ck5 kX5_init mokX5_init rfl w1_78 w1_75 w1_76 w1_4 df5 rfl rfl dX11_image_30 dX11_image_33 dX11_image_34 nb2 rfl) dX11_image_37 rfl) (t_skip (ld_in rfl) rfl) (lda_cons (ld_in rfl) lda_nil) (lda_cons (ld_in rfl) lda_nil)) (t_sq (p1 := 51) (Γ' := [(0, 2), (1, 0)]) (t_do (x_callV (ts := [(0, 2), (1, 2)]) ck5 rfl kX5_copy mokX5_copy w3_197 w3_198 rfl rfl rfl rfl (a_R (ts := [(0, 2)]) 1 (a_R (ts := []) 0 a_nil (s_dAR (s_getR ck11 4 (by decide) rfl (s_aload_n dX11_image_38 rfl rfl) dX11_image_39 w2_222) (s_iload_n dX11_image_42 rfl rfl) dX11_image_43) rfl) (s_getR ck11 2 (by decide) rfl (s_aload_n dX11_image_44 rfl rfl) dX11_image_45 w2_220) rfl) dX11_image_48 w3_196) rfl) (t_ret (cv := cvI) (fun _ _ => rfl) (s_iconst dX11_image_51 rfl) dX11_image_52))))
noncomputable def DX11_image : Fr → St → Option (Int32 × St) := M1 (fun f => (sI (sR fr0 0 (gR f 0)) 1 (gI f 1))) BX11_image
theorem kX11_image : SND yX11_image cX11_image 2 (some .int) 3 [(0, 2), (1, 0)] cvoI DX11_image := snd_I (nw := 2) (by decide) rfl rfl (fun _ _ => rfl) sBX11_image
theorem dX11_back_0 : decode cX11_back 0 = .ok (.iload_n 1, 1) := by decide +kernel
theorem dX11_back_1 : decode cX11_back 1 = .ok (.ifCond .lt 12, 3) := by decide +kernel
theorem dX11_back_4 : decode cX11_back 4 = .ok (.iload_n 1, 1) := by decide +kernel
theorem dX11_back_5 : decode cX11_back 5 = .ok (.aload_n 0, 1) := by decide +kernel
theorem dX11_back_6 : decode cX11_back 6 = .ok (.getfield 33, 3) := by decide +kernel
theorem dX11_back_9 : decode cX11_back 9 = .ok (.arraylength, 1) := by decide +kernel
theorem dX11_back_10 : decode cX11_back 10 = .ok (.if_icmp .lt 6, 3) := by decide +kernel
theorem dX11_back_13 : decode cX11_back 13 = .ok (.bipush (-2), 2) := by decide +kernel
theorem dX11_back_15 : decode cX11_back 15 = .ok (.ireturn, 1) := by decide +kernel
theorem dX11_back_16 : decode cX11_back 16 = .ok (.aload_n 0, 1) := by decide +kernel
theorem dX11_back_17 : decode cX11_back 17 = .ok (.getfield 33, 3) := by decide +kernel
theorem dX11_back_20 : decode cX11_back 20 = .ok (.iload_n 1, 1) := by decide +kernel
theorem dX11_back_21 : decode cX11_back 21 = .ok (.aaload, 1) := by decide +kernel
theorem dX11_back_22 : decode cX11_back 22 = .ok (.ifnonnull 6, 3) := by decide +kernel
theorem dX11_back_25 : decode cX11_back 25 = .ok (.bipush (-6), 2) := by decide +kernel
theorem dX11_back_27 : decode cX11_back 27 = .ok (.ireturn, 1) := by decide +kernel
theorem dX11_back_28 : decode cX11_back 28 = .ok (.aload_n 0, 1) := by decide +kernel
theorem dX11_back_29 : decode cX11_back 29 = .ok (.getfield 26, 3) := by decide +kernel
theorem dX11_back_32 : decode cX11_back 32 = .ok (.aload_n 0, 1) := by decide +kernel
theorem dX11_back_33 : decode cX11_back 33 = .ok (.getfield 33, 3) := by decide +kernel
theorem dX11_back_36 : decode cX11_back 36 = .ok (.iload_n 1, 1) := by decide +kernel
theorem dX11_back_37 : decode cX11_back 37 = .ok (.aaload, 1) := by decide +kernel
theorem dX11_back_38 : decode cX11_back 38 = .ok (.invokevirtual 101, 3) := by decide +kernel
theorem dX11_back_41 : decode cX11_back 41 = .ok (.aload_n 0, 1) := by decide +kernel
theorem dX11_back_42 : decode cX11_back 42 = .ok (.invokevirtual 105, 3) := by decide +kernel
theorem dX11_back_45 : decode cX11_back 45 = .ok (.iconst 0, 1) := by decide +kernel
theorem dX11_back_46 : decode cX11_back 46 = .ok (.ireturn, 1) := by decide +kernel
theorem mokX11_back : MOK yX11_back cX11_back 2 (some .int) 1 := ⟨w6_162, w1_1, ⟨by decide, by decide⟩, by decide +kernel, by decide⟩
abbrev miX11_back : MI := (yX11_back.cls, cX11_back, 2, 3, false)
noncomputable def BX11_back : Sm Int32 := (dSeq (dIf (dOr (dCZ q_lt (vI 1)) (dCI r_ge (vI 1) (dLen (dGR 11 4 (vR 0))))) (dRet (cI (-2))) dSkip) (dSeq (dIf (dNot (dNN (dAR (dGR 11 4 (vR 0)) (vI 1)))) (dRet (cI (-6))) dSkip) (dSeq (dDo (dCallV 5 DX5_copy (aR (aR aN 0 (dGR 11 2 (vR 0))) 1 (dAR (dGR 11 4 (vR 0)) (vI 1))))) (dSeq (dDo (dCallV 11 DX11_makeStale (aR aN 0 (vR 0)))) (dRet (cI 0))))))
theorem sBX11_back : SS (cvoI, .ireturn) miX11_back [] [] [] [(0, 2), (1, 0)] [(0, 2), (1, 0)] 0 [] BX11_back := (t_sq (p1 := 16) (Γ' := [(0, 2), (1, 0)]) (t_if (pT := 13) (pF := 16) (X := [16]) (XA := []) (XB := [16]) (c_or (p1 := 4) (pT := 13) (pF := 16) (c_lt_ZJ (pT := 13) (s_iload_n dX11_back_0 rfl rfl) dX11_back_1 rfl) (c_ge_F (pF := 16) (s_iload_n dX11_back_4 rfl rfl) (s_len (s_getR ck11 4 (by decide) rfl (s_aload_n dX11_back_5 rfl rfl) dX11_back_6 w2_222) dX11_back_9) dX11_back_10 rfl)) (t_ret (cv := cvI) (fun _ _ => rfl) (s_bipush dX11_back_13 rfl) dX11_back_15) (t_skip (ld_in rfl) rfl) lda_nil (lda_cons (ld_in rfl) lda_nil)) (t_sq (p1 := 28) (Γ' := [(0, 2), (1, 0)]) (t_if (pT := 25) (pF := 28) (X := [28]) (XA := []) (XB := [28]) (c_not (pT := 25) (pF := 28) (c_nn_J (pT := 28) (s_dAR (s_getR ck11 4 (by decide) rfl (s_aload_n dX11_back_16 rfl rfl) dX11_back_17 w2_222) (s_iload_n dX11_back_20 rfl rfl) dX11_back_21) dX11_back_22 rfl)) (t_ret (cv := cvI) (fun _ _ => rfl) (s_bipush dX11_back_25 rfl) dX11_back_27) (t_skip (ld_in rfl) rfl) lda_nil (lda_cons (ld_in rfl) lda_nil)) (t_sq (p1 := 41) (Γ' := [(0, 2), (1, 0)]) (t_do (x_callV (ts := [(0, 2), (1, 2)]) ck5 rfl kX5_copy mokX5_copy w3_197 w3_198 rfl rfl rfl rfl (a_R (ts := [(0, 2)]) 1 (a_R (ts := []) 0 a_nil (s_getR ck11 2 (by decide) rfl (s_aload_n dX11_back_28 rfl rfl) dX11_back_29 w2_220) rfl) (s_dAR (s_getR ck11 4 (by decide) rfl (s_aload_n dX11_back_32 rfl rfl) dX11_back_33 w2_222) (s_iload_n dX11_back_36 rfl rfl) dX11_back_37) rfl) dX11_back_38 w3_196) rfl) (t_sq (p1 := 45) (Γ' := [(0, 2), (1, 0)]) (t_do (x_callV (ts := [(0, 2)]) ck11 rfl kX11_makeStale mokX11_makeStale w3_210 ps1_14 rfl rfl rfl rfl (a_R (ts := []) 0 a_nil (s_aload_n dX11_back_41 rfl rfl) rfl) dX11_back_42 w3_208) rfl) (t_ret (cv := cvI) (fun _ _ => rfl) (s_iconst dX11_back_45 rfl) dX11_back_46)))))
noncomputable def DX11_back : Fr → St → Option (Int32 × St) := M1 (fun f => (sI (sR fr0 0 (gR f 0)) 1 (gI f 1))) BX11_back
theorem kX11_back : SND yX11_back cX11_back 2 (some .int) 3 [(0, 2), (1, 0)] cvoI DX11_back := snd_I (nw := 2) (by decide) rfl rfl (fun _ _ => rfl) sBX11_back
theorem dX8_cut_0 : decode cX8_cut 0 = .ok (.iload_n 2, 1) := by decide +kernel
theorem dX8_cut_1 : decode cX8_cut 1 = .ok (.tableswitch 41 0 2 #[27, 32, 37], 27) := by decide +kernel
theorem dX8_cut_28 : decode cX8_cut 28 = .ok (.lload_n 0, 1) := by decide +kernel
theorem dX8_cut_29 : decode cX8_cut 29 = .ok (.l2i, 1) := by decide +kernel
theorem dX8_cut_30 : decode cX8_cut 30 = .ok (.i2b, 1) := by decide +kernel
theorem dX8_cut_31 : decode cX8_cut 31 = .ok (.i2l, 1) := by decide +kernel
theorem dX8_cut_32 : decode cX8_cut 32 = .ok (.lreturn, 1) := by decide +kernel
theorem dX8_cut_33 : decode cX8_cut 33 = .ok (.lload_n 0, 1) := by decide +kernel
theorem dX8_cut_34 : decode cX8_cut 34 = .ok (.l2i, 1) := by decide +kernel
theorem dX8_cut_35 : decode cX8_cut 35 = .ok (.i2s, 1) := by decide +kernel
theorem dX8_cut_36 : decode cX8_cut 36 = .ok (.i2l, 1) := by decide +kernel
theorem dX8_cut_37 : decode cX8_cut 37 = .ok (.lreturn, 1) := by decide +kernel
theorem dX8_cut_38 : decode cX8_cut 38 = .ok (.lload_n 0, 1) := by decide +kernel
theorem dX8_cut_39 : decode cX8_cut 39 = .ok (.l2i, 1) := by decide +kernel
theorem dX8_cut_40 : decode cX8_cut 40 = .ok (.i2l, 1) := by decide +kernel
theorem dX8_cut_41 : decode cX8_cut 41 = .ok (.lreturn, 1) := by decide +kernel
theorem dX8_cut_42 : decode cX8_cut 42 = .ok (.lload_n 0, 1) := by decide +kernel
theorem dX8_cut_43 : decode cX8_cut 43 = .ok (.lreturn, 1) := by decide +kernel
theorem mokX8_cut : MOK yX8_cut cX8_cut 3 (some .long) 2 := ⟨w6_180, w1_6, ⟨by decide, by decide⟩, by decide +kernel, by decide⟩
abbrev miX8_cut : MI := (yX8_cut.cls, cX8_cut, 3, 1, false)
noncomputable def BX8_cut : Sm Int64 := (dSw 0 (vI 2) [(dRet (d1 o_i2l (d1 o_i2b (d1 o_l2i (vL 0))))), (dRet (d1 o_i2l (d1 o_i2s (d1 o_l2i (vL 0))))), (dRet (d1 o_i2l (d1 o_l2i (vL 0))))] (dRet (vL 0)))
theorem sBX8_cut : SS (cvoL, .lreturn) miX8_cut [] [] [] [(0, 1), (2, 0)] [(0, 1), (2, 0)] 0 [] BX8_cut := (t_sw (PK := []) (X := []) (ps := [28, 33, 38]) (lo := 0) (pD := 42) (s_iload_n dX8_cut_0 rfl rfl) dX8_cut_1 rfl rfl rfl ⟨(t_ret (cv := cvL) (fun _ _ => rfl) (s_i2l (s_i2b (s_l2i (s_lload_n dX8_cut_28 rfl rfl) dX8_cut_29) dX8_cut_30) dX8_cut_31) dX8_cut_32), ⟨(t_ret (cv := cvL) (fun _ _ => rfl) (s_i2l (s_i2s (s_l2i (s_lload_n dX8_cut_33 rfl rfl) dX8_cut_34) dX8_cut_35) dX8_cut_36) dX8_cut_37), ⟨(t_ret (cv := cvL) (fun _ _ => rfl) (s_i2l (s_l2i (s_lload_n dX8_cut_38 rfl rfl) dX8_cut_39) dX8_cut_40) dX8_cut_41), trivial⟩⟩⟩ (t_ret (cv := cvL) (fun _ _ => rfl) (s_lload_n dX8_cut_42 rfl rfl) dX8_cut_43) rfl)
noncomputable def DX8_cut : Fr → St → Option (Int64 × St) := M1 (fun f => (sI (sL fr0 0 (gL f 0)) 2 (gI f 2))) BX8_cut
theorem kX8_cut : SND yX8_cut cX8_cut 3 (some .long) 1 [(0, 1), (2, 0)] cvoL DX8_cut := snd_L (nw := 3) (by decide) rfl rfl (fun _ _ => rfl) sBX8_cut
theorem dX8_set_0 : decode cX8_set 0 = .ok (.aload_n 0, 1) := by decide +kernel
theorem dX8_set_1 : decode cX8_set 1 = .ok (.iload_n 1, 1) := by decide +kernel
theorem dX8_set_2 : decode cX8_set 2 = .ok (.invokevirtual 30, 3) := by decide +kernel
theorem dX8_set_5 : decode cX8_set 5 = .ok (.ifCond .ne 6, 3) := by decide +kernel
theorem dX8_set_8 : decode cX8_set 8 = .ok (.bipush (-2), 2) := by decide +kernel
theorem dX8_set_10 : decode cX8_set 10 = .ok (.ireturn, 1) := by decide +kernel
theorem dX8_set_11 : decode cX8_set 11 = .ok (.aload_n 0, 1) := by decide +kernel
theorem dX8_set_12 : decode cX8_set 12 = .ok (.iload_n 1, 1) := by decide +kernel
theorem dX8_set_13 : decode cX8_set 13 = .ok (.invokevirtual 26, 3) := by decide +kernel
theorem dX8_set_16 : decode cX8_set 16 = .ok (.ifCond .ne 6, 3) := by decide +kernel
theorem dX8_set_19 : decode cX8_set 19 = .ok (.bipush (-6), 2) := by decide +kernel
theorem dX8_set_21 : decode cX8_set 21 = .ok (.ireturn, 1) := by decide +kernel
theorem dX8_set_22 : decode cX8_set 22 = .ok (.iload_n 1, 1) := by decide +kernel
theorem dX8_set_23 : decode cX8_set 23 = .ok (.bipush 60, 2) := by decide +kernel
theorem dX8_set_25 : decode cX8_set 25 = .ok (.imul, 1) := by decide +kernel
theorem dX8_set_26 : decode cX8_set 26 = .ok (.iload_n 2, 1) := by decide +kernel
theorem dX8_set_27 : decode cX8_set 27 = .ok (.iadd, 1) := by decide +kernel
theorem dX8_set_28 : decode cX8_set 28 = .ok (.istore 5, 2) := by decide +kernel
theorem dX8_set_30 : decode cX8_set 30 = .ok (.iload_n 2, 1) := by decide +kernel
theorem dX8_set_31 : decode cX8_set 31 = .ok (.ifCond .lt 27, 3) := by decide +kernel
theorem dX8_set_34 : decode cX8_set 34 = .ok (.iload_n 2, 1) := by decide +kernel
theorem dX8_set_35 : decode cX8_set 35 = .ok (.aload_n 0, 1) := by decide +kernel
theorem dX8_set_36 : decode cX8_set 36 = .ok (.iload_n 1, 1) := by decide +kernel
theorem dX8_set_37 : decode cX8_set 37 = .ok (.invokevirtual 41, 3) := by decide +kernel
theorem dX8_set_40 : decode cX8_set 40 = .ok (.if_icmp .ge 18, 3) := by decide +kernel
theorem dX8_set_43 : decode cX8_set 43 = .ok (.iload 5, 2) := by decide +kernel
theorem dX8_set_45 : decode cX8_set 45 = .ok (.ifCond .lt 13, 3) := by decide +kernel
theorem dX8_set_48 : decode cX8_set 48 = .ok (.iload 5, 2) := by decide +kernel
theorem dX8_set_50 : decode cX8_set 50 = .ok (.aload_n 0, 1) := by decide +kernel
theorem dX8_set_51 : decode cX8_set 51 = .ok (.getfield 18, 3) := by decide +kernel
theorem dX8_set_54 : decode cX8_set 54 = .ok (.arraylength, 1) := by decide +kernel
theorem dX8_set_55 : decode cX8_set 55 = .ok (.if_icmp .lt 6, 3) := by decide +kernel
theorem dX8_set_58 : decode cX8_set 58 = .ok (.bipush (-7), 2) := by decide +kernel
theorem dX8_set_60 : decode cX8_set 60 = .ok (.ireturn, 1) := by decide +kernel
theorem dX8_set_61 : decode cX8_set 61 = .ok (.aload_n 0, 1) := by decide +kernel
theorem dX8_set_62 : decode cX8_set 62 = .ok (.getfield 18, 3) := by decide +kernel
theorem dX8_set_65 : decode cX8_set 65 = .ok (.iload 5, 2) := by decide +kernel
theorem dX8_set_67 : decode cX8_set 67 = .ok (.lload_n 3, 1) := by decide +kernel
theorem dX8_set_68 : decode cX8_set 68 = .ok (.aload_n 0, 1) := by decide +kernel
theorem dX8_set_69 : decode cX8_set 69 = .ok (.getfield 11, 3) := by decide +kernel
theorem dX8_set_72 : decode cX8_set 72 = .ok (.iload_n 1, 1) := by decide +kernel
theorem dX8_set_73 : decode cX8_set 73 = .ok (.invokestatic 22, 3) := by decide +kernel
theorem dX8_set_76 : decode cX8_set 76 = .ok (.iconst 1, 1) := by decide +kernel
theorem dX8_set_77 : decode cX8_set 77 = .ok (.isub, 1) := by decide +kernel
theorem dX8_set_78 : decode cX8_set 78 = .ok (.invokestatic 45, 3) := by decide +kernel
theorem dX8_set_81 : decode cX8_set 81 = .ok (.lastore, 1) := by decide +kernel
theorem dX8_set_82 : decode cX8_set 82 = .ok (.iconst 0, 1) := by decide +kernel
theorem dX8_set_83 : decode cX8_set 83 = .ok (.ireturn, 1) := by decide +kernel
theorem mokX8_set : MOK yX8_set cX8_set 6 (some .int) 3 := ⟨w6_176, w1_6, ⟨by decide, by decide⟩, by decide +kernel, by decide⟩
abbrev miX8_set : MI := (yX8_set.cls, cX8_set, 6, 3, false)
noncomputable def BX8_set : Sm Int32 := (dSeq (dIf (dNot (dCZ q_ne (dCallV 8 DX8_isSlot (aI (aR aN 0 (vR 0)) 1 (vI 1))))) (dRet (cI (-2))) dSkip) (dSeq (dIf (dNot (dCZ q_ne (dCallV 8 DX8_hasRow (aI (aR aN 0 (vR 0)) 1 (vI 1))))) (dRet (cI (-6))) dSkip) (dSeq (dSetI 5 (d2 o_iadd (d2 o_imul (vI 1) (cI 60)) (vI 2))) (dSeq (dIf (dOr (dOr (dOr (dCZ q_lt (vI 2)) (dCI r_ge (vI 2) (dCallV 8 DX8_sizeOf (aI (aR aN 0 (vR 0)) 1 (vI 1))))) (dCZ q_lt (vI 5))) (dCI r_ge (vI 5) (dLen (dGR 8 2 (vR 0))))) (dRet (cI (-7))) dSkip) (dSeq (d3 stL (dGR 8 2 (vR 0)) (vI 5) (dCall DX8_cut (aI (aL aN 0 (vL 3)) 2 (d2 o_isub (dCall DX11_cell (aI (aR aN 0 (dGR 8 0 (vR 0))) 1 (vI 1))) (cI 1))))) (dRet (cI 0)))))))
theorem sBX8_set : SS (cvoI, .ireturn) miX8_set [] [] [] [(0, 2), (1, 0), (2, 0), (3, 1)] [(0, 2), (1, 0), (2, 0), (3, 1)] 0 [] BX8_set := (t_sq (p1 := 11) (Γ' := [(0, 2), (1, 0), (2, 0), (3, 1)]) (t_if (pT := 8) (pF := 11) (X := [11]) (XA := []) (XB := [11]) (c_not (pT := 8) (pF := 11) (c_ne_ZJ (pT := 11) (s_of_xI (x_callV (ts := [(0, 2), (1, 0)]) ck8 rfl kX8_isSlot mokX8_isSlot w5_198 w5_199 rfl rfl rfl rfl (a_I (ts := [(0, 2)]) 1 (a_R (ts := []) 0 a_nil (s_aload_n dX8_set_0 rfl rfl) rfl) (s_iload_n dX8_set_1 rfl rfl) rfl) dX8_set_2 w6_171)) dX8_set_5 rfl)) (t_ret (cv := cvI) (fun _ _ => rfl) (s_bipush dX8_set_8 rfl) dX8_set_10) (t_skip (ld_in rfl) rfl) lda_nil (lda_cons (ld_in rfl) lda_nil)) (t_sq (p1 := 22) (Γ' := [(0, 2), (1, 0), (2, 0), (3, 1)]) (t_if (pT := 19) (pF := 22) (X := [22]) (XA := []) (XB := [22]) (c_not (pT := 19) (pF := 22) (c_ne_ZJ (pT := 22) (s_of_xI (x_callV (ts := [(0, 2), (1, 0)]) ck8 rfl kX8_hasRow mokX8_hasRow w5_203 w5_204 rfl rfl rfl rfl (a_I (ts := [(0, 2)]) 1 (a_R (ts := []) 0 a_nil (s_aload_n dX8_set_11 rfl rfl) rfl) (s_iload_n dX8_set_12 rfl rfl) rfl) dX8_set_13 w6_154)) dX8_set_16 rfl)) (t_ret (cv := cvI) (fun _ _ => rfl) (s_bipush dX8_set_19 rfl) dX8_set_21) (t_skip (ld_in rfl) rfl) lda_nil (lda_cons (ld_in rfl) lda_nil)) (t_sq (p1 := 30) (Γ' := [(0, 2), (1, 0), (2, 0), (3, 1), (5, 0)]) (t_istore (s_iadd (s_imul (s_iload_n dX8_set_22 rfl rfl) (s_bipush dX8_set_23 rfl) dX8_set_25) (s_iload_n dX8_set_26 rfl rfl) dX8_set_27) dX8_set_28 rfl rfl) (t_sq (p1 := 61) (Γ' := [(0, 2), (1, 0), (2, 0), (3, 1), (5, 0)]) (t_if (pT := 58) (pF := 61) (X := [61]) (XA := []) (XB := [61]) (c_or (p1 := 48) (pT := 58) (pF := 61) (c_or (p1 := 43) (pT := 58) (pF := 48) (c_or (p1 := 34) (pT := 58) (pF := 43) (c_lt_ZJ (pT := 58) (s_iload_n dX8_set_30 rfl rfl) dX8_set_31 rfl) (c_ge_J (pT := 58) (s_iload_n dX8_set_34 rfl rfl) (s_of_xI (x_callV (ts := [(0, 2), (1, 0)]) ck8 rfl kX8_sizeOf mokX8_sizeOf w5_208 w5_209 rfl rfl rfl rfl (a_I (ts := [(0, 2)]) 1 (a_R (ts := []) 0 a_nil (s_aload_n dX8_set_35 rfl rfl) rfl) (s_iload_n dX8_set_36 rfl rfl) rfl) dX8_set_37 w6_177)) dX8_set_40 rfl)) (c_lt_ZJ (pT := 58) (s_iload dX8_set_43 rfl) dX8_set_45 rfl)) (c_ge_F (pF := 61) (s_iload dX8_set_48 rfl) (s_len (s_getR ck8 2 (by decide) rfl (s_aload_n dX8_set_50 rfl rfl) dX8_set_51 w2_5) dX8_set_54) dX8_set_55 rfl)) (t_ret (cv := cvI) (fun _ _ => rfl) (s_bipush dX8_set_58 rfl) dX8_set_60) (t_skip (ld_in rfl) rfl) lda_nil (lda_cons (ld_in rfl) lda_nil)) (t_sq (p1 := 82) (Γ' := [(0, 2), (1, 0), (2, 0), (3, 1), (5, 0)]) (t_stL (s_getR ck8 2 (by decide) rfl (s_aload_n dX8_set_61 rfl rfl) dX8_set_62 w2_5) (s_iload dX8_set_65 rfl) (s_of_xL (x_call (ts := [(0, 1), (2, 0)]) kX8_cut mokX8_cut w6_179 rfl rfl rfl (a_I (ts := [(0, 1)]) 2 (a_L (ts := []) 0 a_nil (s_lload_n dX8_set_67 rfl rfl) rfl) (s_isub (s_of_xI (x_callN (ts := [(0, 2), (1, 0)]) kX11_cell mokX11_cell w3_229 rfl rfl rfl (a_I (ts := [(0, 2)]) 1 (a_R (ts := []) 0 a_nil (s_getR ck8 0 (by decide) rfl (s_aload_n dX8_set_68 rfl rfl) dX8_set_69 w2_3) rfl) (s_iload_n dX8_set_72 rfl rfl) rfl) dX8_set_73 nb27)) (s_iconst dX8_set_76 rfl) dX8_set_77) rfl) dX8_set_78 w6_178)) dX8_set_81 rfl) (t_ret (cv := cvI) (fun _ _ => rfl) (s_iconst dX8_set_82 rfl) dX8_set_83))))))
noncomputable def DX8_set : Fr → St → Option (Int32 × St) := M1 (fun f => (sL (sI (sI (sR fr0 0 (gR f 0)) 1 (gI f 1)) 2 (gI f 2)) 3 (gL f 3))) BX8_set
theorem kX8_set : SND yX8_set cX8_set 6 (some .int) 3 [(0, 2), (1, 0), (2, 0), (3, 1)] cvoI DX8_set := snd_I (nw := 5) (by decide) rfl rfl (fun _ _ => rfl) sBX8_set
theorem dX8_make_0 : decode cX8_make 0 = .ok (.aload_n 0, 1) := by decide +kernel
theorem dX8_make_1 : decode cX8_make 1 = .ok (.iload_n 1, 1) := by decide +kernel
theorem dX8_make_2 : decode cX8_make 2 = .ok (.invokevirtual 30, 3) := by decide +kernel
theorem dX8_make_5 : decode cX8_make 5 = .ok (.ifCond .eq 18, 3) := by decide +kernel
theorem dX8_make_8 : decode cX8_make 8 = .ok (.iload_n 2, 1) := by decide +kernel
theorem dX8_make_9 : decode cX8_make 9 = .ok (.ifCond .lt 14, 3) := by decide +kernel
theorem dX8_make_12 : decode cX8_make 12 = .ok (.iload_n 2, 1) := by decide +kernel
theorem dX8_make_13 : decode cX8_make 13 = .ok (.iconst 4, 1) := by decide +kernel
theorem dX8_make_14 : decode cX8_make 14 = .ok (.if_icmp .ge 9, 3) := by decide +kernel
theorem dX8_make_17 : decode cX8_make 17 = .ok (.iload_n 3, 1) := by decide +kernel
theorem dX8_make_18 : decode cX8_make 18 = .ok (.bipush 60, 2) := by decide +kernel
theorem dX8_make_20 : decode cX8_make 20 = .ok (.if_icmp .le 6, 3) := by decide +kernel
theorem dX8_make_23 : decode cX8_make 23 = .ok (.bipush (-2), 2) := by decide +kernel
theorem dX8_make_25 : decode cX8_make 25 = .ok (.ireturn, 1) := by decide +kernel
theorem dX8_make_26 : decode cX8_make 26 = .ok (.iload_n 3, 1) := by decide +kernel
theorem dX8_make_27 : decode cX8_make 27 = .ok (.ifCond .ge 6, 3) := by decide +kernel
theorem dX8_make_30 : decode cX8_make 30 = .ok (.bipush (-3), 2) := by decide +kernel
theorem dX8_make_32 : decode cX8_make 32 = .ok (.ireturn, 1) := by decide +kernel
theorem dX8_make_33 : decode cX8_make 33 = .ok (.aload_n 0, 1) := by decide +kernel
theorem dX8_make_34 : decode cX8_make 34 = .ok (.getfield 11, 3) := by decide +kernel
theorem dX8_make_37 : decode cX8_make 37 = .ok (.iload_n 1, 1) := by decide +kernel
theorem dX8_make_38 : decode cX8_make 38 = .ok (.iload_n 2, 1) := by decide +kernel
theorem dX8_make_39 : decode cX8_make 39 = .ok (.iconst 1, 1) := by decide +kernel
theorem dX8_make_40 : decode cX8_make 40 = .ok (.iadd, 1) := by decide +kernel
theorem dX8_make_41 : decode cX8_make 41 = .ok (.invokestatic 33, 3) := by decide +kernel
theorem dX8_make_44 : decode cX8_make 44 = .ok (.aload_n 0, 1) := by decide +kernel
theorem dX8_make_45 : decode cX8_make 45 = .ok (.getfield 15, 3) := by decide +kernel
theorem dX8_make_48 : decode cX8_make 48 = .ok (.iload_n 1, 1) := by decide +kernel
theorem dX8_make_49 : decode cX8_make 49 = .ok (.iload_n 3, 1) := by decide +kernel
theorem dX8_make_50 : decode cX8_make 50 = .ok (.invokestatic 33, 3) := by decide +kernel
theorem dX8_make_53 : decode cX8_make 53 = .ok (.iconst 0, 1) := by decide +kernel
theorem dX8_make_54 : decode cX8_make 54 = .ok (.istore 4, 2) := by decide +kernel
theorem dX8_make_56 : decode cX8_make 56 = .ok (.iload 4, 2) := by decide +kernel
theorem dX8_make_58 : decode cX8_make 58 = .ok (.iload_n 3, 1) := by decide +kernel
theorem dX8_make_59 : decode cX8_make 59 = .ok (.if_icmp .ge 18, 3) := by decide +kernel
theorem dX8_make_62 : decode cX8_make 62 = .ok (.aload_n 0, 1) := by decide +kernel
theorem dX8_make_63 : decode cX8_make 63 = .ok (.iload_n 1, 1) := by decide +kernel
theorem dX8_make_64 : decode cX8_make 64 = .ok (.iload 4, 2) := by decide +kernel
theorem dX8_make_66 : decode cX8_make 66 = .ok (.lconst 0, 1) := by decide +kernel
theorem dX8_make_67 : decode cX8_make 67 = .ok (.invokevirtual 37, 3) := by decide +kernel
theorem dX8_make_70 : decode cX8_make 70 = .ok (.pop, 1) := by decide +kernel
theorem dX8_make_71 : decode cX8_make 71 = .ok (.iinc 4 1, 3) := by decide +kernel
theorem dX8_make_74 : decode cX8_make 74 = .ok (.goto (-18), 3) := by decide +kernel
theorem dX8_make_77 : decode cX8_make 77 = .ok (.iconst 0, 1) := by decide +kernel
theorem dX8_make_78 : decode cX8_make 78 = .ok (.ireturn, 1) := by decide +kernel
theorem mokX8_make : MOK yX8_make cX8_make 5 (some .int) 3 := ⟨w6_170, w1_6, ⟨by decide, by decide⟩, by decide +kernel, by decide⟩
abbrev miX8_make : MI := (yX8_make.cls, cX8_make, 5, 4, false)
noncomputable def LX8_make_1 : Sm Int32 := dLoop (fun f => (sI (sI (sI (sI (sR fr0 0 (gR f 0)) 1 (gI f 1)) 2 (gI f 2)) 3 (gI f 3)) 4 (gI f 4))) (dCI r_lt (vI 4) (vI 3)) (dDo (dCallV 8 DX8_set (aL (aI (aI (aR aN 0 (vR 0)) 1 (vI 1)) 2 (vI 4)) 3 (cL 0)))) (dInc 4 1)
theorem sLX8_make_1 {ΓL : Gm} {PB PK : List Nat} : SS (cvoI, .ireturn) miX8_make ΓL PB PK [(0, 2), (1, 0), (2, 0), (3, 0), (4, 0)] [(0, 2), (1, 0), (2, 0), (3, 0), (4, 0)] 56 [77] LX8_make_1 := t_loop (pT := 62) (pF := 77) (pu := 71) (PB' := []) (PK' := []) (XB := [71]) (XU := [74]) (fun _ _ => rfl) rfl (c_lt_F (pF := 77) (s_iload dX8_make_56 rfl) (s_iload_n dX8_make_58 rfl rfl) dX8_make_59 rfl) (t_pop (s_of_xI (x_callV (ts := [(0, 2), (1, 0), (2, 0), (3, 1)]) ck8 rfl kX8_set mokX8_set w6_174 w6_175 rfl rfl rfl rfl (a_L (ts := [(0, 2), (1, 0), (2, 0)]) 3 (a_I (ts := [(0, 2), (1, 0)]) 2 (a_I (ts := [(0, 2)]) 1 (a_R (ts := []) 0 a_nil (s_aload_n dX8_make_62 rfl rfl) rfl) (s_iload_n dX8_make_63 rfl rfl) rfl) (s_iload dX8_make_64 rfl) rfl) (s_lconst dX8_make_66 rfl) rfl) dX8_make_67 w6_173)) dX8_make_70 rfl) (t_iinc dX8_make_71 rfl rfl rfl rfl) (lda_cons (ld_in rfl) lda_nil) lda_nil (lda_cons (ld_goto (y := 56) dX8_make_74 rfl (ld_in rfl)) lda_nil) (ld_in rfl) lda_nil
noncomputable def BX8_make : Sm Int32 := (dSeq (dIf (dOr (dOr (dOr (dNot (dCZ q_ne (dCallV 8 DX8_isSlot (aI (aR aN 0 (vR 0)) 1 (vI 1))))) (dCZ q_lt (vI 2))) (dCI r_ge (vI 2) (cI 4))) (dCI r_gt (vI 3) (cI 60))) (dRet (cI (-2))) dSkip) (dSeq (dIf (dCZ q_lt (vI 3)) (dRet (cI (-3))) dSkip) (dSeq (dDo (dCall DX11_put (aI (aI (aR aN 0 (dGR 8 0 (vR 0))) 1 (vI 1)) 2 (d2 o_iadd (vI 2) (cI 1))))) (dSeq (dDo (dCall DX11_put (aI (aI (aR aN 0 (dGR 8 1 (vR 0))) 1 (vI 1)) 2 (vI 3)))) (dSeq (dSeq (dSetI 4 (cI 0)) LX8_make_1) (dRet (cI 0)))))))
theorem sBX8_make : SS (cvoI, .ireturn) miX8_make [] [] [] [(0, 2), (1, 0), (2, 0), (3, 0)] [(0, 2), (1, 0), (2, 0), (3, 0)] 0 [] BX8_make := (t_sq (p1 := 26) (Γ' := [(0, 2), (1, 0), (2, 0), (3, 0)]) (t_if (pT := 23) (pF := 26) (X := [26]) (XA := []) (XB := [26]) (c_or (p1 := 17) (pT := 23) (pF := 26) (c_or (p1 := 12) (pT := 23) (pF := 17) (c_or (p1 := 8) (pT := 23) (pF := 12) (c_not (pT := 23) (pF := 8) (c_ne_ZF (pF := 23) (s_of_xI (x_callV (ts := [(0, 2), (1, 0)]) ck8 rfl kX8_isSlot mokX8_isSlot w5_198 w5_199 rfl rfl rfl rfl (a_I (ts := [(0, 2)]) 1 (a_R (ts := []) 0 a_nil (s_aload_n dX8_make_0 rfl rfl) rfl) (s_iload_n dX8_make_1 rfl rfl) rfl) dX8_make_2 w6_171)) dX8_make_5 rfl)) (c_lt_ZJ (pT := 23) (s_iload_n dX8_make_8 rfl rfl) dX8_make_9 rfl)) (c_ge_J (pT := 23) (s_iload_n dX8_make_12 rfl rfl) (s_iconst dX8_make_13 rfl) dX8_make_14 rfl)) (c_gt_F (pF := 26) (s_iload_n dX8_make_17 rfl rfl) (s_bipush dX8_make_18 rfl) dX8_make_20 rfl)) (t_ret (cv := cvI) (fun _ _ => rfl) (s_bipush dX8_make_23 rfl) dX8_make_25) (t_skip (ld_in rfl) rfl) lda_nil (lda_cons (ld_in rfl) lda_nil)) (t_sq (p1 := 33) (Γ' := [(0, 2), (1, 0), (2, 0), (3, 0)]) (t_if (pT := 30) (pF := 33) (X := [33]) (XA := []) (XB := [33]) (c_lt_ZF (pF := 33) (s_iload_n dX8_make_26 rfl rfl) dX8_make_27 rfl) (t_ret (cv := cvI) (fun _ _ => rfl) (s_bipush dX8_make_30 rfl) dX8_make_32) (t_skip (ld_in rfl) rfl) lda_nil (lda_cons (ld_in rfl) lda_nil)) (t_sq (p1 := 44) (Γ' := [(0, 2), (1, 0), (2, 0), (3, 0)]) (t_do (x_callN (ts := [(0, 2), (1, 0), (2, 0)]) kX11_put mokX11_put w3_161 rfl rfl rfl (a_I (ts := [(0, 2), (1, 0)]) 2 (a_I (ts := [(0, 2)]) 1 (a_R (ts := []) 0 a_nil (s_getR ck8 0 (by decide) rfl (s_aload_n dX8_make_33 rfl rfl) dX8_make_34 w2_3) rfl) (s_iload_n dX8_make_37 rfl rfl) rfl) (s_iadd (s_iload_n dX8_make_38 rfl rfl) (s_iconst dX8_make_39 rfl) dX8_make_40) rfl) dX8_make_41 nb32) rfl) (t_sq (p1 := 53) (Γ' := [(0, 2), (1, 0), (2, 0), (3, 0)]) (t_do (x_callN (ts := [(0, 2), (1, 0), (2, 0)]) kX11_put mokX11_put w3_161 rfl rfl rfl (a_I (ts := [(0, 2), (1, 0)]) 2 (a_I (ts := [(0, 2)]) 1 (a_R (ts := []) 0 a_nil (s_getR ck8 1 (by decide) rfl (s_aload_n dX8_make_44 rfl rfl) dX8_make_45 w2_4) rfl) (s_iload_n dX8_make_48 rfl rfl) rfl) (s_iload_n dX8_make_49 rfl rfl) rfl) dX8_make_50 nb32) rfl) (t_sq (p1 := 77) (Γ' := [(0, 2), (1, 0), (2, 0), (3, 0)]) (t_sq (p1 := 56) (Γ' := [(0, 2), (1, 0), (2, 0), (3, 0), (4, 0)]) (t_istore (s_iconst dX8_make_53 rfl) dX8_make_54 rfl rfl) (tn_to (Γ' := [(0, 2), (1, 0), (2, 0), (3, 0), (4, 0)]) (XA := [77]) sLX8_make_1 (lda_cons (ld_in rfl) lda_nil) rfl)) (t_ret (cv := cvI) (fun _ _ => rfl) (s_iconst dX8_make_77 rfl) dX8_make_78))))))
noncomputable def DX8_make : Fr → St → Option (Int32 × St) := M1 (fun f => (sI (sI (sI (sR fr0 0 (gR f 0)) 1 (gI f 1)) 2 (gI f 2)) 3 (gI f 3))) BX8_make
theorem kX8_make : SND yX8_make cX8_make 5 (some .int) 4 [(0, 2), (1, 0), (2, 0), (3, 0)] cvoI DX8_make := snd_I (nw := 4) (by decide) rfl rfl (fun _ _ => rfl) sBX8_make
theorem dX11_row_0 : decode cX11_row 0 = .ok (.aload_n 0, 1) := by decide +kernel
theorem dX11_row_1 : decode cX11_row 1 = .ok (.getfield 40, 3) := by decide +kernel
theorem dX11_row_4 : decode cX11_row 4 = .ok (.iload_n 1, 1) := by decide +kernel
theorem dX11_row_5 : decode cX11_row 5 = .ok (.iload_n 2, 1) := by decide +kernel
theorem dX11_row_6 : decode cX11_row 6 = .ok (.iload_n 3, 1) := by decide +kernel
theorem dX11_row_7 : decode cX11_row 7 = .ok (.invokevirtual 429, 3) := by decide +kernel
theorem dX11_row_10 : decode cX11_row 10 = .ok (.ireturn, 1) := by decide +kernel
theorem mokX11_row : MOK yX11_row cX11_row 4 (some .int) 3 := ⟨w6_166, w1_1, ⟨by decide, by decide⟩, by decide +kernel, by decide⟩
abbrev miX11_row : MI := (yX11_row.cls, cX11_row, 4, 5, false)
noncomputable def BX11_row : Sm Int32 := (dRet (dCallV 8 DX8_make (aI (aI (aI (aR aN 0 (dGR 11 5 (vR 0))) 1 (vI 1)) 2 (vI 2)) 3 (vI 3))))
theorem sBX11_row : SS (cvoI, .ireturn) miX11_row [] [] [] [(0, 2), (1, 0), (2, 0), (3, 0)] [(0, 2), (1, 0), (2, 0), (3, 0)] 0 [] BX11_row := (t_ret (cv := cvI) (fun _ _ => rfl) (s_of_xI (x_callV (ts := [(0, 2), (1, 0), (2, 0), (3, 0)]) ck8 rfl kX8_make mokX8_make w6_168 w6_169 rfl rfl rfl rfl (a_I (ts := [(0, 2), (1, 0), (2, 0)]) 3 (a_I (ts := [(0, 2), (1, 0)]) 2 (a_I (ts := [(0, 2)]) 1 (a_R (ts := []) 0 a_nil (s_getR ck11 5 (by decide) rfl (s_aload_n dX11_row_0 rfl rfl) dX11_row_1 w2_223) rfl) (s_iload_n dX11_row_4 rfl rfl) rfl) (s_iload_n dX11_row_5 rfl rfl) rfl) (s_iload_n dX11_row_6 rfl rfl) rfl) dX11_row_7 w6_167)) dX11_row_10)
noncomputable def DX11_row : Fr → St → Option (Int32 × St) := M1 (fun f => (sI (sI (sI (sR fr0 0 (gR f 0)) 1 (gI f 1)) 2 (gI f 2)) 3 (gI f 3))) BX11_row
theorem kX11_row : SND yX11_row cX11_row 4 (some .int) 5 [(0, 2), (1, 0), (2, 0), (3, 0)] cvoI DX11_row := snd_I (nw := 4) (by decide) rfl rfl (fun _ _ => rfl) sBX11_row
theorem dX11_write_0 : decode cX11_write 0 = .ok (.aload_n 0, 1) := by decide +kernel
theorem dX11_write_1 : decode cX11_write 1 = .ok (.getfield 40, 3) := by decide +kernel
theorem dX11_write_4 : decode cX11_write 4 = .ok (.iload_n 1, 1) := by decide +kernel
theorem dX11_write_5 : decode cX11_write 5 = .ok (.iload_n 2, 1) := by decide +kernel
theorem dX11_write_6 : decode cX11_write 6 = .ok (.lload_n 3, 1) := by decide +kernel
theorem dX11_write_7 : decode cX11_write 7 = .ok (.invokevirtual 432, 3) := by decide +kernel
theorem dX11_write_10 : decode cX11_write 10 = .ok (.ireturn, 1) := by decide +kernel
theorem mokX11_write : MOK yX11_write cX11_write 5 (some .int) 3 := ⟨w6_184, w1_1, ⟨by decide, by decide⟩, by decide +kernel, by decide⟩
abbrev miX11_write : MI := (yX11_write.cls, cX11_write, 5, 4, false)
noncomputable def BX11_write : Sm Int32 := (dRet (dCallV 8 DX8_set (aL (aI (aI (aR aN 0 (dGR 11 5 (vR 0))) 1 (vI 1)) 2 (vI 2)) 3 (vL 3))))
theorem sBX11_write : SS (cvoI, .ireturn) miX11_write [] [] [] [(0, 2), (1, 0), (2, 0), (3, 1)] [(0, 2), (1, 0), (2, 0), (3, 1)] 0 [] BX11_write := (t_ret (cv := cvI) (fun _ _ => rfl) (s_of_xI (x_callV (ts := [(0, 2), (1, 0), (2, 0), (3, 1)]) ck8 rfl kX8_set mokX8_set w6_174 w6_175 rfl rfl rfl rfl (a_L (ts := [(0, 2), (1, 0), (2, 0)]) 3 (a_I (ts := [(0, 2), (1, 0)]) 2 (a_I (ts := [(0, 2)]) 1 (a_R (ts := []) 0 a_nil (s_getR ck11 5 (by decide) rfl (s_aload_n dX11_write_0 rfl rfl) dX11_write_1 w2_223) rfl) (s_iload_n dX11_write_4 rfl rfl) rfl) (s_iload_n dX11_write_5 rfl rfl) rfl) (s_lload_n dX11_write_6 rfl rfl) rfl) dX11_write_7 w6_185)) dX11_write_10)
noncomputable def DX11_write : Fr → St → Option (Int32 × St) := M1 (fun f => (sL (sI (sI (sR fr0 0 (gR f 0)) 1 (gI f 1)) 2 (gI f 2)) 3 (gL f 3))) BX11_write
theorem kX11_write : SND yX11_write cX11_write 5 (some .int) 4 [(0, 2), (1, 0), (2, 0), (3, 1)] cvoI DX11_write := snd_I (nw := 5) (by decide) rfl rfl (fun _ _ => rfl) sBX11_write
theorem dX8_isWithin_0 : decode cX8_isWithin 0 = .ok (.iload_n 2, 1) := by decide +kernel
theorem dX8_isWithin_1 : decode cX8_isWithin 1 = .ok (.ifCond .lt 26, 3) := by decide +kernel
theorem dX8_isWithin_4 : decode cX8_isWithin 4 = .ok (.iload_n 3, 1) := by decide +kernel
theorem dX8_isWithin_5 : decode cX8_isWithin 5 = .ok (.ifCond .lt 22, 3) := by decide +kernel
theorem dX8_isWithin_8 : decode cX8_isWithin 8 = .ok (.iload_n 2, 1) := by decide +kernel
theorem dX8_isWithin_9 : decode cX8_isWithin 9 = .ok (.i2l, 1) := by decide +kernel
theorem dX8_isWithin_10 : decode cX8_isWithin 10 = .ok (.iload_n 3, 1) := by decide +kernel
theorem dX8_isWithin_11 : decode cX8_isWithin 11 = .ok (.i2l, 1) := by decide +kernel
theorem dX8_isWithin_12 : decode cX8_isWithin 12 = .ok (.ladd, 1) := by decide +kernel
theorem dX8_isWithin_13 : decode cX8_isWithin 13 = .ok (.aload_n 0, 1) := by decide +kernel
theorem dX8_isWithin_14 : decode cX8_isWithin 14 = .ok (.iload_n 1, 1) := by decide +kernel
theorem dX8_isWithin_15 : decode cX8_isWithin 15 = .ok (.invokevirtual 41, 3) := by decide +kernel
theorem dX8_isWithin_18 : decode cX8_isWithin 18 = .ok (.i2l, 1) := by decide +kernel
theorem dX8_isWithin_19 : decode cX8_isWithin 19 = .ok (.lcmp, 1) := by decide +kernel
theorem dX8_isWithin_20 : decode cX8_isWithin 20 = .ok (.ifCond .gt 7, 3) := by decide +kernel
theorem dX8_isWithin_23 : decode cX8_isWithin 23 = .ok (.iconst 1, 1) := by decide +kernel
theorem dX8_isWithin_24 : decode cX8_isWithin 24 = .ok (.goto 4, 3) := by decide +kernel
theorem dX8_isWithin_27 : decode cX8_isWithin 27 = .ok (.iconst 0, 1) := by decide +kernel
theorem dX8_isWithin_28 : decode cX8_isWithin 28 = .ok (.ireturn, 1) := by decide +kernel
theorem mokX8_isWithin : MOK yX8_isWithin cX8_isWithin 4 (some .boolean) 3 := ⟨w6_197, w1_6, ⟨by decide, by decide⟩, by decide +kernel, by decide⟩
abbrev miX8_isWithin : MI := (yX8_isWithin.cls, cX8_isWithin, 4, 3, false)
noncomputable def BX8_isWithin : Sm Int32 := (dRet (dB (dAnd (dAnd (dCZ q_ge (vI 2)) (dCZ q_ge (vI 3))) (dCZ q_le (d2 o_lcmp (d2 o_ladd (d1 o_i2l (vI 2)) (d1 o_i2l (vI 3))) (d1 o_i2l (dCallV 8 DX8_sizeOf (aI (aR aN 0 (vR 0)) 1 (vI 1)))))))))
theorem sBX8_isWithin : SS (cvoI, .ireturn) miX8_isWithin [] [] [] [(0, 2), (1, 0), (2, 0), (3, 0)] [(0, 2), (1, 0), (2, 0), (3, 0)] 0 [] BX8_isWithin := (t_ret (cv := cvI) (fun _ _ => rfl) (s_B (pT := 23) (pF := 27) (pe := 28) (c_and (p1 := 8) (pT := 23) (pF := 27) (c_and (p1 := 4) (pT := 8) (pF := 27) (c_ge_ZF (pF := 27) (s_iload_n dX8_isWithin_0 rfl rfl) dX8_isWithin_1 rfl) (c_ge_ZF (pF := 27) (s_iload_n dX8_isWithin_4 rfl rfl) dX8_isWithin_5 rfl)) (c_le_ZF (pF := 27) (s_lcmp (s_ladd (s_i2l (s_iload_n dX8_isWithin_8 rfl rfl) dX8_isWithin_9) (s_i2l (s_iload_n dX8_isWithin_10 rfl rfl) dX8_isWithin_11) dX8_isWithin_12) (s_i2l (s_of_xI (x_callV (ts := [(0, 2), (1, 0)]) ck8 rfl kX8_sizeOf mokX8_sizeOf w5_208 w5_209 rfl rfl rfl rfl (a_I (ts := [(0, 2)]) 1 (a_R (ts := []) 0 a_nil (s_aload_n dX8_isWithin_13 rfl rfl) rfl) (s_iload_n dX8_isWithin_14 rfl rfl) rfl) dX8_isWithin_15 w6_177)) dX8_isWithin_18) dX8_isWithin_19) dX8_isWithin_20 rfl)) dX8_isWithin_23 dX8_isWithin_24 rfl dX8_isWithin_27 rfl) dX8_isWithin_28)
noncomputable def DX8_isWithin : Fr → St → Option (Int32 × St) := MZ (fun f => (sI (sI (sI (sR fr0 0 (gR f 0)) 1 (gI f 1)) 2 (gI f 2)) 3 (gI f 3))) BX8_isWithin
theorem kX8_isWithin : SND yX8_isWithin cX8_isWithin 4 (some .boolean) 3 [(0, 2), (1, 0), (2, 0), (3, 0)] cvoI DX8_isWithin := snd_Z (nw := 4) (by decide) rfl rfl (fun _ _ => rfl) sBX8_isWithin
theorem dX8_move_0 : decode cX8_move 0 = .ok (.aload_n 0, 1) := by decide +kernel
theorem dX8_move_1 : decode cX8_move 1 = .ok (.iload_n 1, 1) := by decide +kernel
theorem dX8_move_2 : decode cX8_move 2 = .ok (.invokevirtual 30, 3) := by decide +kernel
theorem dX8_move_5 : decode cX8_move 5 = .ok (.ifCond .eq 11, 3) := by decide +kernel
theorem dX8_move_8 : decode cX8_move 8 = .ok (.aload_n 0, 1) := by decide +kernel
theorem dX8_move_9 : decode cX8_move 9 = .ok (.iload_n 3, 1) := by decide +kernel
theorem dX8_move_10 : decode cX8_move 10 = .ok (.invokevirtual 30, 3) := by decide +kernel
theorem dX8_move_13 : decode cX8_move 13 = .ok (.ifCond .ne 6, 3) := by decide +kernel
theorem dX8_move_16 : decode cX8_move 16 = .ok (.bipush (-2), 2) := by decide +kernel
theorem dX8_move_18 : decode cX8_move 18 = .ok (.ireturn, 1) := by decide +kernel
theorem dX8_move_19 : decode cX8_move 19 = .ok (.aload_n 0, 1) := by decide +kernel
theorem dX8_move_20 : decode cX8_move 20 = .ok (.iload_n 1, 1) := by decide +kernel
theorem dX8_move_21 : decode cX8_move 21 = .ok (.invokevirtual 26, 3) := by decide +kernel
theorem dX8_move_24 : decode cX8_move 24 = .ok (.ifCond .eq 11, 3) := by decide +kernel
theorem dX8_move_27 : decode cX8_move 27 = .ok (.aload_n 0, 1) := by decide +kernel
theorem dX8_move_28 : decode cX8_move 28 = .ok (.iload_n 3, 1) := by decide +kernel
theorem dX8_move_29 : decode cX8_move 29 = .ok (.invokevirtual 26, 3) := by decide +kernel
theorem dX8_move_32 : decode cX8_move 32 = .ok (.ifCond .ne 6, 3) := by decide +kernel
theorem dX8_move_35 : decode cX8_move 35 = .ok (.bipush (-6), 2) := by decide +kernel
theorem dX8_move_37 : decode cX8_move 37 = .ok (.ireturn, 1) := by decide +kernel
theorem dX8_move_38 : decode cX8_move 38 = .ok (.aload_n 0, 1) := by decide +kernel
theorem dX8_move_39 : decode cX8_move 39 = .ok (.getfield 11, 3) := by decide +kernel
theorem dX8_move_42 : decode cX8_move 42 = .ok (.iload_n 1, 1) := by decide +kernel
theorem dX8_move_43 : decode cX8_move 43 = .ok (.invokestatic 22, 3) := by decide +kernel
theorem dX8_move_46 : decode cX8_move 46 = .ok (.aload_n 0, 1) := by decide +kernel
theorem dX8_move_47 : decode cX8_move 47 = .ok (.getfield 11, 3) := by decide +kernel
theorem dX8_move_50 : decode cX8_move 50 = .ok (.iload_n 3, 1) := by decide +kernel
theorem dX8_move_51 : decode cX8_move 51 = .ok (.invokestatic 22, 3) := by decide +kernel
theorem dX8_move_54 : decode cX8_move 54 = .ok (.if_icmp .eq 6, 3) := by decide +kernel
theorem dX8_move_57 : decode cX8_move 57 = .ok (.bipush (-8), 2) := by decide +kernel
theorem dX8_move_59 : decode cX8_move 59 = .ok (.ireturn, 1) := by decide +kernel
theorem dX8_move_60 : decode cX8_move 60 = .ok (.aload_n 0, 1) := by decide +kernel
theorem dX8_move_61 : decode cX8_move 61 = .ok (.iload_n 1, 1) := by decide +kernel
theorem dX8_move_62 : decode cX8_move 62 = .ok (.iload_n 2, 1) := by decide +kernel
theorem dX8_move_63 : decode cX8_move 63 = .ok (.iload 5, 2) := by decide +kernel
theorem dX8_move_65 : decode cX8_move 65 = .ok (.invokevirtual 49, 3) := by decide +kernel
theorem dX8_move_68 : decode cX8_move 68 = .ok (.ifCond .eq 15, 3) := by decide +kernel
theorem dX8_move_71 : decode cX8_move 71 = .ok (.aload_n 0, 1) := by decide +kernel
theorem dX8_move_72 : decode cX8_move 72 = .ok (.iload_n 3, 1) := by decide +kernel
theorem dX8_move_73 : decode cX8_move 73 = .ok (.iload 4, 2) := by decide +kernel
theorem dX8_move_75 : decode cX8_move 75 = .ok (.iload 5, 2) := by decide +kernel
theorem dX8_move_77 : decode cX8_move 77 = .ok (.invokevirtual 49, 3) := by decide +kernel
theorem dX8_move_80 : decode cX8_move 80 = .ok (.ifCond .ne 6, 3) := by decide +kernel
theorem dX8_move_83 : decode cX8_move 83 = .ok (.bipush (-7), 2) := by decide +kernel
theorem dX8_move_85 : decode cX8_move 85 = .ok (.ireturn, 1) := by decide +kernel
theorem dX8_move_86 : decode cX8_move 86 = .ok (.aload_n 0, 1) := by decide +kernel
theorem dX8_move_87 : decode cX8_move 87 = .ok (.getfield 18, 3) := by decide +kernel
theorem dX8_move_90 : decode cX8_move 90 = .ok (.iload_n 1, 1) := by decide +kernel
theorem dX8_move_91 : decode cX8_move 91 = .ok (.bipush 60, 2) := by decide +kernel
theorem dX8_move_93 : decode cX8_move 93 = .ok (.imul, 1) := by decide +kernel
theorem dX8_move_94 : decode cX8_move 94 = .ok (.iload_n 2, 1) := by decide +kernel
theorem dX8_move_95 : decode cX8_move 95 = .ok (.iadd, 1) := by decide +kernel
theorem dX8_move_96 : decode cX8_move 96 = .ok (.aload_n 0, 1) := by decide +kernel
theorem dX8_move_97 : decode cX8_move 97 = .ok (.getfield 18, 3) := by decide +kernel
theorem dX8_move_100 : decode cX8_move 100 = .ok (.iload_n 3, 1) := by decide +kernel
theorem dX8_move_101 : decode cX8_move 101 = .ok (.bipush 60, 2) := by decide +kernel
theorem dX8_move_103 : decode cX8_move 103 = .ok (.imul, 1) := by decide +kernel
theorem dX8_move_104 : decode cX8_move 104 = .ok (.iload 4, 2) := by decide +kernel
theorem dX8_move_106 : decode cX8_move 106 = .ok (.iadd, 1) := by decide +kernel
theorem dX8_move_107 : decode cX8_move 107 = .ok (.iload 5, 2) := by decide +kernel
theorem dX8_move_109 : decode cX8_move 109 = .ok (.invokestatic 53, 3) := by decide +kernel
theorem dX8_move_112 : decode cX8_move 112 = .ok (.iconst 0, 1) := by decide +kernel
theorem dX8_move_113 : decode cX8_move 113 = .ok (.ireturn, 1) := by decide +kernel
theorem mokX8_move : MOK yX8_move cX8_move 6 (some .int) 5 := ⟨w6_193, w1_6, ⟨by decide, by decide⟩, by decide +kernel, by decide⟩
abbrev miX8_move : MI := (yX8_move.cls, cX8_move, 6, 4, false)
noncomputable def BX8_move : Sm Int32 := (dSeq (dIf (dOr (dNot (dCZ q_ne (dCallV 8 DX8_isSlot (aI (aR aN 0 (vR 0)) 1 (vI 1))))) (dNot (dCZ q_ne (dCallV 8 DX8_isSlot (aI (aR aN 0 (vR 0)) 1 (vI 3)))))) (dRet (cI (-2))) dSkip) (dSeq (dIf (dOr (dNot (dCZ q_ne (dCallV 8 DX8_hasRow (aI (aR aN 0 (vR 0)) 1 (vI 1))))) (dNot (dCZ q_ne (dCallV 8 DX8_hasRow (aI (aR aN 0 (vR 0)) 1 (vI 3)))))) (dRet (cI (-6))) dSkip) (dSeq (dIf (dCI r_ne (dCall DX11_cell (aI (aR aN 0 (dGR 8 0 (vR 0))) 1 (vI 1))) (dCall DX11_cell (aI (aR aN 0 (dGR 8 0 (vR 0))) 1 (vI 3)))) (dRet (cI (-8))) dSkip) (dSeq (dIf (dOr (dNot (dCZ q_ne (dCallV 8 DX8_isWithin (aI (aI (aI (aR aN 0 (vR 0)) 1 (vI 1)) 2 (vI 2)) 3 (vI 5))))) (dNot (dCZ q_ne (dCallV 8 DX8_isWithin (aI (aI (aI (aR aN 0 (vR 0)) 1 (vI 3)) 2 (vI 4)) 3 (vI 5)))))) (dRet (cI (-7))) dSkip) (dSeq (dCp 16 (aI (aI (aR (aI (aR aN 0 (dGR 8 2 (vR 0))) 1 (d2 o_iadd (d2 o_imul (vI 1) (cI 60)) (vI 2))) 2 (dGR 8 2 (vR 0))) 3 (d2 o_iadd (d2 o_imul (vI 3) (cI 60)) (vI 4))) 4 (vI 5))) (dRet (cI 0)))))))
theorem sBX8_move : SS (cvoI, .ireturn) miX8_move [] [] [] [(0, 2), (1, 0), (2, 0), (3, 0), (4, 0), (5, 0)] [(0, 2), (1, 0), (2, 0), (3, 0), (4, 0), (5, 0)] 0 [] BX8_move := (t_sq (p1 := 19) (Γ' := [(0, 2), (1, 0), (2, 0), (3, 0), (4, 0), (5, 0)]) (t_if (pT := 16) (pF := 19) (X := [19]) (XA := []) (XB := [19]) (c_or (p1 := 8) (pT := 16) (pF := 19) (c_not (pT := 16) (pF := 8) (c_ne_ZF (pF := 16) (s_of_xI (x_callV (ts := [(0, 2), (1, 0)]) ck8 rfl kX8_isSlot mokX8_isSlot w5_198 w5_199 rfl rfl rfl rfl (a_I (ts := [(0, 2)]) 1 (a_R (ts := []) 0 a_nil (s_aload_n dX8_move_0 rfl rfl) rfl) (s_iload_n dX8_move_1 rfl rfl) rfl) dX8_move_2 w6_171)) dX8_move_5 rfl)) (c_not (pT := 16) (pF := 19) (c_ne_ZJ (pT := 19) (s_of_xI (x_callV (ts := [(0, 2), (1, 0)]) ck8 rfl kX8_isSlot mokX8_isSlot w5_198 w5_199 rfl rfl rfl rfl (a_I (ts := [(0, 2)]) 1 (a_R (ts := []) 0 a_nil (s_aload_n dX8_move_8 rfl rfl) rfl) (s_iload_n dX8_move_9 rfl rfl) rfl) dX8_move_10 w6_171)) dX8_move_13 rfl))) (t_ret (cv := cvI) (fun _ _ => rfl) (s_bipush dX8_move_16 rfl) dX8_move_18) (t_skip (ld_in rfl) rfl) lda_nil (lda_cons (ld_in rfl) lda_nil)) (t_sq (p1 := 38) (Γ' := [(0, 2), (1, 0), (2, 0), (3, 0), (4, 0), (5, 0)]) (t_if (pT := 35) (pF := 38) (X := [38]) (XA := []) (XB := [38]) (c_or (p1 := 27) (pT := 35) (pF := 38) (c_not (pT := 35) (pF := 27) (c_ne_ZF (pF := 35) (s_of_xI (x_callV (ts := [(0, 2), (1, 0)]) ck8 rfl kX8_hasRow mokX8_hasRow w5_203 w5_204 rfl rfl rfl rfl (a_I (ts := [(0, 2)]) 1 (a_R (ts := []) 0 a_nil (s_aload_n dX8_move_19 rfl rfl) rfl) (s_iload_n dX8_move_20 rfl rfl) rfl) dX8_move_21 w6_154)) dX8_move_24 rfl)) (c_not (pT := 35) (pF := 38) (c_ne_ZJ (pT := 38) (s_of_xI (x_callV (ts := [(0, 2), (1, 0)]) ck8 rfl kX8_hasRow mokX8_hasRow w5_203 w5_204 rfl rfl rfl rfl (a_I (ts := [(0, 2)]) 1 (a_R (ts := []) 0 a_nil (s_aload_n dX8_move_27 rfl rfl) rfl) (s_iload_n dX8_move_28 rfl rfl) rfl) dX8_move_29 w6_154)) dX8_move_32 rfl))) (t_ret (cv := cvI) (fun _ _ => rfl) (s_bipush dX8_move_35 rfl) dX8_move_37) (t_skip (ld_in rfl) rfl) lda_nil (lda_cons (ld_in rfl) lda_nil)) (t_sq (p1 := 60) (Γ' := [(0, 2), (1, 0), (2, 0), (3, 0), (4, 0), (5, 0)]) (t_if (pT := 57) (pF := 60) (X := [60]) (XA := []) (XB := [60]) (c_ne_F (pF := 60) (s_of_xI (x_callN (ts := [(0, 2), (1, 0)]) kX11_cell mokX11_cell w3_229 rfl rfl rfl (a_I (ts := [(0, 2)]) 1 (a_R (ts := []) 0 a_nil (s_getR ck8 0 (by decide) rfl (s_aload_n dX8_move_38 rfl rfl) dX8_move_39 w2_3) rfl) (s_iload_n dX8_move_42 rfl rfl) rfl) dX8_move_43 nb27)) (s_of_xI (x_callN (ts := [(0, 2), (1, 0)]) kX11_cell mokX11_cell w3_229 rfl rfl rfl (a_I (ts := [(0, 2)]) 1 (a_R (ts := []) 0 a_nil (s_getR ck8 0 (by decide) rfl (s_aload_n dX8_move_46 rfl rfl) dX8_move_47 w2_3) rfl) (s_iload_n dX8_move_50 rfl rfl) rfl) dX8_move_51 nb27)) dX8_move_54 rfl) (t_ret (cv := cvI) (fun _ _ => rfl) (s_bipush dX8_move_57 rfl) dX8_move_59) (t_skip (ld_in rfl) rfl) lda_nil (lda_cons (ld_in rfl) lda_nil)) (t_sq (p1 := 86) (Γ' := [(0, 2), (1, 0), (2, 0), (3, 0), (4, 0), (5, 0)]) (t_if (pT := 83) (pF := 86) (X := [86]) (XA := []) (XB := [86]) (c_or (p1 := 71) (pT := 83) (pF := 86) (c_not (pT := 83) (pF := 71) (c_ne_ZF (pF := 83) (s_of_xI (x_callV (ts := [(0, 2), (1, 0), (2, 0), (3, 0)]) ck8 rfl kX8_isWithin mokX8_isWithin w6_196 ps3_6 rfl rfl rfl rfl (a_I (ts := [(0, 2), (1, 0), (2, 0)]) 3 (a_I (ts := [(0, 2), (1, 0)]) 2 (a_I (ts := [(0, 2)]) 1 (a_R (ts := []) 0 a_nil (s_aload_n dX8_move_60 rfl rfl) rfl) (s_iload_n dX8_move_61 rfl rfl) rfl) (s_iload_n dX8_move_62 rfl rfl) rfl) (s_iload dX8_move_63 rfl) rfl) dX8_move_65 w6_194)) dX8_move_68 rfl)) (c_not (pT := 83) (pF := 86) (c_ne_ZJ (pT := 86) (s_of_xI (x_callV (ts := [(0, 2), (1, 0), (2, 0), (3, 0)]) ck8 rfl kX8_isWithin mokX8_isWithin w6_196 ps3_6 rfl rfl rfl rfl (a_I (ts := [(0, 2), (1, 0), (2, 0)]) 3 (a_I (ts := [(0, 2), (1, 0)]) 2 (a_I (ts := [(0, 2)]) 1 (a_R (ts := []) 0 a_nil (s_aload_n dX8_move_71 rfl rfl) rfl) (s_iload_n dX8_move_72 rfl rfl) rfl) (s_iload dX8_move_73 rfl) rfl) (s_iload dX8_move_75 rfl) rfl) dX8_move_77 w6_194)) dX8_move_80 rfl))) (t_ret (cv := cvI) (fun _ _ => rfl) (s_bipush dX8_move_83 rfl) dX8_move_85) (t_skip (ld_in rfl) rfl) lda_nil (lda_cons (ld_in rfl) lda_nil)) (t_sq (p1 := 112) (Γ' := [(0, 2), (1, 0), (2, 0), (3, 0), (4, 0), (5, 0)]) (t_cp (Or.inr rfl) (a_I (ts := [(0, 2), (1, 0), (2, 2), (3, 0)]) 4 (a_I (ts := [(0, 2), (1, 0), (2, 2)]) 3 (a_R (ts := [(0, 2), (1, 0)]) 2 (a_I (ts := [(0, 2)]) 1 (a_R (ts := []) 0 a_nil (s_getR ck8 2 (by decide) rfl (s_aload_n dX8_move_86 rfl rfl) dX8_move_87 w2_5) rfl) (s_iadd (s_imul (s_iload_n dX8_move_90 rfl rfl) (s_bipush dX8_move_91 rfl) dX8_move_93) (s_iload_n dX8_move_94 rfl rfl) dX8_move_95) rfl) (s_getR ck8 2 (by decide) rfl (s_aload_n dX8_move_96 rfl rfl) dX8_move_97 w2_5) rfl) (s_iadd (s_imul (s_iload_n dX8_move_100 rfl rfl) (s_bipush dX8_move_101 rfl) dX8_move_103) (s_iload dX8_move_104 rfl) dX8_move_106) rfl) (s_iload dX8_move_107 rfl) rfl) rfl dX8_move_109 w6_198 w3_202 w3_201 w1_19 rfl) (t_ret (cv := cvI) (fun _ _ => rfl) (s_iconst dX8_move_112 rfl) dX8_move_113))))))
noncomputable def DX8_move : Fr → St → Option (Int32 × St) := M1 (fun f => (sI (sI (sI (sI (sI (sR fr0 0 (gR f 0)) 1 (gI f 1)) 2 (gI f 2)) 3 (gI f 3)) 4 (gI f 4)) 5 (gI f 5))) BX8_move
theorem kX8_move : SND yX8_move cX8_move 6 (some .int) 4 [(0, 2), (1, 0), (2, 0), (3, 0), (4, 0), (5, 0)] cvoI DX8_move := snd_I (nw := 6) (by decide) rfl rfl (fun _ _ => rfl) sBX8_move
theorem dX11_paste_0 : decode cX11_paste 0 = .ok (.aload_n 0, 1) := by decide +kernel
theorem dX11_paste_1 : decode cX11_paste 1 = .ok (.getfield 40, 3) := by decide +kernel
theorem dX11_paste_4 : decode cX11_paste 4 = .ok (.iload_n 1, 1) := by decide +kernel
theorem dX11_paste_5 : decode cX11_paste 5 = .ok (.iload_n 2, 1) := by decide +kernel
theorem dX11_paste_6 : decode cX11_paste 6 = .ok (.iload_n 3, 1) := by decide +kernel
theorem dX11_paste_7 : decode cX11_paste 7 = .ok (.iload 4, 2) := by decide +kernel
theorem dX11_paste_9 : decode cX11_paste 9 = .ok (.iload 5, 2) := by decide +kernel
theorem dX11_paste_11 : decode cX11_paste 11 = .ok (.invokevirtual 436, 3) := by decide +kernel
theorem dX11_paste_14 : decode cX11_paste 14 = .ok (.ireturn, 1) := by decide +kernel
theorem mokX11_paste : MOK yX11_paste cX11_paste 6 (some .int) 5 := ⟨w6_189, w1_1, ⟨by decide, by decide⟩, by decide +kernel, by decide⟩
abbrev miX11_paste : MI := (yX11_paste.cls, cX11_paste, 6, 5, false)
noncomputable def BX11_paste : Sm Int32 := (dRet (dCallV 8 DX8_move (aI (aI (aI (aI (aI (aR aN 0 (dGR 11 5 (vR 0))) 1 (vI 1)) 2 (vI 2)) 3 (vI 3)) 4 (vI 4)) 5 (vI 5))))
theorem sBX11_paste : SS (cvoI, .ireturn) miX11_paste [] [] [] [(0, 2), (1, 0), (2, 0), (3, 0), (4, 0), (5, 0)] [(0, 2), (1, 0), (2, 0), (3, 0), (4, 0), (5, 0)] 0 [] BX11_paste := (t_ret (cv := cvI) (fun _ _ => rfl) (s_of_xI (x_callV (ts := [(0, 2), (1, 0), (2, 0), (3, 0), (4, 0), (5, 0)]) ck8 rfl kX8_move mokX8_move w6_191 w6_192 rfl rfl rfl rfl (a_I (ts := [(0, 2), (1, 0), (2, 0), (3, 0), (4, 0)]) 5 (a_I (ts := [(0, 2), (1, 0), (2, 0), (3, 0)]) 4 (a_I (ts := [(0, 2), (1, 0), (2, 0)]) 3 (a_I (ts := [(0, 2), (1, 0)]) 2 (a_I (ts := [(0, 2)]) 1 (a_R (ts := []) 0 a_nil (s_getR ck11 5 (by decide) rfl (s_aload_n dX11_paste_0 rfl rfl) dX11_paste_1 w2_223) rfl) (s_iload_n dX11_paste_4 rfl rfl) rfl) (s_iload_n dX11_paste_5 rfl rfl) rfl) (s_iload_n dX11_paste_6 rfl rfl) rfl) (s_iload dX11_paste_7 rfl) rfl) (s_iload dX11_paste_9 rfl) rfl) dX11_paste_11 w6_190)) dX11_paste_14)
noncomputable def DX11_paste : Fr → St → Option (Int32 × St) := M1 (fun f => (sI (sI (sI (sI (sI (sR fr0 0 (gR f 0)) 1 (gI f 1)) 2 (gI f 2)) 3 (gI f 3)) 4 (gI f 4)) 5 (gI f 5))) BX11_paste
theorem kX11_paste : SND yX11_paste cX11_paste 6 (some .int) 5 [(0, 2), (1, 0), (2, 0), (3, 0), (4, 0), (5, 0)] cvoI DX11_paste := snd_I (nw := 6) (by decide) rfl rfl (fun _ _ => rfl) sBX11_paste
theorem dX12_init_0 : decode cX12_init 0 = .ok (.aload_n 0, 1) := by decide +kernel
theorem dX12_init_1 : decode cX12_init 1 = .ok (.invokespecial 1, 3) := by decide +kernel
theorem dX12_init_4 : decode cX12_init 4 = .ok (.aload_n 0, 1) := by decide +kernel
theorem dX12_init_5 : decode cX12_init 5 = .ok (.iconst 4, 1) := by decide +kernel
theorem dX12_init_6 : decode cX12_init 6 = .ok (.newarray .int, 2) := by decide +kernel
theorem dX12_init_8 : decode cX12_init 8 = .ok (.putfield 7, 3) := by decide +kernel
theorem dX12_init_11 : decode cX12_init 11 = .ok (.aload_n 0, 1) := by decide +kernel
theorem dX12_init_12 : decode cX12_init 12 = .ok (.iconst 4, 1) := by decide +kernel
theorem dX12_init_13 : decode cX12_init 13 = .ok (.newarray .int, 2) := by decide +kernel
theorem dX12_init_15 : decode cX12_init 15 = .ok (.putfield 13, 3) := by decide +kernel
theorem dX12_init_18 : decode cX12_init 18 = .ok (.aload_n 0, 1) := by decide +kernel
theorem dX12_init_19 : decode cX12_init 19 = .ok (.sipush 240, 3) := by decide +kernel
theorem dX12_init_22 : decode cX12_init 22 = .ok (.newarray .long, 2) := by decide +kernel
theorem dX12_init_24 : decode cX12_init 24 = .ok (.putfield 16, 3) := by decide +kernel
theorem dX12_init_27 : decode cX12_init 27 = .ok (.aload_n 0, 1) := by decide +kernel
theorem dX12_init_28 : decode cX12_init 28 = .ok (.bipush 60, 2) := by decide +kernel
theorem dX12_init_30 : decode cX12_init 30 = .ok (.newarray .long, 2) := by decide +kernel
theorem dX12_init_32 : decode cX12_init 32 = .ok (.putfield 20, 3) := by decide +kernel
theorem dX12_init_35 : decode cX12_init 35 = .ok (.aload_n 0, 1) := by decide +kernel
theorem dX12_init_36 : decode cX12_init 36 = .ok (.sipush 800, 3) := by decide +kernel
theorem dX12_init_39 : decode cX12_init 39 = .ok (.newarray .byte, 2) := by decide +kernel
theorem dX12_init_41 : decode cX12_init 41 = .ok (.putfield 23, 3) := by decide +kernel
theorem dX12_init_44 : decode cX12_init 44 = .ok (.aload_n 0, 1) := by decide +kernel
theorem dX12_init_45 : decode cX12_init 45 = .ok (.iconst (-1), 1) := by decide +kernel
theorem dX12_init_46 : decode cX12_init 46 = .ok (.putfield 27, 3) := by decide +kernel
theorem dX12_init_49 : decode cX12_init 49 = .ok (.aload_n 0, 1) := by decide +kernel
theorem dX12_init_50 : decode cX12_init 50 = .ok (.iconst 5, 1) := by decide +kernel
theorem dX12_init_51 : decode cX12_init 51 = .ok (.newarray .int, 2) := by decide +kernel
theorem dX12_init_53 : decode cX12_init 53 = .ok (.putfield 31, 3) := by decide +kernel
theorem dX12_init_56 : decode cX12_init 56 = .ok (.aload_n 0, 1) := by decide +kernel
theorem dX12_init_57 : decode cX12_init 57 = .ok (.bipush 45, 2) := by decide +kernel
theorem dX12_init_59 : decode cX12_init 59 = .ok (.newarray .int, 2) := by decide +kernel
theorem dX12_init_61 : decode cX12_init 61 = .ok (.putfield 34, 3) := by decide +kernel
theorem dX12_init_64 : decode cX12_init 64 = .ok (.aload_n 0, 1) := by decide +kernel
theorem dX12_init_65 : decode cX12_init 65 = .ok (.bipush 40, 2) := by decide +kernel
theorem dX12_init_67 : decode cX12_init 67 = .ok (.newarray .int, 2) := by decide +kernel
theorem dX12_init_69 : decode cX12_init 69 = .ok (.putfield 37, 3) := by decide +kernel
theorem dX12_init_72 : decode cX12_init 72 = .ok (.aload_n 0, 1) := by decide +kernel
theorem dX12_init_73 : decode cX12_init 73 = .ok (.bipush 120, 2) := by decide +kernel
theorem dX12_init_75 : decode cX12_init 75 = .ok (.newarray .int, 2) := by decide +kernel
theorem dX12_init_77 : decode cX12_init 77 = .ok (.putfield 40, 3) := by decide +kernel
theorem dX12_init_80 : decode cX12_init 80 = .ok (.aload_n 0, 1) := by decide +kernel
theorem dX12_init_81 : decode cX12_init 81 = .ok (.bipush 50, 2) := by decide +kernel
theorem dX12_init_83 : decode cX12_init 83 = .ok (.newarray .int, 2) := by decide +kernel
theorem dX12_init_85 : decode cX12_init 85 = .ok (.putfield 43, 3) := by decide +kernel
theorem dX12_init_88 : decode cX12_init 88 = .ok (.aload_n 0, 1) := by decide +kernel
theorem dX12_init_89 : decode cX12_init 89 = .ok (.bipush 15, 2) := by decide +kernel
theorem dX12_init_91 : decode cX12_init 91 = .ok (.newarray .int, 2) := by decide +kernel
theorem dX12_init_93 : decode cX12_init 93 = .ok (.putfield 46, 3) := by decide +kernel
theorem dX12_init_96 : decode cX12_init 96 = .ok (.aload_n 0, 1) := by decide +kernel
theorem dX12_init_97 : decode cX12_init 97 = .ok (.bipush 15, 2) := by decide +kernel
theorem dX12_init_99 : decode cX12_init 99 = .ok (.newarray .int, 2) := by decide +kernel
theorem dX12_init_101 : decode cX12_init 101 = .ok (.putfield 49, 3) := by decide +kernel
theorem dX12_init_104 : decode cX12_init 104 = .ok (.aload_n 0, 1) := by decide +kernel
theorem dX12_init_105 : decode cX12_init 105 = .ok (.bipush 90, 2) := by decide +kernel
theorem dX12_init_107 : decode cX12_init 107 = .ok (.newarray .int, 2) := by decide +kernel
theorem dX12_init_109 : decode cX12_init 109 = .ok (.putfield 52, 3) := by decide +kernel
theorem dX12_init_112 : decode cX12_init 112 = .ok (.aload_n 0, 1) := by decide +kernel
theorem dX12_init_113 : decode cX12_init 113 = .ok (.sipush 240, 3) := by decide +kernel
theorem dX12_init_116 : decode cX12_init 116 = .ok (.newarray .int, 2) := by decide +kernel
theorem dX12_init_118 : decode cX12_init 118 = .ok (.putfield 55, 3) := by decide +kernel
theorem dX12_init_121 : decode cX12_init 121 = .ok (.aload_n 0, 1) := by decide +kernel
theorem dX12_init_122 : decode cX12_init 122 = .ok (.sipush 400, 3) := by decide +kernel
theorem dX12_init_125 : decode cX12_init 125 = .ok (.newarray .int, 2) := by decide +kernel
theorem dX12_init_127 : decode cX12_init 127 = .ok (.putfield 58, 3) := by decide +kernel
theorem dX12_init_130 : decode cX12_init 130 = .ok (.aload_n 0, 1) := by decide +kernel
theorem dX12_init_131 : decode cX12_init 131 = .ok (.iconst 3, 1) := by decide +kernel
theorem dX12_init_132 : decode cX12_init 132 = .ok (.newarray .boolean, 2) := by decide +kernel
theorem dX12_init_134 : decode cX12_init 134 = .ok (.putfield 61, 3) := by decide +kernel
theorem dX12_init_137 : decode cX12_init 137 = .ok (.aload_n 0, 1) := by decide +kernel
theorem dX12_init_138 : decode cX12_init 138 = .ok (.iconst 3, 1) := by decide +kernel
theorem dX12_init_139 : decode cX12_init 139 = .ok (.newarray .int, 2) := by decide +kernel
theorem dX12_init_141 : decode cX12_init 141 = .ok (.putfield 65, 3) := by decide +kernel
theorem dX12_init_144 : decode cX12_init 144 = .ok (.aload_n 0, 1) := by decide +kernel
theorem dX12_init_145 : decode cX12_init 145 = .ok (.iconst 3, 1) := by decide +kernel
theorem dX12_init_146 : decode cX12_init 146 = .ok (.newarray .int, 2) := by decide +kernel
theorem dX12_init_148 : decode cX12_init 148 = .ok (.putfield 68, 3) := by decide +kernel
theorem dX12_init_151 : decode cX12_init 151 = .ok (.aload_n 0, 1) := by decide +kernel
theorem dX12_init_152 : decode cX12_init 152 = .ok (.bipush 65, 2) := by decide +kernel
theorem dX12_init_154 : decode cX12_init 154 = .ok (.newarray .int, 2) := by decide +kernel
theorem dX12_init_156 : decode cX12_init 156 = .ok (.putfield 71, 3) := by decide +kernel
theorem dX12_init_159 : decode cX12_init 159 = .ok (.aload_n 0, 1) := by decide +kernel
theorem dX12_init_160 : decode cX12_init 160 = .ok (.bipush 39, 2) := by decide +kernel
theorem dX12_init_162 : decode cX12_init 162 = .ok (.newarray .int, 2) := by decide +kernel
theorem dX12_init_164 : decode cX12_init 164 = .ok (.putfield 74, 3) := by decide +kernel
theorem dX12_init_167 : decode cX12_init 167 = .ok (.aload_n 0, 1) := by decide +kernel
theorem dX12_init_168 : decode cX12_init 168 = .ok (.bipush 39, 2) := by decide +kernel
theorem dX12_init_170 : decode cX12_init 170 = .ok (.newarray .int, 2) := by decide +kernel
theorem dX12_init_172 : decode cX12_init 172 = .ok (.putfield 77, 3) := by decide +kernel
theorem dX12_init_175 : decode cX12_init 175 = .ok (.aload_n 0, 1) := by decide +kernel
theorem dX12_init_176 : decode cX12_init 176 = .ok (.sipush 312, 3) := by decide +kernel
theorem dX12_init_179 : decode cX12_init 179 = .ok (.newarray .int, 2) := by decide +kernel
theorem dX12_init_181 : decode cX12_init 181 = .ok (.putfield 80, 3) := by decide +kernel
theorem dX12_init_184 : decode cX12_init 184 = .ok (.aload_n 0, 1) := by decide +kernel
theorem dX12_init_185 : decode cX12_init 185 = .ok (.iconst 5, 1) := by decide +kernel
theorem dX12_init_186 : decode cX12_init 186 = .ok (.newarray .int, 2) := by decide +kernel
theorem dX12_init_188 : decode cX12_init 188 = .ok (.putfield 83, 3) := by decide +kernel
theorem dX12_init_191 : decode cX12_init 191 = .ok (.aload_n 0, 1) := by decide +kernel
theorem dX12_init_192 : decode cX12_init 192 = .ok (.iconst 3, 1) := by decide +kernel
theorem dX12_init_193 : decode cX12_init 193 = .ok (.newarray .int, 2) := by decide +kernel
theorem dX12_init_195 : decode cX12_init 195 = .ok (.putfield 86, 3) := by decide +kernel
theorem dX12_init_198 : decode cX12_init 198 = .ok (.aload_n 0, 1) := by decide +kernel
theorem dX12_init_199 : decode cX12_init 199 = .ok (.iconst 3, 1) := by decide +kernel
theorem dX12_init_200 : decode cX12_init 200 = .ok (.newarray .int, 2) := by decide +kernel
theorem dX12_init_202 : decode cX12_init 202 = .ok (.putfield 89, 3) := by decide +kernel
theorem dX12_init_205 : decode cX12_init 205 = .ok (.aload_n 0, 1) := by decide +kernel
theorem dX12_init_206 : decode cX12_init 206 = .ok (.iconst 3, 1) := by decide +kernel
theorem dX12_init_207 : decode cX12_init 207 = .ok (.newarray .int, 2) := by decide +kernel
theorem dX12_init_209 : decode cX12_init 209 = .ok (.putfield 92, 3) := by decide +kernel
theorem dX12_init_212 : decode cX12_init 212 = .ok (.aload_n 0, 1) := by decide +kernel
theorem dX12_init_213 : decode cX12_init 213 = .ok (.bipush 24, 2) := by decide +kernel
theorem dX12_init_215 : decode cX12_init 215 = .ok (.newarray .int, 2) := by decide +kernel
theorem dX12_init_217 : decode cX12_init 217 = .ok (.putfield 95, 3) := by decide +kernel
theorem dX12_init_220 : decode cX12_init 220 = .ok (.aload_n 0, 1) := by decide +kernel
theorem dX12_init_221 : decode cX12_init 221 = .ok (.bipush 32, 2) := by decide +kernel
theorem dX12_init_223 : decode cX12_init 223 = .ok (.newarray .int, 2) := by decide +kernel
theorem dX12_init_225 : decode cX12_init 225 = .ok (.putfield 98, 3) := by decide +kernel
theorem dX12_init_228 : decode cX12_init 228 = .ok (.aload_n 0, 1) := by decide +kernel
theorem dX12_init_229 : decode cX12_init 229 = .ok (.bipush 32, 2) := by decide +kernel
theorem dX12_init_231 : decode cX12_init 231 = .ok (.newarray .int, 2) := by decide +kernel
theorem dX12_init_233 : decode cX12_init 233 = .ok (.putfield 101, 3) := by decide +kernel
theorem dX12_init_236 : decode cX12_init 236 = .ok (.aload_n 0, 1) := by decide +kernel
theorem dX12_init_237 : decode cX12_init 237 = .ok (.bipush 32, 2) := by decide +kernel
theorem dX12_init_239 : decode cX12_init 239 = .ok (.newarray .int, 2) := by decide +kernel
theorem dX12_init_241 : decode cX12_init 241 = .ok (.putfield 104, 3) := by decide +kernel
theorem dX12_init_244 : decode cX12_init 244 = .ok (.aload_n 0, 1) := by decide +kernel
theorem dX12_init_245 : decode cX12_init 245 = .ok (.bipush 8, 2) := by decide +kernel
theorem dX12_init_247 : decode cX12_init 247 = .ok (.newarray .int, 2) := by decide +kernel
theorem dX12_init_249 : decode cX12_init 249 = .ok (.putfield 107, 3) := by decide +kernel
theorem dX12_init_252 : decode cX12_init 252 = .ok (.aload_n 0, 1) := by decide +kernel
theorem dX12_init_253 : decode cX12_init 253 = .ok (.bipush 9, 2) := by decide +kernel
theorem dX12_init_255 : decode cX12_init 255 = .ok (.newarray .int, 2) := by decide +kernel
theorem dX12_init_257 : decode cX12_init 257 = .ok (.putfield 110, 3) := by decide +kernel
theorem dX12_init_260 : decode cX12_init 260 = .ok (.aload_n 0, 1) := by decide +kernel
theorem dX12_init_261 : decode cX12_init 261 = .ok (.sipush 2048, 3) := by decide +kernel
theorem dX12_init_264 : decode cX12_init 264 = .ok (.newarray .int, 2) := by decide +kernel
theorem dX12_init_266 : decode cX12_init 266 = .ok (.putfield 113, 3) := by decide +kernel
theorem dX12_init_269 : decode cX12_init 269 = .ok (.aload_n 0, 1) := by decide +kernel
theorem dX12_init_270 : decode cX12_init 270 = .ok (.sipush 2048, 3) := by decide +kernel
theorem dX12_init_273 : decode cX12_init 273 = .ok (.newarray .int, 2) := by decide +kernel
theorem dX12_init_275 : decode cX12_init 275 = .ok (.putfield 116, 3) := by decide +kernel
theorem dX12_init_278 : decode cX12_init 278 = .ok (.aload_n 0, 1) := by decide +kernel
theorem dX12_init_279 : decode cX12_init 279 = .ok (.bipush 104, 2) := by decide +kernel
theorem dX12_init_281 : decode cX12_init 281 = .ok (.newarray .int, 2) := by decide +kernel
theorem dX12_init_283 : decode cX12_init 283 = .ok (.putfield 119, 3) := by decide +kernel
theorem dX12_init_286 : decode cX12_init 286 = .ok (.iconst 0, 1) := by decide +kernel
theorem dX12_init_287 : decode cX12_init 287 = .ok (.istore_n 1, 1) := by decide +kernel
theorem dX12_init_288 : decode cX12_init 288 = .ok (.iload_n 1, 1) := by decide +kernel
theorem dX12_init_289 : decode cX12_init 289 = .ok (.iconst 4, 1) := by decide +kernel
theorem dX12_init_290 : decode cX12_init 290 = .ok (.if_icmp .ge 16, 3) := by decide +kernel
theorem dX12_init_293 : decode cX12_init 293 = .ok (.aload_n 0, 1) := by decide +kernel
theorem dX12_init_294 : decode cX12_init 294 = .ok (.getfield 7, 3) := by decide +kernel
theorem dX12_init_297 : decode cX12_init 297 = .ok (.iload_n 1, 1) := by decide +kernel
theorem dX12_init_298 : decode cX12_init 298 = .ok (.iconst (-1), 1) := by decide +kernel
theorem dX12_init_299 : decode cX12_init 299 = .ok (.iastore, 1) := by decide +kernel
theorem dX12_init_300 : decode cX12_init 300 = .ok (.iinc 1 1, 3) := by decide +kernel
theorem dX12_init_303 : decode cX12_init 303 = .ok (.goto (-15), 3) := by decide +kernel
theorem dX12_init_306 : decode cX12_init 306 = .ok (.return_, 1) := by decide +kernel
theorem mokX12_init : MOK yX12_init cX12_init 2 none 0 := ⟨w6_203, w1_13, ⟨by decide, by decide⟩, by decide +kernel, by decide⟩
abbrev miX12_init : MI := (yX12_init.cls, cX12_init, 2, 1, true)
noncomputable def LX12_init_1 : Sm Unit := dLoop (fun f => (sI (sR fr0 0 (gR f 0)) 1 (gI f 1))) (dCI r_lt (vI 1) (cI 4)) (d3 (stI 13 idI) (dGR 12 1 (vR 0)) (vI 1) (cI (-1))) (dInc 1 1)
theorem sLX12_init_1 {ΓL : Gm} {PB PK : List Nat} : SS (cvoV, .return_) miX12_init ΓL PB PK [(0, 2), (1, 0)] [(0, 2), (1, 0)] 288 [306] LX12_init_1 := t_loop (pT := 293) (pF := 306) (pu := 300) (PB' := []) (PK' := []) (XB := [300]) (XU := [303]) (fun _ _ => rfl) rfl (c_lt_F (pF := 306) (s_iload_n dX12_init_288 rfl rfl) (s_iconst dX12_init_289 rfl) dX12_init_290 rfl) (t_stI (s_getR ck12 1 (by decide) rfl (s_aload_n dX12_init_293 rfl rfl) dX12_init_294 w6_206) (s_iload_n dX12_init_297 rfl rfl) (s_iconst dX12_init_298 rfl) dX12_init_299 rfl) (t_iinc dX12_init_300 rfl rfl rfl rfl) (lda_cons (ld_in rfl) lda_nil) lda_nil (lda_cons (ld_goto (y := 288) dX12_init_303 rfl (ld_in rfl)) lda_nil) (ld_in rfl) lda_nil
noncomputable def BX12_init : Sm Unit := (dSeq dSup (dSeq (dP (fR 12 1) (vR 0) (dNewA 0 (cI 4))) (dSeq (dP (fR 12 2) (vR 0) (dNewA 0 (cI 4))) (dSeq (dP (fR 12 3) (vR 0) (dNewA 3 (cI 240))) (dSeq (dP (fR 12 4) (vR 0) (dNewA 3 (cI 60))) (dSeq (dP (fR 12 5) (vR 0) (dNewA 1 (cI 800))) (dSeq (dP (fI 12 15) (vR 0) (cI (-1))) (dSeq (dP (fR 12 16) (vR 0) (dNewA 0 (cI 5))) (dSeq (dP (fR 12 17) (vR 0) (dNewA 0 (cI 45))) (dSeq (dP (fR 12 18) (vR 0) (dNewA 0 (cI 40))) (dSeq (dP (fR 12 19) (vR 0) (dNewA 0 (cI 120))) (dSeq (dP (fR 12 20) (vR 0) (dNewA 0 (cI 50))) (dSeq (dP (fR 12 21) (vR 0) (dNewA 0 (cI 15))) (dSeq (dP (fR 12 22) (vR 0) (dNewA 0 (cI 15))) (dSeq (dP (fR 12 23) (vR 0) (dNewA 0 (cI 90))) (dSeq (dP (fR 12 24) (vR 0) (dNewA 0 (cI 240))) (dSeq (dP (fR 12 25) (vR 0) (dNewA 0 (cI 400))) (dSeq (dP (fR 12 26) (vR 0) (dNewA 2 (cI 3))) (dSeq (dP (fR 12 31) (vR 0) (dNewA 0 (cI 3))) (dSeq (dP (fR 12 32) (vR 0) (dNewA 0 (cI 3))) (dSeq (dP (fR 12 33) (vR 0) (dNewA 0 (cI 65))) (dSeq (dP (fR 12 34) (vR 0) (dNewA 0 (cI 39))) (dSeq (dP (fR 12 35) (vR 0) (dNewA 0 (cI 39))) (dSeq (dP (fR 12 36) (vR 0) (dNewA 0 (cI 312))) (dSeq (dP (fR 12 37) (vR 0) (dNewA 0 (cI 5))) (dSeq (dP (fR 12 38) (vR 0) (dNewA 0 (cI 3))) (dSeq (dP (fR 12 39) (vR 0) (dNewA 0 (cI 3))) (dSeq (dP (fR 12 40) (vR 0) (dNewA 0 (cI 3))) (dSeq (dP (fR 12 41) (vR 0) (dNewA 0 (cI 24))) (dSeq (dP (fR 12 42) (vR 0) (dNewA 0 (cI 32))) (dSeq (dP (fR 12 43) (vR 0) (dNewA 0 (cI 32))) (dSeq (dP (fR 12 44) (vR 0) (dNewA 0 (cI 32))) (dSeq (dP (fR 12 47) (vR 0) (dNewA 0 (cI 8))) (dSeq (dP (fR 12 48) (vR 0) (dNewA 0 (cI 9))) (dSeq (dP (fR 12 49) (vR 0) (dNewA 0 (cI 2048))) (dSeq (dP (fR 12 50) (vR 0) (dNewA 0 (cI 2048))) (dSeq (dP (fR 12 54) (vR 0) (dNewA 0 (cI 104))) (dSeq (dSeq (dSetI 1 (cI 0)) LX12_init_1) dRet0))))))))))))))))))))))))))))))))))))))
theorem sBX12_init : SS (cvoV, .return_) miX12_init [] [] [] [(0, 2)] [(0, 2)] 0 [] BX12_init := (t_sq (p1 := 4) (Γ' := [(0, 2)]) (t_super dX12_init_0 rfl dX12_init_1 w6_204 w1_28 w1_29 rfl rfl) (t_sq (p1 := 11) (Γ' := [(0, 2)]) (t_pR ck12 1 (by decide) rfl ⟨rfl, rfl, fun _ => ⟨rfl, rfl⟩⟩ (Or.inr ⟨rfl, rfl, rfl⟩) (s_aload_n dX12_init_4 rfl rfl) (s_newI (s_iconst dX12_init_5 rfl) dX12_init_6 w1_129) dX12_init_8 w6_206 rfl) (t_sq (p1 := 18) (Γ' := [(0, 2)]) (t_pR ck12 2 (by decide) rfl ⟨rfl, rfl, fun _ => ⟨rfl, rfl⟩⟩ (Or.inr ⟨rfl, rfl, rfl⟩) (s_aload_n dX12_init_11 rfl rfl) (s_newI (s_iconst dX12_init_12 rfl) dX12_init_13 w1_129) dX12_init_15 w6_207 rfl) (t_sq (p1 := 27) (Γ' := [(0, 2)]) (t_pR ck12 3 (by decide) rfl ⟨rfl, rfl, fun _ => ⟨rfl, rfl⟩⟩ (Or.inr ⟨rfl, rfl, rfl⟩) (s_aload_n dX12_init_18 rfl rfl) (s_newJ (s_sipush dX12_init_19 rfl) dX12_init_22 w2_13) dX12_init_24 w6_208 rfl) (t_sq (p1 := 35) (Γ' := [(0, 2)]) (t_pR ck12 4 (by decide) rfl ⟨rfl, rfl, fun _ => ⟨rfl, rfl⟩⟩ (Or.inr ⟨rfl, rfl, rfl⟩) (s_aload_n dX12_init_27 rfl rfl) (s_newJ (s_bipush dX12_init_28 rfl) dX12_init_30 w2_13) dX12_init_32 w6_209 rfl) (t_sq (p1 := 44) (Γ' := [(0, 2)]) (t_pR ck12 5 (by decide) rfl ⟨rfl, rfl, fun _ => ⟨rfl, rfl⟩⟩ (Or.inr ⟨rfl, rfl, rfl⟩) (s_aload_n dX12_init_35 rfl rfl) (s_newB (s_sipush dX12_init_36 rfl) dX12_init_39 w1_59) dX12_init_41 w6_210 rfl) (t_sq (p1 := 49) (Γ' := [(0, 2)]) (t_pI ck12 15 (by decide) rfl (Or.inl rfl) (s_aload_n dX12_init_44 rfl rfl) (s_iconst dX12_init_45 rfl) dX12_init_46 w6_220 rfl) (t_sq (p1 := 56) (Γ' := [(0, 2)]) (t_pR ck12 16 (by decide) rfl ⟨rfl, rfl, fun _ => ⟨rfl, rfl⟩⟩ (Or.inr ⟨rfl, rfl, rfl⟩) (s_aload_n dX12_init_49 rfl rfl) (s_newI (s_iconst dX12_init_50 rfl) dX12_init_51 w1_129) dX12_init_53 w6_221 rfl) (t_sq (p1 := 64) (Γ' := [(0, 2)]) (t_pR ck12 17 (by decide) rfl ⟨rfl, rfl, fun _ => ⟨rfl, rfl⟩⟩ (Or.inr ⟨rfl, rfl, rfl⟩) (s_aload_n dX12_init_56 rfl rfl) (s_newI (s_bipush dX12_init_57 rfl) dX12_init_59 w1_129) dX12_init_61 w6_222 rfl) (t_sq (p1 := 72) (Γ' := [(0, 2)]) (t_pR ck12 18 (by decide) rfl ⟨rfl, rfl, fun _ => ⟨rfl, rfl⟩⟩ (Or.inr ⟨rfl, rfl, rfl⟩) (s_aload_n dX12_init_64 rfl rfl) (s_newI (s_bipush dX12_init_65 rfl) dX12_init_67 w1_129) dX12_init_69 w6_223 rfl) (t_sq (p1 := 80) (Γ' := [(0, 2)]) (t_pR ck12 19 (by decide) rfl ⟨rfl, rfl, fun _ => ⟨rfl, rfl⟩⟩ (Or.inr ⟨rfl, rfl, rfl⟩) (s_aload_n dX12_init_72 rfl rfl) (s_newI (s_bipush dX12_init_73 rfl) dX12_init_75 w1_129) dX12_init_77 w6_224 rfl) (t_sq (p1 := 88) (Γ' := [(0, 2)]) (t_pR ck12 20 (by decide) rfl ⟨rfl, rfl, fun _ => ⟨rfl, rfl⟩⟩ (Or.inr ⟨rfl, rfl, rfl⟩) (s_aload_n dX12_init_80 rfl rfl) (s_newI (s_bipush dX12_init_81 rfl) dX12_init_83 w1_129) dX12_init_85 w6_225 rfl) (t_sq (p1 := 96) (Γ' := [(0, 2)]) (t_pR ck12 21 (by decide) rfl ⟨rfl, rfl, fun _ => ⟨rfl, rfl⟩⟩ (Or.inr ⟨rfl, rfl, rfl⟩) (s_aload_n dX12_init_88 rfl rfl) (s_newI (s_bipush dX12_init_89 rfl) dX12_init_91 w1_129) dX12_init_93 w6_226 rfl) (t_sq (p1 := 104) (Γ' := [(0, 2)]) (t_pR ck12 22 (by decide) rfl ⟨rfl, rfl, fun _ => ⟨rfl, rfl⟩⟩ (Or.inr ⟨rfl, rfl, rfl⟩) (s_aload_n dX12_init_96 rfl rfl) (s_newI (s_bipush dX12_init_97 rfl) dX12_init_99 w1_129) dX12_init_101 w6_227 rfl) (t_sq (p1 := 112) (Γ' := [(0, 2)]) (t_pR ck12 23 (by decide) rfl ⟨rfl, rfl, fun _ => ⟨rfl, rfl⟩⟩ (Or.inr ⟨rfl, rfl, rfl⟩) (s_aload_n dX12_init_104 rfl rfl) (s_newI (s_bipush dX12_init_105 rfl) dX12_init_107 w1_129) dX12_init_109 w6_228 rfl) (t_sq (p1 := 121) (Γ' := [(0, 2)]) (t_pR ck12 24 (by decide) rfl ⟨rfl, rfl, fun _ => ⟨rfl, rfl⟩⟩ (Or.inr ⟨rfl, rfl, rfl⟩) (s_aload_n dX12_init_112 rfl rfl) (s_newI (s_sipush dX12_init_113 rfl) dX12_init_116 w1_129) dX12_init_118 w6_229 rfl) (t_sq (p1 := 130) (Γ' := [(0, 2)]) (t_pR ck12 25 (by decide) rfl ⟨rfl, rfl, fun _ => ⟨rfl, rfl⟩⟩ (Or.inr ⟨rfl, rfl, rfl⟩) (s_aload_n dX12_init_121 rfl rfl) (s_newI (s_sipush dX12_init_122 rfl) dX12_init_125 w1_129) dX12_init_127 w6_230 rfl) (t_sq (p1 := 137) (Γ' := [(0, 2)]) (t_pR ck12 26 (by decide) rfl ⟨rfl, rfl, fun _ => ⟨rfl, rfl⟩⟩ (Or.inr ⟨rfl, rfl, rfl⟩) (s_aload_n dX12_init_130 rfl rfl) (s_newZ (s_iconst dX12_init_131 rfl) dX12_init_132 w7_131) dX12_init_134 w6_231 rfl) (t_sq (p1 := 144) (Γ' := [(0, 2)]) (t_pR ck12 31 (by decide) rfl ⟨rfl, rfl, fun _ => ⟨rfl, rfl⟩⟩ (Or.inr ⟨rfl, rfl, rfl⟩) (s_aload_n dX12_init_137 rfl rfl) (s_newI (s_iconst dX12_init_138 rfl) dX12_init_139 w1_129) dX12_init_141 w6_236 rfl) (t_sq (p1 := 151) (Γ' := [(0, 2)]) (t_pR ck12 32 (by decide) rfl ⟨rfl, rfl, fun _ => ⟨rfl, rfl⟩⟩ (Or.inr ⟨rfl, rfl, rfl⟩) (s_aload_n dX12_init_144 rfl rfl) (s_newI (s_iconst dX12_init_145 rfl) dX12_init_146 w1_129) dX12_init_148 w6_237 rfl) (t_sq (p1 := 159) (Γ' := [(0, 2)]) (t_pR ck12 33 (by decide) rfl ⟨rfl, rfl, fun _ => ⟨rfl, rfl⟩⟩ (Or.inr ⟨rfl, rfl, rfl⟩) (s_aload_n dX12_init_151 rfl rfl) (s_newI (s_bipush dX12_init_152 rfl) dX12_init_154 w1_129) dX12_init_156 w6_238 rfl) (t_sq (p1 := 167) (Γ' := [(0, 2)]) (t_pR ck12 34 (by decide) rfl ⟨rfl, rfl, fun _ => ⟨rfl, rfl⟩⟩ (Or.inr ⟨rfl, rfl, rfl⟩) (s_aload_n dX12_init_159 rfl rfl) (s_newI (s_bipush dX12_init_160 rfl) dX12_init_162 w1_129) dX12_init_164 w6_239 rfl) (t_sq (p1 := 175) (Γ' := [(0, 2)]) (t_pR ck12 35 (by decide) rfl ⟨rfl, rfl, fun _ => ⟨rfl, rfl⟩⟩ (Or.inr ⟨rfl, rfl, rfl⟩) (s_aload_n dX12_init_167 rfl rfl) (s_newI (s_bipush dX12_init_168 rfl) dX12_init_170 w1_129) dX12_init_172 w7_0 rfl) (t_sq (p1 := 184) (Γ' := [(0, 2)]) (t_pR ck12 36 (by decide) rfl ⟨rfl, rfl, fun _ => ⟨rfl, rfl⟩⟩ (Or.inr ⟨rfl, rfl, rfl⟩) (s_aload_n dX12_init_175 rfl rfl) (s_newI (s_sipush dX12_init_176 rfl) dX12_init_179 w1_129) dX12_init_181 w7_1 rfl) (t_sq (p1 := 191) (Γ' := [(0, 2)]) (t_pR ck12 37 (by decide) rfl ⟨rfl, rfl, fun _ => ⟨rfl, rfl⟩⟩ (Or.inr ⟨rfl, rfl, rfl⟩) (s_aload_n dX12_init_184 rfl rfl) (s_newI (s_iconst dX12_init_185 rfl) dX12_init_186 w1_129) dX12_init_188 w7_2 rfl) (t_sq (p1 := 198) (Γ' := [(0, 2)]) (t_pR ck12 38 (by decide) rfl ⟨rfl, rfl, fun _ => ⟨rfl, rfl⟩⟩ (Or.inr ⟨rfl, rfl, rfl⟩) (s_aload_n dX12_init_191 rfl rfl) (s_newI (s_iconst dX12_init_192 rfl) dX12_init_193 w1_129) dX12_init_195 w7_3 rfl) (t_sq (p1 := 205) (Γ' := [(0, 2)]) (t_pR ck12 39 (by decide) rfl ⟨rfl, rfl, fun _ => ⟨rfl, rfl⟩⟩ (Or.inr ⟨rfl, rfl, rfl⟩) (s_aload_n dX12_init_198 rfl rfl) (s_newI (s_iconst dX12_init_199 rfl) dX12_init_200 w1_129) dX12_init_202 w7_4 rfl) (t_sq (p1 := 212) (Γ' := [(0, 2)]) (t_pR ck12 40 (by decide) rfl ⟨rfl, rfl, fun _ => ⟨rfl, rfl⟩⟩ (Or.inr ⟨rfl, rfl, rfl⟩) (s_aload_n dX12_init_205 rfl rfl) (s_newI (s_iconst dX12_init_206 rfl) dX12_init_207 w1_129) dX12_init_209 w7_5 rfl) (t_sq (p1 := 220) (Γ' := [(0, 2)]) (t_pR ck12 41 (by decide) rfl ⟨rfl, rfl, fun _ => ⟨rfl, rfl⟩⟩ (Or.inr ⟨rfl, rfl, rfl⟩) (s_aload_n dX12_init_212 rfl rfl) (s_newI (s_bipush dX12_init_213 rfl) dX12_init_215 w1_129) dX12_init_217 w7_6 rfl) (t_sq (p1 := 228) (Γ' := [(0, 2)]) (t_pR ck12 42 (by decide) rfl ⟨rfl, rfl, fun _ => ⟨rfl, rfl⟩⟩ (Or.inr ⟨rfl, rfl, rfl⟩) (s_aload_n dX12_init_220 rfl rfl) (s_newI (s_bipush dX12_init_221 rfl) dX12_init_223 w1_129) dX12_init_225 w7_7 rfl) (t_sq (p1 := 236) (Γ' := [(0, 2)]) (t_pR ck12 43 (by decide) rfl ⟨rfl, rfl, fun _ => ⟨rfl, rfl⟩⟩ (Or.inr ⟨rfl, rfl, rfl⟩) (s_aload_n dX12_init_228 rfl rfl) (s_newI (s_bipush dX12_init_229 rfl) dX12_init_231 w1_129) dX12_init_233 w7_8 rfl) (t_sq (p1 := 244) (Γ' := [(0, 2)]) (t_pR ck12 44 (by decide) rfl ⟨rfl, rfl, fun _ => ⟨rfl, rfl⟩⟩ (Or.inr ⟨rfl, rfl, rfl⟩) (s_aload_n dX12_init_236 rfl rfl) (s_newI (s_bipush dX12_init_237 rfl) dX12_init_239 w1_129) dX12_init_241 w7_9 rfl) (t_sq (p1 := 252) (Γ' := [(0, 2)]) (t_pR ck12 47 (by decide) rfl ⟨rfl, rfl, fun _ => ⟨rfl, rfl⟩⟩ (Or.inr ⟨rfl, rfl, rfl⟩) (s_aload_n dX12_init_244 rfl rfl) (s_newI (s_bipush dX12_init_245 rfl) dX12_init_247 w1_129) dX12_init_249 w7_12 rfl) (t_sq (p1 := 260) (Γ' := [(0, 2)]) (t_pR ck12 48 (by decide) rfl ⟨rfl, rfl, fun _ => ⟨rfl, rfl⟩⟩ (Or.inr ⟨rfl, rfl, rfl⟩) (s_aload_n dX12_init_252 rfl rfl) (s_newI (s_bipush dX12_init_253 rfl) dX12_init_255 w1_129) dX12_init_257 w7_13 rfl) (t_sq (p1 := 269) (Γ' := [(0, 2)]) (t_pR ck12 49 (by decide) rfl ⟨rfl, rfl, fun _ => ⟨rfl, rfl⟩⟩ (Or.inr ⟨rfl, rfl, rfl⟩) (s_aload_n dX12_init_260 rfl rfl) (s_newI (s_sipush dX12_init_261 rfl) dX12_init_264 w1_129) dX12_init_266 w7_14 rfl) (t_sq (p1 := 278) (Γ' := [(0, 2)]) (t_pR ck12 50 (by decide) rfl ⟨rfl, rfl, fun _ => ⟨rfl, rfl⟩⟩ (Or.inr ⟨rfl, rfl, rfl⟩) (s_aload_n dX12_init_269 rfl rfl) (s_newI (s_sipush dX12_init_270 rfl) dX12_init_273 w1_129) dX12_init_275 w7_15 rfl) (t_sq (p1 := 286) (Γ' := [(0, 2)]) (t_pR ck12 54 (by decide) rfl ⟨rfl, rfl, fun _ => ⟨rfl, rfl⟩⟩ (Or.inr ⟨rfl, rfl, rfl⟩) (s_aload_n dX12_init_278 rfl rfl) (s_newI (s_bipush dX12_init_279 rfl) dX12_init_281 w1_129) dX12_init_283 w7_19 rfl) (t_sq (p1 := 306) (Γ' := [(0, 2)]) (t_sq (p1 := 288) (Γ' := [(0, 2), (1, 0)]) (t_istore_n (s_iconst dX12_init_286 rfl) dX12_init_287 rfl rfl rfl) (tn_to (Γ' := [(0, 2), (1, 0)]) (XA := [306]) sLX12_init_1 (lda_cons (ld_in rfl) lda_nil) rfl)) (t_ret0 (fun _ _ => rfl) dX12_init_306)))))))))))))))))))))))))))))))))))))))
noncomputable def DX12_init : Fr → St → Option (Unit × St) := M1 (fun f => (sR fr0 0 (gR f 0))) BX12_init
theorem kX12_init : SND yX12_init cX12_init 2 none 1 [(0, 2)] cvoV DX12_init := snd_V (nw := 1) (by decide) (fun _ => rfl) rfl rfl (fun _ _ => rfl) sBX12_init
theorem dX12_in_0 : decode cX12_in 0 = .ok (.lload_n 0, 1) := by decide +kernel
theorem dX12_in_1 : decode cX12_in 1 = .ok (.lload_n 2, 1) := by decide +kernel
theorem dX12_in_2 : decode cX12_in 2 = .ok (.lcmp, 1) := by decide +kernel
theorem dX12_in_3 : decode cX12_in 3 = .ok (.ifCond .lt 14, 3) := by decide +kernel
theorem dX12_in_6 : decode cX12_in 6 = .ok (.lload_n 0, 1) := by decide +kernel
theorem dX12_in_7 : decode cX12_in 7 = .ok (.lload 4, 2) := by decide +kernel
theorem dX12_in_9 : decode cX12_in 9 = .ok (.lcmp, 1) := by decide +kernel
theorem dX12_in_10 : decode cX12_in 10 = .ok (.ifCond .gt 7, 3) := by decide +kernel
theorem dX12_in_13 : decode cX12_in 13 = .ok (.iconst 1, 1) := by decide +kernel
theorem dX12_in_14 : decode cX12_in 14 = .ok (.goto 4, 3) := by decide +kernel
theorem dX12_in_17 : decode cX12_in 17 = .ok (.iconst 0, 1) := by decide +kernel
theorem dX12_in_18 : decode cX12_in 18 = .ok (.ireturn, 1) := by decide +kernel
theorem mokX12_in : MOK yX12_in cX12_in 6 (some .boolean) 3 := ⟨w7_142, w1_13, ⟨by decide, by decide⟩, by decide +kernel, by decide⟩
abbrev miX12_in : MI := (yX12_in.cls, cX12_in, 6, 1, false)
noncomputable def BX12_in : Sm Int32 := (dRet (dB (dAnd (dCZ q_ge (d2 o_lcmp (vL 0) (vL 2))) (dCZ q_le (d2 o_lcmp (vL 0) (vL 4))))))
theorem sBX12_in : SS (cvoI, .ireturn) miX12_in [] [] [] [(0, 1), (2, 1), (4, 1)] [(0, 1), (2, 1), (4, 1)] 0 [] BX12_in := (t_ret (cv := cvI) (fun _ _ => rfl) (s_B (pT := 13) (pF := 17) (pe := 18) (c_and (p1 := 6) (pT := 13) (pF := 17) (c_ge_ZF (pF := 17) (s_lcmp (s_lload_n dX12_in_0 rfl rfl) (s_lload_n dX12_in_1 rfl rfl) dX12_in_2) dX12_in_3 rfl) (c_le_ZF (pF := 17) (s_lcmp (s_lload_n dX12_in_6 rfl rfl) (s_lload dX12_in_7 rfl) dX12_in_9) dX12_in_10 rfl)) dX12_in_13 dX12_in_14 rfl dX12_in_17 rfl) dX12_in_18)
noncomputable def DX12_in : Fr → St → Option (Int32 × St) := MZ (fun f => (sL (sL (sL fr0 0 (gL f 0)) 2 (gL f 2)) 4 (gL f 4))) BX12_in
theorem kX12_in : SND yX12_in cX12_in 6 (some .boolean) 1 [(0, 1), (2, 1), (4, 1)] cvoI DX12_in := snd_Z (nw := 6) (by decide) rfl rfl (fun _ _ => rfl) sBX12_in
theorem dX12_isSlot_0 : decode cX12_isSlot 0 = .ok (.iload_n 0, 1) := by decide +kernel
theorem dX12_isSlot_1 : decode cX12_isSlot 1 = .ok (.i2l, 1) := by decide +kernel
theorem dX12_isSlot_2 : decode cX12_isSlot 2 = .ok (.lconst 0, 1) := by decide +kernel
theorem dX12_isSlot_3 : decode cX12_isSlot 3 = .ok (.ldc2_w 125, 3) := by decide +kernel
theorem dX12_isSlot_6 : decode cX12_isSlot 6 = .ok (.invokestatic 127, 3) := by decide +kernel
theorem dX12_isSlot_9 : decode cX12_isSlot 9 = .ok (.ireturn, 1) := by decide +kernel
theorem mokX12_isSlot : MOK yX12_isSlot cX12_isSlot 1 (some .boolean) 1 := ⟨w7_138, w1_13, ⟨by decide, by decide⟩, by decide +kernel, by decide⟩
abbrev miX12_isSlot : MI := (yX12_isSlot.cls, cX12_isSlot, 1, 2, false)
noncomputable def BX12_isSlot : Sm Int32 := (dRet (dCall DX12_in (aL (aL (aL aN 0 (d1 o_i2l (vI 0))) 2 (cL 0)) 4 (cL 3))))
theorem sBX12_isSlot : SS (cvoI, .ireturn) miX12_isSlot [] [] [] [(0, 0)] [(0, 0)] 0 [] BX12_isSlot := (t_ret (cv := cvI) (fun _ _ => rfl) (s_of_xI (x_call (ts := [(0, 1), (2, 1), (4, 1)]) kX12_in mokX12_in w7_141 rfl rfl rfl (a_L (ts := [(0, 1), (2, 1)]) 4 (a_L (ts := [(0, 1)]) 2 (a_L (ts := []) 0 a_nil (s_i2l (s_iload_n dX12_isSlot_0 rfl rfl) dX12_isSlot_1) rfl) (s_lconst dX12_isSlot_2 rfl) rfl) (s_ldc2 dX12_isSlot_3 w7_139) rfl) dX12_isSlot_6 w7_140)) dX12_isSlot_9)
noncomputable def DX12_isSlot : Fr → St → Option (Int32 × St) := MZ (fun f => (sI fr0 0 (gI f 0))) BX12_isSlot
theorem kX12_isSlot : SND yX12_isSlot cX12_isSlot 1 (some .boolean) 2 [(0, 0)] cvoI DX12_isSlot := snd_Z (nw := 1) (by decide) rfl rfl (fun _ _ => rfl) sBX12_isSlot
theorem dX12_row_0 : decode cX12_row 0 = .ok (.aload_n 0, 1) := by decide +kernel
theorem dX12_row_1 : decode cX12_row 1 = .ok (.iconst 0, 1) := by decide +kernel
theorem dX12_row_2 : decode cX12_row 2 = .ok (.putfield 122, 3) := by decide +kernel
theorem dX12_row_5 : decode cX12_row 5 = .ok (.iload_n 1, 1) := by decide +kernel
theorem dX12_row_6 : decode cX12_row 6 = .ok (.invokestatic 131, 3) := by decide +kernel
theorem dX12_row_9 : decode cX12_row 9 = .ok (.ifCond .eq 21, 3) := by decide +kernel
theorem dX12_row_12 : decode cX12_row 12 = .ok (.iload_n 2, 1) := by decide +kernel
theorem dX12_row_13 : decode cX12_row 13 = .ok (.i2l, 1) := by decide +kernel
theorem dX12_row_14 : decode cX12_row 14 = .ok (.lconst 0, 1) := by decide +kernel
theorem dX12_row_15 : decode cX12_row 15 = .ok (.ldc2_w 125, 3) := by decide +kernel
theorem dX12_row_18 : decode cX12_row 18 = .ok (.invokestatic 127, 3) := by decide +kernel
theorem dX12_row_21 : decode cX12_row 21 = .ok (.ifCond .eq 9, 3) := by decide +kernel
theorem dX12_row_24 : decode cX12_row 24 = .ok (.iload_n 3, 1) := by decide +kernel
theorem dX12_row_25 : decode cX12_row 25 = .ok (.bipush 60, 2) := by decide +kernel
theorem dX12_row_27 : decode cX12_row 27 = .ok (.if_icmp .le 6, 3) := by decide +kernel
theorem dX12_row_30 : decode cX12_row 30 = .ok (.bipush (-2), 2) := by decide +kernel
theorem dX12_row_32 : decode cX12_row 32 = .ok (.ireturn, 1) := by decide +kernel
theorem dX12_row_33 : decode cX12_row 33 = .ok (.iload_n 3, 1) := by decide +kernel
theorem dX12_row_34 : decode cX12_row 34 = .ok (.ifCond .ge 6, 3) := by decide +kernel
theorem dX12_row_37 : decode cX12_row 37 = .ok (.bipush (-3), 2) := by decide +kernel
theorem dX12_row_39 : decode cX12_row 39 = .ok (.ireturn, 1) := by decide +kernel
theorem dX12_row_40 : decode cX12_row 40 = .ok (.aload_n 0, 1) := by decide +kernel
theorem dX12_row_41 : decode cX12_row 41 = .ok (.getfield 7, 3) := by decide +kernel
theorem dX12_row_44 : decode cX12_row 44 = .ok (.iload_n 1, 1) := by decide +kernel
theorem dX12_row_45 : decode cX12_row 45 = .ok (.iload_n 2, 1) := by decide +kernel
theorem dX12_row_46 : decode cX12_row 46 = .ok (.iastore, 1) := by decide +kernel
theorem dX12_row_47 : decode cX12_row 47 = .ok (.aload_n 0, 1) := by decide +kernel
theorem dX12_row_48 : decode cX12_row 48 = .ok (.getfield 13, 3) := by decide +kernel
theorem dX12_row_51 : decode cX12_row 51 = .ok (.iload_n 1, 1) := by decide +kernel
theorem dX12_row_52 : decode cX12_row 52 = .ok (.iload_n 3, 1) := by decide +kernel
theorem dX12_row_53 : decode cX12_row 53 = .ok (.iastore, 1) := by decide +kernel
theorem dX12_row_54 : decode cX12_row 54 = .ok (.iconst 0, 1) := by decide +kernel
theorem dX12_row_55 : decode cX12_row 55 = .ok (.istore 4, 2) := by decide +kernel
theorem dX12_row_57 : decode cX12_row 57 = .ok (.iload 4, 2) := by decide +kernel
theorem dX12_row_59 : decode cX12_row 59 = .ok (.iload_n 3, 1) := by decide +kernel
theorem dX12_row_60 : decode cX12_row 60 = .ok (.if_icmp .ge 22, 3) := by decide +kernel
theorem dX12_row_63 : decode cX12_row 63 = .ok (.aload_n 0, 1) := by decide +kernel
theorem dX12_row_64 : decode cX12_row 64 = .ok (.getfield 16, 3) := by decide +kernel
theorem dX12_row_67 : decode cX12_row 67 = .ok (.bipush 60, 2) := by decide +kernel
theorem dX12_row_69 : decode cX12_row 69 = .ok (.iload_n 1, 1) := by decide +kernel
theorem dX12_row_70 : decode cX12_row 70 = .ok (.imul, 1) := by decide +kernel
theorem dX12_row_71 : decode cX12_row 71 = .ok (.iload 4, 2) := by decide +kernel
theorem dX12_row_73 : decode cX12_row 73 = .ok (.iadd, 1) := by decide +kernel
theorem dX12_row_74 : decode cX12_row 74 = .ok (.lconst 0, 1) := by decide +kernel
theorem dX12_row_75 : decode cX12_row 75 = .ok (.lastore, 1) := by decide +kernel
theorem dX12_row_76 : decode cX12_row 76 = .ok (.iinc 4 1, 3) := by decide +kernel
theorem dX12_row_79 : decode cX12_row 79 = .ok (.goto (-22), 3) := by decide +kernel
theorem dX12_row_82 : decode cX12_row 82 = .ok (.iconst 0, 1) := by decide +kernel
theorem dX12_row_83 : decode cX12_row 83 = .ok (.ireturn, 1) := by decide +kernel
theorem mokX12_row : MOK yX12_row cX12_row 5 (some .int) 3 := ⟨w7_135, w1_13, ⟨by decide, by decide⟩, by decide +kernel, by decide⟩
abbrev miX12_row : MI := (yX12_row.cls, cX12_row, 5, 3, false)
noncomputable def LX12_row_1 : Sm Int32 := dLoop (fun f => (sI (sI (sI (sI (sR fr0 0 (gR f 0)) 1 (gI f 1)) 2 (gI f 2)) 3 (gI f 3)) 4 (gI f 4))) (dCI r_lt (vI 4) (vI 3)) (d3 stL (dGR 12 3 (vR 0)) (d2 o_iadd (d2 o_imul (cI 60) (vI 1)) (vI 4)) (cL 0)) (dInc 4 1)
theorem sLX12_row_1 {ΓL : Gm} {PB PK : List Nat} : SS (cvoI, .ireturn) miX12_row ΓL PB PK [(0, 2), (1, 0), (2, 0), (3, 0), (4, 0)] [(0, 2), (1, 0), (2, 0), (3, 0), (4, 0)] 57 [82] LX12_row_1 := t_loop (pT := 63) (pF := 82) (pu := 76) (PB' := []) (PK' := []) (XB := [76]) (XU := [79]) (fun _ _ => rfl) rfl (c_lt_F (pF := 82) (s_iload dX12_row_57 rfl) (s_iload_n dX12_row_59 rfl rfl) dX12_row_60 rfl) (t_stL (s_getR ck12 3 (by decide) rfl (s_aload_n dX12_row_63 rfl rfl) dX12_row_64 w6_208) (s_iadd (s_imul (s_bipush dX12_row_67 rfl) (s_iload_n dX12_row_69 rfl rfl) dX12_row_70) (s_iload dX12_row_71 rfl) dX12_row_73) (s_lconst dX12_row_74 rfl) dX12_row_75 rfl) (t_iinc dX12_row_76 rfl rfl rfl rfl) (lda_cons (ld_in rfl) lda_nil) lda_nil (lda_cons (ld_goto (y := 57) dX12_row_79 rfl (ld_in rfl)) lda_nil) (ld_in rfl) lda_nil
noncomputable def BX12_row : Sm Int32 := (dSeq (dP (fI 12 0) (vR 0) (cI 0)) (dSeq (dIf (dOr (dOr (dNot (dCZ q_ne (dCall DX12_isSlot (aI aN 0 (vI 1))))) (dNot (dCZ q_ne (dCall DX12_in (aL (aL (aL aN 0 (d1 o_i2l (vI 2))) 2 (cL 0)) 4 (cL 3)))))) (dCI r_gt (vI 3) (cI 60))) (dRet (cI (-2))) dSkip) (dSeq (dIf (dCZ q_lt (vI 3)) (dRet (cI (-3))) dSkip) (dSeq (d3 (stI 13 idI) (dGR 12 1 (vR 0)) (vI 1) (vI 2)) (dSeq (d3 (stI 13 idI) (dGR 12 2 (vR 0)) (vI 1) (vI 3)) (dSeq (dSeq (dSetI 4 (cI 0)) LX12_row_1) (dRet (cI 0))))))))
theorem sBX12_row : SS (cvoI, .ireturn) miX12_row [] [] [] [(0, 2), (1, 0), (2, 0), (3, 0)] [(0, 2), (1, 0), (2, 0), (3, 0)] 0 [] BX12_row := (t_sq (p1 := 5) (Γ' := [(0, 2), (1, 0), (2, 0), (3, 0)]) (t_pI ck12 0 (by decide) rfl (Or.inl rfl) (s_aload_n dX12_row_0 rfl rfl) (s_iconst dX12_row_1 rfl) dX12_row_2 w6_205 rfl) (t_sq (p1 := 33) (Γ' := [(0, 2), (1, 0), (2, 0), (3, 0)]) (t_if (pT := 30) (pF := 33) (X := [33]) (XA := []) (XB := [33]) (c_or (p1 := 24) (pT := 30) (pF := 33) (c_or (p1 := 12) (pT := 30) (pF := 24) (c_not (pT := 30) (pF := 12) (c_ne_ZF (pF := 30) (s_of_xI (x_call (ts := [(0, 0)]) kX12_isSlot mokX12_isSlot w7_137 rfl rfl rfl (a_I (ts := []) 0 a_nil (s_iload_n dX12_row_5 rfl rfl) rfl) dX12_row_6 w7_136)) dX12_row_9 rfl)) (c_not (pT := 30) (pF := 24) (c_ne_ZF (pF := 30) (s_of_xI (x_call (ts := [(0, 1), (2, 1), (4, 1)]) kX12_in mokX12_in w7_141 rfl rfl rfl (a_L (ts := [(0, 1), (2, 1)]) 4 (a_L (ts := [(0, 1)]) 2 (a_L (ts := []) 0 a_nil (s_i2l (s_iload_n dX12_row_12 rfl rfl) dX12_row_13) rfl) (s_lconst dX12_row_14 rfl) rfl) (s_ldc2 dX12_row_15 w7_139) rfl) dX12_row_18 w7_140)) dX12_row_21 rfl))) (c_gt_F (pF := 33) (s_iload_n dX12_row_24 rfl rfl) (s_bipush dX12_row_25 rfl) dX12_row_27 rfl)) (t_ret (cv := cvI) (fun _ _ => rfl) (s_bipush dX12_row_30 rfl) dX12_row_32) (t_skip (ld_in rfl) rfl) lda_nil (lda_cons (ld_in rfl) lda_nil)) (t_sq (p1 := 40) (Γ' := [(0, 2), (1, 0), (2, 0), (3, 0)]) (t_if (pT := 37) (pF := 40) (X := [40]) (XA := []) (XB := [40]) (c_lt_ZF (pF := 40) (s_iload_n dX12_row_33 rfl rfl) dX12_row_34 rfl) (t_ret (cv := cvI) (fun _ _ => rfl) (s_bipush dX12_row_37 rfl) dX12_row_39) (t_skip (ld_in rfl) rfl) lda_nil (lda_cons (ld_in rfl) lda_nil)) (t_sq (p1 := 47) (Γ' := [(0, 2), (1, 0), (2, 0), (3, 0)]) (t_stI (s_getR ck12 1 (by decide) rfl (s_aload_n dX12_row_40 rfl rfl) dX12_row_41 w6_206) (s_iload_n dX12_row_44 rfl rfl) (s_iload_n dX12_row_45 rfl rfl) dX12_row_46 rfl) (t_sq (p1 := 54) (Γ' := [(0, 2), (1, 0), (2, 0), (3, 0)]) (t_stI (s_getR ck12 2 (by decide) rfl (s_aload_n dX12_row_47 rfl rfl) dX12_row_48 w6_207) (s_iload_n dX12_row_51 rfl rfl) (s_iload_n dX12_row_52 rfl rfl) dX12_row_53 rfl) (t_sq (p1 := 82) (Γ' := [(0, 2), (1, 0), (2, 0), (3, 0)]) (t_sq (p1 := 57) (Γ' := [(0, 2), (1, 0), (2, 0), (3, 0), (4, 0)]) (t_istore (s_iconst dX12_row_54 rfl) dX12_row_55 rfl rfl) (tn_to (Γ' := [(0, 2), (1, 0), (2, 0), (3, 0), (4, 0)]) (XA := [82]) sLX12_row_1 (lda_cons (ld_in rfl) lda_nil) rfl)) (t_ret (cv := cvI) (fun _ _ => rfl) (s_iconst dX12_row_82 rfl) dX12_row_83)))))))
noncomputable def DX12_row : Fr → St → Option (Int32 × St) := M1 (fun f => (sI (sI (sI (sR fr0 0 (gR f 0)) 1 (gI f 1)) 2 (gI f 2)) 3 (gI f 3))) BX12_row
theorem kX12_row : SND yX12_row cX12_row 5 (some .int) 3 [(0, 2), (1, 0), (2, 0), (3, 0)] cvoI DX12_row := snd_I (nw := 4) (by decide) rfl rfl (fun _ _ => rfl) sBX12_row
theorem dX12_cut_0 : decode cX12_cut 0 = .ok (.iload_n 2, 1) := by decide +kernel
theorem dX12_cut_1 : decode cX12_cut 1 = .ok (.ifCond .ne 10, 3) := by decide +kernel
theorem dX12_cut_4 : decode cX12_cut 4 = .ok (.lload_n 0, 1) := by decide +kernel
theorem dX12_cut_5 : decode cX12_cut 5 = .ok (.l2i, 1) := by decide +kernel
theorem dX12_cut_6 : decode cX12_cut 6 = .ok (.i2b, 1) := by decide +kernel
theorem dX12_cut_7 : decode cX12_cut 7 = .ok (.i2l, 1) := by decide +kernel
theorem dX12_cut_8 : decode cX12_cut 8 = .ok (.goto 27, 3) := by decide +kernel
theorem dX12_cut_11 : decode cX12_cut 11 = .ok (.iload_n 2, 1) := by decide +kernel
theorem dX12_cut_12 : decode cX12_cut 12 = .ok (.iconst 1, 1) := by decide +kernel
theorem dX12_cut_13 : decode cX12_cut 13 = .ok (.if_icmp .ne 10, 3) := by decide +kernel
theorem dX12_cut_16 : decode cX12_cut 16 = .ok (.lload_n 0, 1) := by decide +kernel
theorem dX12_cut_17 : decode cX12_cut 17 = .ok (.l2i, 1) := by decide +kernel
theorem dX12_cut_18 : decode cX12_cut 18 = .ok (.i2s, 1) := by decide +kernel
theorem dX12_cut_19 : decode cX12_cut 19 = .ok (.i2l, 1) := by decide +kernel
theorem dX12_cut_20 : decode cX12_cut 20 = .ok (.goto 15, 3) := by decide +kernel
theorem dX12_cut_23 : decode cX12_cut 23 = .ok (.iload_n 2, 1) := by decide +kernel
theorem dX12_cut_24 : decode cX12_cut 24 = .ok (.iconst 2, 1) := by decide +kernel
theorem dX12_cut_25 : decode cX12_cut 25 = .ok (.if_icmp .ne 9, 3) := by decide +kernel
theorem dX12_cut_28 : decode cX12_cut 28 = .ok (.lload_n 0, 1) := by decide +kernel
theorem dX12_cut_29 : decode cX12_cut 29 = .ok (.l2i, 1) := by decide +kernel
theorem dX12_cut_30 : decode cX12_cut 30 = .ok (.i2l, 1) := by decide +kernel
theorem dX12_cut_31 : decode cX12_cut 31 = .ok (.goto 4, 3) := by decide +kernel
theorem dX12_cut_34 : decode cX12_cut 34 = .ok (.lload_n 0, 1) := by decide +kernel
theorem dX12_cut_35 : decode cX12_cut 35 = .ok (.lreturn, 1) := by decide +kernel
theorem mokX12_cut : MOK yX12_cut cX12_cut 3 (some .long) 2 := ⟨w7_149, w1_13, ⟨by decide, by decide⟩, by decide +kernel, by decide⟩
abbrev miX12_cut : MI := (yX12_cut.cls, cX12_cut, 3, 1, false)
noncomputable def BX12_cut : Sm Int64 := (dRet (dT (dCZ q_eq (vI 2)) (d1 o_i2l (d1 o_i2b (d1 o_l2i (vL 0)))) (dT (dCI r_eq (vI 2) (cI 1)) (d1 o_i2l (d1 o_i2s (d1 o_l2i (vL 0)))) (dT (dCI r_eq (vI 2) (cI 2)) (d1 o_i2l (d1 o_l2i (vL 0))) (vL 0)))))
theorem sBX12_cut : SS (cvoL, .lreturn) miX12_cut [] [] [] [(0, 1), (2, 0)] [(0, 1), (2, 0)] 0 [] BX12_cut := (t_ret (cv := cvL) (fun _ _ => rfl) (s_T (pT := 4) (pF := 11) (p1 := 8) (pe := 35) (c_eq_ZF (pF := 11) (s_iload_n dX12_cut_0 rfl rfl) dX12_cut_1 rfl) (s_i2l (s_i2b (s_l2i (s_lload_n dX12_cut_4 rfl rfl) dX12_cut_5) dX12_cut_6) dX12_cut_7) (s_T (pT := 16) (pF := 23) (p1 := 20) (pe := 35) (c_eq_F (pF := 23) (s_iload_n dX12_cut_11 rfl rfl) (s_iconst dX12_cut_12 rfl) dX12_cut_13 rfl) (s_i2l (s_i2s (s_l2i (s_lload_n dX12_cut_16 rfl rfl) dX12_cut_17) dX12_cut_18) dX12_cut_19) (s_T (pT := 28) (pF := 34) (p1 := 31) (pe := 35) (c_eq_F (pF := 34) (s_iload_n dX12_cut_23 rfl rfl) (s_iconst dX12_cut_24 rfl) dX12_cut_25 rfl) (s_i2l (s_l2i (s_lload_n dX12_cut_28 rfl rfl) dX12_cut_29) dX12_cut_30) (s_lload_n dX12_cut_34 rfl rfl) (ld_goto (y := 35) dX12_cut_31 rfl (ld_in rfl))) (ld_goto (y := 35) dX12_cut_20 rfl (ld_in rfl))) (ld_goto (y := 35) dX12_cut_8 rfl (ld_in rfl))) dX12_cut_35)
noncomputable def DX12_cut : Fr → St → Option (Int64 × St) := M1 (fun f => (sI (sL fr0 0 (gL f 0)) 2 (gI f 2))) BX12_cut
theorem kX12_cut : SND yX12_cut cX12_cut 3 (some .long) 1 [(0, 1), (2, 0)] cvoL DX12_cut := snd_L (nw := 3) (by decide) rfl rfl (fun _ _ => rfl) sBX12_cut
theorem dX12_write_0 : decode cX12_write 0 = .ok (.aload_n 0, 1) := by decide +kernel
theorem dX12_write_1 : decode cX12_write 1 = .ok (.iconst 0, 1) := by decide +kernel
theorem dX12_write_2 : decode cX12_write 2 = .ok (.putfield 122, 3) := by decide +kernel
theorem dX12_write_5 : decode cX12_write 5 = .ok (.iload_n 1, 1) := by decide +kernel
theorem dX12_write_6 : decode cX12_write 6 = .ok (.invokestatic 131, 3) := by decide +kernel
theorem dX12_write_9 : decode cX12_write 9 = .ok (.ifCond .ne 6, 3) := by decide +kernel
theorem dX12_write_12 : decode cX12_write 12 = .ok (.bipush (-2), 2) := by decide +kernel
theorem dX12_write_14 : decode cX12_write 14 = .ok (.ireturn, 1) := by decide +kernel
theorem dX12_write_15 : decode cX12_write 15 = .ok (.aload_n 0, 1) := by decide +kernel
theorem dX12_write_16 : decode cX12_write 16 = .ok (.getfield 7, 3) := by decide +kernel
theorem dX12_write_19 : decode cX12_write 19 = .ok (.iload_n 1, 1) := by decide +kernel
theorem dX12_write_20 : decode cX12_write 20 = .ok (.iaload, 1) := by decide +kernel
theorem dX12_write_21 : decode cX12_write 21 = .ok (.iconst (-1), 1) := by decide +kernel
theorem dX12_write_22 : decode cX12_write 22 = .ok (.if_icmp .ne 6, 3) := by decide +kernel
theorem dX12_write_25 : decode cX12_write 25 = .ok (.bipush (-6), 2) := by decide +kernel
theorem dX12_write_27 : decode cX12_write 27 = .ok (.ireturn, 1) := by decide +kernel
theorem dX12_write_28 : decode cX12_write 28 = .ok (.iload_n 2, 1) := by decide +kernel
theorem dX12_write_29 : decode cX12_write 29 = .ok (.i2l, 1) := by decide +kernel
theorem dX12_write_30 : decode cX12_write 30 = .ok (.lconst 0, 1) := by decide +kernel
theorem dX12_write_31 : decode cX12_write 31 = .ok (.aload_n 0, 1) := by decide +kernel
theorem dX12_write_32 : decode cX12_write 32 = .ok (.getfield 13, 3) := by decide +kernel
theorem dX12_write_35 : decode cX12_write 35 = .ok (.iload_n 1, 1) := by decide +kernel
theorem dX12_write_36 : decode cX12_write 36 = .ok (.iaload, 1) := by decide +kernel
theorem dX12_write_37 : decode cX12_write 37 = .ok (.iconst 1, 1) := by decide +kernel
theorem dX12_write_38 : decode cX12_write 38 = .ok (.isub, 1) := by decide +kernel
theorem dX12_write_39 : decode cX12_write 39 = .ok (.i2l, 1) := by decide +kernel
theorem dX12_write_40 : decode cX12_write 40 = .ok (.invokestatic 127, 3) := by decide +kernel
theorem dX12_write_43 : decode cX12_write 43 = .ok (.ifCond .ne 6, 3) := by decide +kernel
theorem dX12_write_46 : decode cX12_write 46 = .ok (.bipush (-7), 2) := by decide +kernel
theorem dX12_write_48 : decode cX12_write 48 = .ok (.ireturn, 1) := by decide +kernel
theorem dX12_write_49 : decode cX12_write 49 = .ok (.aload_n 0, 1) := by decide +kernel
theorem dX12_write_50 : decode cX12_write 50 = .ok (.getfield 16, 3) := by decide +kernel
theorem dX12_write_53 : decode cX12_write 53 = .ok (.bipush 60, 2) := by decide +kernel
theorem dX12_write_55 : decode cX12_write 55 = .ok (.iload_n 1, 1) := by decide +kernel
theorem dX12_write_56 : decode cX12_write 56 = .ok (.imul, 1) := by decide +kernel
theorem dX12_write_57 : decode cX12_write 57 = .ok (.iload_n 2, 1) := by decide +kernel
theorem dX12_write_58 : decode cX12_write 58 = .ok (.iadd, 1) := by decide +kernel
theorem dX12_write_59 : decode cX12_write 59 = .ok (.lload_n 3, 1) := by decide +kernel
theorem dX12_write_60 : decode cX12_write 60 = .ok (.aload_n 0, 1) := by decide +kernel
theorem dX12_write_61 : decode cX12_write 61 = .ok (.getfield 7, 3) := by decide +kernel
theorem dX12_write_64 : decode cX12_write 64 = .ok (.iload_n 1, 1) := by decide +kernel
theorem dX12_write_65 : decode cX12_write 65 = .ok (.iaload, 1) := by decide +kernel
theorem dX12_write_66 : decode cX12_write 66 = .ok (.invokestatic 135, 3) := by decide +kernel
theorem dX12_write_69 : decode cX12_write 69 = .ok (.lastore, 1) := by decide +kernel
theorem dX12_write_70 : decode cX12_write 70 = .ok (.iconst 0, 1) := by decide +kernel
theorem dX12_write_71 : decode cX12_write 71 = .ok (.ireturn, 1) := by decide +kernel
theorem mokX12_write : MOK yX12_write cX12_write 5 (some .int) 3 := ⟨w7_146, w1_13, ⟨by decide, by decide⟩, by decide +kernel, by decide⟩
abbrev miX12_write : MI := (yX12_write.cls, cX12_write, 5, 3, false)
noncomputable def BX12_write : Sm Int32 := (dSeq (dP (fI 12 0) (vR 0) (cI 0)) (dSeq (dIf (dNot (dCZ q_ne (dCall DX12_isSlot (aI aN 0 (vI 1))))) (dRet (cI (-2))) dSkip) (dSeq (dIf (dCI r_eq (dAI (dGR 12 1 (vR 0)) (vI 1)) (cI (-1))) (dRet (cI (-6))) dSkip) (dSeq (dIf (dNot (dCZ q_ne (dCall DX12_in (aL (aL (aL aN 0 (d1 o_i2l (vI 2))) 2 (cL 0)) 4 (d1 o_i2l (d2 o_isub (dAI (dGR 12 2 (vR 0)) (vI 1)) (cI 1))))))) (dRet (cI (-7))) dSkip) (dSeq (d3 stL (dGR 12 3 (vR 0)) (d2 o_iadd (d2 o_imul (cI 60) (vI 1)) (vI 2)) (dCall DX12_cut (aI (aL aN 0 (vL 3)) 2 (dAI (dGR 12 1 (vR 0)) (vI 1))))) (dRet (cI 0)))))))
theorem sBX12_write : SS (cvoI, .ireturn) miX12_write [] [] [] [(0, 2), (1, 0), (2, 0), (3, 1)] [(0, 2), (1, 0), (2, 0), (3, 1)] 0 [] BX12_write := (t_sq (p1 := 5) (Γ' := [(0, 2), (1, 0), (2, 0), (3, 1)]) (t_pI ck12 0 (by decide) rfl (Or.inl rfl) (s_aload_n dX12_write_0 rfl rfl) (s_iconst dX12_write_1 rfl) dX12_write_2 w6_205 rfl) (t_sq (p1 := 15) (Γ' := [(0, 2), (1, 0), (2, 0), (3, 1)]) (t_if (pT := 12) (pF := 15) (X := [15]) (XA := []) (XB := [15]) (c_not (pT := 12) (pF := 15) (c_ne_ZJ (pT := 15) (s_of_xI (x_call (ts := [(0, 0)]) kX12_isSlot mokX12_isSlot w7_137 rfl rfl rfl (a_I (ts := []) 0 a_nil (s_iload_n dX12_write_5 rfl rfl) rfl) dX12_write_6 w7_136)) dX12_write_9 rfl)) (t_ret (cv := cvI) (fun _ _ => rfl) (s_bipush dX12_write_12 rfl) dX12_write_14) (t_skip (ld_in rfl) rfl) lda_nil (lda_cons (ld_in rfl) lda_nil)) (t_sq (p1 := 28) (Γ' := [(0, 2), (1, 0), (2, 0), (3, 1)]) (t_if (pT := 25) (pF := 28) (X := [28]) (XA := []) (XB := [28]) (c_eq_F (pF := 28) (s_dAI (s_getR ck12 1 (by decide) rfl (s_aload_n dX12_write_15 rfl rfl) dX12_write_16 w6_206) (s_iload_n dX12_write_19 rfl rfl) dX12_write_20) (s_iconst dX12_write_21 rfl) dX12_write_22 rfl) (t_ret (cv := cvI) (fun _ _ => rfl) (s_bipush dX12_write_25 rfl) dX12_write_27) (t_skip (ld_in rfl) rfl) lda_nil (lda_cons (ld_in rfl) lda_nil)) (t_sq (p1 := 49) (Γ' := [(0, 2), (1, 0), (2, 0), (3, 1)]) (t_if (pT := 46) (pF := 49) (X := [49]) (XA := []) (XB := [49]) (c_not (pT := 46) (pF := 49) (c_ne_ZJ (pT := 49) (s_of_xI (x_call (ts := [(0, 1), (2, 1), (4, 1)]) kX12_in mokX12_in w7_141 rfl rfl rfl (a_L (ts := [(0, 1), (2, 1)]) 4 (a_L (ts := [(0, 1)]) 2 (a_L (ts := []) 0 a_nil (s_i2l (s_iload_n dX12_write_28 rfl rfl) dX12_write_29) rfl) (s_lconst dX12_write_30 rfl) rfl) (s_i2l (s_isub (s_dAI (s_getR ck12 2 (by decide) rfl (s_aload_n dX12_write_31 rfl rfl) dX12_write_32 w6_207) (s_iload_n dX12_write_35 rfl rfl) dX12_write_36) (s_iconst dX12_write_37 rfl) dX12_write_38) dX12_write_39) rfl) dX12_write_40 w7_140)) dX12_write_43 rfl)) (t_ret (cv := cvI) (fun _ _ => rfl) (s_bipush dX12_write_46 rfl) dX12_write_48) (t_skip (ld_in rfl) rfl) lda_nil (lda_cons (ld_in rfl) lda_nil)) (t_sq (p1 := 70) (Γ' := [(0, 2), (1, 0), (2, 0), (3, 1)]) (t_stL (s_getR ck12 3 (by decide) rfl (s_aload_n dX12_write_49 rfl rfl) dX12_write_50 w6_208) (s_iadd (s_imul (s_bipush dX12_write_53 rfl) (s_iload_n dX12_write_55 rfl rfl) dX12_write_56) (s_iload_n dX12_write_57 rfl rfl) dX12_write_58) (s_of_xL (x_call (ts := [(0, 1), (2, 0)]) kX12_cut mokX12_cut w7_148 rfl rfl rfl (a_I (ts := [(0, 1)]) 2 (a_L (ts := []) 0 a_nil (s_lload_n dX12_write_59 rfl rfl) rfl) (s_dAI (s_getR ck12 1 (by decide) rfl (s_aload_n dX12_write_60 rfl rfl) dX12_write_61 w6_206) (s_iload_n dX12_write_64 rfl rfl) dX12_write_65) rfl) dX12_write_66 w7_147)) dX12_write_69 rfl) (t_ret (cv := cvI) (fun _ _ => rfl) (s_iconst dX12_write_70 rfl) dX12_write_71))))))
noncomputable def DX12_write : Fr → St → Option (Int32 × St) := M1 (fun f => (sL (sI (sI (sR fr0 0 (gR f 0)) 1 (gI f 1)) 2 (gI f 2)) 3 (gL f 3))) BX12_write
theorem kX12_write : SND yX12_write cX12_write 5 (some .int) 3 [(0, 2), (1, 0), (2, 0), (3, 1)] cvoI DX12_write := snd_I (nw := 5) (by decide) rfl rfl (fun _ _ => rfl) sBX12_write
