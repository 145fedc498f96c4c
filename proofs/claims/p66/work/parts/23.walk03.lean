theorem dX11_four_0 : decode cX11_four 0 = .ok (.aload_n 0, 1) := by decide +kernel
theorem dX11_four_1 : decode cX11_four 1 = .ok (.getfield 26, 3) := by decide +kernel
theorem dX11_four_4 : decode cX11_four 4 = .ok (.iload_n 1, 1) := by decide +kernel
theorem dX11_four_5 : decode cX11_four 5 = .ok (.invokevirtual 140, 3) := by decide +kernel
theorem dX11_four_8 : decode cX11_four 8 = .ok (.ifCond .eq 14, 3) := by decide +kernel
theorem dX11_four_11 : decode cX11_four 11 = .ok (.aload_n 0, 1) := by decide +kernel
theorem dX11_four_12 : decode cX11_four 12 = .ok (.getfield 26, 3) := by decide +kernel
theorem dX11_four_15 : decode cX11_four 15 = .ok (.iload_n 2, 1) := by decide +kernel
theorem dX11_four_16 : decode cX11_four 16 = .ok (.invokevirtual 117, 3) := by decide +kernel
theorem dX11_four_19 : decode cX11_four 19 = .ok (.ifCond .ne 6, 3) := by decide +kernel
theorem dX11_four_22 : decode cX11_four 22 = .ok (.bipush (-2), 2) := by decide +kernel
theorem dX11_four_24 : decode cX11_four 24 = .ok (.ireturn, 1) := by decide +kernel
theorem dX11_four_25 : decode cX11_four 25 = .ok (.aload_n 0, 1) := by decide +kernel
theorem dX11_four_26 : decode cX11_four 26 = .ok (.getfield 64, 3) := by decide +kernel
theorem dX11_four_29 : decode cX11_four 29 = .ok (.aload_n 0, 1) := by decide +kernel
theorem dX11_four_30 : decode cX11_four 30 = .ok (.getfield 26, 3) := by decide +kernel
theorem dX11_four_33 : decode cX11_four 33 = .ok (.iload_n 1, 1) := by decide +kernel
theorem dX11_four_34 : decode cX11_four 34 = .ok (.invokevirtual 267, 3) := by decide +kernel
theorem dX11_four_37 : decode cX11_four 37 = .ok (.aload_n 0, 1) := by decide +kernel
theorem dX11_four_38 : decode cX11_four 38 = .ok (.getfield 64, 3) := by decide +kernel
theorem dX11_four_41 : decode cX11_four 41 = .ok (.getfield 271, 3) := by decide +kernel
theorem dX11_four_44 : decode cX11_four 44 = .ok (.iload_n 2, 1) := by decide +kernel
theorem dX11_four_45 : decode cX11_four 45 = .ok (.invokestatic 124, 3) := by decide +kernel
theorem dX11_four_48 : decode cX11_four 48 = .ok (.istore_n 3, 1) := by decide +kernel
theorem dX11_four_49 : decode cX11_four 49 = .ok (.iconst (-1), 1) := by decide +kernel
theorem dX11_four_50 : decode cX11_four 50 = .ok (.istore 4, 2) := by decide +kernel
theorem dX11_four_52 : decode cX11_four 52 = .ok (.iload_n 3, 1) := by decide +kernel
theorem dX11_four_53 : decode cX11_four 53 = .ok (.iconst (-1), 1) := by decide +kernel
theorem dX11_four_54 : decode cX11_four 54 = .ok (.if_icmp .ne 5, 3) := by decide +kernel
theorem dX11_four_57 : decode cX11_four 57 = .ok (.iconst (-1), 1) := by decide +kernel
theorem dX11_four_58 : decode cX11_four 58 = .ok (.ireturn, 1) := by decide +kernel
theorem dX11_four_59 : decode cX11_four 59 = .ok (.iconst 1, 1) := by decide +kernel
theorem dX11_four_60 : decode cX11_four 60 = .ok (.istore 5, 2) := by decide +kernel
theorem dX11_four_62 : decode cX11_four 62 = .ok (.iload 5, 2) := by decide +kernel
theorem dX11_four_64 : decode cX11_four 64 = .ok (.aload_n 0, 1) := by decide +kernel
theorem dX11_four_65 : decode cX11_four 65 = .ok (.getfield 26, 3) := by decide +kernel
theorem dX11_four_68 : decode cX11_four 68 = .ok (.invokevirtual 226, 3) := by decide +kernel
theorem dX11_four_71 : decode cX11_four 71 = .ok (.if_icmp .gt 57, 3) := by decide +kernel
theorem dX11_four_74 : decode cX11_four 74 = .ok (.aload_n 0, 1) := by decide +kernel
theorem dX11_four_75 : decode cX11_four 75 = .ok (.getfield 26, 3) := by decide +kernel
theorem dX11_four_78 : decode cX11_four 78 = .ok (.iload 5, 2) := by decide +kernel
theorem dX11_four_80 : decode cX11_four 80 = .ok (.invokevirtual 283, 3) := by decide +kernel
theorem dX11_four_83 : decode cX11_four 83 = .ok (.iload_n 3, 1) := by decide +kernel
theorem dX11_four_84 : decode cX11_four 84 = .ok (.if_icmp .lt 7, 3) := by decide +kernel
theorem dX11_four_87 : decode cX11_four 87 = .ok (.iconst 1, 1) := by decide +kernel
theorem dX11_four_88 : decode cX11_four 88 = .ok (.goto 4, 3) := by decide +kernel
theorem dX11_four_91 : decode cX11_four 91 = .ok (.iconst 0, 1) := by decide +kernel
theorem dX11_four_92 : decode cX11_four 92 = .ok (.istore 6, 2) := by decide +kernel
theorem dX11_four_94 : decode cX11_four 94 = .ok (.iload 6, 2) := by decide +kernel
theorem dX11_four_96 : decode cX11_four 96 = .ok (.ifCond .eq 26, 3) := by decide +kernel
theorem dX11_four_99 : decode cX11_four 99 = .ok (.iload 4, 2) := by decide +kernel
theorem dX11_four_101 : decode cX11_four 101 = .ok (.iconst (-1), 1) := by decide +kernel
theorem dX11_four_102 : decode cX11_four 102 = .ok (.if_icmp .eq 16, 3) := by decide +kernel
theorem dX11_four_105 : decode cX11_four 105 = .ok (.iload 5, 2) := by decide +kernel
theorem dX11_four_107 : decode cX11_four 107 = .ok (.invokestatic 243, 3) := by decide +kernel
theorem dX11_four_110 : decode cX11_four 110 = .ok (.iload 4, 2) := by decide +kernel
theorem dX11_four_112 : decode cX11_four 112 = .ok (.invokestatic 243, 3) := by decide +kernel
theorem dX11_four_115 : decode cX11_four 115 = .ok (.if_icmp .ge 7, 3) := by decide +kernel
theorem dX11_four_118 : decode cX11_four 118 = .ok (.iload 5, 2) := by decide +kernel
theorem dX11_four_120 : decode cX11_four 120 = .ok (.istore 4, 2) := by decide +kernel
theorem dX11_four_122 : decode cX11_four 122 = .ok (.iinc 5 1, 3) := by decide +kernel
theorem dX11_four_125 : decode cX11_four 125 = .ok (.goto (-63), 3) := by decide +kernel
theorem dX11_four_128 : decode cX11_four 128 = .ok (.iload 4, 2) := by decide +kernel
theorem dX11_four_130 : decode cX11_four 130 = .ok (.ireturn, 1) := by decide +kernel
theorem mokX11_four : MOK yX11_four cX11_four 7 (some .int) 2 := ⟨w4_36, w1_1, ⟨by decide, by decide⟩, by decide +kernel, by decide⟩
abbrev miX11_four : MI := (yX11_four.cls, cX11_four, 7, 6, false)
noncomputable def LX11_four_1 : Sm Int32 := dLoop (fun f => (sI (sI (sI (sI (sI (sR fr0 0 (gR f 0)) 1 (gI f 1)) 2 (gI f 2)) 3 (gI f 3)) 4 (gI f 4)) 5 (gI f 5))) (dCI r_le (vI 5) (dCallV 5 DX5_allCarriers (aR aN 0 (dGR 11 2 (vR 0))))) (dSeq (dSetI 6 (dB (dCI r_ge (dCallV 5 DX5_strongTogether (aI (aR aN 0 (dGR 11 2 (vR 0))) 1 (vI 5))) (vI 3)))) (dIf (dAnd (dCZ q_ne (vI 6)) (dOr (dCI r_eq (vI 4) (cI (-1))) (dCI r_lt (dCall DJ6_bitCount_0f7a4 (aI aN 0 (vI 5))) (dCall DJ6_bitCount_0f7a4 (aI aN 0 (vI 4)))))) (dSetI 4 (vI 5)) dSkip)) (dInc 5 1)
theorem sLX11_four_1 {ΓL : Gm} {PB PK : List Nat} : SS (cvoI, .ireturn) miX11_four ΓL PB PK [(0, 2), (1, 0), (2, 0), (3, 0), (4, 0), (5, 0)] [(0, 2), (1, 0), (2, 0), (3, 0), (4, 0), (5, 0)] 62 [128] LX11_four_1 := t_loop (pT := 74) (pF := 128) (pu := 122) (PB' := []) (PK' := []) (XB := [122]) (XU := [125]) (fun _ _ => rfl) rfl (c_le_F (pF := 128) (s_iload dX11_four_62 rfl) (s_of_xI (x_callV (ts := [(0, 2)]) ck5 rfl kX5_allCarriers mokX5_allCarriers w4_26 w4_27 rfl rfl rfl rfl (a_R (ts := []) 0 a_nil (s_getR ck11 2 (by decide) rfl (s_aload_n dX11_four_64 rfl rfl) dX11_four_65 w2_198) rfl) dX11_four_68 w4_37)) dX11_four_71 rfl) (t_sq (p1 := 94) (Γ' := [(0, 2), (1, 0), (2, 0), (3, 0), (4, 0), (5, 0), (6, 0)]) (t_istore (s_B (pT := 87) (pF := 91) (pe := 92) (c_ge_F (pF := 91) (s_of_xI (x_callV (ts := [(0, 2), (1, 0)]) ck5 rfl kX5_strongTogether mokX5_strongTogether w4_30 w4_31 rfl rfl rfl rfl (a_I (ts := [(0, 2)]) 1 (a_R (ts := []) 0 a_nil (s_getR ck11 2 (by decide) rfl (s_aload_n dX11_four_74 rfl rfl) dX11_four_75 w2_198) rfl) (s_iload dX11_four_78 rfl) rfl) dX11_four_80 w4_29)) (s_iload_n dX11_four_83 rfl rfl) dX11_four_84 rfl) dX11_four_87 dX11_four_88 rfl dX11_four_91 rfl) dX11_four_92 rfl rfl) (t_if (pT := 118) (pF := 122) (X := [122]) (XA := [122]) (XB := [122]) (c_and (p1 := 99) (pT := 118) (pF := 122) (c_ne_ZF (pF := 122) (s_iload dX11_four_94 rfl) dX11_four_96 rfl) (c_or (p1 := 105) (pT := 118) (pF := 122) (c_eq_J (pT := 118) (s_iload dX11_four_99 rfl) (s_iconst dX11_four_101 rfl) dX11_four_102 rfl) (c_lt_F (pF := 122) (s_of_xI (x_call (ts := [(0, 0)]) kJ6_bitCount_0f7a4 mokJ6_bitCount_0f7a4 w3_208 rfl rfl rfl (a_I (ts := []) 0 a_nil (s_iload dX11_four_105 rfl) rfl) dX11_four_107 w4_38)) (s_of_xI (x_call (ts := [(0, 0)]) kJ6_bitCount_0f7a4 mokJ6_bitCount_0f7a4 w3_208 rfl rfl rfl (a_I (ts := []) 0 a_nil (s_iload dX11_four_110 rfl) rfl) dX11_four_112 w4_38)) dX11_four_115 rfl))) (t_istore (s_iload dX11_four_118 rfl) dX11_four_120 rfl rfl) (t_skip (ld_in rfl) rfl) (lda_cons (ld_in rfl) lda_nil) (lda_cons (ld_in rfl) lda_nil))) (t_iinc dX11_four_122 rfl rfl rfl rfl) (lda_cons (ld_in rfl) lda_nil) lda_nil (lda_cons (ld_goto (y := 62) dX11_four_125 rfl (ld_in rfl)) lda_nil) (ld_in rfl) lda_nil
noncomputable def BX11_four : Sm Int32 := (dSeq (dIf (dOr (dNot (dCZ q_ne (dCallV 5 DX5_isSlate (aI (aR aN 0 (dGR 11 2 (vR 0))) 1 (vI 1))))) (dNot (dCZ q_ne (dCallV 5 DX5_isHouse (aI (aR aN 0 (dGR 11 2 (vR 0))) 1 (vI 2)))))) (dRet (cI (-2))) dSkip) (dSeq (dDo (dCallV 0 DX0_findNeeds (aI (aR (aR aN 0 (dGR 11 9 (vR 0))) 1 (dGR 11 2 (vR 0))) 2 (vI 1)))) (dSeq (dSetI 3 (dCall DX11_cell (aI (aR aN 0 (dGR 0 2 (dGR 11 9 (vR 0)))) 1 (vI 2)))) (dSeq (dSetI 4 (cI (-1))) (dSeq (dIf (dCI r_eq (vI 3) (cI (-1))) (dRet (cI (-1))) dSkip) (dSeq (dSeq (dSetI 5 (cI 1)) LX11_four_1) (dRet (vI 4))))))))
theorem sBX11_four : SS (cvoI, .ireturn) miX11_four [] [] [] [(0, 2), (1, 0), (2, 0)] [(0, 2), (1, 0), (2, 0)] 0 [] BX11_four := (t_sq (p1 := 25) (Γ' := [(0, 2), (1, 0), (2, 0)]) (t_if (pT := 22) (pF := 25) (X := [25]) (XA := []) (XB := [25]) (c_or (p1 := 11) (pT := 22) (pF := 25) (c_not (pT := 22) (pF := 11) (c_ne_ZF (pF := 22) (s_of_xI (x_callV (ts := [(0, 2), (1, 0)]) ck5 rfl kX5_isSlate mokX5_isSlate w3_136 w3_137 rfl rfl rfl rfl (a_I (ts := [(0, 2)]) 1 (a_R (ts := []) 0 a_nil (s_getR ck11 2 (by decide) rfl (s_aload_n dX11_four_0 rfl rfl) dX11_four_1 w2_198) rfl) (s_iload_n dX11_four_4 rfl rfl) rfl) dX11_four_5 w3_135)) dX11_four_8 rfl)) (c_not (pT := 22) (pF := 25) (c_ne_ZJ (pT := 25) (s_of_xI (x_callV (ts := [(0, 2), (1, 0)]) ck5 rfl kX5_isHouse mokX5_isHouse w3_8 w3_9 rfl rfl rfl rfl (a_I (ts := [(0, 2)]) 1 (a_R (ts := []) 0 a_nil (s_getR ck11 2 (by decide) rfl (s_aload_n dX11_four_11 rfl rfl) dX11_four_12 w2_198) rfl) (s_iload_n dX11_four_15 rfl rfl) rfl) dX11_four_16 w3_155)) dX11_four_19 rfl))) (t_ret (cv := cvI) (fun _ _ => rfl) (s_bipush dX11_four_22 rfl) dX11_four_24) (t_skip (ld_in rfl) rfl) lda_nil (lda_cons (ld_in rfl) lda_nil)) (t_sq (p1 := 37) (Γ' := [(0, 2), (1, 0), (2, 0)]) (t_do (x_callV (ts := [(0, 2), (1, 2), (2, 0)]) ck0 rfl kX0_findNeeds mokX0_findNeeds w4_6 w4_7 rfl rfl rfl rfl (a_I (ts := [(0, 2), (1, 2)]) 2 (a_R (ts := [(0, 2)]) 1 (a_R (ts := []) 0 a_nil (s_getR ck11 9 (by decide) rfl (s_aload_n dX11_four_25 rfl rfl) dX11_four_26 w2_205) rfl) (s_getR ck11 2 (by decide) rfl (s_aload_n dX11_four_29 rfl rfl) dX11_four_30 w2_198) rfl) (s_iload_n dX11_four_33 rfl rfl) rfl) dX11_four_34 w4_5) rfl) (t_sq (p1 := 49) (Γ' := [(0, 2), (1, 0), (2, 0), (3, 0)]) (t_istore_n (s_of_xI (x_call (ts := [(0, 2), (1, 0)]) kX11_cell mokX11_cell w3_26 rfl rfl rfl (a_I (ts := [(0, 2)]) 1 (a_R (ts := []) 0 a_nil (s_getR ck0 2 (by decide) rfl (s_getR ck11 9 (by decide) rfl (s_aload_n dX11_four_37 rfl rfl) dX11_four_38 w2_205) dX11_four_41 w2_114) rfl) (s_iload_n dX11_four_44 rfl rfl) rfl) dX11_four_45 w3_194)) dX11_four_48 rfl rfl rfl) (t_sq (p1 := 52) (Γ' := [(0, 2), (1, 0), (2, 0), (3, 0), (4, 0)]) (t_istore (s_iconst dX11_four_49 rfl) dX11_four_50 rfl rfl) (t_sq (p1 := 59) (Γ' := [(0, 2), (1, 0), (2, 0), (3, 0), (4, 0)]) (t_if (pT := 57) (pF := 59) (X := [59]) (XA := []) (XB := [59]) (c_eq_F (pF := 59) (s_iload_n dX11_four_52 rfl rfl) (s_iconst dX11_four_53 rfl) dX11_four_54 rfl) (t_ret (cv := cvI) (fun _ _ => rfl) (s_iconst dX11_four_57 rfl) dX11_four_58) (t_skip (ld_in rfl) rfl) lda_nil (lda_cons (ld_in rfl) lda_nil)) (t_sq (p1 := 128) (Γ' := [(0, 2), (1, 0), (2, 0), (3, 0), (4, 0)]) (t_sq (p1 := 62) (Γ' := [(0, 2), (1, 0), (2, 0), (3, 0), (4, 0), (5, 0)]) (t_istore (s_iconst dX11_four_59 rfl) dX11_four_60 rfl rfl) (tn_to (Γ' := [(0, 2), (1, 0), (2, 0), (3, 0), (4, 0), (5, 0)]) (XA := [128]) sLX11_four_1 (lda_cons (ld_in rfl) lda_nil) rfl)) (t_ret (cv := cvI) (fun _ _ => rfl) (s_iload dX11_four_128 rfl) dX11_four_130)))))))
noncomputable def DX11_four : Fr → St → Option (Int32 × St) := M1 (fun f => (sI (sI (sR fr0 0 (gR f 0)) 1 (gI f 1)) 2 (gI f 2))) BX11_four
theorem kX11_four : SND yX11_four cX11_four 7 (some .int) 6 [(0, 2), (1, 0), (2, 0)] cvoI DX11_four := snd_I (nw := 3) (by decide) rfl rfl (fun _ _ => rfl) sBX11_four
theorem dX11_hearersBy_0 : decode cX11_hearersBy 0 = .ok (.aload_n 0, 1) := by decide +kernel
theorem dX11_hearersBy_1 : decode cX11_hearersBy 1 = .ok (.getfield 51, 3) := by decide +kernel
theorem dX11_hearersBy_4 : decode cX11_hearersBy 4 = .ok (.getfield 332, 3) := by decide +kernel
theorem dX11_hearersBy_7 : decode cX11_hearersBy 7 = .ok (.aload_n 0, 1) := by decide +kernel
theorem dX11_hearersBy_8 : decode cX11_hearersBy 8 = .ok (.getfield 26, 3) := by decide +kernel
theorem dX11_hearersBy_11 : decode cX11_hearersBy 11 = .ok (.invokevirtual 336, 3) := by decide +kernel
theorem dX11_hearersBy_14 : decode cX11_hearersBy 14 = .ok (.aload_n 0, 1) := by decide +kernel
theorem dX11_hearersBy_15 : decode cX11_hearersBy 15 = .ok (.getfield 51, 3) := by decide +kernel
theorem dX11_hearersBy_18 : decode cX11_hearersBy 18 = .ok (.getfield 332, 3) := by decide +kernel
theorem dX11_hearersBy_21 : decode cX11_hearersBy 21 = .ok (.iload_n 2, 1) := by decide +kernel
theorem dX11_hearersBy_22 : decode cX11_hearersBy 22 = .ok (.putfield 341, 3) := by decide +kernel
theorem dX11_hearersBy_25 : decode cX11_hearersBy 25 = .ok (.aload_n 0, 1) := by decide +kernel
theorem dX11_hearersBy_26 : decode cX11_hearersBy 26 = .ok (.getfield 51, 3) := by decide +kernel
theorem dX11_hearersBy_29 : decode cX11_hearersBy 29 = .ok (.aload_n 0, 1) := by decide +kernel
theorem dX11_hearersBy_30 : decode cX11_hearersBy 30 = .ok (.getfield 26, 3) := by decide +kernel
theorem dX11_hearersBy_33 : decode cX11_hearersBy 33 = .ok (.invokevirtual 344, 3) := by decide +kernel
theorem dX11_hearersBy_36 : decode cX11_hearersBy 36 = .ok (.aload_n 0, 1) := by decide +kernel
theorem dX11_hearersBy_37 : decode cX11_hearersBy 37 = .ok (.getfield 51, 3) := by decide +kernel
theorem dX11_hearersBy_40 : decode cX11_hearersBy 40 = .ok (.aload_n 0, 1) := by decide +kernel
theorem dX11_hearersBy_41 : decode cX11_hearersBy 41 = .ok (.getfield 26, 3) := by decide +kernel
theorem dX11_hearersBy_44 : decode cX11_hearersBy 44 = .ok (.iload_n 1, 1) := by decide +kernel
theorem dX11_hearersBy_45 : decode cX11_hearersBy 45 = .ok (.aload_n 0, 1) := by decide +kernel
theorem dX11_hearersBy_46 : decode cX11_hearersBy 46 = .ok (.getfield 26, 3) := by decide +kernel
theorem dX11_hearersBy_49 : decode cX11_hearersBy 49 = .ok (.getfield 200, 3) := by decide +kernel
theorem dX11_hearersBy_52 : decode cX11_hearersBy 52 = .ok (.invokevirtual 190, 3) := by decide +kernel
theorem dX11_hearersBy_55 : decode cX11_hearersBy 55 = .ok (.ireturn, 1) := by decide +kernel
theorem mokX11_hearersBy : MOK yX11_hearersBy cX11_hearersBy 3 (some .int) 2 := ⟨w4_49, w1_1, ⟨by decide, by decide⟩, by decide +kernel, by decide⟩
abbrev miX11_hearersBy : MI := (yX11_hearersBy.cls, cX11_hearersBy, 3, 7, false)
noncomputable def BX11_hearersBy : Sm Int32 := (dSeq (dDo (dCallV 2 DX2_setAsTold (aR (aR aN 0 (dGR 3 1 (dGR 11 7 (vR 0)))) 1 (dGR 11 2 (vR 0))))) (dSeq (dP (fI 2 0) (dGR 3 1 (dGR 11 7 (vR 0))) (vI 2)) (dSeq (dDo (dCallV 3 DX3_fill (aR (aR aN 0 (dGR 11 7 (vR 0))) 1 (dGR 11 2 (vR 0))))) (dRet (dCallV 3 DX3_hearersOn (aI (aI (aR (aR aN 0 (dGR 11 7 (vR 0))) 1 (dGR 11 2 (vR 0))) 2 (vI 1)) 3 (dGI 5 1 (dGR 11 2 (vR 0)))))))))
theorem sBX11_hearersBy : SS (cvoI, .ireturn) miX11_hearersBy [] [] [] [(0, 2), (1, 0), (2, 0)] [(0, 2), (1, 0), (2, 0)] 0 [] BX11_hearersBy := (t_sq (p1 := 14) (Γ' := [(0, 2), (1, 0), (2, 0)]) (t_do (x_callV (ts := [(0, 2), (1, 2)]) ck2 rfl kX2_setAsTold mokX2_setAsTold w3_49 w3_50 rfl rfl rfl rfl (a_R (ts := [(0, 2)]) 1 (a_R (ts := []) 0 a_nil (s_getR ck3 1 (by decide) rfl (s_getR ck11 7 (by decide) rfl (s_aload_n dX11_hearersBy_0 rfl rfl) dX11_hearersBy_1 w2_203) dX11_hearersBy_4 w2_72) rfl) (s_getR ck11 2 (by decide) rfl (s_aload_n dX11_hearersBy_7 rfl rfl) dX11_hearersBy_8 w2_198) rfl) dX11_hearersBy_11 w3_48) rfl) (t_sq (p1 := 25) (Γ' := [(0, 2), (1, 0), (2, 0)]) (t_pI ck2 0 (by decide) rfl (Or.inl rfl) (s_getR ck3 1 (by decide) rfl (s_getR ck11 7 (by decide) rfl (s_aload_n dX11_hearersBy_14 rfl rfl) dX11_hearersBy_15 w2_203) dX11_hearersBy_18 w2_72) (s_iload_n dX11_hearersBy_21 rfl rfl) dX11_hearersBy_22 w2_12 rfl) (t_sq (p1 := 36) (Γ' := [(0, 2), (1, 0), (2, 0)]) (t_do (x_callV (ts := [(0, 2), (1, 2)]) ck3 rfl kX3_fill mokX3_fill w3_53 w3_54 rfl rfl rfl rfl (a_R (ts := [(0, 2)]) 1 (a_R (ts := []) 0 a_nil (s_getR ck11 7 (by decide) rfl (s_aload_n dX11_hearersBy_25 rfl rfl) dX11_hearersBy_26 w2_203) rfl) (s_getR ck11 2 (by decide) rfl (s_aload_n dX11_hearersBy_29 rfl rfl) dX11_hearersBy_30 w2_198) rfl) dX11_hearersBy_33 w3_52) rfl) (t_ret (cv := cvI) (fun _ _ => rfl) (s_of_xI (x_callV (ts := [(0, 2), (1, 2), (2, 0), (3, 0)]) ck3 rfl kX3_hearersOn mokX3_hearersOn w3_165 w3_166 rfl rfl rfl rfl (a_I (ts := [(0, 2), (1, 2), (2, 0)]) 3 (a_I (ts := [(0, 2), (1, 2)]) 2 (a_R (ts := [(0, 2)]) 1 (a_R (ts := []) 0 a_nil (s_getR ck11 7 (by decide) rfl (s_aload_n dX11_hearersBy_36 rfl rfl) dX11_hearersBy_37 w2_203) rfl) (s_getR ck11 2 (by decide) rfl (s_aload_n dX11_hearersBy_40 rfl rfl) dX11_hearersBy_41 w2_198) rfl) (s_iload_n dX11_hearersBy_44 rfl rfl) rfl) (s_getI ck5 1 (by decide) rfl (s_getR ck11 2 (by decide) rfl (s_aload_n dX11_hearersBy_45 rfl rfl) dX11_hearersBy_46 w2_198) dX11_hearersBy_49 w1_133) rfl) dX11_hearersBy_52 w3_164)) dX11_hearersBy_55))))
noncomputable def DX11_hearersBy : Fr → St → Option (Int32 × St) := M1 (fun f => (sI (sI (sR fr0 0 (gR f 0)) 1 (gI f 1)) 2 (gI f 2))) BX11_hearersBy
theorem kX11_hearersBy : SND yX11_hearersBy cX11_hearersBy 3 (some .int) 7 [(0, 2), (1, 0), (2, 0)] cvoI DX11_hearersBy := snd_I (nw := 3) (by decide) rfl rfl (fun _ _ => rfl) sBX11_hearersBy
theorem dX11_isLaw_0 : decode cX11_isLaw 0 = .ok (.iload_n 0, 1) := by decide +kernel
theorem dX11_isLaw_1 : decode cX11_isLaw 1 = .ok (.ifCond .lt 12, 3) := by decide +kernel
theorem dX11_isLaw_4 : decode cX11_isLaw 4 = .ok (.iload_n 0, 1) := by decide +kernel
theorem dX11_isLaw_5 : decode cX11_isLaw 5 = .ok (.iconst 4, 1) := by decide +kernel
theorem dX11_isLaw_6 : decode cX11_isLaw 6 = .ok (.if_icmp .ge 7, 3) := by decide +kernel
theorem dX11_isLaw_9 : decode cX11_isLaw 9 = .ok (.iconst 1, 1) := by decide +kernel
theorem dX11_isLaw_10 : decode cX11_isLaw 10 = .ok (.goto 4, 3) := by decide +kernel
theorem dX11_isLaw_13 : decode cX11_isLaw 13 = .ok (.iconst 0, 1) := by decide +kernel
theorem dX11_isLaw_14 : decode cX11_isLaw 14 = .ok (.ireturn, 1) := by decide +kernel
theorem mokX11_isLaw : MOK yX11_isLaw cX11_isLaw 1 (some .boolean) 1 := ⟨w4_45, w1_1, ⟨by decide, by decide⟩, by decide +kernel, by decide⟩
abbrev miX11_isLaw : MI := (yX11_isLaw.cls, cX11_isLaw, 1, 1, false)
noncomputable def BX11_isLaw : Sm Int32 := (dRet (dB (dAnd (dCZ q_ge (vI 0)) (dCI r_lt (vI 0) (cI 4)))))
theorem sBX11_isLaw : SS (cvoI, .ireturn) miX11_isLaw [] [] [] [(0, 0)] [(0, 0)] 0 [] BX11_isLaw := (t_ret (cv := cvI) (fun _ _ => rfl) (s_B (pT := 9) (pF := 13) (pe := 14) (c_and (p1 := 4) (pT := 9) (pF := 13) (c_ge_ZF (pF := 13) (s_iload_n dX11_isLaw_0 rfl rfl) dX11_isLaw_1 rfl) (c_lt_F (pF := 13) (s_iload_n dX11_isLaw_4 rfl rfl) (s_iconst dX11_isLaw_5 rfl) dX11_isLaw_6 rfl)) dX11_isLaw_9 dX11_isLaw_10 rfl dX11_isLaw_13 rfl) dX11_isLaw_14)
noncomputable def DX11_isLaw : Fr → St → Option (Int32 × St) := MZ (fun f => (sI fr0 0 (gI f 0))) BX11_isLaw
theorem kX11_isLaw : SND yX11_isLaw cX11_isLaw 1 (some .boolean) 1 [(0, 0)] cvoI DX11_isLaw := snd_Z (nw := 1) (by decide) rfl rfl (fun _ _ => rfl) sBX11_isLaw
theorem dX11_by_0 : decode cX11_by 0 = .ok (.aload_n 0, 1) := by decide +kernel
theorem dX11_by_1 : decode cX11_by 1 = .ok (.getfield 26, 3) := by decide +kernel
theorem dX11_by_4 : decode cX11_by 4 = .ok (.iload_n 1, 1) := by decide +kernel
theorem dX11_by_5 : decode cX11_by 5 = .ok (.invokevirtual 140, 3) := by decide +kernel
theorem dX11_by_8 : decode cX11_by 8 = .ok (.ifCond .eq 19, 3) := by decide +kernel
theorem dX11_by_11 : decode cX11_by 11 = .ok (.iload_n 2, 1) := by decide +kernel
theorem dX11_by_12 : decode cX11_by 12 = .ok (.invokestatic 308, 3) := by decide +kernel
theorem dX11_by_15 : decode cX11_by 15 = .ok (.ifCond .eq 12, 3) := by decide +kernel
theorem dX11_by_18 : decode cX11_by 18 = .ok (.aload_n 0, 1) := by decide +kernel
theorem dX11_by_19 : decode cX11_by 19 = .ok (.iload_n 1, 1) := by decide +kernel
theorem dX11_by_20 : decode cX11_by 20 = .ok (.iload_n 2, 1) := by decide +kernel
theorem dX11_by_21 : decode cX11_by 21 = .ok (.invokevirtual 311, 3) := by decide +kernel
theorem dX11_by_24 : decode cX11_by 24 = .ok (.goto 5, 3) := by decide +kernel
theorem dX11_by_27 : decode cX11_by 27 = .ok (.bipush (-2), 2) := by decide +kernel
theorem dX11_by_29 : decode cX11_by 29 = .ok (.ireturn, 1) := by decide +kernel
theorem mokX11_by : MOK yX11_by cX11_by 3 (some .int) 2 := ⟨w4_42, w1_1, ⟨by decide, by decide⟩, by decide +kernel, by decide⟩
abbrev miX11_by : MI := (yX11_by.cls, cX11_by, 3, 8, false)
noncomputable def BX11_by : Sm Int32 := (dRet (dT (dAnd (dCZ q_ne (dCallV 5 DX5_isSlate (aI (aR aN 0 (dGR 11 2 (vR 0))) 1 (vI 1)))) (dCZ q_ne (dCall DX11_isLaw (aI aN 0 (vI 2))))) (dCallV 11 DX11_hearersBy (aI (aI (aR aN 0 (vR 0)) 1 (vI 1)) 2 (vI 2))) (cI (-2))))
theorem sBX11_by : SS (cvoI, .ireturn) miX11_by [] [] [] [(0, 2), (1, 0), (2, 0)] [(0, 2), (1, 0), (2, 0)] 0 [] BX11_by := (t_ret (cv := cvI) (fun _ _ => rfl) (s_T (pT := 18) (pF := 27) (p1 := 24) (pe := 29) (c_and (p1 := 11) (pT := 18) (pF := 27) (c_ne_ZF (pF := 27) (s_of_xI (x_callV (ts := [(0, 2), (1, 0)]) ck5 rfl kX5_isSlate mokX5_isSlate w3_136 w3_137 rfl rfl rfl rfl (a_I (ts := [(0, 2)]) 1 (a_R (ts := []) 0 a_nil (s_getR ck11 2 (by decide) rfl (s_aload_n dX11_by_0 rfl rfl) dX11_by_1 w2_198) rfl) (s_iload_n dX11_by_4 rfl rfl) rfl) dX11_by_5 w3_135)) dX11_by_8 rfl) (c_ne_ZF (pF := 27) (s_of_xI (x_call (ts := [(0, 0)]) kX11_isLaw mokX11_isLaw w4_44 rfl rfl rfl (a_I (ts := []) 0 a_nil (s_iload_n dX11_by_11 rfl rfl) rfl) dX11_by_12 w4_43)) dX11_by_15 rfl)) (s_of_xI (x_callV (ts := [(0, 2), (1, 0), (2, 0)]) ck11 rfl kX11_hearersBy mokX11_hearersBy w4_48 ps1_13 rfl rfl rfl rfl (a_I (ts := [(0, 2), (1, 0)]) 2 (a_I (ts := [(0, 2)]) 1 (a_R (ts := []) 0 a_nil (s_aload_n dX11_by_18 rfl rfl) rfl) (s_iload_n dX11_by_19 rfl rfl) rfl) (s_iload_n dX11_by_20 rfl rfl) rfl) dX11_by_21 w4_46)) (s_bipush dX11_by_27 rfl) (ld_goto (y := 29) dX11_by_24 rfl (ld_in rfl))) dX11_by_29)
noncomputable def DX11_by : Fr → St → Option (Int32 × St) := M1 (fun f => (sI (sI (sR fr0 0 (gR f 0)) 1 (gI f 1)) 2 (gI f 2))) BX11_by
theorem kX11_by : SND yX11_by cX11_by 3 (some .int) 8 [(0, 2), (1, 0), (2, 0)] cvoI DX11_by := snd_I (nw := 3) (by decide) rfl rfl (fun _ _ => rfl) sBX11_by
theorem dX8_numberAt_0 : decode cX8_numberAt 0 = .ok (.iload_n 1, 1) := by decide +kernel
theorem dX8_numberAt_1 : decode cX8_numberAt 1 = .ok (.bipush 60, 2) := by decide +kernel
theorem dX8_numberAt_3 : decode cX8_numberAt 3 = .ok (.imul, 1) := by decide +kernel
theorem dX8_numberAt_4 : decode cX8_numberAt 4 = .ok (.iload_n 2, 1) := by decide +kernel
theorem dX8_numberAt_5 : decode cX8_numberAt 5 = .ok (.iadd, 1) := by decide +kernel
theorem dX8_numberAt_6 : decode cX8_numberAt 6 = .ok (.istore_n 3, 1) := by decide +kernel
theorem dX8_numberAt_7 : decode cX8_numberAt 7 = .ok (.iload_n 3, 1) := by decide +kernel
theorem dX8_numberAt_8 : decode cX8_numberAt 8 = .ok (.ifCond .lt 21, 3) := by decide +kernel
theorem dX8_numberAt_11 : decode cX8_numberAt 11 = .ok (.iload_n 3, 1) := by decide +kernel
theorem dX8_numberAt_12 : decode cX8_numberAt 12 = .ok (.aload_n 0, 1) := by decide +kernel
theorem dX8_numberAt_13 : decode cX8_numberAt 13 = .ok (.getfield 18, 3) := by decide +kernel
theorem dX8_numberAt_16 : decode cX8_numberAt 16 = .ok (.arraylength, 1) := by decide +kernel
theorem dX8_numberAt_17 : decode cX8_numberAt 17 = .ok (.if_icmp .ge 12, 3) := by decide +kernel
theorem dX8_numberAt_20 : decode cX8_numberAt 20 = .ok (.aload_n 0, 1) := by decide +kernel
theorem dX8_numberAt_21 : decode cX8_numberAt 21 = .ok (.getfield 18, 3) := by decide +kernel
theorem dX8_numberAt_24 : decode cX8_numberAt 24 = .ok (.iload_n 3, 1) := by decide +kernel
theorem dX8_numberAt_25 : decode cX8_numberAt 25 = .ok (.laload, 1) := by decide +kernel
theorem dX8_numberAt_26 : decode cX8_numberAt 26 = .ok (.goto 4, 3) := by decide +kernel
theorem dX8_numberAt_29 : decode cX8_numberAt 29 = .ok (.lconst 0, 1) := by decide +kernel
theorem dX8_numberAt_30 : decode cX8_numberAt 30 = .ok (.lreturn, 1) := by decide +kernel
theorem mokX8_numberAt : MOK yX8_numberAt cX8_numberAt 4 (some .long) 2 := ⟨w4_75, w1_6, ⟨by decide, by decide⟩, by decide +kernel, by decide⟩
abbrev miX8_numberAt : MI := (yX8_numberAt.cls, cX8_numberAt, 4, 1, false)
noncomputable def BX8_numberAt : Sm Int64 := (dSeq (dSetI 3 (d2 o_iadd (d2 o_imul (vI 1) (cI 60)) (vI 2))) (dRet (dT (dAnd (dCZ q_ge (vI 3)) (dCI r_lt (vI 3) (dLen (dGR 8 2 (vR 0))))) (dAL (dGR 8 2 (vR 0)) (vI 3)) (cL 0))))
theorem sBX8_numberAt : SS (cvoL, .lreturn) miX8_numberAt [] [] [] [(0, 2), (1, 0), (2, 0)] [(0, 2), (1, 0), (2, 0)] 0 [] BX8_numberAt := (t_sq (p1 := 7) (Γ' := [(0, 2), (1, 0), (2, 0), (3, 0)]) (t_istore_n (s_iadd (s_imul (s_iload_n dX8_numberAt_0 rfl rfl) (s_bipush dX8_numberAt_1 rfl) dX8_numberAt_3) (s_iload_n dX8_numberAt_4 rfl rfl) dX8_numberAt_5) dX8_numberAt_6 rfl rfl rfl) (t_ret (cv := cvL) (fun _ _ => rfl) (s_T (pT := 20) (pF := 29) (p1 := 26) (pe := 30) (c_and (p1 := 11) (pT := 20) (pF := 29) (c_ge_ZF (pF := 29) (s_iload_n dX8_numberAt_7 rfl rfl) dX8_numberAt_8 rfl) (c_lt_F (pF := 29) (s_iload_n dX8_numberAt_11 rfl rfl) (s_len (s_getR ck8 2 (by decide) rfl (s_aload_n dX8_numberAt_12 rfl rfl) dX8_numberAt_13 w1_230) dX8_numberAt_16) dX8_numberAt_17 rfl)) (s_dAL (s_getR ck8 2 (by decide) rfl (s_aload_n dX8_numberAt_20 rfl rfl) dX8_numberAt_21 w1_230) (s_iload_n dX8_numberAt_24 rfl rfl) dX8_numberAt_25) (s_lconst dX8_numberAt_29 rfl) (ld_goto (y := 30) dX8_numberAt_26 rfl (ld_in rfl))) dX8_numberAt_30))
noncomputable def DX8_numberAt : Fr → St → Option (Int64 × St) := M1 (fun f => (sI (sI (sR fr0 0 (gR f 0)) 1 (gI f 1)) 2 (gI f 2))) BX8_numberAt
theorem kX8_numberAt : SND yX8_numberAt cX8_numberAt 4 (some .long) 1 [(0, 2), (1, 0), (2, 0)] cvoL DX8_numberAt := snd_L (nw := 3) (by decide) rfl rfl (fun _ _ => rfl) sBX8_numberAt
theorem dX8_sizeOf_0 : decode cX8_sizeOf 0 = .ok (.aload_n 0, 1) := by decide +kernel
theorem dX8_sizeOf_1 : decode cX8_sizeOf 1 = .ok (.getfield 15, 3) := by decide +kernel
theorem dX8_sizeOf_4 : decode cX8_sizeOf 4 = .ok (.iload_n 1, 1) := by decide +kernel
theorem dX8_sizeOf_5 : decode cX8_sizeOf 5 = .ok (.invokestatic 22, 3) := by decide +kernel
theorem dX8_sizeOf_8 : decode cX8_sizeOf 8 = .ok (.ireturn, 1) := by decide +kernel
theorem mokX8_sizeOf : MOK yX8_sizeOf cX8_sizeOf 2 (some .int) 1 := ⟨w4_71, w1_6, ⟨by decide, by decide⟩, by decide +kernel, by decide⟩
abbrev miX8_sizeOf : MI := (yX8_sizeOf.cls, cX8_sizeOf, 2, 2, false)
noncomputable def BX8_sizeOf : Sm Int32 := (dRet (dCall DX11_cell (aI (aR aN 0 (dGR 8 1 (vR 0))) 1 (vI 1))))
theorem sBX8_sizeOf : SS (cvoI, .ireturn) miX8_sizeOf [] [] [] [(0, 2), (1, 0)] [(0, 2), (1, 0)] 0 [] BX8_sizeOf := (t_ret (cv := cvI) (fun _ _ => rfl) (s_of_xI (x_callN (ts := [(0, 2), (1, 0)]) kX11_cell mokX11_cell w3_26 rfl rfl rfl (a_I (ts := [(0, 2)]) 1 (a_R (ts := []) 0 a_nil (s_getR ck8 1 (by decide) rfl (s_aload_n dX8_sizeOf_0 rfl rfl) dX8_sizeOf_1 w1_229) rfl) (s_iload_n dX8_sizeOf_4 rfl rfl) rfl) dX8_sizeOf_5 nb23)) dX8_sizeOf_8)
noncomputable def DX8_sizeOf : Fr → St → Option (Int32 × St) := M1 (fun f => (sI (sR fr0 0 (gR f 0)) 1 (gI f 1))) BX8_sizeOf
theorem kX8_sizeOf : SND yX8_sizeOf cX8_sizeOf 2 (some .int) 2 [(0, 2), (1, 0)] cvoI DX8_sizeOf := snd_I (nw := 2) (by decide) rfl rfl (fun _ _ => rfl) sBX8_sizeOf
theorem dX7_isAsSeen_0 : decode cX7_isAsSeen 0 = .ok (.iconst 0, 1) := by decide +kernel
theorem dX7_isAsSeen_1 : decode cX7_isAsSeen 1 = .ok (.istore 5, 2) := by decide +kernel
theorem dX7_isAsSeen_3 : decode cX7_isAsSeen 3 = .ok (.iload 5, 2) := by decide +kernel
theorem dX7_isAsSeen_5 : decode cX7_isAsSeen 5 = .ok (.aload_n 1, 1) := by decide +kernel
theorem dX7_isAsSeen_6 : decode cX7_isAsSeen 6 = .ok (.iload_n 2, 1) := by decide +kernel
theorem dX7_isAsSeen_7 : decode cX7_isAsSeen 7 = .ok (.invokevirtual 29, 3) := by decide +kernel
theorem dX7_isAsSeen_10 : decode cX7_isAsSeen 10 = .ok (.if_icmp .ge 43, 3) := by decide +kernel
theorem dX7_isAsSeen_13 : decode cX7_isAsSeen 13 = .ok (.aload_n 1, 1) := by decide +kernel
theorem dX7_isAsSeen_14 : decode cX7_isAsSeen 14 = .ok (.iload_n 2, 1) := by decide +kernel
theorem dX7_isAsSeen_15 : decode cX7_isAsSeen 15 = .ok (.iload 5, 2) := by decide +kernel
theorem dX7_isAsSeen_17 : decode cX7_isAsSeen 17 = .ok (.invokevirtual 33, 3) := by decide +kernel
theorem dX7_isAsSeen_20 : decode cX7_isAsSeen 20 = .ok (.l2i, 1) := by decide +kernel
theorem dX7_isAsSeen_21 : decode cX7_isAsSeen 21 = .ok (.istore 6, 2) := by decide +kernel
theorem dX7_isAsSeen_23 : decode cX7_isAsSeen 23 = .ok (.aload 4, 2) := by decide +kernel
theorem dX7_isAsSeen_25 : decode cX7_isAsSeen 25 = .ok (.iload_n 3, 1) := by decide +kernel
theorem dX7_isAsSeen_26 : decode cX7_isAsSeen 26 = .ok (.iload 6, 2) := by decide +kernel
theorem dX7_isAsSeen_28 : decode cX7_isAsSeen 28 = .ok (.invokevirtual 68, 3) := by decide +kernel
theorem dX7_isAsSeen_31 : decode cX7_isAsSeen 31 = .ok (.i2l, 1) := by decide +kernel
theorem dX7_isAsSeen_32 : decode cX7_isAsSeen 32 = .ok (.aload_n 1, 1) := by decide +kernel
theorem dX7_isAsSeen_33 : decode cX7_isAsSeen 33 = .ok (.iload_n 2, 1) := by decide +kernel
theorem dX7_isAsSeen_34 : decode cX7_isAsSeen 34 = .ok (.iload 5, 2) := by decide +kernel
theorem dX7_isAsSeen_36 : decode cX7_isAsSeen 36 = .ok (.iconst 1, 1) := by decide +kernel
theorem dX7_isAsSeen_37 : decode cX7_isAsSeen 37 = .ok (.iadd, 1) := by decide +kernel
theorem dX7_isAsSeen_38 : decode cX7_isAsSeen 38 = .ok (.invokevirtual 33, 3) := by decide +kernel
theorem dX7_isAsSeen_41 : decode cX7_isAsSeen 41 = .ok (.lcmp, 1) := by decide +kernel
theorem dX7_isAsSeen_42 : decode cX7_isAsSeen 42 = .ok (.ifCond .eq 5, 3) := by decide +kernel
theorem dX7_isAsSeen_45 : decode cX7_isAsSeen 45 = .ok (.iconst 0, 1) := by decide +kernel
theorem dX7_isAsSeen_46 : decode cX7_isAsSeen 46 = .ok (.ireturn, 1) := by decide +kernel
theorem dX7_isAsSeen_47 : decode cX7_isAsSeen 47 = .ok (.iinc 5 2, 3) := by decide +kernel
theorem dX7_isAsSeen_50 : decode cX7_isAsSeen 50 = .ok (.goto (-47), 3) := by decide +kernel
theorem dX7_isAsSeen_53 : decode cX7_isAsSeen 53 = .ok (.iconst 1, 1) := by decide +kernel
theorem dX7_isAsSeen_54 : decode cX7_isAsSeen 54 = .ok (.ireturn, 1) := by decide +kernel
theorem mokX7_isAsSeen : MOK yX7_isAsSeen cX7_isAsSeen 7 (some .boolean) 4 := ⟨w4_87, w1_12, ⟨by decide, by decide⟩, by decide +kernel, by decide⟩
abbrev miX7_isAsSeen : MI := (yX7_isAsSeen.cls, cX7_isAsSeen, 7, 3, false)
noncomputable def LX7_isAsSeen_1 : Sm Int32 := dLoop (fun f => (sI (sR (sI (sI (sR (sR fr0 0 (gR f 0)) 1 (gR f 1)) 2 (gI f 2)) 3 (gI f 3)) 4 (gR f 4)) 5 (gI f 5))) (dCI r_lt (vI 5) (dCallV 8 DX8_sizeOf (aI (aR aN 0 (vR 1)) 1 (vI 2)))) (dSeq (dSetI 6 (d1 o_l2i (dCallV 8 DX8_numberAt (aI (aI (aR aN 0 (vR 1)) 1 (vI 2)) 2 (vI 5))))) (dIf (dCZ q_ne (d2 o_lcmp (d1 o_i2l (dCallV 3 DX3_slateOn (aI (aI (aR aN 0 (vR 4)) 1 (vI 3)) 2 (vI 6)))) (dCallV 8 DX8_numberAt (aI (aI (aR aN 0 (vR 1)) 1 (vI 2)) 2 (d2 o_iadd (vI 5) (cI 1)))))) (dRet (cI 0)) dSkip)) (dInc 5 2)
theorem sLX7_isAsSeen_1 {ΓL : Gm} {PB PK : List Nat} : SS (cvoI, .ireturn) miX7_isAsSeen ΓL PB PK [(0, 2), (1, 2), (2, 0), (3, 0), (4, 2), (5, 0)] [(0, 2), (1, 2), (2, 0), (3, 0), (4, 2), (5, 0)] 3 [53] LX7_isAsSeen_1 := t_loop (pT := 13) (pF := 53) (pu := 47) (PB' := []) (PK' := []) (XB := [47]) (XU := [50]) (fun _ _ => rfl) rfl (c_lt_F (pF := 53) (s_iload dX7_isAsSeen_3 rfl) (s_of_xI (x_callV (ts := [(0, 2), (1, 0)]) ck8 rfl kX8_sizeOf mokX8_sizeOf w4_69 w4_70 rfl rfl rfl rfl (a_I (ts := [(0, 2)]) 1 (a_R (ts := []) 0 a_nil (s_aload_n dX7_isAsSeen_5 rfl rfl) rfl) (s_iload_n dX7_isAsSeen_6 rfl rfl) rfl) dX7_isAsSeen_7 w4_68)) dX7_isAsSeen_10 rfl) (t_sq (p1 := 23) (Γ' := [(0, 2), (1, 2), (2, 0), (3, 0), (4, 2), (5, 0), (6, 0)]) (t_istore (s_l2i (s_of_xL (x_callV (ts := [(0, 2), (1, 0), (2, 0)]) ck8 rfl kX8_numberAt mokX8_numberAt w4_73 w4_74 rfl rfl rfl rfl (a_I (ts := [(0, 2), (1, 0)]) 2 (a_I (ts := [(0, 2)]) 1 (a_R (ts := []) 0 a_nil (s_aload_n dX7_isAsSeen_13 rfl rfl) rfl) (s_iload_n dX7_isAsSeen_14 rfl rfl) rfl) (s_iload dX7_isAsSeen_15 rfl) rfl) dX7_isAsSeen_17 w4_72)) dX7_isAsSeen_20) dX7_isAsSeen_21 rfl rfl) (t_if (pT := 45) (pF := 47) (X := [47]) (XA := []) (XB := [47]) (c_ne_ZF (pF := 47) (s_lcmp (s_i2l (s_of_xI (x_callV (ts := [(0, 2), (1, 0), (2, 0)]) ck3 rfl kX3_slateOn mokX3_slateOn w3_140 w3_141 rfl rfl rfl rfl (a_I (ts := [(0, 2), (1, 0)]) 2 (a_I (ts := [(0, 2)]) 1 (a_R (ts := []) 0 a_nil (s_aload dX7_isAsSeen_23 rfl) rfl) (s_iload_n dX7_isAsSeen_25 rfl rfl) rfl) (s_iload dX7_isAsSeen_26 rfl) rfl) dX7_isAsSeen_28 w4_82)) dX7_isAsSeen_31) (s_of_xL (x_callV (ts := [(0, 2), (1, 0), (2, 0)]) ck8 rfl kX8_numberAt mokX8_numberAt w4_73 w4_74 rfl rfl rfl rfl (a_I (ts := [(0, 2), (1, 0)]) 2 (a_I (ts := [(0, 2)]) 1 (a_R (ts := []) 0 a_nil (s_aload_n dX7_isAsSeen_32 rfl rfl) rfl) (s_iload_n dX7_isAsSeen_33 rfl rfl) rfl) (s_iadd (s_iload dX7_isAsSeen_34 rfl) (s_iconst dX7_isAsSeen_36 rfl) dX7_isAsSeen_37) rfl) dX7_isAsSeen_38 w4_72)) dX7_isAsSeen_41) dX7_isAsSeen_42 rfl) (t_ret (cv := cvI) (fun _ _ => rfl) (s_iconst dX7_isAsSeen_45 rfl) dX7_isAsSeen_46) (t_skip (ld_in rfl) rfl) lda_nil (lda_cons (ld_in rfl) lda_nil))) (t_iinc dX7_isAsSeen_47 rfl rfl rfl rfl) (lda_cons (ld_in rfl) lda_nil) lda_nil (lda_cons (ld_goto (y := 3) dX7_isAsSeen_50 rfl (ld_in rfl)) lda_nil) (ld_in rfl) lda_nil
noncomputable def BX7_isAsSeen : Sm Int32 := (dSeq (dSeq (dSetI 5 (cI 0)) LX7_isAsSeen_1) (dRet (cI 1)))
theorem sBX7_isAsSeen : SS (cvoI, .ireturn) miX7_isAsSeen [] [] [] [(0, 2), (1, 2), (2, 0), (3, 0), (4, 2)] [(0, 2), (1, 2), (2, 0), (3, 0), (4, 2)] 0 [] BX7_isAsSeen := (t_sq (p1 := 53) (Γ' := [(0, 2), (1, 2), (2, 0), (3, 0), (4, 2)]) (t_sq (p1 := 3) (Γ' := [(0, 2), (1, 2), (2, 0), (3, 0), (4, 2), (5, 0)]) (t_istore (s_iconst dX7_isAsSeen_0 rfl) dX7_isAsSeen_1 rfl rfl) (tn_to (Γ' := [(0, 2), (1, 2), (2, 0), (3, 0), (4, 2), (5, 0)]) (XA := [53]) sLX7_isAsSeen_1 (lda_cons (ld_in rfl) lda_nil) rfl)) (t_ret (cv := cvI) (fun _ _ => rfl) (s_iconst dX7_isAsSeen_53 rfl) dX7_isAsSeen_54))
noncomputable def DX7_isAsSeen : Fr → St → Option (Int32 × St) := MZ (fun f => (sR (sI (sI (sR (sR fr0 0 (gR f 0)) 1 (gR f 1)) 2 (gI f 2)) 3 (gI f 3)) 4 (gR f 4))) BX7_isAsSeen
theorem kX7_isAsSeen : SND yX7_isAsSeen cX7_isAsSeen 7 (some .boolean) 3 [(0, 2), (1, 2), (2, 0), (3, 0), (4, 2)] cvoI DX7_isAsSeen := snd_Z (nw := 5) (by decide) rfl rfl (fun _ _ => rfl) sBX7_isAsSeen
theorem dX7_findFirsts_0 : decode cX7_findFirsts 0 = .ok (.aload_n 0, 1) := by decide +kernel
theorem dX7_findFirsts_1 : decode cX7_findFirsts 1 = .ok (.iconst 0, 1) := by decide +kernel
theorem dX7_findFirsts_2 : decode cX7_findFirsts 2 = .ok (.putfield 44, 3) := by decide +kernel
theorem dX7_findFirsts_5 : decode cX7_findFirsts 5 = .ok (.iconst 0, 1) := by decide +kernel
theorem dX7_findFirsts_6 : decode cX7_findFirsts 6 = .ok (.istore 6, 2) := by decide +kernel
theorem dX7_findFirsts_8 : decode cX7_findFirsts 8 = .ok (.iload 6, 2) := by decide +kernel
theorem dX7_findFirsts_10 : decode cX7_findFirsts 10 = .ok (.aload_n 1, 1) := by decide +kernel
theorem dX7_findFirsts_11 : decode cX7_findFirsts 11 = .ok (.getfield 41, 3) := by decide +kernel
theorem dX7_findFirsts_14 : decode cX7_findFirsts 14 = .ok (.if_icmp .ge 112, 3) := by decide +kernel
theorem dX7_findFirsts_17 : decode cX7_findFirsts 17 = .ok (.aload 5, 2) := by decide +kernel
theorem dX7_findFirsts_19 : decode cX7_findFirsts 19 = .ok (.getfield 47, 3) := by decide +kernel
theorem dX7_findFirsts_22 : decode cX7_findFirsts 22 = .ok (.aload_n 1, 1) := by decide +kernel
theorem dX7_findFirsts_23 : decode cX7_findFirsts 23 = .ok (.invokevirtual 53, 3) := by decide +kernel
theorem dX7_findFirsts_26 : decode cX7_findFirsts 26 = .ok (.aload 5, 2) := by decide +kernel
theorem dX7_findFirsts_28 : decode cX7_findFirsts 28 = .ok (.getfield 47, 3) := by decide +kernel
theorem dX7_findFirsts_31 : decode cX7_findFirsts 31 = .ok (.iload 4, 2) := by decide +kernel
theorem dX7_findFirsts_33 : decode cX7_findFirsts 33 = .ok (.putfield 59, 3) := by decide +kernel
theorem dX7_findFirsts_36 : decode cX7_findFirsts 36 = .ok (.aload 5, 2) := by decide +kernel
theorem dX7_findFirsts_38 : decode cX7_findFirsts 38 = .ok (.getfield 47, 3) := by decide +kernel
theorem dX7_findFirsts_41 : decode cX7_findFirsts 41 = .ok (.iload 6, 2) := by decide +kernel
theorem dX7_findFirsts_43 : decode cX7_findFirsts 43 = .ok (.putfield 62, 3) := by decide +kernel
theorem dX7_findFirsts_46 : decode cX7_findFirsts 46 = .ok (.aload 5, 2) := by decide +kernel
theorem dX7_findFirsts_48 : decode cX7_findFirsts 48 = .ok (.aload_n 1, 1) := by decide +kernel
theorem dX7_findFirsts_49 : decode cX7_findFirsts 49 = .ok (.invokevirtual 65, 3) := by decide +kernel
theorem dX7_findFirsts_52 : decode cX7_findFirsts 52 = .ok (.iconst 0, 1) := by decide +kernel
theorem dX7_findFirsts_53 : decode cX7_findFirsts 53 = .ok (.istore 7, 2) := by decide +kernel
theorem dX7_findFirsts_55 : decode cX7_findFirsts 55 = .ok (.iload 7, 2) := by decide +kernel
theorem dX7_findFirsts_57 : decode cX7_findFirsts 57 = .ok (.aload_n 1, 1) := by decide +kernel
theorem dX7_findFirsts_58 : decode cX7_findFirsts 58 = .ok (.getfield 37, 3) := by decide +kernel
theorem dX7_findFirsts_61 : decode cX7_findFirsts 61 = .ok (.if_icmp .gt 33, 3) := by decide +kernel
theorem dX7_findFirsts_64 : decode cX7_findFirsts 64 = .ok (.aload_n 0, 1) := by decide +kernel
theorem dX7_findFirsts_65 : decode cX7_findFirsts 65 = .ok (.getfield 11, 3) := by decide +kernel
theorem dX7_findFirsts_68 : decode cX7_findFirsts 68 = .ok (.iload 6, 2) := by decide +kernel
theorem dX7_findFirsts_70 : decode cX7_findFirsts 70 = .ok (.bipush 13, 2) := by decide +kernel
theorem dX7_findFirsts_72 : decode cX7_findFirsts 72 = .ok (.imul, 1) := by decide +kernel
theorem dX7_findFirsts_73 : decode cX7_findFirsts 73 = .ok (.iload 7, 2) := by decide +kernel
theorem dX7_findFirsts_75 : decode cX7_findFirsts 75 = .ok (.iadd, 1) := by decide +kernel
theorem dX7_findFirsts_76 : decode cX7_findFirsts 76 = .ok (.aload 5, 2) := by decide +kernel
theorem dX7_findFirsts_78 : decode cX7_findFirsts 78 = .ok (.iload 4, 2) := by decide +kernel
theorem dX7_findFirsts_80 : decode cX7_findFirsts 80 = .ok (.iload 7, 2) := by decide +kernel
theorem dX7_findFirsts_82 : decode cX7_findFirsts 82 = .ok (.invokevirtual 68, 3) := by decide +kernel
theorem dX7_findFirsts_85 : decode cX7_findFirsts 85 = .ok (.invokestatic 72, 3) := by decide +kernel
theorem dX7_findFirsts_88 : decode cX7_findFirsts 88 = .ok (.iinc 7 1, 3) := by decide +kernel
theorem dX7_findFirsts_91 : decode cX7_findFirsts 91 = .ok (.goto (-36), 3) := by decide +kernel
theorem dX7_findFirsts_94 : decode cX7_findFirsts 94 = .ok (.aload_n 0, 1) := by decide +kernel
theorem dX7_findFirsts_95 : decode cX7_findFirsts 95 = .ok (.aload_n 2, 1) := by decide +kernel
theorem dX7_findFirsts_96 : decode cX7_findFirsts 96 = .ok (.iload_n 3, 1) := by decide +kernel
theorem dX7_findFirsts_97 : decode cX7_findFirsts 97 = .ok (.iload 4, 2) := by decide +kernel
theorem dX7_findFirsts_99 : decode cX7_findFirsts 99 = .ok (.aload 5, 2) := by decide +kernel
theorem dX7_findFirsts_101 : decode cX7_findFirsts 101 = .ok (.invokevirtual 76, 3) := by decide +kernel
theorem dX7_findFirsts_104 : decode cX7_findFirsts 104 = .ok (.ifCond .eq 16, 3) := by decide +kernel
theorem dX7_findFirsts_107 : decode cX7_findFirsts 107 = .ok (.aload_n 0, 1) := by decide +kernel
theorem dX7_findFirsts_108 : decode cX7_findFirsts 108 = .ok (.dup, 1) := by decide +kernel
theorem dX7_findFirsts_109 : decode cX7_findFirsts 109 = .ok (.getfield 44, 3) := by decide +kernel
theorem dX7_findFirsts_112 : decode cX7_findFirsts 112 = .ok (.iconst 1, 1) := by decide +kernel
theorem dX7_findFirsts_113 : decode cX7_findFirsts 113 = .ok (.iload 6, 2) := by decide +kernel
theorem dX7_findFirsts_115 : decode cX7_findFirsts 115 = .ok (.ishl, 1) := by decide +kernel
theorem dX7_findFirsts_116 : decode cX7_findFirsts 116 = .ok (.ior, 1) := by decide +kernel
theorem dX7_findFirsts_117 : decode cX7_findFirsts 117 = .ok (.putfield 44, 3) := by decide +kernel
theorem dX7_findFirsts_120 : decode cX7_findFirsts 120 = .ok (.iinc 6 1, 3) := by decide +kernel
theorem dX7_findFirsts_123 : decode cX7_findFirsts 123 = .ok (.goto (-115), 3) := by decide +kernel
theorem dX7_findFirsts_126 : decode cX7_findFirsts 126 = .ok (.return_, 1) := by decide +kernel
theorem mokX7_findFirsts : MOK yX7_findFirsts cX7_findFirsts 8 none 5 := ⟨w4_79, w1_12, ⟨by decide, by decide⟩, by decide +kernel, by decide⟩
abbrev miX7_findFirsts : MI := (yX7_findFirsts.cls, cX7_findFirsts, 8, 7, false)
noncomputable def LX7_findFirsts_1 : Sm Unit := dLoop (fun f => (sI (sI (sR (sI (sI (sR (sR (sR fr0 0 (gR f 0)) 1 (gR f 1)) 2 (gR f 2)) 3 (gI f 3)) 4 (gI f 4)) 5 (gR f 5)) 6 (gI f 6)) 7 (gI f 7))) (dCI r_le (vI 7) (dGI 5 1 (vR 1))) (dDo (dCall DX11_put (aI (aI (aR aN 0 (dGR 7 1 (vR 0))) 1 (d2 o_iadd (d2 o_imul (vI 6) (cI 13)) (vI 7))) 2 (dCallV 3 DX3_slateOn (aI (aI (aR aN 0 (vR 5)) 1 (vI 4)) 2 (vI 7)))))) (dInc 7 1)
theorem sLX7_findFirsts_1 {ΓL : Gm} {PB PK : List Nat} : SS (cvoV, .return_) miX7_findFirsts ΓL PB PK [(0, 2), (1, 2), (2, 2), (3, 0), (4, 0), (5, 2), (6, 0), (7, 0)] [(0, 2), (1, 2), (2, 2), (3, 0), (4, 0), (5, 2), (6, 0), (7, 0)] 55 [94] LX7_findFirsts_1 := t_loop (pT := 64) (pF := 94) (pu := 88) (PB' := []) (PK' := []) (XB := [88]) (XU := [91]) (fun _ _ => rfl) rfl (c_le_F (pF := 94) (s_iload dX7_findFirsts_55 rfl) (s_getI ck5 1 (by decide) rfl (s_aload_n dX7_findFirsts_57 rfl rfl) dX7_findFirsts_58 w1_129) dX7_findFirsts_61 rfl) (t_do (x_callN (ts := [(0, 2), (1, 0), (2, 0)]) kX11_put mokX11_put w3_65 rfl rfl rfl (a_I (ts := [(0, 2), (1, 0)]) 2 (a_I (ts := [(0, 2)]) 1 (a_R (ts := []) 0 a_nil (s_getR ck7 1 (by decide) rfl (s_aload_n dX7_findFirsts_64 rfl rfl) dX7_findFirsts_65 w2_190) rfl) (s_iadd (s_imul (s_iload dX7_findFirsts_68 rfl) (s_bipush dX7_findFirsts_70 rfl) dX7_findFirsts_72) (s_iload dX7_findFirsts_73 rfl) dX7_findFirsts_75) rfl) (s_of_xI (x_callV (ts := [(0, 2), (1, 0), (2, 0)]) ck3 rfl kX3_slateOn mokX3_slateOn w3_140 w3_141 rfl rfl rfl rfl (a_I (ts := [(0, 2), (1, 0)]) 2 (a_I (ts := [(0, 2)]) 1 (a_R (ts := []) 0 a_nil (s_aload dX7_findFirsts_76 rfl) rfl) (s_iload dX7_findFirsts_78 rfl) rfl) (s_iload dX7_findFirsts_80 rfl) rfl) dX7_findFirsts_82 w4_82)) rfl) dX7_findFirsts_85 nb24) rfl) (t_iinc dX7_findFirsts_88 rfl rfl rfl rfl) (lda_cons (ld_in rfl) lda_nil) lda_nil (lda_cons (ld_goto (y := 55) dX7_findFirsts_91 rfl (ld_in rfl)) lda_nil) (ld_in rfl) lda_nil
noncomputable def LX7_findFirsts_2 : Sm Unit := dLoop (fun f => (sI (sR (sI (sI (sR (sR (sR fr0 0 (gR f 0)) 1 (gR f 1)) 2 (gR f 2)) 3 (gI f 3)) 4 (gI f 4)) 5 (gR f 5)) 6 (gI f 6))) (dCI r_lt (vI 6) (dGI 5 4 (vR 1))) (dSeq (dDo (dCallV 2 DX2_setAsTold (aR (aR aN 0 (dGR 3 1 (vR 5))) 1 (vR 1)))) (dSeq (dP (fI 2 4) (dGR 3 1 (vR 5)) (vI 4)) (dSeq (dP (fI 2 5) (dGR 3 1 (vR 5)) (vI 6)) (dSeq (dDo (dCallV 3 DX3_fill (aR (aR aN 0 (vR 5)) 1 (vR 1)))) (dSeq (dSeq (dSetI 7 (cI 0)) LX7_findFirsts_1) (dIf (dCZ q_ne (dCallV 7 DX7_isAsSeen (aR (aI (aI (aR (aR aN 0 (vR 0)) 1 (vR 2)) 2 (vI 3)) 3 (vI 4)) 4 (vR 5)))) (dUF 7 0 o_ior (vR 0) (d2 o_ishl (cI 1) (vI 6))) dSkip)))))) (dInc 6 1)
theorem sLX7_findFirsts_2 {ΓL : Gm} {PB PK : List Nat} : SS (cvoV, .return_) miX7_findFirsts ΓL PB PK [(0, 2), (1, 2), (2, 2), (3, 0), (4, 0), (5, 2), (6, 0)] [(0, 2), (1, 2), (2, 2), (3, 0), (4, 0), (5, 2), (6, 0)] 8 [126] LX7_findFirsts_2 := t_loop (pT := 17) (pF := 126) (pu := 120) (PB' := []) (PK' := []) (XB := [120]) (XU := [123]) (fun _ _ => rfl) rfl (c_lt_F (pF := 126) (s_iload dX7_findFirsts_8 rfl) (s_getI ck5 4 (by decide) rfl (s_aload_n dX7_findFirsts_10 rfl rfl) dX7_findFirsts_11 w1_144) dX7_findFirsts_14 rfl) (t_sq (p1 := 26) (Γ' := [(0, 2), (1, 2), (2, 2), (3, 0), (4, 0), (5, 2), (6, 0)]) (t_do (x_callV (ts := [(0, 2), (1, 2)]) ck2 rfl kX2_setAsTold mokX2_setAsTold w3_49 w3_50 rfl rfl rfl rfl (a_R (ts := [(0, 2)]) 1 (a_R (ts := []) 0 a_nil (s_getR ck3 1 (by decide) rfl (s_aload dX7_findFirsts_17 rfl) dX7_findFirsts_19 w2_71) rfl) (s_aload_n dX7_findFirsts_22 rfl rfl) rfl) dX7_findFirsts_23 w4_80) rfl) (t_sq (p1 := 36) (Γ' := [(0, 2), (1, 2), (2, 2), (3, 0), (4, 0), (5, 2), (6, 0)]) (t_pI ck2 4 (by decide) rfl (Or.inl rfl) (s_getR ck3 1 (by decide) rfl (s_aload dX7_findFirsts_26 rfl) dX7_findFirsts_28 w2_71) (s_iload dX7_findFirsts_31 rfl) dX7_findFirsts_33 w2_19 rfl) (t_sq (p1 := 46) (Γ' := [(0, 2), (1, 2), (2, 2), (3, 0), (4, 0), (5, 2), (6, 0)]) (t_pI ck2 5 (by decide) rfl (Or.inl rfl) (s_getR ck3 1 (by decide) rfl (s_aload dX7_findFirsts_36 rfl) dX7_findFirsts_38 w2_71) (s_iload dX7_findFirsts_41 rfl) dX7_findFirsts_43 w2_21 rfl) (t_sq (p1 := 52) (Γ' := [(0, 2), (1, 2), (2, 2), (3, 0), (4, 0), (5, 2), (6, 0)]) (t_do (x_callV (ts := [(0, 2), (1, 2)]) ck3 rfl kX3_fill mokX3_fill w3_53 w3_54 rfl rfl rfl rfl (a_R (ts := [(0, 2)]) 1 (a_R (ts := []) 0 a_nil (s_aload dX7_findFirsts_46 rfl) rfl) (s_aload_n dX7_findFirsts_48 rfl rfl) rfl) dX7_findFirsts_49 w4_81) rfl) (t_sq (p1 := 94) (Γ' := [(0, 2), (1, 2), (2, 2), (3, 0), (4, 0), (5, 2), (6, 0)]) (t_sq (p1 := 55) (Γ' := [(0, 2), (1, 2), (2, 2), (3, 0), (4, 0), (5, 2), (6, 0), (7, 0)]) (t_istore (s_iconst dX7_findFirsts_52 rfl) dX7_findFirsts_53 rfl rfl) (tn_to (Γ' := [(0, 2), (1, 2), (2, 2), (3, 0), (4, 0), (5, 2), (6, 0), (7, 0)]) (XA := [94]) sLX7_findFirsts_1 (lda_cons (ld_in rfl) lda_nil) rfl)) (t_if (pT := 107) (pF := 120) (X := [120]) (XA := [120]) (XB := [120]) (c_ne_ZF (pF := 120) (s_of_xI (x_callV (ts := [(0, 2), (1, 2), (2, 0), (3, 0), (4, 2)]) ck7 rfl kX7_isAsSeen mokX7_isAsSeen w4_85 w4_86 rfl rfl rfl rfl (a_R (ts := [(0, 2), (1, 2), (2, 0), (3, 0)]) 4 (a_I (ts := [(0, 2), (1, 2), (2, 0)]) 3 (a_I (ts := [(0, 2), (1, 2)]) 2 (a_R (ts := [(0, 2)]) 1 (a_R (ts := []) 0 a_nil (s_aload_n dX7_findFirsts_94 rfl rfl) rfl) (s_aload_n dX7_findFirsts_95 rfl rfl) rfl) (s_iload_n dX7_findFirsts_96 rfl rfl) rfl) (s_iload dX7_findFirsts_97 rfl) rfl) (s_aload dX7_findFirsts_99 rfl) rfl) dX7_findFirsts_101 w4_84)) dX7_findFirsts_104 rfl) (t_UF ck7 0 (by decide) rfl (Or.inl rfl) (s_aload_n dX7_findFirsts_107 rfl rfl) dX7_findFirsts_108 dX7_findFirsts_109 w2_188 (s_ishl (s_iconst dX7_findFirsts_112 rfl) (s_iload dX7_findFirsts_113 rfl) dX7_findFirsts_115) (fun _ _ _ _ => rulI fun a b K => lv_ior a b dX7_findFirsts_116 K) dX7_findFirsts_117 w2_188 rfl) (t_skip (ld_in rfl) rfl) (lda_cons (ld_in rfl) lda_nil) (lda_cons (ld_in rfl) lda_nil))))))) (t_iinc dX7_findFirsts_120 rfl rfl rfl rfl) (lda_cons (ld_in rfl) lda_nil) lda_nil (lda_cons (ld_goto (y := 8) dX7_findFirsts_123 rfl (ld_in rfl)) lda_nil) (ld_in rfl) lda_nil
noncomputable def BX7_findFirsts : Sm Unit := (dSeq (dP (fI 7 0) (vR 0) (cI 0)) (dSeq (dSeq (dSetI 6 (cI 0)) LX7_findFirsts_2) dRet0))
theorem sBX7_findFirsts : SS (cvoV, .return_) miX7_findFirsts [] [] [] [(0, 2), (1, 2), (2, 2), (3, 0), (4, 0), (5, 2)] [(0, 2), (1, 2), (2, 2), (3, 0), (4, 0), (5, 2)] 0 [] BX7_findFirsts := (t_sq (p1 := 5) (Γ' := [(0, 2), (1, 2), (2, 2), (3, 0), (4, 0), (5, 2)]) (t_pI ck7 0 (by decide) rfl (Or.inl rfl) (s_aload_n dX7_findFirsts_0 rfl rfl) (s_iconst dX7_findFirsts_1 rfl) dX7_findFirsts_2 w2_188 rfl) (t_sq (p1 := 126) (Γ' := [(0, 2), (1, 2), (2, 2), (3, 0), (4, 0), (5, 2)]) (t_sq (p1 := 8) (Γ' := [(0, 2), (1, 2), (2, 2), (3, 0), (4, 0), (5, 2), (6, 0)]) (t_istore (s_iconst dX7_findFirsts_5 rfl) dX7_findFirsts_6 rfl rfl) (tn_to (Γ' := [(0, 2), (1, 2), (2, 2), (3, 0), (4, 0), (5, 2), (6, 0)]) (XA := [126]) sLX7_findFirsts_2 (lda_cons (ld_in rfl) lda_nil) rfl)) (t_ret0 (fun _ _ => rfl) dX7_findFirsts_126)))
noncomputable def DX7_findFirsts : Fr → St → Option (Unit × St) := M1 (fun f => (sR (sI (sI (sR (sR (sR fr0 0 (gR f 0)) 1 (gR f 1)) 2 (gR f 2)) 3 (gI f 3)) 4 (gI f 4)) 5 (gR f 5))) BX7_findFirsts
theorem kX7_findFirsts : SND yX7_findFirsts cX7_findFirsts 8 none 7 [(0, 2), (1, 2), (2, 2), (3, 0), (4, 0), (5, 2)] cvoV DX7_findFirsts := snd_V (nw := 6) (by decide) (fun z => by cases z) rfl rfl (fun _ _ => rfl) sBX7_findFirsts
theorem dX8_hasRow_0 : decode cX8_hasRow 0 = .ok (.aload_n 0, 1) := by decide +kernel
theorem dX8_hasRow_1 : decode cX8_hasRow 1 = .ok (.getfield 11, 3) := by decide +kernel
theorem dX8_hasRow_4 : decode cX8_hasRow 4 = .ok (.iload_n 1, 1) := by decide +kernel
theorem dX8_hasRow_5 : decode cX8_hasRow 5 = .ok (.invokestatic 22, 3) := by decide +kernel
theorem dX8_hasRow_8 : decode cX8_hasRow 8 = .ok (.ifCond .eq 7, 3) := by decide +kernel
theorem dX8_hasRow_11 : decode cX8_hasRow 11 = .ok (.iconst 1, 1) := by decide +kernel
theorem dX8_hasRow_12 : decode cX8_hasRow 12 = .ok (.goto 4, 3) := by decide +kernel
theorem dX8_hasRow_15 : decode cX8_hasRow 15 = .ok (.iconst 0, 1) := by decide +kernel
theorem dX8_hasRow_16 : decode cX8_hasRow 16 = .ok (.ireturn, 1) := by decide +kernel
theorem mokX8_hasRow : MOK yX8_hasRow cX8_hasRow 2 (some .boolean) 1 := ⟨w4_66, w1_6, ⟨by decide, by decide⟩, by decide +kernel, by decide⟩
abbrev miX8_hasRow : MI := (yX8_hasRow.cls, cX8_hasRow, 2, 2, false)
noncomputable def BX8_hasRow : Sm Int32 := (dRet (dB (dCZ q_ne (dCall DX11_cell (aI (aR aN 0 (dGR 8 0 (vR 0))) 1 (vI 1))))))
theorem sBX8_hasRow : SS (cvoI, .ireturn) miX8_hasRow [] [] [] [(0, 2), (1, 0)] [(0, 2), (1, 0)] 0 [] BX8_hasRow := (t_ret (cv := cvI) (fun _ _ => rfl) (s_B (pT := 11) (pF := 15) (pe := 16) (c_ne_ZF (pF := 15) (s_of_xI (x_callN (ts := [(0, 2), (1, 0)]) kX11_cell mokX11_cell w3_26 rfl rfl rfl (a_I (ts := [(0, 2)]) 1 (a_R (ts := []) 0 a_nil (s_getR ck8 0 (by decide) rfl (s_aload_n dX8_hasRow_0 rfl rfl) dX8_hasRow_1 w1_228) rfl) (s_iload_n dX8_hasRow_4 rfl rfl) rfl) dX8_hasRow_5 nb23)) dX8_hasRow_8 rfl) dX8_hasRow_11 dX8_hasRow_12 rfl dX8_hasRow_15 rfl) dX8_hasRow_16)
noncomputable def DX8_hasRow : Fr → St → Option (Int32 × St) := MZ (fun f => (sI (sR fr0 0 (gR f 0)) 1 (gI f 1))) BX8_hasRow
theorem kX8_hasRow : SND yX8_hasRow cX8_hasRow 2 (some .boolean) 2 [(0, 2), (1, 0)] cvoI DX8_hasRow := snd_Z (nw := 2) (by decide) rfl rfl (fun _ _ => rfl) sBX8_hasRow
theorem dX8_isSlot_0 : decode cX8_isSlot 0 = .ok (.iload_n 1, 1) := by decide +kernel
theorem dX8_isSlot_1 : decode cX8_isSlot 1 = .ok (.ifCond .lt 12, 3) := by decide +kernel
theorem dX8_isSlot_4 : decode cX8_isSlot 4 = .ok (.iload_n 1, 1) := by decide +kernel
theorem dX8_isSlot_5 : decode cX8_isSlot 5 = .ok (.iconst 4, 1) := by decide +kernel
theorem dX8_isSlot_6 : decode cX8_isSlot 6 = .ok (.if_icmp .ge 7, 3) := by decide +kernel
theorem dX8_isSlot_9 : decode cX8_isSlot 9 = .ok (.iconst 1, 1) := by decide +kernel
theorem dX8_isSlot_10 : decode cX8_isSlot 10 = .ok (.goto 4, 3) := by decide +kernel
theorem dX8_isSlot_13 : decode cX8_isSlot 13 = .ok (.iconst 0, 1) := by decide +kernel
theorem dX8_isSlot_14 : decode cX8_isSlot 14 = .ok (.ireturn, 1) := by decide +kernel
theorem mokX8_isSlot : MOK yX8_isSlot cX8_isSlot 2 (some .boolean) 1 := ⟨w4_61, w1_6, ⟨by decide, by decide⟩, by decide +kernel, by decide⟩
abbrev miX8_isSlot : MI := (yX8_isSlot.cls, cX8_isSlot, 2, 1, false)
noncomputable def BX8_isSlot : Sm Int32 := (dRet (dB (dAnd (dCZ q_ge (vI 1)) (dCI r_lt (vI 1) (cI 4)))))
theorem sBX8_isSlot : SS (cvoI, .ireturn) miX8_isSlot [] [] [] [(0, 2), (1, 0)] [(0, 2), (1, 0)] 0 [] BX8_isSlot := (t_ret (cv := cvI) (fun _ _ => rfl) (s_B (pT := 9) (pF := 13) (pe := 14) (c_and (p1 := 4) (pT := 9) (pF := 13) (c_ge_ZF (pF := 13) (s_iload_n dX8_isSlot_0 rfl rfl) dX8_isSlot_1 rfl) (c_lt_F (pF := 13) (s_iload_n dX8_isSlot_4 rfl rfl) (s_iconst dX8_isSlot_5 rfl) dX8_isSlot_6 rfl)) dX8_isSlot_9 dX8_isSlot_10 rfl dX8_isSlot_13 rfl) dX8_isSlot_14)
noncomputable def DX8_isSlot : Fr → St → Option (Int32 × St) := MZ (fun f => (sI (sR fr0 0 (gR f 0)) 1 (gI f 1))) BX8_isSlot
theorem kX8_isSlot : SND yX8_isSlot cX8_isSlot 2 (some .boolean) 1 [(0, 2), (1, 0)] cvoI DX8_isSlot := snd_Z (nw := 2) (by decide) rfl rfl (fun _ _ => rfl) sBX8_isSlot
theorem dX7_wrongRow_0 : decode cX7_wrongRow 0 = .ok (.aload_n 2, 1) := by decide +kernel
theorem dX7_wrongRow_1 : decode cX7_wrongRow 1 = .ok (.iload_n 3, 1) := by decide +kernel
theorem dX7_wrongRow_2 : decode cX7_wrongRow 2 = .ok (.invokevirtual 15, 3) := by decide +kernel
theorem dX7_wrongRow_5 : decode cX7_wrongRow 5 = .ok (.ifCond .eq 12, 3) := by decide +kernel
theorem dX7_wrongRow_8 : decode cX7_wrongRow 8 = .ok (.aload_n 1, 1) := by decide +kernel
theorem dX7_wrongRow_9 : decode cX7_wrongRow 9 = .ok (.iload 4, 2) := by decide +kernel
theorem dX7_wrongRow_11 : decode cX7_wrongRow 11 = .ok (.invokevirtual 21, 3) := by decide +kernel
theorem dX7_wrongRow_14 : decode cX7_wrongRow 14 = .ok (.ifCond .ne 6, 3) := by decide +kernel
theorem dX7_wrongRow_17 : decode cX7_wrongRow 17 = .ok (.bipush (-2), 2) := by decide +kernel
theorem dX7_wrongRow_19 : decode cX7_wrongRow 19 = .ok (.ireturn, 1) := by decide +kernel
theorem dX7_wrongRow_20 : decode cX7_wrongRow 20 = .ok (.aload_n 2, 1) := by decide +kernel
theorem dX7_wrongRow_21 : decode cX7_wrongRow 21 = .ok (.iload_n 3, 1) := by decide +kernel
theorem dX7_wrongRow_22 : decode cX7_wrongRow 22 = .ok (.invokevirtual 26, 3) := by decide +kernel
theorem dX7_wrongRow_25 : decode cX7_wrongRow 25 = .ok (.ifCond .ne 6, 3) := by decide +kernel
theorem dX7_wrongRow_28 : decode cX7_wrongRow 28 = .ok (.bipush (-6), 2) := by decide +kernel
theorem dX7_wrongRow_30 : decode cX7_wrongRow 30 = .ok (.ireturn, 1) := by decide +kernel
theorem dX7_wrongRow_31 : decode cX7_wrongRow 31 = .ok (.aload_n 2, 1) := by decide +kernel
theorem dX7_wrongRow_32 : decode cX7_wrongRow 32 = .ok (.iload_n 3, 1) := by decide +kernel
theorem dX7_wrongRow_33 : decode cX7_wrongRow 33 = .ok (.invokevirtual 29, 3) := by decide +kernel
theorem dX7_wrongRow_36 : decode cX7_wrongRow 36 = .ok (.istore 5, 2) := by decide +kernel
theorem dX7_wrongRow_38 : decode cX7_wrongRow 38 = .ok (.iload 5, 2) := by decide +kernel
theorem dX7_wrongRow_40 : decode cX7_wrongRow 40 = .ok (.iconst 2, 1) := by decide +kernel
theorem dX7_wrongRow_41 : decode cX7_wrongRow 41 = .ok (.irem, 1) := by decide +kernel
theorem dX7_wrongRow_42 : decode cX7_wrongRow 42 = .ok (.ifCond .eq 6, 3) := by decide +kernel
theorem dX7_wrongRow_45 : decode cX7_wrongRow 45 = .ok (.bipush (-2), 2) := by decide +kernel
theorem dX7_wrongRow_47 : decode cX7_wrongRow 47 = .ok (.ireturn, 1) := by decide +kernel
theorem dX7_wrongRow_48 : decode cX7_wrongRow 48 = .ok (.iconst 0, 1) := by decide +kernel
theorem dX7_wrongRow_49 : decode cX7_wrongRow 49 = .ok (.istore 6, 2) := by decide +kernel
theorem dX7_wrongRow_51 : decode cX7_wrongRow 51 = .ok (.iload 6, 2) := by decide +kernel
theorem dX7_wrongRow_53 : decode cX7_wrongRow 53 = .ok (.iload 5, 2) := by decide +kernel
theorem dX7_wrongRow_55 : decode cX7_wrongRow 55 = .ok (.if_icmp .ge 68, 3) := by decide +kernel
theorem dX7_wrongRow_58 : decode cX7_wrongRow 58 = .ok (.aload_n 2, 1) := by decide +kernel
theorem dX7_wrongRow_59 : decode cX7_wrongRow 59 = .ok (.iload_n 3, 1) := by decide +kernel
theorem dX7_wrongRow_60 : decode cX7_wrongRow 60 = .ok (.iload 6, 2) := by decide +kernel
theorem dX7_wrongRow_62 : decode cX7_wrongRow 62 = .ok (.invokevirtual 33, 3) := by decide +kernel
theorem dX7_wrongRow_65 : decode cX7_wrongRow 65 = .ok (.lstore 7, 2) := by decide +kernel
theorem dX7_wrongRow_67 : decode cX7_wrongRow 67 = .ok (.aload_n 2, 1) := by decide +kernel
theorem dX7_wrongRow_68 : decode cX7_wrongRow 68 = .ok (.iload_n 3, 1) := by decide +kernel
theorem dX7_wrongRow_69 : decode cX7_wrongRow 69 = .ok (.iload 6, 2) := by decide +kernel
theorem dX7_wrongRow_71 : decode cX7_wrongRow 71 = .ok (.iconst 1, 1) := by decide +kernel
theorem dX7_wrongRow_72 : decode cX7_wrongRow 72 = .ok (.iadd, 1) := by decide +kernel
theorem dX7_wrongRow_73 : decode cX7_wrongRow 73 = .ok (.invokevirtual 33, 3) := by decide +kernel
theorem dX7_wrongRow_76 : decode cX7_wrongRow 76 = .ok (.lstore 9, 2) := by decide +kernel
theorem dX7_wrongRow_78 : decode cX7_wrongRow 78 = .ok (.lload 7, 2) := by decide +kernel
theorem dX7_wrongRow_80 : decode cX7_wrongRow 80 = .ok (.lconst 0, 1) := by decide +kernel
theorem dX7_wrongRow_81 : decode cX7_wrongRow 81 = .ok (.lcmp, 1) := by decide +kernel
theorem dX7_wrongRow_82 : decode cX7_wrongRow 82 = .ok (.ifCond .lt 32, 3) := by decide +kernel
theorem dX7_wrongRow_85 : decode cX7_wrongRow 85 = .ok (.lload 7, 2) := by decide +kernel
theorem dX7_wrongRow_87 : decode cX7_wrongRow 87 = .ok (.aload_n 1, 1) := by decide +kernel
theorem dX7_wrongRow_88 : decode cX7_wrongRow 88 = .ok (.getfield 37, 3) := by decide +kernel
theorem dX7_wrongRow_91 : decode cX7_wrongRow 91 = .ok (.i2l, 1) := by decide +kernel
theorem dX7_wrongRow_92 : decode cX7_wrongRow 92 = .ok (.lcmp, 1) := by decide +kernel
theorem dX7_wrongRow_93 : decode cX7_wrongRow 93 = .ok (.ifCond .gt 21, 3) := by decide +kernel
theorem dX7_wrongRow_96 : decode cX7_wrongRow 96 = .ok (.lload 9, 2) := by decide +kernel
theorem dX7_wrongRow_98 : decode cX7_wrongRow 98 = .ok (.lconst 0, 1) := by decide +kernel
theorem dX7_wrongRow_99 : decode cX7_wrongRow 99 = .ok (.lcmp, 1) := by decide +kernel
theorem dX7_wrongRow_100 : decode cX7_wrongRow 100 = .ok (.ifCond .lt 14, 3) := by decide +kernel
theorem dX7_wrongRow_103 : decode cX7_wrongRow 103 = .ok (.lload 9, 2) := by decide +kernel
theorem dX7_wrongRow_105 : decode cX7_wrongRow 105 = .ok (.aload_n 1, 1) := by decide +kernel
theorem dX7_wrongRow_106 : decode cX7_wrongRow 106 = .ok (.getfield 41, 3) := by decide +kernel
theorem dX7_wrongRow_109 : decode cX7_wrongRow 109 = .ok (.i2l, 1) := by decide +kernel
theorem dX7_wrongRow_110 : decode cX7_wrongRow 110 = .ok (.lcmp, 1) := by decide +kernel
theorem dX7_wrongRow_111 : decode cX7_wrongRow 111 = .ok (.ifCond .lt 6, 3) := by decide +kernel
theorem dX7_wrongRow_114 : decode cX7_wrongRow 114 = .ok (.bipush (-2), 2) := by decide +kernel
theorem dX7_wrongRow_116 : decode cX7_wrongRow 116 = .ok (.ireturn, 1) := by decide +kernel
theorem dX7_wrongRow_117 : decode cX7_wrongRow 117 = .ok (.iinc 6 2, 3) := by decide +kernel
theorem dX7_wrongRow_120 : decode cX7_wrongRow 120 = .ok (.goto (-69), 3) := by decide +kernel
theorem dX7_wrongRow_123 : decode cX7_wrongRow 123 = .ok (.iconst 0, 1) := by decide +kernel
theorem dX7_wrongRow_124 : decode cX7_wrongRow 124 = .ok (.ireturn, 1) := by decide +kernel
theorem mokX7_wrongRow : MOK yX7_wrongRow cX7_wrongRow 11 (some .int) 4 := ⟨w4_57, w1_12, ⟨by decide, by decide⟩, by decide +kernel, by decide⟩
abbrev miX7_wrongRow : MI := (yX7_wrongRow.cls, cX7_wrongRow, 11, 3, false)
noncomputable def LX7_wrongRow_1 : Sm Int32 := dLoop (fun f => (sI (sI (sI (sI (sR (sR (sR fr0 0 (gR f 0)) 1 (gR f 1)) 2 (gR f 2)) 3 (gI f 3)) 4 (gI f 4)) 5 (gI f 5)) 6 (gI f 6))) (dCI r_lt (vI 6) (vI 5)) (dSeq (dSetL 7 (dCallV 8 DX8_numberAt (aI (aI (aR aN 0 (vR 2)) 1 (vI 3)) 2 (vI 6)))) (dSeq (dSetL 9 (dCallV 8 DX8_numberAt (aI (aI (aR aN 0 (vR 2)) 1 (vI 3)) 2 (d2 o_iadd (vI 6) (cI 1))))) (dIf (dOr (dOr (dOr (dCZ q_lt (d2 o_lcmp (vL 7) (cL 0))) (dCZ q_gt (d2 o_lcmp (vL 7) (d1 o_i2l (dGI 5 1 (vR 1)))))) (dCZ q_lt (d2 o_lcmp (vL 9) (cL 0)))) (dCZ q_ge (d2 o_lcmp (vL 9) (d1 o_i2l (dGI 5 4 (vR 1)))))) (dRet (cI (-2))) dSkip))) (dInc 6 2)
theorem sLX7_wrongRow_1 {ΓL : Gm} {PB PK : List Nat} : SS (cvoI, .ireturn) miX7_wrongRow ΓL PB PK [(0, 2), (1, 2), (2, 2), (3, 0), (4, 0), (5, 0), (6, 0)] [(0, 2), (1, 2), (2, 2), (3, 0), (4, 0), (5, 0), (6, 0)] 51 [123] LX7_wrongRow_1 := t_loop (pT := 58) (pF := 123) (pu := 117) (PB' := []) (PK' := []) (XB := [117]) (XU := [120]) (fun _ _ => rfl) rfl (c_lt_F (pF := 123) (s_iload dX7_wrongRow_51 rfl) (s_iload dX7_wrongRow_53 rfl) dX7_wrongRow_55 rfl) (t_sq (p1 := 67) (Γ' := [(0, 2), (1, 2), (2, 2), (3, 0), (4, 0), (5, 0), (6, 0), (7, 1)]) (t_lstore (s_of_xL (x_callV (ts := [(0, 2), (1, 0), (2, 0)]) ck8 rfl kX8_numberAt mokX8_numberAt w4_73 w4_74 rfl rfl rfl rfl (a_I (ts := [(0, 2), (1, 0)]) 2 (a_I (ts := [(0, 2)]) 1 (a_R (ts := []) 0 a_nil (s_aload_n dX7_wrongRow_58 rfl rfl) rfl) (s_iload_n dX7_wrongRow_59 rfl rfl) rfl) (s_iload dX7_wrongRow_60 rfl) rfl) dX7_wrongRow_62 w4_72)) dX7_wrongRow_65 rfl rfl) (t_sq (p1 := 78) (Γ' := [(0, 2), (1, 2), (2, 2), (3, 0), (4, 0), (5, 0), (6, 0), (7, 1), (9, 1)]) (t_lstore (s_of_xL (x_callV (ts := [(0, 2), (1, 0), (2, 0)]) ck8 rfl kX8_numberAt mokX8_numberAt w4_73 w4_74 rfl rfl rfl rfl (a_I (ts := [(0, 2), (1, 0)]) 2 (a_I (ts := [(0, 2)]) 1 (a_R (ts := []) 0 a_nil (s_aload_n dX7_wrongRow_67 rfl rfl) rfl) (s_iload_n dX7_wrongRow_68 rfl rfl) rfl) (s_iadd (s_iload dX7_wrongRow_69 rfl) (s_iconst dX7_wrongRow_71 rfl) dX7_wrongRow_72) rfl) dX7_wrongRow_73 w4_72)) dX7_wrongRow_76 rfl rfl) (t_if (pT := 114) (pF := 117) (X := [117]) (XA := []) (XB := [117]) (c_or (p1 := 103) (pT := 114) (pF := 117) (c_or (p1 := 96) (pT := 114) (pF := 103) (c_or (p1 := 85) (pT := 114) (pF := 96) (c_lt_ZJ (pT := 114) (s_lcmp (s_lload dX7_wrongRow_78 rfl) (s_lconst dX7_wrongRow_80 rfl) dX7_wrongRow_81) dX7_wrongRow_82 rfl) (c_gt_ZJ (pT := 114) (s_lcmp (s_lload dX7_wrongRow_85 rfl) (s_i2l (s_getI ck5 1 (by decide) rfl (s_aload_n dX7_wrongRow_87 rfl rfl) dX7_wrongRow_88 w1_129) dX7_wrongRow_91) dX7_wrongRow_92) dX7_wrongRow_93 rfl)) (c_lt_ZJ (pT := 114) (s_lcmp (s_lload dX7_wrongRow_96 rfl) (s_lconst dX7_wrongRow_98 rfl) dX7_wrongRow_99) dX7_wrongRow_100 rfl)) (c_ge_ZF (pF := 117) (s_lcmp (s_lload dX7_wrongRow_103 rfl) (s_i2l (s_getI ck5 4 (by decide) rfl (s_aload_n dX7_wrongRow_105 rfl rfl) dX7_wrongRow_106 w1_144) dX7_wrongRow_109) dX7_wrongRow_110) dX7_wrongRow_111 rfl)) (t_ret (cv := cvI) (fun _ _ => rfl) (s_bipush dX7_wrongRow_114 rfl) dX7_wrongRow_116) (t_skip (ld_in rfl) rfl) lda_nil (lda_cons (ld_in rfl) lda_nil)))) (t_iinc dX7_wrongRow_117 rfl rfl rfl rfl) (lda_cons (ld_in rfl) lda_nil) lda_nil (lda_cons (ld_goto (y := 51) dX7_wrongRow_120 rfl (ld_in rfl)) lda_nil) (ld_in rfl) lda_nil
noncomputable def BX7_wrongRow : Sm Int32 := (dSeq (dIf (dOr (dNot (dCZ q_ne (dCallV 8 DX8_isSlot (aI (aR aN 0 (vR 2)) 1 (vI 3))))) (dNot (dCZ q_ne (dCallV 5 DX5_isSlate (aI (aR aN 0 (vR 1)) 1 (vI 4)))))) (dRet (cI (-2))) dSkip) (dSeq (dIf (dNot (dCZ q_ne (dCallV 8 DX8_hasRow (aI (aR aN 0 (vR 2)) 1 (vI 3))))) (dRet (cI (-6))) dSkip) (dSeq (dSetI 5 (dCallV 8 DX8_sizeOf (aI (aR aN 0 (vR 2)) 1 (vI 3)))) (dSeq (dIf (dCZ q_ne (d2z o_irem (vI 5) (cI 2))) (dRet (cI (-2))) dSkip) (dSeq (dSeq (dSetI 6 (cI 0)) LX7_wrongRow_1) (dRet (cI 0)))))))
theorem sBX7_wrongRow : SS (cvoI, .ireturn) miX7_wrongRow [] [] [] [(0, 2), (1, 2), (2, 2), (3, 0), (4, 0)] [(0, 2), (1, 2), (2, 2), (3, 0), (4, 0)] 0 [] BX7_wrongRow := (t_sq (p1 := 20) (Γ' := [(0, 2), (1, 2), (2, 2), (3, 0), (4, 0)]) (t_if (pT := 17) (pF := 20) (X := [20]) (XA := []) (XB := [20]) (c_or (p1 := 8) (pT := 17) (pF := 20) (c_not (pT := 17) (pF := 8) (c_ne_ZF (pF := 17) (s_of_xI (x_callV (ts := [(0, 2), (1, 0)]) ck8 rfl kX8_isSlot mokX8_isSlot w4_59 w4_60 rfl rfl rfl rfl (a_I (ts := [(0, 2)]) 1 (a_R (ts := []) 0 a_nil (s_aload_n dX7_wrongRow_0 rfl rfl) rfl) (s_iload_n dX7_wrongRow_1 rfl rfl) rfl) dX7_wrongRow_2 w4_58)) dX7_wrongRow_5 rfl)) (c_not (pT := 17) (pF := 20) (c_ne_ZJ (pT := 20) (s_of_xI (x_callV (ts := [(0, 2), (1, 0)]) ck5 rfl kX5_isSlate mokX5_isSlate w3_136 w3_137 rfl rfl rfl rfl (a_I (ts := [(0, 2)]) 1 (a_R (ts := []) 0 a_nil (s_aload_n dX7_wrongRow_8 rfl rfl) rfl) (s_iload dX7_wrongRow_9 rfl) rfl) dX7_wrongRow_11 w4_62)) dX7_wrongRow_14 rfl))) (t_ret (cv := cvI) (fun _ _ => rfl) (s_bipush dX7_wrongRow_17 rfl) dX7_wrongRow_19) (t_skip (ld_in rfl) rfl) lda_nil (lda_cons (ld_in rfl) lda_nil)) (t_sq (p1 := 31) (Γ' := [(0, 2), (1, 2), (2, 2), (3, 0), (4, 0)]) (t_if (pT := 28) (pF := 31) (X := [31]) (XA := []) (XB := [31]) (c_not (pT := 28) (pF := 31) (c_ne_ZJ (pT := 31) (s_of_xI (x_callV (ts := [(0, 2), (1, 0)]) ck8 rfl kX8_hasRow mokX8_hasRow w4_64 w4_65 rfl rfl rfl rfl (a_I (ts := [(0, 2)]) 1 (a_R (ts := []) 0 a_nil (s_aload_n dX7_wrongRow_20 rfl rfl) rfl) (s_iload_n dX7_wrongRow_21 rfl rfl) rfl) dX7_wrongRow_22 w4_63)) dX7_wrongRow_25 rfl)) (t_ret (cv := cvI) (fun _ _ => rfl) (s_bipush dX7_wrongRow_28 rfl) dX7_wrongRow_30) (t_skip (ld_in rfl) rfl) lda_nil (lda_cons (ld_in rfl) lda_nil)) (t_sq (p1 := 38) (Γ' := [(0, 2), (1, 2), (2, 2), (3, 0), (4, 0), (5, 0)]) (t_istore (s_of_xI (x_callV (ts := [(0, 2), (1, 0)]) ck8 rfl kX8_sizeOf mokX8_sizeOf w4_69 w4_70 rfl rfl rfl rfl (a_I (ts := [(0, 2)]) 1 (a_R (ts := []) 0 a_nil (s_aload_n dX7_wrongRow_31 rfl rfl) rfl) (s_iload_n dX7_wrongRow_32 rfl rfl) rfl) dX7_wrongRow_33 w4_68)) dX7_wrongRow_36 rfl rfl) (t_sq (p1 := 48) (Γ' := [(0, 2), (1, 2), (2, 2), (3, 0), (4, 0), (5, 0)]) (t_if (pT := 45) (pF := 48) (X := [48]) (XA := []) (XB := [48]) (c_ne_ZF (pF := 48) (s_irem (s_iload dX7_wrongRow_38 rfl) (s_iconst dX7_wrongRow_40 rfl) dX7_wrongRow_41) dX7_wrongRow_42 rfl) (t_ret (cv := cvI) (fun _ _ => rfl) (s_bipush dX7_wrongRow_45 rfl) dX7_wrongRow_47) (t_skip (ld_in rfl) rfl) lda_nil (lda_cons (ld_in rfl) lda_nil)) (t_sq (p1 := 123) (Γ' := [(0, 2), (1, 2), (2, 2), (3, 0), (4, 0), (5, 0)]) (t_sq (p1 := 51) (Γ' := [(0, 2), (1, 2), (2, 2), (3, 0), (4, 0), (5, 0), (6, 0)]) (t_istore (s_iconst dX7_wrongRow_48 rfl) dX7_wrongRow_49 rfl rfl) (tn_to (Γ' := [(0, 2), (1, 2), (2, 2), (3, 0), (4, 0), (5, 0), (6, 0)]) (XA := [123]) sLX7_wrongRow_1 (lda_cons (ld_in rfl) lda_nil) rfl)) (t_ret (cv := cvI) (fun _ _ => rfl) (s_iconst dX7_wrongRow_123 rfl) dX7_wrongRow_124))))))
noncomputable def DX7_wrongRow : Fr → St → Option (Int32 × St) := M1 (fun f => (sI (sI (sR (sR (sR fr0 0 (gR f 0)) 1 (gR f 1)) 2 (gR f 2)) 3 (gI f 3)) 4 (gI f 4))) BX7_wrongRow
theorem kX7_wrongRow : SND yX7_wrongRow cX7_wrongRow 11 (some .int) 3 [(0, 2), (1, 2), (2, 2), (3, 0), (4, 0)] cvoI DX7_wrongRow := snd_I (nw := 5) (by decide) rfl rfl (fun _ _ => rfl) sBX7_wrongRow
theorem dX11_firsts_0 : decode cX11_firsts 0 = .ok (.aload_n 0, 1) := by decide +kernel
theorem dX11_firsts_1 : decode cX11_firsts 1 = .ok (.getfield 78, 3) := by decide +kernel
theorem dX11_firsts_4 : decode cX11_firsts 4 = .ok (.aload_n 0, 1) := by decide +kernel
theorem dX11_firsts_5 : decode cX11_firsts 5 = .ok (.getfield 26, 3) := by decide +kernel
theorem dX11_firsts_8 : decode cX11_firsts 8 = .ok (.aload_n 0, 1) := by decide +kernel
theorem dX11_firsts_9 : decode cX11_firsts 9 = .ok (.getfield 40, 3) := by decide +kernel
theorem dX11_firsts_12 : decode cX11_firsts 12 = .ok (.iload_n 1, 1) := by decide +kernel
theorem dX11_firsts_13 : decode cX11_firsts 13 = .ok (.iload_n 2, 1) := by decide +kernel
theorem dX11_firsts_14 : decode cX11_firsts 14 = .ok (.invokevirtual 314, 3) := by decide +kernel
theorem dX11_firsts_17 : decode cX11_firsts 17 = .ok (.istore_n 3, 1) := by decide +kernel
theorem dX11_firsts_18 : decode cX11_firsts 18 = .ok (.iload_n 3, 1) := by decide +kernel
theorem dX11_firsts_19 : decode cX11_firsts 19 = .ok (.ifCond .eq 5, 3) := by decide +kernel
theorem dX11_firsts_22 : decode cX11_firsts 22 = .ok (.iload_n 3, 1) := by decide +kernel
theorem dX11_firsts_23 : decode cX11_firsts 23 = .ok (.ireturn, 1) := by decide +kernel
theorem dX11_firsts_24 : decode cX11_firsts 24 = .ok (.aload_n 0, 1) := by decide +kernel
theorem dX11_firsts_25 : decode cX11_firsts 25 = .ok (.getfield 78, 3) := by decide +kernel
theorem dX11_firsts_28 : decode cX11_firsts 28 = .ok (.aload_n 0, 1) := by decide +kernel
theorem dX11_firsts_29 : decode cX11_firsts 29 = .ok (.getfield 26, 3) := by decide +kernel
theorem dX11_firsts_32 : decode cX11_firsts 32 = .ok (.aload_n 0, 1) := by decide +kernel
theorem dX11_firsts_33 : decode cX11_firsts 33 = .ok (.getfield 40, 3) := by decide +kernel
theorem dX11_firsts_36 : decode cX11_firsts 36 = .ok (.iload_n 1, 1) := by decide +kernel
theorem dX11_firsts_37 : decode cX11_firsts 37 = .ok (.iload_n 2, 1) := by decide +kernel
theorem dX11_firsts_38 : decode cX11_firsts 38 = .ok (.aload_n 0, 1) := by decide +kernel
theorem dX11_firsts_39 : decode cX11_firsts 39 = .ok (.getfield 51, 3) := by decide +kernel
theorem dX11_firsts_42 : decode cX11_firsts 42 = .ok (.invokevirtual 318, 3) := by decide +kernel
theorem dX11_firsts_45 : decode cX11_firsts 45 = .ok (.aload_n 0, 1) := by decide +kernel
theorem dX11_firsts_46 : decode cX11_firsts 46 = .ok (.getfield 78, 3) := by decide +kernel
theorem dX11_firsts_49 : decode cX11_firsts 49 = .ok (.getfield 322, 3) := by decide +kernel
theorem dX11_firsts_52 : decode cX11_firsts 52 = .ok (.ireturn, 1) := by decide +kernel
theorem mokX11_firsts : MOK yX11_firsts cX11_firsts 4 (some .int) 2 := ⟨w4_53, w1_1, ⟨by decide, by decide⟩, by decide +kernel, by decide⟩
abbrev miX11_firsts : MI := (yX11_firsts.cls, cX11_firsts, 4, 8, false)
noncomputable def BX11_firsts : Sm Int32 := (dSeq (dSetI 3 (dCallV 7 DX7_wrongRow (aI (aI (aR (aR (aR aN 0 (dGR 11 11 (vR 0))) 1 (dGR 11 2 (vR 0))) 2 (dGR 11 5 (vR 0))) 3 (vI 1)) 4 (vI 2)))) (dSeq (dIf (dCZ q_ne (vI 3)) (dRet (vI 3)) dSkip) (dSeq (dDo (dCallV 7 DX7_findFirsts (aR (aI (aI (aR (aR (aR aN 0 (dGR 11 11 (vR 0))) 1 (dGR 11 2 (vR 0))) 2 (dGR 11 5 (vR 0))) 3 (vI 1)) 4 (vI 2)) 5 (dGR 11 7 (vR 0))))) (dRet (dGI 7 0 (dGR 11 11 (vR 0)))))))
theorem sBX11_firsts : SS (cvoI, .ireturn) miX11_firsts [] [] [] [(0, 2), (1, 0), (2, 0)] [(0, 2), (1, 0), (2, 0)] 0 [] BX11_firsts := (t_sq (p1 := 18) (Γ' := [(0, 2), (1, 0), (2, 0), (3, 0)]) (t_istore_n (s_of_xI (x_callV (ts := [(0, 2), (1, 2), (2, 2), (3, 0), (4, 0)]) ck7 rfl kX7_wrongRow mokX7_wrongRow w4_55 w4_56 rfl rfl rfl rfl (a_I (ts := [(0, 2), (1, 2), (2, 2), (3, 0)]) 4 (a_I (ts := [(0, 2), (1, 2), (2, 2)]) 3 (a_R (ts := [(0, 2), (1, 2)]) 2 (a_R (ts := [(0, 2)]) 1 (a_R (ts := []) 0 a_nil (s_getR ck11 11 (by decide) rfl (s_aload_n dX11_firsts_0 rfl rfl) dX11_firsts_1 w2_207) rfl) (s_getR ck11 2 (by decide) rfl (s_aload_n dX11_firsts_4 rfl rfl) dX11_firsts_5 w2_198) rfl) (s_getR ck11 5 (by decide) rfl (s_aload_n dX11_firsts_8 rfl rfl) dX11_firsts_9 w2_201) rfl) (s_iload_n dX11_firsts_12 rfl rfl) rfl) (s_iload_n dX11_firsts_13 rfl rfl) rfl) dX11_firsts_14 w4_54)) dX11_firsts_17 rfl rfl rfl) (t_sq (p1 := 24) (Γ' := [(0, 2), (1, 0), (2, 0), (3, 0)]) (t_if (pT := 22) (pF := 24) (X := [24]) (XA := []) (XB := [24]) (c_ne_ZF (pF := 24) (s_iload_n dX11_firsts_18 rfl rfl) dX11_firsts_19 rfl) (t_ret (cv := cvI) (fun _ _ => rfl) (s_iload_n dX11_firsts_22 rfl rfl) dX11_firsts_23) (t_skip (ld_in rfl) rfl) lda_nil (lda_cons (ld_in rfl) lda_nil)) (t_sq (p1 := 45) (Γ' := [(0, 2), (1, 0), (2, 0), (3, 0)]) (t_do (x_callV (ts := [(0, 2), (1, 2), (2, 2), (3, 0), (4, 0), (5, 2)]) ck7 rfl kX7_findFirsts mokX7_findFirsts w4_77 w4_78 rfl rfl rfl rfl (a_R (ts := [(0, 2), (1, 2), (2, 2), (3, 0), (4, 0)]) 5 (a_I (ts := [(0, 2), (1, 2), (2, 2), (3, 0)]) 4 (a_I (ts := [(0, 2), (1, 2), (2, 2)]) 3 (a_R (ts := [(0, 2), (1, 2)]) 2 (a_R (ts := [(0, 2)]) 1 (a_R (ts := []) 0 a_nil (s_getR ck11 11 (by decide) rfl (s_aload_n dX11_firsts_24 rfl rfl) dX11_firsts_25 w2_207) rfl) (s_getR ck11 2 (by decide) rfl (s_aload_n dX11_firsts_28 rfl rfl) dX11_firsts_29 w2_198) rfl) (s_getR ck11 5 (by decide) rfl (s_aload_n dX11_firsts_32 rfl rfl) dX11_firsts_33 w2_201) rfl) (s_iload_n dX11_firsts_36 rfl rfl) rfl) (s_iload_n dX11_firsts_37 rfl rfl) rfl) (s_getR ck11 7 (by decide) rfl (s_aload_n dX11_firsts_38 rfl rfl) dX11_firsts_39 w2_203) rfl) dX11_firsts_42 w4_76) rfl) (t_ret (cv := cvI) (fun _ _ => rfl) (s_getI ck7 0 (by decide) rfl (s_getR ck11 11 (by decide) rfl (s_aload_n dX11_firsts_45 rfl rfl) dX11_firsts_46 w2_207) dX11_firsts_49 w2_189) dX11_firsts_52))))
noncomputable def DX11_firsts : Fr → St → Option (Int32 × St) := M1 (fun f => (sI (sI (sR fr0 0 (gR f 0)) 1 (gI f 1)) 2 (gI f 2))) BX11_firsts
theorem kX11_firsts : SND yX11_firsts cX11_firsts 4 (some .int) 8 [(0, 2), (1, 0), (2, 0)] cvoI DX11_firsts := snd_I (nw := 3) (by decide) rfl rfl (fun _ _ => rfl) sBX11_firsts
theorem dX2_knownBy_0 : decode cX2_knownBy 0 = .ok (.aload_n 0, 1) := by decide +kernel
theorem dX2_knownBy_1 : decode cX2_knownBy 1 = .ok (.getfield 21, 3) := by decide +kernel
theorem dX2_knownBy_4 : decode cX2_knownBy 4 = .ok (.iload_n 2, 1) := by decide +kernel
theorem dX2_knownBy_5 : decode cX2_knownBy 5 = .ok (.bipush 8, 2) := by decide +kernel
theorem dX2_knownBy_7 : decode cX2_knownBy 7 = .ok (.imul, 1) := by decide +kernel
theorem dX2_knownBy_8 : decode cX2_knownBy 8 = .ok (.iload_n 1, 1) := by decide +kernel
theorem dX2_knownBy_9 : decode cX2_knownBy 9 = .ok (.iadd, 1) := by decide +kernel
theorem dX2_knownBy_10 : decode cX2_knownBy 10 = .ok (.invokestatic 65, 3) := by decide +kernel
theorem dX2_knownBy_13 : decode cX2_knownBy 13 = .ok (.ireturn, 1) := by decide +kernel
theorem mokX2_knownBy : MOK yX2_knownBy cX2_knownBy 3 (some .int) 2 := ⟨w4_116, w1_8, ⟨by decide, by decide⟩, by decide +kernel, by decide⟩
abbrev miX2_knownBy : MI := (yX2_knownBy.cls, cX2_knownBy, 3, 2, false)
noncomputable def BX2_knownBy : Sm Int32 := (dRet (dCall DX11_cell (aI (aR aN 0 (dGR 2 11 (vR 0))) 1 (d2 o_iadd (d2 o_imul (vI 2) (cI 8)) (vI 1)))))
theorem sBX2_knownBy : SS (cvoI, .ireturn) miX2_knownBy [] [] [] [(0, 2), (1, 0), (2, 0)] [(0, 2), (1, 0), (2, 0)] 0 [] BX2_knownBy := (t_ret (cv := cvI) (fun _ _ => rfl) (s_of_xI (x_callN (ts := [(0, 2), (1, 0)]) kX11_cell mokX11_cell w3_26 rfl rfl rfl (a_I (ts := [(0, 2)]) 1 (a_R (ts := []) 0 a_nil (s_getR ck2 11 (by decide) rfl (s_aload_n dX2_knownBy_0 rfl rfl) dX2_knownBy_1 w2_32) rfl) (s_iadd (s_imul (s_iload_n dX2_knownBy_4 rfl rfl) (s_bipush dX2_knownBy_5 rfl) dX2_knownBy_7) (s_iload_n dX2_knownBy_8 rfl rfl) dX2_knownBy_9) rfl) dX2_knownBy_10 nb13)) dX2_knownBy_13)
noncomputable def DX2_knownBy : Fr → St → Option (Int32 × St) := M1 (fun f => (sI (sI (sR fr0 0 (gR f 0)) 1 (gI f 1)) 2 (gI f 2))) BX2_knownBy
theorem kX2_knownBy : SND yX2_knownBy cX2_knownBy 3 (some .int) 2 [(0, 2), (1, 0), (2, 0)] cvoI DX2_knownBy := snd_I (nw := 3) (by decide) rfl rfl (fun _ _ => rfl) sBX2_knownBy
theorem dX11_gainOf_0 : decode cX11_gainOf 0 = .ok (.aload_n 0, 1) := by decide +kernel
theorem dX11_gainOf_1 : decode cX11_gainOf 1 = .ok (.getfield 51, 3) := by decide +kernel
theorem dX11_gainOf_4 : decode cX11_gainOf 4 = .ok (.getfield 332, 3) := by decide +kernel
theorem dX11_gainOf_7 : decode cX11_gainOf 7 = .ok (.iload_n 2, 1) := by decide +kernel
theorem dX11_gainOf_8 : decode cX11_gainOf 8 = .ok (.iload_n 1, 1) := by decide +kernel
theorem dX11_gainOf_9 : decode cX11_gainOf 9 = .ok (.invokevirtual 419, 3) := by decide +kernel
theorem dX11_gainOf_12 : decode cX11_gainOf 12 = .ok (.invokestatic 243, 3) := by decide +kernel
theorem dX11_gainOf_15 : decode cX11_gainOf 15 = .ok (.istore_n 3, 1) := by decide +kernel
theorem dX11_gainOf_16 : decode cX11_gainOf 16 = .ok (.iload_n 3, 1) := by decide +kernel
theorem dX11_gainOf_17 : decode cX11_gainOf 17 = .ok (.aload_n 0, 1) := by decide +kernel
theorem dX11_gainOf_18 : decode cX11_gainOf 18 = .ok (.getfield 51, 3) := by decide +kernel
theorem dX11_gainOf_21 : decode cX11_gainOf 21 = .ok (.getfield 332, 3) := by decide +kernel
theorem dX11_gainOf_24 : decode cX11_gainOf 24 = .ok (.getfield 458, 3) := by decide +kernel
theorem dX11_gainOf_27 : decode cX11_gainOf 27 = .ok (.iload_n 2, 1) := by decide +kernel
theorem dX11_gainOf_28 : decode cX11_gainOf 28 = .ok (.invokestatic 286, 3) := by decide +kernel
theorem dX11_gainOf_31 : decode cX11_gainOf 31 = .ok (.ifCond .eq 7, 3) := by decide +kernel
theorem dX11_gainOf_34 : decode cX11_gainOf 34 = .ok (.iconst 2, 1) := by decide +kernel
theorem dX11_gainOf_35 : decode cX11_gainOf 35 = .ok (.goto 4, 3) := by decide +kernel
theorem dX11_gainOf_38 : decode cX11_gainOf 38 = .ok (.iconst 0, 1) := by decide +kernel
theorem dX11_gainOf_39 : decode cX11_gainOf 39 = .ok (.iadd, 1) := by decide +kernel
theorem dX11_gainOf_40 : decode cX11_gainOf 40 = .ok (.ireturn, 1) := by decide +kernel
theorem mokX11_gainOf : MOK yX11_gainOf cX11_gainOf 4 (some .int) 2 := ⟨w4_112, w1_1, ⟨by decide, by decide⟩, by decide +kernel, by decide⟩
abbrev miX11_gainOf : MI := (yX11_gainOf.cls, cX11_gainOf, 4, 3, false)
noncomputable def BX11_gainOf : Sm Int32 := (dSeq (dSetI 3 (dCall DJ6_bitCount_0f7a4 (aI aN 0 (dCallV 2 DX2_knownBy (aI (aI (aR aN 0 (dGR 3 1 (dGR 11 7 (vR 0)))) 1 (vI 2)) 2 (vI 1)))))) (dRet (d2 o_iadd (vI 3) (dT (dCZ q_ne (dCall DX11_hasBit (aI (aI aN 0 (dGI 2 2 (dGR 3 1 (dGR 11 7 (vR 0))))) 1 (vI 2)))) (cI 2) (cI 0)))))
theorem sBX11_gainOf : SS (cvoI, .ireturn) miX11_gainOf [] [] [] [(0, 2), (1, 0), (2, 0)] [(0, 2), (1, 0), (2, 0)] 0 [] BX11_gainOf := (t_sq (p1 := 16) (Γ' := [(0, 2), (1, 0), (2, 0), (3, 0)]) (t_istore_n (s_of_xI (x_call (ts := [(0, 0)]) kJ6_bitCount_0f7a4 mokJ6_bitCount_0f7a4 w3_208 rfl rfl rfl (a_I (ts := []) 0 a_nil (s_of_xI (x_callV (ts := [(0, 2), (1, 0), (2, 0)]) ck2 rfl kX2_knownBy mokX2_knownBy w4_114 w4_115 rfl rfl rfl rfl (a_I (ts := [(0, 2), (1, 0)]) 2 (a_I (ts := [(0, 2)]) 1 (a_R (ts := []) 0 a_nil (s_getR ck3 1 (by decide) rfl (s_getR ck11 7 (by decide) rfl (s_aload_n dX11_gainOf_0 rfl rfl) dX11_gainOf_1 w2_203) dX11_gainOf_4 w2_72) rfl) (s_iload_n dX11_gainOf_7 rfl rfl) rfl) (s_iload_n dX11_gainOf_8 rfl rfl) rfl) dX11_gainOf_9 w4_113)) rfl) dX11_gainOf_12 w4_38)) dX11_gainOf_15 rfl rfl rfl) (t_ret (cv := cvI) (fun _ _ => rfl) (s_iadd (s_iload_n dX11_gainOf_16 rfl rfl) (s_T (pT := 34) (pF := 38) (p1 := 35) (pe := 39) (c_ne_ZF (pF := 38) (s_of_xI (x_call (ts := [(0, 0), (1, 0)]) kX11_hasBit mokX11_hasBit w3_16 rfl rfl rfl (a_I (ts := [(0, 0)]) 1 (a_I (ts := []) 0 a_nil (s_getI ck2 2 (by decide) rfl (s_getR ck3 1 (by decide) rfl (s_getR ck11 7 (by decide) rfl (s_aload_n dX11_gainOf_17 rfl rfl) dX11_gainOf_18 w2_203) dX11_gainOf_21 w2_72) dX11_gainOf_24 w2_15) rfl) (s_iload_n dX11_gainOf_27 rfl rfl) rfl) dX11_gainOf_28 w4_117)) dX11_gainOf_31 rfl) (s_iconst dX11_gainOf_34 rfl) (s_iconst dX11_gainOf_38 rfl) (ld_goto (y := 39) dX11_gainOf_35 rfl (ld_in rfl))) dX11_gainOf_39) dX11_gainOf_40))
noncomputable def DX11_gainOf : Fr → St → Option (Int32 × St) := M1 (fun f => (sI (sI (sR fr0 0 (gR f 0)) 1 (gI f 1)) 2 (gI f 2))) BX11_gainOf
theorem kX11_gainOf : SND yX11_gainOf cX11_gainOf 4 (some .int) 3 [(0, 2), (1, 0), (2, 0)] cvoI DX11_gainOf := snd_I (nw := 3) (by decide) rfl rfl (fun _ _ => rfl) sBX11_gainOf
theorem dX11_isChoice_0 : decode cX11_isChoice 0 = .ok (.iload_n 0, 1) := by decide +kernel
theorem dX11_isChoice_1 : decode cX11_isChoice 1 = .ok (.ifCond .eq 8, 3) := by decide +kernel
theorem dX11_isChoice_4 : decode cX11_isChoice 4 = .ok (.iload_n 0, 1) := by decide +kernel
theorem dX11_isChoice_5 : decode cX11_isChoice 5 = .ok (.iconst 1, 1) := by decide +kernel
theorem dX11_isChoice_6 : decode cX11_isChoice 6 = .ok (.if_icmp .ne 7, 3) := by decide +kernel
theorem dX11_isChoice_9 : decode cX11_isChoice 9 = .ok (.iconst 1, 1) := by decide +kernel
theorem dX11_isChoice_10 : decode cX11_isChoice 10 = .ok (.goto 4, 3) := by decide +kernel
theorem dX11_isChoice_13 : decode cX11_isChoice 13 = .ok (.iconst 0, 1) := by decide +kernel
theorem dX11_isChoice_14 : decode cX11_isChoice 14 = .ok (.ireturn, 1) := by decide +kernel
theorem mokX11_isChoice : MOK yX11_isChoice cX11_isChoice 1 (some .boolean) 1 := ⟨w4_98, w1_1, ⟨by decide, by decide⟩, by decide +kernel, by decide⟩
abbrev miX11_isChoice : MI := (yX11_isChoice.cls, cX11_isChoice, 1, 1, false)
noncomputable def BX11_isChoice : Sm Int32 := (dRet (dB (dOr (dCZ q_eq (vI 0)) (dCI r_eq (vI 0) (cI 1)))))
theorem sBX11_isChoice : SS (cvoI, .ireturn) miX11_isChoice [] [] [] [(0, 0)] [(0, 0)] 0 [] BX11_isChoice := (t_ret (cv := cvI) (fun _ _ => rfl) (s_B (pT := 9) (pF := 13) (pe := 14) (c_or (p1 := 4) (pT := 9) (pF := 13) (c_eq_ZJ (pT := 9) (s_iload_n dX11_isChoice_0 rfl rfl) dX11_isChoice_1 rfl) (c_eq_F (pF := 13) (s_iload_n dX11_isChoice_4 rfl rfl) (s_iconst dX11_isChoice_5 rfl) dX11_isChoice_6 rfl)) dX11_isChoice_9 dX11_isChoice_10 rfl dX11_isChoice_13 rfl) dX11_isChoice_14)
noncomputable def DX11_isChoice : Fr → St → Option (Int32 × St) := MZ (fun f => (sI fr0 0 (gI f 0))) BX11_isChoice
theorem kX11_isChoice : SND yX11_isChoice cX11_isChoice 1 (some .boolean) 1 [(0, 0)] cvoI DX11_isChoice := snd_Z (nw := 1) (by decide) rfl rfl (fun _ _ => rfl) sBX11_isChoice
theorem dX11_isGame_0 : decode cX11_isGame 0 = .ok (.aload_n 0, 1) := by decide +kernel
theorem dX11_isGame_1 : decode cX11_isGame 1 = .ok (.getfield 26, 3) := by decide +kernel
theorem dX11_isGame_4 : decode cX11_isGame 4 = .ok (.iload_n 1, 1) := by decide +kernel
theorem dX11_isGame_5 : decode cX11_isGame 5 = .ok (.invokevirtual 140, 3) := by decide +kernel
theorem dX11_isGame_8 : decode cX11_isGame 8 = .ok (.ifCond .eq 24, 3) := by decide +kernel
theorem dX11_isGame_11 : decode cX11_isGame 11 = .ok (.aload_n 0, 1) := by decide +kernel
theorem dX11_isGame_12 : decode cX11_isGame 12 = .ok (.getfield 26, 3) := by decide +kernel
theorem dX11_isGame_15 : decode cX11_isGame 15 = .ok (.iload_n 2, 1) := by decide +kernel
theorem dX11_isGame_16 : decode cX11_isGame 16 = .ok (.iload_n 3, 1) := by decide +kernel
theorem dX11_isGame_17 : decode cX11_isGame 17 = .ok (.invokevirtual 154, 3) := by decide +kernel
theorem dX11_isGame_20 : decode cX11_isGame 20 = .ok (.ifCond .eq 12, 3) := by decide +kernel
theorem dX11_isGame_23 : decode cX11_isGame 23 = .ok (.iload_n 2, 1) := by decide +kernel
theorem dX11_isGame_24 : decode cX11_isGame 24 = .ok (.iload_n 3, 1) := by decide +kernel
theorem dX11_isGame_25 : decode cX11_isGame 25 = .ok (.if_icmp .eq 7, 3) := by decide +kernel
theorem dX11_isGame_28 : decode cX11_isGame 28 = .ok (.iconst 1, 1) := by decide +kernel
theorem dX11_isGame_29 : decode cX11_isGame 29 = .ok (.goto 4, 3) := by decide +kernel
theorem dX11_isGame_32 : decode cX11_isGame 32 = .ok (.iconst 0, 1) := by decide +kernel
theorem dX11_isGame_33 : decode cX11_isGame 33 = .ok (.ireturn, 1) := by decide +kernel
theorem mokX11_isGame : MOK yX11_isGame cX11_isGame 4 (some .boolean) 3 := ⟨w4_95, w1_1, ⟨by decide, by decide⟩, by decide +kernel, by decide⟩
abbrev miX11_isGame : MI := (yX11_isGame.cls, cX11_isGame, 4, 3, false)
noncomputable def BX11_isGame : Sm Int32 := (dRet (dB (dAnd (dAnd (dCZ q_ne (dCallV 5 DX5_isSlate (aI (aR aN 0 (dGR 11 2 (vR 0))) 1 (vI 1)))) (dCZ q_ne (dCallV 5 DX5_areHouses (aI (aI (aR aN 0 (dGR 11 2 (vR 0))) 1 (vI 2)) 2 (vI 3))))) (dCI r_ne (vI 2) (vI 3)))))
theorem sBX11_isGame : SS (cvoI, .ireturn) miX11_isGame [] [] [] [(0, 2), (1, 0), (2, 0), (3, 0)] [(0, 2), (1, 0), (2, 0), (3, 0)] 0 [] BX11_isGame := (t_ret (cv := cvI) (fun _ _ => rfl) (s_B (pT := 28) (pF := 32) (pe := 33) (c_and (p1 := 23) (pT := 28) (pF := 32) (c_and (p1 := 11) (pT := 23) (pF := 32) (c_ne_ZF (pF := 32) (s_of_xI (x_callV (ts := [(0, 2), (1, 0)]) ck5 rfl kX5_isSlate mokX5_isSlate w3_136 w3_137 rfl rfl rfl rfl (a_I (ts := [(0, 2)]) 1 (a_R (ts := []) 0 a_nil (s_getR ck11 2 (by decide) rfl (s_aload_n dX11_isGame_0 rfl rfl) dX11_isGame_1 w2_198) rfl) (s_iload_n dX11_isGame_4 rfl rfl) rfl) dX11_isGame_5 w3_135)) dX11_isGame_8 rfl) (c_ne_ZF (pF := 32) (s_of_xI (x_callV (ts := [(0, 2), (1, 0), (2, 0)]) ck5 rfl kX5_areHouses mokX5_areHouses w3_4 w3_5 rfl rfl rfl rfl (a_I (ts := [(0, 2), (1, 0)]) 2 (a_I (ts := [(0, 2)]) 1 (a_R (ts := []) 0 a_nil (s_getR ck11 2 (by decide) rfl (s_aload_n dX11_isGame_11 rfl rfl) dX11_isGame_12 w2_198) rfl) (s_iload_n dX11_isGame_15 rfl rfl) rfl) (s_iload_n dX11_isGame_16 rfl rfl) rfl) dX11_isGame_17 w3_3)) dX11_isGame_20 rfl)) (c_ne_F (pF := 32) (s_iload_n dX11_isGame_23 rfl rfl) (s_iload_n dX11_isGame_24 rfl rfl) dX11_isGame_25 rfl)) dX11_isGame_28 dX11_isGame_29 rfl dX11_isGame_32 rfl) dX11_isGame_33)
noncomputable def DX11_isGame : Fr → St → Option (Int32 × St) := MZ (fun f => (sI (sI (sI (sR fr0 0 (gR f 0)) 1 (gI f 1)) 2 (gI f 2)) 3 (gI f 3))) BX11_isGame
theorem kX11_isGame : SND yX11_isGame cX11_isGame 4 (some .boolean) 3 [(0, 2), (1, 0), (2, 0), (3, 0)] cvoI DX11_isGame := snd_Z (nw := 4) (by decide) rfl rfl (fun _ _ => rfl) sBX11_isGame
theorem dX2_runThrough_0 : decode cX2_runThrough 0 = .ok (.aload_n 0, 1) := by decide +kernel
theorem dX2_runThrough_1 : decode cX2_runThrough 1 = .ok (.aload_n 1, 1) := by decide +kernel
theorem dX2_runThrough_2 : decode cX2_runThrough 2 = .ok (.invokevirtual 111, 3) := by decide +kernel
theorem dX2_runThrough_5 : decode cX2_runThrough 5 = .ok (.iconst 0, 1) := by decide +kernel
theorem dX2_runThrough_6 : decode cX2_runThrough 6 = .ok (.istore_n 2, 1) := by decide +kernel
theorem dX2_runThrough_7 : decode cX2_runThrough 7 = .ok (.iload_n 2, 1) := by decide +kernel
theorem dX2_runThrough_8 : decode cX2_runThrough 8 = .ok (.aload_n 1, 1) := by decide +kernel
theorem dX2_runThrough_9 : decode cX2_runThrough 9 = .ok (.getfield 115, 3) := by decide +kernel
theorem dX2_runThrough_12 : decode cX2_runThrough 12 = .ok (.if_icmp .ge 15, 3) := by decide +kernel
theorem dX2_runThrough_15 : decode cX2_runThrough 15 = .ok (.aload_n 0, 1) := by decide +kernel
theorem dX2_runThrough_16 : decode cX2_runThrough 16 = .ok (.aload_n 1, 1) := by decide +kernel
theorem dX2_runThrough_17 : decode cX2_runThrough 17 = .ok (.iload_n 2, 1) := by decide +kernel
theorem dX2_runThrough_18 : decode cX2_runThrough 18 = .ok (.invokevirtual 118, 3) := by decide +kernel
theorem dX2_runThrough_21 : decode cX2_runThrough 21 = .ok (.iinc 2 1, 3) := by decide +kernel
theorem dX2_runThrough_24 : decode cX2_runThrough 24 = .ok (.goto (-17), 3) := by decide +kernel
theorem dX2_runThrough_27 : decode cX2_runThrough 27 = .ok (.return_, 1) := by decide +kernel
theorem mokX2_runThrough : MOK yX2_runThrough cX2_runThrough 3 none 1 := ⟨w4_106, w1_8, ⟨by decide, by decide⟩, by decide +kernel, by decide⟩
abbrev miX2_runThrough : MI := (yX2_runThrough.cls, cX2_runThrough, 3, 6, false)
noncomputable def LX2_runThrough_1 : Sm Unit := dLoop (fun f => (sI (sR (sR fr0 0 (gR f 0)) 1 (gR f 1)) 2 (gI f 2))) (dCI r_lt (vI 2) (dGI 5 1 (vR 1))) (dDo (dCallV 2 DX2_passDay (aI (aR (aR aN 0 (vR 0)) 1 (vR 1)) 2 (vI 2)))) (dInc 2 1)
theorem sLX2_runThrough_1 {ΓL : Gm} {PB PK : List Nat} : SS (cvoV, .return_) miX2_runThrough ΓL PB PK [(0, 2), (1, 2), (2, 0)] [(0, 2), (1, 2), (2, 0)] 7 [27] LX2_runThrough_1 := t_loop (pT := 15) (pF := 27) (pu := 21) (PB' := []) (PK' := []) (XB := [21]) (XU := [24]) (fun _ _ => rfl) rfl (c_lt_F (pF := 27) (s_iload_n dX2_runThrough_7 rfl rfl) (s_getI ck5 1 (by decide) rfl (s_aload_n dX2_runThrough_8 rfl rfl) dX2_runThrough_9 w1_131) dX2_runThrough_12 rfl) (t_do (x_callV (ts := [(0, 2), (1, 2), (2, 0)]) ck2 rfl kX2_passDay mokX2_passDay w3_88 w3_89 rfl rfl rfl rfl (a_I (ts := [(0, 2), (1, 2)]) 2 (a_R (ts := [(0, 2)]) 1 (a_R (ts := []) 0 a_nil (s_aload_n dX2_runThrough_15 rfl rfl) rfl) (s_aload_n dX2_runThrough_16 rfl rfl) rfl) (s_iload_n dX2_runThrough_17 rfl rfl) rfl) dX2_runThrough_18 w4_108) rfl) (t_iinc dX2_runThrough_21 rfl rfl rfl rfl) (lda_cons (ld_in rfl) lda_nil) lda_nil (lda_cons (ld_goto (y := 7) dX2_runThrough_24 rfl (ld_in rfl)) lda_nil) (ld_in rfl) lda_nil
noncomputable def BX2_runThrough : Sm Unit := (dSeq (dDo (dCallV 2 DX2_begin (aR (aR aN 0 (vR 0)) 1 (vR 1)))) (dSeq (dSeq (dSetI 2 (cI 0)) LX2_runThrough_1) dRet0))
theorem sBX2_runThrough : SS (cvoV, .return_) miX2_runThrough [] [] [] [(0, 2), (1, 2)] [(0, 2), (1, 2)] 0 [] BX2_runThrough := (t_sq (p1 := 5) (Γ' := [(0, 2), (1, 2)]) (t_do (x_callV (ts := [(0, 2), (1, 2)]) ck2 rfl kX2_begin mokX2_begin w3_57 w3_58 rfl rfl rfl rfl (a_R (ts := [(0, 2)]) 1 (a_R (ts := []) 0 a_nil (s_aload_n dX2_runThrough_0 rfl rfl) rfl) (s_aload_n dX2_runThrough_1 rfl rfl) rfl) dX2_runThrough_2 w4_107) rfl) (t_sq (p1 := 27) (Γ' := [(0, 2), (1, 2)]) (t_sq (p1 := 7) (Γ' := [(0, 2), (1, 2), (2, 0)]) (t_istore_n (s_iconst dX2_runThrough_5 rfl) dX2_runThrough_6 rfl rfl rfl) (tn_to (Γ' := [(0, 2), (1, 2), (2, 0)]) (XA := [27]) sLX2_runThrough_1 (lda_cons (ld_in rfl) lda_nil) rfl)) (t_ret0 (fun _ _ => rfl) dX2_runThrough_27)))
noncomputable def DX2_runThrough : Fr → St → Option (Unit × St) := M1 (fun f => (sR (sR fr0 0 (gR f 0)) 1 (gR f 1))) BX2_runThrough
theorem kX2_runThrough : SND yX2_runThrough cX2_runThrough 3 none 6 [(0, 2), (1, 2)] cvoV DX2_runThrough := snd_V (nw := 2) (by decide) (fun z => by cases z) rfl rfl (fun _ _ => rfl) sBX2_runThrough
theorem dX11_shutBy_0 : decode cX11_shutBy 0 = .ok (.aload_n 0, 1) := by decide +kernel
theorem dX11_shutBy_1 : decode cX11_shutBy 1 = .ok (.getfield 51, 3) := by decide +kernel
theorem dX11_shutBy_4 : decode cX11_shutBy 4 = .ok (.getfield 332, 3) := by decide +kernel
theorem dX11_shutBy_7 : decode cX11_shutBy 7 = .ok (.aload_n 0, 1) := by decide +kernel
theorem dX11_shutBy_8 : decode cX11_shutBy 8 = .ok (.getfield 26, 3) := by decide +kernel
theorem dX11_shutBy_11 : decode cX11_shutBy 11 = .ok (.invokevirtual 336, 3) := by decide +kernel
theorem dX11_shutBy_14 : decode cX11_shutBy 14 = .ok (.aload_n 0, 1) := by decide +kernel
theorem dX11_shutBy_15 : decode cX11_shutBy 15 = .ok (.getfield 51, 3) := by decide +kernel
theorem dX11_shutBy_18 : decode cX11_shutBy 18 = .ok (.getfield 332, 3) := by decide +kernel
theorem dX11_shutBy_21 : decode cX11_shutBy 21 = .ok (.iload_n 2, 1) := by decide +kernel
theorem dX11_shutBy_22 : decode cX11_shutBy 22 = .ok (.ifCond .ne 7, 3) := by decide +kernel
theorem dX11_shutBy_25 : decode cX11_shutBy 25 = .ok (.iconst 0, 1) := by decide +kernel
theorem dX11_shutBy_26 : decode cX11_shutBy 26 = .ok (.goto 6, 3) := by decide +kernel
theorem dX11_shutBy_29 : decode cX11_shutBy 29 = .ok (.iconst 1, 1) := by decide +kernel
theorem dX11_shutBy_30 : decode cX11_shutBy 30 = .ok (.iload_n 1, 1) := by decide +kernel
theorem dX11_shutBy_31 : decode cX11_shutBy 31 = .ok (.ishl, 1) := by decide +kernel
theorem dX11_shutBy_32 : decode cX11_shutBy 32 = .ok (.iload 4, 2) := by decide +kernel
theorem dX11_shutBy_34 : decode cX11_shutBy 34 = .ok (.ifCond .ne 7, 3) := by decide +kernel
theorem dX11_shutBy_37 : decode cX11_shutBy 37 = .ok (.iconst 0, 1) := by decide +kernel
theorem dX11_shutBy_38 : decode cX11_shutBy 38 = .ok (.goto 6, 3) := by decide +kernel
theorem dX11_shutBy_41 : decode cX11_shutBy 41 = .ok (.iconst 1, 1) := by decide +kernel
theorem dX11_shutBy_42 : decode cX11_shutBy 42 = .ok (.iload_n 3, 1) := by decide +kernel
theorem dX11_shutBy_43 : decode cX11_shutBy 43 = .ok (.ishl, 1) := by decide +kernel
theorem dX11_shutBy_44 : decode cX11_shutBy 44 = .ok (.ior, 1) := by decide +kernel
theorem dX11_shutBy_45 : decode cX11_shutBy 45 = .ok (.putfield 458, 3) := by decide +kernel
theorem dX11_shutBy_48 : decode cX11_shutBy 48 = .ok (.aload_n 0, 1) := by decide +kernel
theorem dX11_shutBy_49 : decode cX11_shutBy 49 = .ok (.getfield 51, 3) := by decide +kernel
theorem dX11_shutBy_52 : decode cX11_shutBy 52 = .ok (.getfield 332, 3) := by decide +kernel
theorem dX11_shutBy_55 : decode cX11_shutBy 55 = .ok (.aload_n 0, 1) := by decide +kernel
theorem dX11_shutBy_56 : decode cX11_shutBy 56 = .ok (.getfield 26, 3) := by decide +kernel
theorem dX11_shutBy_59 : decode cX11_shutBy 59 = .ok (.invokevirtual 452, 3) := by decide +kernel
theorem dX11_shutBy_62 : decode cX11_shutBy 62 = .ok (.return_, 1) := by decide +kernel
theorem mokX11_shutBy : MOK yX11_shutBy cX11_shutBy 5 none 4 := ⟨w4_102, w1_1, ⟨by decide, by decide⟩, by decide +kernel, by decide⟩
abbrev miX11_shutBy : MI := (yX11_shutBy.cls, cX11_shutBy, 5, 7, false)
noncomputable def BX11_shutBy : Sm Unit := (dSeq (dDo (dCallV 2 DX2_setAsTold (aR (aR aN 0 (dGR 3 1 (dGR 11 7 (vR 0)))) 1 (dGR 11 2 (vR 0))))) (dSeq (dP (fI 2 2) (dGR 3 1 (dGR 11 7 (vR 0))) (d2 o_ior (dT (dCZ q_eq (vI 2)) (cI 0) (d2 o_ishl (cI 1) (vI 1))) (dT (dCZ q_eq (vI 4)) (cI 0) (d2 o_ishl (cI 1) (vI 3))))) (dSeq (dDo (dCallV 2 DX2_runThrough (aR (aR aN 0 (dGR 3 1 (dGR 11 7 (vR 0)))) 1 (dGR 11 2 (vR 0))))) dRet0)))
theorem sBX11_shutBy : SS (cvoV, .return_) miX11_shutBy [] [] [] [(0, 2), (1, 0), (2, 0), (3, 0), (4, 0)] [(0, 2), (1, 0), (2, 0), (3, 0), (4, 0)] 0 [] BX11_shutBy := (t_sq (p1 := 14) (Γ' := [(0, 2), (1, 0), (2, 0), (3, 0), (4, 0)]) (t_do (x_callV (ts := [(0, 2), (1, 2)]) ck2 rfl kX2_setAsTold mokX2_setAsTold w3_49 w3_50 rfl rfl rfl rfl (a_R (ts := [(0, 2)]) 1 (a_R (ts := []) 0 a_nil (s_getR ck3 1 (by decide) rfl (s_getR ck11 7 (by decide) rfl (s_aload_n dX11_shutBy_0 rfl rfl) dX11_shutBy_1 w2_203) dX11_shutBy_4 w2_72) rfl) (s_getR ck11 2 (by decide) rfl (s_aload_n dX11_shutBy_7 rfl rfl) dX11_shutBy_8 w2_198) rfl) dX11_shutBy_11 w3_48) rfl) (t_sq (p1 := 48) (Γ' := [(0, 2), (1, 0), (2, 0), (3, 0), (4, 0)]) (t_pI ck2 2 (by decide) rfl (Or.inl rfl) (s_getR ck3 1 (by decide) rfl (s_getR ck11 7 (by decide) rfl (s_aload_n dX11_shutBy_14 rfl rfl) dX11_shutBy_15 w2_203) dX11_shutBy_18 w2_72) (s_ior (s_T (pT := 25) (pF := 29) (p1 := 26) (pe := 32) (c_eq_ZF (pF := 29) (s_iload_n dX11_shutBy_21 rfl rfl) dX11_shutBy_22 rfl) (s_iconst dX11_shutBy_25 rfl) (s_ishl (s_iconst dX11_shutBy_29 rfl) (s_iload_n dX11_shutBy_30 rfl rfl) dX11_shutBy_31) (ld_goto (y := 32) dX11_shutBy_26 rfl (ld_in rfl))) (s_T (pT := 37) (pF := 41) (p1 := 38) (pe := 44) (c_eq_ZF (pF := 41) (s_iload dX11_shutBy_32 rfl) dX11_shutBy_34 rfl) (s_iconst dX11_shutBy_37 rfl) (s_ishl (s_iconst dX11_shutBy_41 rfl) (s_iload_n dX11_shutBy_42 rfl rfl) dX11_shutBy_43) (ld_goto (y := 44) dX11_shutBy_38 rfl (ld_in rfl))) dX11_shutBy_44) dX11_shutBy_45 w2_15 rfl) (t_sq (p1 := 62) (Γ' := [(0, 2), (1, 0), (2, 0), (3, 0), (4, 0)]) (t_do (x_callV (ts := [(0, 2), (1, 2)]) ck2 rfl kX2_runThrough mokX2_runThrough w4_104 w4_105 rfl rfl rfl rfl (a_R (ts := [(0, 2)]) 1 (a_R (ts := []) 0 a_nil (s_getR ck3 1 (by decide) rfl (s_getR ck11 7 (by decide) rfl (s_aload_n dX11_shutBy_48 rfl rfl) dX11_shutBy_49 w2_203) dX11_shutBy_52 w2_72) rfl) (s_getR ck11 2 (by decide) rfl (s_aload_n dX11_shutBy_55 rfl rfl) dX11_shutBy_56 w2_198) rfl) dX11_shutBy_59 w4_103) rfl) (t_ret0 (fun _ _ => rfl) dX11_shutBy_62))))
noncomputable def DX11_shutBy : Fr → St → Option (Unit × St) := M1 (fun f => (sI (sI (sI (sI (sR fr0 0 (gR f 0)) 1 (gI f 1)) 2 (gI f 2)) 3 (gI f 3)) 4 (gI f 4))) BX11_shutBy
theorem kX11_shutBy : SND yX11_shutBy cX11_shutBy 5 none 7 [(0, 2), (1, 0), (2, 0), (3, 0), (4, 0)] cvoV DX11_shutBy := snd_V (nw := 5) (by decide) (fun z => by cases z) rfl rfl (fun _ _ => rfl) sBX11_shutBy
theorem dX11_gets_0 : decode cX11_gets 0 = .ok (.aload_n 0, 1) := by decide +kernel
theorem dX11_gets_1 : decode cX11_gets 1 = .ok (.iload_n 1, 1) := by decide +kernel
theorem dX11_gets_2 : decode cX11_gets 2 = .ok (.iload_n 2, 1) := by decide +kernel
theorem dX11_gets_3 : decode cX11_gets 3 = .ok (.iload_n 3, 1) := by decide +kernel
theorem dX11_gets_4 : decode cX11_gets 4 = .ok (.invokevirtual 354, 3) := by decide +kernel
theorem dX11_gets_7 : decode cX11_gets 7 = .ok (.ifCond .eq 19, 3) := by decide +kernel
theorem dX11_gets_10 : decode cX11_gets 10 = .ok (.iload 4, 2) := by decide +kernel
theorem dX11_gets_12 : decode cX11_gets 12 = .ok (.invokestatic 131, 3) := by decide +kernel
theorem dX11_gets_15 : decode cX11_gets 15 = .ok (.ifCond .eq 11, 3) := by decide +kernel
theorem dX11_gets_18 : decode cX11_gets 18 = .ok (.iload 5, 2) := by decide +kernel
theorem dX11_gets_20 : decode cX11_gets 20 = .ok (.invokestatic 131, 3) := by decide +kernel
theorem dX11_gets_23 : decode cX11_gets 23 = .ok (.ifCond .ne 7, 3) := by decide +kernel
theorem dX11_gets_26 : decode cX11_gets 26 = .ok (.sipush (-1000), 3) := by decide +kernel
theorem dX11_gets_29 : decode cX11_gets 29 = .ok (.ireturn, 1) := by decide +kernel
theorem dX11_gets_30 : decode cX11_gets 30 = .ok (.aload_n 0, 1) := by decide +kernel
theorem dX11_gets_31 : decode cX11_gets 31 = .ok (.iload_n 2, 1) := by decide +kernel
theorem dX11_gets_32 : decode cX11_gets 32 = .ok (.iload 4, 2) := by decide +kernel
theorem dX11_gets_34 : decode cX11_gets 34 = .ok (.iload_n 3, 1) := by decide +kernel
theorem dX11_gets_35 : decode cX11_gets 35 = .ok (.iload 5, 2) := by decide +kernel
theorem dX11_gets_37 : decode cX11_gets 37 = .ok (.invokevirtual 358, 3) := by decide +kernel
theorem dX11_gets_40 : decode cX11_gets 40 = .ok (.aload_n 0, 1) := by decide +kernel
theorem dX11_gets_41 : decode cX11_gets 41 = .ok (.iload_n 1, 1) := by decide +kernel
theorem dX11_gets_42 : decode cX11_gets 42 = .ok (.iload_n 2, 1) := by decide +kernel
theorem dX11_gets_43 : decode cX11_gets 43 = .ok (.invokevirtual 362, 3) := by decide +kernel
theorem dX11_gets_46 : decode cX11_gets 46 = .ok (.ireturn, 1) := by decide +kernel
theorem mokX11_gets : MOK yX11_gets cX11_gets 6 (some .int) 5 := ⟨w4_91, w1_1, ⟨by decide, by decide⟩, by decide +kernel, by decide⟩
abbrev miX11_gets : MI := (yX11_gets.cls, cX11_gets, 6, 8, false)
noncomputable def BX11_gets : Sm Int32 := (dSeq (dIf (dOr (dOr (dNot (dCZ q_ne (dCallV 11 DX11_isGame (aI (aI (aI (aR aN 0 (vR 0)) 1 (vI 1)) 2 (vI 2)) 3 (vI 3))))) (dNot (dCZ q_ne (dCall DX11_isChoice (aI aN 0 (vI 4)))))) (dNot (dCZ q_ne (dCall DX11_isChoice (aI aN 0 (vI 5)))))) (dRet (cI (-1000))) dSkip) (dSeq (dDo (dCallV 11 DX11_shutBy (aI (aI (aI (aI (aR aN 0 (vR 0)) 1 (vI 2)) 2 (vI 4)) 3 (vI 3)) 4 (vI 5)))) (dRet (dCallV 11 DX11_gainOf (aI (aI (aR aN 0 (vR 0)) 1 (vI 1)) 2 (vI 2))))))
theorem sBX11_gets : SS (cvoI, .ireturn) miX11_gets [] [] [] [(0, 2), (1, 0), (2, 0), (3, 0), (4, 0), (5, 0)] [(0, 2), (1, 0), (2, 0), (3, 0), (4, 0), (5, 0)] 0 [] BX11_gets := (t_sq (p1 := 30) (Γ' := [(0, 2), (1, 0), (2, 0), (3, 0), (4, 0), (5, 0)]) (t_if (pT := 26) (pF := 30) (X := [30]) (XA := []) (XB := [30]) (c_or (p1 := 18) (pT := 26) (pF := 30) (c_or (p1 := 10) (pT := 26) (pF := 18) (c_not (pT := 26) (pF := 10) (c_ne_ZF (pF := 26) (s_of_xI (x_callV (ts := [(0, 2), (1, 0), (2, 0), (3, 0)]) ck11 rfl kX11_isGame mokX11_isGame w4_94 ps1_14 rfl rfl rfl rfl (a_I (ts := [(0, 2), (1, 0), (2, 0)]) 3 (a_I (ts := [(0, 2), (1, 0)]) 2 (a_I (ts := [(0, 2)]) 1 (a_R (ts := []) 0 a_nil (s_aload_n dX11_gets_0 rfl rfl) rfl) (s_iload_n dX11_gets_1 rfl rfl) rfl) (s_iload_n dX11_gets_2 rfl rfl) rfl) (s_iload_n dX11_gets_3 rfl rfl) rfl) dX11_gets_4 w4_92)) dX11_gets_7 rfl)) (c_not (pT := 26) (pF := 18) (c_ne_ZF (pF := 26) (s_of_xI (x_call (ts := [(0, 0)]) kX11_isChoice mokX11_isChoice w4_97 rfl rfl rfl (a_I (ts := []) 0 a_nil (s_iload dX11_gets_10 rfl) rfl) dX11_gets_12 w4_96)) dX11_gets_15 rfl))) (c_not (pT := 26) (pF := 30) (c_ne_ZJ (pT := 30) (s_of_xI (x_call (ts := [(0, 0)]) kX11_isChoice mokX11_isChoice w4_97 rfl rfl rfl (a_I (ts := []) 0 a_nil (s_iload dX11_gets_18 rfl) rfl) dX11_gets_20 w4_96)) dX11_gets_23 rfl))) (t_ret (cv := cvI) (fun _ _ => rfl) (s_sipush dX11_gets_26 rfl) dX11_gets_29) (t_skip (ld_in rfl) rfl) lda_nil (lda_cons (ld_in rfl) lda_nil)) (t_sq (p1 := 40) (Γ' := [(0, 2), (1, 0), (2, 0), (3, 0), (4, 0), (5, 0)]) (t_do (x_callV (ts := [(0, 2), (1, 0), (2, 0), (3, 0), (4, 0)]) ck11 rfl kX11_shutBy mokX11_shutBy w4_101 ps1_15 rfl rfl rfl rfl (a_I (ts := [(0, 2), (1, 0), (2, 0), (3, 0)]) 4 (a_I (ts := [(0, 2), (1, 0), (2, 0)]) 3 (a_I (ts := [(0, 2), (1, 0)]) 2 (a_I (ts := [(0, 2)]) 1 (a_R (ts := []) 0 a_nil (s_aload_n dX11_gets_30 rfl rfl) rfl) (s_iload_n dX11_gets_31 rfl rfl) rfl) (s_iload dX11_gets_32 rfl) rfl) (s_iload_n dX11_gets_34 rfl rfl) rfl) (s_iload dX11_gets_35 rfl) rfl) dX11_gets_37 w4_99) rfl) (t_ret (cv := cvI) (fun _ _ => rfl) (s_of_xI (x_callV (ts := [(0, 2), (1, 0), (2, 0)]) ck11 rfl kX11_gainOf mokX11_gainOf w4_111 ps2_0 rfl rfl rfl rfl (a_I (ts := [(0, 2), (1, 0)]) 2 (a_I (ts := [(0, 2)]) 1 (a_R (ts := []) 0 a_nil (s_aload_n dX11_gets_40 rfl rfl) rfl) (s_iload_n dX11_gets_41 rfl rfl) rfl) (s_iload_n dX11_gets_42 rfl rfl) rfl) dX11_gets_43 w4_109)) dX11_gets_46)))
noncomputable def DX11_gets : Fr → St → Option (Int32 × St) := M1 (fun f => (sI (sI (sI (sI (sI (sR fr0 0 (gR f 0)) 1 (gI f 1)) 2 (gI f 2)) 3 (gI f 3)) 4 (gI f 4)) 5 (gI f 5))) BX11_gets
theorem kX11_gets : SND yX11_gets cX11_gets 6 (some .int) 8 [(0, 2), (1, 0), (2, 0), (3, 0), (4, 0), (5, 0)] cvoI DX11_gets := snd_I (nw := 6) (by decide) rfl rfl (fun _ _ => rfl) sBX11_gets
theorem dX1_addAct_0 : decode cX1_addAct 0 = .ok (.aload_n 0, 1) := by decide +kernel
theorem dX1_addAct_1 : decode cX1_addAct 1 = .ok (.getfield 37, 3) := by decide +kernel
theorem dX1_addAct_4 : decode cX1_addAct 4 = .ok (.bipush 20, 2) := by decide +kernel
theorem dX1_addAct_6 : decode cX1_addAct 6 = .ok (.if_icmp .lt 4, 3) := by decide +kernel
theorem dX1_addAct_9 : decode cX1_addAct 9 = .ok (.return_, 1) := by decide +kernel
theorem dX1_addAct_10 : decode cX1_addAct 10 = .ok (.aload_n 0, 1) := by decide +kernel
theorem dX1_addAct_11 : decode cX1_addAct 11 = .ok (.getfield 24, 3) := by decide +kernel
theorem dX1_addAct_14 : decode cX1_addAct 14 = .ok (.aload_n 0, 1) := by decide +kernel
theorem dX1_addAct_15 : decode cX1_addAct 15 = .ok (.getfield 37, 3) := by decide +kernel
theorem dX1_addAct_18 : decode cX1_addAct 18 = .ok (.iload_n 1, 1) := by decide +kernel
theorem dX1_addAct_19 : decode cX1_addAct 19 = .ok (.invokestatic 46, 3) := by decide +kernel
theorem dX1_addAct_22 : decode cX1_addAct 22 = .ok (.aload_n 0, 1) := by decide +kernel
theorem dX1_addAct_23 : decode cX1_addAct 23 = .ok (.getfield 27, 3) := by decide +kernel
theorem dX1_addAct_26 : decode cX1_addAct 26 = .ok (.aload_n 0, 1) := by decide +kernel
theorem dX1_addAct_27 : decode cX1_addAct 27 = .ok (.getfield 37, 3) := by decide +kernel
theorem dX1_addAct_30 : decode cX1_addAct 30 = .ok (.iload_n 2, 1) := by decide +kernel
theorem dX1_addAct_31 : decode cX1_addAct 31 = .ok (.invokestatic 46, 3) := by decide +kernel
theorem dX1_addAct_34 : decode cX1_addAct 34 = .ok (.aload_n 0, 1) := by decide +kernel
theorem dX1_addAct_35 : decode cX1_addAct 35 = .ok (.dup, 1) := by decide +kernel
theorem dX1_addAct_36 : decode cX1_addAct 36 = .ok (.getfield 37, 3) := by decide +kernel
theorem dX1_addAct_39 : decode cX1_addAct 39 = .ok (.iconst 1, 1) := by decide +kernel
theorem dX1_addAct_40 : decode cX1_addAct 40 = .ok (.iadd, 1) := by decide +kernel
theorem dX1_addAct_41 : decode cX1_addAct 41 = .ok (.putfield 37, 3) := by decide +kernel
theorem dX1_addAct_44 : decode cX1_addAct 44 = .ok (.return_, 1) := by decide +kernel
theorem mokX1_addAct : MOK yX1_addAct cX1_addAct 3 none 2 := ⟨w4_134, w1_5, ⟨by decide, by decide⟩, by decide +kernel, by decide⟩
abbrev miX1_addAct : MI := (yX1_addAct.cls, cX1_addAct, 3, 2, false)
noncomputable def BX1_addAct : Sm Unit := (dSeq (dIf (dCI r_ge (dGI 1 2 (vR 0)) (cI 20)) dRet0 dSkip) (dSeq (dDo (dCall DX11_put (aI (aI (aR aN 0 (dGR 1 7 (vR 0))) 1 (dGI 1 2 (vR 0))) 2 (vI 1)))) (dSeq (dDo (dCall DX11_put (aI (aI (aR aN 0 (dGR 1 8 (vR 0))) 1 (dGI 1 2 (vR 0))) 2 (vI 2)))) (dSeq (dUF 1 2 o_iadd (vR 0) (cI 1)) dRet0))))
theorem sBX1_addAct : SS (cvoV, .return_) miX1_addAct [] [] [] [(0, 2), (1, 0), (2, 0)] [(0, 2), (1, 0), (2, 0)] 0 [] BX1_addAct := (t_sq (p1 := 10) (Γ' := [(0, 2), (1, 0), (2, 0)]) (t_if (pT := 9) (pF := 10) (X := [10]) (XA := []) (XB := [10]) (c_ge_F (pF := 10) (s_getI ck1 2 (by decide) rfl (s_aload_n dX1_addAct_0 rfl rfl) dX1_addAct_1 w1_92) (s_bipush dX1_addAct_4 rfl) dX1_addAct_6 rfl) (t_ret0 (fun _ _ => rfl) dX1_addAct_9) (t_skip (ld_in rfl) rfl) lda_nil (lda_cons (ld_in rfl) lda_nil)) (t_sq (p1 := 22) (Γ' := [(0, 2), (1, 0), (2, 0)]) (t_do (x_callN (ts := [(0, 2), (1, 0), (2, 0)]) kX11_put mokX11_put w3_65 rfl rfl rfl (a_I (ts := [(0, 2), (1, 0)]) 2 (a_I (ts := [(0, 2)]) 1 (a_R (ts := []) 0 a_nil (s_getR ck1 7 (by decide) rfl (s_aload_n dX1_addAct_10 rfl rfl) dX1_addAct_11 w1_102) rfl) (s_getI ck1 2 (by decide) rfl (s_aload_n dX1_addAct_14 rfl rfl) dX1_addAct_15 w1_92) rfl) (s_iload_n dX1_addAct_18 rfl rfl) rfl) dX1_addAct_19 nb25) rfl) (t_sq (p1 := 34) (Γ' := [(0, 2), (1, 0), (2, 0)]) (t_do (x_callN (ts := [(0, 2), (1, 0), (2, 0)]) kX11_put mokX11_put w3_65 rfl rfl rfl (a_I (ts := [(0, 2), (1, 0)]) 2 (a_I (ts := [(0, 2)]) 1 (a_R (ts := []) 0 a_nil (s_getR ck1 8 (by decide) rfl (s_aload_n dX1_addAct_22 rfl rfl) dX1_addAct_23 w1_103) rfl) (s_getI ck1 2 (by decide) rfl (s_aload_n dX1_addAct_26 rfl rfl) dX1_addAct_27 w1_92) rfl) (s_iload_n dX1_addAct_30 rfl rfl) rfl) dX1_addAct_31 nb25) rfl) (t_sq (p1 := 44) (Γ' := [(0, 2), (1, 0), (2, 0)]) (t_UF ck1 2 (by decide) rfl (Or.inl rfl) (s_aload_n dX1_addAct_34 rfl rfl) dX1_addAct_35 dX1_addAct_36 w1_92 (s_iconst dX1_addAct_39 rfl) (fun _ _ _ _ => rulI fun a b K => lv_iadd a b dX1_addAct_40 K) dX1_addAct_41 w1_92 rfl) (t_ret0 (fun _ _ => rfl) dX1_addAct_44)))))
noncomputable def DX1_addAct : Fr → St → Option (Unit × St) := M1 (fun f => (sI (sI (sR fr0 0 (gR f 0)) 1 (gI f 1)) 2 (gI f 2))) BX1_addAct
theorem kX1_addAct : SND yX1_addAct cX1_addAct 3 none 2 [(0, 2), (1, 0), (2, 0)] cvoV DX1_addAct := snd_V (nw := 3) (by decide) (fun z => by cases z) rfl rfl (fun _ _ => rfl) sBX1_addAct
theorem dX5_isDayAhead_0 : decode cX5_isDayAhead 0 = .ok (.iload_n 1, 1) := by decide +kernel
theorem dX5_isDayAhead_1 : decode cX5_isDayAhead 1 = .ok (.ifCond .lt 15, 3) := by decide +kernel
theorem dX5_isDayAhead_4 : decode cX5_isDayAhead 4 = .ok (.iload_n 1, 1) := by decide +kernel
theorem dX5_isDayAhead_5 : decode cX5_isDayAhead 5 = .ok (.aload_n 0, 1) := by decide +kernel
theorem dX5_isDayAhead_6 : decode cX5_isDayAhead 6 = .ok (.getfield 47, 3) := by decide +kernel
theorem dX5_isDayAhead_9 : decode cX5_isDayAhead 9 = .ok (.if_icmp .ge 7, 3) := by decide +kernel
theorem dX5_isDayAhead_12 : decode cX5_isDayAhead 12 = .ok (.iconst 1, 1) := by decide +kernel
theorem dX5_isDayAhead_13 : decode cX5_isDayAhead 13 = .ok (.goto 4, 3) := by decide +kernel
theorem dX5_isDayAhead_16 : decode cX5_isDayAhead 16 = .ok (.iconst 0, 1) := by decide +kernel
theorem dX5_isDayAhead_17 : decode cX5_isDayAhead 17 = .ok (.ireturn, 1) := by decide +kernel
theorem mokX5_isDayAhead : MOK yX5_isDayAhead cX5_isDayAhead 2 (some .boolean) 1 := ⟨w4_125, w1_4, ⟨by decide, by decide⟩, by decide +kernel, by decide⟩
abbrev miX5_isDayAhead : MI := (yX5_isDayAhead.cls, cX5_isDayAhead, 2, 1, false)
noncomputable def BX5_isDayAhead : Sm Int32 := (dRet (dB (dAnd (dCZ q_ge (vI 1)) (dCI r_lt (vI 1) (dGI 5 1 (vR 0))))))
theorem sBX5_isDayAhead : SS (cvoI, .ireturn) miX5_isDayAhead [] [] [] [(0, 2), (1, 0)] [(0, 2), (1, 0)] 0 [] BX5_isDayAhead := (t_ret (cv := cvI) (fun _ _ => rfl) (s_B (pT := 12) (pF := 16) (pe := 17) (c_and (p1 := 4) (pT := 12) (pF := 16) (c_ge_ZF (pF := 16) (s_iload_n dX5_isDayAhead_0 rfl rfl) dX5_isDayAhead_1 rfl) (c_lt_F (pF := 16) (s_iload_n dX5_isDayAhead_4 rfl rfl) (s_getI ck5 1 (by decide) rfl (s_aload_n dX5_isDayAhead_5 rfl rfl) dX5_isDayAhead_6 w1_127) dX5_isDayAhead_9 rfl)) dX5_isDayAhead_12 dX5_isDayAhead_13 rfl dX5_isDayAhead_16 rfl) dX5_isDayAhead_17)
noncomputable def DX5_isDayAhead : Fr → St → Option (Int32 × St) := MZ (fun f => (sI (sR fr0 0 (gR f 0)) 1 (gI f 1))) BX5_isDayAhead
theorem kX5_isDayAhead : SND yX5_isDayAhead cX5_isDayAhead 2 (some .boolean) 1 [(0, 2), (1, 0)] cvoI DX5_isDayAhead := snd_Z (nw := 2) (by decide) rfl rfl (fun _ _ => rfl) sBX5_isDayAhead
theorem dX11_carry_0 : decode cX11_carry 0 = .ok (.aload_n 0, 1) := by decide +kernel
theorem dX11_carry_1 : decode cX11_carry 1 = .ok (.iload_n 1, 1) := by decide +kernel
theorem dX11_carry_2 : decode cX11_carry 2 = .ok (.iload_n 2, 1) := by decide +kernel
theorem dX11_carry_3 : decode cX11_carry 3 = .ok (.invokevirtual 251, 3) := by decide +kernel
theorem dX11_carry_6 : decode cX11_carry 6 = .ok (.ifCond .eq 26, 3) := by decide +kernel
theorem dX11_carry_9 : decode cX11_carry 9 = .ok (.aload_n 0, 1) := by decide +kernel
theorem dX11_carry_10 : decode cX11_carry 10 = .ok (.getfield 26, 3) := by decide +kernel
theorem dX11_carry_13 : decode cX11_carry 13 = .ok (.iload_n 3, 1) := by decide +kernel
theorem dX11_carry_14 : decode cX11_carry 14 = .ok (.invokevirtual 117, 3) := by decide +kernel
theorem dX11_carry_17 : decode cX11_carry 17 = .ok (.ifCond .eq 15, 3) := by decide +kernel
theorem dX11_carry_20 : decode cX11_carry 20 = .ok (.aload_n 0, 1) := by decide +kernel
theorem dX11_carry_21 : decode cX11_carry 21 = .ok (.getfield 26, 3) := by decide +kernel
theorem dX11_carry_24 : decode cX11_carry 24 = .ok (.iload 4, 2) := by decide +kernel
theorem dX11_carry_26 : decode cX11_carry 26 = .ok (.invokevirtual 223, 3) := by decide +kernel
theorem dX11_carry_29 : decode cX11_carry 29 = .ok (.ifCond .ne 6, 3) := by decide +kernel
theorem dX11_carry_32 : decode cX11_carry 32 = .ok (.bipush (-2), 2) := by decide +kernel
theorem dX11_carry_34 : decode cX11_carry 34 = .ok (.ireturn, 1) := by decide +kernel
theorem dX11_carry_35 : decode cX11_carry 35 = .ok (.aload_n 0, 1) := by decide +kernel
theorem dX11_carry_36 : decode cX11_carry 36 = .ok (.getfield 26, 3) := by decide +kernel
theorem dX11_carry_39 : decode cX11_carry 39 = .ok (.getfield 213, 3) := by decide +kernel
theorem dX11_carry_42 : decode cX11_carry 42 = .ok (.getfield 388, 3) := by decide +kernel
theorem dX11_carry_45 : decode cX11_carry 45 = .ok (.bipush 20, 2) := by decide +kernel
theorem dX11_carry_47 : decode cX11_carry 47 = .ok (.if_icmp .lt 6, 3) := by decide +kernel
theorem dX11_carry_50 : decode cX11_carry 50 = .ok (.bipush (-5), 2) := by decide +kernel
theorem dX11_carry_52 : decode cX11_carry 52 = .ok (.ireturn, 1) := by decide +kernel
theorem dX11_carry_53 : decode cX11_carry 53 = .ok (.aload_n 0, 1) := by decide +kernel
theorem dX11_carry_54 : decode cX11_carry 54 = .ok (.getfield 26, 3) := by decide +kernel
theorem dX11_carry_57 : decode cX11_carry 57 = .ok (.getfield 213, 3) := by decide +kernel
theorem dX11_carry_60 : decode cX11_carry 60 = .ok (.iload_n 1, 1) := by decide +kernel
theorem dX11_carry_61 : decode cX11_carry 61 = .ok (.iload_n 2, 1) := by decide +kernel
theorem dX11_carry_62 : decode cX11_carry 62 = .ok (.iload_n 3, 1) := by decide +kernel
theorem dX11_carry_63 : decode cX11_carry 63 = .ok (.iload 4, 2) := by decide +kernel
theorem dX11_carry_65 : decode cX11_carry 65 = .ok (.invokevirtual 391, 3) := by decide +kernel
theorem dX11_carry_68 : decode cX11_carry 68 = .ok (.aload_n 0, 1) := by decide +kernel
theorem dX11_carry_69 : decode cX11_carry 69 = .ok (.getfield 26, 3) := by decide +kernel
theorem dX11_carry_72 : decode cX11_carry 72 = .ok (.getfield 213, 3) := by decide +kernel
theorem dX11_carry_75 : decode cX11_carry 75 = .ok (.iconst (-1), 1) := by decide +kernel
theorem dX11_carry_76 : decode cX11_carry 76 = .ok (.iconst (-1), 1) := by decide +kernel
theorem dX11_carry_77 : decode cX11_carry 77 = .ok (.invokevirtual 393, 3) := by decide +kernel
theorem dX11_carry_80 : decode cX11_carry 80 = .ok (.aload_n 0, 1) := by decide +kernel
theorem dX11_carry_81 : decode cX11_carry 81 = .ok (.invokevirtual 105, 3) := by decide +kernel
theorem dX11_carry_84 : decode cX11_carry 84 = .ok (.aload_n 0, 1) := by decide +kernel
theorem dX11_carry_85 : decode cX11_carry 85 = .ok (.invokevirtual 167, 3) := by decide +kernel
theorem dX11_carry_88 : decode cX11_carry 88 = .ok (.aload_n 0, 1) := by decide +kernel
theorem dX11_carry_89 : decode cX11_carry 89 = .ok (.getfield 26, 3) := by decide +kernel
theorem dX11_carry_92 : decode cX11_carry 92 = .ok (.getfield 213, 3) := by decide +kernel
theorem dX11_carry_95 : decode cX11_carry 95 = .ok (.getfield 217, 3) := by decide +kernel
theorem dX11_carry_98 : decode cX11_carry 98 = .ok (.iconst 1, 1) := by decide +kernel
theorem dX11_carry_99 : decode cX11_carry 99 = .ok (.isub, 1) := by decide +kernel
theorem dX11_carry_100 : decode cX11_carry 100 = .ok (.invokevirtual 206, 3) := by decide +kernel
theorem dX11_carry_103 : decode cX11_carry 103 = .ok (.ifCond .ne 7, 3) := by decide +kernel
theorem dX11_carry_106 : decode cX11_carry 106 = .ok (.iconst 1, 1) := by decide +kernel
theorem dX11_carry_107 : decode cX11_carry 107 = .ok (.goto 4, 3) := by decide +kernel
theorem dX11_carry_110 : decode cX11_carry 110 = .ok (.iconst 0, 1) := by decide +kernel
theorem dX11_carry_111 : decode cX11_carry 111 = .ok (.ireturn, 1) := by decide +kernel
theorem mokX11_carry : MOK yX11_carry cX11_carry 5 (some .int) 4 := ⟨w4_121, w1_1, ⟨by decide, by decide⟩, by decide +kernel, by decide⟩
abbrev miX11_carry : MI := (yX11_carry.cls, cX11_carry, 5, 8, false)
noncomputable def BX11_carry : Sm Int32 := (dSeq (dIf (dOr (dOr (dNot (dCZ q_ne (dCallV 11 DX11_areAlone (aI (aI (aR aN 0 (vR 0)) 1 (vI 1)) 2 (vI 2))))) (dNot (dCZ q_ne (dCallV 5 DX5_isHouse (aI (aR aN 0 (dGR 11 2 (vR 0))) 1 (vI 3)))))) (dNot (dCZ q_ne (dCallV 5 DX5_isDayAhead (aI (aR aN 0 (dGR 11 2 (vR 0))) 1 (vI 4)))))) (dRet (cI (-2))) dSkip) (dSeq (dIf (dCI r_ge (dGI 1 2 (dGR 5 16 (dGR 11 2 (vR 0)))) (cI 20)) (dRet (cI (-5))) dSkip) (dSeq (dDo (dCallV 1 DX1_add (aI (aI (aI (aI (aR aN 0 (dGR 5 16 (dGR 11 2 (vR 0)))) 1 (vI 1)) 2 (vI 2)) 3 (vI 3)) 4 (vI 4)))) (dSeq (dDo (dCallV 1 DX1_addAct (aI (aI (aR aN 0 (dGR 5 16 (dGR 11 2 (vR 0)))) 1 (cI (-1))) 2 (cI (-1))))) (dSeq (dDo (dCallV 11 DX11_makeStale (aR aN 0 (vR 0)))) (dRet (dT (dCZ q_eq (dCallV 3 DX3_reasonOf (aI (aR aN 0 (dCallV 11 DX11_today (aR aN 0 (vR 0)))) 1 (d2 o_isub (dGI 1 1 (dGR 5 16 (dGR 11 2 (vR 0)))) (cI 1))))) (cI 1) (cI 0))))))))
theorem sBX11_carry : SS (cvoI, .ireturn) miX11_carry [] [] [] [(0, 2), (1, 0), (2, 0), (3, 0), (4, 0)] [(0, 2), (1, 0), (2, 0), (3, 0), (4, 0)] 0 [] BX11_carry := (t_sq (p1 := 35) (Γ' := [(0, 2), (1, 0), (2, 0), (3, 0), (4, 0)]) (t_if (pT := 32) (pF := 35) (X := [35]) (XA := []) (XB := [35]) (c_or (p1 := 20) (pT := 32) (pF := 35) (c_or (p1 := 9) (pT := 32) (pF := 20) (c_not (pT := 32) (pF := 9) (c_ne_ZF (pF := 32) (s_of_xI (x_callV (ts := [(0, 2), (1, 0), (2, 0)]) ck11 rfl kX11_areAlone mokX11_areAlone w3_192 ps1_6 rfl rfl rfl rfl (a_I (ts := [(0, 2), (1, 0)]) 2 (a_I (ts := [(0, 2)]) 1 (a_R (ts := []) 0 a_nil (s_aload_n dX11_carry_0 rfl rfl) rfl) (s_iload_n dX11_carry_1 rfl rfl) rfl) (s_iload_n dX11_carry_2 rfl rfl) rfl) dX11_carry_3 w3_190)) dX11_carry_6 rfl)) (c_not (pT := 32) (pF := 20) (c_ne_ZF (pF := 32) (s_of_xI (x_callV (ts := [(0, 2), (1, 0)]) ck5 rfl kX5_isHouse mokX5_isHouse w3_8 w3_9 rfl rfl rfl rfl (a_I (ts := [(0, 2)]) 1 (a_R (ts := []) 0 a_nil (s_getR ck11 2 (by decide) rfl (s_aload_n dX11_carry_9 rfl rfl) dX11_carry_10 w2_198) rfl) (s_iload_n dX11_carry_13 rfl rfl) rfl) dX11_carry_14 w3_155)) dX11_carry_17 rfl))) (c_not (pT := 32) (pF := 35) (c_ne_ZJ (pT := 35) (s_of_xI (x_callV (ts := [(0, 2), (1, 0)]) ck5 rfl kX5_isDayAhead mokX5_isDayAhead w4_123 w4_124 rfl rfl rfl rfl (a_I (ts := [(0, 2)]) 1 (a_R (ts := []) 0 a_nil (s_getR ck11 2 (by decide) rfl (s_aload_n dX11_carry_20 rfl rfl) dX11_carry_21 w2_198) rfl) (s_iload dX11_carry_24 rfl) rfl) dX11_carry_26 w4_122)) dX11_carry_29 rfl))) (t_ret (cv := cvI) (fun _ _ => rfl) (s_bipush dX11_carry_32 rfl) dX11_carry_34) (t_skip (ld_in rfl) rfl) lda_nil (lda_cons (ld_in rfl) lda_nil)) (t_sq (p1 := 53) (Γ' := [(0, 2), (1, 0), (2, 0), (3, 0), (4, 0)]) (t_if (pT := 50) (pF := 53) (X := [53]) (XA := []) (XB := [53]) (c_ge_F (pF := 53) (s_getI ck1 2 (by decide) rfl (s_getR ck5 16 (by decide) rfl (s_getR ck11 2 (by decide) rfl (s_aload_n dX11_carry_35 rfl rfl) dX11_carry_36 w2_198) dX11_carry_39 w1_185) dX11_carry_42 w1_93) (s_bipush dX11_carry_45 rfl) dX11_carry_47 rfl) (t_ret (cv := cvI) (fun _ _ => rfl) (s_bipush dX11_carry_50 rfl) dX11_carry_52) (t_skip (ld_in rfl) rfl) lda_nil (lda_cons (ld_in rfl) lda_nil)) (t_sq (p1 := 68) (Γ' := [(0, 2), (1, 0), (2, 0), (3, 0), (4, 0)]) (t_do (x_callV (ts := [(0, 2), (1, 0), (2, 0), (3, 0), (4, 0)]) ck1 rfl kX1_add mokX1_add w4_127 w4_128 rfl rfl rfl rfl (a_I (ts := [(0, 2), (1, 0), (2, 0), (3, 0)]) 4 (a_I (ts := [(0, 2), (1, 0), (2, 0)]) 3 (a_I (ts := [(0, 2), (1, 0)]) 2 (a_I (ts := [(0, 2)]) 1 (a_R (ts := []) 0 a_nil (s_getR ck5 16 (by decide) rfl (s_getR ck11 2 (by decide) rfl (s_aload_n dX11_carry_53 rfl rfl) dX11_carry_54 w2_198) dX11_carry_57 w1_185) rfl) (s_iload_n dX11_carry_60 rfl rfl) rfl) (s_iload_n dX11_carry_61 rfl rfl) rfl) (s_iload_n dX11_carry_62 rfl rfl) rfl) (s_iload dX11_carry_63 rfl) rfl) dX11_carry_65 w4_126) rfl) (t_sq (p1 := 80) (Γ' := [(0, 2), (1, 0), (2, 0), (3, 0), (4, 0)]) (t_do (x_callV (ts := [(0, 2), (1, 0), (2, 0)]) ck1 rfl kX1_addAct mokX1_addAct w4_132 w4_133 rfl rfl rfl rfl (a_I (ts := [(0, 2), (1, 0)]) 2 (a_I (ts := [(0, 2)]) 1 (a_R (ts := []) 0 a_nil (s_getR ck5 16 (by decide) rfl (s_getR ck11 2 (by decide) rfl (s_aload_n dX11_carry_68 rfl rfl) dX11_carry_69 w2_198) dX11_carry_72 w1_185) rfl) (s_iconst dX11_carry_75 rfl) rfl) (s_iconst dX11_carry_76 rfl) rfl) dX11_carry_77 w4_131) rfl) (t_sq (p1 := 84) (Γ' := [(0, 2), (1, 0), (2, 0), (3, 0), (4, 0)]) (t_do (x_callV (ts := [(0, 2)]) ck11 rfl kX11_makeStale mokX11_makeStale w4_137 ps2_1 rfl rfl rfl rfl (a_R (ts := []) 0 a_nil (s_aload_n dX11_carry_80 rfl rfl) rfl) dX11_carry_81 w4_135) rfl) (t_ret (cv := cvI) (fun _ _ => rfl) (s_T (pT := 106) (pF := 110) (p1 := 107) (pe := 111) (c_eq_ZF (pF := 110) (s_of_xI (x_callV (ts := [(0, 2), (1, 0)]) ck3 rfl kX3_reasonOf mokX3_reasonOf w3_175 w3_176 rfl rfl rfl rfl (a_I (ts := [(0, 2)]) 1 (a_R (ts := []) 0 a_nil (s_of_xR (x_callV (ts := [(0, 2)]) ck11 rfl kX11_today mokX11_today w3_46 ps1_0 rfl rfl rfl rfl (a_R (ts := []) 0 a_nil (s_aload_n dX11_carry_84 rfl rfl) rfl) dX11_carry_85 w3_44)) rfl) (s_isub (s_getI ck1 1 (by decide) rfl (s_getR ck5 16 (by decide) rfl (s_getR ck11 2 (by decide) rfl (s_aload_n dX11_carry_88 rfl rfl) dX11_carry_89 w2_198) dX11_carry_92 w1_185) dX11_carry_95 w1_91) (s_iconst dX11_carry_98 rfl) dX11_carry_99) rfl) dX11_carry_100 w3_174)) dX11_carry_103 rfl) (s_iconst dX11_carry_106 rfl) (s_iconst dX11_carry_110 rfl) (ld_goto (y := 111) dX11_carry_107 rfl (ld_in rfl))) dX11_carry_111))))))
noncomputable def DX11_carry : Fr → St → Option (Int32 × St) := M1 (fun f => (sI (sI (sI (sI (sR fr0 0 (gR f 0)) 1 (gI f 1)) 2 (gI f 2)) 3 (gI f 3)) 4 (gI f 4))) BX11_carry
theorem kX11_carry : SND yX11_carry cX11_carry 5 (some .int) 8 [(0, 2), (1, 0), (2, 0), (3, 0), (4, 0)] cvoI DX11_carry := snd_I (nw := 5) (by decide) rfl rfl (fun _ _ => rfl) sBX11_carry
theorem dX5_isWord_0 : decode cX5_isWord 0 = .ok (.iload_n 2, 1) := by decide +kernel
theorem dX5_isWord_1 : decode cX5_isWord 1 = .ok (.ifCond .lt 19, 3) := by decide +kernel
theorem dX5_isWord_4 : decode cX5_isWord 4 = .ok (.iload_n 2, 1) := by decide +kernel
theorem dX5_isWord_5 : decode cX5_isWord 5 = .ok (.aload_n 0, 1) := by decide +kernel
theorem dX5_isWord_6 : decode cX5_isWord 6 = .ok (.getfield 30, 3) := by decide +kernel
theorem dX5_isWord_9 : decode cX5_isWord 9 = .ok (.iload_n 1, 1) := by decide +kernel
theorem dX5_isWord_10 : decode cX5_isWord 10 = .ok (.invokestatic 85, 3) := by decide +kernel
theorem dX5_isWord_13 : decode cX5_isWord 13 = .ok (.if_icmp .ge 7, 3) := by decide +kernel
theorem dX5_isWord_16 : decode cX5_isWord 16 = .ok (.iconst 1, 1) := by decide +kernel
theorem dX5_isWord_17 : decode cX5_isWord 17 = .ok (.goto 4, 3) := by decide +kernel
theorem dX5_isWord_20 : decode cX5_isWord 20 = .ok (.iconst 0, 1) := by decide +kernel
theorem dX5_isWord_21 : decode cX5_isWord 21 = .ok (.ireturn, 1) := by decide +kernel
theorem mokX5_isWord : MOK yX5_isWord cX5_isWord 3 (some .boolean) 2 := ⟨w4_150, w1_4, ⟨by decide, by decide⟩, by decide +kernel, by decide⟩
abbrev miX5_isWord : MI := (yX5_isWord.cls, cX5_isWord, 3, 2, false)
noncomputable def BX5_isWord : Sm Int32 := (dRet (dB (dAnd (dCZ q_ge (vI 2)) (dCI r_lt (vI 2) (dCall DX11_cell (aI (aR aN 0 (dGR 5 14 (vR 0))) 1 (vI 1)))))))
theorem sBX5_isWord : SS (cvoI, .ireturn) miX5_isWord [] [] [] [(0, 2), (1, 0), (2, 0)] [(0, 2), (1, 0), (2, 0)] 0 [] BX5_isWord := (t_ret (cv := cvI) (fun _ _ => rfl) (s_B (pT := 16) (pF := 20) (pe := 21) (c_and (p1 := 4) (pT := 16) (pF := 20) (c_ge_ZF (pF := 20) (s_iload_n dX5_isWord_0 rfl rfl) dX5_isWord_1 rfl) (c_lt_F (pF := 20) (s_iload_n dX5_isWord_4 rfl rfl) (s_of_xI (x_callN (ts := [(0, 2), (1, 0)]) kX11_cell mokX11_cell w3_26 rfl rfl rfl (a_I (ts := [(0, 2)]) 1 (a_R (ts := []) 0 a_nil (s_getR ck5 14 (by decide) rfl (s_aload_n dX5_isWord_5 rfl rfl) dX5_isWord_6 w1_178) rfl) (s_iload_n dX5_isWord_9 rfl rfl) rfl) dX5_isWord_10 nb12)) dX5_isWord_13 rfl)) dX5_isWord_16 dX5_isWord_17 rfl dX5_isWord_20 rfl) dX5_isWord_21)
noncomputable def DX5_isWord : Fr → St → Option (Int32 × St) := MZ (fun f => (sI (sI (sR fr0 0 (gR f 0)) 1 (gI f 1)) 2 (gI f 2))) BX5_isWord
theorem kX5_isWord : SND yX5_isWord cX5_isWord 3 (some .boolean) 2 [(0, 2), (1, 0), (2, 0)] cvoI DX5_isWord := snd_Z (nw := 3) (by decide) rfl rfl (fun _ _ => rfl) sBX5_isWord
theorem dX11_rub_0 : decode cX11_rub 0 = .ok (.aload_n 0, 1) := by decide +kernel
theorem dX11_rub_1 : decode cX11_rub 1 = .ok (.getfield 26, 3) := by decide +kernel
theorem dX11_rub_4 : decode cX11_rub 4 = .ok (.iload_n 1, 1) := by decide +kernel
theorem dX11_rub_5 : decode cX11_rub 5 = .ok (.invokevirtual 140, 3) := by decide +kernel
theorem dX11_rub_8 : decode cX11_rub 8 = .ok (.ifCond .eq 15, 3) := by decide +kernel
theorem dX11_rub_11 : decode cX11_rub 11 = .ok (.aload_n 0, 1) := by decide +kernel
theorem dX11_rub_12 : decode cX11_rub 12 = .ok (.getfield 26, 3) := by decide +kernel
theorem dX11_rub_15 : decode cX11_rub 15 = .ok (.iload_n 1, 1) := by decide +kernel
theorem dX11_rub_16 : decode cX11_rub 16 = .ok (.iload_n 2, 1) := by decide +kernel
theorem dX11_rub_17 : decode cX11_rub 17 = .ok (.invokevirtual 143, 3) := by decide +kernel
theorem dX11_rub_20 : decode cX11_rub 20 = .ok (.ifCond .ne 6, 3) := by decide +kernel
theorem dX11_rub_23 : decode cX11_rub 23 = .ok (.bipush (-2), 2) := by decide +kernel
theorem dX11_rub_25 : decode cX11_rub 25 = .ok (.ireturn, 1) := by decide +kernel
theorem dX11_rub_26 : decode cX11_rub 26 = .ok (.aload_n 0, 1) := by decide +kernel
theorem dX11_rub_27 : decode cX11_rub 27 = .ok (.getfield 26, 3) := by decide +kernel
theorem dX11_rub_30 : decode cX11_rub 30 = .ok (.getfield 213, 3) := by decide +kernel
theorem dX11_rub_33 : decode cX11_rub 33 = .ok (.getfield 388, 3) := by decide +kernel
theorem dX11_rub_36 : decode cX11_rub 36 = .ok (.bipush 20, 2) := by decide +kernel
theorem dX11_rub_38 : decode cX11_rub 38 = .ok (.if_icmp .lt 6, 3) := by decide +kernel
theorem dX11_rub_41 : decode cX11_rub 41 = .ok (.bipush (-5), 2) := by decide +kernel
theorem dX11_rub_43 : decode cX11_rub 43 = .ok (.ireturn, 1) := by decide +kernel
theorem dX11_rub_44 : decode cX11_rub 44 = .ok (.aload_n 0, 1) := by decide +kernel
theorem dX11_rub_45 : decode cX11_rub 45 = .ok (.getfield 26, 3) := by decide +kernel
theorem dX11_rub_48 : decode cX11_rub 48 = .ok (.iload_n 1, 1) := by decide +kernel
theorem dX11_rub_49 : decode cX11_rub 49 = .ok (.invokevirtual 397, 3) := by decide +kernel
theorem dX11_rub_52 : decode cX11_rub 52 = .ok (.iload_n 2, 1) := by decide +kernel
theorem dX11_rub_53 : decode cX11_rub 53 = .ok (.invokestatic 286, 3) := by decide +kernel
theorem dX11_rub_56 : decode cX11_rub 56 = .ok (.istore_n 3, 1) := by decide +kernel
theorem dX11_rub_57 : decode cX11_rub 57 = .ok (.aload_n 0, 1) := by decide +kernel
theorem dX11_rub_58 : decode cX11_rub 58 = .ok (.getfield 26, 3) := by decide +kernel
theorem dX11_rub_61 : decode cX11_rub 61 = .ok (.getfield 213, 3) := by decide +kernel
theorem dX11_rub_64 : decode cX11_rub 64 = .ok (.iload_n 1, 1) := by decide +kernel
theorem dX11_rub_65 : decode cX11_rub 65 = .ok (.iload_n 2, 1) := by decide +kernel
theorem dX11_rub_66 : decode cX11_rub 66 = .ok (.invokevirtual 393, 3) := by decide +kernel
theorem dX11_rub_69 : decode cX11_rub 69 = .ok (.aload_n 0, 1) := by decide +kernel
theorem dX11_rub_70 : decode cX11_rub 70 = .ok (.invokevirtual 105, 3) := by decide +kernel
theorem dX11_rub_73 : decode cX11_rub 73 = .ok (.iload_n 3, 1) := by decide +kernel
theorem dX11_rub_74 : decode cX11_rub 74 = .ok (.ifCond .eq 7, 3) := by decide +kernel
theorem dX11_rub_77 : decode cX11_rub 77 = .ok (.iconst 1, 1) := by decide +kernel
theorem dX11_rub_78 : decode cX11_rub 78 = .ok (.goto 4, 3) := by decide +kernel
theorem dX11_rub_81 : decode cX11_rub 81 = .ok (.iconst 0, 1) := by decide +kernel
theorem dX11_rub_82 : decode cX11_rub 82 = .ok (.ireturn, 1) := by decide +kernel
theorem mokX11_rub : MOK yX11_rub cX11_rub 4 (some .int) 2 := ⟨w4_146, w1_1, ⟨by decide, by decide⟩, by decide +kernel, by decide⟩
abbrev miX11_rub : MI := (yX11_rub.cls, cX11_rub, 4, 4, false)
noncomputable def BX11_rub : Sm Int32 := (dSeq (dIf (dOr (dNot (dCZ q_ne (dCallV 5 DX5_isSlate (aI (aR aN 0 (dGR 11 2 (vR 0))) 1 (vI 1))))) (dNot (dCZ q_ne (dCallV 5 DX5_isWord (aI (aI (aR aN 0 (dGR 11 2 (vR 0))) 1 (vI 1)) 2 (vI 2)))))) (dRet (cI (-2))) dSkip) (dSeq (dIf (dCI r_ge (dGI 1 2 (dGR 5 16 (dGR 11 2 (vR 0)))) (cI 20)) (dRet (cI (-5))) dSkip) (dSeq (dSetI 3 (dCall DX11_hasBit (aI (aI aN 0 (dCallV 5 DX5_leftAtFirst (aI (aR aN 0 (dGR 11 2 (vR 0))) 1 (vI 1)))) 1 (vI 2)))) (dSeq (dDo (dCallV 1 DX1_addAct (aI (aI (aR aN 0 (dGR 5 16 (dGR 11 2 (vR 0)))) 1 (vI 1)) 2 (vI 2)))) (dSeq (dDo (dCallV 11 DX11_makeStale (aR aN 0 (vR 0)))) (dRet (dT (dCZ q_ne (vI 3)) (cI 1) (cI 0))))))))
theorem sBX11_rub : SS (cvoI, .ireturn) miX11_rub [] [] [] [(0, 2), (1, 0), (2, 0)] [(0, 2), (1, 0), (2, 0)] 0 [] BX11_rub := (t_sq (p1 := 26) (Γ' := [(0, 2), (1, 0), (2, 0)]) (t_if (pT := 23) (pF := 26) (X := [26]) (XA := []) (XB := [26]) (c_or (p1 := 11) (pT := 23) (pF := 26) (c_not (pT := 23) (pF := 11) (c_ne_ZF (pF := 23) (s_of_xI (x_callV (ts := [(0, 2), (1, 0)]) ck5 rfl kX5_isSlate mokX5_isSlate w3_136 w3_137 rfl rfl rfl rfl (a_I (ts := [(0, 2)]) 1 (a_R (ts := []) 0 a_nil (s_getR ck11 2 (by decide) rfl (s_aload_n dX11_rub_0 rfl rfl) dX11_rub_1 w2_198) rfl) (s_iload_n dX11_rub_4 rfl rfl) rfl) dX11_rub_5 w3_135)) dX11_rub_8 rfl)) (c_not (pT := 23) (pF := 26) (c_ne_ZJ (pT := 26) (s_of_xI (x_callV (ts := [(0, 2), (1, 0), (2, 0)]) ck5 rfl kX5_isWord mokX5_isWord w4_148 w4_149 rfl rfl rfl rfl (a_I (ts := [(0, 2), (1, 0)]) 2 (a_I (ts := [(0, 2)]) 1 (a_R (ts := []) 0 a_nil (s_getR ck11 2 (by decide) rfl (s_aload_n dX11_rub_11 rfl rfl) dX11_rub_12 w2_198) rfl) (s_iload_n dX11_rub_15 rfl rfl) rfl) (s_iload_n dX11_rub_16 rfl rfl) rfl) dX11_rub_17 w4_147)) dX11_rub_20 rfl))) (t_ret (cv := cvI) (fun _ _ => rfl) (s_bipush dX11_rub_23 rfl) dX11_rub_25) (t_skip (ld_in rfl) rfl) lda_nil (lda_cons (ld_in rfl) lda_nil)) (t_sq (p1 := 44) (Γ' := [(0, 2), (1, 0), (2, 0)]) (t_if (pT := 41) (pF := 44) (X := [44]) (XA := []) (XB := [44]) (c_ge_F (pF := 44) (s_getI ck1 2 (by decide) rfl (s_getR ck5 16 (by decide) rfl (s_getR ck11 2 (by decide) rfl (s_aload_n dX11_rub_26 rfl rfl) dX11_rub_27 w2_198) dX11_rub_30 w1_185) dX11_rub_33 w1_93) (s_bipush dX11_rub_36 rfl) dX11_rub_38 rfl) (t_ret (cv := cvI) (fun _ _ => rfl) (s_bipush dX11_rub_41 rfl) dX11_rub_43) (t_skip (ld_in rfl) rfl) lda_nil (lda_cons (ld_in rfl) lda_nil)) (t_sq (p1 := 57) (Γ' := [(0, 2), (1, 0), (2, 0), (3, 0)]) (t_istore_n (s_of_xI (x_call (ts := [(0, 0), (1, 0)]) kX11_hasBit mokX11_hasBit w3_16 rfl rfl rfl (a_I (ts := [(0, 0)]) 1 (a_I (ts := []) 0 a_nil (s_of_xI (x_callV (ts := [(0, 2), (1, 0)]) ck5 rfl kX5_leftAtFirst mokX5_leftAtFirst w3_68 w3_69 rfl rfl rfl rfl (a_I (ts := [(0, 2)]) 1 (a_R (ts := []) 0 a_nil (s_getR ck11 2 (by decide) rfl (s_aload_n dX11_rub_44 rfl rfl) dX11_rub_45 w2_198) rfl) (s_iload_n dX11_rub_48 rfl rfl) rfl) dX11_rub_49 w4_151)) rfl) (s_iload_n dX11_rub_52 rfl rfl) rfl) dX11_rub_53 w4_117)) dX11_rub_56 rfl rfl rfl) (t_sq (p1 := 69) (Γ' := [(0, 2), (1, 0), (2, 0), (3, 0)]) (t_do (x_callV (ts := [(0, 2), (1, 0), (2, 0)]) ck1 rfl kX1_addAct mokX1_addAct w4_132 w4_133 rfl rfl rfl rfl (a_I (ts := [(0, 2), (1, 0)]) 2 (a_I (ts := [(0, 2)]) 1 (a_R (ts := []) 0 a_nil (s_getR ck5 16 (by decide) rfl (s_getR ck11 2 (by decide) rfl (s_aload_n dX11_rub_57 rfl rfl) dX11_rub_58 w2_198) dX11_rub_61 w1_185) rfl) (s_iload_n dX11_rub_64 rfl rfl) rfl) (s_iload_n dX11_rub_65 rfl rfl) rfl) dX11_rub_66 w4_131) rfl) (t_sq (p1 := 73) (Γ' := [(0, 2), (1, 0), (2, 0), (3, 0)]) (t_do (x_callV (ts := [(0, 2)]) ck11 rfl kX11_makeStale mokX11_makeStale w4_137 ps2_1 rfl rfl rfl rfl (a_R (ts := []) 0 a_nil (s_aload_n dX11_rub_69 rfl rfl) rfl) dX11_rub_70 w4_135) rfl) (t_ret (cv := cvI) (fun _ _ => rfl) (s_T (pT := 77) (pF := 81) (p1 := 78) (pe := 82) (c_ne_ZF (pF := 81) (s_iload_n dX11_rub_73 rfl rfl) dX11_rub_74 rfl) (s_iconst dX11_rub_77 rfl) (s_iconst dX11_rub_81 rfl) (ld_goto (y := 82) dX11_rub_78 rfl (ld_in rfl))) dX11_rub_82))))))
noncomputable def DX11_rub : Fr → St → Option (Int32 × St) := M1 (fun f => (sI (sI (sR fr0 0 (gR f 0)) 1 (gI f 1)) 2 (gI f 2))) BX11_rub
theorem kX11_rub : SND yX11_rub cX11_rub 4 (some .int) 4 [(0, 2), (1, 0), (2, 0)] cvoI DX11_rub := snd_I (nw := 3) (by decide) rfl rfl (fun _ _ => rfl) sBX11_rub
theorem dX11_anew_0 : decode cX11_anew 0 = .ok (.aload_n 0, 1) := by decide +kernel
theorem dX11_anew_1 : decode cX11_anew 1 = .ok (.getfield 26, 3) := by decide +kernel
theorem dX11_anew_4 : decode cX11_anew 4 = .ok (.invokevirtual 209, 3) := by decide +kernel
theorem dX11_anew_7 : decode cX11_anew 7 = .ok (.ifCond .ne 6, 3) := by decide +kernel
theorem dX11_anew_10 : decode cX11_anew 10 = .ok (.bipush (-2), 2) := by decide +kernel
theorem dX11_anew_12 : decode cX11_anew 12 = .ok (.ireturn, 1) := by decide +kernel
theorem dX11_anew_13 : decode cX11_anew 13 = .ok (.aload_n 0, 1) := by decide +kernel
theorem dX11_anew_14 : decode cX11_anew 14 = .ok (.getfield 26, 3) := by decide +kernel
theorem dX11_anew_17 : decode cX11_anew 17 = .ok (.getfield 213, 3) := by decide +kernel
theorem dX11_anew_20 : decode cX11_anew 20 = .ok (.getfield 388, 3) := by decide +kernel
theorem dX11_anew_23 : decode cX11_anew 23 = .ok (.istore_n 1, 1) := by decide +kernel
theorem dX11_anew_24 : decode cX11_anew 24 = .ok (.aload_n 0, 1) := by decide +kernel
theorem dX11_anew_25 : decode cX11_anew 25 = .ok (.getfield 26, 3) := by decide +kernel
theorem dX11_anew_28 : decode cX11_anew 28 = .ok (.getfield 213, 3) := by decide +kernel
theorem dX11_anew_31 : decode cX11_anew 31 = .ok (.iconst 0, 1) := by decide +kernel
theorem dX11_anew_32 : decode cX11_anew 32 = .ok (.putfield 388, 3) := by decide +kernel
theorem dX11_anew_35 : decode cX11_anew 35 = .ok (.aload_n 0, 1) := by decide +kernel
theorem dX11_anew_36 : decode cX11_anew 36 = .ok (.getfield 26, 3) := by decide +kernel
theorem dX11_anew_39 : decode cX11_anew 39 = .ok (.getfield 213, 3) := by decide +kernel
theorem dX11_anew_42 : decode cX11_anew 42 = .ok (.aload_n 0, 1) := by decide +kernel
theorem dX11_anew_43 : decode cX11_anew 43 = .ok (.getfield 26, 3) := by decide +kernel
theorem dX11_anew_46 : decode cX11_anew 46 = .ok (.getfield 213, 3) := by decide +kernel
theorem dX11_anew_49 : decode cX11_anew 49 = .ok (.getfield 403, 3) := by decide +kernel
theorem dX11_anew_52 : decode cX11_anew 52 = .ok (.putfield 217, 3) := by decide +kernel
theorem dX11_anew_55 : decode cX11_anew 55 = .ok (.aload_n 0, 1) := by decide +kernel
theorem dX11_anew_56 : decode cX11_anew 56 = .ok (.invokevirtual 105, 3) := by decide +kernel
theorem dX11_anew_59 : decode cX11_anew 59 = .ok (.iload_n 1, 1) := by decide +kernel
theorem dX11_anew_60 : decode cX11_anew 60 = .ok (.ireturn, 1) := by decide +kernel
theorem mokX11_anew : MOK yX11_anew cX11_anew 2 (some .int) 0 := ⟨w4_155, w1_1, ⟨by decide, by decide⟩, by decide +kernel, by decide⟩
abbrev miX11_anew : MI := (yX11_anew.cls, cX11_anew, 2, 3, false)
noncomputable def BX11_anew : Sm Int32 := (dSeq (dIf (dNot (dCZ q_ne (dCallV 5 DX5_isTold (aR aN 0 (dGR 11 2 (vR 0)))))) (dRet (cI (-2))) dSkip) (dSeq (dSetI 1 (dGI 1 2 (dGR 5 16 (dGR 11 2 (vR 0))))) (dSeq (dP (fI 1 2) (dGR 5 16 (dGR 11 2 (vR 0))) (cI 0)) (dSeq (dP (fI 1 1) (dGR 5 16 (dGR 11 2 (vR 0))) (dGI 1 0 (dGR 5 16 (dGR 11 2 (vR 0))))) (dSeq (dDo (dCallV 11 DX11_makeStale (aR aN 0 (vR 0)))) (dRet (vI 1)))))))
theorem sBX11_anew : SS (cvoI, .ireturn) miX11_anew [] [] [] [(0, 2)] [(0, 2)] 0 [] BX11_anew := (t_sq (p1 := 13) (Γ' := [(0, 2)]) (t_if (pT := 10) (pF := 13) (X := [13]) (XA := []) (XB := [13]) (c_not (pT := 10) (pF := 13) (c_ne_ZJ (pT := 13) (s_of_xI (x_callV (ts := [(0, 2)]) ck5 rfl kX5_isTold mokX5_isTold w3_41 w3_42 rfl rfl rfl rfl (a_R (ts := []) 0 a_nil (s_getR ck11 2 (by decide) rfl (s_aload_n dX11_anew_0 rfl rfl) dX11_anew_1 w2_198) rfl) dX11_anew_4 w3_173)) dX11_anew_7 rfl)) (t_ret (cv := cvI) (fun _ _ => rfl) (s_bipush dX11_anew_10 rfl) dX11_anew_12) (t_skip (ld_in rfl) rfl) lda_nil (lda_cons (ld_in rfl) lda_nil)) (t_sq (p1 := 24) (Γ' := [(0, 2), (1, 0)]) (t_istore_n (s_getI ck1 2 (by decide) rfl (s_getR ck5 16 (by decide) rfl (s_getR ck11 2 (by decide) rfl (s_aload_n dX11_anew_13 rfl rfl) dX11_anew_14 w2_198) dX11_anew_17 w1_185) dX11_anew_20 w1_93) dX11_anew_23 rfl rfl rfl) (t_sq (p1 := 35) (Γ' := [(0, 2), (1, 0)]) (t_pI ck1 2 (by decide) rfl (Or.inl rfl) (s_getR ck5 16 (by decide) rfl (s_getR ck11 2 (by decide) rfl (s_aload_n dX11_anew_24 rfl rfl) dX11_anew_25 w2_198) dX11_anew_28 w1_185) (s_iconst dX11_anew_31 rfl) dX11_anew_32 w1_93 rfl) (t_sq (p1 := 55) (Γ' := [(0, 2), (1, 0)]) (t_pI ck1 1 (by decide) rfl (Or.inl rfl) (s_getR ck5 16 (by decide) rfl (s_getR ck11 2 (by decide) rfl (s_aload_n dX11_anew_35 rfl rfl) dX11_anew_36 w2_198) dX11_anew_39 w1_185) (s_getI ck1 0 (by decide) rfl (s_getR ck5 16 (by decide) rfl (s_getR ck11 2 (by decide) rfl (s_aload_n dX11_anew_42 rfl rfl) dX11_anew_43 w2_198) dX11_anew_46 w1_185) dX11_anew_49 w1_86) dX11_anew_52 w1_91 rfl) (t_sq (p1 := 59) (Γ' := [(0, 2), (1, 0)]) (t_do (x_callV (ts := [(0, 2)]) ck11 rfl kX11_makeStale mokX11_makeStale w4_137 ps2_1 rfl rfl rfl rfl (a_R (ts := []) 0 a_nil (s_aload_n dX11_anew_55 rfl rfl) rfl) dX11_anew_56 w4_135) rfl) (t_ret (cv := cvI) (fun _ _ => rfl) (s_iload_n dX11_anew_59 rfl rfl) dX11_anew_60))))))
noncomputable def DX11_anew : Fr → St → Option (Int32 × St) := M1 (fun f => (sR fr0 0 (gR f 0))) BX11_anew
theorem kX11_anew : SND yX11_anew cX11_anew 2 (some .int) 3 [(0, 2)] cvoI DX11_anew := snd_I (nw := 1) (by decide) rfl rfl (fun _ _ => rfl) sBX11_anew
theorem dX10_rainDrawn_0 : decode cX10_rainDrawn 0 = .ok (.iconst 0, 1) := by decide +kernel
theorem dX10_rainDrawn_1 : decode cX10_rainDrawn 1 = .ok (.istore 4, 2) := by decide +kernel
theorem dX10_rainDrawn_3 : decode cX10_rainDrawn 3 = .ok (.lload_n 2, 1) := by decide +kernel
theorem dX10_rainDrawn_4 : decode cX10_rainDrawn 4 = .ok (.lstore 5, 2) := by decide +kernel
theorem dX10_rainDrawn_6 : decode cX10_rainDrawn 6 = .ok (.iconst 0, 1) := by decide +kernel
theorem dX10_rainDrawn_7 : decode cX10_rainDrawn 7 = .ok (.istore 7, 2) := by decide +kernel
theorem dX10_rainDrawn_9 : decode cX10_rainDrawn 9 = .ok (.iload 7, 2) := by decide +kernel
theorem dX10_rainDrawn_11 : decode cX10_rainDrawn 11 = .ok (.aload_n 1, 1) := by decide +kernel
theorem dX10_rainDrawn_12 : decode cX10_rainDrawn 12 = .ok (.getfield 74, 3) := by decide +kernel
theorem dX10_rainDrawn_15 : decode cX10_rainDrawn 15 = .ok (.if_icmp .ge 53, 3) := by decide +kernel
theorem dX10_rainDrawn_18 : decode cX10_rainDrawn 18 = .ok (.ldc2_w 77, 3) := by decide +kernel
theorem dX10_rainDrawn_21 : decode cX10_rainDrawn 21 = .ok (.lload 5, 2) := by decide +kernel
theorem dX10_rainDrawn_23 : decode cX10_rainDrawn 23 = .ok (.lmul, 1) := by decide +kernel
theorem dX10_rainDrawn_24 : decode cX10_rainDrawn 24 = .ok (.ldc2_w 79, 3) := by decide +kernel
theorem dX10_rainDrawn_27 : decode cX10_rainDrawn 27 = .ok (.ladd, 1) := by decide +kernel
theorem dX10_rainDrawn_28 : decode cX10_rainDrawn 28 = .ok (.ldc2_w 81, 3) := by decide +kernel
theorem dX10_rainDrawn_31 : decode cX10_rainDrawn 31 = .ok (.lrem, 1) := by decide +kernel
theorem dX10_rainDrawn_32 : decode cX10_rainDrawn 32 = .ok (.lstore 5, 2) := by decide +kernel
theorem dX10_rainDrawn_34 : decode cX10_rainDrawn 34 = .ok (.lload 5, 2) := by decide +kernel
theorem dX10_rainDrawn_36 : decode cX10_rainDrawn 36 = .ok (.ldc2_w 83, 3) := by decide +kernel
theorem dX10_rainDrawn_39 : decode cX10_rainDrawn 39 = .ok (.ldiv, 1) := by decide +kernel
theorem dX10_rainDrawn_40 : decode cX10_rainDrawn 40 = .ok (.ldc2_w 85, 3) := by decide +kernel
theorem dX10_rainDrawn_43 : decode cX10_rainDrawn 43 = .ok (.lrem, 1) := by decide +kernel
theorem dX10_rainDrawn_44 : decode cX10_rainDrawn 44 = .ok (.aload_n 1, 1) := by decide +kernel
theorem dX10_rainDrawn_45 : decode cX10_rainDrawn 45 = .ok (.getfield 54, 3) := by decide +kernel
theorem dX10_rainDrawn_48 : decode cX10_rainDrawn 48 = .ok (.i2l, 1) := by decide +kernel
theorem dX10_rainDrawn_49 : decode cX10_rainDrawn 49 = .ok (.lcmp, 1) := by decide +kernel
theorem dX10_rainDrawn_50 : decode cX10_rainDrawn 50 = .ok (.ifCond .ge 12, 3) := by decide +kernel
theorem dX10_rainDrawn_53 : decode cX10_rainDrawn 53 = .ok (.iload 4, 2) := by decide +kernel
theorem dX10_rainDrawn_55 : decode cX10_rainDrawn 55 = .ok (.iconst 1, 1) := by decide +kernel
theorem dX10_rainDrawn_56 : decode cX10_rainDrawn 56 = .ok (.iload 7, 2) := by decide +kernel
theorem dX10_rainDrawn_58 : decode cX10_rainDrawn 58 = .ok (.ishl, 1) := by decide +kernel
theorem dX10_rainDrawn_59 : decode cX10_rainDrawn 59 = .ok (.ior, 1) := by decide +kernel
theorem dX10_rainDrawn_60 : decode cX10_rainDrawn 60 = .ok (.istore 4, 2) := by decide +kernel
theorem dX10_rainDrawn_62 : decode cX10_rainDrawn 62 = .ok (.iinc 7 1, 3) := by decide +kernel
theorem dX10_rainDrawn_65 : decode cX10_rainDrawn 65 = .ok (.goto (-56), 3) := by decide +kernel
theorem dX10_rainDrawn_68 : decode cX10_rainDrawn 68 = .ok (.iload 4, 2) := by decide +kernel
theorem dX10_rainDrawn_70 : decode cX10_rainDrawn 70 = .ok (.ireturn, 1) := by decide +kernel
theorem mokX10_rainDrawn : MOK yX10_rainDrawn cX10_rainDrawn 8 (some .int) 2 := ⟨w4_167, w1_11, ⟨by decide, by decide⟩, by decide +kernel, by decide⟩
abbrev miX10_rainDrawn : MI := (yX10_rainDrawn.cls, cX10_rainDrawn, 8, 1, false)
noncomputable def LX10_rainDrawn_1 : Sm Int32 := dLoop (fun f => (sI (sL (sI (sL (sR (sR fr0 0 (gR f 0)) 1 (gR f 1)) 2 (gL f 2)) 4 (gI f 4)) 5 (gL f 5)) 7 (gI f 7))) (dCI r_lt (vI 7) (dGI 5 1 (vR 1))) (dSeq (dSetL 5 (d2z o_lrem (d2 o_ladd (d2 o_lmul (cL 1103515245) (vL 5)) (cL 12345)) (cL 2147483648))) (dIf (dCZ q_lt (d2 o_lcmp (d2z o_lrem (d2z o_ldiv (vL 5) (cL 65536)) (cL 10)) (d1 o_i2l (dGI 5 3 (vR 1))))) (dSetI 4 (d2 o_ior (vI 4) (d2 o_ishl (cI 1) (vI 7)))) dSkip)) (dInc 7 1)
theorem sLX10_rainDrawn_1 {ΓL : Gm} {PB PK : List Nat} : SS (cvoI, .ireturn) miX10_rainDrawn ΓL PB PK [(0, 2), (1, 2), (2, 1), (4, 0), (5, 1), (7, 0)] [(0, 2), (1, 2), (2, 1), (4, 0), (5, 1), (7, 0)] 9 [68] LX10_rainDrawn_1 := t_loop (pT := 18) (pF := 68) (pu := 62) (PB' := []) (PK' := []) (XB := [62]) (XU := [65]) (fun _ _ => rfl) rfl (c_lt_F (pF := 68) (s_iload dX10_rainDrawn_9 rfl) (s_getI ck5 1 (by decide) rfl (s_aload_n dX10_rainDrawn_11 rfl rfl) dX10_rainDrawn_12 w1_132) dX10_rainDrawn_15 rfl) (t_sq (p1 := 34) (Γ' := [(0, 2), (1, 2), (2, 1), (4, 0), (5, 1), (7, 0)]) (t_lstore (s_lrem (s_ladd (s_lmul (s_ldc2 dX10_rainDrawn_18 w4_168) (s_lload dX10_rainDrawn_21 rfl) dX10_rainDrawn_23) (s_ldc2 dX10_rainDrawn_24 w4_169) dX10_rainDrawn_27) (s_ldc2 dX10_rainDrawn_28 w4_170) dX10_rainDrawn_31) dX10_rainDrawn_32 rfl rfl) (t_if (pT := 53) (pF := 62) (X := [62]) (XA := [62]) (XB := [62]) (c_lt_ZF (pF := 62) (s_lcmp (s_lrem (s_ldiv (s_lload dX10_rainDrawn_34 rfl) (s_ldc2 dX10_rainDrawn_36 w4_171) dX10_rainDrawn_39) (s_ldc2 dX10_rainDrawn_40 w4_172) dX10_rainDrawn_43) (s_i2l (s_getI ck5 3 (by decide) rfl (s_aload_n dX10_rainDrawn_44 rfl rfl) dX10_rainDrawn_45 w1_141) dX10_rainDrawn_48) dX10_rainDrawn_49) dX10_rainDrawn_50 rfl) (t_istore (s_ior (s_iload dX10_rainDrawn_53 rfl) (s_ishl (s_iconst dX10_rainDrawn_55 rfl) (s_iload dX10_rainDrawn_56 rfl) dX10_rainDrawn_58) dX10_rainDrawn_59) dX10_rainDrawn_60 rfl rfl) (t_skip (ld_in rfl) rfl) (lda_cons (ld_in rfl) lda_nil) (lda_cons (ld_in rfl) lda_nil))) (t_iinc dX10_rainDrawn_62 rfl rfl rfl rfl) (lda_cons (ld_in rfl) lda_nil) lda_nil (lda_cons (ld_goto (y := 9) dX10_rainDrawn_65 rfl (ld_in rfl)) lda_nil) (ld_in rfl) lda_nil
noncomputable def BX10_rainDrawn : Sm Int32 := (dSeq (dSetI 4 (cI 0)) (dSeq (dSetL 5 (vL 2)) (dSeq (dSeq (dSetI 7 (cI 0)) LX10_rainDrawn_1) (dRet (vI 4)))))
theorem sBX10_rainDrawn : SS (cvoI, .ireturn) miX10_rainDrawn [] [] [] [(0, 2), (1, 2), (2, 1)] [(0, 2), (1, 2), (2, 1)] 0 [] BX10_rainDrawn := (t_sq (p1 := 3) (Γ' := [(0, 2), (1, 2), (2, 1), (4, 0)]) (t_istore (s_iconst dX10_rainDrawn_0 rfl) dX10_rainDrawn_1 rfl rfl) (t_sq (p1 := 6) (Γ' := [(0, 2), (1, 2), (2, 1), (4, 0), (5, 1)]) (t_lstore (s_lload_n dX10_rainDrawn_3 rfl rfl) dX10_rainDrawn_4 rfl rfl) (t_sq (p1 := 68) (Γ' := [(0, 2), (1, 2), (2, 1), (4, 0), (5, 1)]) (t_sq (p1 := 9) (Γ' := [(0, 2), (1, 2), (2, 1), (4, 0), (5, 1), (7, 0)]) (t_istore (s_iconst dX10_rainDrawn_6 rfl) dX10_rainDrawn_7 rfl rfl) (tn_to (Γ' := [(0, 2), (1, 2), (2, 1), (4, 0), (5, 1), (7, 0)]) (XA := [68]) sLX10_rainDrawn_1 (lda_cons (ld_in rfl) lda_nil) rfl)) (t_ret (cv := cvI) (fun _ _ => rfl) (s_iload dX10_rainDrawn_68 rfl) dX10_rainDrawn_70))))
noncomputable def DX10_rainDrawn : Fr → St → Option (Int32 × St) := M1 (fun f => (sL (sR (sR fr0 0 (gR f 0)) 1 (gR f 1)) 2 (gL f 2))) BX10_rainDrawn
theorem kX10_rainDrawn : SND yX10_rainDrawn cX10_rainDrawn 8 (some .int) 1 [(0, 2), (1, 2), (2, 1)] cvoI DX10_rainDrawn := snd_I (nw := 4) (by decide) rfl rfl (fun _ _ => rfl) sBX10_rainDrawn
theorem dX11_isSeed_0 : decode cX11_isSeed 0 = .ok (.iload_n 0, 1) := by decide +kernel
theorem dX11_isSeed_1 : decode cX11_isSeed 1 = .ok (.ifCond .lt 14, 3) := by decide +kernel
theorem dX11_isSeed_4 : decode cX11_isSeed 4 = .ok (.iload_n 0, 1) := by decide +kernel
theorem dX11_isSeed_5 : decode cX11_isSeed 5 = .ok (.ldc_w 440, 3) := by decide +kernel
theorem dX11_isSeed_8 : decode cX11_isSeed 8 = .ok (.if_icmp .gt 7, 3) := by decide +kernel
theorem dX11_isSeed_11 : decode cX11_isSeed 11 = .ok (.iconst 1, 1) := by decide +kernel
theorem dX11_isSeed_12 : decode cX11_isSeed 12 = .ok (.goto 4, 3) := by decide +kernel
theorem dX11_isSeed_15 : decode cX11_isSeed 15 = .ok (.iconst 0, 1) := by decide +kernel
theorem dX11_isSeed_16 : decode cX11_isSeed 16 = .ok (.ireturn, 1) := by decide +kernel
theorem mokX11_isSeed : MOK yX11_isSeed cX11_isSeed 1 (some .boolean) 1 := ⟨w4_162, w1_1, ⟨by decide, by decide⟩, by decide +kernel, by decide⟩
abbrev miX11_isSeed : MI := (yX11_isSeed.cls, cX11_isSeed, 1, 1, false)
noncomputable def BX11_isSeed : Sm Int32 := (dRet (dB (dAnd (dCZ q_ge (vI 0)) (dCI r_le (vI 0) (cI 2000000000)))))
theorem sBX11_isSeed : SS (cvoI, .ireturn) miX11_isSeed [] [] [] [(0, 0)] [(0, 0)] 0 [] BX11_isSeed := (t_ret (cv := cvI) (fun _ _ => rfl) (s_B (pT := 11) (pF := 15) (pe := 16) (c_and (p1 := 4) (pT := 11) (pF := 15) (c_ge_ZF (pF := 15) (s_iload_n dX11_isSeed_0 rfl rfl) dX11_isSeed_1 rfl) (c_le_F (pF := 15) (s_iload_n dX11_isSeed_4 rfl rfl) (s_ldcw dX11_isSeed_5 w4_163) dX11_isSeed_8 rfl)) dX11_isSeed_11 dX11_isSeed_12 rfl dX11_isSeed_15 rfl) dX11_isSeed_16)
noncomputable def DX11_isSeed : Fr → St → Option (Int32 × St) := MZ (fun f => (sI fr0 0 (gI f 0))) BX11_isSeed
theorem kX11_isSeed : SND yX11_isSeed cX11_isSeed 1 (some .boolean) 1 [(0, 0)] cvoI DX11_isSeed := snd_Z (nw := 1) (by decide) rfl rfl (fun _ _ => rfl) sBX11_isSeed
theorem dX11_runInRain_0 : decode cX11_runInRain 0 = .ok (.aload_n 0, 1) := by decide +kernel
theorem dX11_runInRain_1 : decode cX11_runInRain 1 = .ok (.getfield 51, 3) := by decide +kernel
theorem dX11_runInRain_4 : decode cX11_runInRain 4 = .ok (.getfield 332, 3) := by decide +kernel
theorem dX11_runInRain_7 : decode cX11_runInRain 7 = .ok (.aload_n 0, 1) := by decide +kernel
theorem dX11_runInRain_8 : decode cX11_runInRain 8 = .ok (.getfield 26, 3) := by decide +kernel
theorem dX11_runInRain_11 : decode cX11_runInRain 11 = .ok (.invokevirtual 336, 3) := by decide +kernel
theorem dX11_runInRain_14 : decode cX11_runInRain 14 = .ok (.aload_n 0, 1) := by decide +kernel
theorem dX11_runInRain_15 : decode cX11_runInRain 15 = .ok (.getfield 51, 3) := by decide +kernel
theorem dX11_runInRain_18 : decode cX11_runInRain 18 = .ok (.getfield 332, 3) := by decide +kernel
theorem dX11_runInRain_21 : decode cX11_runInRain 21 = .ok (.iload_n 1, 1) := by decide +kernel
theorem dX11_runInRain_22 : decode cX11_runInRain 22 = .ok (.putfield 449, 3) := by decide +kernel
theorem dX11_runInRain_25 : decode cX11_runInRain 25 = .ok (.aload_n 0, 1) := by decide +kernel
theorem dX11_runInRain_26 : decode cX11_runInRain 26 = .ok (.getfield 51, 3) := by decide +kernel
theorem dX11_runInRain_29 : decode cX11_runInRain 29 = .ok (.getfield 332, 3) := by decide +kernel
theorem dX11_runInRain_32 : decode cX11_runInRain 32 = .ok (.aload_n 0, 1) := by decide +kernel
theorem dX11_runInRain_33 : decode cX11_runInRain 33 = .ok (.getfield 26, 3) := by decide +kernel
theorem dX11_runInRain_36 : decode cX11_runInRain 36 = .ok (.invokevirtual 452, 3) := by decide +kernel
theorem dX11_runInRain_39 : decode cX11_runInRain 39 = .ok (.return_, 1) := by decide +kernel
theorem mokX11_runInRain : MOK yX11_runInRain cX11_runInRain 2 none 1 := ⟨w4_176, w1_1, ⟨by decide, by decide⟩, by decide +kernel, by decide⟩
abbrev miX11_runInRain : MI := (yX11_runInRain.cls, cX11_runInRain, 2, 7, false)
noncomputable def BX11_runInRain : Sm Unit := (dSeq (dDo (dCallV 2 DX2_setAsTold (aR (aR aN 0 (dGR 3 1 (dGR 11 7 (vR 0)))) 1 (dGR 11 2 (vR 0))))) (dSeq (dP (fI 2 3) (dGR 3 1 (dGR 11 7 (vR 0))) (vI 1)) (dSeq (dDo (dCallV 2 DX2_runThrough (aR (aR aN 0 (dGR 3 1 (dGR 11 7 (vR 0)))) 1 (dGR 11 2 (vR 0))))) dRet0)))
theorem sBX11_runInRain : SS (cvoV, .return_) miX11_runInRain [] [] [] [(0, 2), (1, 0)] [(0, 2), (1, 0)] 0 [] BX11_runInRain := (t_sq (p1 := 14) (Γ' := [(0, 2), (1, 0)]) (t_do (x_callV (ts := [(0, 2), (1, 2)]) ck2 rfl kX2_setAsTold mokX2_setAsTold w3_49 w3_50 rfl rfl rfl rfl (a_R (ts := [(0, 2)]) 1 (a_R (ts := []) 0 a_nil (s_getR ck3 1 (by decide) rfl (s_getR ck11 7 (by decide) rfl (s_aload_n dX11_runInRain_0 rfl rfl) dX11_runInRain_1 w2_203) dX11_runInRain_4 w2_72) rfl) (s_getR ck11 2 (by decide) rfl (s_aload_n dX11_runInRain_7 rfl rfl) dX11_runInRain_8 w2_198) rfl) dX11_runInRain_11 w3_48) rfl) (t_sq (p1 := 25) (Γ' := [(0, 2), (1, 0)]) (t_pI ck2 3 (by decide) rfl (Or.inl rfl) (s_getR ck3 1 (by decide) rfl (s_getR ck11 7 (by decide) rfl (s_aload_n dX11_runInRain_14 rfl rfl) dX11_runInRain_15 w2_203) dX11_runInRain_18 w2_72) (s_iload_n dX11_runInRain_21 rfl rfl) dX11_runInRain_22 w2_17 rfl) (t_sq (p1 := 39) (Γ' := [(0, 2), (1, 0)]) (t_do (x_callV (ts := [(0, 2), (1, 2)]) ck2 rfl kX2_runThrough mokX2_runThrough w4_104 w4_105 rfl rfl rfl rfl (a_R (ts := [(0, 2)]) 1 (a_R (ts := []) 0 a_nil (s_getR ck3 1 (by decide) rfl (s_getR ck11 7 (by decide) rfl (s_aload_n dX11_runInRain_25 rfl rfl) dX11_runInRain_26 w2_203) dX11_runInRain_29 w2_72) rfl) (s_getR ck11 2 (by decide) rfl (s_aload_n dX11_runInRain_32 rfl rfl) dX11_runInRain_33 w2_198) rfl) dX11_runInRain_36 w4_103) rfl) (t_ret0 (fun _ _ => rfl) dX11_runInRain_39))))
noncomputable def DX11_runInRain : Fr → St → Option (Unit × St) := M1 (fun f => (sI (sR fr0 0 (gR f 0)) 1 (gI f 1))) BX11_runInRain
theorem kX11_runInRain : SND yX11_runInRain cX11_runInRain 2 none 7 [(0, 2), (1, 0)] cvoV DX11_runInRain := snd_V (nw := 2) (by decide) (fun z => by cases z) rfl rfl (fun _ _ => rfl) sBX11_runInRain
theorem dX11_drawn_0 : decode cX11_drawn 0 = .ok (.aload_n 0, 1) := by decide +kernel
theorem dX11_drawn_1 : decode cX11_drawn 1 = .ok (.getfield 26, 3) := by decide +kernel
theorem dX11_drawn_4 : decode cX11_drawn 4 = .ok (.invokevirtual 209, 3) := by decide +kernel
theorem dX11_drawn_7 : decode cX11_drawn 7 = .ok (.ifCond .eq 17, 3) := by decide +kernel
theorem dX11_drawn_10 : decode cX11_drawn 10 = .ok (.iload_n 1, 1) := by decide +kernel
theorem dX11_drawn_11 : decode cX11_drawn 11 = .ok (.invokestatic 406, 3) := by decide +kernel
theorem dX11_drawn_14 : decode cX11_drawn 14 = .ok (.ifCond .eq 10, 3) := by decide +kernel
theorem dX11_drawn_17 : decode cX11_drawn 17 = .ok (.iload_n 2, 1) := by decide +kernel
theorem dX11_drawn_18 : decode cX11_drawn 18 = .ok (.invokestatic 131, 3) := by decide +kernel
theorem dX11_drawn_21 : decode cX11_drawn 21 = .ok (.ifCond .ne 6, 3) := by decide +kernel
theorem dX11_drawn_24 : decode cX11_drawn 24 = .ok (.bipush (-2), 2) := by decide +kernel
theorem dX11_drawn_26 : decode cX11_drawn 26 = .ok (.ireturn, 1) := by decide +kernel
theorem dX11_drawn_27 : decode cX11_drawn 27 = .ok (.aload_n 0, 1) := by decide +kernel
theorem dX11_drawn_28 : decode cX11_drawn 28 = .ok (.getfield 71, 3) := by decide +kernel
theorem dX11_drawn_31 : decode cX11_drawn 31 = .ok (.aload_n 0, 1) := by decide +kernel
theorem dX11_drawn_32 : decode cX11_drawn 32 = .ok (.getfield 26, 3) := by decide +kernel
theorem dX11_drawn_35 : decode cX11_drawn 35 = .ok (.iload_n 1, 1) := by decide +kernel
theorem dX11_drawn_36 : decode cX11_drawn 36 = .ok (.i2l, 1) := by decide +kernel
theorem dX11_drawn_37 : decode cX11_drawn 37 = .ok (.invokevirtual 409, 3) := by decide +kernel
theorem dX11_drawn_40 : decode cX11_drawn 40 = .ok (.istore_n 3, 1) := by decide +kernel
theorem dX11_drawn_41 : decode cX11_drawn 41 = .ok (.iload_n 2, 1) := by decide +kernel
theorem dX11_drawn_42 : decode cX11_drawn 42 = .ok (.ifCond .ne 5, 3) := by decide +kernel
theorem dX11_drawn_45 : decode cX11_drawn 45 = .ok (.iload_n 3, 1) := by decide +kernel
theorem dX11_drawn_46 : decode cX11_drawn 46 = .ok (.ireturn, 1) := by decide +kernel
theorem dX11_drawn_47 : decode cX11_drawn 47 = .ok (.aload_n 0, 1) := by decide +kernel
theorem dX11_drawn_48 : decode cX11_drawn 48 = .ok (.iload_n 3, 1) := by decide +kernel
theorem dX11_drawn_49 : decode cX11_drawn 49 = .ok (.invokevirtual 413, 3) := by decide +kernel
theorem dX11_drawn_52 : decode cX11_drawn 52 = .ok (.iconst 0, 1) := by decide +kernel
theorem dX11_drawn_53 : decode cX11_drawn 53 = .ok (.istore 4, 2) := by decide +kernel
theorem dX11_drawn_55 : decode cX11_drawn 55 = .ok (.iconst 0, 1) := by decide +kernel
theorem dX11_drawn_56 : decode cX11_drawn 56 = .ok (.istore 5, 2) := by decide +kernel
theorem dX11_drawn_58 : decode cX11_drawn 58 = .ok (.iload 5, 2) := by decide +kernel
theorem dX11_drawn_60 : decode cX11_drawn 60 = .ok (.aload_n 0, 1) := by decide +kernel
theorem dX11_drawn_61 : decode cX11_drawn 61 = .ok (.getfield 26, 3) := by decide +kernel
theorem dX11_drawn_64 : decode cX11_drawn 64 = .ok (.getfield 248, 3) := by decide +kernel
theorem dX11_drawn_67 : decode cX11_drawn 67 = .ok (.if_icmp .ge 32, 3) := by decide +kernel
theorem dX11_drawn_70 : decode cX11_drawn 70 = .ok (.iload 4, 2) := by decide +kernel
theorem dX11_drawn_72 : decode cX11_drawn 72 = .ok (.aload_n 0, 1) := by decide +kernel
theorem dX11_drawn_73 : decode cX11_drawn 73 = .ok (.getfield 51, 3) := by decide +kernel
theorem dX11_drawn_76 : decode cX11_drawn 76 = .ok (.getfield 332, 3) := by decide +kernel
theorem dX11_drawn_79 : decode cX11_drawn 79 = .ok (.getfield 416, 3) := by decide +kernel
theorem dX11_drawn_82 : decode cX11_drawn 82 = .ok (.iload 5, 2) := by decide +kernel
theorem dX11_drawn_84 : decode cX11_drawn 84 = .ok (.invokestatic 124, 3) := by decide +kernel
theorem dX11_drawn_87 : decode cX11_drawn 87 = .ok (.invokestatic 243, 3) := by decide +kernel
theorem dX11_drawn_90 : decode cX11_drawn 90 = .ok (.iadd, 1) := by decide +kernel
theorem dX11_drawn_91 : decode cX11_drawn 91 = .ok (.istore 4, 2) := by decide +kernel
theorem dX11_drawn_93 : decode cX11_drawn 93 = .ok (.iinc 5 1, 3) := by decide +kernel
theorem dX11_drawn_96 : decode cX11_drawn 96 = .ok (.goto (-38), 3) := by decide +kernel
theorem dX11_drawn_99 : decode cX11_drawn 99 = .ok (.iload 4, 2) := by decide +kernel
theorem dX11_drawn_101 : decode cX11_drawn 101 = .ok (.ireturn, 1) := by decide +kernel
theorem mokX11_drawn : MOK yX11_drawn cX11_drawn 6 (some .int) 2 := ⟨w4_159, w1_1, ⟨by decide, by decide⟩, by decide +kernel, by decide⟩
abbrev miX11_drawn : MI := (yX11_drawn.cls, cX11_drawn, 6, 8, false)
noncomputable def LX11_drawn_1 : Sm Int32 := dLoop (fun f => (sI (sI (sI (sI (sI (sR fr0 0 (gR f 0)) 1 (gI f 1)) 2 (gI f 2)) 3 (gI f 3)) 4 (gI f 4)) 5 (gI f 5))) (dCI r_lt (vI 5) (dGI 5 7 (dGR 11 2 (vR 0)))) (dSetI 4 (d2 o_iadd (vI 4) (dCall DJ6_bitCount_0f7a4 (aI aN 0 (dCall DX11_cell (aI (aR aN 0 (dGR 2 10 (dGR 3 1 (dGR 11 7 (vR 0))))) 1 (vI 5))))))) (dInc 5 1)
theorem sLX11_drawn_1 {ΓL : Gm} {PB PK : List Nat} : SS (cvoI, .ireturn) miX11_drawn ΓL PB PK [(0, 2), (1, 0), (2, 0), (3, 0), (4, 0), (5, 0)] [(0, 2), (1, 0), (2, 0), (3, 0), (4, 0), (5, 0)] 58 [99] LX11_drawn_1 := t_loop (pT := 70) (pF := 99) (pu := 93) (PB' := []) (PK' := []) (XB := [93]) (XU := [96]) (fun _ _ => rfl) rfl (c_lt_F (pF := 99) (s_iload dX11_drawn_58 rfl) (s_getI ck5 7 (by decide) rfl (s_getR ck11 2 (by decide) rfl (s_aload_n dX11_drawn_60 rfl rfl) dX11_drawn_61 w2_198) dX11_drawn_64 w1_160) dX11_drawn_67 rfl) (t_istore (s_iadd (s_iload dX11_drawn_70 rfl) (s_of_xI (x_call (ts := [(0, 0)]) kJ6_bitCount_0f7a4 mokJ6_bitCount_0f7a4 w3_208 rfl rfl rfl (a_I (ts := []) 0 a_nil (s_of_xI (x_call (ts := [(0, 2), (1, 0)]) kX11_cell mokX11_cell w3_26 rfl rfl rfl (a_I (ts := [(0, 2)]) 1 (a_R (ts := []) 0 a_nil (s_getR ck2 10 (by decide) rfl (s_getR ck3 1 (by decide) rfl (s_getR ck11 7 (by decide) rfl (s_aload_n dX11_drawn_72 rfl rfl) dX11_drawn_73 w2_203) dX11_drawn_76 w2_72) dX11_drawn_79 w2_31) rfl) (s_iload dX11_drawn_82 rfl) rfl) dX11_drawn_84 w3_194)) rfl) dX11_drawn_87 w4_38)) dX11_drawn_90) dX11_drawn_91 rfl rfl) (t_iinc dX11_drawn_93 rfl rfl rfl rfl) (lda_cons (ld_in rfl) lda_nil) lda_nil (lda_cons (ld_goto (y := 58) dX11_drawn_96 rfl (ld_in rfl)) lda_nil) (ld_in rfl) lda_nil
noncomputable def BX11_drawn : Sm Int32 := (dSeq (dIf (dOr (dOr (dNot (dCZ q_ne (dCallV 5 DX5_isTold (aR aN 0 (dGR 11 2 (vR 0)))))) (dNot (dCZ q_ne (dCall DX11_isSeed (aI aN 0 (vI 1)))))) (dNot (dCZ q_ne (dCall DX11_isChoice (aI aN 0 (vI 2)))))) (dRet (cI (-2))) dSkip) (dSeq (dSetI 3 (dCallV 10 DX10_rainDrawn (aL (aR (aR aN 0 (dGR 11 10 (vR 0))) 1 (dGR 11 2 (vR 0))) 2 (d1 o_i2l (vI 1))))) (dSeq (dIf (dCZ q_eq (vI 2)) (dRet (vI 3)) dSkip) (dSeq (dDo (dCallV 11 DX11_runInRain (aI (aR aN 0 (vR 0)) 1 (vI 3)))) (dSeq (dSetI 4 (cI 0)) (dSeq (dSeq (dSetI 5 (cI 0)) LX11_drawn_1) (dRet (vI 4))))))))
theorem sBX11_drawn : SS (cvoI, .ireturn) miX11_drawn [] [] [] [(0, 2), (1, 0), (2, 0)] [(0, 2), (1, 0), (2, 0)] 0 [] BX11_drawn := (t_sq (p1 := 27) (Γ' := [(0, 2), (1, 0), (2, 0)]) (t_if (pT := 24) (pF := 27) (X := [27]) (XA := []) (XB := [27]) (c_or (p1 := 17) (pT := 24) (pF := 27) (c_or (p1 := 10) (pT := 24) (pF := 17) (c_not (pT := 24) (pF := 10) (c_ne_ZF (pF := 24) (s_of_xI (x_callV (ts := [(0, 2)]) ck5 rfl kX5_isTold mokX5_isTold w3_41 w3_42 rfl rfl rfl rfl (a_R (ts := []) 0 a_nil (s_getR ck11 2 (by decide) rfl (s_aload_n dX11_drawn_0 rfl rfl) dX11_drawn_1 w2_198) rfl) dX11_drawn_4 w3_173)) dX11_drawn_7 rfl)) (c_not (pT := 24) (pF := 17) (c_ne_ZF (pF := 24) (s_of_xI (x_call (ts := [(0, 0)]) kX11_isSeed mokX11_isSeed w4_161 rfl rfl rfl (a_I (ts := []) 0 a_nil (s_iload_n dX11_drawn_10 rfl rfl) rfl) dX11_drawn_11 w4_160)) dX11_drawn_14 rfl))) (c_not (pT := 24) (pF := 27) (c_ne_ZJ (pT := 27) (s_of_xI (x_call (ts := [(0, 0)]) kX11_isChoice mokX11_isChoice w4_97 rfl rfl rfl (a_I (ts := []) 0 a_nil (s_iload_n dX11_drawn_17 rfl rfl) rfl) dX11_drawn_18 w4_96)) dX11_drawn_21 rfl))) (t_ret (cv := cvI) (fun _ _ => rfl) (s_bipush dX11_drawn_24 rfl) dX11_drawn_26) (t_skip (ld_in rfl) rfl) lda_nil (lda_cons (ld_in rfl) lda_nil)) (t_sq (p1 := 41) (Γ' := [(0, 2), (1, 0), (2, 0), (3, 0)]) (t_istore_n (s_of_xI (x_callV (ts := [(0, 2), (1, 2), (2, 1)]) ck10 rfl kX10_rainDrawn mokX10_rainDrawn w4_165 w4_166 rfl rfl rfl rfl (a_L (ts := [(0, 2), (1, 2)]) 2 (a_R (ts := [(0, 2)]) 1 (a_R (ts := []) 0 a_nil (s_getR ck11 10 (by decide) rfl (s_aload_n dX11_drawn_27 rfl rfl) dX11_drawn_28 w2_206) rfl) (s_getR ck11 2 (by decide) rfl (s_aload_n dX11_drawn_31 rfl rfl) dX11_drawn_32 w2_198) rfl) (s_i2l (s_iload_n dX11_drawn_35 rfl rfl) dX11_drawn_36) rfl) dX11_drawn_37 w4_164)) dX11_drawn_40 rfl rfl rfl) (t_sq (p1 := 47) (Γ' := [(0, 2), (1, 0), (2, 0), (3, 0)]) (t_if (pT := 45) (pF := 47) (X := [47]) (XA := []) (XB := [47]) (c_eq_ZF (pF := 47) (s_iload_n dX11_drawn_41 rfl rfl) dX11_drawn_42 rfl) (t_ret (cv := cvI) (fun _ _ => rfl) (s_iload_n dX11_drawn_45 rfl rfl) dX11_drawn_46) (t_skip (ld_in rfl) rfl) lda_nil (lda_cons (ld_in rfl) lda_nil)) (t_sq (p1 := 52) (Γ' := [(0, 2), (1, 0), (2, 0), (3, 0)]) (t_do (x_callV (ts := [(0, 2), (1, 0)]) ck11 rfl kX11_runInRain mokX11_runInRain w4_175 ps2_2 rfl rfl rfl rfl (a_I (ts := [(0, 2)]) 1 (a_R (ts := []) 0 a_nil (s_aload_n dX11_drawn_47 rfl rfl) rfl) (s_iload_n dX11_drawn_48 rfl rfl) rfl) dX11_drawn_49 w4_173) rfl) (t_sq (p1 := 55) (Γ' := [(0, 2), (1, 0), (2, 0), (3, 0), (4, 0)]) (t_istore (s_iconst dX11_drawn_52 rfl) dX11_drawn_53 rfl rfl) (t_sq (p1 := 99) (Γ' := [(0, 2), (1, 0), (2, 0), (3, 0), (4, 0)]) (t_sq (p1 := 58) (Γ' := [(0, 2), (1, 0), (2, 0), (3, 0), (4, 0), (5, 0)]) (t_istore (s_iconst dX11_drawn_55 rfl) dX11_drawn_56 rfl rfl) (tn_to (Γ' := [(0, 2), (1, 0), (2, 0), (3, 0), (4, 0), (5, 0)]) (XA := [99]) sLX11_drawn_1 (lda_cons (ld_in rfl) lda_nil) rfl)) (t_ret (cv := cvI) (fun _ _ => rfl) (s_iload dX11_drawn_99 rfl) dX11_drawn_101)))))))
noncomputable def DX11_drawn : Fr → St → Option (Int32 × St) := M1 (fun f => (sI (sI (sR fr0 0 (gR f 0)) 1 (gI f 1)) 2 (gI f 2))) BX11_drawn
theorem kX11_drawn : SND yX11_drawn cX11_drawn 6 (some .int) 8 [(0, 2), (1, 0), (2, 0)] cvoI DX11_drawn := snd_I (nw := 3) (by decide) rfl rfl (fun _ _ => rfl) sBX11_drawn
theorem dX8_howMany_0 : decode cX8_howMany 0 = .ok (.iconst 0, 1) := by decide +kernel
theorem dX8_howMany_1 : decode cX8_howMany 1 = .ok (.istore_n 1, 1) := by decide +kernel
theorem dX8_howMany_2 : decode cX8_howMany 2 = .ok (.iconst 0, 1) := by decide +kernel
theorem dX8_howMany_3 : decode cX8_howMany 3 = .ok (.istore_n 2, 1) := by decide +kernel
theorem dX8_howMany_4 : decode cX8_howMany 4 = .ok (.iload_n 2, 1) := by decide +kernel
theorem dX8_howMany_5 : decode cX8_howMany 5 = .ok (.iconst 4, 1) := by decide +kernel
theorem dX8_howMany_6 : decode cX8_howMany 6 = .ok (.if_icmp .ge 20, 3) := by decide +kernel
theorem dX8_howMany_9 : decode cX8_howMany 9 = .ok (.aload_n 0, 1) := by decide +kernel
theorem dX8_howMany_10 : decode cX8_howMany 10 = .ok (.iload_n 2, 1) := by decide +kernel
theorem dX8_howMany_11 : decode cX8_howMany 11 = .ok (.invokevirtual 26, 3) := by decide +kernel
theorem dX8_howMany_14 : decode cX8_howMany 14 = .ok (.ifCond .eq 6, 3) := by decide +kernel
theorem dX8_howMany_17 : decode cX8_howMany 17 = .ok (.iinc 1 1, 3) := by decide +kernel
theorem dX8_howMany_20 : decode cX8_howMany 20 = .ok (.iinc 2 1, 3) := by decide +kernel
theorem dX8_howMany_23 : decode cX8_howMany 23 = .ok (.goto (-19), 3) := by decide +kernel
theorem dX8_howMany_26 : decode cX8_howMany 26 = .ok (.iload_n 1, 1) := by decide +kernel
theorem dX8_howMany_27 : decode cX8_howMany 27 = .ok (.ireturn, 1) := by decide +kernel
theorem mokX8_howMany : MOK yX8_howMany cX8_howMany 3 (some .int) 0 := ⟨w4_184, w1_6, ⟨by decide, by decide⟩, by decide +kernel, by decide⟩
abbrev miX8_howMany : MI := (yX8_howMany.cls, cX8_howMany, 3, 3, false)
noncomputable def LX8_howMany_1 : Sm Int32 := dLoop (fun f => (sI (sI (sR fr0 0 (gR f 0)) 1 (gI f 1)) 2 (gI f 2))) (dCI r_lt (vI 2) (cI 4)) (dIf (dCZ q_ne (dCallV 8 DX8_hasRow (aI (aR aN 0 (vR 0)) 1 (vI 2)))) (dInc 1 1) dSkip) (dInc 2 1)
theorem sLX8_howMany_1 {ΓL : Gm} {PB PK : List Nat} : SS (cvoI, .ireturn) miX8_howMany ΓL PB PK [(0, 2), (1, 0), (2, 0)] [(0, 2), (1, 0), (2, 0)] 4 [26] LX8_howMany_1 := t_loop (pT := 9) (pF := 26) (pu := 20) (PB' := []) (PK' := []) (XB := [20]) (XU := [23]) (fun _ _ => rfl) rfl (c_lt_F (pF := 26) (s_iload_n dX8_howMany_4 rfl rfl) (s_iconst dX8_howMany_5 rfl) dX8_howMany_6 rfl) (t_if (pT := 17) (pF := 20) (X := [20]) (XA := [20]) (XB := [20]) (c_ne_ZF (pF := 20) (s_of_xI (x_callV (ts := [(0, 2), (1, 0)]) ck8 rfl kX8_hasRow mokX8_hasRow w4_64 w4_65 rfl rfl rfl rfl (a_I (ts := [(0, 2)]) 1 (a_R (ts := []) 0 a_nil (s_aload_n dX8_howMany_9 rfl rfl) rfl) (s_iload_n dX8_howMany_10 rfl rfl) rfl) dX8_howMany_11 w4_185)) dX8_howMany_14 rfl) (t_iinc dX8_howMany_17 rfl rfl rfl rfl) (t_skip (ld_in rfl) rfl) (lda_cons (ld_in rfl) lda_nil) (lda_cons (ld_in rfl) lda_nil)) (t_iinc dX8_howMany_20 rfl rfl rfl rfl) (lda_cons (ld_in rfl) lda_nil) lda_nil (lda_cons (ld_goto (y := 4) dX8_howMany_23 rfl (ld_in rfl)) lda_nil) (ld_in rfl) lda_nil
noncomputable def BX8_howMany : Sm Int32 := (dSeq (dSetI 1 (cI 0)) (dSeq (dSeq (dSetI 2 (cI 0)) LX8_howMany_1) (dRet (vI 1))))
theorem sBX8_howMany : SS (cvoI, .ireturn) miX8_howMany [] [] [] [(0, 2)] [(0, 2)] 0 [] BX8_howMany := (t_sq (p1 := 2) (Γ' := [(0, 2), (1, 0)]) (t_istore_n (s_iconst dX8_howMany_0 rfl) dX8_howMany_1 rfl rfl rfl) (t_sq (p1 := 26) (Γ' := [(0, 2), (1, 0)]) (t_sq (p1 := 4) (Γ' := [(0, 2), (1, 0), (2, 0)]) (t_istore_n (s_iconst dX8_howMany_2 rfl) dX8_howMany_3 rfl rfl rfl) (tn_to (Γ' := [(0, 2), (1, 0), (2, 0)]) (XA := [26]) sLX8_howMany_1 (lda_cons (ld_in rfl) lda_nil) rfl)) (t_ret (cv := cvI) (fun _ _ => rfl) (s_iload_n dX8_howMany_26 rfl rfl) dX8_howMany_27)))
noncomputable def DX8_howMany : Fr → St → Option (Int32 × St) := M1 (fun f => (sR fr0 0 (gR f 0))) BX8_howMany
theorem kX8_howMany : SND yX8_howMany cX8_howMany 3 (some .int) 3 [(0, 2)] cvoI DX8_howMany := snd_I (nw := 1) (by decide) rfl rfl (fun _ _ => rfl) sBX8_howMany
theorem dX11_count_0 : decode cX11_count 0 = .ok (.iload_n 1, 1) := by decide +kernel
theorem dX11_count_1 : decode cX11_count 1 = .ok (.tableswitch 165 0 11 #[63, 71, 79, 87, 95, 103, 111, 119, 130, 141, 149, 157], 63) := by decide +kernel
theorem dX11_count_64 : decode cX11_count 64 = .ok (.aload_n 0, 1) := by decide +kernel
theorem dX11_count_65 : decode cX11_count 65 = .ok (.getfield 26, 3) := by decide +kernel
theorem dX11_count_68 : decode cX11_count 68 = .ok (.getfield 200, 3) := by decide +kernel
theorem dX11_count_71 : decode cX11_count 71 = .ok (.ireturn, 1) := by decide +kernel
theorem dX11_count_72 : decode cX11_count 72 = .ok (.aload_n 0, 1) := by decide +kernel
theorem dX11_count_73 : decode cX11_count 73 = .ok (.getfield 26, 3) := by decide +kernel
theorem dX11_count_76 : decode cX11_count 76 = .ok (.getfield 422, 3) := by decide +kernel
theorem dX11_count_79 : decode cX11_count 79 = .ok (.ireturn, 1) := by decide +kernel
theorem dX11_count_80 : decode cX11_count 80 = .ok (.aload_n 0, 1) := by decide +kernel
theorem dX11_count_81 : decode cX11_count 81 = .ok (.getfield 26, 3) := by decide +kernel
theorem dX11_count_84 : decode cX11_count 84 = .ok (.getfield 423, 3) := by decide +kernel
theorem dX11_count_87 : decode cX11_count 87 = .ok (.ireturn, 1) := by decide +kernel
theorem dX11_count_88 : decode cX11_count 88 = .ok (.aload_n 0, 1) := by decide +kernel
theorem dX11_count_89 : decode cX11_count 89 = .ok (.getfield 26, 3) := by decide +kernel
theorem dX11_count_92 : decode cX11_count 92 = .ok (.getfield 193, 3) := by decide +kernel
theorem dX11_count_95 : decode cX11_count 95 = .ok (.ireturn, 1) := by decide +kernel
theorem dX11_count_96 : decode cX11_count 96 = .ok (.aload_n 0, 1) := by decide +kernel
theorem dX11_count_97 : decode cX11_count 97 = .ok (.getfield 26, 3) := by decide +kernel
theorem dX11_count_100 : decode cX11_count 100 = .ok (.getfield 302, 3) := by decide +kernel
theorem dX11_count_103 : decode cX11_count 103 = .ok (.ireturn, 1) := by decide +kernel
theorem dX11_count_104 : decode cX11_count 104 = .ok (.aload_n 0, 1) := by decide +kernel
theorem dX11_count_105 : decode cX11_count 105 = .ok (.getfield 26, 3) := by decide +kernel
theorem dX11_count_108 : decode cX11_count 108 = .ok (.getfield 274, 3) := by decide +kernel
theorem dX11_count_111 : decode cX11_count 111 = .ok (.ireturn, 1) := by decide +kernel
theorem dX11_count_112 : decode cX11_count 112 = .ok (.aload_n 0, 1) := by decide +kernel
theorem dX11_count_113 : decode cX11_count 113 = .ok (.getfield 26, 3) := by decide +kernel
theorem dX11_count_116 : decode cX11_count 116 = .ok (.getfield 248, 3) := by decide +kernel
theorem dX11_count_119 : decode cX11_count 119 = .ok (.ireturn, 1) := by decide +kernel
theorem dX11_count_120 : decode cX11_count 120 = .ok (.aload_n 0, 1) := by decide +kernel
theorem dX11_count_121 : decode cX11_count 121 = .ok (.getfield 26, 3) := by decide +kernel
theorem dX11_count_124 : decode cX11_count 124 = .ok (.getfield 213, 3) := by decide +kernel
theorem dX11_count_127 : decode cX11_count 127 = .ok (.getfield 403, 3) := by decide +kernel
theorem dX11_count_130 : decode cX11_count 130 = .ok (.ireturn, 1) := by decide +kernel
theorem dX11_count_131 : decode cX11_count 131 = .ok (.aload_n 0, 1) := by decide +kernel
theorem dX11_count_132 : decode cX11_count 132 = .ok (.getfield 26, 3) := by decide +kernel
theorem dX11_count_135 : decode cX11_count 135 = .ok (.getfield 213, 3) := by decide +kernel
theorem dX11_count_138 : decode cX11_count 138 = .ok (.getfield 388, 3) := by decide +kernel
theorem dX11_count_141 : decode cX11_count 141 = .ok (.ireturn, 1) := by decide +kernel
theorem dX11_count_142 : decode cX11_count 142 = .ok (.aload_n 0, 1) := by decide +kernel
theorem dX11_count_143 : decode cX11_count 143 = .ok (.getfield 26, 3) := by decide +kernel
theorem dX11_count_146 : decode cX11_count 146 = .ok (.getfield 108, 3) := by decide +kernel
theorem dX11_count_149 : decode cX11_count 149 = .ok (.ireturn, 1) := by decide +kernel
theorem dX11_count_150 : decode cX11_count 150 = .ok (.aload_n 0, 1) := by decide +kernel
theorem dX11_count_151 : decode cX11_count 151 = .ok (.getfield 12, 3) := by decide +kernel
theorem dX11_count_154 : decode cX11_count 154 = .ok (.getfield 89, 3) := by decide +kernel
theorem dX11_count_157 : decode cX11_count 157 = .ok (.ireturn, 1) := by decide +kernel
theorem dX11_count_158 : decode cX11_count 158 = .ok (.aload_n 0, 1) := by decide +kernel
theorem dX11_count_159 : decode cX11_count 159 = .ok (.getfield 40, 3) := by decide +kernel
theorem dX11_count_162 : decode cX11_count 162 = .ok (.invokevirtual 426, 3) := by decide +kernel
theorem dX11_count_165 : decode cX11_count 165 = .ok (.ireturn, 1) := by decide +kernel
theorem dX11_count_166 : decode cX11_count 166 = .ok (.iconst (-1), 1) := by decide +kernel
theorem dX11_count_167 : decode cX11_count 167 = .ok (.ireturn, 1) := by decide +kernel
theorem mokX11_count : MOK yX11_count cX11_count 2 (some .int) 1 := ⟨w4_180, w1_1, ⟨by decide, by decide⟩, by decide +kernel, by decide⟩
abbrev miX11_count : MI := (yX11_count.cls, cX11_count, 2, 4, false)
noncomputable def BX11_count : Sm Int32 := (dSw 0 (vI 1) [(dRet (dGI 5 1 (dGR 11 2 (vR 0)))), (dRet (dGI 5 2 (dGR 11 2 (vR 0)))), (dRet (dGI 5 3 (dGR 11 2 (vR 0)))), (dRet (dGI 5 4 (dGR 11 2 (vR 0)))), (dRet (dGI 5 5 (dGR 11 2 (vR 0)))), (dRet (dGI 5 6 (dGR 11 2 (vR 0)))), (dRet (dGI 5 7 (dGR 11 2 (vR 0)))), (dRet (dGI 1 0 (dGR 5 16 (dGR 11 2 (vR 0))))), (dRet (dGI 1 2 (dGR 5 16 (dGR 11 2 (vR 0))))), (dRet (dGI 5 0 (dGR 11 2 (vR 0)))), (dRet (dGI 9 1 (dGR 11 0 (vR 0)))), (dRet (dCallV 8 DX8_howMany (aR aN 0 (dGR 11 5 (vR 0)))))] (dRet (cI (-1))))
theorem sBX11_count : SS (cvoI, .ireturn) miX11_count [] [] [] [(0, 2), (1, 0)] [(0, 2), (1, 0)] 0 [] BX11_count := (t_sw (PK := []) (X := []) (ps := [64, 72, 80, 88, 96, 104, 112, 120, 131, 142, 150, 158]) (lo := 0) (pD := 166) (s_iload_n dX11_count_0 rfl rfl) dX11_count_1 rfl rfl rfl ⟨(t_ret (cv := cvI) (fun _ _ => rfl) (s_getI ck5 1 (by decide) rfl (s_getR ck11 2 (by decide) rfl (s_aload_n dX11_count_64 rfl rfl) dX11_count_65 w2_198) dX11_count_68 w1_133) dX11_count_71), ⟨(t_ret (cv := cvI) (fun _ _ => rfl) (s_getI ck5 2 (by decide) rfl (s_getR ck11 2 (by decide) rfl (s_aload_n dX11_count_72 rfl rfl) dX11_count_73 w2_198) dX11_count_76 w1_138) dX11_count_79), ⟨(t_ret (cv := cvI) (fun _ _ => rfl) (s_getI ck5 3 (by decide) rfl (s_getR ck11 2 (by decide) rfl (s_aload_n dX11_count_80 rfl rfl) dX11_count_81 w2_198) dX11_count_84 w1_142) dX11_count_87), ⟨(t_ret (cv := cvI) (fun _ _ => rfl) (s_getI ck5 4 (by decide) rfl (s_getR ck11 2 (by decide) rfl (s_aload_n dX11_count_88 rfl rfl) dX11_count_89 w2_198) dX11_count_92 w1_149) dX11_count_95), ⟨(t_ret (cv := cvI) (fun _ _ => rfl) (s_getI ck5 5 (by decide) rfl (s_getR ck11 2 (by decide) rfl (s_aload_n dX11_count_96 rfl rfl) dX11_count_97 w2_198) dX11_count_100 w1_152) dX11_count_103), ⟨(t_ret (cv := cvI) (fun _ _ => rfl) (s_getI ck5 6 (by decide) rfl (s_getR ck11 2 (by decide) rfl (s_aload_n dX11_count_104 rfl rfl) dX11_count_105 w2_198) dX11_count_108 w1_156) dX11_count_111), ⟨(t_ret (cv := cvI) (fun _ _ => rfl) (s_getI ck5 7 (by decide) rfl (s_getR ck11 2 (by decide) rfl (s_aload_n dX11_count_112 rfl rfl) dX11_count_113 w2_198) dX11_count_116 w1_160) dX11_count_119), ⟨(t_ret (cv := cvI) (fun _ _ => rfl) (s_getI ck1 0 (by decide) rfl (s_getR ck5 16 (by decide) rfl (s_getR ck11 2 (by decide) rfl (s_aload_n dX11_count_120 rfl rfl) dX11_count_121 w2_198) dX11_count_124 w1_185) dX11_count_127 w1_86) dX11_count_130), ⟨(t_ret (cv := cvI) (fun _ _ => rfl) (s_getI ck1 2 (by decide) rfl (s_getR ck5 16 (by decide) rfl (s_getR ck11 2 (by decide) rfl (s_aload_n dX11_count_131 rfl rfl) dX11_count_132 w2_198) dX11_count_135 w1_185) dX11_count_138 w1_93) dX11_count_141), ⟨(t_ret (cv := cvI) (fun _ _ => rfl) (s_getI ck5 0 (by decide) rfl (s_getR ck11 2 (by decide) rfl (s_aload_n dX11_count_142 rfl rfl) dX11_count_143 w2_198) dX11_count_146 w1_126) dX11_count_149), ⟨(t_ret (cv := cvI) (fun _ _ => rfl) (s_getI ck9 1 (by decide) rfl (s_getR ck11 0 (by decide) rfl (s_aload_n dX11_count_150 rfl rfl) dX11_count_151 w2_196) dX11_count_154 w1_36) dX11_count_157), ⟨(t_ret (cv := cvI) (fun _ _ => rfl) (s_of_xI (x_callV (ts := [(0, 2)]) ck8 rfl kX8_howMany mokX8_howMany w4_182 w4_183 rfl rfl rfl rfl (a_R (ts := []) 0 a_nil (s_getR ck11 5 (by decide) rfl (s_aload_n dX11_count_158 rfl rfl) dX11_count_159 w2_201) rfl) dX11_count_162 w4_181)) dX11_count_165), trivial⟩⟩⟩⟩⟩⟩⟩⟩⟩⟩⟩⟩ (t_ret (cv := cvI) (fun _ _ => rfl) (s_iconst dX11_count_166 rfl) dX11_count_167) rfl)
noncomputable def DX11_count : Fr → St → Option (Int32 × St) := M1 (fun f => (sI (sR fr0 0 (gR f 0)) 1 (gI f 1))) BX11_count
theorem kX11_count : SND yX11_count cX11_count 2 (some .int) 4 [(0, 2), (1, 0)] cvoI DX11_count := snd_I (nw := 2) (by decide) rfl rfl (fun _ _ => rfl) sBX11_count
theorem dX11_image_0 : decode cX11_image 0 = .ok (.iload_n 1, 1) := by decide +kernel
theorem dX11_image_1 : decode cX11_image 1 = .ok (.ifCond .lt 12, 3) := by decide +kernel
theorem dX11_image_4 : decode cX11_image 4 = .ok (.iload_n 1, 1) := by decide +kernel
theorem dX11_image_5 : decode cX11_image 5 = .ok (.aload_n 0, 1) := by decide +kernel
theorem dX11_image_6 : decode cX11_image 6 = .ok (.getfield 33, 3) := by decide +kernel
theorem dX11_image_9 : decode cX11_image 9 = .ok (.arraylength, 1) := by decide +kernel
theorem dX11_image_10 : decode cX11_image 10 = .ok (.if_icmp .lt 6, 3) := by decide +kernel
theorem dX11_image_13 : decode cX11_image 13 = .ok (.bipush (-2), 2) := by decide +kernel
theorem dX11_image_15 : decode cX11_image 15 = .ok (.ireturn, 1) := by decide +kernel
theorem dX11_image_16 : decode cX11_image 16 = .ok (.aload_n 0, 1) := by decide +kernel
theorem dX11_image_17 : decode cX11_image 17 = .ok (.getfield 33, 3) := by decide +kernel
theorem dX11_image_20 : decode cX11_image 20 = .ok (.iload_n 1, 1) := by decide +kernel
theorem dX11_image_21 : decode cX11_image 21 = .ok (.aaload, 1) := by decide +kernel
theorem dX11_image_22 : decode cX11_image 22 = .ok (.ifnonnull 16, 3) := by decide +kernel
theorem dX11_image_25 : decode cX11_image 25 = .ok (.aload_n 0, 1) := by decide +kernel
theorem dX11_image_26 : decode cX11_image 26 = .ok (.getfield 33, 3) := by decide +kernel
theorem dX11_image_29 : decode cX11_image 29 = .ok (.iload_n 1, 1) := by decide +kernel
theorem dX11_image_30 : decode cX11_image 30 = .ok (.new 23, 3) := by decide +kernel
theorem dX11_image_33 : decode cX11_image 33 = .ok (.dup, 1) := by decide +kernel
theorem dX11_image_34 : decode cX11_image 34 = .ok (.invokespecial 25, 3) := by decide +kernel
theorem dX11_image_37 : decode cX11_image 37 = .ok (.aastore, 1) := by decide +kernel
theorem dX11_image_38 : decode cX11_image 38 = .ok (.aload_n 0, 1) := by decide +kernel
theorem dX11_image_39 : decode cX11_image 39 = .ok (.getfield 33, 3) := by decide +kernel
theorem dX11_image_42 : decode cX11_image 42 = .ok (.iload_n 1, 1) := by decide +kernel
theorem dX11_image_43 : decode cX11_image 43 = .ok (.aaload, 1) := by decide +kernel
theorem dX11_image_44 : decode cX11_image 44 = .ok (.aload_n 0, 1) := by decide +kernel
theorem dX11_image_45 : decode cX11_image 45 = .ok (.getfield 26, 3) := by decide +kernel
theorem dX11_image_48 : decode cX11_image 48 = .ok (.invokevirtual 101, 3) := by decide +kernel
theorem dX11_image_51 : decode cX11_image 51 = .ok (.iconst 0, 1) := by decide +kernel
theorem dX11_image_52 : decode cX11_image 52 = .ok (.ireturn, 1) := by decide +kernel
theorem mokX11_image : MOK yX11_image cX11_image 2 (some .int) 1 := ⟨w4_189, w1_1, ⟨by decide, by decide⟩, by decide +kernel, by decide⟩
abbrev miX11_image : MI := (yX11_image.cls, cX11_image, 2, 3, false)
noncomputable def BX11_image : Sm Int32 := (dSeq (dIf (dOr (dCZ q_lt (vI 1)) (dCI r_ge (vI 1) (dLen (dGR 11 4 (vR 0))))) (dRet (cI (-2))) dSkip) (dSeq (dIf (dNot (dNN (dAR (dGR 11 4 (vR 0)) (vI 1)))) (d3 stR (dGR 11 4 (vR 0)) (vI 1) (dNewC 5 DX5_init)) dSkip) (dSeq (dDo (dCallV 5 DX5_copy (aR (aR aN 0 (dAR (dGR 11 4 (vR 0)) (vI 1))) 1 (dGR 11 2 (vR 0))))) (dRet (cI 0)))))
theorem sBX11_image : SS (cvoI, .ireturn) miX11_image [] [] [] [(0, 2), (1, 0)] [(0, 2), (1, 0)] 0 [] BX11_image := (t_sq (p1 := 16) (Γ' := [(0, 2), (1, 0)]) (t_if (pT := 13) (pF := 16) (X := [16]) (XA := []) (XB := [16]) (c_or (p1 := 4) (pT := 13) (pF := 16) (c_lt_ZJ (pT := 13) (s_iload_n dX11_image_0 rfl rfl) dX11_image_1 rfl) (c_ge_F (pF := 16) (s_iload_n dX11_image_4 rfl rfl) (s_len (s_getR ck11 4 (by decide) rfl (s_aload_n dX11_image_5 rfl rfl) dX11_image_6 w2_200) dX11_image_9) dX11_image_10 rfl)) (t_ret (cv := cvI) (fun _ _ => rfl) (s_bipush dX11_image_13 rfl) dX11_image_15) (t_skip (ld_in rfl) rfl) lda_nil (lda_cons (ld_in rfl) lda_nil)) (t_sq (p1 := 38) (Γ' := [(0, 2), (1, 0)]) (t_if (pT := 25) (pF := 38) (X := [38]) (XA := [38]) (XB := [38]) (c_not (pT := 25) (pF := 38) (c_nn_J (pT := 38) (s_dAR (s_getR ck11 4 (by decide) rfl (s_aload_n dX11_image_16 rfl rfl) dX11_image_17 w2_200) (s_iload_n dX11_image_20 rfl rfl) dX11_image_21) dX11_image_22 rfl)) (t_stR (s_getR ck11 4 (by decide) rfl (s_aload_n dX11_image_25 rfl rfl) dX11_image_26 w2_200) (s_iload_n dX11_image_29 rfl rfl) (s_newN ck5 kX5_init mokX5_init rfl w1_75 w1_72 w1_73 w1_4 df5 rfl rfl dX11_image_30 dX11_image_33 dX11_image_34 nb2 rfl) dX11_image_37 rfl) (t_skip (ld_in rfl) rfl) (lda_cons (ld_in rfl) lda_nil) (lda_cons (ld_in rfl) lda_nil)) (t_sq (p1 := 51) (Γ' := [(0, 2), (1, 0)]) (t_do (x_callV (ts := [(0, 2), (1, 2)]) ck5 rfl kX5_copy mokX5_copy w4_191 w4_192 rfl rfl rfl rfl (a_R (ts := [(0, 2)]) 1 (a_R (ts := []) 0 a_nil (s_dAR (s_getR ck11 4 (by decide) rfl (s_aload_n dX11_image_38 rfl rfl) dX11_image_39 w2_200) (s_iload_n dX11_image_42 rfl rfl) dX11_image_43) rfl) (s_getR ck11 2 (by decide) rfl (s_aload_n dX11_image_44 rfl rfl) dX11_image_45 w2_198) rfl) dX11_image_48 w4_190) rfl) (t_ret (cv := cvI) (fun _ _ => rfl) (s_iconst dX11_image_51 rfl) dX11_image_52))))
noncomputable def DX11_image : Fr → St → Option (Int32 × St) := M1 (fun f => (sI (sR fr0 0 (gR f 0)) 1 (gI f 1))) BX11_image
theorem kX11_image : SND yX11_image cX11_image 2 (some .int) 3 [(0, 2), (1, 0)] cvoI DX11_image := snd_I (nw := 2) (by decide) rfl rfl (fun _ _ => rfl) sBX11_image
theorem dX11_back_0 : decode cX11_back 0 = .ok (.iload_n 1, 1) := by decide +kernel
theorem dX11_back_1 : decode cX11_back 1 = .ok (.ifCond .lt 12, 3) := by decide +kernel
theorem dX11_back_4 : decode cX11_back 4 = .ok (.iload_n 1, 1) := by decide +kernel
theorem dX11_back_5 : decode cX11_back 5 = .ok (.aload_n 0, 1) := by decide +kernel
theorem dX11_back_6 : decode cX11_back 6 = .ok (.getfield 33, 3) := by decide +kernel
theorem dX11_back_9 : decode cX11_back 9 = .ok (.arraylength, 1) := by decide +kernel
theorem dX11_back_10 : decode cX11_back 10 = .ok (.if_icmp .lt 6, 3) := by decide +kernel
theorem dX11_back_13 : decode cX11_back 13 = .ok (.bipush (-2), 2) := by decide +kernel
theorem dX11_back_15 : decode cX11_back 15 = .ok (.ireturn, 1) := by decide +kernel
theorem dX11_back_16 : decode cX11_back 16 = .ok (.aload_n 0, 1) := by decide +kernel
theorem dX11_back_17 : decode cX11_back 17 = .ok (.getfield 33, 3) := by decide +kernel
theorem dX11_back_20 : decode cX11_back 20 = .ok (.iload_n 1, 1) := by decide +kernel
theorem dX11_back_21 : decode cX11_back 21 = .ok (.aaload, 1) := by decide +kernel
theorem dX11_back_22 : decode cX11_back 22 = .ok (.ifnonnull 6, 3) := by decide +kernel
theorem dX11_back_25 : decode cX11_back 25 = .ok (.bipush (-6), 2) := by decide +kernel
theorem dX11_back_27 : decode cX11_back 27 = .ok (.ireturn, 1) := by decide +kernel
theorem dX11_back_28 : decode cX11_back 28 = .ok (.aload_n 0, 1) := by decide +kernel
theorem dX11_back_29 : decode cX11_back 29 = .ok (.getfield 26, 3) := by decide +kernel
theorem dX11_back_32 : decode cX11_back 32 = .ok (.aload_n 0, 1) := by decide +kernel
theorem dX11_back_33 : decode cX11_back 33 = .ok (.getfield 33, 3) := by decide +kernel
theorem dX11_back_36 : decode cX11_back 36 = .ok (.iload_n 1, 1) := by decide +kernel
theorem dX11_back_37 : decode cX11_back 37 = .ok (.aaload, 1) := by decide +kernel
theorem dX11_back_38 : decode cX11_back 38 = .ok (.invokevirtual 101, 3) := by decide +kernel
theorem dX11_back_41 : decode cX11_back 41 = .ok (.aload_n 0, 1) := by decide +kernel
theorem dX11_back_42 : decode cX11_back 42 = .ok (.invokevirtual 105, 3) := by decide +kernel
theorem dX11_back_45 : decode cX11_back 45 = .ok (.iconst 0, 1) := by decide +kernel
theorem dX11_back_46 : decode cX11_back 46 = .ok (.ireturn, 1) := by decide +kernel
theorem mokX11_back : MOK yX11_back cX11_back 2 (some .int) 1 := ⟨w4_203, w1_1, ⟨by decide, by decide⟩, by decide +kernel, by decide⟩
abbrev miX11_back : MI := (yX11_back.cls, cX11_back, 2, 3, false)
noncomputable def BX11_back : Sm Int32 := (dSeq (dIf (dOr (dCZ q_lt (vI 1)) (dCI r_ge (vI 1) (dLen (dGR 11 4 (vR 0))))) (dRet (cI (-2))) dSkip) (dSeq (dIf (dNot (dNN (dAR (dGR 11 4 (vR 0)) (vI 1)))) (dRet (cI (-6))) dSkip) (dSeq (dDo (dCallV 5 DX5_copy (aR (aR aN 0 (dGR 11 2 (vR 0))) 1 (dAR (dGR 11 4 (vR 0)) (vI 1))))) (dSeq (dDo (dCallV 11 DX11_makeStale (aR aN 0 (vR 0)))) (dRet (cI 0))))))
theorem sBX11_back : SS (cvoI, .ireturn) miX11_back [] [] [] [(0, 2), (1, 0)] [(0, 2), (1, 0)] 0 [] BX11_back := (t_sq (p1 := 16) (Γ' := [(0, 2), (1, 0)]) (t_if (pT := 13) (pF := 16) (X := [16]) (XA := []) (XB := [16]) (c_or (p1 := 4) (pT := 13) (pF := 16) (c_lt_ZJ (pT := 13) (s_iload_n dX11_back_0 rfl rfl) dX11_back_1 rfl) (c_ge_F (pF := 16) (s_iload_n dX11_back_4 rfl rfl) (s_len (s_getR ck11 4 (by decide) rfl (s_aload_n dX11_back_5 rfl rfl) dX11_back_6 w2_200) dX11_back_9) dX11_back_10 rfl)) (t_ret (cv := cvI) (fun _ _ => rfl) (s_bipush dX11_back_13 rfl) dX11_back_15) (t_skip (ld_in rfl) rfl) lda_nil (lda_cons (ld_in rfl) lda_nil)) (t_sq (p1 := 28) (Γ' := [(0, 2), (1, 0)]) (t_if (pT := 25) (pF := 28) (X := [28]) (XA := []) (XB := [28]) (c_not (pT := 25) (pF := 28) (c_nn_J (pT := 28) (s_dAR (s_getR ck11 4 (by decide) rfl (s_aload_n dX11_back_16 rfl rfl) dX11_back_17 w2_200) (s_iload_n dX11_back_20 rfl rfl) dX11_back_21) dX11_back_22 rfl)) (t_ret (cv := cvI) (fun _ _ => rfl) (s_bipush dX11_back_25 rfl) dX11_back_27) (t_skip (ld_in rfl) rfl) lda_nil (lda_cons (ld_in rfl) lda_nil)) (t_sq (p1 := 41) (Γ' := [(0, 2), (1, 0)]) (t_do (x_callV (ts := [(0, 2), (1, 2)]) ck5 rfl kX5_copy mokX5_copy w4_191 w4_192 rfl rfl rfl rfl (a_R (ts := [(0, 2)]) 1 (a_R (ts := []) 0 a_nil (s_getR ck11 2 (by decide) rfl (s_aload_n dX11_back_28 rfl rfl) dX11_back_29 w2_198) rfl) (s_dAR (s_getR ck11 4 (by decide) rfl (s_aload_n dX11_back_32 rfl rfl) dX11_back_33 w2_200) (s_iload_n dX11_back_36 rfl rfl) dX11_back_37) rfl) dX11_back_38 w4_190) rfl) (t_sq (p1 := 45) (Γ' := [(0, 2), (1, 0)]) (t_do (x_callV (ts := [(0, 2)]) ck11 rfl kX11_makeStale mokX11_makeStale w4_137 ps2_1 rfl rfl rfl rfl (a_R (ts := []) 0 a_nil (s_aload_n dX11_back_41 rfl rfl) rfl) dX11_back_42 w4_135) rfl) (t_ret (cv := cvI) (fun _ _ => rfl) (s_iconst dX11_back_45 rfl) dX11_back_46)))))
noncomputable def DX11_back : Fr → St → Option (Int32 × St) := M1 (fun f => (sI (sR fr0 0 (gR f 0)) 1 (gI f 1))) BX11_back
theorem kX11_back : SND yX11_back cX11_back 2 (some .int) 3 [(0, 2), (1, 0)] cvoI DX11_back := snd_I (nw := 2) (by decide) rfl rfl (fun _ _ => rfl) sBX11_back
theorem dX8_cut_0 : decode cX8_cut 0 = .ok (.iload_n 2, 1) := by decide +kernel
theorem dX8_cut_1 : decode cX8_cut 1 = .ok (.tableswitch 41 0 2 #[27, 32, 37], 27) := by decide +kernel
theorem dX8_cut_28 : decode cX8_cut 28 = .ok (.lload_n 0, 1) := by decide +kernel
theorem dX8_cut_29 : decode cX8_cut 29 = .ok (.l2i, 1) := by decide +kernel
theorem dX8_cut_30 : decode cX8_cut 30 = .ok (.i2b, 1) := by decide +kernel
theorem dX8_cut_31 : decode cX8_cut 31 = .ok (.i2l, 1) := by decide +kernel
theorem dX8_cut_32 : decode cX8_cut 32 = .ok (.lreturn, 1) := by decide +kernel
theorem dX8_cut_33 : decode cX8_cut 33 = .ok (.lload_n 0, 1) := by decide +kernel
theorem dX8_cut_34 : decode cX8_cut 34 = .ok (.l2i, 1) := by decide +kernel
theorem dX8_cut_35 : decode cX8_cut 35 = .ok (.i2s, 1) := by decide +kernel
theorem dX8_cut_36 : decode cX8_cut 36 = .ok (.i2l, 1) := by decide +kernel
theorem dX8_cut_37 : decode cX8_cut 37 = .ok (.lreturn, 1) := by decide +kernel
theorem dX8_cut_38 : decode cX8_cut 38 = .ok (.lload_n 0, 1) := by decide +kernel
theorem dX8_cut_39 : decode cX8_cut 39 = .ok (.l2i, 1) := by decide +kernel
theorem dX8_cut_40 : decode cX8_cut 40 = .ok (.i2l, 1) := by decide +kernel
theorem dX8_cut_41 : decode cX8_cut 41 = .ok (.lreturn, 1) := by decide +kernel
theorem dX8_cut_42 : decode cX8_cut 42 = .ok (.lload_n 0, 1) := by decide +kernel
theorem dX8_cut_43 : decode cX8_cut 43 = .ok (.lreturn, 1) := by decide +kernel
theorem mokX8_cut : MOK yX8_cut cX8_cut 3 (some .long) 2 := ⟨w4_221, w1_6, ⟨by decide, by decide⟩, by decide +kernel, by decide⟩
abbrev miX8_cut : MI := (yX8_cut.cls, cX8_cut, 3, 1, false)
noncomputable def BX8_cut : Sm Int64 := (dSw 0 (vI 2) [(dRet (d1 o_i2l (d1 o_i2b (d1 o_l2i (vL 0))))), (dRet (d1 o_i2l (d1 o_i2s (d1 o_l2i (vL 0))))), (dRet (d1 o_i2l (d1 o_l2i (vL 0))))] (dRet (vL 0)))
theorem sBX8_cut : SS (cvoL, .lreturn) miX8_cut [] [] [] [(0, 1), (2, 0)] [(0, 1), (2, 0)] 0 [] BX8_cut := (t_sw (PK := []) (X := []) (ps := [28, 33, 38]) (lo := 0) (pD := 42) (s_iload_n dX8_cut_0 rfl rfl) dX8_cut_1 rfl rfl rfl ⟨(t_ret (cv := cvL) (fun _ _ => rfl) (s_i2l (s_i2b (s_l2i (s_lload_n dX8_cut_28 rfl rfl) dX8_cut_29) dX8_cut_30) dX8_cut_31) dX8_cut_32), ⟨(t_ret (cv := cvL) (fun _ _ => rfl) (s_i2l (s_i2s (s_l2i (s_lload_n dX8_cut_33 rfl rfl) dX8_cut_34) dX8_cut_35) dX8_cut_36) dX8_cut_37), ⟨(t_ret (cv := cvL) (fun _ _ => rfl) (s_i2l (s_l2i (s_lload_n dX8_cut_38 rfl rfl) dX8_cut_39) dX8_cut_40) dX8_cut_41), trivial⟩⟩⟩ (t_ret (cv := cvL) (fun _ _ => rfl) (s_lload_n dX8_cut_42 rfl rfl) dX8_cut_43) rfl)
noncomputable def DX8_cut : Fr → St → Option (Int64 × St) := M1 (fun f => (sI (sL fr0 0 (gL f 0)) 2 (gI f 2))) BX8_cut
theorem kX8_cut : SND yX8_cut cX8_cut 3 (some .long) 1 [(0, 1), (2, 0)] cvoL DX8_cut := snd_L (nw := 3) (by decide) rfl rfl (fun _ _ => rfl) sBX8_cut
theorem dX8_set_0 : decode cX8_set 0 = .ok (.aload_n 0, 1) := by decide +kernel
theorem dX8_set_1 : decode cX8_set 1 = .ok (.iload_n 1, 1) := by decide +kernel
theorem dX8_set_2 : decode cX8_set 2 = .ok (.invokevirtual 30, 3) := by decide +kernel
theorem dX8_set_5 : decode cX8_set 5 = .ok (.ifCond .ne 6, 3) := by decide +kernel
theorem dX8_set_8 : decode cX8_set 8 = .ok (.bipush (-2), 2) := by decide +kernel
theorem dX8_set_10 : decode cX8_set 10 = .ok (.ireturn, 1) := by decide +kernel
theorem dX8_set_11 : decode cX8_set 11 = .ok (.aload_n 0, 1) := by decide +kernel
theorem dX8_set_12 : decode cX8_set 12 = .ok (.iload_n 1, 1) := by decide +kernel
theorem dX8_set_13 : decode cX8_set 13 = .ok (.invokevirtual 26, 3) := by decide +kernel
theorem dX8_set_16 : decode cX8_set 16 = .ok (.ifCond .ne 6, 3) := by decide +kernel
theorem dX8_set_19 : decode cX8_set 19 = .ok (.bipush (-6), 2) := by decide +kernel
theorem dX8_set_21 : decode cX8_set 21 = .ok (.ireturn, 1) := by decide +kernel
theorem dX8_set_22 : decode cX8_set 22 = .ok (.iload_n 1, 1) := by decide +kernel
theorem dX8_set_23 : decode cX8_set 23 = .ok (.bipush 60, 2) := by decide +kernel
theorem dX8_set_25 : decode cX8_set 25 = .ok (.imul, 1) := by decide +kernel
theorem dX8_set_26 : decode cX8_set 26 = .ok (.iload_n 2, 1) := by decide +kernel
theorem dX8_set_27 : decode cX8_set 27 = .ok (.iadd, 1) := by decide +kernel
theorem dX8_set_28 : decode cX8_set 28 = .ok (.istore 5, 2) := by decide +kernel
theorem dX8_set_30 : decode cX8_set 30 = .ok (.iload_n 2, 1) := by decide +kernel
theorem dX8_set_31 : decode cX8_set 31 = .ok (.ifCond .lt 27, 3) := by decide +kernel
theorem dX8_set_34 : decode cX8_set 34 = .ok (.iload_n 2, 1) := by decide +kernel
theorem dX8_set_35 : decode cX8_set 35 = .ok (.aload_n 0, 1) := by decide +kernel
theorem dX8_set_36 : decode cX8_set 36 = .ok (.iload_n 1, 1) := by decide +kernel
theorem dX8_set_37 : decode cX8_set 37 = .ok (.invokevirtual 41, 3) := by decide +kernel
theorem dX8_set_40 : decode cX8_set 40 = .ok (.if_icmp .ge 18, 3) := by decide +kernel
theorem dX8_set_43 : decode cX8_set 43 = .ok (.iload 5, 2) := by decide +kernel
theorem dX8_set_45 : decode cX8_set 45 = .ok (.ifCond .lt 13, 3) := by decide +kernel
theorem dX8_set_48 : decode cX8_set 48 = .ok (.iload 5, 2) := by decide +kernel
theorem dX8_set_50 : decode cX8_set 50 = .ok (.aload_n 0, 1) := by decide +kernel
theorem dX8_set_51 : decode cX8_set 51 = .ok (.getfield 18, 3) := by decide +kernel
theorem dX8_set_54 : decode cX8_set 54 = .ok (.arraylength, 1) := by decide +kernel
theorem dX8_set_55 : decode cX8_set 55 = .ok (.if_icmp .lt 6, 3) := by decide +kernel
theorem dX8_set_58 : decode cX8_set 58 = .ok (.bipush (-7), 2) := by decide +kernel
theorem dX8_set_60 : decode cX8_set 60 = .ok (.ireturn, 1) := by decide +kernel
theorem dX8_set_61 : decode cX8_set 61 = .ok (.aload_n 0, 1) := by decide +kernel
theorem dX8_set_62 : decode cX8_set 62 = .ok (.getfield 18, 3) := by decide +kernel
theorem dX8_set_65 : decode cX8_set 65 = .ok (.iload 5, 2) := by decide +kernel
theorem dX8_set_67 : decode cX8_set 67 = .ok (.lload_n 3, 1) := by decide +kernel
theorem dX8_set_68 : decode cX8_set 68 = .ok (.aload_n 0, 1) := by decide +kernel
theorem dX8_set_69 : decode cX8_set 69 = .ok (.getfield 11, 3) := by decide +kernel
theorem dX8_set_72 : decode cX8_set 72 = .ok (.iload_n 1, 1) := by decide +kernel
theorem dX8_set_73 : decode cX8_set 73 = .ok (.invokestatic 22, 3) := by decide +kernel
theorem dX8_set_76 : decode cX8_set 76 = .ok (.iconst 1, 1) := by decide +kernel
theorem dX8_set_77 : decode cX8_set 77 = .ok (.isub, 1) := by decide +kernel
theorem dX8_set_78 : decode cX8_set 78 = .ok (.invokestatic 45, 3) := by decide +kernel
theorem dX8_set_81 : decode cX8_set 81 = .ok (.lastore, 1) := by decide +kernel
theorem dX8_set_82 : decode cX8_set 82 = .ok (.iconst 0, 1) := by decide +kernel
theorem dX8_set_83 : decode cX8_set 83 = .ok (.ireturn, 1) := by decide +kernel
theorem mokX8_set : MOK yX8_set cX8_set 6 (some .int) 3 := ⟨w4_217, w1_6, ⟨by decide, by decide⟩, by decide +kernel, by decide⟩
abbrev miX8_set : MI := (yX8_set.cls, cX8_set, 6, 3, false)
noncomputable def BX8_set : Sm Int32 := (dSeq (dIf (dNot (dCZ q_ne (dCallV 8 DX8_isSlot (aI (aR aN 0 (vR 0)) 1 (vI 1))))) (dRet (cI (-2))) dSkip) (dSeq (dIf (dNot (dCZ q_ne (dCallV 8 DX8_hasRow (aI (aR aN 0 (vR 0)) 1 (vI 1))))) (dRet (cI (-6))) dSkip) (dSeq (dSetI 5 (d2 o_iadd (d2 o_imul (vI 1) (cI 60)) (vI 2))) (dSeq (dIf (dOr (dOr (dOr (dCZ q_lt (vI 2)) (dCI r_ge (vI 2) (dCallV 8 DX8_sizeOf (aI (aR aN 0 (vR 0)) 1 (vI 1))))) (dCZ q_lt (vI 5))) (dCI r_ge (vI 5) (dLen (dGR 8 2 (vR 0))))) (dRet (cI (-7))) dSkip) (dSeq (d3 stL (dGR 8 2 (vR 0)) (vI 5) (dCall DX8_cut (aI (aL aN 0 (vL 3)) 2 (d2 o_isub (dCall DX11_cell (aI (aR aN 0 (dGR 8 0 (vR 0))) 1 (vI 1))) (cI 1))))) (dRet (cI 0)))))))
theorem sBX8_set : SS (cvoI, .ireturn) miX8_set [] [] [] [(0, 2), (1, 0), (2, 0), (3, 1)] [(0, 2), (1, 0), (2, 0), (3, 1)] 0 [] BX8_set := (t_sq (p1 := 11) (Γ' := [(0, 2), (1, 0), (2, 0), (3, 1)]) (t_if (pT := 8) (pF := 11) (X := [11]) (XA := []) (XB := [11]) (c_not (pT := 8) (pF := 11) (c_ne_ZJ (pT := 11) (s_of_xI (x_callV (ts := [(0, 2), (1, 0)]) ck8 rfl kX8_isSlot mokX8_isSlot w4_59 w4_60 rfl rfl rfl rfl (a_I (ts := [(0, 2)]) 1 (a_R (ts := []) 0 a_nil (s_aload_n dX8_set_0 rfl rfl) rfl) (s_iload_n dX8_set_1 rfl rfl) rfl) dX8_set_2 w4_212)) dX8_set_5 rfl)) (t_ret (cv := cvI) (fun _ _ => rfl) (s_bipush dX8_set_8 rfl) dX8_set_10) (t_skip (ld_in rfl) rfl) lda_nil (lda_cons (ld_in rfl) lda_nil)) (t_sq (p1 := 22) (Γ' := [(0, 2), (1, 0), (2, 0), (3, 1)]) (t_if (pT := 19) (pF := 22) (X := [22]) (XA := []) (XB := [22]) (c_not (pT := 19) (pF := 22) (c_ne_ZJ (pT := 22) (s_of_xI (x_callV (ts := [(0, 2), (1, 0)]) ck8 rfl kX8_hasRow mokX8_hasRow w4_64 w4_65 rfl rfl rfl rfl (a_I (ts := [(0, 2)]) 1 (a_R (ts := []) 0 a_nil (s_aload_n dX8_set_11 rfl rfl) rfl) (s_iload_n dX8_set_12 rfl rfl) rfl) dX8_set_13 w4_185)) dX8_set_16 rfl)) (t_ret (cv := cvI) (fun _ _ => rfl) (s_bipush dX8_set_19 rfl) dX8_set_21) (t_skip (ld_in rfl) rfl) lda_nil (lda_cons (ld_in rfl) lda_nil)) (t_sq (p1 := 30) (Γ' := [(0, 2), (1, 0), (2, 0), (3, 1), (5, 0)]) (t_istore (s_iadd (s_imul (s_iload_n dX8_set_22 rfl rfl) (s_bipush dX8_set_23 rfl) dX8_set_25) (s_iload_n dX8_set_26 rfl rfl) dX8_set_27) dX8_set_28 rfl rfl) (t_sq (p1 := 61) (Γ' := [(0, 2), (1, 0), (2, 0), (3, 1), (5, 0)]) (t_if (pT := 58) (pF := 61) (X := [61]) (XA := []) (XB := [61]) (c_or (p1 := 48) (pT := 58) (pF := 61) (c_or (p1 := 43) (pT := 58) (pF := 48) (c_or (p1 := 34) (pT := 58) (pF := 43) (c_lt_ZJ (pT := 58) (s_iload_n dX8_set_30 rfl rfl) dX8_set_31 rfl) (c_ge_J (pT := 58) (s_iload_n dX8_set_34 rfl rfl) (s_of_xI (x_callV (ts := [(0, 2), (1, 0)]) ck8 rfl kX8_sizeOf mokX8_sizeOf w4_69 w4_70 rfl rfl rfl rfl (a_I (ts := [(0, 2)]) 1 (a_R (ts := []) 0 a_nil (s_aload_n dX8_set_35 rfl rfl) rfl) (s_iload_n dX8_set_36 rfl rfl) rfl) dX8_set_37 w4_218)) dX8_set_40 rfl)) (c_lt_ZJ (pT := 58) (s_iload dX8_set_43 rfl) dX8_set_45 rfl)) (c_ge_F (pF := 61) (s_iload dX8_set_48 rfl) (s_len (s_getR ck8 2 (by decide) rfl (s_aload_n dX8_set_50 rfl rfl) dX8_set_51 w1_230) dX8_set_54) dX8_set_55 rfl)) (t_ret (cv := cvI) (fun _ _ => rfl) (s_bipush dX8_set_58 rfl) dX8_set_60) (t_skip (ld_in rfl) rfl) lda_nil (lda_cons (ld_in rfl) lda_nil)) (t_sq (p1 := 82) (Γ' := [(0, 2), (1, 0), (2, 0), (3, 1), (5, 0)]) (t_stL (s_getR ck8 2 (by decide) rfl (s_aload_n dX8_set_61 rfl rfl) dX8_set_62 w1_230) (s_iload dX8_set_65 rfl) (s_of_xL (x_call (ts := [(0, 1), (2, 0)]) kX8_cut mokX8_cut w4_220 rfl rfl rfl (a_I (ts := [(0, 1)]) 2 (a_L (ts := []) 0 a_nil (s_lload_n dX8_set_67 rfl rfl) rfl) (s_isub (s_of_xI (x_callN (ts := [(0, 2), (1, 0)]) kX11_cell mokX11_cell w3_26 rfl rfl rfl (a_I (ts := [(0, 2)]) 1 (a_R (ts := []) 0 a_nil (s_getR ck8 0 (by decide) rfl (s_aload_n dX8_set_68 rfl rfl) dX8_set_69 w1_228) rfl) (s_iload_n dX8_set_72 rfl rfl) rfl) dX8_set_73 nb23)) (s_iconst dX8_set_76 rfl) dX8_set_77) rfl) dX8_set_78 w4_219)) dX8_set_81 rfl) (t_ret (cv := cvI) (fun _ _ => rfl) (s_iconst dX8_set_82 rfl) dX8_set_83))))))
noncomputable def DX8_set : Fr → St → Option (Int32 × St) := M1 (fun f => (sL (sI (sI (sR fr0 0 (gR f 0)) 1 (gI f 1)) 2 (gI f 2)) 3 (gL f 3))) BX8_set
theorem kX8_set : SND yX8_set cX8_set 6 (some .int) 3 [(0, 2), (1, 0), (2, 0), (3, 1)] cvoI DX8_set := snd_I (nw := 5) (by decide) rfl rfl (fun _ _ => rfl) sBX8_set
theorem dX8_make_0 : decode cX8_make 0 = .ok (.aload_n 0, 1) := by decide +kernel
theorem dX8_make_1 : decode cX8_make 1 = .ok (.iload_n 1, 1) := by decide +kernel
theorem dX8_make_2 : decode cX8_make 2 = .ok (.invokevirtual 30, 3) := by decide +kernel
theorem dX8_make_5 : decode cX8_make 5 = .ok (.ifCond .eq 18, 3) := by decide +kernel
theorem dX8_make_8 : decode cX8_make 8 = .ok (.iload_n 2, 1) := by decide +kernel
theorem dX8_make_9 : decode cX8_make 9 = .ok (.ifCond .lt 14, 3) := by decide +kernel
theorem dX8_make_12 : decode cX8_make 12 = .ok (.iload_n 2, 1) := by decide +kernel
theorem dX8_make_13 : decode cX8_make 13 = .ok (.iconst 4, 1) := by decide +kernel
theorem dX8_make_14 : decode cX8_make 14 = .ok (.if_icmp .ge 9, 3) := by decide +kernel
theorem dX8_make_17 : decode cX8_make 17 = .ok (.iload_n 3, 1) := by decide +kernel
theorem dX8_make_18 : decode cX8_make 18 = .ok (.bipush 60, 2) := by decide +kernel
theorem dX8_make_20 : decode cX8_make 20 = .ok (.if_icmp .le 6, 3) := by decide +kernel
theorem dX8_make_23 : decode cX8_make 23 = .ok (.bipush (-2), 2) := by decide +kernel
theorem dX8_make_25 : decode cX8_make 25 = .ok (.ireturn, 1) := by decide +kernel
theorem dX8_make_26 : decode cX8_make 26 = .ok (.iload_n 3, 1) := by decide +kernel
theorem dX8_make_27 : decode cX8_make 27 = .ok (.ifCond .ge 6, 3) := by decide +kernel
theorem dX8_make_30 : decode cX8_make 30 = .ok (.bipush (-3), 2) := by decide +kernel
theorem dX8_make_32 : decode cX8_make 32 = .ok (.ireturn, 1) := by decide +kernel
theorem dX8_make_33 : decode cX8_make 33 = .ok (.aload_n 0, 1) := by decide +kernel
theorem dX8_make_34 : decode cX8_make 34 = .ok (.getfield 11, 3) := by decide +kernel
theorem dX8_make_37 : decode cX8_make 37 = .ok (.iload_n 1, 1) := by decide +kernel
theorem dX8_make_38 : decode cX8_make 38 = .ok (.iload_n 2, 1) := by decide +kernel
theorem dX8_make_39 : decode cX8_make 39 = .ok (.iconst 1, 1) := by decide +kernel
theorem dX8_make_40 : decode cX8_make 40 = .ok (.iadd, 1) := by decide +kernel
theorem dX8_make_41 : decode cX8_make 41 = .ok (.invokestatic 33, 3) := by decide +kernel
theorem dX8_make_44 : decode cX8_make 44 = .ok (.aload_n 0, 1) := by decide +kernel
theorem dX8_make_45 : decode cX8_make 45 = .ok (.getfield 15, 3) := by decide +kernel
theorem dX8_make_48 : decode cX8_make 48 = .ok (.iload_n 1, 1) := by decide +kernel
theorem dX8_make_49 : decode cX8_make 49 = .ok (.iload_n 3, 1) := by decide +kernel
theorem dX8_make_50 : decode cX8_make 50 = .ok (.invokestatic 33, 3) := by decide +kernel
theorem dX8_make_53 : decode cX8_make 53 = .ok (.iconst 0, 1) := by decide +kernel
theorem dX8_make_54 : decode cX8_make 54 = .ok (.istore 4, 2) := by decide +kernel
theorem dX8_make_56 : decode cX8_make 56 = .ok (.iload 4, 2) := by decide +kernel
theorem dX8_make_58 : decode cX8_make 58 = .ok (.iload_n 3, 1) := by decide +kernel
theorem dX8_make_59 : decode cX8_make 59 = .ok (.if_icmp .ge 18, 3) := by decide +kernel
theorem dX8_make_62 : decode cX8_make 62 = .ok (.aload_n 0, 1) := by decide +kernel
theorem dX8_make_63 : decode cX8_make 63 = .ok (.iload_n 1, 1) := by decide +kernel
theorem dX8_make_64 : decode cX8_make 64 = .ok (.iload 4, 2) := by decide +kernel
theorem dX8_make_66 : decode cX8_make 66 = .ok (.lconst 0, 1) := by decide +kernel
theorem dX8_make_67 : decode cX8_make 67 = .ok (.invokevirtual 37, 3) := by decide +kernel
theorem dX8_make_70 : decode cX8_make 70 = .ok (.pop, 1) := by decide +kernel
theorem dX8_make_71 : decode cX8_make 71 = .ok (.iinc 4 1, 3) := by decide +kernel
theorem dX8_make_74 : decode cX8_make 74 = .ok (.goto (-18), 3) := by decide +kernel
theorem dX8_make_77 : decode cX8_make 77 = .ok (.iconst 0, 1) := by decide +kernel
theorem dX8_make_78 : decode cX8_make 78 = .ok (.ireturn, 1) := by decide +kernel
theorem mokX8_make : MOK yX8_make cX8_make 5 (some .int) 3 := ⟨w4_211, w1_6, ⟨by decide, by decide⟩, by decide +kernel, by decide⟩
abbrev miX8_make : MI := (yX8_make.cls, cX8_make, 5, 4, false)
noncomputable def LX8_make_1 : Sm Int32 := dLoop (fun f => (sI (sI (sI (sI (sR fr0 0 (gR f 0)) 1 (gI f 1)) 2 (gI f 2)) 3 (gI f 3)) 4 (gI f 4))) (dCI r_lt (vI 4) (vI 3)) (dDo (dCallV 8 DX8_set (aL (aI (aI (aR aN 0 (vR 0)) 1 (vI 1)) 2 (vI 4)) 3 (cL 0)))) (dInc 4 1)
theorem sLX8_make_1 {ΓL : Gm} {PB PK : List Nat} : SS (cvoI, .ireturn) miX8_make ΓL PB PK [(0, 2), (1, 0), (2, 0), (3, 0), (4, 0)] [(0, 2), (1, 0), (2, 0), (3, 0), (4, 0)] 56 [77] LX8_make_1 := t_loop (pT := 62) (pF := 77) (pu := 71) (PB' := []) (PK' := []) (XB := [71]) (XU := [74]) (fun _ _ => rfl) rfl (c_lt_F (pF := 77) (s_iload dX8_make_56 rfl) (s_iload_n dX8_make_58 rfl rfl) dX8_make_59 rfl) (t_pop (s_of_xI (x_callV (ts := [(0, 2), (1, 0), (2, 0), (3, 1)]) ck8 rfl kX8_set mokX8_set w4_215 w4_216 rfl rfl rfl rfl (a_L (ts := [(0, 2), (1, 0), (2, 0)]) 3 (a_I (ts := [(0, 2), (1, 0)]) 2 (a_I (ts := [(0, 2)]) 1 (a_R (ts := []) 0 a_nil (s_aload_n dX8_make_62 rfl rfl) rfl) (s_iload_n dX8_make_63 rfl rfl) rfl) (s_iload dX8_make_64 rfl) rfl) (s_lconst dX8_make_66 rfl) rfl) dX8_make_67 w4_214)) dX8_make_70 rfl) (t_iinc dX8_make_71 rfl rfl rfl rfl) (lda_cons (ld_in rfl) lda_nil) lda_nil (lda_cons (ld_goto (y := 56) dX8_make_74 rfl (ld_in rfl)) lda_nil) (ld_in rfl) lda_nil
noncomputable def BX8_make : Sm Int32 := (dSeq (dIf (dOr (dOr (dOr (dNot (dCZ q_ne (dCallV 8 DX8_isSlot (aI (aR aN 0 (vR 0)) 1 (vI 1))))) (dCZ q_lt (vI 2))) (dCI r_ge (vI 2) (cI 4))) (dCI r_gt (vI 3) (cI 60))) (dRet (cI (-2))) dSkip) (dSeq (dIf (dCZ q_lt (vI 3)) (dRet (cI (-3))) dSkip) (dSeq (dDo (dCall DX11_put (aI (aI (aR aN 0 (dGR 8 0 (vR 0))) 1 (vI 1)) 2 (d2 o_iadd (vI 2) (cI 1))))) (dSeq (dDo (dCall DX11_put (aI (aI (aR aN 0 (dGR 8 1 (vR 0))) 1 (vI 1)) 2 (vI 3)))) (dSeq (dSeq (dSetI 4 (cI 0)) LX8_make_1) (dRet (cI 0)))))))
theorem sBX8_make : SS (cvoI, .ireturn) miX8_make [] [] [] [(0, 2), (1, 0), (2, 0), (3, 0)] [(0, 2), (1, 0), (2, 0), (3, 0)] 0 [] BX8_make := (t_sq (p1 := 26) (Γ' := [(0, 2), (1, 0), (2, 0), (3, 0)]) (t_if (pT := 23) (pF := 26) (X := [26]) (XA := []) (XB := [26]) (c_or (p1 := 17) (pT := 23) (pF := 26) (c_or (p1 := 12) (pT := 23) (pF := 17) (c_or (p1 := 8) (pT := 23) (pF := 12) (c_not (pT := 23) (pF := 8) (c_ne_ZF (pF := 23) (s_of_xI (x_callV (ts := [(0, 2), (1, 0)]) ck8 rfl kX8_isSlot mokX8_isSlot w4_59 w4_60 rfl rfl rfl rfl (a_I (ts := [(0, 2)]) 1 (a_R (ts := []) 0 a_nil (s_aload_n dX8_make_0 rfl rfl) rfl) (s_iload_n dX8_make_1 rfl rfl) rfl) dX8_make_2 w4_212)) dX8_make_5 rfl)) (c_lt_ZJ (pT := 23) (s_iload_n dX8_make_8 rfl rfl) dX8_make_9 rfl)) (c_ge_J (pT := 23) (s_iload_n dX8_make_12 rfl rfl) (s_iconst dX8_make_13 rfl) dX8_make_14 rfl)) (c_gt_F (pF := 26) (s_iload_n dX8_make_17 rfl rfl) (s_bipush dX8_make_18 rfl) dX8_make_20 rfl)) (t_ret (cv := cvI) (fun _ _ => rfl) (s_bipush dX8_make_23 rfl) dX8_make_25) (t_skip (ld_in rfl) rfl) lda_nil (lda_cons (ld_in rfl) lda_nil)) (t_sq (p1 := 33) (Γ' := [(0, 2), (1, 0), (2, 0), (3, 0)]) (t_if (pT := 30) (pF := 33) (X := [33]) (XA := []) (XB := [33]) (c_lt_ZF (pF := 33) (s_iload_n dX8_make_26 rfl rfl) dX8_make_27 rfl) (t_ret (cv := cvI) (fun _ _ => rfl) (s_bipush dX8_make_30 rfl) dX8_make_32) (t_skip (ld_in rfl) rfl) lda_nil (lda_cons (ld_in rfl) lda_nil)) (t_sq (p1 := 44) (Γ' := [(0, 2), (1, 0), (2, 0), (3, 0)]) (t_do (x_callN (ts := [(0, 2), (1, 0), (2, 0)]) kX11_put mokX11_put w3_65 rfl rfl rfl (a_I (ts := [(0, 2), (1, 0)]) 2 (a_I (ts := [(0, 2)]) 1 (a_R (ts := []) 0 a_nil (s_getR ck8 0 (by decide) rfl (s_aload_n dX8_make_33 rfl rfl) dX8_make_34 w1_228) rfl) (s_iload_n dX8_make_37 rfl rfl) rfl) (s_iadd (s_iload_n dX8_make_38 rfl rfl) (s_iconst dX8_make_39 rfl) dX8_make_40) rfl) dX8_make_41 nb26) rfl) (t_sq (p1 := 53) (Γ' := [(0, 2), (1, 0), (2, 0), (3, 0)]) (t_do (x_callN (ts := [(0, 2), (1, 0), (2, 0)]) kX11_put mokX11_put w3_65 rfl rfl rfl (a_I (ts := [(0, 2), (1, 0)]) 2 (a_I (ts := [(0, 2)]) 1 (a_R (ts := []) 0 a_nil (s_getR ck8 1 (by decide) rfl (s_aload_n dX8_make_44 rfl rfl) dX8_make_45 w1_229) rfl) (s_iload_n dX8_make_48 rfl rfl) rfl) (s_iload_n dX8_make_49 rfl rfl) rfl) dX8_make_50 nb26) rfl) (t_sq (p1 := 77) (Γ' := [(0, 2), (1, 0), (2, 0), (3, 0)]) (t_sq (p1 := 56) (Γ' := [(0, 2), (1, 0), (2, 0), (3, 0), (4, 0)]) (t_istore (s_iconst dX8_make_53 rfl) dX8_make_54 rfl rfl) (tn_to (Γ' := [(0, 2), (1, 0), (2, 0), (3, 0), (4, 0)]) (XA := [77]) sLX8_make_1 (lda_cons (ld_in rfl) lda_nil) rfl)) (t_ret (cv := cvI) (fun _ _ => rfl) (s_iconst dX8_make_77 rfl) dX8_make_78))))))
noncomputable def DX8_make : Fr → St → Option (Int32 × St) := M1 (fun f => (sI (sI (sI (sR fr0 0 (gR f 0)) 1 (gI f 1)) 2 (gI f 2)) 3 (gI f 3))) BX8_make
theorem kX8_make : SND yX8_make cX8_make 5 (some .int) 4 [(0, 2), (1, 0), (2, 0), (3, 0)] cvoI DX8_make := snd_I (nw := 4) (by decide) rfl rfl (fun _ _ => rfl) sBX8_make
theorem dX11_row_0 : decode cX11_row 0 = .ok (.aload_n 0, 1) := by decide +kernel
theorem dX11_row_1 : decode cX11_row 1 = .ok (.getfield 40, 3) := by decide +kernel
theorem dX11_row_4 : decode cX11_row 4 = .ok (.iload_n 1, 1) := by decide +kernel
theorem dX11_row_5 : decode cX11_row 5 = .ok (.iload_n 2, 1) := by decide +kernel
theorem dX11_row_6 : decode cX11_row 6 = .ok (.iload_n 3, 1) := by decide +kernel
theorem dX11_row_7 : decode cX11_row 7 = .ok (.invokevirtual 429, 3) := by decide +kernel
theorem dX11_row_10 : decode cX11_row 10 = .ok (.ireturn, 1) := by decide +kernel
theorem mokX11_row : MOK yX11_row cX11_row 4 (some .int) 3 := ⟨w4_207, w1_1, ⟨by decide, by decide⟩, by decide +kernel, by decide⟩
abbrev miX11_row : MI := (yX11_row.cls, cX11_row, 4, 5, false)
noncomputable def BX11_row : Sm Int32 := (dRet (dCallV 8 DX8_make (aI (aI (aI (aR aN 0 (dGR 11 5 (vR 0))) 1 (vI 1)) 2 (vI 2)) 3 (vI 3))))
theorem sBX11_row : SS (cvoI, .ireturn) miX11_row [] [] [] [(0, 2), (1, 0), (2, 0), (3, 0)] [(0, 2), (1, 0), (2, 0), (3, 0)] 0 [] BX11_row := (t_ret (cv := cvI) (fun _ _ => rfl) (s_of_xI (x_callV (ts := [(0, 2), (1, 0), (2, 0), (3, 0)]) ck8 rfl kX8_make mokX8_make w4_209 w4_210 rfl rfl rfl rfl (a_I (ts := [(0, 2), (1, 0), (2, 0)]) 3 (a_I (ts := [(0, 2), (1, 0)]) 2 (a_I (ts := [(0, 2)]) 1 (a_R (ts := []) 0 a_nil (s_getR ck11 5 (by decide) rfl (s_aload_n dX11_row_0 rfl rfl) dX11_row_1 w2_201) rfl) (s_iload_n dX11_row_4 rfl rfl) rfl) (s_iload_n dX11_row_5 rfl rfl) rfl) (s_iload_n dX11_row_6 rfl rfl) rfl) dX11_row_7 w4_208)) dX11_row_10)
noncomputable def DX11_row : Fr → St → Option (Int32 × St) := M1 (fun f => (sI (sI (sI (sR fr0 0 (gR f 0)) 1 (gI f 1)) 2 (gI f 2)) 3 (gI f 3))) BX11_row
theorem kX11_row : SND yX11_row cX11_row 4 (some .int) 5 [(0, 2), (1, 0), (2, 0), (3, 0)] cvoI DX11_row := snd_I (nw := 4) (by decide) rfl rfl (fun _ _ => rfl) sBX11_row
theorem dX11_write_0 : decode cX11_write 0 = .ok (.aload_n 0, 1) := by decide +kernel
theorem dX11_write_1 : decode cX11_write 1 = .ok (.getfield 40, 3) := by decide +kernel
theorem dX11_write_4 : decode cX11_write 4 = .ok (.iload_n 1, 1) := by decide +kernel
theorem dX11_write_5 : decode cX11_write 5 = .ok (.iload_n 2, 1) := by decide +kernel
theorem dX11_write_6 : decode cX11_write 6 = .ok (.lload_n 3, 1) := by decide +kernel
theorem dX11_write_7 : decode cX11_write 7 = .ok (.invokevirtual 432, 3) := by decide +kernel
theorem dX11_write_10 : decode cX11_write 10 = .ok (.ireturn, 1) := by decide +kernel
theorem mokX11_write : MOK yX11_write cX11_write 5 (some .int) 3 := ⟨w4_225, w1_1, ⟨by decide, by decide⟩, by decide +kernel, by decide⟩
abbrev miX11_write : MI := (yX11_write.cls, cX11_write, 5, 4, false)
noncomputable def BX11_write : Sm Int32 := (dRet (dCallV 8 DX8_set (aL (aI (aI (aR aN 0 (dGR 11 5 (vR 0))) 1 (vI 1)) 2 (vI 2)) 3 (vL 3))))
theorem sBX11_write : SS (cvoI, .ireturn) miX11_write [] [] [] [(0, 2), (1, 0), (2, 0), (3, 1)] [(0, 2), (1, 0), (2, 0), (3, 1)] 0 [] BX11_write := (t_ret (cv := cvI) (fun _ _ => rfl) (s_of_xI (x_callV (ts := [(0, 2), (1, 0), (2, 0), (3, 1)]) ck8 rfl kX8_set mokX8_set w4_215 w4_216 rfl rfl rfl rfl (a_L (ts := [(0, 2), (1, 0), (2, 0)]) 3 (a_I (ts := [(0, 2), (1, 0)]) 2 (a_I (ts := [(0, 2)]) 1 (a_R (ts := []) 0 a_nil (s_getR ck11 5 (by decide) rfl (s_aload_n dX11_write_0 rfl rfl) dX11_write_1 w2_201) rfl) (s_iload_n dX11_write_4 rfl rfl) rfl) (s_iload_n dX11_write_5 rfl rfl) rfl) (s_lload_n dX11_write_6 rfl rfl) rfl) dX11_write_7 w4_226)) dX11_write_10)
noncomputable def DX11_write : Fr → St → Option (Int32 × St) := M1 (fun f => (sL (sI (sI (sR fr0 0 (gR f 0)) 1 (gI f 1)) 2 (gI f 2)) 3 (gL f 3))) BX11_write
theorem kX11_write : SND yX11_write cX11_write 5 (some .int) 4 [(0, 2), (1, 0), (2, 0), (3, 1)] cvoI DX11_write := snd_I (nw := 5) (by decide) rfl rfl (fun _ _ => rfl) sBX11_write
theorem dL_put_0 : decode cL_put 0 = .ok (.aload_n 1, 1) := by decide +kernel
theorem dL_put_1 : decode cL_put 1 = .ok (.aload_n 1, 1) := by decide +kernel
theorem dL_put_2 : decode cL_put 2 = .ok (.iconst 5, 1) := by decide +kernel
theorem dL_put_3 : decode cL_put 3 = .ok (.iaload, 1) := by decide +kernel
theorem dL_put_4 : decode cL_put 4 = .ok (.iconst 4, 1) := by decide +kernel
theorem dL_put_5 : decode cL_put 5 = .ok (.idiv, 1) := by decide +kernel
theorem dL_put_6 : decode cL_put 6 = .ok (.aload_n 1, 1) := by decide +kernel
theorem dL_put_7 : decode cL_put 7 = .ok (.aload_n 1, 1) := by decide +kernel
theorem dL_put_8 : decode cL_put 8 = .ok (.iconst 5, 1) := by decide +kernel
theorem dL_put_9 : decode cL_put 9 = .ok (.iaload, 1) := by decide +kernel
theorem dL_put_10 : decode cL_put 10 = .ok (.iconst 4, 1) := by decide +kernel
theorem dL_put_11 : decode cL_put 11 = .ok (.idiv, 1) := by decide +kernel
theorem dL_put_12 : decode cL_put 12 = .ok (.iaload, 1) := by decide +kernel
theorem dL_put_13 : decode cL_put 13 = .ok (.bipush 8, 2) := by decide +kernel
theorem dL_put_15 : decode cL_put 15 = .ok (.ishl, 1) := by decide +kernel
theorem dL_put_16 : decode cL_put 16 = .ok (.iload_n 2, 1) := by decide +kernel
theorem dL_put_17 : decode cL_put 17 = .ok (.ior, 1) := by decide +kernel
theorem dL_put_18 : decode cL_put 18 = .ok (.iastore, 1) := by decide +kernel
theorem dL_put_19 : decode cL_put 19 = .ok (.aload_n 1, 1) := by decide +kernel
theorem dL_put_20 : decode cL_put 20 = .ok (.iconst 5, 1) := by decide +kernel
theorem dL_put_21 : decode cL_put 21 = .ok (.dup2, 1) := by decide +kernel
theorem dL_put_22 : decode cL_put 22 = .ok (.iaload, 1) := by decide +kernel
theorem dL_put_23 : decode cL_put 23 = .ok (.iconst 1, 1) := by decide +kernel
theorem dL_put_24 : decode cL_put 24 = .ok (.iadd, 1) := by decide +kernel
theorem dL_put_25 : decode cL_put 25 = .ok (.iastore, 1) := by decide +kernel
theorem dL_put_26 : decode cL_put 26 = .ok (.aload_n 1, 1) := by decide +kernel
theorem dL_put_27 : decode cL_put 27 = .ok (.iconst 5, 1) := by decide +kernel
theorem dL_put_28 : decode cL_put 28 = .ok (.iaload, 1) := by decide +kernel
theorem dL_put_29 : decode cL_put 29 = .ok (.bipush 20, 2) := by decide +kernel
theorem dL_put_31 : decode cL_put 31 = .ok (.if_icmp .ge 4, 3) := by decide +kernel
theorem dL_put_34 : decode cL_put 34 = .ok (.return_, 1) := by decide +kernel
theorem dL_put_35 : decode cL_put 35 = .ok (.aload_n 1, 1) := by decide +kernel
theorem dL_put_36 : decode cL_put 36 = .ok (.bipush 6, 2) := by decide +kernel
theorem dL_put_38 : decode cL_put 38 = .ok (.aload_n 0, 1) := by decide +kernel
theorem dL_put_39 : decode cL_put 39 = .ok (.aload_n 1, 1) := by decide +kernel
theorem dL_put_40 : decode cL_put 40 = .ok (.iconst 0, 1) := by decide +kernel
theorem dL_put_41 : decode cL_put 41 = .ok (.iaload, 1) := by decide +kernel
theorem dL_put_42 : decode cL_put 42 = .ok (.aload_n 1, 1) := by decide +kernel
theorem dL_put_43 : decode cL_put 43 = .ok (.iconst 1, 1) := by decide +kernel
theorem dL_put_44 : decode cL_put 44 = .ok (.iaload, 1) := by decide +kernel
theorem dL_put_45 : decode cL_put 45 = .ok (.aload_n 1, 1) := by decide +kernel
theorem dL_put_46 : decode cL_put 46 = .ok (.iconst 2, 1) := by decide +kernel
theorem dL_put_47 : decode cL_put 47 = .ok (.iaload, 1) := by decide +kernel
theorem dL_put_48 : decode cL_put 48 = .ok (.aload_n 1, 1) := by decide +kernel
theorem dL_put_49 : decode cL_put 49 = .ok (.iconst 3, 1) := by decide +kernel
theorem dL_put_50 : decode cL_put 50 = .ok (.iaload, 1) := by decide +kernel
theorem dL_put_51 : decode cL_put 51 = .ok (.aload_n 1, 1) := by decide +kernel
theorem dL_put_52 : decode cL_put 52 = .ok (.iconst 4, 1) := by decide +kernel
theorem dL_put_53 : decode cL_put 53 = .ok (.iaload, 1) := by decide +kernel
theorem dL_put_54 : decode cL_put 54 = .ok (.invokevirtual 7, 3) := by decide +kernel
theorem dL_put_57 : decode cL_put 57 = .ok (.iastore, 1) := by decide +kernel
theorem dL_put_58 : decode cL_put 58 = .ok (.aload_n 1, 1) := by decide +kernel
theorem dL_put_59 : decode cL_put 59 = .ok (.iconst 5, 1) := by decide +kernel
theorem dL_put_60 : decode cL_put 60 = .ok (.iconst 0, 1) := by decide +kernel
theorem dL_put_61 : decode cL_put 61 = .ok (.iastore, 1) := by decide +kernel
theorem dL_put_62 : decode cL_put 62 = .ok (.return_, 1) := by decide +kernel
theorem mokL_put : MOK yL_put cL_put 3 none 3 := ⟨w5_37, w1_0, ⟨by decide, by decide⟩, by decide +kernel, by decide⟩
abbrev miL_put : MI := (yL_put.cls, cL_put, 3, 3, false)
noncomputable def BL_put : Sm Unit := (dSeq (d3 (stI 13 idI) (vR 1) (d2z o_idiv (dAI (vR 1) (cI 5)) (cI 4)) (d2 o_ior (d2 o_ishl (dAI (vR 1) (d2z o_idiv (dAI (vR 1) (cI 5)) (cI 4))) (cI 8)) (vI 2))) (dSeq (dUA o_iadd (vR 1) (cI 5) (cI 1)) (dSeq (dIf (dCI r_lt (dAI (vR 1) (cI 5)) (cI 20)) dRet0 dSkip) (dSeq (d3 (stI 13 idI) (vR 1) (cI 6) (dCallV 11 DX11_feed (aI (aI (aI (aI (aI (aR aN 0 (vR 0)) 1 (dAI (vR 1) (cI 0))) 2 (dAI (vR 1) (cI 1))) 3 (dAI (vR 1) (cI 2))) 4 (dAI (vR 1) (cI 3))) 5 (dAI (vR 1) (cI 4))))) (dSeq (d3 (stI 13 idI) (vR 1) (cI 5) (cI 0)) dRet0)))))
theorem sBL_put : SS (cvoV, .return_) miL_put [] [] [] [(0, 2), (1, 2), (2, 0)] [(0, 2), (1, 2), (2, 0)] 0 [] BL_put := (t_sq (p1 := 19) (Γ' := [(0, 2), (1, 2), (2, 0)]) (t_stI (s_aload_n dL_put_0 rfl rfl) (s_idiv (s_dAI (s_aload_n dL_put_1 rfl rfl) (s_iconst dL_put_2 rfl) dL_put_3) (s_iconst dL_put_4 rfl) dL_put_5) (s_ior (s_ishl (s_dAI (s_aload_n dL_put_6 rfl rfl) (s_idiv (s_dAI (s_aload_n dL_put_7 rfl rfl) (s_iconst dL_put_8 rfl) dL_put_9) (s_iconst dL_put_10 rfl) dL_put_11) dL_put_12) (s_bipush dL_put_13 rfl) dL_put_15) (s_iload_n dL_put_16 rfl rfl) dL_put_17) dL_put_18 rfl) (t_sq (p1 := 26) (Γ' := [(0, 2), (1, 2), (2, 0)]) (t_UA (s_aload_n dL_put_19 rfl rfl) (s_iconst dL_put_20 rfl) dL_put_21 dL_put_22 (s_iconst dL_put_23 rfl) (fun _ _ _ _ => rulI fun a b K => lv_iadd a b dL_put_24 K) dL_put_25 rfl) (t_sq (p1 := 35) (Γ' := [(0, 2), (1, 2), (2, 0)]) (t_if (pT := 34) (pF := 35) (X := [35]) (XA := []) (XB := [35]) (c_lt_F (pF := 35) (s_dAI (s_aload_n dL_put_26 rfl rfl) (s_iconst dL_put_27 rfl) dL_put_28) (s_bipush dL_put_29 rfl) dL_put_31 rfl) (t_ret0 (fun _ _ => rfl) dL_put_34) (t_skip (ld_in rfl) rfl) lda_nil (lda_cons (ld_in rfl) lda_nil)) (t_sq (p1 := 58) (Γ' := [(0, 2), (1, 2), (2, 0)]) (t_stI (s_aload_n dL_put_35 rfl rfl) (s_bipush dL_put_36 rfl) (s_of_xI (x_callV (ts := [(0, 2), (1, 0), (2, 0), (3, 0), (4, 0), (5, 0)]) ck11 rfl kX11_feed mokX11_feed w5_39 w5_40 rfl rfl rfl rfl (a_I (ts := [(0, 2), (1, 0), (2, 0), (3, 0), (4, 0)]) 5 (a_I (ts := [(0, 2), (1, 0), (2, 0), (3, 0)]) 4 (a_I (ts := [(0, 2), (1, 0), (2, 0)]) 3 (a_I (ts := [(0, 2), (1, 0)]) 2 (a_I (ts := [(0, 2)]) 1 (a_R (ts := []) 0 a_nil (s_aload_n dL_put_38 rfl rfl) rfl) (s_dAI (s_aload_n dL_put_39 rfl rfl) (s_iconst dL_put_40 rfl) dL_put_41) rfl) (s_dAI (s_aload_n dL_put_42 rfl rfl) (s_iconst dL_put_43 rfl) dL_put_44) rfl) (s_dAI (s_aload_n dL_put_45 rfl rfl) (s_iconst dL_put_46 rfl) dL_put_47) rfl) (s_dAI (s_aload_n dL_put_48 rfl rfl) (s_iconst dL_put_49 rfl) dL_put_50) rfl) (s_dAI (s_aload_n dL_put_51 rfl rfl) (s_iconst dL_put_52 rfl) dL_put_53) rfl) dL_put_54 w5_38)) dL_put_57 rfl) (t_sq (p1 := 62) (Γ' := [(0, 2), (1, 2), (2, 0)]) (t_stI (s_aload_n dL_put_58 rfl rfl) (s_iconst dL_put_59 rfl) (s_iconst dL_put_60 rfl) dL_put_61 rfl) (t_ret0 (fun _ _ => rfl) dL_put_62))))))
noncomputable def DL_put : Fr → St → Option (Unit × St) := M1 (fun f => (sI (sR (sR fr0 0 (gR f 0)) 1 (gR f 1)) 2 (gI f 2))) BL_put
theorem kL_put : SND yL_put cL_put 3 none 3 [(0, 2), (1, 2), (2, 0)] cvoV DL_put := snd_V (nw := 3) (by decide) (fun z => by cases z) rfl rfl (fun _ _ => rfl) sBL_put
