theorem dL_say_0 : decode cL_say 0 = .ok (.aload_n 0, 1) := by decide +kernel
theorem dL_say_1 : decode cL_say 1 = .ok (.aload_n 1, 1) := by decide +kernel
theorem dL_say_2 : decode cL_say 2 = .ok (.bipush 32, 2) := by decide +kernel
theorem dL_say_4 : decode cL_say 4 = .ok (.invokestatic 13, 3) := by decide +kernel
theorem dL_say_7 : decode cL_say 7 = .ok (.bipush 56, 2) := by decide +kernel
theorem dL_say_9 : decode cL_say 9 = .ok (.istore 4, 2) := by decide +kernel
theorem dL_say_11 : decode cL_say 11 = .ok (.iload 4, 2) := by decide +kernel
theorem dL_say_13 : decode cL_say 13 = .ok (.ifCond .lt 36, 3) := by decide +kernel
theorem dL_say_16 : decode cL_say 16 = .ok (.lload_n 2, 1) := by decide +kernel
theorem dL_say_17 : decode cL_say 17 = .ok (.iload 4, 2) := by decide +kernel
theorem dL_say_19 : decode cL_say 19 = .ok (.lshr, 1) := by decide +kernel
theorem dL_say_20 : decode cL_say 20 = .ok (.ldc2_w 19, 3) := by decide +kernel
theorem dL_say_23 : decode cL_say 23 = .ok (.land, 1) := by decide +kernel
theorem dL_say_24 : decode cL_say 24 = .ok (.lconst 0, 1) := by decide +kernel
theorem dL_say_25 : decode cL_say 25 = .ok (.lcmp, 1) := by decide +kernel
theorem dL_say_26 : decode cL_say 26 = .ok (.ifCond .eq 17, 3) := by decide +kernel
theorem dL_say_29 : decode cL_say 29 = .ok (.aload_n 0, 1) := by decide +kernel
theorem dL_say_30 : decode cL_say 30 = .ok (.aload_n 1, 1) := by decide +kernel
theorem dL_say_31 : decode cL_say 31 = .ok (.lload_n 2, 1) := by decide +kernel
theorem dL_say_32 : decode cL_say 32 = .ok (.iload 4, 2) := by decide +kernel
theorem dL_say_34 : decode cL_say 34 = .ok (.lshr, 1) := by decide +kernel
theorem dL_say_35 : decode cL_say 35 = .ok (.ldc2_w 19, 3) := by decide +kernel
theorem dL_say_38 : decode cL_say 38 = .ok (.land, 1) := by decide +kernel
theorem dL_say_39 : decode cL_say 39 = .ok (.l2i, 1) := by decide +kernel
theorem dL_say_40 : decode cL_say 40 = .ok (.invokestatic 13, 3) := by decide +kernel
theorem dL_say_43 : decode cL_say 43 = .ok (.iinc 4 (-8), 3) := by decide +kernel
theorem dL_say_46 : decode cL_say 46 = .ok (.goto (-35), 3) := by decide +kernel
theorem dL_say_49 : decode cL_say 49 = .ok (.return_, 1) := by decide +kernel
theorem mokL_say : MOK yL_say cL_say 5 none 3 := ⟨w5_34, w1_0, ⟨by decide, by decide⟩, by decide +kernel, by decide⟩
abbrev miL_say : MI := (yL_say.cls, cL_say, 5, 4, false)
noncomputable def LL_say_1 : Sm Unit := dLoop (fun f => (sI (sL (sR (sR fr0 0 (gR f 0)) 1 (gR f 1)) 2 (gL f 2)) 4 (gI f 4))) (dCZ q_ge (vI 4)) (dIf (dCZ q_ne (d2 o_lcmp (d2 o_land (d2 o_lshr (vL 2) (vI 4)) (cL 255)) (cL 0))) (dDo (dCall DL_put (aI (aR (aR aN 0 (vR 0)) 1 (vR 1)) 2 (d1 o_l2i (d2 o_land (d2 o_lshr (vL 2) (vI 4)) (cL 255)))))) dSkip) (dInc 4 (-8))
theorem sLL_say_1 {ΓL : Gm} {PB PK : List Nat} : SS (cvoV, .return_) miL_say ΓL PB PK [(0, 2), (1, 2), (2, 1), (4, 0)] [(0, 2), (1, 2), (2, 1), (4, 0)] 11 [49] LL_say_1 := t_loop (pT := 16) (pF := 49) (pu := 43) (PB' := []) (PK' := []) (XB := [43]) (XU := [46]) (fun _ _ => rfl) rfl (c_ge_ZF (pF := 49) (s_iload dL_say_11 rfl) dL_say_13 rfl) (t_if (pT := 29) (pF := 43) (X := [43]) (XA := [43]) (XB := [43]) (c_ne_ZF (pF := 43) (s_lcmp (s_land (s_lshr (s_lload_n dL_say_16 rfl rfl) (s_iload dL_say_17 rfl) dL_say_19) (s_ldc2 dL_say_20 w5_46) dL_say_23) (s_lconst dL_say_24 rfl) dL_say_25) dL_say_26 rfl) (t_do (x_call (ts := [(0, 2), (1, 2), (2, 0)]) kL_put mokL_put w5_36 rfl rfl rfl (a_I (ts := [(0, 2), (1, 2)]) 2 (a_R (ts := [(0, 2)]) 1 (a_R (ts := []) 0 a_nil (s_aload_n dL_say_29 rfl rfl) rfl) (s_aload_n dL_say_30 rfl rfl) rfl) (s_l2i (s_land (s_lshr (s_lload_n dL_say_31 rfl rfl) (s_iload dL_say_32 rfl) dL_say_34) (s_ldc2 dL_say_35 w5_46) dL_say_38) dL_say_39) rfl) dL_say_40 w5_35) rfl) (t_skip (ld_in rfl) rfl) (lda_cons (ld_in rfl) lda_nil) (lda_cons (ld_in rfl) lda_nil)) (t_iinc dL_say_43 rfl rfl rfl rfl) (lda_cons (ld_in rfl) lda_nil) lda_nil (lda_cons (ld_goto (y := 11) dL_say_46 rfl (ld_in rfl)) lda_nil) (ld_in rfl) lda_nil
noncomputable def BL_say : Sm Unit := (dSeq (dDo (dCall DL_put (aI (aR (aR aN 0 (vR 0)) 1 (vR 1)) 2 (cI 32)))) (dSeq (dSeq (dSetI 4 (cI 56)) LL_say_1) dRet0))
theorem sBL_say : SS (cvoV, .return_) miL_say [] [] [] [(0, 2), (1, 2), (2, 1)] [(0, 2), (1, 2), (2, 1)] 0 [] BL_say := (t_sq (p1 := 7) (Γ' := [(0, 2), (1, 2), (2, 1)]) (t_do (x_call (ts := [(0, 2), (1, 2), (2, 0)]) kL_put mokL_put w5_36 rfl rfl rfl (a_I (ts := [(0, 2), (1, 2)]) 2 (a_R (ts := [(0, 2)]) 1 (a_R (ts := []) 0 a_nil (s_aload_n dL_say_0 rfl rfl) rfl) (s_aload_n dL_say_1 rfl rfl) rfl) (s_bipush dL_say_2 rfl) rfl) dL_say_4 w5_35) rfl) (t_sq (p1 := 49) (Γ' := [(0, 2), (1, 2), (2, 1)]) (t_sq (p1 := 11) (Γ' := [(0, 2), (1, 2), (2, 1), (4, 0)]) (t_istore (s_bipush dL_say_7 rfl) dL_say_9 rfl rfl) (tn_to (Γ' := [(0, 2), (1, 2), (2, 1), (4, 0)]) (XA := [49]) sLL_say_1 (lda_cons (ld_in rfl) lda_nil) rfl)) (t_ret0 (fun _ _ => rfl) dL_say_49)))
noncomputable def DL_say : Fr → St → Option (Unit × St) := M1 (fun f => (sL (sR (sR fr0 0 (gR f 0)) 1 (gR f 1)) 2 (gL f 2))) BL_say
theorem kL_say : SND yL_say cL_say 5 none 4 [(0, 2), (1, 2), (2, 1)] cvoV DL_say := snd_V (nw := 4) (by decide) (fun z => by cases z) rfl rfl (fun _ _ => rfl) sBL_say
theorem dL_number_0 : decode cL_number 0 = .ok (.aload_n 0, 1) := by decide +kernel
theorem dL_number_1 : decode cL_number 1 = .ok (.aload_n 1, 1) := by decide +kernel
theorem dL_number_2 : decode cL_number 2 = .ok (.bipush 32, 2) := by decide +kernel
theorem dL_number_4 : decode cL_number 4 = .ok (.invokestatic 13, 3) := by decide +kernel
theorem dL_number_7 : decode cL_number 7 = .ok (.iload_n 2, 1) := by decide +kernel
theorem dL_number_8 : decode cL_number 8 = .ok (.sipush 9999, 3) := by decide +kernel
theorem dL_number_11 : decode cL_number 11 = .ok (.if_icmp .le 16, 3) := by decide +kernel
theorem dL_number_14 : decode cL_number 14 = .ok (.aload_n 0, 1) := by decide +kernel
theorem dL_number_15 : decode cL_number 15 = .ok (.aload_n 1, 1) := by decide +kernel
theorem dL_number_16 : decode cL_number 16 = .ok (.bipush 48, 2) := by decide +kernel
theorem dL_number_18 : decode cL_number 18 = .ok (.iload_n 2, 1) := by decide +kernel
theorem dL_number_19 : decode cL_number 19 = .ok (.sipush 10000, 3) := by decide +kernel
theorem dL_number_22 : decode cL_number 22 = .ok (.idiv, 1) := by decide +kernel
theorem dL_number_23 : decode cL_number 23 = .ok (.iadd, 1) := by decide +kernel
theorem dL_number_24 : decode cL_number 24 = .ok (.invokestatic 13, 3) := by decide +kernel
theorem dL_number_27 : decode cL_number 27 = .ok (.iload_n 2, 1) := by decide +kernel
theorem dL_number_28 : decode cL_number 28 = .ok (.sipush 999, 3) := by decide +kernel
theorem dL_number_31 : decode cL_number 31 = .ok (.if_icmp .le 19, 3) := by decide +kernel
theorem dL_number_34 : decode cL_number 34 = .ok (.aload_n 0, 1) := by decide +kernel
theorem dL_number_35 : decode cL_number 35 = .ok (.aload_n 1, 1) := by decide +kernel
theorem dL_number_36 : decode cL_number 36 = .ok (.bipush 48, 2) := by decide +kernel
theorem dL_number_38 : decode cL_number 38 = .ok (.iload_n 2, 1) := by decide +kernel
theorem dL_number_39 : decode cL_number 39 = .ok (.sipush 1000, 3) := by decide +kernel
theorem dL_number_42 : decode cL_number 42 = .ok (.idiv, 1) := by decide +kernel
theorem dL_number_43 : decode cL_number 43 = .ok (.bipush 10, 2) := by decide +kernel
theorem dL_number_45 : decode cL_number 45 = .ok (.irem, 1) := by decide +kernel
theorem dL_number_46 : decode cL_number 46 = .ok (.iadd, 1) := by decide +kernel
theorem dL_number_47 : decode cL_number 47 = .ok (.invokestatic 13, 3) := by decide +kernel
theorem dL_number_50 : decode cL_number 50 = .ok (.iload_n 2, 1) := by decide +kernel
theorem dL_number_51 : decode cL_number 51 = .ok (.bipush 99, 2) := by decide +kernel
theorem dL_number_53 : decode cL_number 53 = .ok (.if_icmp .le 18, 3) := by decide +kernel
theorem dL_number_56 : decode cL_number 56 = .ok (.aload_n 0, 1) := by decide +kernel
theorem dL_number_57 : decode cL_number 57 = .ok (.aload_n 1, 1) := by decide +kernel
theorem dL_number_58 : decode cL_number 58 = .ok (.bipush 48, 2) := by decide +kernel
theorem dL_number_60 : decode cL_number 60 = .ok (.iload_n 2, 1) := by decide +kernel
theorem dL_number_61 : decode cL_number 61 = .ok (.bipush 100, 2) := by decide +kernel
theorem dL_number_63 : decode cL_number 63 = .ok (.idiv, 1) := by decide +kernel
theorem dL_number_64 : decode cL_number 64 = .ok (.bipush 10, 2) := by decide +kernel
theorem dL_number_66 : decode cL_number 66 = .ok (.irem, 1) := by decide +kernel
theorem dL_number_67 : decode cL_number 67 = .ok (.iadd, 1) := by decide +kernel
theorem dL_number_68 : decode cL_number 68 = .ok (.invokestatic 13, 3) := by decide +kernel
theorem dL_number_71 : decode cL_number 71 = .ok (.iload_n 2, 1) := by decide +kernel
theorem dL_number_72 : decode cL_number 72 = .ok (.bipush 9, 2) := by decide +kernel
theorem dL_number_74 : decode cL_number 74 = .ok (.if_icmp .le 18, 3) := by decide +kernel
theorem dL_number_77 : decode cL_number 77 = .ok (.aload_n 0, 1) := by decide +kernel
theorem dL_number_78 : decode cL_number 78 = .ok (.aload_n 1, 1) := by decide +kernel
theorem dL_number_79 : decode cL_number 79 = .ok (.bipush 48, 2) := by decide +kernel
theorem dL_number_81 : decode cL_number 81 = .ok (.iload_n 2, 1) := by decide +kernel
theorem dL_number_82 : decode cL_number 82 = .ok (.bipush 10, 2) := by decide +kernel
theorem dL_number_84 : decode cL_number 84 = .ok (.idiv, 1) := by decide +kernel
theorem dL_number_85 : decode cL_number 85 = .ok (.bipush 10, 2) := by decide +kernel
theorem dL_number_87 : decode cL_number 87 = .ok (.irem, 1) := by decide +kernel
theorem dL_number_88 : decode cL_number 88 = .ok (.iadd, 1) := by decide +kernel
theorem dL_number_89 : decode cL_number 89 = .ok (.invokestatic 13, 3) := by decide +kernel
theorem dL_number_92 : decode cL_number 92 = .ok (.aload_n 0, 1) := by decide +kernel
theorem dL_number_93 : decode cL_number 93 = .ok (.aload_n 1, 1) := by decide +kernel
theorem dL_number_94 : decode cL_number 94 = .ok (.bipush 48, 2) := by decide +kernel
theorem dL_number_96 : decode cL_number 96 = .ok (.iload_n 2, 1) := by decide +kernel
theorem dL_number_97 : decode cL_number 97 = .ok (.bipush 10, 2) := by decide +kernel
theorem dL_number_99 : decode cL_number 99 = .ok (.irem, 1) := by decide +kernel
theorem dL_number_100 : decode cL_number 100 = .ok (.iadd, 1) := by decide +kernel
theorem dL_number_101 : decode cL_number 101 = .ok (.invokestatic 13, 3) := by decide +kernel
theorem dL_number_104 : decode cL_number 104 = .ok (.return_, 1) := by decide +kernel
theorem mokL_number : MOK yL_number cL_number 3 none 3 := ⟨w5_53, w1_0, ⟨by decide, by decide⟩, by decide +kernel, by decide⟩
abbrev miL_number : MI := (yL_number.cls, cL_number, 3, 4, false)
noncomputable def BL_number : Sm Unit := (dSeq (dDo (dCall DL_put (aI (aR (aR aN 0 (vR 0)) 1 (vR 1)) 2 (cI 32)))) (dSeq (dIf (dCI r_gt (vI 2) (cI 9999)) (dDo (dCall DL_put (aI (aR (aR aN 0 (vR 0)) 1 (vR 1)) 2 (d2 o_iadd (cI 48) (d2z o_idiv (vI 2) (cI 10000)))))) dSkip) (dSeq (dIf (dCI r_gt (vI 2) (cI 999)) (dDo (dCall DL_put (aI (aR (aR aN 0 (vR 0)) 1 (vR 1)) 2 (d2 o_iadd (cI 48) (d2z o_irem (d2z o_idiv (vI 2) (cI 1000)) (cI 10)))))) dSkip) (dSeq (dIf (dCI r_gt (vI 2) (cI 99)) (dDo (dCall DL_put (aI (aR (aR aN 0 (vR 0)) 1 (vR 1)) 2 (d2 o_iadd (cI 48) (d2z o_irem (d2z o_idiv (vI 2) (cI 100)) (cI 10)))))) dSkip) (dSeq (dIf (dCI r_gt (vI 2) (cI 9)) (dDo (dCall DL_put (aI (aR (aR aN 0 (vR 0)) 1 (vR 1)) 2 (d2 o_iadd (cI 48) (d2z o_irem (d2z o_idiv (vI 2) (cI 10)) (cI 10)))))) dSkip) (dSeq (dDo (dCall DL_put (aI (aR (aR aN 0 (vR 0)) 1 (vR 1)) 2 (d2 o_iadd (cI 48) (d2z o_irem (vI 2) (cI 10)))))) dRet0))))))
theorem sBL_number : SS (cvoV, .return_) miL_number [] [] [] [(0, 2), (1, 2), (2, 0)] [(0, 2), (1, 2), (2, 0)] 0 [] BL_number := (t_sq (p1 := 7) (Γ' := [(0, 2), (1, 2), (2, 0)]) (t_do (x_call (ts := [(0, 2), (1, 2), (2, 0)]) kL_put mokL_put w5_36 rfl rfl rfl (a_I (ts := [(0, 2), (1, 2)]) 2 (a_R (ts := [(0, 2)]) 1 (a_R (ts := []) 0 a_nil (s_aload_n dL_number_0 rfl rfl) rfl) (s_aload_n dL_number_1 rfl rfl) rfl) (s_bipush dL_number_2 rfl) rfl) dL_number_4 w5_35) rfl) (t_sq (p1 := 27) (Γ' := [(0, 2), (1, 2), (2, 0)]) (t_if (pT := 14) (pF := 27) (X := [27]) (XA := [27]) (XB := [27]) (c_gt_F (pF := 27) (s_iload_n dL_number_7 rfl rfl) (s_sipush dL_number_8 rfl) dL_number_11 rfl) (t_do (x_call (ts := [(0, 2), (1, 2), (2, 0)]) kL_put mokL_put w5_36 rfl rfl rfl (a_I (ts := [(0, 2), (1, 2)]) 2 (a_R (ts := [(0, 2)]) 1 (a_R (ts := []) 0 a_nil (s_aload_n dL_number_14 rfl rfl) rfl) (s_aload_n dL_number_15 rfl rfl) rfl) (s_iadd (s_bipush dL_number_16 rfl) (s_idiv (s_iload_n dL_number_18 rfl rfl) (s_sipush dL_number_19 rfl) dL_number_22) dL_number_23) rfl) dL_number_24 w5_35) rfl) (t_skip (ld_in rfl) rfl) (lda_cons (ld_in rfl) lda_nil) (lda_cons (ld_in rfl) lda_nil)) (t_sq (p1 := 50) (Γ' := [(0, 2), (1, 2), (2, 0)]) (t_if (pT := 34) (pF := 50) (X := [50]) (XA := [50]) (XB := [50]) (c_gt_F (pF := 50) (s_iload_n dL_number_27 rfl rfl) (s_sipush dL_number_28 rfl) dL_number_31 rfl) (t_do (x_call (ts := [(0, 2), (1, 2), (2, 0)]) kL_put mokL_put w5_36 rfl rfl rfl (a_I (ts := [(0, 2), (1, 2)]) 2 (a_R (ts := [(0, 2)]) 1 (a_R (ts := []) 0 a_nil (s_aload_n dL_number_34 rfl rfl) rfl) (s_aload_n dL_number_35 rfl rfl) rfl) (s_iadd (s_bipush dL_number_36 rfl) (s_irem (s_idiv (s_iload_n dL_number_38 rfl rfl) (s_sipush dL_number_39 rfl) dL_number_42) (s_bipush dL_number_43 rfl) dL_number_45) dL_number_46) rfl) dL_number_47 w5_35) rfl) (t_skip (ld_in rfl) rfl) (lda_cons (ld_in rfl) lda_nil) (lda_cons (ld_in rfl) lda_nil)) (t_sq (p1 := 71) (Γ' := [(0, 2), (1, 2), (2, 0)]) (t_if (pT := 56) (pF := 71) (X := [71]) (XA := [71]) (XB := [71]) (c_gt_F (pF := 71) (s_iload_n dL_number_50 rfl rfl) (s_bipush dL_number_51 rfl) dL_number_53 rfl) (t_do (x_call (ts := [(0, 2), (1, 2), (2, 0)]) kL_put mokL_put w5_36 rfl rfl rfl (a_I (ts := [(0, 2), (1, 2)]) 2 (a_R (ts := [(0, 2)]) 1 (a_R (ts := []) 0 a_nil (s_aload_n dL_number_56 rfl rfl) rfl) (s_aload_n dL_number_57 rfl rfl) rfl) (s_iadd (s_bipush dL_number_58 rfl) (s_irem (s_idiv (s_iload_n dL_number_60 rfl rfl) (s_bipush dL_number_61 rfl) dL_number_63) (s_bipush dL_number_64 rfl) dL_number_66) dL_number_67) rfl) dL_number_68 w5_35) rfl) (t_skip (ld_in rfl) rfl) (lda_cons (ld_in rfl) lda_nil) (lda_cons (ld_in rfl) lda_nil)) (t_sq (p1 := 92) (Γ' := [(0, 2), (1, 2), (2, 0)]) (t_if (pT := 77) (pF := 92) (X := [92]) (XA := [92]) (XB := [92]) (c_gt_F (pF := 92) (s_iload_n dL_number_71 rfl rfl) (s_bipush dL_number_72 rfl) dL_number_74 rfl) (t_do (x_call (ts := [(0, 2), (1, 2), (2, 0)]) kL_put mokL_put w5_36 rfl rfl rfl (a_I (ts := [(0, 2), (1, 2)]) 2 (a_R (ts := [(0, 2)]) 1 (a_R (ts := []) 0 a_nil (s_aload_n dL_number_77 rfl rfl) rfl) (s_aload_n dL_number_78 rfl rfl) rfl) (s_iadd (s_bipush dL_number_79 rfl) (s_irem (s_idiv (s_iload_n dL_number_81 rfl rfl) (s_bipush dL_number_82 rfl) dL_number_84) (s_bipush dL_number_85 rfl) dL_number_87) dL_number_88) rfl) dL_number_89 w5_35) rfl) (t_skip (ld_in rfl) rfl) (lda_cons (ld_in rfl) lda_nil) (lda_cons (ld_in rfl) lda_nil)) (t_sq (p1 := 104) (Γ' := [(0, 2), (1, 2), (2, 0)]) (t_do (x_call (ts := [(0, 2), (1, 2), (2, 0)]) kL_put mokL_put w5_36 rfl rfl rfl (a_I (ts := [(0, 2), (1, 2)]) 2 (a_R (ts := [(0, 2)]) 1 (a_R (ts := []) 0 a_nil (s_aload_n dL_number_92 rfl rfl) rfl) (s_aload_n dL_number_93 rfl rfl) rfl) (s_iadd (s_bipush dL_number_94 rfl) (s_irem (s_iload_n dL_number_96 rfl rfl) (s_bipush dL_number_97 rfl) dL_number_99) dL_number_100) rfl) dL_number_101 w5_35) rfl) (t_ret0 (fun _ _ => rfl) dL_number_104)))))))
noncomputable def DL_number : Fr → St → Option (Unit × St) := M1 (fun f => (sI (sR (sR fr0 0 (gR f 0)) 1 (gR f 1)) 2 (gI f 2))) BL_number
theorem kL_number : SND yL_number cL_number 3 none 4 [(0, 2), (1, 2), (2, 0)] cvoV DL_number := snd_V (nw := 3) (by decide) (fun z => by cases z) rfl rfl (fun _ _ => rfl) sBL_number
theorem dL_say__0 : decode cL_say_ 0 = .ok (.aload_n 0, 1) := by decide +kernel
theorem dL_say__1 : decode cL_say_ 1 = .ok (.aload_n 1, 1) := by decide +kernel
theorem dL_say__2 : decode cL_say_ 2 = .ok (.lload_n 2, 1) := by decide +kernel
theorem dL_say__3 : decode cL_say_ 3 = .ok (.invokestatic 21, 3) := by decide +kernel
theorem dL_say__6 : decode cL_say_ 6 = .ok (.aload_n 0, 1) := by decide +kernel
theorem dL_say__7 : decode cL_say_ 7 = .ok (.aload_n 1, 1) := by decide +kernel
theorem dL_say__8 : decode cL_say_ 8 = .ok (.iload 4, 2) := by decide +kernel
theorem dL_say__10 : decode cL_say_ 10 = .ok (.invokestatic 25, 3) := by decide +kernel
theorem dL_say__13 : decode cL_say_ 13 = .ok (.return_, 1) := by decide +kernel
theorem mokL_say_ : MOK yL_say_ cL_say_ 5 none 4 := ⟨w5_50, w1_0, ⟨by decide, by decide⟩, by decide +kernel, by decide⟩
abbrev miL_say_ : MI := (yL_say_.cls, cL_say_, 5, 5, false)
noncomputable def BL_say_ : Sm Unit := (dSeq (dDo (dCall DL_say (aL (aR (aR aN 0 (vR 0)) 1 (vR 1)) 2 (vL 2)))) (dSeq (dDo (dCall DL_number (aI (aR (aR aN 0 (vR 0)) 1 (vR 1)) 2 (vI 4)))) dRet0))
theorem sBL_say_ : SS (cvoV, .return_) miL_say_ [] [] [] [(0, 2), (1, 2), (2, 1), (4, 0)] [(0, 2), (1, 2), (2, 1), (4, 0)] 0 [] BL_say_ := (t_sq (p1 := 6) (Γ' := [(0, 2), (1, 2), (2, 1), (4, 0)]) (t_do (x_call (ts := [(0, 2), (1, 2), (2, 1)]) kL_say mokL_say w5_33 rfl rfl rfl (a_L (ts := [(0, 2), (1, 2)]) 2 (a_R (ts := [(0, 2)]) 1 (a_R (ts := []) 0 a_nil (s_aload_n dL_say__0 rfl rfl) rfl) (s_aload_n dL_say__1 rfl rfl) rfl) (s_lload_n dL_say__2 rfl rfl) rfl) dL_say__3 w5_32) rfl) (t_sq (p1 := 13) (Γ' := [(0, 2), (1, 2), (2, 1), (4, 0)]) (t_do (x_call (ts := [(0, 2), (1, 2), (2, 0)]) kL_number mokL_number w5_52 rfl rfl rfl (a_I (ts := [(0, 2), (1, 2)]) 2 (a_R (ts := [(0, 2)]) 1 (a_R (ts := []) 0 a_nil (s_aload_n dL_say__6 rfl rfl) rfl) (s_aload_n dL_say__7 rfl rfl) rfl) (s_iload dL_say__8 rfl) rfl) dL_say__10 w5_51) rfl) (t_ret0 (fun _ _ => rfl) dL_say__13)))
noncomputable def DL_say_ : Fr → St → Option (Unit × St) := M1 (fun f => (sI (sL (sR (sR fr0 0 (gR f 0)) 1 (gR f 1)) 2 (gL f 2)) 4 (gI f 4))) BL_say_
theorem kL_say_ : SND yL_say_ cL_say_ 5 none 5 [(0, 2), (1, 2), (2, 1), (4, 0)] cvoV DL_say_ := snd_V (nw := 5) (by decide) (fun z => by cases z) rfl rfl (fun _ _ => rfl) sBL_say_
theorem dL_done_0 : decode cL_done 0 = .ok (.aload_n 0, 1) := by decide +kernel
theorem dL_done_1 : decode cL_done 1 = .ok (.aload_n 1, 1) := by decide +kernel
theorem dL_done_2 : decode cL_done 2 = .ok (.bipush 59, 2) := by decide +kernel
theorem dL_done_4 : decode cL_done 4 = .ok (.invokestatic 13, 3) := by decide +kernel
theorem dL_done_7 : decode cL_done 7 = .ok (.return_, 1) := by decide +kernel
theorem mokL_done : MOK yL_done cL_done 2 none 2 := ⟨w5_58, w1_0, ⟨by decide, by decide⟩, by decide +kernel, by decide⟩
abbrev miL_done : MI := (yL_done.cls, cL_done, 2, 4, false)
noncomputable def BL_done : Sm Unit := (dSeq (dDo (dCall DL_put (aI (aR (aR aN 0 (vR 0)) 1 (vR 1)) 2 (cI 59)))) dRet0)
theorem sBL_done : SS (cvoV, .return_) miL_done [] [] [] [(0, 2), (1, 2)] [(0, 2), (1, 2)] 0 [] BL_done := (t_sq (p1 := 7) (Γ' := [(0, 2), (1, 2)]) (t_do (x_call (ts := [(0, 2), (1, 2), (2, 0)]) kL_put mokL_put w5_36 rfl rfl rfl (a_I (ts := [(0, 2), (1, 2)]) 2 (a_R (ts := [(0, 2)]) 1 (a_R (ts := []) 0 a_nil (s_aload_n dL_done_0 rfl rfl) rfl) (s_aload_n dL_done_1 rfl rfl) rfl) (s_bipush dL_done_2 rfl) rfl) dL_done_4 w5_35) rfl) (t_ret0 (fun _ _ => rfl) dL_done_7))
noncomputable def DL_done : Fr → St → Option (Unit × St) := M1 (fun f => (sR (sR fr0 0 (gR f 0)) 1 (gR f 1))) BL_done
theorem kL_done : SND yL_done cL_done 2 none 4 [(0, 2), (1, 2)] cvoV DL_done := snd_V (nw := 2) (by decide) (fun z => by cases z) rfl rfl (fun _ _ => rfl) sBL_done
theorem dL_rest_0 : decode cL_rest 0 = .ok (.aload_n 1, 1) := by decide +kernel
theorem dL_rest_1 : decode cL_rest 1 = .ok (.iconst 5, 1) := by decide +kernel
theorem dL_rest_2 : decode cL_rest 2 = .ok (.iaload, 1) := by decide +kernel
theorem dL_rest_3 : decode cL_rest 3 = .ok (.ifCond .le 13, 3) := by decide +kernel
theorem dL_rest_6 : decode cL_rest 6 = .ok (.aload_n 0, 1) := by decide +kernel
theorem dL_rest_7 : decode cL_rest 7 = .ok (.aload_n 1, 1) := by decide +kernel
theorem dL_rest_8 : decode cL_rest 8 = .ok (.bipush 32, 2) := by decide +kernel
theorem dL_rest_10 : decode cL_rest 10 = .ok (.invokestatic 13, 3) := by decide +kernel
theorem dL_rest_13 : decode cL_rest 13 = .ok (.goto (-13), 3) := by decide +kernel
theorem dL_rest_16 : decode cL_rest 16 = .ok (.return_, 1) := by decide +kernel
theorem mokL_rest : MOK yL_rest cL_rest 2 none 2 := ⟨w5_85, w1_0, ⟨by decide, by decide⟩, by decide +kernel, by decide⟩
abbrev miL_rest : MI := (yL_rest.cls, cL_rest, 2, 4, false)
noncomputable def LL_rest_1 : Sm Unit := dLoop (fun f => (sR (sR fr0 0 (gR f 0)) 1 (gR f 1))) (dCZ q_gt (dAI (vR 1) (cI 5))) (dDo (dCall DL_put (aI (aR (aR aN 0 (vR 0)) 1 (vR 1)) 2 (cI 32)))) dSkip
theorem sLL_rest_1 {ΓL : Gm} {PB PK : List Nat} : SS (cvoV, .return_) miL_rest ΓL PB PK [(0, 2), (1, 2)] [(0, 2), (1, 2)] 0 [16] LL_rest_1 := t_loop (pT := 6) (pF := 16) (pu := 0) (PB' := []) (PK' := []) (XB := [13]) (XU := [0]) (fun _ _ => rfl) rfl (c_gt_ZF (pF := 16) (s_dAI (s_aload_n dL_rest_0 rfl rfl) (s_iconst dL_rest_1 rfl) dL_rest_2) dL_rest_3 rfl) (t_do (x_call (ts := [(0, 2), (1, 2), (2, 0)]) kL_put mokL_put w5_36 rfl rfl rfl (a_I (ts := [(0, 2), (1, 2)]) 2 (a_R (ts := [(0, 2)]) 1 (a_R (ts := []) 0 a_nil (s_aload_n dL_rest_6 rfl rfl) rfl) (s_aload_n dL_rest_7 rfl rfl) rfl) (s_bipush dL_rest_8 rfl) rfl) dL_rest_10 w5_35) rfl) (t_skip (ld_in rfl) rfl) (lda_cons (ld_goto (y := 0) dL_rest_13 rfl (ld_in rfl)) lda_nil) lda_nil (lda_cons (ld_in rfl) lda_nil) (ld_in rfl) lda_nil
noncomputable def BL_rest : Sm Unit := (dSeq LL_rest_1 dRet0)
theorem sBL_rest : SS (cvoV, .return_) miL_rest [] [] [] [(0, 2), (1, 2)] [(0, 2), (1, 2)] 0 [] BL_rest := (t_sq (p1 := 16) (Γ' := [(0, 2), (1, 2)]) (tn_to (Γ' := [(0, 2), (1, 2)]) (XA := [16]) sLL_rest_1 (lda_cons (ld_in rfl) lda_nil) rfl) (t_ret0 (fun _ _ => rfl) dL_rest_16))
noncomputable def DL_rest : Fr → St → Option (Unit × St) := M1 (fun f => (sR (sR fr0 0 (gR f 0)) 1 (gR f 1))) BL_rest
theorem kL_rest : SND yL_rest cL_rest 2 none 4 [(0, 2), (1, 2)] cvoV DL_rest := snd_V (nw := 2) (by decide) (fun z => by cases z) rfl rfl (fun _ _ => rfl) sBL_rest
theorem dL_port_0 : decode cL_port 0 = .ok (.aload_n 0, 1) := by decide +kernel
theorem dL_port_1 : decode cL_port 1 = .ok (.aload_n 1, 1) := by decide +kernel
theorem dL_port_2 : decode cL_port 2 = .ok (.ldc2_w 28, 3) := by decide +kernel
theorem dL_port_5 : decode cL_port 5 = .ok (.invokestatic 21, 3) := by decide +kernel
theorem dL_port_8 : decode cL_port 8 = .ok (.aload_n 0, 1) := by decide +kernel
theorem dL_port_9 : decode cL_port 9 = .ok (.aload_n 1, 1) := by decide +kernel
theorem dL_port_10 : decode cL_port 10 = .ok (.ldc2_w 30, 3) := by decide +kernel
theorem dL_port_13 : decode cL_port 13 = .ok (.iload_n 2, 1) := by decide +kernel
theorem dL_port_14 : decode cL_port 14 = .ok (.invokestatic 32, 3) := by decide +kernel
theorem dL_port_17 : decode cL_port 17 = .ok (.aload_n 0, 1) := by decide +kernel
theorem dL_port_18 : decode cL_port 18 = .ok (.aload_n 1, 1) := by decide +kernel
theorem dL_port_19 : decode cL_port 19 = .ok (.ldc2_w 35, 3) := by decide +kernel
theorem dL_port_22 : decode cL_port 22 = .ok (.iload_n 3, 1) := by decide +kernel
theorem dL_port_23 : decode cL_port 23 = .ok (.invokestatic 32, 3) := by decide +kernel
theorem dL_port_26 : decode cL_port 26 = .ok (.aload_n 0, 1) := by decide +kernel
theorem dL_port_27 : decode cL_port 27 = .ok (.aload_n 1, 1) := by decide +kernel
theorem dL_port_28 : decode cL_port 28 = .ok (.ldc2_w 37, 3) := by decide +kernel
theorem dL_port_31 : decode cL_port 31 = .ok (.iload 4, 2) := by decide +kernel
theorem dL_port_33 : decode cL_port 33 = .ok (.invokestatic 32, 3) := by decide +kernel
theorem dL_port_36 : decode cL_port 36 = .ok (.aload_n 0, 1) := by decide +kernel
theorem dL_port_37 : decode cL_port 37 = .ok (.aload_n 1, 1) := by decide +kernel
theorem dL_port_38 : decode cL_port 38 = .ok (.invokestatic 39, 3) := by decide +kernel
theorem dL_port_41 : decode cL_port 41 = .ok (.return_, 1) := by decide +kernel
theorem mokL_port : MOK yL_port cL_port 5 none 5 := ⟨w5_30, w1_0, ⟨by decide, by decide⟩, by decide +kernel, by decide⟩
abbrev miL_port : MI := (yL_port.cls, cL_port, 5, 6, false)
noncomputable def BL_port : Sm Unit := (dSeq (dDo (dCall DL_say (aL (aR (aR aN 0 (vR 0)) 1 (vR 1)) 2 (cL 8101820097204584448)))) (dSeq (dDo (dCall DL_say_ (aI (aL (aR (aR aN 0 (vR 0)) 1 (vR 1)) 2 (cL 7233196011361927168)) 4 (vI 2)))) (dSeq (dDo (dCall DL_say_ (aI (aL (aR (aR aN 0 (vR 0)) 1 (vR 1)) 2 (cL 7809654070720856064)) 4 (vI 3)))) (dSeq (dDo (dCall DL_say_ (aI (aL (aR (aR aN 0 (vR 0)) 1 (vR 1)) 2 (cL 8026650880965083136)) 4 (vI 4)))) (dSeq (dDo (dCall DL_done (aR (aR aN 0 (vR 0)) 1 (vR 1)))) dRet0)))))
theorem sBL_port : SS (cvoV, .return_) miL_port [] [] [] [(0, 2), (1, 2), (2, 0), (3, 0), (4, 0)] [(0, 2), (1, 2), (2, 0), (3, 0), (4, 0)] 0 [] BL_port := (t_sq (p1 := 8) (Γ' := [(0, 2), (1, 2), (2, 0), (3, 0), (4, 0)]) (t_do (x_call (ts := [(0, 2), (1, 2), (2, 1)]) kL_say mokL_say w5_33 rfl rfl rfl (a_L (ts := [(0, 2), (1, 2)]) 2 (a_R (ts := [(0, 2)]) 1 (a_R (ts := []) 0 a_nil (s_aload_n dL_port_0 rfl rfl) rfl) (s_aload_n dL_port_1 rfl rfl) rfl) (s_ldc2 dL_port_2 w5_31) rfl) dL_port_5 w5_32) rfl) (t_sq (p1 := 17) (Γ' := [(0, 2), (1, 2), (2, 0), (3, 0), (4, 0)]) (t_do (x_call (ts := [(0, 2), (1, 2), (2, 1), (4, 0)]) kL_say_ mokL_say_ w5_49 rfl rfl rfl (a_I (ts := [(0, 2), (1, 2), (2, 1)]) 4 (a_L (ts := [(0, 2), (1, 2)]) 2 (a_R (ts := [(0, 2)]) 1 (a_R (ts := []) 0 a_nil (s_aload_n dL_port_8 rfl rfl) rfl) (s_aload_n dL_port_9 rfl rfl) rfl) (s_ldc2 dL_port_10 w5_47) rfl) (s_iload_n dL_port_13 rfl rfl) rfl) dL_port_14 w5_48) rfl) (t_sq (p1 := 26) (Γ' := [(0, 2), (1, 2), (2, 0), (3, 0), (4, 0)]) (t_do (x_call (ts := [(0, 2), (1, 2), (2, 1), (4, 0)]) kL_say_ mokL_say_ w5_49 rfl rfl rfl (a_I (ts := [(0, 2), (1, 2), (2, 1)]) 4 (a_L (ts := [(0, 2), (1, 2)]) 2 (a_R (ts := [(0, 2)]) 1 (a_R (ts := []) 0 a_nil (s_aload_n dL_port_17 rfl rfl) rfl) (s_aload_n dL_port_18 rfl rfl) rfl) (s_ldc2 dL_port_19 w5_54) rfl) (s_iload_n dL_port_22 rfl rfl) rfl) dL_port_23 w5_48) rfl) (t_sq (p1 := 36) (Γ' := [(0, 2), (1, 2), (2, 0), (3, 0), (4, 0)]) (t_do (x_call (ts := [(0, 2), (1, 2), (2, 1), (4, 0)]) kL_say_ mokL_say_ w5_49 rfl rfl rfl (a_I (ts := [(0, 2), (1, 2), (2, 1)]) 4 (a_L (ts := [(0, 2), (1, 2)]) 2 (a_R (ts := [(0, 2)]) 1 (a_R (ts := []) 0 a_nil (s_aload_n dL_port_26 rfl rfl) rfl) (s_aload_n dL_port_27 rfl rfl) rfl) (s_ldc2 dL_port_28 w5_55) rfl) (s_iload dL_port_31 rfl) rfl) dL_port_33 w5_48) rfl) (t_sq (p1 := 41) (Γ' := [(0, 2), (1, 2), (2, 0), (3, 0), (4, 0)]) (t_do (x_call (ts := [(0, 2), (1, 2)]) kL_done mokL_done w5_57 rfl rfl rfl (a_R (ts := [(0, 2)]) 1 (a_R (ts := []) 0 a_nil (s_aload_n dL_port_36 rfl rfl) rfl) (s_aload_n dL_port_37 rfl rfl) rfl) dL_port_38 w5_56) rfl) (t_ret0 (fun _ _ => rfl) dL_port_41))))))
noncomputable def DL_port : Fr → St → Option (Unit × St) := M1 (fun f => (sI (sI (sI (sR (sR fr0 0 (gR f 0)) 1 (gR f 1)) 2 (gI f 2)) 3 (gI f 3)) 4 (gI f 4))) BL_port
theorem kL_port : SND yL_port cL_port 5 none 6 [(0, 2), (1, 2), (2, 0), (3, 0), (4, 0)] cvoV DL_port := snd_V (nw := 5) (by decide) (fun z => by cases z) rfl rfl (fun _ _ => rfl) sBL_port
theorem dL_carrier_0 : decode cL_carrier 0 = .ok (.aload_n 0, 1) := by decide +kernel
theorem dL_carrier_1 : decode cL_carrier 1 = .ok (.aload_n 1, 1) := by decide +kernel
theorem dL_carrier_2 : decode cL_carrier 2 = .ok (.ldc2_w 49, 3) := by decide +kernel
theorem dL_carrier_5 : decode cL_carrier 5 = .ok (.invokestatic 21, 3) := by decide +kernel
theorem dL_carrier_8 : decode cL_carrier 8 = .ok (.aload_n 0, 1) := by decide +kernel
theorem dL_carrier_9 : decode cL_carrier 9 = .ok (.aload_n 1, 1) := by decide +kernel
theorem dL_carrier_10 : decode cL_carrier 10 = .ok (.ldc2_w 51, 3) := by decide +kernel
theorem dL_carrier_13 : decode cL_carrier 13 = .ok (.iload_n 2, 1) := by decide +kernel
theorem dL_carrier_14 : decode cL_carrier 14 = .ok (.invokestatic 32, 3) := by decide +kernel
theorem dL_carrier_17 : decode cL_carrier 17 = .ok (.aload_n 0, 1) := by decide +kernel
theorem dL_carrier_18 : decode cL_carrier 18 = .ok (.aload_n 1, 1) := by decide +kernel
theorem dL_carrier_19 : decode cL_carrier 19 = .ok (.ldc2_w 53, 3) := by decide +kernel
theorem dL_carrier_22 : decode cL_carrier 22 = .ok (.iload_n 3, 1) := by decide +kernel
theorem dL_carrier_23 : decode cL_carrier 23 = .ok (.invokestatic 32, 3) := by decide +kernel
theorem dL_carrier_26 : decode cL_carrier 26 = .ok (.aload_n 0, 1) := by decide +kernel
theorem dL_carrier_27 : decode cL_carrier 27 = .ok (.aload_n 1, 1) := by decide +kernel
theorem dL_carrier_28 : decode cL_carrier 28 = .ok (.invokestatic 39, 3) := by decide +kernel
theorem dL_carrier_31 : decode cL_carrier 31 = .ok (.return_, 1) := by decide +kernel
theorem mokL_carrier : MOK yL_carrier cL_carrier 4 none 4 := ⟨w5_71, w1_0, ⟨by decide, by decide⟩, by decide +kernel, by decide⟩
abbrev miL_carrier : MI := (yL_carrier.cls, cL_carrier, 4, 6, false)
noncomputable def BL_carrier : Sm Unit := (dSeq (dDo (dCall DL_say (aL (aR (aR aN 0 (vR 0)) 1 (vR 1)) 2 (cL 7161130718215893504)))) (dSeq (dDo (dCall DL_say_ (aI (aL (aR (aR aN 0 (vR 0)) 1 (vR 1)) 2 (cL 7022237718977445888)) 4 (vI 2)))) (dSeq (dDo (dCall DL_say_ (aI (aL (aR (aR aN 0 (vR 0)) 1 (vR 1)) 2 (cL 8319400234579329024)) 4 (vI 3)))) (dSeq (dDo (dCall DL_done (aR (aR aN 0 (vR 0)) 1 (vR 1)))) dRet0))))
theorem sBL_carrier : SS (cvoV, .return_) miL_carrier [] [] [] [(0, 2), (1, 2), (2, 0), (3, 0)] [(0, 2), (1, 2), (2, 0), (3, 0)] 0 [] BL_carrier := (t_sq (p1 := 8) (Γ' := [(0, 2), (1, 2), (2, 0), (3, 0)]) (t_do (x_call (ts := [(0, 2), (1, 2), (2, 1)]) kL_say mokL_say w5_33 rfl rfl rfl (a_L (ts := [(0, 2), (1, 2)]) 2 (a_R (ts := [(0, 2)]) 1 (a_R (ts := []) 0 a_nil (s_aload_n dL_carrier_0 rfl rfl) rfl) (s_aload_n dL_carrier_1 rfl rfl) rfl) (s_ldc2 dL_carrier_2 w5_72) rfl) dL_carrier_5 w5_32) rfl) (t_sq (p1 := 17) (Γ' := [(0, 2), (1, 2), (2, 0), (3, 0)]) (t_do (x_call (ts := [(0, 2), (1, 2), (2, 1), (4, 0)]) kL_say_ mokL_say_ w5_49 rfl rfl rfl (a_I (ts := [(0, 2), (1, 2), (2, 1)]) 4 (a_L (ts := [(0, 2), (1, 2)]) 2 (a_R (ts := [(0, 2)]) 1 (a_R (ts := []) 0 a_nil (s_aload_n dL_carrier_8 rfl rfl) rfl) (s_aload_n dL_carrier_9 rfl rfl) rfl) (s_ldc2 dL_carrier_10 w5_73) rfl) (s_iload_n dL_carrier_13 rfl rfl) rfl) dL_carrier_14 w5_48) rfl) (t_sq (p1 := 26) (Γ' := [(0, 2), (1, 2), (2, 0), (3, 0)]) (t_do (x_call (ts := [(0, 2), (1, 2), (2, 1), (4, 0)]) kL_say_ mokL_say_ w5_49 rfl rfl rfl (a_I (ts := [(0, 2), (1, 2), (2, 1)]) 4 (a_L (ts := [(0, 2), (1, 2)]) 2 (a_R (ts := [(0, 2)]) 1 (a_R (ts := []) 0 a_nil (s_aload_n dL_carrier_17 rfl rfl) rfl) (s_aload_n dL_carrier_18 rfl rfl) rfl) (s_ldc2 dL_carrier_19 w5_74) rfl) (s_iload_n dL_carrier_22 rfl rfl) rfl) dL_carrier_23 w5_48) rfl) (t_sq (p1 := 31) (Γ' := [(0, 2), (1, 2), (2, 0), (3, 0)]) (t_do (x_call (ts := [(0, 2), (1, 2)]) kL_done mokL_done w5_57 rfl rfl rfl (a_R (ts := [(0, 2)]) 1 (a_R (ts := []) 0 a_nil (s_aload_n dL_carrier_26 rfl rfl) rfl) (s_aload_n dL_carrier_27 rfl rfl) rfl) dL_carrier_28 w5_56) rfl) (t_ret0 (fun _ _ => rfl) dL_carrier_31)))))
noncomputable def DL_carrier : Fr → St → Option (Unit × St) := M1 (fun f => (sI (sI (sR (sR fr0 0 (gR f 0)) 1 (gR f 1)) 2 (gI f 2)) 3 (gI f 3))) BL_carrier
theorem kL_carrier : SND yL_carrier cL_carrier 4 none 6 [(0, 2), (1, 2), (2, 0), (3, 0)] cvoV DL_carrier := snd_V (nw := 4) (by decide) (fun z => by cases z) rfl rfl (fun _ _ => rfl) sBL_carrier
theorem dL_carry_0 : decode cL_carry 0 = .ok (.aload_n 0, 1) := by decide +kernel
theorem dL_carry_1 : decode cL_carry 1 = .ok (.aload_n 1, 1) := by decide +kernel
theorem dL_carry_2 : decode cL_carry 2 = .ok (.ldc2_w 55, 3) := by decide +kernel
theorem dL_carry_5 : decode cL_carry 5 = .ok (.iload_n 2, 1) := by decide +kernel
theorem dL_carry_6 : decode cL_carry 6 = .ok (.invokestatic 32, 3) := by decide +kernel
theorem dL_carry_9 : decode cL_carry 9 = .ok (.aload_n 0, 1) := by decide +kernel
theorem dL_carry_10 : decode cL_carry 10 = .ok (.aload_n 1, 1) := by decide +kernel
theorem dL_carry_11 : decode cL_carry 11 = .ok (.iload_n 3, 1) := by decide +kernel
theorem dL_carry_12 : decode cL_carry 12 = .ok (.invokestatic 25, 3) := by decide +kernel
theorem dL_carry_15 : decode cL_carry 15 = .ok (.aload_n 0, 1) := by decide +kernel
theorem dL_carry_16 : decode cL_carry 16 = .ok (.aload_n 1, 1) := by decide +kernel
theorem dL_carry_17 : decode cL_carry 17 = .ok (.ldc2_w 57, 3) := by decide +kernel
theorem dL_carry_20 : decode cL_carry 20 = .ok (.iload 4, 2) := by decide +kernel
theorem dL_carry_22 : decode cL_carry 22 = .ok (.invokestatic 32, 3) := by decide +kernel
theorem dL_carry_25 : decode cL_carry 25 = .ok (.aload_n 0, 1) := by decide +kernel
theorem dL_carry_26 : decode cL_carry 26 = .ok (.aload_n 1, 1) := by decide +kernel
theorem dL_carry_27 : decode cL_carry 27 = .ok (.ldc2_w 51, 3) := by decide +kernel
theorem dL_carry_30 : decode cL_carry 30 = .ok (.iload 5, 2) := by decide +kernel
theorem dL_carry_32 : decode cL_carry 32 = .ok (.invokestatic 32, 3) := by decide +kernel
theorem dL_carry_35 : decode cL_carry 35 = .ok (.aload_n 0, 1) := by decide +kernel
theorem dL_carry_36 : decode cL_carry 36 = .ok (.aload_n 1, 1) := by decide +kernel
theorem dL_carry_37 : decode cL_carry 37 = .ok (.invokestatic 39, 3) := by decide +kernel
theorem dL_carry_40 : decode cL_carry 40 = .ok (.return_, 1) := by decide +kernel
theorem mokL_carry : MOK yL_carry cL_carry 6 none 6 := ⟨w5_80, w1_0, ⟨by decide, by decide⟩, by decide +kernel, by decide⟩
abbrev miL_carry : MI := (yL_carry.cls, cL_carry, 6, 6, false)
noncomputable def BL_carry : Sm Unit := (dSeq (dDo (dCall DL_say_ (aI (aL (aR (aR aN 0 (vR 0)) 1 (vR 1)) 2 (cL 7161130718477680640)) 4 (vI 2)))) (dSeq (dDo (dCall DL_number (aI (aR (aR aN 0 (vR 0)) 1 (vR 1)) 2 (vI 3)))) (dSeq (dDo (dCall DL_say_ (aI (aL (aR (aR aN 0 (vR 0)) 1 (vR 1)) 2 (cL 8389924630814523392)) 4 (vI 4)))) (dSeq (dDo (dCall DL_say_ (aI (aL (aR (aR aN 0 (vR 0)) 1 (vR 1)) 2 (cL 7022237718977445888)) 4 (vI 5)))) (dSeq (dDo (dCall DL_done (aR (aR aN 0 (vR 0)) 1 (vR 1)))) dRet0)))))
theorem sBL_carry : SS (cvoV, .return_) miL_carry [] [] [] [(0, 2), (1, 2), (2, 0), (3, 0), (4, 0), (5, 0)] [(0, 2), (1, 2), (2, 0), (3, 0), (4, 0), (5, 0)] 0 [] BL_carry := (t_sq (p1 := 9) (Γ' := [(0, 2), (1, 2), (2, 0), (3, 0), (4, 0), (5, 0)]) (t_do (x_call (ts := [(0, 2), (1, 2), (2, 1), (4, 0)]) kL_say_ mokL_say_ w5_49 rfl rfl rfl (a_I (ts := [(0, 2), (1, 2), (2, 1)]) 4 (a_L (ts := [(0, 2), (1, 2)]) 2 (a_R (ts := [(0, 2)]) 1 (a_R (ts := []) 0 a_nil (s_aload_n dL_carry_0 rfl rfl) rfl) (s_aload_n dL_carry_1 rfl rfl) rfl) (s_ldc2 dL_carry_2 w5_81) rfl) (s_iload_n dL_carry_5 rfl rfl) rfl) dL_carry_6 w5_48) rfl) (t_sq (p1 := 15) (Γ' := [(0, 2), (1, 2), (2, 0), (3, 0), (4, 0), (5, 0)]) (t_do (x_call (ts := [(0, 2), (1, 2), (2, 0)]) kL_number mokL_number w5_52 rfl rfl rfl (a_I (ts := [(0, 2), (1, 2)]) 2 (a_R (ts := [(0, 2)]) 1 (a_R (ts := []) 0 a_nil (s_aload_n dL_carry_9 rfl rfl) rfl) (s_aload_n dL_carry_10 rfl rfl) rfl) (s_iload_n dL_carry_11 rfl rfl) rfl) dL_carry_12 w5_51) rfl) (t_sq (p1 := 25) (Γ' := [(0, 2), (1, 2), (2, 0), (3, 0), (4, 0), (5, 0)]) (t_do (x_call (ts := [(0, 2), (1, 2), (2, 1), (4, 0)]) kL_say_ mokL_say_ w5_49 rfl rfl rfl (a_I (ts := [(0, 2), (1, 2), (2, 1)]) 4 (a_L (ts := [(0, 2), (1, 2)]) 2 (a_R (ts := [(0, 2)]) 1 (a_R (ts := []) 0 a_nil (s_aload_n dL_carry_15 rfl rfl) rfl) (s_aload_n dL_carry_16 rfl rfl) rfl) (s_ldc2 dL_carry_17 w5_82) rfl) (s_iload dL_carry_20 rfl) rfl) dL_carry_22 w5_48) rfl) (t_sq (p1 := 35) (Γ' := [(0, 2), (1, 2), (2, 0), (3, 0), (4, 0), (5, 0)]) (t_do (x_call (ts := [(0, 2), (1, 2), (2, 1), (4, 0)]) kL_say_ mokL_say_ w5_49 rfl rfl rfl (a_I (ts := [(0, 2), (1, 2), (2, 1)]) 4 (a_L (ts := [(0, 2), (1, 2)]) 2 (a_R (ts := [(0, 2)]) 1 (a_R (ts := []) 0 a_nil (s_aload_n dL_carry_25 rfl rfl) rfl) (s_aload_n dL_carry_26 rfl rfl) rfl) (s_ldc2 dL_carry_27 w5_73) rfl) (s_iload dL_carry_30 rfl) rfl) dL_carry_32 w5_48) rfl) (t_sq (p1 := 40) (Γ' := [(0, 2), (1, 2), (2, 0), (3, 0), (4, 0), (5, 0)]) (t_do (x_call (ts := [(0, 2), (1, 2)]) kL_done mokL_done w5_57 rfl rfl rfl (a_R (ts := [(0, 2)]) 1 (a_R (ts := []) 0 a_nil (s_aload_n dL_carry_35 rfl rfl) rfl) (s_aload_n dL_carry_36 rfl rfl) rfl) dL_carry_37 w5_56) rfl) (t_ret0 (fun _ _ => rfl) dL_carry_40))))))
noncomputable def DL_carry : Fr → St → Option (Unit × St) := M1 (fun f => (sI (sI (sI (sI (sR (sR fr0 0 (gR f 0)) 1 (gR f 1)) 2 (gI f 2)) 3 (gI f 3)) 4 (gI f 4)) 5 (gI f 5))) BL_carry
theorem kL_carry : SND yL_carry cL_carry 6 none 6 [(0, 2), (1, 2), (2, 0), (3, 0), (4, 0), (5, 0)] cvoV DL_carry := snd_V (nw := 6) (by decide) (fun z => by cases z) rfl rfl (fun _ _ => rfl) sBL_carry
theorem dL_cell_0 : decode cL_cell 0 = .ok (.iload_n 1, 1) := by decide +kernel
theorem dL_cell_1 : decode cL_cell 1 = .ok (.aload_n 0, 1) := by decide +kernel
theorem dL_cell_2 : decode cL_cell 2 = .ok (.arraylength, 1) := by decide +kernel
theorem dL_cell_3 : decode cL_cell 3 = .ok (.if_icmp .ge 9, 3) := by decide +kernel
theorem dL_cell_6 : decode cL_cell 6 = .ok (.aload_n 0, 1) := by decide +kernel
theorem dL_cell_7 : decode cL_cell 7 = .ok (.iload_n 1, 1) := by decide +kernel
theorem dL_cell_8 : decode cL_cell 8 = .ok (.iaload, 1) := by decide +kernel
theorem dL_cell_9 : decode cL_cell 9 = .ok (.goto 4, 3) := by decide +kernel
theorem dL_cell_12 : decode cL_cell 12 = .ok (.iconst 0, 1) := by decide +kernel
theorem dL_cell_13 : decode cL_cell 13 = .ok (.ireturn, 1) := by decide +kernel
theorem mokL_cell : MOK yL_cell cL_cell 2 (some .int) 2 := ⟨w5_20, w1_0, ⟨by decide, by decide⟩, by decide +kernel, by decide⟩
abbrev miL_cell : MI := (yL_cell.cls, cL_cell, 2, 1, false)
noncomputable def BL_cell : Sm Int32 := (dRet (dT (dCI r_lt (vI 1) (dLen (vR 0))) (dAI (vR 0) (vI 1)) (cI 0)))
theorem sBL_cell : SS (cvoI, .ireturn) miL_cell [] [] [] [(0, 2), (1, 0)] [(0, 2), (1, 0)] 0 [] BL_cell := (t_ret (cv := cvI) (fun _ _ => rfl) (s_T (pT := 6) (pF := 12) (p1 := 9) (pe := 13) (c_lt_F (pF := 12) (s_iload_n dL_cell_0 rfl rfl) (s_len (s_aload_n dL_cell_1 rfl rfl) dL_cell_2) dL_cell_3 rfl) (s_dAI (s_aload_n dL_cell_6 rfl rfl) (s_iload_n dL_cell_7 rfl rfl) dL_cell_8) (s_iconst dL_cell_12 rfl) (ld_goto (y := 13) dL_cell_9 rfl (ld_in rfl))) dL_cell_13)
noncomputable def DL_cell : Fr → St → Option (Int32 × St) := M1 (fun f => (sI (sR fr0 0 (gR f 0)) 1 (gI f 1))) BL_cell
theorem kL_cell : SND yL_cell cL_cell 2 (some .int) 1 [(0, 2), (1, 0)] cvoI DL_cell := snd_I (nw := 2) (by decide) rfl rfl (fun _ _ => rfl) sBL_cell
theorem dL_draw_0 : decode cL_draw 0 = .ok (.aload_n 0, 1) := by decide +kernel
theorem dL_draw_1 : decode cL_draw 1 = .ok (.iload_n 1, 1) := by decide +kernel
theorem dL_draw_2 : decode cL_draw 2 = .ok (.invokestatic 85, 3) := by decide +kernel
theorem dL_draw_5 : decode cL_draw 5 = .ok (.ldc 89, 2) := by decide +kernel
theorem dL_draw_7 : decode cL_draw 7 = .ok (.iand, 1) := by decide +kernel
theorem dL_draw_8 : decode cL_draw 8 = .ok (.iload_n 2, 1) := by decide +kernel
theorem dL_draw_9 : decode cL_draw 9 = .ok (.irem, 1) := by decide +kernel
theorem dL_draw_10 : decode cL_draw 10 = .ok (.ireturn, 1) := by decide +kernel
theorem mokL_draw : MOK yL_draw cL_draw 3 (some .int) 3 := ⟨w5_23, w1_0, ⟨by decide, by decide⟩, by decide +kernel, by decide⟩
abbrev miL_draw : MI := (yL_draw.cls, cL_draw, 3, 2, false)
noncomputable def BL_draw : Sm Int32 := (dRet (d2z o_irem (d2 o_iand (dCall DL_cell (aI (aR aN 0 (vR 0)) 1 (vI 1))) (cI 2147483647)) (vI 2)))
theorem sBL_draw : SS (cvoI, .ireturn) miL_draw [] [] [] [(0, 2), (1, 0), (2, 0)] [(0, 2), (1, 0), (2, 0)] 0 [] BL_draw := (t_ret (cv := cvI) (fun _ _ => rfl) (s_irem (s_iand (s_of_xI (x_call (ts := [(0, 2), (1, 0)]) kL_cell mokL_cell w5_19 rfl rfl rfl (a_I (ts := [(0, 2)]) 1 (a_R (ts := []) 0 a_nil (s_aload_n dL_draw_0 rfl rfl) rfl) (s_iload_n dL_draw_1 rfl rfl) rfl) dL_draw_2 w5_18)) (s_ldc dL_draw_5 w5_24) dL_draw_7) (s_iload_n dL_draw_8 rfl rfl) dL_draw_9) dL_draw_10)
noncomputable def DL_draw : Fr → St → Option (Int32 × St) := M1 (fun f => (sI (sI (sR fr0 0 (gR f 0)) 1 (gI f 1)) 2 (gI f 2))) BL_draw
theorem kL_draw : SND yL_draw cL_draw 3 (some .int) 2 [(0, 2), (1, 0), (2, 0)] cvoI DL_draw := snd_I (nw := 3) (by decide) rfl rfl (fun _ _ => rfl) sBL_draw
theorem dL_house_0 : decode cL_house 0 = .ok (.aload_n 0, 1) := by decide +kernel
theorem dL_house_1 : decode cL_house 1 = .ok (.aload_n 1, 1) := by decide +kernel
theorem dL_house_2 : decode cL_house 2 = .ok (.ldc2_w 43, 3) := by decide +kernel
theorem dL_house_5 : decode cL_house 5 = .ok (.invokestatic 21, 3) := by decide +kernel
theorem dL_house_8 : decode cL_house 8 = .ok (.aload_n 0, 1) := by decide +kernel
theorem dL_house_9 : decode cL_house 9 = .ok (.aload_n 1, 1) := by decide +kernel
theorem dL_house_10 : decode cL_house 10 = .ok (.ldc2_w 45, 3) := by decide +kernel
theorem dL_house_13 : decode cL_house 13 = .ok (.iload_n 2, 1) := by decide +kernel
theorem dL_house_14 : decode cL_house 14 = .ok (.invokestatic 32, 3) := by decide +kernel
theorem dL_house_17 : decode cL_house 17 = .ok (.aload_n 0, 1) := by decide +kernel
theorem dL_house_18 : decode cL_house 18 = .ok (.aload_n 1, 1) := by decide +kernel
theorem dL_house_19 : decode cL_house 19 = .ok (.invokestatic 39, 3) := by decide +kernel
theorem dL_house_22 : decode cL_house 22 = .ok (.return_, 1) := by decide +kernel
theorem mokL_house : MOK yL_house cL_house 3 none 3 := ⟨w5_61, w1_0, ⟨by decide, by decide⟩, by decide +kernel, by decide⟩
abbrev miL_house : MI := (yL_house.cls, cL_house, 3, 6, false)
noncomputable def BL_house : Sm Unit := (dSeq (dDo (dCall DL_say (aL (aR (aR aN 0 (vR 0)) 1 (vR 1)) 2 (cL 7525362640835575808)))) (dSeq (dDo (dCall DL_say_ (aI (aL (aR (aR aN 0 (vR 0)) 1 (vR 1)) 2 (cL 7523658348873383936)) 4 (vI 2)))) (dSeq (dDo (dCall DL_done (aR (aR aN 0 (vR 0)) 1 (vR 1)))) dRet0)))
theorem sBL_house : SS (cvoV, .return_) miL_house [] [] [] [(0, 2), (1, 2), (2, 0)] [(0, 2), (1, 2), (2, 0)] 0 [] BL_house := (t_sq (p1 := 8) (Γ' := [(0, 2), (1, 2), (2, 0)]) (t_do (x_call (ts := [(0, 2), (1, 2), (2, 1)]) kL_say mokL_say w5_33 rfl rfl rfl (a_L (ts := [(0, 2), (1, 2)]) 2 (a_R (ts := [(0, 2)]) 1 (a_R (ts := []) 0 a_nil (s_aload_n dL_house_0 rfl rfl) rfl) (s_aload_n dL_house_1 rfl rfl) rfl) (s_ldc2 dL_house_2 w5_62) rfl) dL_house_5 w5_32) rfl) (t_sq (p1 := 17) (Γ' := [(0, 2), (1, 2), (2, 0)]) (t_do (x_call (ts := [(0, 2), (1, 2), (2, 1), (4, 0)]) kL_say_ mokL_say_ w5_49 rfl rfl rfl (a_I (ts := [(0, 2), (1, 2), (2, 1)]) 4 (a_L (ts := [(0, 2), (1, 2)]) 2 (a_R (ts := [(0, 2)]) 1 (a_R (ts := []) 0 a_nil (s_aload_n dL_house_8 rfl rfl) rfl) (s_aload_n dL_house_9 rfl rfl) rfl) (s_ldc2 dL_house_10 w5_63) rfl) (s_iload_n dL_house_13 rfl rfl) rfl) dL_house_14 w5_48) rfl) (t_sq (p1 := 22) (Γ' := [(0, 2), (1, 2), (2, 0)]) (t_do (x_call (ts := [(0, 2), (1, 2)]) kL_done mokL_done w5_57 rfl rfl rfl (a_R (ts := [(0, 2)]) 1 (a_R (ts := []) 0 a_nil (s_aload_n dL_house_17 rfl rfl) rfl) (s_aload_n dL_house_18 rfl rfl) rfl) dL_house_19 w5_56) rfl) (t_ret0 (fun _ _ => rfl) dL_house_22))))
noncomputable def DL_house : Fr → St → Option (Unit × St) := M1 (fun f => (sI (sR (sR fr0 0 (gR f 0)) 1 (gR f 1)) 2 (gI f 2))) BL_house
theorem kL_house : SND yL_house cL_house 3 none 6 [(0, 2), (1, 2), (2, 0)] cvoV DL_house := snd_V (nw := 3) (by decide) (fun z => by cases z) rfl rfl (fun _ _ => rfl) sBL_house
theorem dL_way_0 : decode cL_way 0 = .ok (.aload_n 0, 1) := by decide +kernel
theorem dL_way_1 : decode cL_way 1 = .ok (.aload_n 1, 1) := by decide +kernel
theorem dL_way_2 : decode cL_way 2 = .ok (.ldc2_w 47, 3) := by decide +kernel
theorem dL_way_5 : decode cL_way 5 = .ok (.iload_n 2, 1) := by decide +kernel
theorem dL_way_6 : decode cL_way 6 = .ok (.invokestatic 32, 3) := by decide +kernel
theorem dL_way_9 : decode cL_way 9 = .ok (.aload_n 0, 1) := by decide +kernel
theorem dL_way_10 : decode cL_way 10 = .ok (.aload_n 1, 1) := by decide +kernel
theorem dL_way_11 : decode cL_way 11 = .ok (.iload_n 3, 1) := by decide +kernel
theorem dL_way_12 : decode cL_way 12 = .ok (.invokestatic 25, 3) := by decide +kernel
theorem dL_way_15 : decode cL_way 15 = .ok (.aload_n 0, 1) := by decide +kernel
theorem dL_way_16 : decode cL_way 16 = .ok (.aload_n 1, 1) := by decide +kernel
theorem dL_way_17 : decode cL_way 17 = .ok (.invokestatic 39, 3) := by decide +kernel
theorem dL_way_20 : decode cL_way 20 = .ok (.return_, 1) := by decide +kernel
theorem mokL_way : MOK yL_way cL_way 4 none 4 := ⟨w5_67, w1_0, ⟨by decide, by decide⟩, by decide +kernel, by decide⟩
abbrev miL_way : MI := (yL_way.cls, cL_way, 4, 6, false)
noncomputable def BL_way : Sm Unit := (dSeq (dDo (dCall DL_say_ (aI (aL (aR (aR aN 0 (vR 0)) 1 (vR 1)) 2 (cL 8602289804161318912)) 4 (vI 2)))) (dSeq (dDo (dCall DL_number (aI (aR (aR aN 0 (vR 0)) 1 (vR 1)) 2 (vI 3)))) (dSeq (dDo (dCall DL_done (aR (aR aN 0 (vR 0)) 1 (vR 1)))) dRet0)))
theorem sBL_way : SS (cvoV, .return_) miL_way [] [] [] [(0, 2), (1, 2), (2, 0), (3, 0)] [(0, 2), (1, 2), (2, 0), (3, 0)] 0 [] BL_way := (t_sq (p1 := 9) (Γ' := [(0, 2), (1, 2), (2, 0), (3, 0)]) (t_do (x_call (ts := [(0, 2), (1, 2), (2, 1), (4, 0)]) kL_say_ mokL_say_ w5_49 rfl rfl rfl (a_I (ts := [(0, 2), (1, 2), (2, 1)]) 4 (a_L (ts := [(0, 2), (1, 2)]) 2 (a_R (ts := [(0, 2)]) 1 (a_R (ts := []) 0 a_nil (s_aload_n dL_way_0 rfl rfl) rfl) (s_aload_n dL_way_1 rfl rfl) rfl) (s_ldc2 dL_way_2 w5_68) rfl) (s_iload_n dL_way_5 rfl rfl) rfl) dL_way_6 w5_48) rfl) (t_sq (p1 := 15) (Γ' := [(0, 2), (1, 2), (2, 0), (3, 0)]) (t_do (x_call (ts := [(0, 2), (1, 2), (2, 0)]) kL_number mokL_number w5_52 rfl rfl rfl (a_I (ts := [(0, 2), (1, 2)]) 2 (a_R (ts := [(0, 2)]) 1 (a_R (ts := []) 0 a_nil (s_aload_n dL_way_9 rfl rfl) rfl) (s_aload_n dL_way_10 rfl rfl) rfl) (s_iload_n dL_way_11 rfl rfl) rfl) dL_way_12 w5_51) rfl) (t_sq (p1 := 20) (Γ' := [(0, 2), (1, 2), (2, 0), (3, 0)]) (t_do (x_call (ts := [(0, 2), (1, 2)]) kL_done mokL_done w5_57 rfl rfl rfl (a_R (ts := [(0, 2)]) 1 (a_R (ts := []) 0 a_nil (s_aload_n dL_way_15 rfl rfl) rfl) (s_aload_n dL_way_16 rfl rfl) rfl) dL_way_17 w5_56) rfl) (t_ret0 (fun _ _ => rfl) dL_way_20))))
noncomputable def DL_way : Fr → St → Option (Unit × St) := M1 (fun f => (sI (sI (sR (sR fr0 0 (gR f 0)) 1 (gR f 1)) 2 (gI f 2)) 3 (gI f 3))) BL_way
theorem kL_way : SND yL_way cL_way 4 none 6 [(0, 2), (1, 2), (2, 0), (3, 0)] cvoV DL_way := snd_V (nw := 4) (by decide) (fun z => by cases z) rfl rfl (fun _ _ => rfl) sBL_way
theorem dL_port__0 : decode cL_port_ 0 = .ok (.aload 4, 2) := by decide +kernel
theorem dL_port__2 : decode cL_port_ 2 = .ok (.iconst 0, 1) := by decide +kernel
theorem dL_port__3 : decode cL_port_ 3 = .ok (.iconst 1, 1) := by decide +kernel
theorem dL_port__4 : decode cL_port_ 4 = .ok (.aload_n 1, 1) := by decide +kernel
theorem dL_port__5 : decode cL_port_ 5 = .ok (.iconst 0, 1) := by decide +kernel
theorem dL_port__6 : decode cL_port_ 6 = .ok (.bipush 12, 2) := by decide +kernel
theorem dL_port__8 : decode cL_port_ 8 = .ok (.invokestatic 90, 3) := by decide +kernel
theorem dL_port__11 : decode cL_port_ 11 = .ok (.iadd, 1) := by decide +kernel
theorem dL_port__12 : decode cL_port_ 12 = .ok (.iastore, 1) := by decide +kernel
theorem dL_port__13 : decode cL_port_ 13 = .ok (.aload 4, 2) := by decide +kernel
theorem dL_port__15 : decode cL_port_ 15 = .ok (.iconst 1, 1) := by decide +kernel
theorem dL_port__16 : decode cL_port_ 16 = .ok (.aload_n 1, 1) := by decide +kernel
theorem dL_port__17 : decode cL_port_ 17 = .ok (.iconst 1, 1) := by decide +kernel
theorem dL_port__18 : decode cL_port_ 18 = .ok (.iconst 4, 1) := by decide +kernel
theorem dL_port__19 : decode cL_port_ 19 = .ok (.invokestatic 90, 3) := by decide +kernel
theorem dL_port__22 : decode cL_port_ 22 = .ok (.iastore, 1) := by decide +kernel
theorem dL_port__23 : decode cL_port_ 23 = .ok (.aload_n 3, 1) := by decide +kernel
theorem dL_port__24 : decode cL_port_ 24 = .ok (.iconst 0, 1) := by decide +kernel
theorem dL_port__25 : decode cL_port_ 25 = .ok (.aload_n 1, 1) := by decide +kernel
theorem dL_port__26 : decode cL_port_ 26 = .ok (.iconst 2, 1) := by decide +kernel
theorem dL_port__27 : decode cL_port_ 27 = .ok (.bipush 11, 2) := by decide +kernel
theorem dL_port__29 : decode cL_port_ 29 = .ok (.invokestatic 90, 3) := by decide +kernel
theorem dL_port__32 : decode cL_port_ 32 = .ok (.iastore, 1) := by decide +kernel
theorem dL_port__33 : decode cL_port_ 33 = .ok (.aload_n 0, 1) := by decide +kernel
theorem dL_port__34 : decode cL_port_ 34 = .ok (.aload_n 2, 1) := by decide +kernel
theorem dL_port__35 : decode cL_port_ 35 = .ok (.aload 4, 2) := by decide +kernel
theorem dL_port__37 : decode cL_port_ 37 = .ok (.iconst 0, 1) := by decide +kernel
theorem dL_port__38 : decode cL_port_ 38 = .ok (.iaload, 1) := by decide +kernel
theorem dL_port__39 : decode cL_port_ 39 = .ok (.aload 4, 2) := by decide +kernel
theorem dL_port__41 : decode cL_port_ 41 = .ok (.iconst 1, 1) := by decide +kernel
theorem dL_port__42 : decode cL_port_ 42 = .ok (.iaload, 1) := by decide +kernel
theorem dL_port__43 : decode cL_port_ 43 = .ok (.aload_n 3, 1) := by decide +kernel
theorem dL_port__44 : decode cL_port_ 44 = .ok (.iconst 0, 1) := by decide +kernel
theorem dL_port__45 : decode cL_port_ 45 = .ok (.iaload, 1) := by decide +kernel
theorem dL_port__46 : decode cL_port_ 46 = .ok (.invokestatic 93, 3) := by decide +kernel
theorem dL_port__49 : decode cL_port_ 49 = .ok (.aload 4, 2) := by decide +kernel
theorem dL_port__51 : decode cL_port_ 51 = .ok (.iconst 2, 1) := by decide +kernel
theorem dL_port__52 : decode cL_port_ 52 = .ok (.aload_n 1, 1) := by decide +kernel
theorem dL_port__53 : decode cL_port_ 53 = .ok (.iconst 3, 1) := by decide +kernel
theorem dL_port__54 : decode cL_port_ 54 = .ok (.bipush 8, 2) := by decide +kernel
theorem dL_port__56 : decode cL_port_ 56 = .ok (.invokestatic 90, 3) := by decide +kernel
theorem dL_port__59 : decode cL_port_ 59 = .ok (.iastore, 1) := by decide +kernel
theorem dL_port__60 : decode cL_port_ 60 = .ok (.iconst 0, 1) := by decide +kernel
theorem dL_port__61 : decode cL_port_ 61 = .ok (.istore 10, 2) := by decide +kernel
theorem dL_port__63 : decode cL_port_ 63 = .ok (.iload 10, 2) := by decide +kernel
theorem dL_port__65 : decode cL_port_ 65 = .ok (.aload 4, 2) := by decide +kernel
theorem dL_port__67 : decode cL_port_ 67 = .ok (.iconst 2, 1) := by decide +kernel
theorem dL_port__68 : decode cL_port_ 68 = .ok (.iaload, 1) := by decide +kernel
theorem dL_port__69 : decode cL_port_ 69 = .ok (.if_icmp .ge 34, 3) := by decide +kernel
theorem dL_port__72 : decode cL_port_ 72 = .ok (.aload 5, 2) := by decide +kernel
theorem dL_port__74 : decode cL_port_ 74 = .ok (.iload 10, 2) := by decide +kernel
theorem dL_port__76 : decode cL_port_ 76 = .ok (.aload_n 1, 1) := by decide +kernel
theorem dL_port__77 : decode cL_port_ 77 = .ok (.iconst 4, 1) := by decide +kernel
theorem dL_port__78 : decode cL_port_ 78 = .ok (.iload 10, 2) := by decide +kernel
theorem dL_port__80 : decode cL_port_ 80 = .ok (.iadd, 1) := by decide +kernel
theorem dL_port__81 : decode cL_port_ 81 = .ok (.bipush 21, 2) := by decide +kernel
theorem dL_port__83 : decode cL_port_ 83 = .ok (.invokestatic 90, 3) := by decide +kernel
theorem dL_port__86 : decode cL_port_ 86 = .ok (.iastore, 1) := by decide +kernel
theorem dL_port__87 : decode cL_port_ 87 = .ok (.aload_n 0, 1) := by decide +kernel
theorem dL_port__88 : decode cL_port_ 88 = .ok (.aload_n 2, 1) := by decide +kernel
theorem dL_port__89 : decode cL_port_ 89 = .ok (.aload 5, 2) := by decide +kernel
theorem dL_port__91 : decode cL_port_ 91 = .ok (.iload 10, 2) := by decide +kernel
theorem dL_port__93 : decode cL_port_ 93 = .ok (.iaload, 1) := by decide +kernel
theorem dL_port__94 : decode cL_port_ 94 = .ok (.invokestatic 97, 3) := by decide +kernel
theorem dL_port__97 : decode cL_port_ 97 = .ok (.iinc 10 1, 3) := by decide +kernel
theorem dL_port__100 : decode cL_port_ 100 = .ok (.goto (-37), 3) := by decide +kernel
theorem dL_port__103 : decode cL_port_ 103 = .ok (.aload 4, 2) := by decide +kernel
theorem dL_port__105 : decode cL_port_ 105 = .ok (.iconst 2, 1) := by decide +kernel
theorem dL_port__106 : decode cL_port_ 106 = .ok (.iaload, 1) := by decide +kernel
theorem dL_port__107 : decode cL_port_ 107 = .ok (.iconst 2, 1) := by decide +kernel
theorem dL_port__108 : decode cL_port_ 108 = .ok (.if_icmp .ge 7, 3) := by decide +kernel
theorem dL_port__111 : decode cL_port_ 111 = .ok (.iconst 0, 1) := by decide +kernel
theorem dL_port__112 : decode cL_port_ 112 = .ok (.goto 11, 3) := by decide +kernel
theorem dL_port__115 : decode cL_port_ 115 = .ok (.aload_n 1, 1) := by decide +kernel
theorem dL_port__116 : decode cL_port_ 116 = .ok (.bipush 11, 2) := by decide +kernel
theorem dL_port__118 : decode cL_port_ 118 = .ok (.bipush 12, 2) := by decide +kernel
theorem dL_port__120 : decode cL_port_ 120 = .ok (.invokestatic 90, 3) := by decide +kernel
theorem dL_port__123 : decode cL_port_ 123 = .ok (.istore 10, 2) := by decide +kernel
theorem dL_port__125 : decode cL_port_ 125 = .ok (.iconst 0, 1) := by decide +kernel
theorem dL_port__126 : decode cL_port_ 126 = .ok (.istore 11, 2) := by decide +kernel
theorem dL_port__128 : decode cL_port_ 128 = .ok (.iload 11, 2) := by decide +kernel
theorem dL_port__130 : decode cL_port_ 130 = .ok (.iload 10, 2) := by decide +kernel
theorem dL_port__132 : decode cL_port_ 132 = .ok (.if_icmp .ge 93, 3) := by decide +kernel
theorem dL_port__135 : decode cL_port_ 135 = .ok (.aload_n 1, 1) := by decide +kernel
theorem dL_port__136 : decode cL_port_ 136 = .ok (.bipush 12, 2) := by decide +kernel
theorem dL_port__138 : decode cL_port_ 138 = .ok (.iload 11, 2) := by decide +kernel
theorem dL_port__140 : decode cL_port_ 140 = .ok (.iadd, 1) := by decide +kernel
theorem dL_port__141 : decode cL_port_ 141 = .ok (.ldc 100, 2) := by decide +kernel
theorem dL_port__143 : decode cL_port_ 143 = .ok (.invokestatic 90, 3) := by decide +kernel
theorem dL_port__146 : decode cL_port_ 146 = .ok (.istore 12, 2) := by decide +kernel
theorem dL_port__148 : decode cL_port_ 148 = .ok (.iload 12, 2) := by decide +kernel
theorem dL_port__150 : decode cL_port_ 150 = .ok (.aload 4, 2) := by decide +kernel
theorem dL_port__152 : decode cL_port_ 152 = .ok (.iconst 2, 1) := by decide +kernel
theorem dL_port__153 : decode cL_port_ 153 = .ok (.iaload, 1) := by decide +kernel
theorem dL_port__154 : decode cL_port_ 154 = .ok (.irem, 1) := by decide +kernel
theorem dL_port__155 : decode cL_port_ 155 = .ok (.istore 13, 2) := by decide +kernel
theorem dL_port__157 : decode cL_port_ 157 = .ok (.iload 13, 2) := by decide +kernel
theorem dL_port__159 : decode cL_port_ 159 = .ok (.iconst 1, 1) := by decide +kernel
theorem dL_port__160 : decode cL_port_ 160 = .ok (.iadd, 1) := by decide +kernel
theorem dL_port__161 : decode cL_port_ 161 = .ok (.iload 12, 2) := by decide +kernel
theorem dL_port__163 : decode cL_port_ 163 = .ok (.iconst 5, 1) := by decide +kernel
theorem dL_port__164 : decode cL_port_ 164 = .ok (.ishr, 1) := by decide +kernel
theorem dL_port__165 : decode cL_port_ 165 = .ok (.aload 4, 2) := by decide +kernel
theorem dL_port__167 : decode cL_port_ 167 = .ok (.iconst 2, 1) := by decide +kernel
theorem dL_port__168 : decode cL_port_ 168 = .ok (.iaload, 1) := by decide +kernel
theorem dL_port__169 : decode cL_port_ 169 = .ok (.iconst 1, 1) := by decide +kernel
theorem dL_port__170 : decode cL_port_ 170 = .ok (.isub, 1) := by decide +kernel
theorem dL_port__171 : decode cL_port_ 171 = .ok (.irem, 1) := by decide +kernel
theorem dL_port__172 : decode cL_port_ 172 = .ok (.iadd, 1) := by decide +kernel
theorem dL_port__173 : decode cL_port_ 173 = .ok (.aload 4, 2) := by decide +kernel
theorem dL_port__175 : decode cL_port_ 175 = .ok (.iconst 2, 1) := by decide +kernel
theorem dL_port__176 : decode cL_port_ 176 = .ok (.iaload, 1) := by decide +kernel
theorem dL_port__177 : decode cL_port_ 177 = .ok (.irem, 1) := by decide +kernel
theorem dL_port__178 : decode cL_port_ 178 = .ok (.istore 14, 2) := by decide +kernel
theorem dL_port__180 : decode cL_port_ 180 = .ok (.aload 5, 2) := by decide +kernel
theorem dL_port__182 : decode cL_port_ 182 = .ok (.bipush 8, 2) := by decide +kernel
theorem dL_port__184 : decode cL_port_ 184 = .ok (.iload 13, 2) := by decide +kernel
theorem dL_port__186 : decode cL_port_ 186 = .ok (.iadd, 1) := by decide +kernel
theorem dL_port__187 : decode cL_port_ 187 = .ok (.dup2, 1) := by decide +kernel
theorem dL_port__188 : decode cL_port_ 188 = .ok (.iaload, 1) := by decide +kernel
theorem dL_port__189 : decode cL_port_ 189 = .ok (.iconst 1, 1) := by decide +kernel
theorem dL_port__190 : decode cL_port_ 190 = .ok (.iload 14, 2) := by decide +kernel
theorem dL_port__192 : decode cL_port_ 192 = .ok (.ishl, 1) := by decide +kernel
theorem dL_port__193 : decode cL_port_ 193 = .ok (.ior, 1) := by decide +kernel
theorem dL_port__194 : decode cL_port_ 194 = .ok (.iastore, 1) := by decide +kernel
theorem dL_port__195 : decode cL_port_ 195 = .ok (.aload 5, 2) := by decide +kernel
theorem dL_port__197 : decode cL_port_ 197 = .ok (.bipush 8, 2) := by decide +kernel
theorem dL_port__199 : decode cL_port_ 199 = .ok (.iload 14, 2) := by decide +kernel
theorem dL_port__201 : decode cL_port_ 201 = .ok (.iadd, 1) := by decide +kernel
theorem dL_port__202 : decode cL_port_ 202 = .ok (.dup2, 1) := by decide +kernel
theorem dL_port__203 : decode cL_port_ 203 = .ok (.iaload, 1) := by decide +kernel
theorem dL_port__204 : decode cL_port_ 204 = .ok (.iconst 1, 1) := by decide +kernel
theorem dL_port__205 : decode cL_port_ 205 = .ok (.iload 13, 2) := by decide +kernel
theorem dL_port__207 : decode cL_port_ 207 = .ok (.ishl, 1) := by decide +kernel
theorem dL_port__208 : decode cL_port_ 208 = .ok (.ior, 1) := by decide +kernel
theorem dL_port__209 : decode cL_port_ 209 = .ok (.iastore, 1) := by decide +kernel
theorem dL_port__210 : decode cL_port_ 210 = .ok (.aload_n 0, 1) := by decide +kernel
theorem dL_port__211 : decode cL_port_ 211 = .ok (.aload_n 2, 1) := by decide +kernel
theorem dL_port__212 : decode cL_port_ 212 = .ok (.iload 13, 2) := by decide +kernel
theorem dL_port__214 : decode cL_port_ 214 = .ok (.iload 14, 2) := by decide +kernel
theorem dL_port__216 : decode cL_port_ 216 = .ok (.invokestatic 101, 3) := by decide +kernel
theorem dL_port__219 : decode cL_port_ 219 = .ok (.iinc 11 1, 3) := by decide +kernel
theorem dL_port__222 : decode cL_port_ 222 = .ok (.goto (-94), 3) := by decide +kernel
theorem dL_port__225 : decode cL_port_ 225 = .ok (.aload 4, 2) := by decide +kernel
theorem dL_port__227 : decode cL_port_ 227 = .ok (.iconst 3, 1) := by decide +kernel
theorem dL_port__228 : decode cL_port_ 228 = .ok (.aload 4, 2) := by decide +kernel
theorem dL_port__230 : decode cL_port_ 230 = .ok (.iconst 2, 1) := by decide +kernel
theorem dL_port__231 : decode cL_port_ 231 = .ok (.iaload, 1) := by decide +kernel
theorem dL_port__232 : decode cL_port_ 232 = .ok (.ifCond .ne 7, 3) := by decide +kernel
theorem dL_port__235 : decode cL_port_ 235 = .ok (.iconst 0, 1) := by decide +kernel
theorem dL_port__236 : decode cL_port_ 236 = .ok (.goto 11, 3) := by decide +kernel
theorem dL_port__239 : decode cL_port_ 239 = .ok (.aload_n 1, 1) := by decide +kernel
theorem dL_port__240 : decode cL_port_ 240 = .ok (.bipush 24, 2) := by decide +kernel
theorem dL_port__242 : decode cL_port_ 242 = .ok (.bipush 6, 2) := by decide +kernel
theorem dL_port__244 : decode cL_port_ 244 = .ok (.invokestatic 90, 3) := by decide +kernel
theorem dL_port__247 : decode cL_port_ 247 = .ok (.iastore, 1) := by decide +kernel
theorem dL_port__248 : decode cL_port_ 248 = .ok (.iconst 0, 1) := by decide +kernel
theorem dL_port__249 : decode cL_port_ 249 = .ok (.istore 11, 2) := by decide +kernel
theorem dL_port__251 : decode cL_port_ 251 = .ok (.iload 11, 2) := by decide +kernel
theorem dL_port__253 : decode cL_port_ 253 = .ok (.aload 4, 2) := by decide +kernel
theorem dL_port__255 : decode cL_port_ 255 = .ok (.iconst 3, 1) := by decide +kernel
theorem dL_port__256 : decode cL_port_ 256 = .ok (.iaload, 1) := by decide +kernel
theorem dL_port__257 : decode cL_port_ 257 = .ok (.if_icmp .ge 73, 3) := by decide +kernel
theorem dL_port__260 : decode cL_port_ 260 = .ok (.aload_n 1, 1) := by decide +kernel
theorem dL_port__261 : decode cL_port_ 261 = .ok (.bipush 25, 2) := by decide +kernel
theorem dL_port__263 : decode cL_port_ 263 = .ok (.iload 11, 2) := by decide +kernel
theorem dL_port__265 : decode cL_port_ 265 = .ok (.iadd, 1) := by decide +kernel
theorem dL_port__266 : decode cL_port_ 266 = .ok (.ldc 100, 2) := by decide +kernel
theorem dL_port__268 : decode cL_port_ 268 = .ok (.invokestatic 90, 3) := by decide +kernel
theorem dL_port__271 : decode cL_port_ 271 = .ok (.istore 12, 2) := by decide +kernel
theorem dL_port__273 : decode cL_port_ 273 = .ok (.aload 6, 2) := by decide +kernel
theorem dL_port__275 : decode cL_port_ 275 = .ok (.iconst 2, 1) := by decide +kernel
theorem dL_port__276 : decode cL_port_ 276 = .ok (.iload 11, 2) := by decide +kernel
theorem dL_port__278 : decode cL_port_ 278 = .ok (.imul, 1) := by decide +kernel
theorem dL_port__279 : decode cL_port_ 279 = .ok (.iload 12, 2) := by decide +kernel
theorem dL_port__281 : decode cL_port_ 281 = .ok (.aload 4, 2) := by decide +kernel
theorem dL_port__283 : decode cL_port_ 283 = .ok (.iconst 2, 1) := by decide +kernel
theorem dL_port__284 : decode cL_port_ 284 = .ok (.iaload, 1) := by decide +kernel
theorem dL_port__285 : decode cL_port_ 285 = .ok (.irem, 1) := by decide +kernel
theorem dL_port__286 : decode cL_port_ 286 = .ok (.iastore, 1) := by decide +kernel
theorem dL_port__287 : decode cL_port_ 287 = .ok (.aload 6, 2) := by decide +kernel
theorem dL_port__289 : decode cL_port_ 289 = .ok (.iconst 2, 1) := by decide +kernel
theorem dL_port__290 : decode cL_port_ 290 = .ok (.iload 11, 2) := by decide +kernel
theorem dL_port__292 : decode cL_port_ 292 = .ok (.imul, 1) := by decide +kernel
theorem dL_port__293 : decode cL_port_ 293 = .ok (.iconst 1, 1) := by decide +kernel
theorem dL_port__294 : decode cL_port_ 294 = .ok (.iadd, 1) := by decide +kernel
theorem dL_port__295 : decode cL_port_ 295 = .ok (.iload 12, 2) := by decide +kernel
theorem dL_port__297 : decode cL_port_ 297 = .ok (.iconst 5, 1) := by decide +kernel
theorem dL_port__298 : decode cL_port_ 298 = .ok (.ishr, 1) := by decide +kernel
theorem dL_port__299 : decode cL_port_ 299 = .ok (.bipush 100, 2) := by decide +kernel
theorem dL_port__301 : decode cL_port_ 301 = .ok (.irem, 1) := by decide +kernel
theorem dL_port__302 : decode cL_port_ 302 = .ok (.iastore, 1) := by decide +kernel
theorem dL_port__303 : decode cL_port_ 303 = .ok (.aload_n 0, 1) := by decide +kernel
theorem dL_port__304 : decode cL_port_ 304 = .ok (.aload_n 2, 1) := by decide +kernel
theorem dL_port__305 : decode cL_port_ 305 = .ok (.aload 6, 2) := by decide +kernel
theorem dL_port__307 : decode cL_port_ 307 = .ok (.iconst 2, 1) := by decide +kernel
theorem dL_port__308 : decode cL_port_ 308 = .ok (.iload 11, 2) := by decide +kernel
theorem dL_port__310 : decode cL_port_ 310 = .ok (.imul, 1) := by decide +kernel
theorem dL_port__311 : decode cL_port_ 311 = .ok (.iaload, 1) := by decide +kernel
theorem dL_port__312 : decode cL_port_ 312 = .ok (.aload 6, 2) := by decide +kernel
theorem dL_port__314 : decode cL_port_ 314 = .ok (.iconst 2, 1) := by decide +kernel
theorem dL_port__315 : decode cL_port_ 315 = .ok (.iload 11, 2) := by decide +kernel
theorem dL_port__317 : decode cL_port_ 317 = .ok (.imul, 1) := by decide +kernel
theorem dL_port__318 : decode cL_port_ 318 = .ok (.iconst 1, 1) := by decide +kernel
theorem dL_port__319 : decode cL_port_ 319 = .ok (.iadd, 1) := by decide +kernel
theorem dL_port__320 : decode cL_port_ 320 = .ok (.iaload, 1) := by decide +kernel
theorem dL_port__321 : decode cL_port_ 321 = .ok (.invokestatic 105, 3) := by decide +kernel
theorem dL_port__324 : decode cL_port_ 324 = .ok (.iinc 11 1, 3) := by decide +kernel
theorem dL_port__327 : decode cL_port_ 327 = .ok (.goto (-76), 3) := by decide +kernel
theorem dL_port__330 : decode cL_port_ 330 = .ok (.aload 4, 2) := by decide +kernel
theorem dL_port__332 : decode cL_port_ 332 = .ok (.iconst 4, 1) := by decide +kernel
theorem dL_port__333 : decode cL_port_ 333 = .ok (.aload 4, 2) := by decide +kernel
theorem dL_port__335 : decode cL_port_ 335 = .ok (.iconst 2, 1) := by decide +kernel
theorem dL_port__336 : decode cL_port_ 336 = .ok (.iaload, 1) := by decide +kernel
theorem dL_port__337 : decode cL_port_ 337 = .ok (.ifCond .ne 7, 3) := by decide +kernel
theorem dL_port__340 : decode cL_port_ 340 = .ok (.iconst 0, 1) := by decide +kernel
theorem dL_port__341 : decode cL_port_ 341 = .ok (.goto 10, 3) := by decide +kernel
theorem dL_port__344 : decode cL_port_ 344 = .ok (.aload_n 1, 1) := by decide +kernel
theorem dL_port__345 : decode cL_port_ 345 = .ok (.bipush 30, 2) := by decide +kernel
theorem dL_port__347 : decode cL_port_ 347 = .ok (.iconst 4, 1) := by decide +kernel
theorem dL_port__348 : decode cL_port_ 348 = .ok (.invokestatic 90, 3) := by decide +kernel
theorem dL_port__351 : decode cL_port_ 351 = .ok (.iastore, 1) := by decide +kernel
theorem dL_port__352 : decode cL_port_ 352 = .ok (.iconst 0, 1) := by decide +kernel
theorem dL_port__353 : decode cL_port_ 353 = .ok (.istore 11, 2) := by decide +kernel
theorem dL_port__355 : decode cL_port_ 355 = .ok (.iload 11, 2) := by decide +kernel
theorem dL_port__357 : decode cL_port_ 357 = .ok (.aload 4, 2) := by decide +kernel
theorem dL_port__359 : decode cL_port_ 359 = .ok (.iconst 4, 1) := by decide +kernel
theorem dL_port__360 : decode cL_port_ 360 = .ok (.iaload, 1) := by decide +kernel
theorem dL_port__361 : decode cL_port_ 361 = .ok (.if_icmp .ge 167, 3) := by decide +kernel
theorem dL_port__364 : decode cL_port_ 364 = .ok (.aload_n 1, 1) := by decide +kernel
theorem dL_port__365 : decode cL_port_ 365 = .ok (.bipush 31, 2) := by decide +kernel
theorem dL_port__367 : decode cL_port_ 367 = .ok (.iload 11, 2) := by decide +kernel
theorem dL_port__369 : decode cL_port_ 369 = .ok (.iadd, 1) := by decide +kernel
theorem dL_port__370 : decode cL_port_ 370 = .ok (.ldc 108, 2) := by decide +kernel
theorem dL_port__372 : decode cL_port_ 372 = .ok (.invokestatic 90, 3) := by decide +kernel
theorem dL_port__375 : decode cL_port_ 375 = .ok (.istore 12, 2) := by decide +kernel
theorem dL_port__377 : decode cL_port_ 377 = .ok (.aload 9, 2) := by decide +kernel
theorem dL_port__379 : decode cL_port_ 379 = .ok (.iload 11, 2) := by decide +kernel
theorem dL_port__381 : decode cL_port_ 381 = .ok (.iload 12, 2) := by decide +kernel
theorem dL_port__383 : decode cL_port_ 383 = .ok (.aload 4, 2) := by decide +kernel
theorem dL_port__385 : decode cL_port_ 385 = .ok (.iconst 2, 1) := by decide +kernel
theorem dL_port__386 : decode cL_port_ 386 = .ok (.iaload, 1) := by decide +kernel
theorem dL_port__387 : decode cL_port_ 387 = .ok (.irem, 1) := by decide +kernel
theorem dL_port__388 : decode cL_port_ 388 = .ok (.iastore, 1) := by decide +kernel
theorem dL_port__389 : decode cL_port_ 389 = .ok (.aload 7, 2) := by decide +kernel
theorem dL_port__391 : decode cL_port_ 391 = .ok (.bipush 7, 2) := by decide +kernel
theorem dL_port__393 : decode cL_port_ 393 = .ok (.iload 11, 2) := by decide +kernel
theorem dL_port__395 : decode cL_port_ 395 = .ok (.imul, 1) := by decide +kernel
theorem dL_port__396 : decode cL_port_ 396 = .ok (.iconst 1, 1) := by decide +kernel
theorem dL_port__397 : decode cL_port_ 397 = .ok (.iload 12, 2) := by decide +kernel
theorem dL_port__399 : decode cL_port_ 399 = .ok (.iconst 4, 1) := by decide +kernel
theorem dL_port__400 : decode cL_port_ 400 = .ok (.ishr, 1) := by decide +kernel
theorem dL_port__401 : decode cL_port_ 401 = .ok (.bipush 6, 2) := by decide +kernel
theorem dL_port__403 : decode cL_port_ 403 = .ok (.irem, 1) := by decide +kernel
theorem dL_port__404 : decode cL_port_ 404 = .ok (.iadd, 1) := by decide +kernel
theorem dL_port__405 : decode cL_port_ 405 = .ok (.iastore, 1) := by decide +kernel
theorem dL_port__406 : decode cL_port_ 406 = .ok (.aload_n 0, 1) := by decide +kernel
theorem dL_port__407 : decode cL_port_ 407 = .ok (.aload_n 2, 1) := by decide +kernel
theorem dL_port__408 : decode cL_port_ 408 = .ok (.ldc2_w 109, 3) := by decide +kernel
theorem dL_port__411 : decode cL_port_ 411 = .ok (.invokestatic 21, 3) := by decide +kernel
theorem dL_port__414 : decode cL_port_ 414 = .ok (.aload_n 0, 1) := by decide +kernel
theorem dL_port__415 : decode cL_port_ 415 = .ok (.aload_n 2, 1) := by decide +kernel
theorem dL_port__416 : decode cL_port_ 416 = .ok (.ldc2_w 51, 3) := by decide +kernel
theorem dL_port__419 : decode cL_port_ 419 = .ok (.aload 9, 2) := by decide +kernel
theorem dL_port__421 : decode cL_port_ 421 = .ok (.iload 11, 2) := by decide +kernel
theorem dL_port__423 : decode cL_port_ 423 = .ok (.iaload, 1) := by decide +kernel
theorem dL_port__424 : decode cL_port_ 424 = .ok (.invokestatic 32, 3) := by decide +kernel
theorem dL_port__427 : decode cL_port_ 427 = .ok (.iconst 0, 1) := by decide +kernel
theorem dL_port__428 : decode cL_port_ 428 = .ok (.istore 13, 2) := by decide +kernel
theorem dL_port__430 : decode cL_port_ 430 = .ok (.iload 13, 2) := by decide +kernel
theorem dL_port__432 : decode cL_port_ 432 = .ok (.aload 7, 2) := by decide +kernel
theorem dL_port__434 : decode cL_port_ 434 = .ok (.bipush 7, 2) := by decide +kernel
theorem dL_port__436 : decode cL_port_ 436 = .ok (.iload 11, 2) := by decide +kernel
theorem dL_port__438 : decode cL_port_ 438 = .ok (.imul, 1) := by decide +kernel
theorem dL_port__439 : decode cL_port_ 439 = .ok (.iaload, 1) := by decide +kernel
theorem dL_port__440 : decode cL_port_ 440 = .ok (.if_icmp .ge 58, 3) := by decide +kernel
theorem dL_port__443 : decode cL_port_ 443 = .ok (.aload 7, 2) := by decide +kernel
theorem dL_port__445 : decode cL_port_ 445 = .ok (.bipush 7, 2) := by decide +kernel
theorem dL_port__447 : decode cL_port_ 447 = .ok (.iload 11, 2) := by decide +kernel
theorem dL_port__449 : decode cL_port_ 449 = .ok (.imul, 1) := by decide +kernel
theorem dL_port__450 : decode cL_port_ 450 = .ok (.iconst 1, 1) := by decide +kernel
theorem dL_port__451 : decode cL_port_ 451 = .ok (.iadd, 1) := by decide +kernel
theorem dL_port__452 : decode cL_port_ 452 = .ok (.iload 13, 2) := by decide +kernel
theorem dL_port__454 : decode cL_port_ 454 = .ok (.iadd, 1) := by decide +kernel
theorem dL_port__455 : decode cL_port_ 455 = .ok (.iconst 1, 1) := by decide +kernel
theorem dL_port__456 : decode cL_port_ 456 = .ok (.iload 12, 2) := by decide +kernel
theorem dL_port__458 : decode cL_port_ 458 = .ok (.iconst 3, 1) := by decide +kernel
theorem dL_port__459 : decode cL_port_ 459 = .ok (.iload 13, 2) := by decide +kernel
theorem dL_port__461 : decode cL_port_ 461 = .ok (.imul, 1) := by decide +kernel
theorem dL_port__462 : decode cL_port_ 462 = .ok (.bipush 7, 2) := by decide +kernel
theorem dL_port__464 : decode cL_port_ 464 = .ok (.iadd, 1) := by decide +kernel
theorem dL_port__465 : decode cL_port_ 465 = .ok (.ishr, 1) := by decide +kernel
theorem dL_port__466 : decode cL_port_ 466 = .ok (.bipush 30, 2) := by decide +kernel
theorem dL_port__468 : decode cL_port_ 468 = .ok (.irem, 1) := by decide +kernel
theorem dL_port__469 : decode cL_port_ 469 = .ok (.iadd, 1) := by decide +kernel
theorem dL_port__470 : decode cL_port_ 470 = .ok (.iastore, 1) := by decide +kernel
theorem dL_port__471 : decode cL_port_ 471 = .ok (.aload_n 0, 1) := by decide +kernel
theorem dL_port__472 : decode cL_port_ 472 = .ok (.aload_n 2, 1) := by decide +kernel
theorem dL_port__473 : decode cL_port_ 473 = .ok (.ldc2_w 111, 3) := by decide +kernel
theorem dL_port__476 : decode cL_port_ 476 = .ok (.aload 7, 2) := by decide +kernel
theorem dL_port__478 : decode cL_port_ 478 = .ok (.bipush 7, 2) := by decide +kernel
theorem dL_port__480 : decode cL_port_ 480 = .ok (.iload 11, 2) := by decide +kernel
theorem dL_port__482 : decode cL_port_ 482 = .ok (.imul, 1) := by decide +kernel
theorem dL_port__483 : decode cL_port_ 483 = .ok (.iconst 1, 1) := by decide +kernel
theorem dL_port__484 : decode cL_port_ 484 = .ok (.iadd, 1) := by decide +kernel
theorem dL_port__485 : decode cL_port_ 485 = .ok (.iload 13, 2) := by decide +kernel
theorem dL_port__487 : decode cL_port_ 487 = .ok (.iadd, 1) := by decide +kernel
theorem dL_port__488 : decode cL_port_ 488 = .ok (.iaload, 1) := by decide +kernel
theorem dL_port__489 : decode cL_port_ 489 = .ok (.invokestatic 32, 3) := by decide +kernel
theorem dL_port__492 : decode cL_port_ 492 = .ok (.iinc 13 1, 3) := by decide +kernel
theorem dL_port__495 : decode cL_port_ 495 = .ok (.goto (-65), 3) := by decide +kernel
theorem dL_port__498 : decode cL_port_ 498 = .ok (.aload_n 0, 1) := by decide +kernel
theorem dL_port__499 : decode cL_port_ 499 = .ok (.aload_n 2, 1) := by decide +kernel
theorem dL_port__500 : decode cL_port_ 500 = .ok (.invokestatic 39, 3) := by decide +kernel
theorem dL_port__503 : decode cL_port_ 503 = .ok (.aload 9, 2) := by decide +kernel
theorem dL_port__505 : decode cL_port_ 505 = .ok (.iconst 3, 1) := by decide +kernel
theorem dL_port__506 : decode cL_port_ 506 = .ok (.iload 11, 2) := by decide +kernel
theorem dL_port__508 : decode cL_port_ 508 = .ok (.iadd, 1) := by decide +kernel
theorem dL_port__509 : decode cL_port_ 509 = .ok (.iconst 1, 1) := by decide +kernel
theorem dL_port__510 : decode cL_port_ 510 = .ok (.aload 7, 2) := by decide +kernel
theorem dL_port__512 : decode cL_port_ 512 = .ok (.bipush 7, 2) := by decide +kernel
theorem dL_port__514 : decode cL_port_ 514 = .ok (.iload 11, 2) := by decide +kernel
theorem dL_port__516 : decode cL_port_ 516 = .ok (.imul, 1) := by decide +kernel
theorem dL_port__517 : decode cL_port_ 517 = .ok (.iaload, 1) := by decide +kernel
theorem dL_port__518 : decode cL_port_ 518 = .ok (.ishl, 1) := by decide +kernel
theorem dL_port__519 : decode cL_port_ 519 = .ok (.iconst 1, 1) := by decide +kernel
theorem dL_port__520 : decode cL_port_ 520 = .ok (.isub, 1) := by decide +kernel
theorem dL_port__521 : decode cL_port_ 521 = .ok (.iastore, 1) := by decide +kernel
theorem dL_port__522 : decode cL_port_ 522 = .ok (.iinc 11 1, 3) := by decide +kernel
theorem dL_port__525 : decode cL_port_ 525 = .ok (.goto (-170), 3) := by decide +kernel
theorem dL_port__528 : decode cL_port_ 528 = .ok (.aload 4, 2) := by decide +kernel
theorem dL_port__530 : decode cL_port_ 530 = .ok (.iconst 5, 1) := by decide +kernel
theorem dL_port__531 : decode cL_port_ 531 = .ok (.aload 4, 2) := by decide +kernel
theorem dL_port__533 : decode cL_port_ 533 = .ok (.iconst 3, 1) := by decide +kernel
theorem dL_port__534 : decode cL_port_ 534 = .ok (.iaload, 1) := by decide +kernel
theorem dL_port__535 : decode cL_port_ 535 = .ok (.ifCond .eq 10, 3) := by decide +kernel
theorem dL_port__538 : decode cL_port_ 538 = .ok (.aload 4, 2) := by decide +kernel
theorem dL_port__540 : decode cL_port_ 540 = .ok (.iconst 4, 1) := by decide +kernel
theorem dL_port__541 : decode cL_port_ 541 = .ok (.iaload, 1) := by decide +kernel
theorem dL_port__542 : decode cL_port_ 542 = .ok (.ifCond .ne 7, 3) := by decide +kernel
theorem dL_port__545 : decode cL_port_ 545 = .ok (.iconst 0, 1) := by decide +kernel
theorem dL_port__546 : decode cL_port_ 546 = .ok (.goto 11, 3) := by decide +kernel
theorem dL_port__549 : decode cL_port_ 549 = .ok (.aload_n 1, 1) := by decide +kernel
theorem dL_port__550 : decode cL_port_ 550 = .ok (.bipush 34, 2) := by decide +kernel
theorem dL_port__552 : decode cL_port_ 552 = .ok (.bipush 13, 2) := by decide +kernel
theorem dL_port__554 : decode cL_port_ 554 = .ok (.invokestatic 90, 3) := by decide +kernel
theorem dL_port__557 : decode cL_port_ 557 = .ok (.iastore, 1) := by decide +kernel
theorem dL_port__558 : decode cL_port_ 558 = .ok (.iconst 0, 1) := by decide +kernel
theorem dL_port__559 : decode cL_port_ 559 = .ok (.istore 11, 2) := by decide +kernel
theorem dL_port__561 : decode cL_port_ 561 = .ok (.iload 11, 2) := by decide +kernel
theorem dL_port__563 : decode cL_port_ 563 = .ok (.aload 4, 2) := by decide +kernel
theorem dL_port__565 : decode cL_port_ 565 = .ok (.iconst 5, 1) := by decide +kernel
theorem dL_port__566 : decode cL_port_ 566 = .ok (.iaload, 1) := by decide +kernel
theorem dL_port__567 : decode cL_port_ 567 = .ok (.if_icmp .ge 129, 3) := by decide +kernel
theorem dL_port__570 : decode cL_port_ 570 = .ok (.aload_n 1, 1) := by decide +kernel
theorem dL_port__571 : decode cL_port_ 571 = .ok (.bipush 35, 2) := by decide +kernel
theorem dL_port__573 : decode cL_port_ 573 = .ok (.iload 11, 2) := by decide +kernel
theorem dL_port__575 : decode cL_port_ 575 = .ok (.iadd, 1) := by decide +kernel
theorem dL_port__576 : decode cL_port_ 576 = .ok (.ldc 108, 2) := by decide +kernel
theorem dL_port__578 : decode cL_port_ 578 = .ok (.invokestatic 90, 3) := by decide +kernel
theorem dL_port__581 : decode cL_port_ 581 = .ok (.istore 12, 2) := by decide +kernel
theorem dL_port__583 : decode cL_port_ 583 = .ok (.aload 8, 2) := by decide +kernel
theorem dL_port__585 : decode cL_port_ 585 = .ok (.iconst 4, 1) := by decide +kernel
theorem dL_port__586 : decode cL_port_ 586 = .ok (.iload 11, 2) := by decide +kernel
theorem dL_port__588 : decode cL_port_ 588 = .ok (.imul, 1) := by decide +kernel
theorem dL_port__589 : decode cL_port_ 589 = .ok (.iload 12, 2) := by decide +kernel
theorem dL_port__591 : decode cL_port_ 591 = .ok (.aload 4, 2) := by decide +kernel
theorem dL_port__593 : decode cL_port_ 593 = .ok (.iconst 3, 1) := by decide +kernel
theorem dL_port__594 : decode cL_port_ 594 = .ok (.iaload, 1) := by decide +kernel
theorem dL_port__595 : decode cL_port_ 595 = .ok (.irem, 1) := by decide +kernel
theorem dL_port__596 : decode cL_port_ 596 = .ok (.iastore, 1) := by decide +kernel
theorem dL_port__597 : decode cL_port_ 597 = .ok (.aload 8, 2) := by decide +kernel
theorem dL_port__599 : decode cL_port_ 599 = .ok (.iconst 4, 1) := by decide +kernel
theorem dL_port__600 : decode cL_port_ 600 = .ok (.iload 11, 2) := by decide +kernel
theorem dL_port__602 : decode cL_port_ 602 = .ok (.imul, 1) := by decide +kernel
theorem dL_port__603 : decode cL_port_ 603 = .ok (.iconst 1, 1) := by decide +kernel
theorem dL_port__604 : decode cL_port_ 604 = .ok (.iadd, 1) := by decide +kernel
theorem dL_port__605 : decode cL_port_ 605 = .ok (.iload 12, 2) := by decide +kernel
theorem dL_port__607 : decode cL_port_ 607 = .ok (.iconst 4, 1) := by decide +kernel
theorem dL_port__608 : decode cL_port_ 608 = .ok (.ishr, 1) := by decide +kernel
theorem dL_port__609 : decode cL_port_ 609 = .ok (.aload 4, 2) := by decide +kernel
theorem dL_port__611 : decode cL_port_ 611 = .ok (.iconst 4, 1) := by decide +kernel
theorem dL_port__612 : decode cL_port_ 612 = .ok (.iaload, 1) := by decide +kernel
theorem dL_port__613 : decode cL_port_ 613 = .ok (.irem, 1) := by decide +kernel
theorem dL_port__614 : decode cL_port_ 614 = .ok (.iastore, 1) := by decide +kernel
theorem dL_port__615 : decode cL_port_ 615 = .ok (.aload 8, 2) := by decide +kernel
theorem dL_port__617 : decode cL_port_ 617 = .ok (.iconst 4, 1) := by decide +kernel
theorem dL_port__618 : decode cL_port_ 618 = .ok (.iload 11, 2) := by decide +kernel
theorem dL_port__620 : decode cL_port_ 620 = .ok (.imul, 1) := by decide +kernel
theorem dL_port__621 : decode cL_port_ 621 = .ok (.iconst 2, 1) := by decide +kernel
theorem dL_port__622 : decode cL_port_ 622 = .ok (.iadd, 1) := by decide +kernel
theorem dL_port__623 : decode cL_port_ 623 = .ok (.iload 12, 2) := by decide +kernel
theorem dL_port__625 : decode cL_port_ 625 = .ok (.bipush 8, 2) := by decide +kernel
theorem dL_port__627 : decode cL_port_ 627 = .ok (.ishr, 1) := by decide +kernel
theorem dL_port__628 : decode cL_port_ 628 = .ok (.aload 4, 2) := by decide +kernel
theorem dL_port__630 : decode cL_port_ 630 = .ok (.iconst 2, 1) := by decide +kernel
theorem dL_port__631 : decode cL_port_ 631 = .ok (.iaload, 1) := by decide +kernel
theorem dL_port__632 : decode cL_port_ 632 = .ok (.irem, 1) := by decide +kernel
theorem dL_port__633 : decode cL_port_ 633 = .ok (.iastore, 1) := by decide +kernel
theorem dL_port__634 : decode cL_port_ 634 = .ok (.aload 8, 2) := by decide +kernel
theorem dL_port__636 : decode cL_port_ 636 = .ok (.iconst 4, 1) := by decide +kernel
theorem dL_port__637 : decode cL_port_ 637 = .ok (.iload 11, 2) := by decide +kernel
theorem dL_port__639 : decode cL_port_ 639 = .ok (.imul, 1) := by decide +kernel
theorem dL_port__640 : decode cL_port_ 640 = .ok (.iconst 3, 1) := by decide +kernel
theorem dL_port__641 : decode cL_port_ 641 = .ok (.iadd, 1) := by decide +kernel
theorem dL_port__642 : decode cL_port_ 642 = .ok (.iload 12, 2) := by decide +kernel
theorem dL_port__644 : decode cL_port_ 644 = .ok (.bipush 12, 2) := by decide +kernel
theorem dL_port__646 : decode cL_port_ 646 = .ok (.ishr, 1) := by decide +kernel
theorem dL_port__647 : decode cL_port_ 647 = .ok (.bipush 12, 2) := by decide +kernel
theorem dL_port__649 : decode cL_port_ 649 = .ok (.irem, 1) := by decide +kernel
theorem dL_port__650 : decode cL_port_ 650 = .ok (.iastore, 1) := by decide +kernel
theorem dL_port__651 : decode cL_port_ 651 = .ok (.aload_n 0, 1) := by decide +kernel
theorem dL_port__652 : decode cL_port_ 652 = .ok (.aload_n 2, 1) := by decide +kernel
theorem dL_port__653 : decode cL_port_ 653 = .ok (.aload 8, 2) := by decide +kernel
theorem dL_port__655 : decode cL_port_ 655 = .ok (.iconst 4, 1) := by decide +kernel
theorem dL_port__656 : decode cL_port_ 656 = .ok (.iload 11, 2) := by decide +kernel
theorem dL_port__658 : decode cL_port_ 658 = .ok (.imul, 1) := by decide +kernel
theorem dL_port__659 : decode cL_port_ 659 = .ok (.iaload, 1) := by decide +kernel
theorem dL_port__660 : decode cL_port_ 660 = .ok (.aload 8, 2) := by decide +kernel
theorem dL_port__662 : decode cL_port_ 662 = .ok (.iconst 4, 1) := by decide +kernel
theorem dL_port__663 : decode cL_port_ 663 = .ok (.iload 11, 2) := by decide +kernel
theorem dL_port__665 : decode cL_port_ 665 = .ok (.imul, 1) := by decide +kernel
theorem dL_port__666 : decode cL_port_ 666 = .ok (.iconst 1, 1) := by decide +kernel
theorem dL_port__667 : decode cL_port_ 667 = .ok (.iadd, 1) := by decide +kernel
theorem dL_port__668 : decode cL_port_ 668 = .ok (.iaload, 1) := by decide +kernel
theorem dL_port__669 : decode cL_port_ 669 = .ok (.aload 8, 2) := by decide +kernel
theorem dL_port__671 : decode cL_port_ 671 = .ok (.iconst 4, 1) := by decide +kernel
theorem dL_port__672 : decode cL_port_ 672 = .ok (.iload 11, 2) := by decide +kernel
theorem dL_port__674 : decode cL_port_ 674 = .ok (.imul, 1) := by decide +kernel
theorem dL_port__675 : decode cL_port_ 675 = .ok (.iconst 2, 1) := by decide +kernel
theorem dL_port__676 : decode cL_port_ 676 = .ok (.iadd, 1) := by decide +kernel
theorem dL_port__677 : decode cL_port_ 677 = .ok (.iaload, 1) := by decide +kernel
theorem dL_port__678 : decode cL_port_ 678 = .ok (.aload 8, 2) := by decide +kernel
theorem dL_port__680 : decode cL_port_ 680 = .ok (.iconst 4, 1) := by decide +kernel
theorem dL_port__681 : decode cL_port_ 681 = .ok (.iload 11, 2) := by decide +kernel
theorem dL_port__683 : decode cL_port_ 683 = .ok (.imul, 1) := by decide +kernel
theorem dL_port__684 : decode cL_port_ 684 = .ok (.iconst 3, 1) := by decide +kernel
theorem dL_port__685 : decode cL_port_ 685 = .ok (.iadd, 1) := by decide +kernel
theorem dL_port__686 : decode cL_port_ 686 = .ok (.iaload, 1) := by decide +kernel
theorem dL_port__687 : decode cL_port_ 687 = .ok (.invokestatic 113, 3) := by decide +kernel
theorem dL_port__690 : decode cL_port_ 690 = .ok (.iinc 11 1, 3) := by decide +kernel
theorem dL_port__693 : decode cL_port_ 693 = .ok (.goto (-132), 3) := by decide +kernel
theorem dL_port__696 : decode cL_port_ 696 = .ok (.aload_n 0, 1) := by decide +kernel
theorem dL_port__697 : decode cL_port_ 697 = .ok (.aload_n 2, 1) := by decide +kernel
theorem dL_port__698 : decode cL_port_ 698 = .ok (.invokestatic 117, 3) := by decide +kernel
theorem dL_port__701 : decode cL_port_ 701 = .ok (.aload_n 0, 1) := by decide +kernel
theorem dL_port__702 : decode cL_port_ 702 = .ok (.invokevirtual 120, 3) := by decide +kernel
theorem dL_port__705 : decode cL_port_ 705 = .ok (.iconst 1, 1) := by decide +kernel
theorem dL_port__706 : decode cL_port_ 706 = .ok (.aload 4, 2) := by decide +kernel
theorem dL_port__708 : decode cL_port_ 708 = .ok (.iconst 2, 1) := by decide +kernel
theorem dL_port__709 : decode cL_port_ 709 = .ok (.iaload, 1) := by decide +kernel
theorem dL_port__710 : decode cL_port_ 710 = .ok (.iadd, 1) := by decide +kernel
theorem dL_port__711 : decode cL_port_ 711 = .ok (.iload 10, 2) := by decide +kernel
theorem dL_port__713 : decode cL_port_ 713 = .ok (.iadd, 1) := by decide +kernel
theorem dL_port__714 : decode cL_port_ 714 = .ok (.aload 4, 2) := by decide +kernel
theorem dL_port__716 : decode cL_port_ 716 = .ok (.iconst 3, 1) := by decide +kernel
theorem dL_port__717 : decode cL_port_ 717 = .ok (.iaload, 1) := by decide +kernel
theorem dL_port__718 : decode cL_port_ 718 = .ok (.iadd, 1) := by decide +kernel
theorem dL_port__719 : decode cL_port_ 719 = .ok (.aload 4, 2) := by decide +kernel
theorem dL_port__721 : decode cL_port_ 721 = .ok (.iconst 4, 1) := by decide +kernel
theorem dL_port__722 : decode cL_port_ 722 = .ok (.iaload, 1) := by decide +kernel
theorem dL_port__723 : decode cL_port_ 723 = .ok (.iadd, 1) := by decide +kernel
theorem dL_port__724 : decode cL_port_ 724 = .ok (.aload 4, 2) := by decide +kernel
theorem dL_port__726 : decode cL_port_ 726 = .ok (.iconst 5, 1) := by decide +kernel
theorem dL_port__727 : decode cL_port_ 727 = .ok (.iaload, 1) := by decide +kernel
theorem dL_port__728 : decode cL_port_ 728 = .ok (.iadd, 1) := by decide +kernel
theorem dL_port__729 : decode cL_port_ 729 = .ok (.if_icmp .ne 7, 3) := by decide +kernel
theorem dL_port__732 : decode cL_port_ 732 = .ok (.iconst 1, 1) := by decide +kernel
theorem dL_port__733 : decode cL_port_ 733 = .ok (.goto 4, 3) := by decide +kernel
theorem dL_port__736 : decode cL_port_ 736 = .ok (.iconst 0, 1) := by decide +kernel
theorem dL_port__737 : decode cL_port_ 737 = .ok (.ireturn, 1) := by decide +kernel
theorem mokL_port_ : MOK yL_port_ cL_port_ 15 (some .boolean) 10 := ⟨w5_27, w1_0, ⟨by decide, by decide⟩, by decide +kernel, by decide⟩
abbrev miL_port_ : MI := (yL_port_.cls, cL_port_, 15, 11, false)
noncomputable def LL_port__1 : Sm Int32 := dLoop (fun f => (sI (sR (sR (sR (sR (sR (sR (sR (sR (sR (sR fr0 0 (gR f 0)) 1 (gR f 1)) 2 (gR f 2)) 3 (gR f 3)) 4 (gR f 4)) 5 (gR f 5)) 6 (gR f 6)) 7 (gR f 7)) 8 (gR f 8)) 9 (gR f 9)) 10 (gI f 10))) (dCI r_lt (vI 10) (dAI (vR 4) (cI 2))) (dSeq (d3 (stI 13 idI) (vR 5) (vI 10) (dCall DL_draw (aI (aI (aR aN 0 (vR 1)) 1 (d2 o_iadd (cI 4) (vI 10))) 2 (cI 21)))) (dDo (dCall DL_house (aI (aR (aR aN 0 (vR 0)) 1 (vR 2)) 2 (dAI (vR 5) (vI 10)))))) (dInc 10 1)
theorem sLL_port__1 {ΓL : Gm} {PB PK : List Nat} : SS (cvoI, .ireturn) miL_port_ ΓL PB PK [(0, 2), (1, 2), (2, 2), (3, 2), (4, 2), (5, 2), (6, 2), (7, 2), (8, 2), (9, 2), (10, 0)] [(0, 2), (1, 2), (2, 2), (3, 2), (4, 2), (5, 2), (6, 2), (7, 2), (8, 2), (9, 2), (10, 0)] 63 [103] LL_port__1 := t_loop (pT := 72) (pF := 103) (pu := 97) (PB' := []) (PK' := []) (XB := [97]) (XU := [100]) (fun _ _ => rfl) rfl (c_lt_F (pF := 103) (s_iload dL_port__63 rfl) (s_dAI (s_aload dL_port__65 rfl) (s_iconst dL_port__67 rfl) dL_port__68) dL_port__69 rfl) (t_sq (p1 := 87) (Γ' := [(0, 2), (1, 2), (2, 2), (3, 2), (4, 2), (5, 2), (6, 2), (7, 2), (8, 2), (9, 2), (10, 0)]) (t_stI (s_aload dL_port__72 rfl) (s_iload dL_port__74 rfl) (s_of_xI (x_call (ts := [(0, 2), (1, 0), (2, 0)]) kL_draw mokL_draw w5_22 rfl rfl rfl (a_I (ts := [(0, 2), (1, 0)]) 2 (a_I (ts := [(0, 2)]) 1 (a_R (ts := []) 0 a_nil (s_aload_n dL_port__76 rfl rfl) rfl) (s_iadd (s_iconst dL_port__77 rfl) (s_iload dL_port__78 rfl) dL_port__80) rfl) (s_bipush dL_port__81 rfl) rfl) dL_port__83 w5_21)) dL_port__86 rfl) (t_do (x_call (ts := [(0, 2), (1, 2), (2, 0)]) kL_house mokL_house w5_60 rfl rfl rfl (a_I (ts := [(0, 2), (1, 2)]) 2 (a_R (ts := [(0, 2)]) 1 (a_R (ts := []) 0 a_nil (s_aload_n dL_port__87 rfl rfl) rfl) (s_aload_n dL_port__88 rfl rfl) rfl) (s_dAI (s_aload dL_port__89 rfl) (s_iload dL_port__91 rfl) dL_port__93) rfl) dL_port__94 w5_59) rfl)) (t_iinc dL_port__97 rfl rfl rfl rfl) (lda_cons (ld_in rfl) lda_nil) lda_nil (lda_cons (ld_goto (y := 63) dL_port__100 rfl (ld_in rfl)) lda_nil) (ld_in rfl) lda_nil
noncomputable def LL_port__2 : Sm Int32 := dLoop (fun f => (sI (sI (sR (sR (sR (sR (sR (sR (sR (sR (sR (sR fr0 0 (gR f 0)) 1 (gR f 1)) 2 (gR f 2)) 3 (gR f 3)) 4 (gR f 4)) 5 (gR f 5)) 6 (gR f 6)) 7 (gR f 7)) 8 (gR f 8)) 9 (gR f 9)) 10 (gI f 10)) 11 (gI f 11))) (dCI r_lt (vI 11) (vI 10)) (dSeq (dSetI 12 (dCall DL_draw (aI (aI (aR aN 0 (vR 1)) 1 (d2 o_iadd (cI 12) (vI 11))) 2 (cI 1048576)))) (dSeq (dSetI 13 (d2z o_irem (vI 12) (dAI (vR 4) (cI 2)))) (dSeq (dSetI 14 (d2z o_irem (d2 o_iadd (d2 o_iadd (vI 13) (cI 1)) (d2z o_irem (d2 o_ishr (vI 12) (cI 5)) (d2 o_isub (dAI (vR 4) (cI 2)) (cI 1)))) (dAI (vR 4) (cI 2)))) (dSeq (dUA o_ior (vR 5) (d2 o_iadd (cI 8) (vI 13)) (d2 o_ishl (cI 1) (vI 14))) (dSeq (dUA o_ior (vR 5) (d2 o_iadd (cI 8) (vI 14)) (d2 o_ishl (cI 1) (vI 13))) (dDo (dCall DL_way (aI (aI (aR (aR aN 0 (vR 0)) 1 (vR 2)) 2 (vI 13)) 3 (vI 14))))))))) (dInc 11 1)
theorem sLL_port__2 {ΓL : Gm} {PB PK : List Nat} : SS (cvoI, .ireturn) miL_port_ ΓL PB PK [(0, 2), (1, 2), (2, 2), (3, 2), (4, 2), (5, 2), (6, 2), (7, 2), (8, 2), (9, 2), (10, 0), (11, 0)] [(0, 2), (1, 2), (2, 2), (3, 2), (4, 2), (5, 2), (6, 2), (7, 2), (8, 2), (9, 2), (10, 0), (11, 0)] 128 [225] LL_port__2 := t_loop (pT := 135) (pF := 225) (pu := 219) (PB' := []) (PK' := []) (XB := [219]) (XU := [222]) (fun _ _ => rfl) rfl (c_lt_F (pF := 225) (s_iload dL_port__128 rfl) (s_iload dL_port__130 rfl) dL_port__132 rfl) (t_sq (p1 := 148) (Γ' := [(0, 2), (1, 2), (2, 2), (3, 2), (4, 2), (5, 2), (6, 2), (7, 2), (8, 2), (9, 2), (10, 0), (11, 0), (12, 0)]) (t_istore (s_of_xI (x_call (ts := [(0, 2), (1, 0), (2, 0)]) kL_draw mokL_draw w5_22 rfl rfl rfl (a_I (ts := [(0, 2), (1, 0)]) 2 (a_I (ts := [(0, 2)]) 1 (a_R (ts := []) 0 a_nil (s_aload_n dL_port__135 rfl rfl) rfl) (s_iadd (s_bipush dL_port__136 rfl) (s_iload dL_port__138 rfl) dL_port__140) rfl) (s_ldc dL_port__141 w5_64) rfl) dL_port__143 w5_21)) dL_port__146 rfl rfl) (t_sq (p1 := 157) (Γ' := [(0, 2), (1, 2), (2, 2), (3, 2), (4, 2), (5, 2), (6, 2), (7, 2), (8, 2), (9, 2), (10, 0), (11, 0), (12, 0), (13, 0)]) (t_istore (s_irem (s_iload dL_port__148 rfl) (s_dAI (s_aload dL_port__150 rfl) (s_iconst dL_port__152 rfl) dL_port__153) dL_port__154) dL_port__155 rfl rfl) (t_sq (p1 := 180) (Γ' := [(0, 2), (1, 2), (2, 2), (3, 2), (4, 2), (5, 2), (6, 2), (7, 2), (8, 2), (9, 2), (10, 0), (11, 0), (12, 0), (13, 0), (14, 0)]) (t_istore (s_irem (s_iadd (s_iadd (s_iload dL_port__157 rfl) (s_iconst dL_port__159 rfl) dL_port__160) (s_irem (s_ishr (s_iload dL_port__161 rfl) (s_iconst dL_port__163 rfl) dL_port__164) (s_isub (s_dAI (s_aload dL_port__165 rfl) (s_iconst dL_port__167 rfl) dL_port__168) (s_iconst dL_port__169 rfl) dL_port__170) dL_port__171) dL_port__172) (s_dAI (s_aload dL_port__173 rfl) (s_iconst dL_port__175 rfl) dL_port__176) dL_port__177) dL_port__178 rfl rfl) (t_sq (p1 := 195) (Γ' := [(0, 2), (1, 2), (2, 2), (3, 2), (4, 2), (5, 2), (6, 2), (7, 2), (8, 2), (9, 2), (10, 0), (11, 0), (12, 0), (13, 0), (14, 0)]) (t_UA (s_aload dL_port__180 rfl) (s_iadd (s_bipush dL_port__182 rfl) (s_iload dL_port__184 rfl) dL_port__186) dL_port__187 dL_port__188 (s_ishl (s_iconst dL_port__189 rfl) (s_iload dL_port__190 rfl) dL_port__192) (fun _ _ _ _ => rulI fun a b K => lv_ior a b dL_port__193 K) dL_port__194 rfl) (t_sq (p1 := 210) (Γ' := [(0, 2), (1, 2), (2, 2), (3, 2), (4, 2), (5, 2), (6, 2), (7, 2), (8, 2), (9, 2), (10, 0), (11, 0), (12, 0), (13, 0), (14, 0)]) (t_UA (s_aload dL_port__195 rfl) (s_iadd (s_bipush dL_port__197 rfl) (s_iload dL_port__199 rfl) dL_port__201) dL_port__202 dL_port__203 (s_ishl (s_iconst dL_port__204 rfl) (s_iload dL_port__205 rfl) dL_port__207) (fun _ _ _ _ => rulI fun a b K => lv_ior a b dL_port__208 K) dL_port__209 rfl) (t_do (x_call (ts := [(0, 2), (1, 2), (2, 0), (3, 0)]) kL_way mokL_way w5_66 rfl rfl rfl (a_I (ts := [(0, 2), (1, 2), (2, 0)]) 3 (a_I (ts := [(0, 2), (1, 2)]) 2 (a_R (ts := [(0, 2)]) 1 (a_R (ts := []) 0 a_nil (s_aload_n dL_port__210 rfl rfl) rfl) (s_aload_n dL_port__211 rfl rfl) rfl) (s_iload dL_port__212 rfl) rfl) (s_iload dL_port__214 rfl) rfl) dL_port__216 w5_65) rfl)))))) (t_iinc dL_port__219 rfl rfl rfl rfl) (lda_cons (ld_in rfl) lda_nil) lda_nil (lda_cons (ld_goto (y := 128) dL_port__222 rfl (ld_in rfl)) lda_nil) (ld_in rfl) lda_nil
noncomputable def LL_port__3 : Sm Int32 := dLoop (fun f => (sI (sI (sR (sR (sR (sR (sR (sR (sR (sR (sR (sR fr0 0 (gR f 0)) 1 (gR f 1)) 2 (gR f 2)) 3 (gR f 3)) 4 (gR f 4)) 5 (gR f 5)) 6 (gR f 6)) 7 (gR f 7)) 8 (gR f 8)) 9 (gR f 9)) 10 (gI f 10)) 11 (gI f 11))) (dCI r_lt (vI 11) (dAI (vR 4) (cI 3))) (dSeq (dSetI 12 (dCall DL_draw (aI (aI (aR aN 0 (vR 1)) 1 (d2 o_iadd (cI 25) (vI 11))) 2 (cI 1048576)))) (dSeq (d3 (stI 13 idI) (vR 6) (d2 o_imul (cI 2) (vI 11)) (d2z o_irem (vI 12) (dAI (vR 4) (cI 2)))) (dSeq (d3 (stI 13 idI) (vR 6) (d2 o_iadd (d2 o_imul (cI 2) (vI 11)) (cI 1)) (d2z o_irem (d2 o_ishr (vI 12) (cI 5)) (cI 100))) (dDo (dCall DL_carrier (aI (aI (aR (aR aN 0 (vR 0)) 1 (vR 2)) 2 (dAI (vR 6) (d2 o_imul (cI 2) (vI 11)))) 3 (dAI (vR 6) (d2 o_iadd (d2 o_imul (cI 2) (vI 11)) (cI 1))))))))) (dInc 11 1)
theorem sLL_port__3 {ΓL : Gm} {PB PK : List Nat} : SS (cvoI, .ireturn) miL_port_ ΓL PB PK [(0, 2), (1, 2), (2, 2), (3, 2), (4, 2), (5, 2), (6, 2), (7, 2), (8, 2), (9, 2), (10, 0), (11, 0)] [(0, 2), (1, 2), (2, 2), (3, 2), (4, 2), (5, 2), (6, 2), (7, 2), (8, 2), (9, 2), (10, 0), (11, 0)] 251 [330] LL_port__3 := t_loop (pT := 260) (pF := 330) (pu := 324) (PB' := []) (PK' := []) (XB := [324]) (XU := [327]) (fun _ _ => rfl) rfl (c_lt_F (pF := 330) (s_iload dL_port__251 rfl) (s_dAI (s_aload dL_port__253 rfl) (s_iconst dL_port__255 rfl) dL_port__256) dL_port__257 rfl) (t_sq (p1 := 273) (Γ' := [(0, 2), (1, 2), (2, 2), (3, 2), (4, 2), (5, 2), (6, 2), (7, 2), (8, 2), (9, 2), (10, 0), (11, 0), (12, 0)]) (t_istore (s_of_xI (x_call (ts := [(0, 2), (1, 0), (2, 0)]) kL_draw mokL_draw w5_22 rfl rfl rfl (a_I (ts := [(0, 2), (1, 0)]) 2 (a_I (ts := [(0, 2)]) 1 (a_R (ts := []) 0 a_nil (s_aload_n dL_port__260 rfl rfl) rfl) (s_iadd (s_bipush dL_port__261 rfl) (s_iload dL_port__263 rfl) dL_port__265) rfl) (s_ldc dL_port__266 w5_64) rfl) dL_port__268 w5_21)) dL_port__271 rfl rfl) (t_sq (p1 := 287) (Γ' := [(0, 2), (1, 2), (2, 2), (3, 2), (4, 2), (5, 2), (6, 2), (7, 2), (8, 2), (9, 2), (10, 0), (11, 0), (12, 0)]) (t_stI (s_aload dL_port__273 rfl) (s_imul (s_iconst dL_port__275 rfl) (s_iload dL_port__276 rfl) dL_port__278) (s_irem (s_iload dL_port__279 rfl) (s_dAI (s_aload dL_port__281 rfl) (s_iconst dL_port__283 rfl) dL_port__284) dL_port__285) dL_port__286 rfl) (t_sq (p1 := 303) (Γ' := [(0, 2), (1, 2), (2, 2), (3, 2), (4, 2), (5, 2), (6, 2), (7, 2), (8, 2), (9, 2), (10, 0), (11, 0), (12, 0)]) (t_stI (s_aload dL_port__287 rfl) (s_iadd (s_imul (s_iconst dL_port__289 rfl) (s_iload dL_port__290 rfl) dL_port__292) (s_iconst dL_port__293 rfl) dL_port__294) (s_irem (s_ishr (s_iload dL_port__295 rfl) (s_iconst dL_port__297 rfl) dL_port__298) (s_bipush dL_port__299 rfl) dL_port__301) dL_port__302 rfl) (t_do (x_call (ts := [(0, 2), (1, 2), (2, 0), (3, 0)]) kL_carrier mokL_carrier w5_70 rfl rfl rfl (a_I (ts := [(0, 2), (1, 2), (2, 0)]) 3 (a_I (ts := [(0, 2), (1, 2)]) 2 (a_R (ts := [(0, 2)]) 1 (a_R (ts := []) 0 a_nil (s_aload_n dL_port__303 rfl rfl) rfl) (s_aload_n dL_port__304 rfl rfl) rfl) (s_dAI (s_aload dL_port__305 rfl) (s_imul (s_iconst dL_port__307 rfl) (s_iload dL_port__308 rfl) dL_port__310) dL_port__311) rfl) (s_dAI (s_aload dL_port__312 rfl) (s_iadd (s_imul (s_iconst dL_port__314 rfl) (s_iload dL_port__315 rfl) dL_port__317) (s_iconst dL_port__318 rfl) dL_port__319) dL_port__320) rfl) dL_port__321 w5_69) rfl)))) (t_iinc dL_port__324 rfl rfl rfl rfl) (lda_cons (ld_in rfl) lda_nil) lda_nil (lda_cons (ld_goto (y := 251) dL_port__327 rfl (ld_in rfl)) lda_nil) (ld_in rfl) lda_nil
noncomputable def LL_port__4 : Sm Int32 := dLoop (fun f => (sI (sI (sI (sI (sR (sR (sR (sR (sR (sR (sR (sR (sR (sR fr0 0 (gR f 0)) 1 (gR f 1)) 2 (gR f 2)) 3 (gR f 3)) 4 (gR f 4)) 5 (gR f 5)) 6 (gR f 6)) 7 (gR f 7)) 8 (gR f 8)) 9 (gR f 9)) 10 (gI f 10)) 11 (gI f 11)) 12 (gI f 12)) 13 (gI f 13))) (dCI r_lt (vI 13) (dAI (vR 7) (d2 o_imul (cI 7) (vI 11)))) (dSeq (d3 (stI 13 idI) (vR 7) (d2 o_iadd (d2 o_iadd (d2 o_imul (cI 7) (vI 11)) (cI 1)) (vI 13)) (d2 o_iadd (cI 1) (d2z o_irem (d2 o_ishr (vI 12) (d2 o_iadd (d2 o_imul (cI 3) (vI 13)) (cI 7))) (cI 30)))) (dDo (dCall DL_say_ (aI (aL (aR (aR aN 0 (vR 0)) 1 (vR 2)) 2 (cL 8606223186750603264)) 4 (dAI (vR 7) (d2 o_iadd (d2 o_iadd (d2 o_imul (cI 7) (vI 11)) (cI 1)) (vI 13))))))) (dInc 13 1)
theorem sLL_port__4 {ΓL : Gm} {PB PK : List Nat} : SS (cvoI, .ireturn) miL_port_ ΓL PB PK [(0, 2), (1, 2), (2, 2), (3, 2), (4, 2), (5, 2), (6, 2), (7, 2), (8, 2), (9, 2), (10, 0), (11, 0), (12, 0), (13, 0)] [(0, 2), (1, 2), (2, 2), (3, 2), (4, 2), (5, 2), (6, 2), (7, 2), (8, 2), (9, 2), (10, 0), (11, 0), (12, 0), (13, 0)] 430 [498] LL_port__4 := t_loop (pT := 443) (pF := 498) (pu := 492) (PB' := []) (PK' := []) (XB := [492]) (XU := [495]) (fun _ _ => rfl) rfl (c_lt_F (pF := 498) (s_iload dL_port__430 rfl) (s_dAI (s_aload dL_port__432 rfl) (s_imul (s_bipush dL_port__434 rfl) (s_iload dL_port__436 rfl) dL_port__438) dL_port__439) dL_port__440 rfl) (t_sq (p1 := 471) (Γ' := [(0, 2), (1, 2), (2, 2), (3, 2), (4, 2), (5, 2), (6, 2), (7, 2), (8, 2), (9, 2), (10, 0), (11, 0), (12, 0), (13, 0)]) (t_stI (s_aload dL_port__443 rfl) (s_iadd (s_iadd (s_imul (s_bipush dL_port__445 rfl) (s_iload dL_port__447 rfl) dL_port__449) (s_iconst dL_port__450 rfl) dL_port__451) (s_iload dL_port__452 rfl) dL_port__454) (s_iadd (s_iconst dL_port__455 rfl) (s_irem (s_ishr (s_iload dL_port__456 rfl) (s_iadd (s_imul (s_iconst dL_port__458 rfl) (s_iload dL_port__459 rfl) dL_port__461) (s_bipush dL_port__462 rfl) dL_port__464) dL_port__465) (s_bipush dL_port__466 rfl) dL_port__468) dL_port__469) dL_port__470 rfl) (t_do (x_call (ts := [(0, 2), (1, 2), (2, 1), (4, 0)]) kL_say_ mokL_say_ w5_49 rfl rfl rfl (a_I (ts := [(0, 2), (1, 2), (2, 1)]) 4 (a_L (ts := [(0, 2), (1, 2)]) 2 (a_R (ts := [(0, 2)]) 1 (a_R (ts := []) 0 a_nil (s_aload_n dL_port__471 rfl rfl) rfl) (s_aload_n dL_port__472 rfl rfl) rfl) (s_ldc2 dL_port__473 w5_77) rfl) (s_dAI (s_aload dL_port__476 rfl) (s_iadd (s_iadd (s_imul (s_bipush dL_port__478 rfl) (s_iload dL_port__480 rfl) dL_port__482) (s_iconst dL_port__483 rfl) dL_port__484) (s_iload dL_port__485 rfl) dL_port__487) dL_port__488) rfl) dL_port__489 w5_48) rfl)) (t_iinc dL_port__492 rfl rfl rfl rfl) (lda_cons (ld_in rfl) lda_nil) lda_nil (lda_cons (ld_goto (y := 430) dL_port__495 rfl (ld_in rfl)) lda_nil) (ld_in rfl) lda_nil
noncomputable def LL_port__5 : Sm Int32 := dLoop (fun f => (sI (sI (sR (sR (sR (sR (sR (sR (sR (sR (sR (sR fr0 0 (gR f 0)) 1 (gR f 1)) 2 (gR f 2)) 3 (gR f 3)) 4 (gR f 4)) 5 (gR f 5)) 6 (gR f 6)) 7 (gR f 7)) 8 (gR f 8)) 9 (gR f 9)) 10 (gI f 10)) 11 (gI f 11))) (dCI r_lt (vI 11) (dAI (vR 4) (cI 4))) (dSeq (dSetI 12 (dCall DL_draw (aI (aI (aR aN 0 (vR 1)) 1 (d2 o_iadd (cI 31) (vI 11))) 2 (cI 1073741824)))) (dSeq (d3 (stI 13 idI) (vR 9) (vI 11) (d2z o_irem (vI 12) (dAI (vR 4) (cI 2)))) (dSeq (d3 (stI 13 idI) (vR 7) (d2 o_imul (cI 7) (vI 11)) (d2 o_iadd (cI 1) (d2z o_irem (d2 o_ishr (vI 12) (cI 4)) (cI 6)))) (dSeq (dDo (dCall DL_say (aL (aR (aR aN 0 (vR 0)) 1 (vR 2)) 2 (cL 8317129764385062912)))) (dSeq (dDo (dCall DL_say_ (aI (aL (aR (aR aN 0 (vR 0)) 1 (vR 2)) 2 (cL 7022237718977445888)) 4 (dAI (vR 9) (vI 11))))) (dSeq (dSeq (dSetI 13 (cI 0)) LL_port__4) (dSeq (dDo (dCall DL_done (aR (aR aN 0 (vR 0)) 1 (vR 2)))) (d3 (stI 13 idI) (vR 9) (d2 o_iadd (cI 3) (vI 11)) (d2 o_isub (d2 o_ishl (cI 1) (dAI (vR 7) (d2 o_imul (cI 7) (vI 11)))) (cI 1)))))))))) (dInc 11 1)
theorem sLL_port__5 {ΓL : Gm} {PB PK : List Nat} : SS (cvoI, .ireturn) miL_port_ ΓL PB PK [(0, 2), (1, 2), (2, 2), (3, 2), (4, 2), (5, 2), (6, 2), (7, 2), (8, 2), (9, 2), (10, 0), (11, 0)] [(0, 2), (1, 2), (2, 2), (3, 2), (4, 2), (5, 2), (6, 2), (7, 2), (8, 2), (9, 2), (10, 0), (11, 0)] 355 [528] LL_port__5 := t_loop (pT := 364) (pF := 528) (pu := 522) (PB' := []) (PK' := []) (XB := [522]) (XU := [525]) (fun _ _ => rfl) rfl (c_lt_F (pF := 528) (s_iload dL_port__355 rfl) (s_dAI (s_aload dL_port__357 rfl) (s_iconst dL_port__359 rfl) dL_port__360) dL_port__361 rfl) (t_sq (p1 := 377) (Γ' := [(0, 2), (1, 2), (2, 2), (3, 2), (4, 2), (5, 2), (6, 2), (7, 2), (8, 2), (9, 2), (10, 0), (11, 0), (12, 0)]) (t_istore (s_of_xI (x_call (ts := [(0, 2), (1, 0), (2, 0)]) kL_draw mokL_draw w5_22 rfl rfl rfl (a_I (ts := [(0, 2), (1, 0)]) 2 (a_I (ts := [(0, 2)]) 1 (a_R (ts := []) 0 a_nil (s_aload_n dL_port__364 rfl rfl) rfl) (s_iadd (s_bipush dL_port__365 rfl) (s_iload dL_port__367 rfl) dL_port__369) rfl) (s_ldc dL_port__370 w5_75) rfl) dL_port__372 w5_21)) dL_port__375 rfl rfl) (t_sq (p1 := 389) (Γ' := [(0, 2), (1, 2), (2, 2), (3, 2), (4, 2), (5, 2), (6, 2), (7, 2), (8, 2), (9, 2), (10, 0), (11, 0), (12, 0)]) (t_stI (s_aload dL_port__377 rfl) (s_iload dL_port__379 rfl) (s_irem (s_iload dL_port__381 rfl) (s_dAI (s_aload dL_port__383 rfl) (s_iconst dL_port__385 rfl) dL_port__386) dL_port__387) dL_port__388 rfl) (t_sq (p1 := 406) (Γ' := [(0, 2), (1, 2), (2, 2), (3, 2), (4, 2), (5, 2), (6, 2), (7, 2), (8, 2), (9, 2), (10, 0), (11, 0), (12, 0)]) (t_stI (s_aload dL_port__389 rfl) (s_imul (s_bipush dL_port__391 rfl) (s_iload dL_port__393 rfl) dL_port__395) (s_iadd (s_iconst dL_port__396 rfl) (s_irem (s_ishr (s_iload dL_port__397 rfl) (s_iconst dL_port__399 rfl) dL_port__400) (s_bipush dL_port__401 rfl) dL_port__403) dL_port__404) dL_port__405 rfl) (t_sq (p1 := 414) (Γ' := [(0, 2), (1, 2), (2, 2), (3, 2), (4, 2), (5, 2), (6, 2), (7, 2), (8, 2), (9, 2), (10, 0), (11, 0), (12, 0)]) (t_do (x_call (ts := [(0, 2), (1, 2), (2, 1)]) kL_say mokL_say w5_33 rfl rfl rfl (a_L (ts := [(0, 2), (1, 2)]) 2 (a_R (ts := [(0, 2)]) 1 (a_R (ts := []) 0 a_nil (s_aload_n dL_port__406 rfl rfl) rfl) (s_aload_n dL_port__407 rfl rfl) rfl) (s_ldc2 dL_port__408 w5_76) rfl) dL_port__411 w5_32) rfl) (t_sq (p1 := 427) (Γ' := [(0, 2), (1, 2), (2, 2), (3, 2), (4, 2), (5, 2), (6, 2), (7, 2), (8, 2), (9, 2), (10, 0), (11, 0), (12, 0)]) (t_do (x_call (ts := [(0, 2), (1, 2), (2, 1), (4, 0)]) kL_say_ mokL_say_ w5_49 rfl rfl rfl (a_I (ts := [(0, 2), (1, 2), (2, 1)]) 4 (a_L (ts := [(0, 2), (1, 2)]) 2 (a_R (ts := [(0, 2)]) 1 (a_R (ts := []) 0 a_nil (s_aload_n dL_port__414 rfl rfl) rfl) (s_aload_n dL_port__415 rfl rfl) rfl) (s_ldc2 dL_port__416 w5_73) rfl) (s_dAI (s_aload dL_port__419 rfl) (s_iload dL_port__421 rfl) dL_port__423) rfl) dL_port__424 w5_48) rfl) (t_sq (p1 := 498) (Γ' := [(0, 2), (1, 2), (2, 2), (3, 2), (4, 2), (5, 2), (6, 2), (7, 2), (8, 2), (9, 2), (10, 0), (11, 0), (12, 0)]) (t_sq (p1 := 430) (Γ' := [(0, 2), (1, 2), (2, 2), (3, 2), (4, 2), (5, 2), (6, 2), (7, 2), (8, 2), (9, 2), (10, 0), (11, 0), (12, 0), (13, 0)]) (t_istore (s_iconst dL_port__427 rfl) dL_port__428 rfl rfl) (tn_to (Γ' := [(0, 2), (1, 2), (2, 2), (3, 2), (4, 2), (5, 2), (6, 2), (7, 2), (8, 2), (9, 2), (10, 0), (11, 0), (12, 0), (13, 0)]) (XA := [498]) sLL_port__4 (lda_cons (ld_in rfl) lda_nil) rfl)) (t_sq (p1 := 503) (Γ' := [(0, 2), (1, 2), (2, 2), (3, 2), (4, 2), (5, 2), (6, 2), (7, 2), (8, 2), (9, 2), (10, 0), (11, 0), (12, 0)]) (t_do (x_call (ts := [(0, 2), (1, 2)]) kL_done mokL_done w5_57 rfl rfl rfl (a_R (ts := [(0, 2)]) 1 (a_R (ts := []) 0 a_nil (s_aload_n dL_port__498 rfl rfl) rfl) (s_aload_n dL_port__499 rfl rfl) rfl) dL_port__500 w5_56) rfl) (t_stI (s_aload dL_port__503 rfl) (s_iadd (s_iconst dL_port__505 rfl) (s_iload dL_port__506 rfl) dL_port__508) (s_isub (s_ishl (s_iconst dL_port__509 rfl) (s_dAI (s_aload dL_port__510 rfl) (s_imul (s_bipush dL_port__512 rfl) (s_iload dL_port__514 rfl) dL_port__516) dL_port__517) dL_port__518) (s_iconst dL_port__519 rfl) dL_port__520) dL_port__521 rfl)))))))) (t_iinc dL_port__522 rfl rfl rfl rfl) (lda_cons (ld_in rfl) lda_nil) lda_nil (lda_cons (ld_goto (y := 355) dL_port__525 rfl (ld_in rfl)) lda_nil) (ld_in rfl) lda_nil
noncomputable def LL_port__6 : Sm Int32 := dLoop (fun f => (sI (sI (sR (sR (sR (sR (sR (sR (sR (sR (sR (sR fr0 0 (gR f 0)) 1 (gR f 1)) 2 (gR f 2)) 3 (gR f 3)) 4 (gR f 4)) 5 (gR f 5)) 6 (gR f 6)) 7 (gR f 7)) 8 (gR f 8)) 9 (gR f 9)) 10 (gI f 10)) 11 (gI f 11))) (dCI r_lt (vI 11) (dAI (vR 4) (cI 5))) (dSeq (dSetI 12 (dCall DL_draw (aI (aI (aR aN 0 (vR 1)) 1 (d2 o_iadd (cI 35) (vI 11))) 2 (cI 1073741824)))) (dSeq (d3 (stI 13 idI) (vR 8) (d2 o_imul (cI 4) (vI 11)) (d2z o_irem (vI 12) (dAI (vR 4) (cI 3)))) (dSeq (d3 (stI 13 idI) (vR 8) (d2 o_iadd (d2 o_imul (cI 4) (vI 11)) (cI 1)) (d2z o_irem (d2 o_ishr (vI 12) (cI 4)) (dAI (vR 4) (cI 4)))) (dSeq (d3 (stI 13 idI) (vR 8) (d2 o_iadd (d2 o_imul (cI 4) (vI 11)) (cI 2)) (d2z o_irem (d2 o_ishr (vI 12) (cI 8)) (dAI (vR 4) (cI 2)))) (dSeq (d3 (stI 13 idI) (vR 8) (d2 o_iadd (d2 o_imul (cI 4) (vI 11)) (cI 3)) (d2z o_irem (d2 o_ishr (vI 12) (cI 12)) (cI 12))) (dDo (dCall DL_carry (aI (aI (aI (aI (aR (aR aN 0 (vR 0)) 1 (vR 2)) 2 (dAI (vR 8) (d2 o_imul (cI 4) (vI 11)))) 3 (dAI (vR 8) (d2 o_iadd (d2 o_imul (cI 4) (vI 11)) (cI 1)))) 4 (dAI (vR 8) (d2 o_iadd (d2 o_imul (cI 4) (vI 11)) (cI 2)))) 5 (dAI (vR 8) (d2 o_iadd (d2 o_imul (cI 4) (vI 11)) (cI 3))))))))))) (dInc 11 1)
theorem sLL_port__6 {ΓL : Gm} {PB PK : List Nat} : SS (cvoI, .ireturn) miL_port_ ΓL PB PK [(0, 2), (1, 2), (2, 2), (3, 2), (4, 2), (5, 2), (6, 2), (7, 2), (8, 2), (9, 2), (10, 0), (11, 0)] [(0, 2), (1, 2), (2, 2), (3, 2), (4, 2), (5, 2), (6, 2), (7, 2), (8, 2), (9, 2), (10, 0), (11, 0)] 561 [696] LL_port__6 := t_loop (pT := 570) (pF := 696) (pu := 690) (PB' := []) (PK' := []) (XB := [690]) (XU := [693]) (fun _ _ => rfl) rfl (c_lt_F (pF := 696) (s_iload dL_port__561 rfl) (s_dAI (s_aload dL_port__563 rfl) (s_iconst dL_port__565 rfl) dL_port__566) dL_port__567 rfl) (t_sq (p1 := 583) (Γ' := [(0, 2), (1, 2), (2, 2), (3, 2), (4, 2), (5, 2), (6, 2), (7, 2), (8, 2), (9, 2), (10, 0), (11, 0), (12, 0)]) (t_istore (s_of_xI (x_call (ts := [(0, 2), (1, 0), (2, 0)]) kL_draw mokL_draw w5_22 rfl rfl rfl (a_I (ts := [(0, 2), (1, 0)]) 2 (a_I (ts := [(0, 2)]) 1 (a_R (ts := []) 0 a_nil (s_aload_n dL_port__570 rfl rfl) rfl) (s_iadd (s_bipush dL_port__571 rfl) (s_iload dL_port__573 rfl) dL_port__575) rfl) (s_ldc dL_port__576 w5_75) rfl) dL_port__578 w5_21)) dL_port__581 rfl rfl) (t_sq (p1 := 597) (Γ' := [(0, 2), (1, 2), (2, 2), (3, 2), (4, 2), (5, 2), (6, 2), (7, 2), (8, 2), (9, 2), (10, 0), (11, 0), (12, 0)]) (t_stI (s_aload dL_port__583 rfl) (s_imul (s_iconst dL_port__585 rfl) (s_iload dL_port__586 rfl) dL_port__588) (s_irem (s_iload dL_port__589 rfl) (s_dAI (s_aload dL_port__591 rfl) (s_iconst dL_port__593 rfl) dL_port__594) dL_port__595) dL_port__596 rfl) (t_sq (p1 := 615) (Γ' := [(0, 2), (1, 2), (2, 2), (3, 2), (4, 2), (5, 2), (6, 2), (7, 2), (8, 2), (9, 2), (10, 0), (11, 0), (12, 0)]) (t_stI (s_aload dL_port__597 rfl) (s_iadd (s_imul (s_iconst dL_port__599 rfl) (s_iload dL_port__600 rfl) dL_port__602) (s_iconst dL_port__603 rfl) dL_port__604) (s_irem (s_ishr (s_iload dL_port__605 rfl) (s_iconst dL_port__607 rfl) dL_port__608) (s_dAI (s_aload dL_port__609 rfl) (s_iconst dL_port__611 rfl) dL_port__612) dL_port__613) dL_port__614 rfl) (t_sq (p1 := 634) (Γ' := [(0, 2), (1, 2), (2, 2), (3, 2), (4, 2), (5, 2), (6, 2), (7, 2), (8, 2), (9, 2), (10, 0), (11, 0), (12, 0)]) (t_stI (s_aload dL_port__615 rfl) (s_iadd (s_imul (s_iconst dL_port__617 rfl) (s_iload dL_port__618 rfl) dL_port__620) (s_iconst dL_port__621 rfl) dL_port__622) (s_irem (s_ishr (s_iload dL_port__623 rfl) (s_bipush dL_port__625 rfl) dL_port__627) (s_dAI (s_aload dL_port__628 rfl) (s_iconst dL_port__630 rfl) dL_port__631) dL_port__632) dL_port__633 rfl) (t_sq (p1 := 651) (Γ' := [(0, 2), (1, 2), (2, 2), (3, 2), (4, 2), (5, 2), (6, 2), (7, 2), (8, 2), (9, 2), (10, 0), (11, 0), (12, 0)]) (t_stI (s_aload dL_port__634 rfl) (s_iadd (s_imul (s_iconst dL_port__636 rfl) (s_iload dL_port__637 rfl) dL_port__639) (s_iconst dL_port__640 rfl) dL_port__641) (s_irem (s_ishr (s_iload dL_port__642 rfl) (s_bipush dL_port__644 rfl) dL_port__646) (s_bipush dL_port__647 rfl) dL_port__649) dL_port__650 rfl) (t_do (x_call (ts := [(0, 2), (1, 2), (2, 0), (3, 0), (4, 0), (5, 0)]) kL_carry mokL_carry w5_79 rfl rfl rfl (a_I (ts := [(0, 2), (1, 2), (2, 0), (3, 0), (4, 0)]) 5 (a_I (ts := [(0, 2), (1, 2), (2, 0), (3, 0)]) 4 (a_I (ts := [(0, 2), (1, 2), (2, 0)]) 3 (a_I (ts := [(0, 2), (1, 2)]) 2 (a_R (ts := [(0, 2)]) 1 (a_R (ts := []) 0 a_nil (s_aload_n dL_port__651 rfl rfl) rfl) (s_aload_n dL_port__652 rfl rfl) rfl) (s_dAI (s_aload dL_port__653 rfl) (s_imul (s_iconst dL_port__655 rfl) (s_iload dL_port__656 rfl) dL_port__658) dL_port__659) rfl) (s_dAI (s_aload dL_port__660 rfl) (s_iadd (s_imul (s_iconst dL_port__662 rfl) (s_iload dL_port__663 rfl) dL_port__665) (s_iconst dL_port__666 rfl) dL_port__667) dL_port__668) rfl) (s_dAI (s_aload dL_port__669 rfl) (s_iadd (s_imul (s_iconst dL_port__671 rfl) (s_iload dL_port__672 rfl) dL_port__674) (s_iconst dL_port__675 rfl) dL_port__676) dL_port__677) rfl) (s_dAI (s_aload dL_port__678 rfl) (s_iadd (s_imul (s_iconst dL_port__680 rfl) (s_iload dL_port__681 rfl) dL_port__683) (s_iconst dL_port__684 rfl) dL_port__685) dL_port__686) rfl) dL_port__687 w5_78) rfl)))))) (t_iinc dL_port__690 rfl rfl rfl rfl) (lda_cons (ld_in rfl) lda_nil) lda_nil (lda_cons (ld_goto (y := 561) dL_port__693 rfl (ld_in rfl)) lda_nil) (ld_in rfl) lda_nil
noncomputable def BL_port_ : Sm Int32 := (dSeq (d3 (stI 13 idI) (vR 4) (cI 0) (d2 o_iadd (cI 1) (dCall DL_draw (aI (aI (aR aN 0 (vR 1)) 1 (cI 0)) 2 (cI 12))))) (dSeq (d3 (stI 13 idI) (vR 4) (cI 1) (dCall DL_draw (aI (aI (aR aN 0 (vR 1)) 1 (cI 1)) 2 (cI 4)))) (dSeq (d3 (stI 13 idI) (vR 3) (cI 0) (dCall DL_draw (aI (aI (aR aN 0 (vR 1)) 1 (cI 2)) 2 (cI 11)))) (dSeq (dDo (dCall DL_port (aI (aI (aI (aR (aR aN 0 (vR 0)) 1 (vR 2)) 2 (dAI (vR 4) (cI 0))) 3 (dAI (vR 4) (cI 1))) 4 (dAI (vR 3) (cI 0))))) (dSeq (d3 (stI 13 idI) (vR 4) (cI 2) (dCall DL_draw (aI (aI (aR aN 0 (vR 1)) 1 (cI 3)) 2 (cI 8)))) (dSeq (dSeq (dSetI 10 (cI 0)) LL_port__1) (dSeq (dSetI 10 (dT (dCI r_lt (dAI (vR 4) (cI 2)) (cI 2)) (cI 0) (dCall DL_draw (aI (aI (aR aN 0 (vR 1)) 1 (cI 11)) 2 (cI 12))))) (dSeq (dSeq (dSetI 11 (cI 0)) LL_port__2) (dSeq (d3 (stI 13 idI) (vR 4) (cI 3) (dT (dCZ q_eq (dAI (vR 4) (cI 2))) (cI 0) (dCall DL_draw (aI (aI (aR aN 0 (vR 1)) 1 (cI 24)) 2 (cI 6))))) (dSeq (dSeq (dSetI 11 (cI 0)) LL_port__3) (dSeq (d3 (stI 13 idI) (vR 4) (cI 4) (dT (dCZ q_eq (dAI (vR 4) (cI 2))) (cI 0) (dCall DL_draw (aI (aI (aR aN 0 (vR 1)) 1 (cI 30)) 2 (cI 4))))) (dSeq (dSeq (dSetI 11 (cI 0)) LL_port__5) (dSeq (d3 (stI 13 idI) (vR 4) (cI 5) (dT (dOr (dCZ q_eq (dAI (vR 4) (cI 3))) (dCZ q_eq (dAI (vR 4) (cI 4)))) (cI 0) (dCall DL_draw (aI (aI (aR aN 0 (vR 1)) 1 (cI 34)) 2 (cI 13))))) (dSeq (dSeq (dSetI 11 (cI 0)) LL_port__6) (dSeq (dDo (dCall DL_rest (aR (aR aN 0 (vR 0)) 1 (vR 2)))) (dRet (dB (dCI r_eq (dCallV 11 DX11_port (aR aN 0 (vR 0))) (d2 o_iadd (d2 o_iadd (d2 o_iadd (d2 o_iadd (d2 o_iadd (cI 1) (dAI (vR 4) (cI 2))) (vI 10)) (dAI (vR 4) (cI 3))) (dAI (vR 4) (cI 4))) (dAI (vR 4) (cI 5)))))))))))))))))))))
theorem sBL_port_ : SS (cvoI, .ireturn) miL_port_ [] [] [] [(0, 2), (1, 2), (2, 2), (3, 2), (4, 2), (5, 2), (6, 2), (7, 2), (8, 2), (9, 2)] [(0, 2), (1, 2), (2, 2), (3, 2), (4, 2), (5, 2), (6, 2), (7, 2), (8, 2), (9, 2)] 0 [] BL_port_ := (t_sq (p1 := 13) (Γ' := [(0, 2), (1, 2), (2, 2), (3, 2), (4, 2), (5, 2), (6, 2), (7, 2), (8, 2), (9, 2)]) (t_stI (s_aload dL_port__0 rfl) (s_iconst dL_port__2 rfl) (s_iadd (s_iconst dL_port__3 rfl) (s_of_xI (x_call (ts := [(0, 2), (1, 0), (2, 0)]) kL_draw mokL_draw w5_22 rfl rfl rfl (a_I (ts := [(0, 2), (1, 0)]) 2 (a_I (ts := [(0, 2)]) 1 (a_R (ts := []) 0 a_nil (s_aload_n dL_port__4 rfl rfl) rfl) (s_iconst dL_port__5 rfl) rfl) (s_bipush dL_port__6 rfl) rfl) dL_port__8 w5_21)) dL_port__11) dL_port__12 rfl) (t_sq (p1 := 23) (Γ' := [(0, 2), (1, 2), (2, 2), (3, 2), (4, 2), (5, 2), (6, 2), (7, 2), (8, 2), (9, 2)]) (t_stI (s_aload dL_port__13 rfl) (s_iconst dL_port__15 rfl) (s_of_xI (x_call (ts := [(0, 2), (1, 0), (2, 0)]) kL_draw mokL_draw w5_22 rfl rfl rfl (a_I (ts := [(0, 2), (1, 0)]) 2 (a_I (ts := [(0, 2)]) 1 (a_R (ts := []) 0 a_nil (s_aload_n dL_port__16 rfl rfl) rfl) (s_iconst dL_port__17 rfl) rfl) (s_iconst dL_port__18 rfl) rfl) dL_port__19 w5_21)) dL_port__22 rfl) (t_sq (p1 := 33) (Γ' := [(0, 2), (1, 2), (2, 2), (3, 2), (4, 2), (5, 2), (6, 2), (7, 2), (8, 2), (9, 2)]) (t_stI (s_aload_n dL_port__23 rfl rfl) (s_iconst dL_port__24 rfl) (s_of_xI (x_call (ts := [(0, 2), (1, 0), (2, 0)]) kL_draw mokL_draw w5_22 rfl rfl rfl (a_I (ts := [(0, 2), (1, 0)]) 2 (a_I (ts := [(0, 2)]) 1 (a_R (ts := []) 0 a_nil (s_aload_n dL_port__25 rfl rfl) rfl) (s_iconst dL_port__26 rfl) rfl) (s_bipush dL_port__27 rfl) rfl) dL_port__29 w5_21)) dL_port__32 rfl) (t_sq (p1 := 49) (Γ' := [(0, 2), (1, 2), (2, 2), (3, 2), (4, 2), (5, 2), (6, 2), (7, 2), (8, 2), (9, 2)]) (t_do (x_call (ts := [(0, 2), (1, 2), (2, 0), (3, 0), (4, 0)]) kL_port mokL_port w5_29 rfl rfl rfl (a_I (ts := [(0, 2), (1, 2), (2, 0), (3, 0)]) 4 (a_I (ts := [(0, 2), (1, 2), (2, 0)]) 3 (a_I (ts := [(0, 2), (1, 2)]) 2 (a_R (ts := [(0, 2)]) 1 (a_R (ts := []) 0 a_nil (s_aload_n dL_port__33 rfl rfl) rfl) (s_aload_n dL_port__34 rfl rfl) rfl) (s_dAI (s_aload dL_port__35 rfl) (s_iconst dL_port__37 rfl) dL_port__38) rfl) (s_dAI (s_aload dL_port__39 rfl) (s_iconst dL_port__41 rfl) dL_port__42) rfl) (s_dAI (s_aload_n dL_port__43 rfl rfl) (s_iconst dL_port__44 rfl) dL_port__45) rfl) dL_port__46 w5_28) rfl) (t_sq (p1 := 60) (Γ' := [(0, 2), (1, 2), (2, 2), (3, 2), (4, 2), (5, 2), (6, 2), (7, 2), (8, 2), (9, 2)]) (t_stI (s_aload dL_port__49 rfl) (s_iconst dL_port__51 rfl) (s_of_xI (x_call (ts := [(0, 2), (1, 0), (2, 0)]) kL_draw mokL_draw w5_22 rfl rfl rfl (a_I (ts := [(0, 2), (1, 0)]) 2 (a_I (ts := [(0, 2)]) 1 (a_R (ts := []) 0 a_nil (s_aload_n dL_port__52 rfl rfl) rfl) (s_iconst dL_port__53 rfl) rfl) (s_bipush dL_port__54 rfl) rfl) dL_port__56 w5_21)) dL_port__59 rfl) (t_sq (p1 := 103) (Γ' := [(0, 2), (1, 2), (2, 2), (3, 2), (4, 2), (5, 2), (6, 2), (7, 2), (8, 2), (9, 2)]) (t_sq (p1 := 63) (Γ' := [(0, 2), (1, 2), (2, 2), (3, 2), (4, 2), (5, 2), (6, 2), (7, 2), (8, 2), (9, 2), (10, 0)]) (t_istore (s_iconst dL_port__60 rfl) dL_port__61 rfl rfl) (tn_to (Γ' := [(0, 2), (1, 2), (2, 2), (3, 2), (4, 2), (5, 2), (6, 2), (7, 2), (8, 2), (9, 2), (10, 0)]) (XA := [103]) sLL_port__1 (lda_cons (ld_in rfl) lda_nil) rfl)) (t_sq (p1 := 125) (Γ' := [(0, 2), (1, 2), (2, 2), (3, 2), (4, 2), (5, 2), (6, 2), (7, 2), (8, 2), (9, 2), (10, 0)]) (t_istore (s_T (pT := 111) (pF := 115) (p1 := 112) (pe := 123) (c_lt_F (pF := 115) (s_dAI (s_aload dL_port__103 rfl) (s_iconst dL_port__105 rfl) dL_port__106) (s_iconst dL_port__107 rfl) dL_port__108 rfl) (s_iconst dL_port__111 rfl) (s_of_xI (x_call (ts := [(0, 2), (1, 0), (2, 0)]) kL_draw mokL_draw w5_22 rfl rfl rfl (a_I (ts := [(0, 2), (1, 0)]) 2 (a_I (ts := [(0, 2)]) 1 (a_R (ts := []) 0 a_nil (s_aload_n dL_port__115 rfl rfl) rfl) (s_bipush dL_port__116 rfl) rfl) (s_bipush dL_port__118 rfl) rfl) dL_port__120 w5_21)) (ld_goto (y := 123) dL_port__112 rfl (ld_in rfl))) dL_port__123 rfl rfl) (t_sq (p1 := 225) (Γ' := [(0, 2), (1, 2), (2, 2), (3, 2), (4, 2), (5, 2), (6, 2), (7, 2), (8, 2), (9, 2), (10, 0)]) (t_sq (p1 := 128) (Γ' := [(0, 2), (1, 2), (2, 2), (3, 2), (4, 2), (5, 2), (6, 2), (7, 2), (8, 2), (9, 2), (10, 0), (11, 0)]) (t_istore (s_iconst dL_port__125 rfl) dL_port__126 rfl rfl) (tn_to (Γ' := [(0, 2), (1, 2), (2, 2), (3, 2), (4, 2), (5, 2), (6, 2), (7, 2), (8, 2), (9, 2), (10, 0), (11, 0)]) (XA := [225]) sLL_port__2 (lda_cons (ld_in rfl) lda_nil) rfl)) (t_sq (p1 := 248) (Γ' := [(0, 2), (1, 2), (2, 2), (3, 2), (4, 2), (5, 2), (6, 2), (7, 2), (8, 2), (9, 2), (10, 0)]) (t_stI (s_aload dL_port__225 rfl) (s_iconst dL_port__227 rfl) (s_T (pT := 235) (pF := 239) (p1 := 236) (pe := 247) (c_eq_ZF (pF := 239) (s_dAI (s_aload dL_port__228 rfl) (s_iconst dL_port__230 rfl) dL_port__231) dL_port__232 rfl) (s_iconst dL_port__235 rfl) (s_of_xI (x_call (ts := [(0, 2), (1, 0), (2, 0)]) kL_draw mokL_draw w5_22 rfl rfl rfl (a_I (ts := [(0, 2), (1, 0)]) 2 (a_I (ts := [(0, 2)]) 1 (a_R (ts := []) 0 a_nil (s_aload_n dL_port__239 rfl rfl) rfl) (s_bipush dL_port__240 rfl) rfl) (s_bipush dL_port__242 rfl) rfl) dL_port__244 w5_21)) (ld_goto (y := 247) dL_port__236 rfl (ld_in rfl))) dL_port__247 rfl) (t_sq (p1 := 330) (Γ' := [(0, 2), (1, 2), (2, 2), (3, 2), (4, 2), (5, 2), (6, 2), (7, 2), (8, 2), (9, 2), (10, 0)]) (t_sq (p1 := 251) (Γ' := [(0, 2), (1, 2), (2, 2), (3, 2), (4, 2), (5, 2), (6, 2), (7, 2), (8, 2), (9, 2), (10, 0), (11, 0)]) (t_istore (s_iconst dL_port__248 rfl) dL_port__249 rfl rfl) (tn_to (Γ' := [(0, 2), (1, 2), (2, 2), (3, 2), (4, 2), (5, 2), (6, 2), (7, 2), (8, 2), (9, 2), (10, 0), (11, 0)]) (XA := [330]) sLL_port__3 (lda_cons (ld_in rfl) lda_nil) rfl)) (t_sq (p1 := 352) (Γ' := [(0, 2), (1, 2), (2, 2), (3, 2), (4, 2), (5, 2), (6, 2), (7, 2), (8, 2), (9, 2), (10, 0)]) (t_stI (s_aload dL_port__330 rfl) (s_iconst dL_port__332 rfl) (s_T (pT := 340) (pF := 344) (p1 := 341) (pe := 351) (c_eq_ZF (pF := 344) (s_dAI (s_aload dL_port__333 rfl) (s_iconst dL_port__335 rfl) dL_port__336) dL_port__337 rfl) (s_iconst dL_port__340 rfl) (s_of_xI (x_call (ts := [(0, 2), (1, 0), (2, 0)]) kL_draw mokL_draw w5_22 rfl rfl rfl (a_I (ts := [(0, 2), (1, 0)]) 2 (a_I (ts := [(0, 2)]) 1 (a_R (ts := []) 0 a_nil (s_aload_n dL_port__344 rfl rfl) rfl) (s_bipush dL_port__345 rfl) rfl) (s_iconst dL_port__347 rfl) rfl) dL_port__348 w5_21)) (ld_goto (y := 351) dL_port__341 rfl (ld_in rfl))) dL_port__351 rfl) (t_sq (p1 := 528) (Γ' := [(0, 2), (1, 2), (2, 2), (3, 2), (4, 2), (5, 2), (6, 2), (7, 2), (8, 2), (9, 2), (10, 0)]) (t_sq (p1 := 355) (Γ' := [(0, 2), (1, 2), (2, 2), (3, 2), (4, 2), (5, 2), (6, 2), (7, 2), (8, 2), (9, 2), (10, 0), (11, 0)]) (t_istore (s_iconst dL_port__352 rfl) dL_port__353 rfl rfl) (tn_to (Γ' := [(0, 2), (1, 2), (2, 2), (3, 2), (4, 2), (5, 2), (6, 2), (7, 2), (8, 2), (9, 2), (10, 0), (11, 0)]) (XA := [528]) sLL_port__5 (lda_cons (ld_in rfl) lda_nil) rfl)) (t_sq (p1 := 558) (Γ' := [(0, 2), (1, 2), (2, 2), (3, 2), (4, 2), (5, 2), (6, 2), (7, 2), (8, 2), (9, 2), (10, 0)]) (t_stI (s_aload dL_port__528 rfl) (s_iconst dL_port__530 rfl) (s_T (pT := 545) (pF := 549) (p1 := 546) (pe := 557) (c_or (p1 := 538) (pT := 545) (pF := 549) (c_eq_ZJ (pT := 545) (s_dAI (s_aload dL_port__531 rfl) (s_iconst dL_port__533 rfl) dL_port__534) dL_port__535 rfl) (c_eq_ZF (pF := 549) (s_dAI (s_aload dL_port__538 rfl) (s_iconst dL_port__540 rfl) dL_port__541) dL_port__542 rfl)) (s_iconst dL_port__545 rfl) (s_of_xI (x_call (ts := [(0, 2), (1, 0), (2, 0)]) kL_draw mokL_draw w5_22 rfl rfl rfl (a_I (ts := [(0, 2), (1, 0)]) 2 (a_I (ts := [(0, 2)]) 1 (a_R (ts := []) 0 a_nil (s_aload_n dL_port__549 rfl rfl) rfl) (s_bipush dL_port__550 rfl) rfl) (s_bipush dL_port__552 rfl) rfl) dL_port__554 w5_21)) (ld_goto (y := 557) dL_port__546 rfl (ld_in rfl))) dL_port__557 rfl) (t_sq (p1 := 696) (Γ' := [(0, 2), (1, 2), (2, 2), (3, 2), (4, 2), (5, 2), (6, 2), (7, 2), (8, 2), (9, 2), (10, 0)]) (t_sq (p1 := 561) (Γ' := [(0, 2), (1, 2), (2, 2), (3, 2), (4, 2), (5, 2), (6, 2), (7, 2), (8, 2), (9, 2), (10, 0), (11, 0)]) (t_istore (s_iconst dL_port__558 rfl) dL_port__559 rfl rfl) (tn_to (Γ' := [(0, 2), (1, 2), (2, 2), (3, 2), (4, 2), (5, 2), (6, 2), (7, 2), (8, 2), (9, 2), (10, 0), (11, 0)]) (XA := [696]) sLL_port__6 (lda_cons (ld_in rfl) lda_nil) rfl)) (t_sq (p1 := 701) (Γ' := [(0, 2), (1, 2), (2, 2), (3, 2), (4, 2), (5, 2), (6, 2), (7, 2), (8, 2), (9, 2), (10, 0)]) (t_do (x_call (ts := [(0, 2), (1, 2)]) kL_rest mokL_rest w5_84 rfl rfl rfl (a_R (ts := [(0, 2)]) 1 (a_R (ts := []) 0 a_nil (s_aload_n dL_port__696 rfl rfl) rfl) (s_aload_n dL_port__697 rfl rfl) rfl) dL_port__698 w5_83) rfl) (t_ret (cv := cvI) (fun _ _ => rfl) (s_B (pT := 732) (pF := 736) (pe := 737) (c_eq_F (pF := 736) (s_of_xI (x_callV (ts := [(0, 2)]) ck11 rfl kX11_port mokX11_port w5_87 w5_88 rfl rfl rfl rfl (a_R (ts := []) 0 a_nil (s_aload_n dL_port__701 rfl rfl) rfl) dL_port__702 w5_86)) (s_iadd (s_iadd (s_iadd (s_iadd (s_iadd (s_iconst dL_port__705 rfl) (s_dAI (s_aload dL_port__706 rfl) (s_iconst dL_port__708 rfl) dL_port__709) dL_port__710) (s_iload dL_port__711 rfl) dL_port__713) (s_dAI (s_aload dL_port__714 rfl) (s_iconst dL_port__716 rfl) dL_port__717) dL_port__718) (s_dAI (s_aload dL_port__719 rfl) (s_iconst dL_port__721 rfl) dL_port__722) dL_port__723) (s_dAI (s_aload dL_port__724 rfl) (s_iconst dL_port__726 rfl) dL_port__727) dL_port__728) dL_port__729 rfl) dL_port__732 dL_port__733 rfl dL_port__736 rfl) dL_port__737))))))))))))))))
noncomputable def DL_port_ : Fr → St → Option (Int32 × St) := MZ (fun f => (sR (sR (sR (sR (sR (sR (sR (sR (sR (sR fr0 0 (gR f 0)) 1 (gR f 1)) 2 (gR f 2)) 3 (gR f 3)) 4 (gR f 4)) 5 (gR f 5)) 6 (gR f 6)) 7 (gR f 7)) 8 (gR f 8)) 9 (gR f 9))) BL_port_
theorem kL_port_ : SND yL_port_ cL_port_ 15 (some .boolean) 11 [(0, 2), (1, 2), (2, 2), (3, 2), (4, 2), (5, 2), (6, 2), (7, 2), (8, 2), (9, 2)] cvoI DL_port_ := snd_Z (nw := 10) (by decide) rfl rfl (fun _ _ => rfl) sBL_port_
theorem dL_most_0 : decode cL_most 0 = .ok (.iload_n 0, 1) := by decide +kernel
theorem dL_most_1 : decode cL_most 1 = .ok (.iload_n 1, 1) := by decide +kernel
theorem dL_most_2 : decode cL_most 2 = .ok (.if_icmp .le 7, 3) := by decide +kernel
theorem dL_most_5 : decode cL_most 5 = .ok (.iload_n 0, 1) := by decide +kernel
theorem dL_most_6 : decode cL_most 6 = .ok (.goto 4, 3) := by decide +kernel
theorem dL_most_9 : decode cL_most 9 = .ok (.iload_n 1, 1) := by decide +kernel
theorem dL_most_10 : decode cL_most 10 = .ok (.ireturn, 1) := by decide +kernel
theorem mokL_most : MOK yL_most cL_most 2 (some .int) 2 := ⟨w5_1, w1_0, ⟨by decide, by decide⟩, by decide +kernel, by decide⟩
abbrev miL_most : MI := (yL_most.cls, cL_most, 2, 1, false)
noncomputable def BL_most : Sm Int32 := (dRet (dT (dCI r_gt (vI 0) (vI 1)) (vI 0) (vI 1)))
theorem sBL_most : SS (cvoI, .ireturn) miL_most [] [] [] [(0, 0), (1, 0)] [(0, 0), (1, 0)] 0 [] BL_most := (t_ret (cv := cvI) (fun _ _ => rfl) (s_T (pT := 5) (pF := 9) (p1 := 6) (pe := 10) (c_gt_F (pF := 9) (s_iload_n dL_most_0 rfl rfl) (s_iload_n dL_most_1 rfl rfl) dL_most_2 rfl) (s_iload_n dL_most_5 rfl rfl) (s_iload_n dL_most_9 rfl rfl) (ld_goto (y := 10) dL_most_6 rfl (ld_in rfl))) dL_most_10)
noncomputable def DL_most : Fr → St → Option (Int32 × St) := M1 (fun f => (sI (sI fr0 0 (gI f 0)) 1 (gI f 1))) BL_most
theorem kL_most : SND yL_most cL_most 2 (some .int) 1 [(0, 0), (1, 0)] cvoI DL_most := snd_I (nw := 2) (by decide) rfl rfl (fun _ _ => rfl) sBL_most
theorem dL_size_0 : decode cL_size 0 = .ok (.iconst 0, 1) := by decide +kernel
theorem dL_size_1 : decode cL_size 1 = .ok (.istore_n 1, 1) := by decide +kernel
theorem dL_size_2 : decode cL_size 2 = .ok (.iload_n 0, 1) := by decide +kernel
theorem dL_size_3 : decode cL_size 3 = .ok (.istore_n 2, 1) := by decide +kernel
theorem dL_size_4 : decode cL_size 4 = .ok (.iload_n 2, 1) := by decide +kernel
theorem dL_size_5 : decode cL_size 5 = .ok (.ifCond .eq 15, 3) := by decide +kernel
theorem dL_size_8 : decode cL_size 8 = .ok (.iinc 1 1, 3) := by decide +kernel
theorem dL_size_11 : decode cL_size 11 = .ok (.iload_n 2, 1) := by decide +kernel
theorem dL_size_12 : decode cL_size 12 = .ok (.iload_n 2, 1) := by decide +kernel
theorem dL_size_13 : decode cL_size 13 = .ok (.iconst 1, 1) := by decide +kernel
theorem dL_size_14 : decode cL_size 14 = .ok (.isub, 1) := by decide +kernel
theorem dL_size_15 : decode cL_size 15 = .ok (.iand, 1) := by decide +kernel
theorem dL_size_16 : decode cL_size 16 = .ok (.istore_n 2, 1) := by decide +kernel
theorem dL_size_17 : decode cL_size 17 = .ok (.goto (-13), 3) := by decide +kernel
theorem dL_size_20 : decode cL_size 20 = .ok (.iload_n 1, 1) := by decide +kernel
theorem dL_size_21 : decode cL_size 21 = .ok (.ireturn, 1) := by decide +kernel
theorem mokL_size : MOK yL_size cL_size 3 (some .int) 1 := ⟨w4_229, w1_0, ⟨by decide, by decide⟩, by decide +kernel, by decide⟩
abbrev miL_size : MI := (yL_size.cls, cL_size, 3, 1, false)
noncomputable def LL_size_1 : Sm Int32 := dLoop (fun f => (sI (sI (sI fr0 0 (gI f 0)) 1 (gI f 1)) 2 (gI f 2))) (dCZ q_ne (vI 2)) (dInc 1 1) (dSetI 2 (d2 o_iand (vI 2) (d2 o_isub (vI 2) (cI 1))))
theorem sLL_size_1 {ΓL : Gm} {PB PK : List Nat} : SS (cvoI, .ireturn) miL_size ΓL PB PK [(0, 0), (1, 0), (2, 0)] [(0, 0), (1, 0), (2, 0)] 4 [20] LL_size_1 := t_loop (pT := 8) (pF := 20) (pu := 11) (PB' := []) (PK' := []) (XB := [11]) (XU := [17]) (fun _ _ => rfl) rfl (c_ne_ZF (pF := 20) (s_iload_n dL_size_4 rfl rfl) dL_size_5 rfl) (t_iinc dL_size_8 rfl rfl rfl rfl) (t_istore_n (s_iand (s_iload_n dL_size_11 rfl rfl) (s_isub (s_iload_n dL_size_12 rfl rfl) (s_iconst dL_size_13 rfl) dL_size_14) dL_size_15) dL_size_16 rfl rfl rfl) (lda_cons (ld_in rfl) lda_nil) lda_nil (lda_cons (ld_goto (y := 4) dL_size_17 rfl (ld_in rfl)) lda_nil) (ld_in rfl) lda_nil
noncomputable def BL_size : Sm Int32 := (dSeq (dSetI 1 (cI 0)) (dSeq (dSeq (dSetI 2 (vI 0)) LL_size_1) (dRet (vI 1))))
theorem sBL_size : SS (cvoI, .ireturn) miL_size [] [] [] [(0, 0)] [(0, 0)] 0 [] BL_size := (t_sq (p1 := 2) (Γ' := [(0, 0), (1, 0)]) (t_istore_n (s_iconst dL_size_0 rfl) dL_size_1 rfl rfl rfl) (t_sq (p1 := 20) (Γ' := [(0, 0), (1, 0)]) (t_sq (p1 := 4) (Γ' := [(0, 0), (1, 0), (2, 0)]) (t_istore_n (s_iload_n dL_size_2 rfl rfl) dL_size_3 rfl rfl rfl) (tn_to (Γ' := [(0, 0), (1, 0), (2, 0)]) (XA := [20]) sLL_size_1 (lda_cons (ld_in rfl) lda_nil) rfl)) (t_ret (cv := cvI) (fun _ _ => rfl) (s_iload_n dL_size_20 rfl rfl) dL_size_21)))
noncomputable def DL_size : Fr → St → Option (Int32 × St) := M1 (fun f => (sI fr0 0 (gI f 0))) BL_size
theorem kL_size : SND yL_size cL_size 3 (some .int) 1 [(0, 0)] cvoI DL_size := snd_I (nw := 1) (by decide) rfl rfl (fun _ _ => rfl) sBL_size
theorem dL_heavy_0 : decode cL_heavy 0 = .ok (.iconst 0, 1) := by decide +kernel
theorem dL_heavy_1 : decode cL_heavy 1 = .ok (.istore_n 3, 1) := by decide +kernel
theorem dL_heavy_2 : decode cL_heavy 2 = .ok (.iconst 0, 1) := by decide +kernel
theorem dL_heavy_3 : decode cL_heavy 3 = .ok (.istore 4, 2) := by decide +kernel
theorem dL_heavy_5 : decode cL_heavy 5 = .ok (.iload 4, 2) := by decide +kernel
theorem dL_heavy_7 : decode cL_heavy 7 = .ok (.aload_n 0, 1) := by decide +kernel
theorem dL_heavy_8 : decode cL_heavy 8 = .ok (.bipush 7, 2) := by decide +kernel
theorem dL_heavy_10 : decode cL_heavy 10 = .ok (.iload_n 1, 1) := by decide +kernel
theorem dL_heavy_11 : decode cL_heavy 11 = .ok (.imul, 1) := by decide +kernel
theorem dL_heavy_12 : decode cL_heavy 12 = .ok (.iaload, 1) := by decide +kernel
theorem dL_heavy_13 : decode cL_heavy 13 = .ok (.if_icmp .ge 37, 3) := by decide +kernel
theorem dL_heavy_16 : decode cL_heavy 16 = .ok (.iload_n 3, 1) := by decide +kernel
theorem dL_heavy_17 : decode cL_heavy 17 = .ok (.iload_n 2, 1) := by decide +kernel
theorem dL_heavy_18 : decode cL_heavy 18 = .ok (.iload 4, 2) := by decide +kernel
theorem dL_heavy_20 : decode cL_heavy 20 = .ok (.ishr, 1) := by decide +kernel
theorem dL_heavy_21 : decode cL_heavy 21 = .ok (.iconst 1, 1) := by decide +kernel
theorem dL_heavy_22 : decode cL_heavy 22 = .ok (.iand, 1) := by decide +kernel
theorem dL_heavy_23 : decode cL_heavy 23 = .ok (.iconst 1, 1) := by decide +kernel
theorem dL_heavy_24 : decode cL_heavy 24 = .ok (.if_icmp .ne 17, 3) := by decide +kernel
theorem dL_heavy_27 : decode cL_heavy 27 = .ok (.aload_n 0, 1) := by decide +kernel
theorem dL_heavy_28 : decode cL_heavy 28 = .ok (.bipush 7, 2) := by decide +kernel
theorem dL_heavy_30 : decode cL_heavy 30 = .ok (.iload_n 1, 1) := by decide +kernel
theorem dL_heavy_31 : decode cL_heavy 31 = .ok (.imul, 1) := by decide +kernel
theorem dL_heavy_32 : decode cL_heavy 32 = .ok (.iconst 1, 1) := by decide +kernel
theorem dL_heavy_33 : decode cL_heavy 33 = .ok (.iadd, 1) := by decide +kernel
theorem dL_heavy_34 : decode cL_heavy 34 = .ok (.iload 4, 2) := by decide +kernel
theorem dL_heavy_36 : decode cL_heavy 36 = .ok (.iadd, 1) := by decide +kernel
theorem dL_heavy_37 : decode cL_heavy 37 = .ok (.iaload, 1) := by decide +kernel
theorem dL_heavy_38 : decode cL_heavy 38 = .ok (.goto 4, 3) := by decide +kernel
theorem dL_heavy_41 : decode cL_heavy 41 = .ok (.iconst 0, 1) := by decide +kernel
theorem dL_heavy_42 : decode cL_heavy 42 = .ok (.iadd, 1) := by decide +kernel
theorem dL_heavy_43 : decode cL_heavy 43 = .ok (.istore_n 3, 1) := by decide +kernel
theorem dL_heavy_44 : decode cL_heavy 44 = .ok (.iinc 4 1, 3) := by decide +kernel
theorem dL_heavy_47 : decode cL_heavy 47 = .ok (.goto (-42), 3) := by decide +kernel
theorem dL_heavy_50 : decode cL_heavy 50 = .ok (.iload_n 3, 1) := by decide +kernel
theorem dL_heavy_51 : decode cL_heavy 51 = .ok (.ireturn, 1) := by decide +kernel
theorem mokL_heavy : MOK yL_heavy cL_heavy 5 (some .int) 3 := ⟨w4_238, w1_0, ⟨by decide, by decide⟩, by decide +kernel, by decide⟩
abbrev miL_heavy : MI := (yL_heavy.cls, cL_heavy, 5, 1, false)
noncomputable def LL_heavy_1 : Sm Int32 := dLoop (fun f => (sI (sI (sI (sI (sR fr0 0 (gR f 0)) 1 (gI f 1)) 2 (gI f 2)) 3 (gI f 3)) 4 (gI f 4))) (dCI r_lt (vI 4) (dAI (vR 0) (d2 o_imul (cI 7) (vI 1)))) (dSetI 3 (d2 o_iadd (vI 3) (dT (dCI r_eq (d2 o_iand (d2 o_ishr (vI 2) (vI 4)) (cI 1)) (cI 1)) (dAI (vR 0) (d2 o_iadd (d2 o_iadd (d2 o_imul (cI 7) (vI 1)) (cI 1)) (vI 4))) (cI 0)))) (dInc 4 1)
theorem sLL_heavy_1 {ΓL : Gm} {PB PK : List Nat} : SS (cvoI, .ireturn) miL_heavy ΓL PB PK [(0, 2), (1, 0), (2, 0), (3, 0), (4, 0)] [(0, 2), (1, 0), (2, 0), (3, 0), (4, 0)] 5 [50] LL_heavy_1 := t_loop (pT := 16) (pF := 50) (pu := 44) (PB' := []) (PK' := []) (XB := [44]) (XU := [47]) (fun _ _ => rfl) rfl (c_lt_F (pF := 50) (s_iload dL_heavy_5 rfl) (s_dAI (s_aload_n dL_heavy_7 rfl rfl) (s_imul (s_bipush dL_heavy_8 rfl) (s_iload_n dL_heavy_10 rfl rfl) dL_heavy_11) dL_heavy_12) dL_heavy_13 rfl) (t_istore_n (s_iadd (s_iload_n dL_heavy_16 rfl rfl) (s_T (pT := 27) (pF := 41) (p1 := 38) (pe := 42) (c_eq_F (pF := 41) (s_iand (s_ishr (s_iload_n dL_heavy_17 rfl rfl) (s_iload dL_heavy_18 rfl) dL_heavy_20) (s_iconst dL_heavy_21 rfl) dL_heavy_22) (s_iconst dL_heavy_23 rfl) dL_heavy_24 rfl) (s_dAI (s_aload_n dL_heavy_27 rfl rfl) (s_iadd (s_iadd (s_imul (s_bipush dL_heavy_28 rfl) (s_iload_n dL_heavy_30 rfl rfl) dL_heavy_31) (s_iconst dL_heavy_32 rfl) dL_heavy_33) (s_iload dL_heavy_34 rfl) dL_heavy_36) dL_heavy_37) (s_iconst dL_heavy_41 rfl) (ld_goto (y := 42) dL_heavy_38 rfl (ld_in rfl))) dL_heavy_42) dL_heavy_43 rfl rfl rfl) (t_iinc dL_heavy_44 rfl rfl rfl rfl) (lda_cons (ld_in rfl) lda_nil) lda_nil (lda_cons (ld_goto (y := 5) dL_heavy_47 rfl (ld_in rfl)) lda_nil) (ld_in rfl) lda_nil
noncomputable def BL_heavy : Sm Int32 := (dSeq (dSetI 3 (cI 0)) (dSeq (dSeq (dSetI 4 (cI 0)) LL_heavy_1) (dRet (vI 3))))
theorem sBL_heavy : SS (cvoI, .ireturn) miL_heavy [] [] [] [(0, 2), (1, 0), (2, 0)] [(0, 2), (1, 0), (2, 0)] 0 [] BL_heavy := (t_sq (p1 := 2) (Γ' := [(0, 2), (1, 0), (2, 0), (3, 0)]) (t_istore_n (s_iconst dL_heavy_0 rfl) dL_heavy_1 rfl rfl rfl) (t_sq (p1 := 50) (Γ' := [(0, 2), (1, 0), (2, 0), (3, 0)]) (t_sq (p1 := 5) (Γ' := [(0, 2), (1, 0), (2, 0), (3, 0), (4, 0)]) (t_istore (s_iconst dL_heavy_2 rfl) dL_heavy_3 rfl rfl) (tn_to (Γ' := [(0, 2), (1, 0), (2, 0), (3, 0), (4, 0)]) (XA := [50]) sLL_heavy_1 (lda_cons (ld_in rfl) lda_nil) rfl)) (t_ret (cv := cvI) (fun _ _ => rfl) (s_iload_n dL_heavy_50 rfl rfl) dL_heavy_51)))
noncomputable def DL_heavy : Fr → St → Option (Int32 × St) := M1 (fun f => (sI (sI (sR fr0 0 (gR f 0)) 1 (gI f 1)) 2 (gI f 2))) BL_heavy
theorem kL_heavy : SND yL_heavy cL_heavy 5 (some .int) 1 [(0, 2), (1, 0), (2, 0)] cvoI DL_heavy := snd_I (nw := 3) (by decide) rfl rfl (fun _ _ => rfl) sBL_heavy
theorem dL_rub_0 : decode cL_rub 0 = .ok (.iload_n 2, 1) := by decide +kernel
theorem dL_rub_1 : decode cL_rub 1 = .ok (.ifCond .eq 7, 3) := by decide +kernel
theorem dL_rub_4 : decode cL_rub 4 = .ok (.iload_n 3, 1) := by decide +kernel
theorem dL_rub_5 : decode cL_rub 5 = .ok (.ifCond .ne 5, 3) := by decide +kernel
theorem dL_rub_8 : decode cL_rub 8 = .ok (.iload_n 2, 1) := by decide +kernel
theorem dL_rub_9 : decode cL_rub 9 = .ok (.ireturn, 1) := by decide +kernel
theorem dL_rub_10 : decode cL_rub 10 = .ok (.iload_n 2, 1) := by decide +kernel
theorem dL_rub_11 : decode cL_rub 11 = .ok (.iload_n 2, 1) := by decide +kernel
theorem dL_rub_12 : decode cL_rub 12 = .ok (.ineg, 1) := by decide +kernel
theorem dL_rub_13 : decode cL_rub 13 = .ok (.iand, 1) := by decide +kernel
theorem dL_rub_14 : decode cL_rub 14 = .ok (.istore 4, 2) := by decide +kernel
theorem dL_rub_16 : decode cL_rub 16 = .ok (.iconst 0, 1) := by decide +kernel
theorem dL_rub_17 : decode cL_rub 17 = .ok (.istore 5, 2) := by decide +kernel
theorem dL_rub_19 : decode cL_rub 19 = .ok (.iload 5, 2) := by decide +kernel
theorem dL_rub_21 : decode cL_rub 21 = .ok (.aload_n 0, 1) := by decide +kernel
theorem dL_rub_22 : decode cL_rub 22 = .ok (.bipush 7, 2) := by decide +kernel
theorem dL_rub_24 : decode cL_rub 24 = .ok (.iload_n 1, 1) := by decide +kernel
theorem dL_rub_25 : decode cL_rub 25 = .ok (.imul, 1) := by decide +kernel
theorem dL_rub_26 : decode cL_rub 26 = .ok (.iaload, 1) := by decide +kernel
theorem dL_rub_27 : decode cL_rub 27 = .ok (.if_icmp .ge 85, 3) := by decide +kernel
theorem dL_rub_30 : decode cL_rub 30 = .ok (.iload_n 2, 1) := by decide +kernel
theorem dL_rub_31 : decode cL_rub 31 = .ok (.iload 5, 2) := by decide +kernel
theorem dL_rub_33 : decode cL_rub 33 = .ok (.ishr, 1) := by decide +kernel
theorem dL_rub_34 : decode cL_rub 34 = .ok (.iconst 1, 1) := by decide +kernel
theorem dL_rub_35 : decode cL_rub 35 = .ok (.iand, 1) := by decide +kernel
theorem dL_rub_36 : decode cL_rub 36 = .ok (.ifCond .ne 6, 3) := by decide +kernel
theorem dL_rub_39 : decode cL_rub 39 = .ok (.goto 67, 3) := by decide +kernel
theorem dL_rub_42 : decode cL_rub 42 = .ok (.iconst 0, 1) := by decide +kernel
theorem dL_rub_43 : decode cL_rub 43 = .ok (.istore 6, 2) := by decide +kernel
theorem dL_rub_45 : decode cL_rub 45 = .ok (.iload 4, 2) := by decide +kernel
theorem dL_rub_47 : decode cL_rub 47 = .ok (.iload 6, 2) := by decide +kernel
theorem dL_rub_49 : decode cL_rub 49 = .ok (.ishr, 1) := by decide +kernel
theorem dL_rub_50 : decode cL_rub 50 = .ok (.iconst 1, 1) := by decide +kernel
theorem dL_rub_51 : decode cL_rub 51 = .ok (.if_icmp .eq 9, 3) := by decide +kernel
theorem dL_rub_54 : decode cL_rub 54 = .ok (.iinc 6 1, 3) := by decide +kernel
theorem dL_rub_57 : decode cL_rub 57 = .ok (.goto (-12), 3) := by decide +kernel
theorem dL_rub_60 : decode cL_rub 60 = .ok (.iload_n 3, 1) := by decide +kernel
theorem dL_rub_61 : decode cL_rub 61 = .ok (.iconst 3, 1) := by decide +kernel
theorem dL_rub_62 : decode cL_rub 62 = .ok (.if_icmp .eq 33, 3) := by decide +kernel
theorem dL_rub_65 : decode cL_rub 65 = .ok (.iload_n 3, 1) := by decide +kernel
theorem dL_rub_66 : decode cL_rub 66 = .ok (.iconst 2, 1) := by decide +kernel
theorem dL_rub_67 : decode cL_rub 67 = .ok (.if_icmp .ne 35, 3) := by decide +kernel
theorem dL_rub_70 : decode cL_rub 70 = .ok (.aload_n 0, 1) := by decide +kernel
theorem dL_rub_71 : decode cL_rub 71 = .ok (.bipush 7, 2) := by decide +kernel
theorem dL_rub_73 : decode cL_rub 73 = .ok (.iload_n 1, 1) := by decide +kernel
theorem dL_rub_74 : decode cL_rub 74 = .ok (.imul, 1) := by decide +kernel
theorem dL_rub_75 : decode cL_rub 75 = .ok (.iconst 1, 1) := by decide +kernel
theorem dL_rub_76 : decode cL_rub 76 = .ok (.iadd, 1) := by decide +kernel
theorem dL_rub_77 : decode cL_rub 77 = .ok (.iload 5, 2) := by decide +kernel
theorem dL_rub_79 : decode cL_rub 79 = .ok (.iadd, 1) := by decide +kernel
theorem dL_rub_80 : decode cL_rub 80 = .ok (.iaload, 1) := by decide +kernel
theorem dL_rub_81 : decode cL_rub 81 = .ok (.aload_n 0, 1) := by decide +kernel
theorem dL_rub_82 : decode cL_rub 82 = .ok (.bipush 7, 2) := by decide +kernel
theorem dL_rub_84 : decode cL_rub 84 = .ok (.iload_n 1, 1) := by decide +kernel
theorem dL_rub_85 : decode cL_rub 85 = .ok (.imul, 1) := by decide +kernel
theorem dL_rub_86 : decode cL_rub 86 = .ok (.iconst 1, 1) := by decide +kernel
theorem dL_rub_87 : decode cL_rub 87 = .ok (.iadd, 1) := by decide +kernel
theorem dL_rub_88 : decode cL_rub 88 = .ok (.iload 6, 2) := by decide +kernel
theorem dL_rub_90 : decode cL_rub 90 = .ok (.iadd, 1) := by decide +kernel
theorem dL_rub_91 : decode cL_rub 91 = .ok (.iaload, 1) := by decide +kernel
theorem dL_rub_92 : decode cL_rub 92 = .ok (.if_icmp .le 10, 3) := by decide +kernel
theorem dL_rub_95 : decode cL_rub 95 = .ok (.iconst 1, 1) := by decide +kernel
theorem dL_rub_96 : decode cL_rub 96 = .ok (.iload 5, 2) := by decide +kernel
theorem dL_rub_98 : decode cL_rub 98 = .ok (.ishl, 1) := by decide +kernel
theorem dL_rub_99 : decode cL_rub 99 = .ok (.goto 5, 3) := by decide +kernel
theorem dL_rub_102 : decode cL_rub 102 = .ok (.iload 4, 2) := by decide +kernel
theorem dL_rub_104 : decode cL_rub 104 = .ok (.istore 4, 2) := by decide +kernel
theorem dL_rub_106 : decode cL_rub 106 = .ok (.iinc 5 1, 3) := by decide +kernel
theorem dL_rub_109 : decode cL_rub 109 = .ok (.goto (-90), 3) := by decide +kernel
theorem dL_rub_112 : decode cL_rub 112 = .ok (.iload_n 2, 1) := by decide +kernel
theorem dL_rub_113 : decode cL_rub 113 = .ok (.iload 4, 2) := by decide +kernel
theorem dL_rub_115 : decode cL_rub 115 = .ok (.iconst (-1), 1) := by decide +kernel
theorem dL_rub_116 : decode cL_rub 116 = .ok (.ixor, 1) := by decide +kernel
theorem dL_rub_117 : decode cL_rub 117 = .ok (.iand, 1) := by decide +kernel
theorem dL_rub_118 : decode cL_rub 118 = .ok (.ireturn, 1) := by decide +kernel
theorem mokL_rub : MOK yL_rub cL_rub 7 (some .int) 4 := ⟨w5_4, w1_0, ⟨by decide, by decide⟩, by decide +kernel, by decide⟩
abbrev miL_rub : MI := (yL_rub.cls, cL_rub, 7, 1, false)
noncomputable def LL_rub_1 : Sm Int32 := dLoop (fun f => (sI (sI (sI (sI (sI (sI (sR fr0 0 (gR f 0)) 1 (gI f 1)) 2 (gI f 2)) 3 (gI f 3)) 4 (gI f 4)) 5 (gI f 5)) 6 (gI f 6))) (dCI r_ne (d2 o_ishr (vI 4) (vI 6)) (cI 1)) (dInc 6 1) dSkip
theorem sLL_rub_1 {ΓL : Gm} {PB PK : List Nat} : SS (cvoI, .ireturn) miL_rub ΓL PB PK [(0, 2), (1, 0), (2, 0), (3, 0), (4, 0), (5, 0), (6, 0)] [(0, 2), (1, 0), (2, 0), (3, 0), (4, 0), (5, 0), (6, 0)] 45 [60] LL_rub_1 := t_loop (pT := 54) (pF := 60) (pu := 45) (PB' := []) (PK' := []) (XB := [57]) (XU := [45]) (fun _ _ => rfl) rfl (c_ne_F (pF := 60) (s_ishr (s_iload dL_rub_45 rfl) (s_iload dL_rub_47 rfl) dL_rub_49) (s_iconst dL_rub_50 rfl) dL_rub_51 rfl) (t_iinc dL_rub_54 rfl rfl rfl rfl) (t_skip (ld_in rfl) rfl) (lda_cons (ld_goto (y := 45) dL_rub_57 rfl (ld_in rfl)) lda_nil) lda_nil (lda_cons (ld_in rfl) lda_nil) (ld_in rfl) lda_nil
noncomputable def LL_rub_2 : Sm Int32 := dLoop (fun f => (sI (sI (sI (sI (sI (sR fr0 0 (gR f 0)) 1 (gI f 1)) 2 (gI f 2)) 3 (gI f 3)) 4 (gI f 4)) 5 (gI f 5))) (dCI r_lt (vI 5) (dAI (vR 0) (d2 o_imul (cI 7) (vI 1)))) (dSeq (dIf (dCZ q_eq (d2 o_iand (d2 o_ishr (vI 2) (vI 5)) (cI 1))) dCnt dSkip) (dSeq (dSetI 6 (cI 0)) (dSeq LL_rub_1 (dSetI 4 (dT (dOr (dCI r_eq (vI 3) (cI 3)) (dAnd (dCI r_eq (vI 3) (cI 2)) (dCI r_gt (dAI (vR 0) (d2 o_iadd (d2 o_iadd (d2 o_imul (cI 7) (vI 1)) (cI 1)) (vI 5))) (dAI (vR 0) (d2 o_iadd (d2 o_iadd (d2 o_imul (cI 7) (vI 1)) (cI 1)) (vI 6)))))) (d2 o_ishl (cI 1) (vI 5)) (vI 4)))))) (dInc 5 1)
theorem sLL_rub_2 {ΓL : Gm} {PB PK : List Nat} : SS (cvoI, .ireturn) miL_rub ΓL PB PK [(0, 2), (1, 0), (2, 0), (3, 0), (4, 0), (5, 0)] [(0, 2), (1, 0), (2, 0), (3, 0), (4, 0), (5, 0)] 19 [112] LL_rub_2 := t_loop (pT := 30) (pF := 112) (pu := 106) (PB' := []) (PK' := [106]) (XB := [106]) (XU := [109]) (fun _ _ => rfl) rfl (c_lt_F (pF := 112) (s_iload dL_rub_19 rfl) (s_dAI (s_aload_n dL_rub_21 rfl rfl) (s_imul (s_bipush dL_rub_22 rfl) (s_iload_n dL_rub_24 rfl rfl) dL_rub_25) dL_rub_26) dL_rub_27 rfl) (t_sq (p1 := 42) (Γ' := [(0, 2), (1, 0), (2, 0), (3, 0), (4, 0), (5, 0)]) (t_if (pT := 39) (pF := 42) (X := [42]) (XA := []) (XB := [42]) (c_eq_ZF (pF := 42) (s_iand (s_ishr (s_iload_n dL_rub_30 rfl rfl) (s_iload dL_rub_31 rfl) dL_rub_33) (s_iconst dL_rub_34 rfl) dL_rub_35) dL_rub_36 rfl) (t_cnt (ld_goto (y := 106) dL_rub_39 rfl (ld_in rfl)) rfl) (t_skip (ld_in rfl) rfl) lda_nil (lda_cons (ld_in rfl) lda_nil)) (t_sq (p1 := 45) (Γ' := [(0, 2), (1, 0), (2, 0), (3, 0), (4, 0), (5, 0), (6, 0)]) (t_istore (s_iconst dL_rub_42 rfl) dL_rub_43 rfl rfl) (t_sq (p1 := 60) (Γ' := [(0, 2), (1, 0), (2, 0), (3, 0), (4, 0), (5, 0), (6, 0)]) (tn_to (Γ' := [(0, 2), (1, 0), (2, 0), (3, 0), (4, 0), (5, 0), (6, 0)]) (XA := [60]) sLL_rub_1 (lda_cons (ld_in rfl) lda_nil) rfl) (t_istore (s_T (pT := 95) (pF := 102) (p1 := 99) (pe := 104) (c_or (p1 := 65) (pT := 95) (pF := 102) (c_eq_J (pT := 95) (s_iload_n dL_rub_60 rfl rfl) (s_iconst dL_rub_61 rfl) dL_rub_62 rfl) (c_and (p1 := 70) (pT := 95) (pF := 102) (c_eq_F (pF := 102) (s_iload_n dL_rub_65 rfl rfl) (s_iconst dL_rub_66 rfl) dL_rub_67 rfl) (c_gt_F (pF := 102) (s_dAI (s_aload_n dL_rub_70 rfl rfl) (s_iadd (s_iadd (s_imul (s_bipush dL_rub_71 rfl) (s_iload_n dL_rub_73 rfl rfl) dL_rub_74) (s_iconst dL_rub_75 rfl) dL_rub_76) (s_iload dL_rub_77 rfl) dL_rub_79) dL_rub_80) (s_dAI (s_aload_n dL_rub_81 rfl rfl) (s_iadd (s_iadd (s_imul (s_bipush dL_rub_82 rfl) (s_iload_n dL_rub_84 rfl rfl) dL_rub_85) (s_iconst dL_rub_86 rfl) dL_rub_87) (s_iload dL_rub_88 rfl) dL_rub_90) dL_rub_91) dL_rub_92 rfl))) (s_ishl (s_iconst dL_rub_95 rfl) (s_iload dL_rub_96 rfl) dL_rub_98) (s_iload dL_rub_102 rfl) (ld_goto (y := 104) dL_rub_99 rfl (ld_in rfl))) dL_rub_104 rfl rfl)))) (t_iinc dL_rub_106 rfl rfl rfl rfl) (lda_cons (ld_in rfl) lda_nil) (lda_cons (ld_in rfl) lda_nil) (lda_cons (ld_goto (y := 19) dL_rub_109 rfl (ld_in rfl)) lda_nil) (ld_in rfl) lda_nil
noncomputable def BL_rub : Sm Int32 := (dSeq (dIf (dOr (dCZ q_eq (vI 2)) (dCZ q_eq (vI 3))) (dRet (vI 2)) dSkip) (dSeq (dSetI 4 (d2 o_iand (vI 2) (d1 o_ineg (vI 2)))) (dSeq (dSeq (dSetI 5 (cI 0)) LL_rub_2) (dRet (d2 o_iand (vI 2) (d2 o_ixor (vI 4) (cI (-1))))))))
theorem sBL_rub : SS (cvoI, .ireturn) miL_rub [] [] [] [(0, 2), (1, 0), (2, 0), (3, 0)] [(0, 2), (1, 0), (2, 0), (3, 0)] 0 [] BL_rub := (t_sq (p1 := 10) (Γ' := [(0, 2), (1, 0), (2, 0), (3, 0)]) (t_if (pT := 8) (pF := 10) (X := [10]) (XA := []) (XB := [10]) (c_or (p1 := 4) (pT := 8) (pF := 10) (c_eq_ZJ (pT := 8) (s_iload_n dL_rub_0 rfl rfl) dL_rub_1 rfl) (c_eq_ZF (pF := 10) (s_iload_n dL_rub_4 rfl rfl) dL_rub_5 rfl)) (t_ret (cv := cvI) (fun _ _ => rfl) (s_iload_n dL_rub_8 rfl rfl) dL_rub_9) (t_skip (ld_in rfl) rfl) lda_nil (lda_cons (ld_in rfl) lda_nil)) (t_sq (p1 := 16) (Γ' := [(0, 2), (1, 0), (2, 0), (3, 0), (4, 0)]) (t_istore (s_iand (s_iload_n dL_rub_10 rfl rfl) (s_ineg (s_iload_n dL_rub_11 rfl rfl) dL_rub_12) dL_rub_13) dL_rub_14 rfl rfl) (t_sq (p1 := 112) (Γ' := [(0, 2), (1, 0), (2, 0), (3, 0), (4, 0)]) (t_sq (p1 := 19) (Γ' := [(0, 2), (1, 0), (2, 0), (3, 0), (4, 0), (5, 0)]) (t_istore (s_iconst dL_rub_16 rfl) dL_rub_17 rfl rfl) (tn_to (Γ' := [(0, 2), (1, 0), (2, 0), (3, 0), (4, 0), (5, 0)]) (XA := [112]) sLL_rub_2 (lda_cons (ld_in rfl) lda_nil) rfl)) (t_ret (cv := cvI) (fun _ _ => rfl) (s_iand (s_iload_n dL_rub_112 rfl rfl) (s_ixor (s_iload dL_rub_113 rfl) (s_iconst dL_rub_115 rfl) dL_rub_116) dL_rub_117) dL_rub_118))))
noncomputable def DL_rub : Fr → St → Option (Int32 × St) := M1 (fun f => (sI (sI (sI (sR fr0 0 (gR f 0)) 1 (gI f 1)) 2 (gI f 2)) 3 (gI f 3))) BL_rub
theorem kL_rub : SND yL_rub cL_rub 7 (some .int) 1 [(0, 2), (1, 0), (2, 0), (3, 0)] cvoI DL_rub := snd_I (nw := 4) (by decide) rfl rfl (fun _ _ => rfl) sBL_rub
theorem dL_door_0 : decode cL_door 0 = .ok (.aload_n 0, 1) := by decide +kernel
theorem dL_door_1 : decode cL_door 1 = .ok (.bipush 8, 2) := by decide +kernel
theorem dL_door_3 : decode cL_door 3 = .ok (.iload_n 1, 1) := by decide +kernel
theorem dL_door_4 : decode cL_door 4 = .ok (.iadd, 1) := by decide +kernel
theorem dL_door_5 : decode cL_door 5 = .ok (.iaload, 1) := by decide +kernel
theorem dL_door_6 : decode cL_door 6 = .ok (.iload_n 2, 1) := by decide +kernel
theorem dL_door_7 : decode cL_door 7 = .ok (.ishr, 1) := by decide +kernel
theorem dL_door_8 : decode cL_door 8 = .ok (.iconst 1, 1) := by decide +kernel
theorem dL_door_9 : decode cL_door 9 = .ok (.iand, 1) := by decide +kernel
theorem dL_door_10 : decode cL_door 10 = .ok (.iconst 1, 1) := by decide +kernel
theorem dL_door_11 : decode cL_door 11 = .ok (.if_icmp .ne 7, 3) := by decide +kernel
theorem dL_door_14 : decode cL_door 14 = .ok (.iconst 1, 1) := by decide +kernel
theorem dL_door_15 : decode cL_door 15 = .ok (.goto 4, 3) := by decide +kernel
theorem dL_door_18 : decode cL_door 18 = .ok (.iconst 0, 1) := by decide +kernel
theorem dL_door_19 : decode cL_door 19 = .ok (.ireturn, 1) := by decide +kernel
theorem mokL_door : MOK yL_door cL_door 3 (some .boolean) 3 := ⟨w4_235, w1_0, ⟨by decide, by decide⟩, by decide +kernel, by decide⟩
abbrev miL_door : MI := (yL_door.cls, cL_door, 3, 1, false)
noncomputable def BL_door : Sm Int32 := (dRet (dB (dCI r_eq (d2 o_iand (d2 o_ishr (dAI (vR 0) (d2 o_iadd (cI 8) (vI 1))) (vI 2)) (cI 1)) (cI 1))))
theorem sBL_door : SS (cvoI, .ireturn) miL_door [] [] [] [(0, 2), (1, 0), (2, 0)] [(0, 2), (1, 0), (2, 0)] 0 [] BL_door := (t_ret (cv := cvI) (fun _ _ => rfl) (s_B (pT := 14) (pF := 18) (pe := 19) (c_eq_F (pF := 18) (s_iand (s_ishr (s_dAI (s_aload_n dL_door_0 rfl rfl) (s_iadd (s_bipush dL_door_1 rfl) (s_iload_n dL_door_3 rfl rfl) dL_door_4) dL_door_5) (s_iload_n dL_door_6 rfl rfl) dL_door_7) (s_iconst dL_door_8 rfl) dL_door_9) (s_iconst dL_door_10 rfl) dL_door_11 rfl) dL_door_14 dL_door_15 rfl dL_door_18 rfl) dL_door_19)
noncomputable def DL_door : Fr → St → Option (Int32 × St) := MZ (fun f => (sI (sI (sR fr0 0 (gR f 0)) 1 (gI f 1)) 2 (gI f 2))) BL_door
theorem kL_door : SND yL_door cL_door 3 (some .boolean) 1 [(0, 2), (1, 0), (2, 0)] cvoI DL_door := snd_Z (nw := 3) (by decide) rfl rfl (fun _ _ => rfl) sBL_door
