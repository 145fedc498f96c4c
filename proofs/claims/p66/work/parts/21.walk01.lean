theorem dX6_readPort_0 : decode cX6_readPort 0 = .ok (.aload_n 0, 1) := by decide +kernel
theorem dX6_readPort_1 : decode cX6_readPort 1 = .ok (.aload_n 1, 1) := by decide +kernel
theorem dX6_readPort_2 : decode cX6_readPort 2 = .ok (.ldc 109, 2) := by decide +kernel
theorem dX6_readPort_4 : decode cX6_readPort 4 = .ok (.invokevirtual 111, 3) := by decide +kernel
theorem dX6_readPort_7 : decode cX6_readPort 7 = .ok (.ifCond .ne 5, 3) := by decide +kernel
theorem dX6_readPort_10 : decode cX6_readPort 10 = .ok (.iconst 0, 1) := by decide +kernel
theorem dX6_readPort_11 : decode cX6_readPort 11 = .ok (.ireturn, 1) := by decide +kernel
theorem dX6_readPort_12 : decode cX6_readPort 12 = .ok (.aload_n 2, 1) := by decide +kernel
theorem dX6_readPort_13 : decode cX6_readPort 13 = .ok (.aload_n 0, 1) := by decide +kernel
theorem dX6_readPort_14 : decode cX6_readPort 14 = .ok (.aload_n 1, 1) := by decide +kernel
theorem dX6_readPort_15 : decode cX6_readPort 15 = .ok (.ldc 115, 2) := by decide +kernel
theorem dX6_readPort_17 : decode cX6_readPort 17 = .ok (.iconst 1, 1) := by decide +kernel
theorem dX6_readPort_18 : decode cX6_readPort 18 = .ok (.bipush 12, 2) := by decide +kernel
theorem dX6_readPort_20 : decode cX6_readPort 20 = .ok (.invokevirtual 117, 3) := by decide +kernel
theorem dX6_readPort_23 : decode cX6_readPort 23 = .ok (.putfield 121, 3) := by decide +kernel
theorem dX6_readPort_26 : decode cX6_readPort 26 = .ok (.aload_n 0, 1) := by decide +kernel
theorem dX6_readPort_27 : decode cX6_readPort 27 = .ok (.getfield 15, 3) := by decide +kernel
theorem dX6_readPort_30 : decode cX6_readPort 30 = .ok (.ifCond .ne 16, 3) := by decide +kernel
theorem dX6_readPort_33 : decode cX6_readPort 33 = .ok (.aload_n 2, 1) := by decide +kernel
theorem dX6_readPort_34 : decode cX6_readPort 34 = .ok (.aload_n 0, 1) := by decide +kernel
theorem dX6_readPort_35 : decode cX6_readPort 35 = .ok (.aload_n 1, 1) := by decide +kernel
theorem dX6_readPort_36 : decode cX6_readPort 36 = .ok (.ldc 123, 2) := by decide +kernel
theorem dX6_readPort_38 : decode cX6_readPort 38 = .ok (.iconst 0, 1) := by decide +kernel
theorem dX6_readPort_39 : decode cX6_readPort 39 = .ok (.iconst 3, 1) := by decide +kernel
theorem dX6_readPort_40 : decode cX6_readPort 40 = .ok (.invokevirtual 117, 3) := by decide +kernel
theorem dX6_readPort_43 : decode cX6_readPort 43 = .ok (.putfield 125, 3) := by decide +kernel
theorem dX6_readPort_46 : decode cX6_readPort 46 = .ok (.aload_n 0, 1) := by decide +kernel
theorem dX6_readPort_47 : decode cX6_readPort 47 = .ok (.getfield 15, 3) := by decide +kernel
theorem dX6_readPort_50 : decode cX6_readPort 50 = .ok (.ifCond .ne 17, 3) := by decide +kernel
theorem dX6_readPort_53 : decode cX6_readPort 53 = .ok (.aload_n 2, 1) := by decide +kernel
theorem dX6_readPort_54 : decode cX6_readPort 54 = .ok (.aload_n 0, 1) := by decide +kernel
theorem dX6_readPort_55 : decode cX6_readPort 55 = .ok (.aload_n 1, 1) := by decide +kernel
theorem dX6_readPort_56 : decode cX6_readPort 56 = .ok (.ldc 127, 2) := by decide +kernel
theorem dX6_readPort_58 : decode cX6_readPort 58 = .ok (.iconst 0, 1) := by decide +kernel
theorem dX6_readPort_59 : decode cX6_readPort 59 = .ok (.bipush 10, 2) := by decide +kernel
theorem dX6_readPort_61 : decode cX6_readPort 61 = .ok (.invokevirtual 117, 3) := by decide +kernel
theorem dX6_readPort_64 : decode cX6_readPort 64 = .ok (.putfield 129, 3) := by decide +kernel
theorem dX6_readPort_67 : decode cX6_readPort 67 = .ok (.aload_n 0, 1) := by decide +kernel
theorem dX6_readPort_68 : decode cX6_readPort 68 = .ok (.getfield 15, 3) := by decide +kernel
theorem dX6_readPort_71 : decode cX6_readPort 71 = .ok (.ifCond .ne 7, 3) := by decide +kernel
theorem dX6_readPort_74 : decode cX6_readPort 74 = .ok (.iconst 1, 1) := by decide +kernel
theorem dX6_readPort_75 : decode cX6_readPort 75 = .ok (.goto 4, 3) := by decide +kernel
theorem dX6_readPort_78 : decode cX6_readPort 78 = .ok (.iconst 0, 1) := by decide +kernel
theorem dX6_readPort_79 : decode cX6_readPort 79 = .ok (.ireturn, 1) := by decide +kernel
theorem mokX6_readPort : MOK yX6_readPort cX6_readPort 3 (some .boolean) 2 := ⟨w5_130, w1_3, ⟨by decide, by decide⟩, by decide +kernel, by decide⟩
abbrev miX6_readPort : MI := (yX6_readPort.cls, cX6_readPort, 3, 7, false)
noncomputable def BX6_readPort : Sm Int32 := (dSeq (dIf (dNot (dCZ q_ne (dCallV 6 DX6_readWord (aR (aR (aR aN 0 (vR 0)) 1 (vR 1)) 2 (cR 3))))) (dRet (cI 0)) dSkip) (dSeq (dP (fI 5 1) (vR 2) (dCallV 6 DX6_readAmount (aI (aI (aR (aR (aR aN 0 (vR 0)) 1 (vR 1)) 2 (cR 4)) 3 (cI 1)) 4 (cI 12)))) (dSeq (dIf (dCZ q_eq (dGI 6 0 (vR 0))) (dP (fI 5 2) (vR 2) (dCallV 6 DX6_readAmount (aI (aI (aR (aR (aR aN 0 (vR 0)) 1 (vR 1)) 2 (cR 5)) 3 (cI 0)) 4 (cI 3)))) dSkip) (dSeq (dIf (dCZ q_eq (dGI 6 0 (vR 0))) (dP (fI 5 3) (vR 2) (dCallV 6 DX6_readAmount (aI (aI (aR (aR (aR aN 0 (vR 0)) 1 (vR 1)) 2 (cR 6)) 3 (cI 0)) 4 (cI 10)))) dSkip) (dRet (dB (dCZ q_eq (dGI 6 0 (vR 0)))))))))
theorem sBX6_readPort : SS (cvoI, .ireturn) miX6_readPort [] [] [] [(0, 2), (1, 2), (2, 2)] [(0, 2), (1, 2), (2, 2)] 0 [] BX6_readPort := (t_sq (p1 := 12) (Γ' := [(0, 2), (1, 2), (2, 2)]) (t_if (pT := 10) (pF := 12) (X := [12]) (XA := []) (XB := [12]) (c_not (pT := 10) (pF := 12) (c_ne_ZJ (pT := 12) (s_of_xI (x_callV (ts := [(0, 2), (1, 2), (2, 2)]) ck6 rfl kX6_readWord mokX6_readWord w5_134 ps2_6 rfl rfl rfl rfl (a_R (ts := [(0, 2), (1, 2)]) 2 (a_R (ts := [(0, 2)]) 1 (a_R (ts := []) 0 a_nil (s_aload_n dX6_readPort_0 rfl rfl) rfl) (s_aload_n dX6_readPort_1 rfl rfl) rfl) (s_ldcS 0 dX6_readPort_2 (by decide) rfl rfl) rfl) dX6_readPort_4 w5_132)) dX6_readPort_7 rfl)) (t_ret (cv := cvI) (fun _ _ => rfl) (s_iconst dX6_readPort_10 rfl) dX6_readPort_11) (t_skip (ld_in rfl) rfl) lda_nil (lda_cons (ld_in rfl) lda_nil)) (t_sq (p1 := 26) (Γ' := [(0, 2), (1, 2), (2, 2)]) (t_pI ck5 1 (by decide) rfl (Or.inl rfl) (s_aload_n dX6_readPort_12 rfl rfl) (s_of_xI (x_callV (ts := [(0, 2), (1, 2), (2, 2), (3, 0), (4, 0)]) ck6 rfl kX6_readAmount mokX6_readAmount w5_195 ps2_8 rfl rfl rfl rfl (a_I (ts := [(0, 2), (1, 2), (2, 2), (3, 0)]) 4 (a_I (ts := [(0, 2), (1, 2), (2, 2)]) 3 (a_R (ts := [(0, 2), (1, 2)]) 2 (a_R (ts := [(0, 2)]) 1 (a_R (ts := []) 0 a_nil (s_aload_n dX6_readPort_13 rfl rfl) rfl) (s_aload_n dX6_readPort_14 rfl rfl) rfl) (s_ldcS 1 dX6_readPort_15 (by decide) rfl rfl) rfl) (s_iconst dX6_readPort_17 rfl) rfl) (s_bipush dX6_readPort_18 rfl) rfl) dX6_readPort_20 w5_193)) dX6_readPort_23 w1_130 rfl) (t_sq (p1 := 46) (Γ' := [(0, 2), (1, 2), (2, 2)]) (t_if (pT := 33) (pF := 46) (X := [46]) (XA := [46]) (XB := [46]) (c_eq_ZF (pF := 46) (s_getI ck6 0 (by decide) rfl (s_aload_n dX6_readPort_26 rfl rfl) dX6_readPort_27 w1_65) dX6_readPort_30 rfl) (t_pI ck5 2 (by decide) rfl (Or.inl rfl) (s_aload_n dX6_readPort_33 rfl rfl) (s_of_xI (x_callV (ts := [(0, 2), (1, 2), (2, 2), (3, 0), (4, 0)]) ck6 rfl kX6_readAmount mokX6_readAmount w5_195 ps2_8 rfl rfl rfl rfl (a_I (ts := [(0, 2), (1, 2), (2, 2), (3, 0)]) 4 (a_I (ts := [(0, 2), (1, 2), (2, 2)]) 3 (a_R (ts := [(0, 2), (1, 2)]) 2 (a_R (ts := [(0, 2)]) 1 (a_R (ts := []) 0 a_nil (s_aload_n dX6_readPort_34 rfl rfl) rfl) (s_aload_n dX6_readPort_35 rfl rfl) rfl) (s_ldcS 2 dX6_readPort_36 (by decide) rfl rfl) rfl) (s_iconst dX6_readPort_38 rfl) rfl) (s_iconst dX6_readPort_39 rfl) rfl) dX6_readPort_40 w5_193)) dX6_readPort_43 w1_136 rfl) (t_skip (ld_in rfl) rfl) (lda_cons (ld_in rfl) lda_nil) (lda_cons (ld_in rfl) lda_nil)) (t_sq (p1 := 67) (Γ' := [(0, 2), (1, 2), (2, 2)]) (t_if (pT := 53) (pF := 67) (X := [67]) (XA := [67]) (XB := [67]) (c_eq_ZF (pF := 67) (s_getI ck6 0 (by decide) rfl (s_aload_n dX6_readPort_46 rfl rfl) dX6_readPort_47 w1_65) dX6_readPort_50 rfl) (t_pI ck5 3 (by decide) rfl (Or.inl rfl) (s_aload_n dX6_readPort_53 rfl rfl) (s_of_xI (x_callV (ts := [(0, 2), (1, 2), (2, 2), (3, 0), (4, 0)]) ck6 rfl kX6_readAmount mokX6_readAmount w5_195 ps2_8 rfl rfl rfl rfl (a_I (ts := [(0, 2), (1, 2), (2, 2), (3, 0)]) 4 (a_I (ts := [(0, 2), (1, 2), (2, 2)]) 3 (a_R (ts := [(0, 2), (1, 2)]) 2 (a_R (ts := [(0, 2)]) 1 (a_R (ts := []) 0 a_nil (s_aload_n dX6_readPort_54 rfl rfl) rfl) (s_aload_n dX6_readPort_55 rfl rfl) rfl) (s_ldcS 3 dX6_readPort_56 (by decide) rfl rfl) rfl) (s_iconst dX6_readPort_58 rfl) rfl) (s_bipush dX6_readPort_59 rfl) rfl) dX6_readPort_61 w5_193)) dX6_readPort_64 w1_140 rfl) (t_skip (ld_in rfl) rfl) (lda_cons (ld_in rfl) lda_nil) (lda_cons (ld_in rfl) lda_nil)) (t_ret (cv := cvI) (fun _ _ => rfl) (s_B (pT := 74) (pF := 78) (pe := 79) (c_eq_ZF (pF := 78) (s_getI ck6 0 (by decide) rfl (s_aload_n dX6_readPort_67 rfl rfl) dX6_readPort_68 w1_65) dX6_readPort_71 rfl) dX6_readPort_74 dX6_readPort_75 rfl dX6_readPort_78 rfl) dX6_readPort_79)))))
noncomputable def DX6_readPort : Fr → St → Option (Int32 × St) := MZ (fun f => (sR (sR (sR fr0 0 (gR f 0)) 1 (gR f 1)) 2 (gR f 2))) BX6_readPort
theorem kX6_readPort : SND yX6_readPort cX6_readPort 3 (some .boolean) 7 [(0, 2), (1, 2), (2, 2)] cvoI DX6_readPort := snd_Z (nw := 3) (by decide) rfl rfl (fun _ _ => rfl) sBX6_readPort
theorem dX6_readSlate_0 : decode cX6_readSlate 0 = .ok (.aload_n 1, 1) := by decide +kernel
theorem dX6_readSlate_1 : decode cX6_readSlate 1 = .ok (.invokevirtual 28, 3) := by decide +kernel
theorem dX6_readSlate_4 : decode cX6_readSlate 4 = .ok (.aload_n 2, 1) := by decide +kernel
theorem dX6_readSlate_5 : decode cX6_readSlate 5 = .ok (.getfield 94, 3) := by decide +kernel
theorem dX6_readSlate_8 : decode cX6_readSlate 8 = .ok (.istore_n 3, 1) := by decide +kernel
theorem dX6_readSlate_9 : decode cX6_readSlate 9 = .ok (.aload_n 2, 1) := by decide +kernel
theorem dX6_readSlate_10 : decode cX6_readSlate 10 = .ok (.getfield 162, 3) := by decide +kernel
theorem dX6_readSlate_13 : decode cX6_readSlate 13 = .ok (.iload_n 3, 1) := by decide +kernel
theorem dX6_readSlate_14 : decode cX6_readSlate 14 = .ok (.aload_n 0, 1) := by decide +kernel
theorem dX6_readSlate_15 : decode cX6_readSlate 15 = .ok (.aload_n 1, 1) := by decide +kernel
theorem dX6_readSlate_16 : decode cX6_readSlate 16 = .ok (.ldc 156, 2) := by decide +kernel
theorem dX6_readSlate_18 : decode cX6_readSlate 18 = .ok (.iconst 0, 1) := by decide +kernel
theorem dX6_readSlate_19 : decode cX6_readSlate 19 = .ok (.aload_n 2, 1) := by decide +kernel
theorem dX6_readSlate_20 : decode cX6_readSlate 20 = .ok (.getfield 66, 3) := by decide +kernel
theorem dX6_readSlate_23 : decode cX6_readSlate 23 = .ok (.iconst 1, 1) := by decide +kernel
theorem dX6_readSlate_24 : decode cX6_readSlate 24 = .ok (.isub, 1) := by decide +kernel
theorem dX6_readSlate_25 : decode cX6_readSlate 25 = .ok (.invokevirtual 117, 3) := by decide +kernel
theorem dX6_readSlate_28 : decode cX6_readSlate 28 = .ok (.invokestatic 136, 3) := by decide +kernel
theorem dX6_readSlate_31 : decode cX6_readSlate 31 = .ok (.iconst 0, 1) := by decide +kernel
theorem dX6_readSlate_32 : decode cX6_readSlate 32 = .ok (.istore 4, 2) := by decide +kernel
theorem dX6_readSlate_34 : decode cX6_readSlate 34 = .ok (.aload_n 0, 1) := by decide +kernel
theorem dX6_readSlate_35 : decode cX6_readSlate 35 = .ok (.getfield 15, 3) := by decide +kernel
theorem dX6_readSlate_38 : decode cX6_readSlate 38 = .ok (.ifCond .ne 68, 3) := by decide +kernel
theorem dX6_readSlate_41 : decode cX6_readSlate 41 = .ok (.iload 4, 2) := by decide +kernel
theorem dX6_readSlate_43 : decode cX6_readSlate 43 = .ok (.bipush 6, 2) := by decide +kernel
theorem dX6_readSlate_45 : decode cX6_readSlate 45 = .ok (.if_icmp .gt 61, 3) := by decide +kernel
theorem dX6_readSlate_48 : decode cX6_readSlate 48 = .ok (.iload 4, 2) := by decide +kernel
theorem dX6_readSlate_50 : decode cX6_readSlate 50 = .ok (.ifCond .eq 12, 3) := by decide +kernel
theorem dX6_readSlate_53 : decode cX6_readSlate 53 = .ok (.aload_n 1, 1) := by decide +kernel
theorem dX6_readSlate_54 : decode cX6_readSlate 54 = .ok (.ldc 165, 2) := by decide +kernel
theorem dX6_readSlate_56 : decode cX6_readSlate 56 = .ok (.invokevirtual 62, 3) := by decide +kernel
theorem dX6_readSlate_59 : decode cX6_readSlate 59 = .ok (.ifCond .eq 47, 3) := by decide +kernel
theorem dX6_readSlate_62 : decode cX6_readSlate 62 = .ok (.aload_n 0, 1) := by decide +kernel
theorem dX6_readSlate_63 : decode cX6_readSlate 63 = .ok (.aload_n 1, 1) := by decide +kernel
theorem dX6_readSlate_64 : decode cX6_readSlate 64 = .ok (.iload 4, 2) := by decide +kernel
theorem dX6_readSlate_66 : decode cX6_readSlate 66 = .ok (.bipush 6, 2) := by decide +kernel
theorem dX6_readSlate_68 : decode cX6_readSlate 68 = .ok (.invokevirtual 69, 3) := by decide +kernel
theorem dX6_readSlate_71 : decode cX6_readSlate 71 = .ok (.ifCond .ne 5, 3) := by decide +kernel
theorem dX6_readSlate_74 : decode cX6_readSlate 74 = .ok (.iconst 0, 1) := by decide +kernel
theorem dX6_readSlate_75 : decode cX6_readSlate 75 = .ok (.ireturn, 1) := by decide +kernel
theorem dX6_readSlate_76 : decode cX6_readSlate 76 = .ok (.aload_n 2, 1) := by decide +kernel
theorem dX6_readSlate_77 : decode cX6_readSlate 77 = .ok (.getfield 167, 3) := by decide +kernel
theorem dX6_readSlate_80 : decode cX6_readSlate 80 = .ok (.iload_n 3, 1) := by decide +kernel
theorem dX6_readSlate_81 : decode cX6_readSlate 81 = .ok (.bipush 6, 2) := by decide +kernel
theorem dX6_readSlate_83 : decode cX6_readSlate 83 = .ok (.imul, 1) := by decide +kernel
theorem dX6_readSlate_84 : decode cX6_readSlate 84 = .ok (.iload 4, 2) := by decide +kernel
theorem dX6_readSlate_86 : decode cX6_readSlate 86 = .ok (.iadd, 1) := by decide +kernel
theorem dX6_readSlate_87 : decode cX6_readSlate 87 = .ok (.aload_n 0, 1) := by decide +kernel
theorem dX6_readSlate_88 : decode cX6_readSlate 88 = .ok (.aload_n 1, 1) := by decide +kernel
theorem dX6_readSlate_89 : decode cX6_readSlate 89 = .ok (.ldc 165, 2) := by decide +kernel
theorem dX6_readSlate_91 : decode cX6_readSlate 91 = .ok (.iconst 1, 1) := by decide +kernel
theorem dX6_readSlate_92 : decode cX6_readSlate 92 = .ok (.bipush 30, 2) := by decide +kernel
theorem dX6_readSlate_94 : decode cX6_readSlate 94 = .ok (.invokevirtual 117, 3) := by decide +kernel
theorem dX6_readSlate_97 : decode cX6_readSlate 97 = .ok (.invokestatic 136, 3) := by decide +kernel
theorem dX6_readSlate_100 : decode cX6_readSlate 100 = .ok (.iinc 4 1, 3) := by decide +kernel
theorem dX6_readSlate_103 : decode cX6_readSlate 103 = .ok (.goto (-69), 3) := by decide +kernel
theorem dX6_readSlate_106 : decode cX6_readSlate 106 = .ok (.aload_n 2, 1) := by decide +kernel
theorem dX6_readSlate_107 : decode cX6_readSlate 107 = .ok (.getfield 170, 3) := by decide +kernel
theorem dX6_readSlate_110 : decode cX6_readSlate 110 = .ok (.iload_n 3, 1) := by decide +kernel
theorem dX6_readSlate_111 : decode cX6_readSlate 111 = .ok (.iload 4, 2) := by decide +kernel
theorem dX6_readSlate_113 : decode cX6_readSlate 113 = .ok (.invokestatic 136, 3) := by decide +kernel
theorem dX6_readSlate_116 : decode cX6_readSlate 116 = .ok (.aload_n 2, 1) := by decide +kernel
theorem dX6_readSlate_117 : decode cX6_readSlate 117 = .ok (.dup, 1) := by decide +kernel
theorem dX6_readSlate_118 : decode cX6_readSlate 118 = .ok (.getfield 94, 3) := by decide +kernel
theorem dX6_readSlate_121 : decode cX6_readSlate 121 = .ok (.iconst 1, 1) := by decide +kernel
theorem dX6_readSlate_122 : decode cX6_readSlate 122 = .ok (.iadd, 1) := by decide +kernel
theorem dX6_readSlate_123 : decode cX6_readSlate 123 = .ok (.putfield 94, 3) := by decide +kernel
theorem dX6_readSlate_126 : decode cX6_readSlate 126 = .ok (.aload_n 0, 1) := by decide +kernel
theorem dX6_readSlate_127 : decode cX6_readSlate 127 = .ok (.getfield 15, 3) := by decide +kernel
theorem dX6_readSlate_130 : decode cX6_readSlate 130 = .ok (.ifCond .ne 7, 3) := by decide +kernel
theorem dX6_readSlate_133 : decode cX6_readSlate 133 = .ok (.iconst 1, 1) := by decide +kernel
theorem dX6_readSlate_134 : decode cX6_readSlate 134 = .ok (.goto 4, 3) := by decide +kernel
theorem dX6_readSlate_137 : decode cX6_readSlate 137 = .ok (.iconst 0, 1) := by decide +kernel
theorem dX6_readSlate_138 : decode cX6_readSlate 138 = .ok (.ireturn, 1) := by decide +kernel
theorem mokX6_readSlate : MOK yX6_readSlate cX6_readSlate 5 (some .boolean) 2 := ⟨w5_230, w1_3, ⟨by decide, by decide⟩, by decide +kernel, by decide⟩
abbrev miX6_readSlate : MI := (yX6_readSlate.cls, cX6_readSlate, 5, 7, false)
noncomputable def LX6_readSlate_1 : Sm Int32 := dLoop (fun f => (sI (sI (sR (sR (sR fr0 0 (gR f 0)) 1 (gR f 1)) 2 (gR f 2)) 3 (gI f 3)) 4 (gI f 4))) (dAnd (dAnd (dCZ q_eq (dGI 6 0 (vR 0))) (dCI r_le (vI 4) (cI 6))) (dOr (dCZ q_eq (vI 4)) (dCZ q_ne (dCallV 9 DX9_isAt (aR (aR aN 0 (vR 1)) 1 (cR 14)))))) (dSeq (dIf (dNot (dCZ q_ne (dCallV 6 DX6_hasRoom (aI (aI (aR (aR aN 0 (vR 0)) 1 (vR 1)) 2 (vI 4)) 3 (cI 6))))) (dRet (cI 0)) dSkip) (dSeq (dDo (dCall DX11_put (aI (aI (aR aN 0 (dGR 5 15 (vR 2))) 1 (d2 o_iadd (d2 o_imul (vI 3) (cI 6)) (vI 4))) 2 (dCallV 6 DX6_readAmount (aI (aI (aR (aR (aR aN 0 (vR 0)) 1 (vR 1)) 2 (cR 14)) 3 (cI 1)) 4 (cI 30)))))) (dInc 4 1))) dSkip
theorem sLX6_readSlate_1 {ΓL : Gm} {PB PK : List Nat} : SS (cvoI, .ireturn) miX6_readSlate ΓL PB PK [(0, 2), (1, 2), (2, 2), (3, 0), (4, 0)] [(0, 2), (1, 2), (2, 2), (3, 0), (4, 0)] 34 [106] LX6_readSlate_1 := t_loop (pT := 62) (pF := 106) (pu := 34) (PB' := []) (PK' := []) (XB := [103]) (XU := [34]) (fun _ _ => rfl) rfl (c_and (p1 := 48) (pT := 62) (pF := 106) (c_and (p1 := 41) (pT := 48) (pF := 106) (c_eq_ZF (pF := 106) (s_getI ck6 0 (by decide) rfl (s_aload_n dX6_readSlate_34 rfl rfl) dX6_readSlate_35 w1_65) dX6_readSlate_38 rfl) (c_le_F (pF := 106) (s_iload dX6_readSlate_41 rfl) (s_bipush dX6_readSlate_43 rfl) dX6_readSlate_45 rfl)) (c_or (p1 := 53) (pT := 62) (pF := 106) (c_eq_ZJ (pT := 62) (s_iload dX6_readSlate_48 rfl) dX6_readSlate_50 rfl) (c_ne_ZF (pF := 106) (s_of_xI (x_callV (ts := [(0, 2), (1, 2)]) ck9 rfl kX9_isAt mokX9_isAt w5_137 w5_138 rfl rfl rfl rfl (a_R (ts := [(0, 2)]) 1 (a_R (ts := []) 0 a_nil (s_aload_n dX6_readSlate_53 rfl rfl) rfl) (s_ldcS 11 dX6_readSlate_54 (by decide) rfl rfl) rfl) dX6_readSlate_56 w5_136)) dX6_readSlate_59 rfl))) (t_sq (p1 := 76) (Γ' := [(0, 2), (1, 2), (2, 2), (3, 0), (4, 0)]) (t_if (pT := 74) (pF := 76) (X := [76]) (XA := []) (XB := [76]) (c_not (pT := 74) (pF := 76) (c_ne_ZJ (pT := 76) (s_of_xI (x_callV (ts := [(0, 2), (1, 2), (2, 0), (3, 0)]) ck6 rfl kX6_hasRoom mokX6_hasRoom w5_206 ps2_10 rfl rfl rfl rfl (a_I (ts := [(0, 2), (1, 2), (2, 0)]) 3 (a_I (ts := [(0, 2), (1, 2)]) 2 (a_R (ts := [(0, 2)]) 1 (a_R (ts := []) 0 a_nil (s_aload_n dX6_readSlate_62 rfl rfl) rfl) (s_aload_n dX6_readSlate_63 rfl rfl) rfl) (s_iload dX6_readSlate_64 rfl) rfl) (s_bipush dX6_readSlate_66 rfl) rfl) dX6_readSlate_68 w5_204)) dX6_readSlate_71 rfl)) (t_ret (cv := cvI) (fun _ _ => rfl) (s_iconst dX6_readSlate_74 rfl) dX6_readSlate_75) (t_skip (ld_in rfl) rfl) lda_nil (lda_cons (ld_in rfl) lda_nil)) (t_sq (p1 := 100) (Γ' := [(0, 2), (1, 2), (2, 2), (3, 0), (4, 0)]) (t_do (x_callN (ts := [(0, 2), (1, 0), (2, 0)]) kX11_put mokX11_put w3_65 rfl rfl rfl (a_I (ts := [(0, 2), (1, 0)]) 2 (a_I (ts := [(0, 2)]) 1 (a_R (ts := []) 0 a_nil (s_getR ck5 15 (by decide) rfl (s_aload_n dX6_readSlate_76 rfl rfl) dX6_readSlate_77 w1_181) rfl) (s_iadd (s_imul (s_iload_n dX6_readSlate_80 rfl rfl) (s_bipush dX6_readSlate_81 rfl) dX6_readSlate_83) (s_iload dX6_readSlate_84 rfl) dX6_readSlate_86) rfl) (s_of_xI (x_callV (ts := [(0, 2), (1, 2), (2, 2), (3, 0), (4, 0)]) ck6 rfl kX6_readAmount mokX6_readAmount w5_195 ps2_8 rfl rfl rfl rfl (a_I (ts := [(0, 2), (1, 2), (2, 2), (3, 0)]) 4 (a_I (ts := [(0, 2), (1, 2), (2, 2)]) 3 (a_R (ts := [(0, 2), (1, 2)]) 2 (a_R (ts := [(0, 2)]) 1 (a_R (ts := []) 0 a_nil (s_aload_n dX6_readSlate_87 rfl rfl) rfl) (s_aload_n dX6_readSlate_88 rfl rfl) rfl) (s_ldcS 11 dX6_readSlate_89 (by decide) rfl rfl) rfl) (s_iconst dX6_readSlate_91 rfl) rfl) (s_bipush dX6_readSlate_92 rfl) rfl) dX6_readSlate_94 w5_193)) rfl) dX6_readSlate_97 nb27) rfl) (t_iinc dX6_readSlate_100 rfl rfl rfl rfl))) (t_skip (ld_in rfl) rfl) (lda_cons (ld_goto (y := 34) dX6_readSlate_103 rfl (ld_in rfl)) lda_nil) lda_nil (lda_cons (ld_in rfl) lda_nil) (ld_in rfl) lda_nil
noncomputable def BX6_readSlate : Sm Int32 := (dSeq (dDo (dCallV 9 DX9_next (aR aN 0 (vR 1)))) (dSeq (dSetI 3 (dGI 5 7 (vR 2))) (dSeq (dDo (dCall DX11_put (aI (aI (aR aN 0 (dGR 5 13 (vR 2))) 1 (vI 3)) 2 (dCallV 6 DX6_readAmount (aI (aI (aR (aR (aR aN 0 (vR 0)) 1 (vR 1)) 2 (cR 11)) 3 (cI 0)) 4 (d2 o_isub (dGI 5 4 (vR 2)) (cI 1))))))) (dSeq (dSetI 4 (cI 0)) (dSeq LX6_readSlate_1 (dSeq (dDo (dCall DX11_put (aI (aI (aR aN 0 (dGR 5 14 (vR 2))) 1 (vI 3)) 2 (vI 4)))) (dSeq (dUF 5 7 o_iadd (vR 2) (cI 1)) (dRet (dB (dCZ q_eq (dGI 6 0 (vR 0))))))))))))
theorem sBX6_readSlate : SS (cvoI, .ireturn) miX6_readSlate [] [] [] [(0, 2), (1, 2), (2, 2)] [(0, 2), (1, 2), (2, 2)] 0 [] BX6_readSlate := (t_sq (p1 := 4) (Γ' := [(0, 2), (1, 2), (2, 2)]) (t_do (x_callV (ts := [(0, 2)]) ck9 rfl kX9_next mokX9_next w5_107 w5_108 rfl rfl rfl rfl (a_R (ts := []) 0 a_nil (s_aload_n dX6_readSlate_0 rfl rfl) rfl) dX6_readSlate_1 w5_106) rfl) (t_sq (p1 := 9) (Γ' := [(0, 2), (1, 2), (2, 2), (3, 0)]) (t_istore_n (s_getI ck5 7 (by decide) rfl (s_aload_n dX6_readSlate_4 rfl rfl) dX6_readSlate_5 w1_159) dX6_readSlate_8 rfl rfl rfl) (t_sq (p1 := 31) (Γ' := [(0, 2), (1, 2), (2, 2), (3, 0)]) (t_do (x_callN (ts := [(0, 2), (1, 0), (2, 0)]) kX11_put mokX11_put w3_65 rfl rfl rfl (a_I (ts := [(0, 2), (1, 0)]) 2 (a_I (ts := [(0, 2)]) 1 (a_R (ts := []) 0 a_nil (s_getR ck5 13 (by decide) rfl (s_aload_n dX6_readSlate_9 rfl rfl) dX6_readSlate_10 w1_177) rfl) (s_iload_n dX6_readSlate_13 rfl rfl) rfl) (s_of_xI (x_callV (ts := [(0, 2), (1, 2), (2, 2), (3, 0), (4, 0)]) ck6 rfl kX6_readAmount mokX6_readAmount w5_195 ps2_8 rfl rfl rfl rfl (a_I (ts := [(0, 2), (1, 2), (2, 2), (3, 0)]) 4 (a_I (ts := [(0, 2), (1, 2), (2, 2)]) 3 (a_R (ts := [(0, 2), (1, 2)]) 2 (a_R (ts := [(0, 2)]) 1 (a_R (ts := []) 0 a_nil (s_aload_n dX6_readSlate_14 rfl rfl) rfl) (s_aload_n dX6_readSlate_15 rfl rfl) rfl) (s_ldcS 8 dX6_readSlate_16 (by decide) rfl rfl) rfl) (s_iconst dX6_readSlate_18 rfl) rfl) (s_isub (s_getI ck5 4 (by decide) rfl (s_aload_n dX6_readSlate_19 rfl rfl) dX6_readSlate_20 w1_145) (s_iconst dX6_readSlate_23 rfl) dX6_readSlate_24) rfl) dX6_readSlate_25 w5_193)) rfl) dX6_readSlate_28 nb27) rfl) (t_sq (p1 := 34) (Γ' := [(0, 2), (1, 2), (2, 2), (3, 0), (4, 0)]) (t_istore (s_iconst dX6_readSlate_31 rfl) dX6_readSlate_32 rfl rfl) (t_sq (p1 := 106) (Γ' := [(0, 2), (1, 2), (2, 2), (3, 0), (4, 0)]) (tn_to (Γ' := [(0, 2), (1, 2), (2, 2), (3, 0), (4, 0)]) (XA := [106]) sLX6_readSlate_1 (lda_cons (ld_in rfl) lda_nil) rfl) (t_sq (p1 := 116) (Γ' := [(0, 2), (1, 2), (2, 2), (3, 0), (4, 0)]) (t_do (x_callN (ts := [(0, 2), (1, 0), (2, 0)]) kX11_put mokX11_put w3_65 rfl rfl rfl (a_I (ts := [(0, 2), (1, 0)]) 2 (a_I (ts := [(0, 2)]) 1 (a_R (ts := []) 0 a_nil (s_getR ck5 14 (by decide) rfl (s_aload_n dX6_readSlate_106 rfl rfl) dX6_readSlate_107 w1_179) rfl) (s_iload_n dX6_readSlate_110 rfl rfl) rfl) (s_iload dX6_readSlate_111 rfl) rfl) dX6_readSlate_113 nb27) rfl) (t_sq (p1 := 126) (Γ' := [(0, 2), (1, 2), (2, 2), (3, 0), (4, 0)]) (t_UF ck5 7 (by decide) rfl (Or.inl rfl) (s_aload_n dX6_readSlate_116 rfl rfl) dX6_readSlate_117 dX6_readSlate_118 w1_159 (s_iconst dX6_readSlate_121 rfl) (fun _ _ _ _ => rulI fun a b K => lv_iadd a b dX6_readSlate_122 K) dX6_readSlate_123 w1_159 rfl) (t_ret (cv := cvI) (fun _ _ => rfl) (s_B (pT := 133) (pF := 137) (pe := 138) (c_eq_ZF (pF := 137) (s_getI ck6 0 (by decide) rfl (s_aload_n dX6_readSlate_126 rfl rfl) dX6_readSlate_127 w1_65) dX6_readSlate_130 rfl) dX6_readSlate_133 dX6_readSlate_134 rfl dX6_readSlate_137 rfl) dX6_readSlate_138))))))))
noncomputable def DX6_readSlate : Fr → St → Option (Int32 × St) := MZ (fun f => (sR (sR (sR fr0 0 (gR f 0)) 1 (gR f 1)) 2 (gR f 2))) BX6_readSlate
theorem kX6_readSlate : SND yX6_readSlate cX6_readSlate 5 (some .boolean) 7 [(0, 2), (1, 2), (2, 2)] cvoI DX6_readSlate := snd_Z (nw := 3) (by decide) rfl rfl (fun _ _ => rfl) sBX6_readSlate
theorem dX6_readWay_0 : decode cX6_readWay 0 = .ok (.aload_n 1, 1) := by decide +kernel
theorem dX6_readWay_1 : decode cX6_readWay 1 = .ok (.invokevirtual 28, 3) := by decide +kernel
theorem dX6_readWay_4 : decode cX6_readWay 4 = .ok (.aload_n 0, 1) := by decide +kernel
theorem dX6_readWay_5 : decode cX6_readWay 5 = .ok (.aload_n 1, 1) := by decide +kernel
theorem dX6_readWay_6 : decode cX6_readWay 6 = .ok (.iconst 0, 1) := by decide +kernel
theorem dX6_readWay_7 : decode cX6_readWay 7 = .ok (.aload_n 2, 1) := by decide +kernel
theorem dX6_readWay_8 : decode cX6_readWay 8 = .ok (.getfield 66, 3) := by decide +kernel
theorem dX6_readWay_11 : decode cX6_readWay 11 = .ok (.iconst 1, 1) := by decide +kernel
theorem dX6_readWay_12 : decode cX6_readWay 12 = .ok (.isub, 1) := by decide +kernel
theorem dX6_readWay_13 : decode cX6_readWay 13 = .ok (.invokevirtual 140, 3) := by decide +kernel
theorem dX6_readWay_16 : decode cX6_readWay 16 = .ok (.istore_n 3, 1) := by decide +kernel
theorem dX6_readWay_17 : decode cX6_readWay 17 = .ok (.aload_n 0, 1) := by decide +kernel
theorem dX6_readWay_18 : decode cX6_readWay 18 = .ok (.getfield 15, 3) := by decide +kernel
theorem dX6_readWay_21 : decode cX6_readWay 21 = .ok (.ifCond .eq 5, 3) := by decide +kernel
theorem dX6_readWay_24 : decode cX6_readWay 24 = .ok (.iconst 0, 1) := by decide +kernel
theorem dX6_readWay_25 : decode cX6_readWay 25 = .ok (.ireturn, 1) := by decide +kernel
theorem dX6_readWay_26 : decode cX6_readWay 26 = .ok (.aload_n 1, 1) := by decide +kernel
theorem dX6_readWay_27 : decode cX6_readWay 27 = .ok (.getfield 31, 3) := by decide +kernel
theorem dX6_readWay_30 : decode cX6_readWay 30 = .ok (.iconst 2, 1) := by decide +kernel
theorem dX6_readWay_31 : decode cX6_readWay 31 = .ok (.if_icmp .ne 18, 3) := by decide +kernel
theorem dX6_readWay_34 : decode cX6_readWay 34 = .ok (.aload_n 1, 1) := by decide +kernel
theorem dX6_readWay_35 : decode cX6_readWay 35 = .ok (.getfield 144, 3) := by decide +kernel
theorem dX6_readWay_38 : decode cX6_readWay 38 = .ok (.iload_n 3, 1) := by decide +kernel
theorem dX6_readWay_39 : decode cX6_readWay 39 = .ok (.if_icmp .ne 10, 3) := by decide +kernel
theorem dX6_readWay_42 : decode cX6_readWay 42 = .ok (.aload_n 0, 1) := by decide +kernel
theorem dX6_readWay_43 : decode cX6_readWay 43 = .ok (.aload_n 1, 1) := by decide +kernel
theorem dX6_readWay_44 : decode cX6_readWay 44 = .ok (.iconst 2, 1) := by decide +kernel
theorem dX6_readWay_45 : decode cX6_readWay 45 = .ok (.invokevirtual 105, 3) := by decide +kernel
theorem dX6_readWay_48 : decode cX6_readWay 48 = .ok (.ireturn, 1) := by decide +kernel
theorem dX6_readWay_49 : decode cX6_readWay 49 = .ok (.aload_n 2, 1) := by decide +kernel
theorem dX6_readWay_50 : decode cX6_readWay 50 = .ok (.getfield 147, 3) := by decide +kernel
theorem dX6_readWay_53 : decode cX6_readWay 53 = .ok (.aload_n 2, 1) := by decide +kernel
theorem dX6_readWay_54 : decode cX6_readWay 54 = .ok (.getfield 78, 3) := by decide +kernel
theorem dX6_readWay_57 : decode cX6_readWay 57 = .ok (.iload_n 3, 1) := by decide +kernel
theorem dX6_readWay_58 : decode cX6_readWay 58 = .ok (.invokestatic 136, 3) := by decide +kernel
theorem dX6_readWay_61 : decode cX6_readWay 61 = .ok (.aload_n 2, 1) := by decide +kernel
theorem dX6_readWay_62 : decode cX6_readWay 62 = .ok (.getfield 150, 3) := by decide +kernel
theorem dX6_readWay_65 : decode cX6_readWay 65 = .ok (.aload_n 2, 1) := by decide +kernel
theorem dX6_readWay_66 : decode cX6_readWay 66 = .ok (.getfield 78, 3) := by decide +kernel
theorem dX6_readWay_69 : decode cX6_readWay 69 = .ok (.aload_n 0, 1) := by decide +kernel
theorem dX6_readWay_70 : decode cX6_readWay 70 = .ok (.aload_n 1, 1) := by decide +kernel
theorem dX6_readWay_71 : decode cX6_readWay 71 = .ok (.iconst 0, 1) := by decide +kernel
theorem dX6_readWay_72 : decode cX6_readWay 72 = .ok (.aload_n 2, 1) := by decide +kernel
theorem dX6_readWay_73 : decode cX6_readWay 73 = .ok (.getfield 66, 3) := by decide +kernel
theorem dX6_readWay_76 : decode cX6_readWay 76 = .ok (.iconst 1, 1) := by decide +kernel
theorem dX6_readWay_77 : decode cX6_readWay 77 = .ok (.isub, 1) := by decide +kernel
theorem dX6_readWay_78 : decode cX6_readWay 78 = .ok (.invokevirtual 140, 3) := by decide +kernel
theorem dX6_readWay_81 : decode cX6_readWay 81 = .ok (.invokestatic 136, 3) := by decide +kernel
theorem dX6_readWay_84 : decode cX6_readWay 84 = .ok (.aload_n 2, 1) := by decide +kernel
theorem dX6_readWay_85 : decode cX6_readWay 85 = .ok (.dup, 1) := by decide +kernel
theorem dX6_readWay_86 : decode cX6_readWay 86 = .ok (.getfield 78, 3) := by decide +kernel
theorem dX6_readWay_89 : decode cX6_readWay 89 = .ok (.iconst 1, 1) := by decide +kernel
theorem dX6_readWay_90 : decode cX6_readWay 90 = .ok (.iadd, 1) := by decide +kernel
theorem dX6_readWay_91 : decode cX6_readWay 91 = .ok (.putfield 78, 3) := by decide +kernel
theorem dX6_readWay_94 : decode cX6_readWay 94 = .ok (.aload_n 0, 1) := by decide +kernel
theorem dX6_readWay_95 : decode cX6_readWay 95 = .ok (.getfield 15, 3) := by decide +kernel
theorem dX6_readWay_98 : decode cX6_readWay 98 = .ok (.ifCond .ne 7, 3) := by decide +kernel
theorem dX6_readWay_101 : decode cX6_readWay 101 = .ok (.iconst 1, 1) := by decide +kernel
theorem dX6_readWay_102 : decode cX6_readWay 102 = .ok (.goto 4, 3) := by decide +kernel
theorem dX6_readWay_105 : decode cX6_readWay 105 = .ok (.iconst 0, 1) := by decide +kernel
theorem dX6_readWay_106 : decode cX6_readWay 106 = .ok (.ireturn, 1) := by decide +kernel
theorem mokX6_readWay : MOK yX6_readWay cX6_readWay 4 (some .boolean) 2 := ⟨w5_218, w1_3, ⟨by decide, by decide⟩, by decide +kernel, by decide⟩
abbrev miX6_readWay : MI := (yX6_readWay.cls, cX6_readWay, 4, 4, false)
noncomputable def BX6_readWay : Sm Int32 := (dSeq (dDo (dCallV 9 DX9_next (aR aN 0 (vR 1)))) (dSeq (dSetI 3 (dCallV 6 DX6_readNumber (aI (aI (aR (aR aN 0 (vR 0)) 1 (vR 1)) 2 (cI 0)) 3 (d2 o_isub (dGI 5 4 (vR 2)) (cI 1))))) (dSeq (dIf (dCZ q_ne (dGI 6 0 (vR 0))) (dRet (cI 0)) dSkip) (dSeq (dIf (dAnd (dCI r_eq (dGI 9 2 (vR 1)) (cI 2)) (dCI r_eq (dGI 9 4 (vR 1)) (vI 3))) (dRet (dCallV 6 DX6_fail (aI (aR (aR aN 0 (vR 0)) 1 (vR 1)) 2 (cI 2)))) dSkip) (dSeq (dDo (dCall DX11_put (aI (aI (aR aN 0 (dGR 5 9 (vR 2))) 1 (dGI 5 5 (vR 2))) 2 (vI 3)))) (dSeq (dDo (dCall DX11_put (aI (aI (aR aN 0 (dGR 5 10 (vR 2))) 1 (dGI 5 5 (vR 2))) 2 (dCallV 6 DX6_readNumber (aI (aI (aR (aR aN 0 (vR 0)) 1 (vR 1)) 2 (cI 0)) 3 (d2 o_isub (dGI 5 4 (vR 2)) (cI 1))))))) (dSeq (dUF 5 5 o_iadd (vR 2) (cI 1)) (dRet (dB (dCZ q_eq (dGI 6 0 (vR 0))))))))))))
theorem sBX6_readWay : SS (cvoI, .ireturn) miX6_readWay [] [] [] [(0, 2), (1, 2), (2, 2)] [(0, 2), (1, 2), (2, 2)] 0 [] BX6_readWay := (t_sq (p1 := 4) (Γ' := [(0, 2), (1, 2), (2, 2)]) (t_do (x_callV (ts := [(0, 2)]) ck9 rfl kX9_next mokX9_next w5_107 w5_108 rfl rfl rfl rfl (a_R (ts := []) 0 a_nil (s_aload_n dX6_readWay_0 rfl rfl) rfl) dX6_readWay_1 w5_106) rfl) (t_sq (p1 := 17) (Γ' := [(0, 2), (1, 2), (2, 2), (3, 0)]) (t_istore_n (s_of_xI (x_callV (ts := [(0, 2), (1, 2), (2, 0), (3, 0)]) ck6 rfl kX6_readNumber mokX6_readNumber w5_199 ps2_9 rfl rfl rfl rfl (a_I (ts := [(0, 2), (1, 2), (2, 0)]) 3 (a_I (ts := [(0, 2), (1, 2)]) 2 (a_R (ts := [(0, 2)]) 1 (a_R (ts := []) 0 a_nil (s_aload_n dX6_readWay_4 rfl rfl) rfl) (s_aload_n dX6_readWay_5 rfl rfl) rfl) (s_iconst dX6_readWay_6 rfl) rfl) (s_isub (s_getI ck5 4 (by decide) rfl (s_aload_n dX6_readWay_7 rfl rfl) dX6_readWay_8 w1_145) (s_iconst dX6_readWay_11 rfl) dX6_readWay_12) rfl) dX6_readWay_13 w5_197)) dX6_readWay_16 rfl rfl rfl) (t_sq (p1 := 26) (Γ' := [(0, 2), (1, 2), (2, 2), (3, 0)]) (t_if (pT := 24) (pF := 26) (X := [26]) (XA := []) (XB := [26]) (c_ne_ZF (pF := 26) (s_getI ck6 0 (by decide) rfl (s_aload_n dX6_readWay_17 rfl rfl) dX6_readWay_18 w1_65) dX6_readWay_21 rfl) (t_ret (cv := cvI) (fun _ _ => rfl) (s_iconst dX6_readWay_24 rfl) dX6_readWay_25) (t_skip (ld_in rfl) rfl) lda_nil (lda_cons (ld_in rfl) lda_nil)) (t_sq (p1 := 49) (Γ' := [(0, 2), (1, 2), (2, 2), (3, 0)]) (t_if (pT := 42) (pF := 49) (X := [49]) (XA := []) (XB := [49]) (c_and (p1 := 34) (pT := 42) (pF := 49) (c_eq_F (pF := 49) (s_getI ck9 2 (by decide) rfl (s_aload_n dX6_readWay_26 rfl rfl) dX6_readWay_27 w1_38) (s_iconst dX6_readWay_30 rfl) dX6_readWay_31 rfl) (c_eq_F (pF := 49) (s_getI ck9 4 (by decide) rfl (s_aload_n dX6_readWay_34 rfl rfl) dX6_readWay_35 w1_43) (s_iload_n dX6_readWay_38 rfl rfl) dX6_readWay_39 rfl)) (t_ret (cv := cvI) (fun _ _ => rfl) (s_of_xI (x_callV (ts := [(0, 2), (1, 2), (2, 0)]) ck6 rfl kX6_fail mokX6_fail w5_190 ps2_7 rfl rfl rfl rfl (a_I (ts := [(0, 2), (1, 2)]) 2 (a_R (ts := [(0, 2)]) 1 (a_R (ts := []) 0 a_nil (s_aload_n dX6_readWay_42 rfl rfl) rfl) (s_aload_n dX6_readWay_43 rfl rfl) rfl) (s_iconst dX6_readWay_44 rfl) rfl) dX6_readWay_45 w5_188)) dX6_readWay_48) (t_skip (ld_in rfl) rfl) lda_nil (lda_cons (ld_in rfl) lda_nil)) (t_sq (p1 := 61) (Γ' := [(0, 2), (1, 2), (2, 2), (3, 0)]) (t_do (x_callN (ts := [(0, 2), (1, 0), (2, 0)]) kX11_put mokX11_put w3_65 rfl rfl rfl (a_I (ts := [(0, 2), (1, 0)]) 2 (a_I (ts := [(0, 2)]) 1 (a_R (ts := []) 0 a_nil (s_getR ck5 9 (by decide) rfl (s_aload_n dX6_readWay_49 rfl rfl) dX6_readWay_50 w1_164) rfl) (s_getI ck5 5 (by decide) rfl (s_aload_n dX6_readWay_53 rfl rfl) dX6_readWay_54 w1_151) rfl) (s_iload_n dX6_readWay_57 rfl rfl) rfl) dX6_readWay_58 nb27) rfl) (t_sq (p1 := 84) (Γ' := [(0, 2), (1, 2), (2, 2), (3, 0)]) (t_do (x_callN (ts := [(0, 2), (1, 0), (2, 0)]) kX11_put mokX11_put w3_65 rfl rfl rfl (a_I (ts := [(0, 2), (1, 0)]) 2 (a_I (ts := [(0, 2)]) 1 (a_R (ts := []) 0 a_nil (s_getR ck5 10 (by decide) rfl (s_aload_n dX6_readWay_61 rfl rfl) dX6_readWay_62 w1_166) rfl) (s_getI ck5 5 (by decide) rfl (s_aload_n dX6_readWay_65 rfl rfl) dX6_readWay_66 w1_151) rfl) (s_of_xI (x_callV (ts := [(0, 2), (1, 2), (2, 0), (3, 0)]) ck6 rfl kX6_readNumber mokX6_readNumber w5_199 ps2_9 rfl rfl rfl rfl (a_I (ts := [(0, 2), (1, 2), (2, 0)]) 3 (a_I (ts := [(0, 2), (1, 2)]) 2 (a_R (ts := [(0, 2)]) 1 (a_R (ts := []) 0 a_nil (s_aload_n dX6_readWay_69 rfl rfl) rfl) (s_aload_n dX6_readWay_70 rfl rfl) rfl) (s_iconst dX6_readWay_71 rfl) rfl) (s_isub (s_getI ck5 4 (by decide) rfl (s_aload_n dX6_readWay_72 rfl rfl) dX6_readWay_73 w1_145) (s_iconst dX6_readWay_76 rfl) dX6_readWay_77) rfl) dX6_readWay_78 w5_197)) rfl) dX6_readWay_81 nb27) rfl) (t_sq (p1 := 94) (Γ' := [(0, 2), (1, 2), (2, 2), (3, 0)]) (t_UF ck5 5 (by decide) rfl (Or.inl rfl) (s_aload_n dX6_readWay_84 rfl rfl) dX6_readWay_85 dX6_readWay_86 w1_151 (s_iconst dX6_readWay_89 rfl) (fun _ _ _ _ => rulI fun a b K => lv_iadd a b dX6_readWay_90 K) dX6_readWay_91 w1_151 rfl) (t_ret (cv := cvI) (fun _ _ => rfl) (s_B (pT := 101) (pF := 105) (pe := 106) (c_eq_ZF (pF := 105) (s_getI ck6 0 (by decide) rfl (s_aload_n dX6_readWay_94 rfl rfl) dX6_readWay_95 w1_65) dX6_readWay_98 rfl) dX6_readWay_101 dX6_readWay_102 rfl dX6_readWay_105 rfl) dX6_readWay_106))))))))
noncomputable def DX6_readWay : Fr → St → Option (Int32 × St) := MZ (fun f => (sR (sR (sR fr0 0 (gR f 0)) 1 (gR f 1)) 2 (gR f 2))) BX6_readWay
theorem kX6_readWay : SND yX6_readWay cX6_readWay 4 (some .boolean) 4 [(0, 2), (1, 2), (2, 2)] cvoI DX6_readWay := snd_Z (nw := 3) (by decide) rfl rfl (fun _ _ => rfl) sBX6_readWay
theorem dX6_readLine_0 : decode cX6_readLine 0 = .ok (.aload_n 2, 1) := by decide +kernel
theorem dX6_readLine_1 : decode cX6_readLine 1 = .ok (.getfield 42, 3) := by decide +kernel
theorem dX6_readLine_4 : decode cX6_readLine 4 = .ok (.ifCond .ne 10, 3) := by decide +kernel
theorem dX6_readLine_7 : decode cX6_readLine 7 = .ok (.aload_n 0, 1) := by decide +kernel
theorem dX6_readLine_8 : decode cX6_readLine 8 = .ok (.aload_n 1, 1) := by decide +kernel
theorem dX6_readLine_9 : decode cX6_readLine 9 = .ok (.aload_n 2, 1) := by decide +kernel
theorem dX6_readLine_10 : decode cX6_readLine 10 = .ok (.invokevirtual 57, 3) := by decide +kernel
theorem dX6_readLine_13 : decode cX6_readLine 13 = .ok (.ireturn, 1) := by decide +kernel
theorem dX6_readLine_14 : decode cX6_readLine 14 = .ok (.aload_n 1, 1) := by decide +kernel
theorem dX6_readLine_15 : decode cX6_readLine 15 = .ok (.ldc 60, 2) := by decide +kernel
theorem dX6_readLine_17 : decode cX6_readLine 17 = .ok (.invokevirtual 62, 3) := by decide +kernel
theorem dX6_readLine_20 : decode cX6_readLine 20 = .ok (.ifCond .eq 32, 3) := by decide +kernel
theorem dX6_readLine_23 : decode cX6_readLine 23 = .ok (.aload_n 0, 1) := by decide +kernel
theorem dX6_readLine_24 : decode cX6_readLine 24 = .ok (.aload_n 1, 1) := by decide +kernel
theorem dX6_readLine_25 : decode cX6_readLine 25 = .ok (.aload_n 2, 1) := by decide +kernel
theorem dX6_readLine_26 : decode cX6_readLine 26 = .ok (.getfield 66, 3) := by decide +kernel
theorem dX6_readLine_29 : decode cX6_readLine 29 = .ok (.bipush 8, 2) := by decide +kernel
theorem dX6_readLine_31 : decode cX6_readLine 31 = .ok (.invokevirtual 69, 3) := by decide +kernel
theorem dX6_readLine_34 : decode cX6_readLine 34 = .ok (.ifCond .eq 16, 3) := by decide +kernel
theorem dX6_readLine_37 : decode cX6_readLine 37 = .ok (.aload_n 0, 1) := by decide +kernel
theorem dX6_readLine_38 : decode cX6_readLine 38 = .ok (.aload_n 1, 1) := by decide +kernel
theorem dX6_readLine_39 : decode cX6_readLine 39 = .ok (.aload_n 2, 1) := by decide +kernel
theorem dX6_readLine_40 : decode cX6_readLine 40 = .ok (.invokevirtual 73, 3) := by decide +kernel
theorem dX6_readLine_43 : decode cX6_readLine 43 = .ok (.ifCond .eq 7, 3) := by decide +kernel
theorem dX6_readLine_46 : decode cX6_readLine 46 = .ok (.iconst 1, 1) := by decide +kernel
theorem dX6_readLine_47 : decode cX6_readLine 47 = .ok (.goto 4, 3) := by decide +kernel
theorem dX6_readLine_50 : decode cX6_readLine 50 = .ok (.iconst 0, 1) := by decide +kernel
theorem dX6_readLine_51 : decode cX6_readLine 51 = .ok (.ireturn, 1) := by decide +kernel
theorem dX6_readLine_52 : decode cX6_readLine 52 = .ok (.aload_n 1, 1) := by decide +kernel
theorem dX6_readLine_53 : decode cX6_readLine 53 = .ok (.ldc 76, 2) := by decide +kernel
theorem dX6_readLine_55 : decode cX6_readLine 55 = .ok (.invokevirtual 62, 3) := by decide +kernel
theorem dX6_readLine_58 : decode cX6_readLine 58 = .ok (.ifCond .eq 32, 3) := by decide +kernel
theorem dX6_readLine_61 : decode cX6_readLine 61 = .ok (.aload_n 0, 1) := by decide +kernel
theorem dX6_readLine_62 : decode cX6_readLine 62 = .ok (.aload_n 1, 1) := by decide +kernel
theorem dX6_readLine_63 : decode cX6_readLine 63 = .ok (.aload_n 2, 1) := by decide +kernel
theorem dX6_readLine_64 : decode cX6_readLine 64 = .ok (.getfield 78, 3) := by decide +kernel
theorem dX6_readLine_67 : decode cX6_readLine 67 = .ok (.bipush 12, 2) := by decide +kernel
theorem dX6_readLine_69 : decode cX6_readLine 69 = .ok (.invokevirtual 69, 3) := by decide +kernel
theorem dX6_readLine_72 : decode cX6_readLine 72 = .ok (.ifCond .eq 16, 3) := by decide +kernel
theorem dX6_readLine_75 : decode cX6_readLine 75 = .ok (.aload_n 0, 1) := by decide +kernel
theorem dX6_readLine_76 : decode cX6_readLine 76 = .ok (.aload_n 1, 1) := by decide +kernel
theorem dX6_readLine_77 : decode cX6_readLine 77 = .ok (.aload_n 2, 1) := by decide +kernel
theorem dX6_readLine_78 : decode cX6_readLine 78 = .ok (.invokevirtual 81, 3) := by decide +kernel
theorem dX6_readLine_81 : decode cX6_readLine 81 = .ok (.ifCond .eq 7, 3) := by decide +kernel
theorem dX6_readLine_84 : decode cX6_readLine 84 = .ok (.iconst 1, 1) := by decide +kernel
theorem dX6_readLine_85 : decode cX6_readLine 85 = .ok (.goto 4, 3) := by decide +kernel
theorem dX6_readLine_88 : decode cX6_readLine 88 = .ok (.iconst 0, 1) := by decide +kernel
theorem dX6_readLine_89 : decode cX6_readLine 89 = .ok (.ireturn, 1) := by decide +kernel
theorem dX6_readLine_90 : decode cX6_readLine 90 = .ok (.aload_n 1, 1) := by decide +kernel
theorem dX6_readLine_91 : decode cX6_readLine 91 = .ok (.ldc 84, 2) := by decide +kernel
theorem dX6_readLine_93 : decode cX6_readLine 93 = .ok (.invokevirtual 62, 3) := by decide +kernel
theorem dX6_readLine_96 : decode cX6_readLine 96 = .ok (.ifCond .eq 31, 3) := by decide +kernel
theorem dX6_readLine_99 : decode cX6_readLine 99 = .ok (.aload_n 0, 1) := by decide +kernel
theorem dX6_readLine_100 : decode cX6_readLine 100 = .ok (.aload_n 1, 1) := by decide +kernel
theorem dX6_readLine_101 : decode cX6_readLine 101 = .ok (.aload_n 2, 1) := by decide +kernel
theorem dX6_readLine_102 : decode cX6_readLine 102 = .ok (.getfield 86, 3) := by decide +kernel
theorem dX6_readLine_105 : decode cX6_readLine 105 = .ok (.iconst 5, 1) := by decide +kernel
theorem dX6_readLine_106 : decode cX6_readLine 106 = .ok (.invokevirtual 69, 3) := by decide +kernel
theorem dX6_readLine_109 : decode cX6_readLine 109 = .ok (.ifCond .eq 16, 3) := by decide +kernel
theorem dX6_readLine_112 : decode cX6_readLine 112 = .ok (.aload_n 0, 1) := by decide +kernel
theorem dX6_readLine_113 : decode cX6_readLine 113 = .ok (.aload_n 1, 1) := by decide +kernel
theorem dX6_readLine_114 : decode cX6_readLine 114 = .ok (.aload_n 2, 1) := by decide +kernel
theorem dX6_readLine_115 : decode cX6_readLine 115 = .ok (.invokevirtual 89, 3) := by decide +kernel
theorem dX6_readLine_118 : decode cX6_readLine 118 = .ok (.ifCond .eq 7, 3) := by decide +kernel
theorem dX6_readLine_121 : decode cX6_readLine 121 = .ok (.iconst 1, 1) := by decide +kernel
theorem dX6_readLine_122 : decode cX6_readLine 122 = .ok (.goto 4, 3) := by decide +kernel
theorem dX6_readLine_125 : decode cX6_readLine 125 = .ok (.iconst 0, 1) := by decide +kernel
theorem dX6_readLine_126 : decode cX6_readLine 126 = .ok (.ireturn, 1) := by decide +kernel
theorem dX6_readLine_127 : decode cX6_readLine 127 = .ok (.aload_n 1, 1) := by decide +kernel
theorem dX6_readLine_128 : decode cX6_readLine 128 = .ok (.ldc 92, 2) := by decide +kernel
theorem dX6_readLine_130 : decode cX6_readLine 130 = .ok (.invokevirtual 62, 3) := by decide +kernel
theorem dX6_readLine_133 : decode cX6_readLine 133 = .ok (.ifCond .eq 31, 3) := by decide +kernel
theorem dX6_readLine_136 : decode cX6_readLine 136 = .ok (.aload_n 0, 1) := by decide +kernel
theorem dX6_readLine_137 : decode cX6_readLine 137 = .ok (.aload_n 1, 1) := by decide +kernel
theorem dX6_readLine_138 : decode cX6_readLine 138 = .ok (.aload_n 2, 1) := by decide +kernel
theorem dX6_readLine_139 : decode cX6_readLine 139 = .ok (.getfield 94, 3) := by decide +kernel
theorem dX6_readLine_142 : decode cX6_readLine 142 = .ok (.iconst 3, 1) := by decide +kernel
theorem dX6_readLine_143 : decode cX6_readLine 143 = .ok (.invokevirtual 69, 3) := by decide +kernel
theorem dX6_readLine_146 : decode cX6_readLine 146 = .ok (.ifCond .eq 16, 3) := by decide +kernel
theorem dX6_readLine_149 : decode cX6_readLine 149 = .ok (.aload_n 0, 1) := by decide +kernel
theorem dX6_readLine_150 : decode cX6_readLine 150 = .ok (.aload_n 1, 1) := by decide +kernel
theorem dX6_readLine_151 : decode cX6_readLine 151 = .ok (.aload_n 2, 1) := by decide +kernel
theorem dX6_readLine_152 : decode cX6_readLine 152 = .ok (.invokevirtual 97, 3) := by decide +kernel
theorem dX6_readLine_155 : decode cX6_readLine 155 = .ok (.ifCond .eq 7, 3) := by decide +kernel
theorem dX6_readLine_158 : decode cX6_readLine 158 = .ok (.iconst 1, 1) := by decide +kernel
theorem dX6_readLine_159 : decode cX6_readLine 159 = .ok (.goto 4, 3) := by decide +kernel
theorem dX6_readLine_162 : decode cX6_readLine 162 = .ok (.iconst 0, 1) := by decide +kernel
theorem dX6_readLine_163 : decode cX6_readLine 163 = .ok (.ireturn, 1) := by decide +kernel
theorem dX6_readLine_164 : decode cX6_readLine 164 = .ok (.aload_n 1, 1) := by decide +kernel
theorem dX6_readLine_165 : decode cX6_readLine 165 = .ok (.ldc 100, 2) := by decide +kernel
theorem dX6_readLine_167 : decode cX6_readLine 167 = .ok (.invokevirtual 62, 3) := by decide +kernel
theorem dX6_readLine_170 : decode cX6_readLine 170 = .ok (.ifCond .eq 35, 3) := by decide +kernel
theorem dX6_readLine_173 : decode cX6_readLine 173 = .ok (.aload_n 0, 1) := by decide +kernel
theorem dX6_readLine_174 : decode cX6_readLine 174 = .ok (.aload_n 1, 1) := by decide +kernel
theorem dX6_readLine_175 : decode cX6_readLine 175 = .ok (.aload_n 2, 1) := by decide +kernel
theorem dX6_readLine_176 : decode cX6_readLine 176 = .ok (.getfield 45, 3) := by decide +kernel
theorem dX6_readLine_179 : decode cX6_readLine 179 = .ok (.getfield 49, 3) := by decide +kernel
theorem dX6_readLine_182 : decode cX6_readLine 182 = .ok (.bipush 12, 2) := by decide +kernel
theorem dX6_readLine_184 : decode cX6_readLine 184 = .ok (.invokevirtual 69, 3) := by decide +kernel
theorem dX6_readLine_187 : decode cX6_readLine 187 = .ok (.ifCond .eq 16, 3) := by decide +kernel
theorem dX6_readLine_190 : decode cX6_readLine 190 = .ok (.aload_n 0, 1) := by decide +kernel
theorem dX6_readLine_191 : decode cX6_readLine 191 = .ok (.aload_n 1, 1) := by decide +kernel
theorem dX6_readLine_192 : decode cX6_readLine 192 = .ok (.aload_n 2, 1) := by decide +kernel
theorem dX6_readLine_193 : decode cX6_readLine 193 = .ok (.invokevirtual 102, 3) := by decide +kernel
theorem dX6_readLine_196 : decode cX6_readLine 196 = .ok (.ifCond .eq 7, 3) := by decide +kernel
theorem dX6_readLine_199 : decode cX6_readLine 199 = .ok (.iconst 1, 1) := by decide +kernel
theorem dX6_readLine_200 : decode cX6_readLine 200 = .ok (.goto 4, 3) := by decide +kernel
theorem dX6_readLine_203 : decode cX6_readLine 203 = .ok (.iconst 0, 1) := by decide +kernel
theorem dX6_readLine_204 : decode cX6_readLine 204 = .ok (.ireturn, 1) := by decide +kernel
theorem dX6_readLine_205 : decode cX6_readLine 205 = .ok (.aload_n 0, 1) := by decide +kernel
theorem dX6_readLine_206 : decode cX6_readLine 206 = .ok (.aload_n 1, 1) := by decide +kernel
theorem dX6_readLine_207 : decode cX6_readLine 207 = .ok (.iconst 1, 1) := by decide +kernel
theorem dX6_readLine_208 : decode cX6_readLine 208 = .ok (.invokevirtual 105, 3) := by decide +kernel
theorem dX6_readLine_211 : decode cX6_readLine 211 = .ok (.ireturn, 1) := by decide +kernel
theorem mokX6_readLine : MOK yX6_readLine cX6_readLine 3 (some .boolean) 2 := ⟨w5_126, w1_3, ⟨by decide, by decide⟩, by decide +kernel, by decide⟩
abbrev miX6_readLine : MI := (yX6_readLine.cls, cX6_readLine, 3, 8, false)
noncomputable def BX6_readLine : Sm Int32 := (dSeq (dIf (dCZ q_eq (dGI 5 0 (vR 2))) (dRet (dCallV 6 DX6_readPort (aR (aR (aR aN 0 (vR 0)) 1 (vR 1)) 2 (vR 2)))) dSkip) (dSeq (dIf (dCZ q_ne (dCallV 9 DX9_isAt (aR (aR aN 0 (vR 1)) 1 (cR 7)))) (dRet (dB (dAnd (dCZ q_ne (dCallV 6 DX6_hasRoom (aI (aI (aR (aR aN 0 (vR 0)) 1 (vR 1)) 2 (dGI 5 4 (vR 2))) 3 (cI 8)))) (dCZ q_ne (dCallV 6 DX6_readHouse (aR (aR (aR aN 0 (vR 0)) 1 (vR 1)) 2 (vR 2))))))) dSkip) (dSeq (dIf (dCZ q_ne (dCallV 9 DX9_isAt (aR (aR aN 0 (vR 1)) 1 (cR 9)))) (dRet (dB (dAnd (dCZ q_ne (dCallV 6 DX6_hasRoom (aI (aI (aR (aR aN 0 (vR 0)) 1 (vR 1)) 2 (dGI 5 5 (vR 2))) 3 (cI 12)))) (dCZ q_ne (dCallV 6 DX6_readWay (aR (aR (aR aN 0 (vR 0)) 1 (vR 1)) 2 (vR 2))))))) dSkip) (dSeq (dIf (dCZ q_ne (dCallV 9 DX9_isAt (aR (aR aN 0 (vR 1)) 1 (cR 10)))) (dRet (dB (dAnd (dCZ q_ne (dCallV 6 DX6_hasRoom (aI (aI (aR (aR aN 0 (vR 0)) 1 (vR 1)) 2 (dGI 5 6 (vR 2))) 3 (cI 5)))) (dCZ q_ne (dCallV 6 DX6_readCarrier (aR (aR (aR aN 0 (vR 0)) 1 (vR 1)) 2 (vR 2))))))) dSkip) (dSeq (dIf (dCZ q_ne (dCallV 9 DX9_isAt (aR (aR aN 0 (vR 1)) 1 (cR 13)))) (dRet (dB (dAnd (dCZ q_ne (dCallV 6 DX6_hasRoom (aI (aI (aR (aR aN 0 (vR 0)) 1 (vR 1)) 2 (dGI 5 7 (vR 2))) 3 (cI 3)))) (dCZ q_ne (dCallV 6 DX6_readSlate (aR (aR (aR aN 0 (vR 0)) 1 (vR 1)) 2 (vR 2))))))) dSkip) (dSeq (dIf (dCZ q_ne (dCallV 9 DX9_isAt (aR (aR aN 0 (vR 1)) 1 (cR 15)))) (dRet (dB (dAnd (dCZ q_ne (dCallV 6 DX6_hasRoom (aI (aI (aR (aR aN 0 (vR 0)) 1 (vR 1)) 2 (dGI 1 1 (dGR 5 16 (vR 2)))) 3 (cI 12)))) (dCZ q_ne (dCallV 6 DX6_readCarry (aR (aR (aR aN 0 (vR 0)) 1 (vR 1)) 2 (vR 2))))))) dSkip) (dRet (dCallV 6 DX6_fail (aI (aR (aR aN 0 (vR 0)) 1 (vR 1)) 2 (cI 1))))))))))
theorem sBX6_readLine : SS (cvoI, .ireturn) miX6_readLine [] [] [] [(0, 2), (1, 2), (2, 2)] [(0, 2), (1, 2), (2, 2)] 0 [] BX6_readLine := (t_sq (p1 := 14) (Γ' := [(0, 2), (1, 2), (2, 2)]) (t_if (pT := 7) (pF := 14) (X := [14]) (XA := []) (XB := [14]) (c_eq_ZF (pF := 14) (s_getI ck5 0 (by decide) rfl (s_aload_n dX6_readLine_0 rfl rfl) dX6_readLine_1 w1_125) dX6_readLine_4 rfl) (t_ret (cv := cvI) (fun _ _ => rfl) (s_of_xI (x_callV (ts := [(0, 2), (1, 2), (2, 2)]) ck6 rfl kX6_readPort mokX6_readPort w5_129 ps2_5 rfl rfl rfl rfl (a_R (ts := [(0, 2), (1, 2)]) 2 (a_R (ts := [(0, 2)]) 1 (a_R (ts := []) 0 a_nil (s_aload_n dX6_readLine_7 rfl rfl) rfl) (s_aload_n dX6_readLine_8 rfl rfl) rfl) (s_aload_n dX6_readLine_9 rfl rfl) rfl) dX6_readLine_10 w5_127)) dX6_readLine_13) (t_skip (ld_in rfl) rfl) lda_nil (lda_cons (ld_in rfl) lda_nil)) (t_sq (p1 := 52) (Γ' := [(0, 2), (1, 2), (2, 2)]) (t_if (pT := 23) (pF := 52) (X := [52]) (XA := []) (XB := [52]) (c_ne_ZF (pF := 52) (s_of_xI (x_callV (ts := [(0, 2), (1, 2)]) ck9 rfl kX9_isAt mokX9_isAt w5_137 w5_138 rfl rfl rfl rfl (a_R (ts := [(0, 2)]) 1 (a_R (ts := []) 0 a_nil (s_aload_n dX6_readLine_14 rfl rfl) rfl) (s_ldcS 4 dX6_readLine_15 (by decide) rfl rfl) rfl) dX6_readLine_17 w5_136)) dX6_readLine_20 rfl) (t_ret (cv := cvI) (fun _ _ => rfl) (s_B (pT := 46) (pF := 50) (pe := 51) (c_and (p1 := 37) (pT := 46) (pF := 50) (c_ne_ZF (pF := 50) (s_of_xI (x_callV (ts := [(0, 2), (1, 2), (2, 0), (3, 0)]) ck6 rfl kX6_hasRoom mokX6_hasRoom w5_206 ps2_10 rfl rfl rfl rfl (a_I (ts := [(0, 2), (1, 2), (2, 0)]) 3 (a_I (ts := [(0, 2), (1, 2)]) 2 (a_R (ts := [(0, 2)]) 1 (a_R (ts := []) 0 a_nil (s_aload_n dX6_readLine_23 rfl rfl) rfl) (s_aload_n dX6_readLine_24 rfl rfl) rfl) (s_getI ck5 4 (by decide) rfl (s_aload_n dX6_readLine_25 rfl rfl) dX6_readLine_26 w1_145) rfl) (s_bipush dX6_readLine_29 rfl) rfl) dX6_readLine_31 w5_204)) dX6_readLine_34 rfl) (c_ne_ZF (pF := 50) (s_of_xI (x_callV (ts := [(0, 2), (1, 2), (2, 2)]) ck6 rfl kX6_readHouse mokX6_readHouse w5_210 ps2_11 rfl rfl rfl rfl (a_R (ts := [(0, 2), (1, 2)]) 2 (a_R (ts := [(0, 2)]) 1 (a_R (ts := []) 0 a_nil (s_aload_n dX6_readLine_37 rfl rfl) rfl) (s_aload_n dX6_readLine_38 rfl rfl) rfl) (s_aload_n dX6_readLine_39 rfl rfl) rfl) dX6_readLine_40 w5_208)) dX6_readLine_43 rfl)) dX6_readLine_46 dX6_readLine_47 rfl dX6_readLine_50 rfl) dX6_readLine_51) (t_skip (ld_in rfl) rfl) lda_nil (lda_cons (ld_in rfl) lda_nil)) (t_sq (p1 := 90) (Γ' := [(0, 2), (1, 2), (2, 2)]) (t_if (pT := 61) (pF := 90) (X := [90]) (XA := []) (XB := [90]) (c_ne_ZF (pF := 90) (s_of_xI (x_callV (ts := [(0, 2), (1, 2)]) ck9 rfl kX9_isAt mokX9_isAt w5_137 w5_138 rfl rfl rfl rfl (a_R (ts := [(0, 2)]) 1 (a_R (ts := []) 0 a_nil (s_aload_n dX6_readLine_52 rfl rfl) rfl) (s_ldcS 6 dX6_readLine_53 (by decide) rfl rfl) rfl) dX6_readLine_55 w5_136)) dX6_readLine_58 rfl) (t_ret (cv := cvI) (fun _ _ => rfl) (s_B (pT := 84) (pF := 88) (pe := 89) (c_and (p1 := 75) (pT := 84) (pF := 88) (c_ne_ZF (pF := 88) (s_of_xI (x_callV (ts := [(0, 2), (1, 2), (2, 0), (3, 0)]) ck6 rfl kX6_hasRoom mokX6_hasRoom w5_206 ps2_10 rfl rfl rfl rfl (a_I (ts := [(0, 2), (1, 2), (2, 0)]) 3 (a_I (ts := [(0, 2), (1, 2)]) 2 (a_R (ts := [(0, 2)]) 1 (a_R (ts := []) 0 a_nil (s_aload_n dX6_readLine_61 rfl rfl) rfl) (s_aload_n dX6_readLine_62 rfl rfl) rfl) (s_getI ck5 5 (by decide) rfl (s_aload_n dX6_readLine_63 rfl rfl) dX6_readLine_64 w1_151) rfl) (s_bipush dX6_readLine_67 rfl) rfl) dX6_readLine_69 w5_204)) dX6_readLine_72 rfl) (c_ne_ZF (pF := 88) (s_of_xI (x_callV (ts := [(0, 2), (1, 2), (2, 2)]) ck6 rfl kX6_readWay mokX6_readWay w5_217 ps2_12 rfl rfl rfl rfl (a_R (ts := [(0, 2), (1, 2)]) 2 (a_R (ts := [(0, 2)]) 1 (a_R (ts := []) 0 a_nil (s_aload_n dX6_readLine_75 rfl rfl) rfl) (s_aload_n dX6_readLine_76 rfl rfl) rfl) (s_aload_n dX6_readLine_77 rfl rfl) rfl) dX6_readLine_78 w5_215)) dX6_readLine_81 rfl)) dX6_readLine_84 dX6_readLine_85 rfl dX6_readLine_88 rfl) dX6_readLine_89) (t_skip (ld_in rfl) rfl) lda_nil (lda_cons (ld_in rfl) lda_nil)) (t_sq (p1 := 127) (Γ' := [(0, 2), (1, 2), (2, 2)]) (t_if (pT := 99) (pF := 127) (X := [127]) (XA := []) (XB := [127]) (c_ne_ZF (pF := 127) (s_of_xI (x_callV (ts := [(0, 2), (1, 2)]) ck9 rfl kX9_isAt mokX9_isAt w5_137 w5_138 rfl rfl rfl rfl (a_R (ts := [(0, 2)]) 1 (a_R (ts := []) 0 a_nil (s_aload_n dX6_readLine_90 rfl rfl) rfl) (s_ldcS 7 dX6_readLine_91 (by decide) rfl rfl) rfl) dX6_readLine_93 w5_136)) dX6_readLine_96 rfl) (t_ret (cv := cvI) (fun _ _ => rfl) (s_B (pT := 121) (pF := 125) (pe := 126) (c_and (p1 := 112) (pT := 121) (pF := 125) (c_ne_ZF (pF := 125) (s_of_xI (x_callV (ts := [(0, 2), (1, 2), (2, 0), (3, 0)]) ck6 rfl kX6_hasRoom mokX6_hasRoom w5_206 ps2_10 rfl rfl rfl rfl (a_I (ts := [(0, 2), (1, 2), (2, 0)]) 3 (a_I (ts := [(0, 2), (1, 2)]) 2 (a_R (ts := [(0, 2)]) 1 (a_R (ts := []) 0 a_nil (s_aload_n dX6_readLine_99 rfl rfl) rfl) (s_aload_n dX6_readLine_100 rfl rfl) rfl) (s_getI ck5 6 (by decide) rfl (s_aload_n dX6_readLine_101 rfl rfl) dX6_readLine_102 w1_155) rfl) (s_iconst dX6_readLine_105 rfl) rfl) dX6_readLine_106 w5_204)) dX6_readLine_109 rfl) (c_ne_ZF (pF := 125) (s_of_xI (x_callV (ts := [(0, 2), (1, 2), (2, 2)]) ck6 rfl kX6_readCarrier mokX6_readCarrier w5_222 ps2_13 rfl rfl rfl rfl (a_R (ts := [(0, 2), (1, 2)]) 2 (a_R (ts := [(0, 2)]) 1 (a_R (ts := []) 0 a_nil (s_aload_n dX6_readLine_112 rfl rfl) rfl) (s_aload_n dX6_readLine_113 rfl rfl) rfl) (s_aload_n dX6_readLine_114 rfl rfl) rfl) dX6_readLine_115 w5_220)) dX6_readLine_118 rfl)) dX6_readLine_121 dX6_readLine_122 rfl dX6_readLine_125 rfl) dX6_readLine_126) (t_skip (ld_in rfl) rfl) lda_nil (lda_cons (ld_in rfl) lda_nil)) (t_sq (p1 := 164) (Γ' := [(0, 2), (1, 2), (2, 2)]) (t_if (pT := 136) (pF := 164) (X := [164]) (XA := []) (XB := [164]) (c_ne_ZF (pF := 164) (s_of_xI (x_callV (ts := [(0, 2), (1, 2)]) ck9 rfl kX9_isAt mokX9_isAt w5_137 w5_138 rfl rfl rfl rfl (a_R (ts := [(0, 2)]) 1 (a_R (ts := []) 0 a_nil (s_aload_n dX6_readLine_127 rfl rfl) rfl) (s_ldcS 10 dX6_readLine_128 (by decide) rfl rfl) rfl) dX6_readLine_130 w5_136)) dX6_readLine_133 rfl) (t_ret (cv := cvI) (fun _ _ => rfl) (s_B (pT := 158) (pF := 162) (pe := 163) (c_and (p1 := 149) (pT := 158) (pF := 162) (c_ne_ZF (pF := 162) (s_of_xI (x_callV (ts := [(0, 2), (1, 2), (2, 0), (3, 0)]) ck6 rfl kX6_hasRoom mokX6_hasRoom w5_206 ps2_10 rfl rfl rfl rfl (a_I (ts := [(0, 2), (1, 2), (2, 0)]) 3 (a_I (ts := [(0, 2), (1, 2)]) 2 (a_R (ts := [(0, 2)]) 1 (a_R (ts := []) 0 a_nil (s_aload_n dX6_readLine_136 rfl rfl) rfl) (s_aload_n dX6_readLine_137 rfl rfl) rfl) (s_getI ck5 7 (by decide) rfl (s_aload_n dX6_readLine_138 rfl rfl) dX6_readLine_139 w1_159) rfl) (s_iconst dX6_readLine_142 rfl) rfl) dX6_readLine_143 w5_204)) dX6_readLine_146 rfl) (c_ne_ZF (pF := 162) (s_of_xI (x_callV (ts := [(0, 2), (1, 2), (2, 2)]) ck6 rfl kX6_readSlate mokX6_readSlate w5_229 ps2_14 rfl rfl rfl rfl (a_R (ts := [(0, 2), (1, 2)]) 2 (a_R (ts := [(0, 2)]) 1 (a_R (ts := []) 0 a_nil (s_aload_n dX6_readLine_149 rfl rfl) rfl) (s_aload_n dX6_readLine_150 rfl rfl) rfl) (s_aload_n dX6_readLine_151 rfl rfl) rfl) dX6_readLine_152 w5_227)) dX6_readLine_155 rfl)) dX6_readLine_158 dX6_readLine_159 rfl dX6_readLine_162 rfl) dX6_readLine_163) (t_skip (ld_in rfl) rfl) lda_nil (lda_cons (ld_in rfl) lda_nil)) (t_sq (p1 := 205) (Γ' := [(0, 2), (1, 2), (2, 2)]) (t_if (pT := 173) (pF := 205) (X := [205]) (XA := []) (XB := [205]) (c_ne_ZF (pF := 205) (s_of_xI (x_callV (ts := [(0, 2), (1, 2)]) ck9 rfl kX9_isAt mokX9_isAt w5_137 w5_138 rfl rfl rfl rfl (a_R (ts := [(0, 2)]) 1 (a_R (ts := []) 0 a_nil (s_aload_n dX6_readLine_164 rfl rfl) rfl) (s_ldcS 12 dX6_readLine_165 (by decide) rfl rfl) rfl) dX6_readLine_167 w5_136)) dX6_readLine_170 rfl) (t_ret (cv := cvI) (fun _ _ => rfl) (s_B (pT := 199) (pF := 203) (pe := 204) (c_and (p1 := 190) (pT := 199) (pF := 203) (c_ne_ZF (pF := 203) (s_of_xI (x_callV (ts := [(0, 2), (1, 2), (2, 0), (3, 0)]) ck6 rfl kX6_hasRoom mokX6_hasRoom w5_206 ps2_10 rfl rfl rfl rfl (a_I (ts := [(0, 2), (1, 2), (2, 0)]) 3 (a_I (ts := [(0, 2), (1, 2)]) 2 (a_R (ts := [(0, 2)]) 1 (a_R (ts := []) 0 a_nil (s_aload_n dX6_readLine_173 rfl rfl) rfl) (s_aload_n dX6_readLine_174 rfl rfl) rfl) (s_getI ck1 1 (by decide) rfl (s_getR ck5 16 (by decide) rfl (s_aload_n dX6_readLine_175 rfl rfl) dX6_readLine_176 w1_183) dX6_readLine_179 w1_88) rfl) (s_bipush dX6_readLine_182 rfl) rfl) dX6_readLine_184 w5_204)) dX6_readLine_187 rfl) (c_ne_ZF (pF := 203) (s_of_xI (x_callV (ts := [(0, 2), (1, 2), (2, 2)]) ck6 rfl kX6_readCarry mokX6_readCarry w5_235 ps2_15 rfl rfl rfl rfl (a_R (ts := [(0, 2), (1, 2)]) 2 (a_R (ts := [(0, 2)]) 1 (a_R (ts := []) 0 a_nil (s_aload_n dX6_readLine_190 rfl rfl) rfl) (s_aload_n dX6_readLine_191 rfl rfl) rfl) (s_aload_n dX6_readLine_192 rfl rfl) rfl) dX6_readLine_193 w5_233)) dX6_readLine_196 rfl)) dX6_readLine_199 dX6_readLine_200 rfl dX6_readLine_203 rfl) dX6_readLine_204) (t_skip (ld_in rfl) rfl) lda_nil (lda_cons (ld_in rfl) lda_nil)) (t_ret (cv := cvI) (fun _ _ => rfl) (s_of_xI (x_callV (ts := [(0, 2), (1, 2), (2, 0)]) ck6 rfl kX6_fail mokX6_fail w5_190 ps2_7 rfl rfl rfl rfl (a_I (ts := [(0, 2), (1, 2)]) 2 (a_R (ts := [(0, 2)]) 1 (a_R (ts := []) 0 a_nil (s_aload_n dX6_readLine_205 rfl rfl) rfl) (s_aload_n dX6_readLine_206 rfl rfl) rfl) (s_iconst dX6_readLine_207 rfl) rfl) dX6_readLine_208 w5_188)) dX6_readLine_211)))))))
noncomputable def DX6_readLine : Fr → St → Option (Int32 × St) := MZ (fun f => (sR (sR (sR fr0 0 (gR f 0)) 1 (gR f 1)) 2 (gR f 2))) BX6_readLine
theorem kX6_readLine : SND yX6_readLine cX6_readLine 3 (some .boolean) 8 [(0, 2), (1, 2), (2, 2)] cvoI DX6_readLine := snd_Z (nw := 3) (by decide) rfl rfl (fun _ _ => rfl) sBX6_readLine
theorem dX6_readSign_0 : decode cX6_readSign 0 = .ok (.aload_n 1, 1) := by decide +kernel
theorem dX6_readSign_1 : decode cX6_readSign 1 = .ok (.getfield 31, 3) := by decide +kernel
theorem dX6_readSign_4 : decode cX6_readSign 4 = .ok (.iconst 3, 1) := by decide +kernel
theorem dX6_readSign_5 : decode cX6_readSign 5 = .ok (.if_icmp .eq 10, 3) := by decide +kernel
theorem dX6_readSign_8 : decode cX6_readSign 8 = .ok (.aload_n 0, 1) := by decide +kernel
theorem dX6_readSign_9 : decode cX6_readSign 9 = .ok (.aload_n 1, 1) := by decide +kernel
theorem dX6_readSign_10 : decode cX6_readSign 10 = .ok (.iconst 1, 1) := by decide +kernel
theorem dX6_readSign_11 : decode cX6_readSign 11 = .ok (.invokevirtual 105, 3) := by decide +kernel
theorem dX6_readSign_14 : decode cX6_readSign 14 = .ok (.ireturn, 1) := by decide +kernel
theorem dX6_readSign_15 : decode cX6_readSign 15 = .ok (.aload_n 1, 1) := by decide +kernel
theorem dX6_readSign_16 : decode cX6_readSign 16 = .ok (.invokevirtual 28, 3) := by decide +kernel
theorem dX6_readSign_19 : decode cX6_readSign 19 = .ok (.iconst 1, 1) := by decide +kernel
theorem dX6_readSign_20 : decode cX6_readSign 20 = .ok (.ireturn, 1) := by decide +kernel
theorem mokX6_readSign : MOK yX6_readSign cX6_readSign 2 (some .boolean) 1 := ⟨w6_2, w1_3, ⟨by decide, by decide⟩, by decide +kernel, by decide⟩
abbrev miX6_readSign : MI := (yX6_readSign.cls, cX6_readSign, 2, 3, false)
noncomputable def BX6_readSign : Sm Int32 := (dSeq (dIf (dCI r_ne (dGI 9 2 (vR 1)) (cI 3)) (dRet (dCallV 6 DX6_fail (aI (aR (aR aN 0 (vR 0)) 1 (vR 1)) 2 (cI 1)))) dSkip) (dSeq (dDo (dCallV 9 DX9_next (aR aN 0 (vR 1)))) (dRet (cI 1))))
theorem sBX6_readSign : SS (cvoI, .ireturn) miX6_readSign [] [] [] [(0, 2), (1, 2)] [(0, 2), (1, 2)] 0 [] BX6_readSign := (t_sq (p1 := 15) (Γ' := [(0, 2), (1, 2)]) (t_if (pT := 8) (pF := 15) (X := [15]) (XA := []) (XB := [15]) (c_ne_F (pF := 15) (s_getI ck9 2 (by decide) rfl (s_aload_n dX6_readSign_0 rfl rfl) dX6_readSign_1 w1_38) (s_iconst dX6_readSign_4 rfl) dX6_readSign_5 rfl) (t_ret (cv := cvI) (fun _ _ => rfl) (s_of_xI (x_callV (ts := [(0, 2), (1, 2), (2, 0)]) ck6 rfl kX6_fail mokX6_fail w5_190 ps2_7 rfl rfl rfl rfl (a_I (ts := [(0, 2), (1, 2)]) 2 (a_R (ts := [(0, 2)]) 1 (a_R (ts := []) 0 a_nil (s_aload_n dX6_readSign_8 rfl rfl) rfl) (s_aload_n dX6_readSign_9 rfl rfl) rfl) (s_iconst dX6_readSign_10 rfl) rfl) dX6_readSign_11 w5_188)) dX6_readSign_14) (t_skip (ld_in rfl) rfl) lda_nil (lda_cons (ld_in rfl) lda_nil)) (t_sq (p1 := 19) (Γ' := [(0, 2), (1, 2)]) (t_do (x_callV (ts := [(0, 2)]) ck9 rfl kX9_next mokX9_next w5_107 w5_108 rfl rfl rfl rfl (a_R (ts := []) 0 a_nil (s_aload_n dX6_readSign_15 rfl rfl) rfl) dX6_readSign_16 w5_106) rfl) (t_ret (cv := cvI) (fun _ _ => rfl) (s_iconst dX6_readSign_19 rfl) dX6_readSign_20)))
noncomputable def DX6_readSign : Fr → St → Option (Int32 × St) := MZ (fun f => (sR (sR fr0 0 (gR f 0)) 1 (gR f 1))) BX6_readSign
theorem kX6_readSign : SND yX6_readSign cX6_readSign 2 (some .boolean) 3 [(0, 2), (1, 2)] cvoI DX6_readSign := snd_Z (nw := 2) (by decide) rfl rfl (fun _ _ => rfl) sBX6_readSign
theorem dX9_rewind_0 : decode cX9_rewind 0 = .ok (.aload_n 0, 1) := by decide +kernel
theorem dX9_rewind_1 : decode cX9_rewind 1 = .ok (.iconst 0, 1) := by decide +kernel
theorem dX9_rewind_2 : decode cX9_rewind 2 = .ok (.putfield 19, 3) := by decide +kernel
theorem dX9_rewind_5 : decode cX9_rewind 5 = .ok (.return_, 1) := by decide +kernel
theorem mokX9_rewind : MOK yX9_rewind cX9_rewind 1 none 0 := ⟨w5_105, w1_2, ⟨by decide, by decide⟩, by decide +kernel, by decide⟩
abbrev miX9_rewind : MI := (yX9_rewind.cls, cX9_rewind, 1, 1, false)
noncomputable def BX9_rewind : Sm Unit := (dSeq (dP (fI 9 5) (vR 0) (cI 0)) dRet0)
theorem sBX9_rewind : SS (cvoV, .return_) miX9_rewind [] [] [] [(0, 2)] [(0, 2)] 0 [] BX9_rewind := (t_sq (p1 := 5) (Γ' := [(0, 2)]) (t_pI ck9 5 (by decide) rfl (Or.inl rfl) (s_aload_n dX9_rewind_0 rfl rfl) (s_iconst dX9_rewind_1 rfl) dX9_rewind_2 w1_44 rfl) (t_ret0 (fun _ _ => rfl) dX9_rewind_5))
noncomputable def DX9_rewind : Fr → St → Option (Unit × St) := M1 (fun f => (sR fr0 0 (gR f 0))) BX9_rewind
theorem kX9_rewind : SND yX9_rewind cX9_rewind 1 none 1 [(0, 2)] cvoV DX9_rewind := snd_V (nw := 1) (by decide) (fun z => by cases z) rfl rfl (fun _ _ => rfl) sBX9_rewind
theorem dX6_read_0 : decode cX6_read 0 = .ok (.aload_n 0, 1) := by decide +kernel
theorem dX6_read_1 : decode cX6_read 1 = .ok (.iconst 0, 1) := by decide +kernel
theorem dX6_read_2 : decode cX6_read 2 = .ok (.putfield 15, 3) := by decide +kernel
theorem dX6_read_5 : decode cX6_read 5 = .ok (.aload_n 0, 1) := by decide +kernel
theorem dX6_read_6 : decode cX6_read 6 = .ok (.iconst (-1), 1) := by decide +kernel
theorem dX6_read_7 : decode cX6_read 7 = .ok (.putfield 9, 3) := by decide +kernel
theorem dX6_read_10 : decode cX6_read 10 = .ok (.aload_n 2, 1) := by decide +kernel
theorem dX6_read_11 : decode cX6_read 11 = .ok (.invokevirtual 18, 3) := by decide +kernel
theorem dX6_read_14 : decode cX6_read 14 = .ok (.aload_n 1, 1) := by decide +kernel
theorem dX6_read_15 : decode cX6_read 15 = .ok (.invokevirtual 23, 3) := by decide +kernel
theorem dX6_read_18 : decode cX6_read 18 = .ok (.aload_n 1, 1) := by decide +kernel
theorem dX6_read_19 : decode cX6_read 19 = .ok (.invokevirtual 28, 3) := by decide +kernel
theorem dX6_read_22 : decode cX6_read 22 = .ok (.iconst 0, 1) := by decide +kernel
theorem dX6_read_23 : decode cX6_read 23 = .ok (.istore_n 3, 1) := by decide +kernel
theorem dX6_read_24 : decode cX6_read 24 = .ok (.iload_n 3, 1) := by decide +kernel
theorem dX6_read_25 : decode cX6_read 25 = .ok (.sipush 800, 3) := by decide +kernel
theorem dX6_read_28 : decode cX6_read 28 = .ok (.if_icmp .gt 45, 3) := by decide +kernel
theorem dX6_read_31 : decode cX6_read 31 = .ok (.aload_n 1, 1) := by decide +kernel
theorem dX6_read_32 : decode cX6_read 32 = .ok (.getfield 31, 3) := by decide +kernel
theorem dX6_read_35 : decode cX6_read 35 = .ok (.ifCond .eq 38, 3) := by decide +kernel
theorem dX6_read_38 : decode cX6_read 38 = .ok (.aload_n 0, 1) := by decide +kernel
theorem dX6_read_39 : decode cX6_read 39 = .ok (.aload_n 1, 1) := by decide +kernel
theorem dX6_read_40 : decode cX6_read 40 = .ok (.aload_n 2, 1) := by decide +kernel
theorem dX6_read_41 : decode cX6_read 41 = .ok (.invokevirtual 34, 3) := by decide +kernel
theorem dX6_read_44 : decode cX6_read 44 = .ok (.ifCond .eq 11, 3) := by decide +kernel
theorem dX6_read_47 : decode cX6_read 47 = .ok (.aload_n 0, 1) := by decide +kernel
theorem dX6_read_48 : decode cX6_read 48 = .ok (.aload_n 1, 1) := by decide +kernel
theorem dX6_read_49 : decode cX6_read 49 = .ok (.invokevirtual 38, 3) := by decide +kernel
theorem dX6_read_52 : decode cX6_read 52 = .ok (.ifCond .ne 5, 3) := by decide +kernel
theorem dX6_read_55 : decode cX6_read 55 = .ok (.iconst 0, 1) := by decide +kernel
theorem dX6_read_56 : decode cX6_read 56 = .ok (.ireturn, 1) := by decide +kernel
theorem dX6_read_57 : decode cX6_read 57 = .ok (.aload_n 2, 1) := by decide +kernel
theorem dX6_read_58 : decode cX6_read 58 = .ok (.dup, 1) := by decide +kernel
theorem dX6_read_59 : decode cX6_read 59 = .ok (.getfield 42, 3) := by decide +kernel
theorem dX6_read_62 : decode cX6_read 62 = .ok (.iconst 1, 1) := by decide +kernel
theorem dX6_read_63 : decode cX6_read 63 = .ok (.iadd, 1) := by decide +kernel
theorem dX6_read_64 : decode cX6_read 64 = .ok (.putfield 42, 3) := by decide +kernel
theorem dX6_read_67 : decode cX6_read 67 = .ok (.iinc 3 1, 3) := by decide +kernel
theorem dX6_read_70 : decode cX6_read 70 = .ok (.goto (-46), 3) := by decide +kernel
theorem dX6_read_73 : decode cX6_read 73 = .ok (.aload_n 2, 1) := by decide +kernel
theorem dX6_read_74 : decode cX6_read 74 = .ok (.getfield 45, 3) := by decide +kernel
theorem dX6_read_77 : decode cX6_read 77 = .ok (.aload_n 2, 1) := by decide +kernel
theorem dX6_read_78 : decode cX6_read 78 = .ok (.getfield 45, 3) := by decide +kernel
theorem dX6_read_81 : decode cX6_read 81 = .ok (.getfield 49, 3) := by decide +kernel
theorem dX6_read_84 : decode cX6_read 84 = .ok (.putfield 54, 3) := by decide +kernel
theorem dX6_read_87 : decode cX6_read 87 = .ok (.iconst 1, 1) := by decide +kernel
theorem dX6_read_88 : decode cX6_read 88 = .ok (.ireturn, 1) := by decide +kernel
theorem mokX6_read : MOK yX6_read cX6_read 4 (some .boolean) 2 := ⟨w5_93, w1_3, ⟨by decide, by decide⟩, by decide +kernel, by decide⟩
abbrev miX6_read : MI := (yX6_read.cls, cX6_read, 4, 9, false)
noncomputable def LX6_read_1 : Sm Int32 := dLoop (fun f => (sI (sR (sR (sR fr0 0 (gR f 0)) 1 (gR f 1)) 2 (gR f 2)) 3 (gI f 3))) (dAnd (dCI r_le (vI 3) (cI 800)) (dCZ q_ne (dGI 9 2 (vR 1)))) (dSeq (dIf (dOr (dNot (dCZ q_ne (dCallV 6 DX6_readLine (aR (aR (aR aN 0 (vR 0)) 1 (vR 1)) 2 (vR 2))))) (dNot (dCZ q_ne (dCallV 6 DX6_readSign (aR (aR aN 0 (vR 0)) 1 (vR 1)))))) (dRet (cI 0)) dSkip) (dUF 5 0 o_iadd (vR 2) (cI 1))) (dInc 3 1)
theorem sLX6_read_1 {ΓL : Gm} {PB PK : List Nat} : SS (cvoI, .ireturn) miX6_read ΓL PB PK [(0, 2), (1, 2), (2, 2), (3, 0)] [(0, 2), (1, 2), (2, 2), (3, 0)] 24 [73] LX6_read_1 := t_loop (pT := 38) (pF := 73) (pu := 67) (PB' := []) (PK' := []) (XB := [67]) (XU := [70]) (fun _ _ => rfl) rfl (c_and (p1 := 31) (pT := 38) (pF := 73) (c_le_F (pF := 73) (s_iload_n dX6_read_24 rfl rfl) (s_sipush dX6_read_25 rfl) dX6_read_28 rfl) (c_ne_ZF (pF := 73) (s_getI ck9 2 (by decide) rfl (s_aload_n dX6_read_31 rfl rfl) dX6_read_32 w1_38) dX6_read_35 rfl)) (t_sq (p1 := 57) (Γ' := [(0, 2), (1, 2), (2, 2), (3, 0)]) (t_if (pT := 55) (pF := 57) (X := [57]) (XA := []) (XB := [57]) (c_or (p1 := 47) (pT := 55) (pF := 57) (c_not (pT := 55) (pF := 47) (c_ne_ZF (pF := 55) (s_of_xI (x_callV (ts := [(0, 2), (1, 2), (2, 2)]) ck6 rfl kX6_readLine mokX6_readLine w5_125 ps2_4 rfl rfl rfl rfl (a_R (ts := [(0, 2), (1, 2)]) 2 (a_R (ts := [(0, 2)]) 1 (a_R (ts := []) 0 a_nil (s_aload_n dX6_read_38 rfl rfl) rfl) (s_aload_n dX6_read_39 rfl rfl) rfl) (s_aload_n dX6_read_40 rfl rfl) rfl) dX6_read_41 w5_123)) dX6_read_44 rfl)) (c_not (pT := 55) (pF := 57) (c_ne_ZJ (pT := 57) (s_of_xI (x_callV (ts := [(0, 2), (1, 2)]) ck6 rfl kX6_readSign mokX6_readSign w6_1 ps3_0 rfl rfl rfl rfl (a_R (ts := [(0, 2)]) 1 (a_R (ts := []) 0 a_nil (s_aload_n dX6_read_47 rfl rfl) rfl) (s_aload_n dX6_read_48 rfl rfl) rfl) dX6_read_49 w5_239)) dX6_read_52 rfl))) (t_ret (cv := cvI) (fun _ _ => rfl) (s_iconst dX6_read_55 rfl) dX6_read_56) (t_skip (ld_in rfl) rfl) lda_nil (lda_cons (ld_in rfl) lda_nil)) (t_UF ck5 0 (by decide) rfl (Or.inl rfl) (s_aload_n dX6_read_57 rfl rfl) dX6_read_58 dX6_read_59 w1_125 (s_iconst dX6_read_62 rfl) (fun _ _ _ _ => rulI fun a b K => lv_iadd a b dX6_read_63 K) dX6_read_64 w1_125 rfl)) (t_iinc dX6_read_67 rfl rfl rfl rfl) (lda_cons (ld_in rfl) lda_nil) lda_nil (lda_cons (ld_goto (y := 24) dX6_read_70 rfl (ld_in rfl)) lda_nil) (ld_in rfl) lda_nil
noncomputable def BX6_read : Sm Int32 := (dSeq (dP (fI 6 0) (vR 0) (cI 0)) (dSeq (dP (fI 6 1) (vR 0) (cI (-1))) (dSeq (dDo (dCallV 5 DX5_clear (aR aN 0 (vR 2)))) (dSeq (dDo (dCallV 9 DX9_rewind (aR aN 0 (vR 1)))) (dSeq (dDo (dCallV 9 DX9_next (aR aN 0 (vR 1)))) (dSeq (dSeq (dSetI 3 (cI 0)) LX6_read_1) (dSeq (dP (fI 1 0) (dGR 5 16 (vR 2)) (dGI 1 1 (dGR 5 16 (vR 2)))) (dRet (cI 1)))))))))
theorem sBX6_read : SS (cvoI, .ireturn) miX6_read [] [] [] [(0, 2), (1, 2), (2, 2)] [(0, 2), (1, 2), (2, 2)] 0 [] BX6_read := (t_sq (p1 := 5) (Γ' := [(0, 2), (1, 2), (2, 2)]) (t_pI ck6 0 (by decide) rfl (Or.inl rfl) (s_aload_n dX6_read_0 rfl rfl) (s_iconst dX6_read_1 rfl) dX6_read_2 w1_65 rfl) (t_sq (p1 := 10) (Γ' := [(0, 2), (1, 2), (2, 2)]) (t_pI ck6 1 (by decide) rfl (Or.inl rfl) (s_aload_n dX6_read_5 rfl rfl) (s_iconst dX6_read_6 rfl) dX6_read_7 w1_66 rfl) (t_sq (p1 := 14) (Γ' := [(0, 2), (1, 2), (2, 2)]) (t_do (x_callV (ts := [(0, 2)]) ck5 rfl kX5_clear mokX5_clear w5_95 w5_96 rfl rfl rfl rfl (a_R (ts := []) 0 a_nil (s_aload_n dX6_read_10 rfl rfl) rfl) dX6_read_11 w5_94) rfl) (t_sq (p1 := 18) (Γ' := [(0, 2), (1, 2), (2, 2)]) (t_do (x_callV (ts := [(0, 2)]) ck9 rfl kX9_rewind mokX9_rewind w5_103 w5_104 rfl rfl rfl rfl (a_R (ts := []) 0 a_nil (s_aload_n dX6_read_14 rfl rfl) rfl) dX6_read_15 w5_102) rfl) (t_sq (p1 := 22) (Γ' := [(0, 2), (1, 2), (2, 2)]) (t_do (x_callV (ts := [(0, 2)]) ck9 rfl kX9_next mokX9_next w5_107 w5_108 rfl rfl rfl rfl (a_R (ts := []) 0 a_nil (s_aload_n dX6_read_18 rfl rfl) rfl) dX6_read_19 w5_106) rfl) (t_sq (p1 := 73) (Γ' := [(0, 2), (1, 2), (2, 2)]) (t_sq (p1 := 24) (Γ' := [(0, 2), (1, 2), (2, 2), (3, 0)]) (t_istore_n (s_iconst dX6_read_22 rfl) dX6_read_23 rfl rfl rfl) (tn_to (Γ' := [(0, 2), (1, 2), (2, 2), (3, 0)]) (XA := [73]) sLX6_read_1 (lda_cons (ld_in rfl) lda_nil) rfl)) (t_sq (p1 := 87) (Γ' := [(0, 2), (1, 2), (2, 2)]) (t_pI ck1 0 (by decide) rfl (Or.inl rfl) (s_getR ck5 16 (by decide) rfl (s_aload_n dX6_read_73 rfl rfl) dX6_read_74 w1_183) (s_getI ck1 1 (by decide) rfl (s_getR ck5 16 (by decide) rfl (s_aload_n dX6_read_77 rfl rfl) dX6_read_78 w1_183) dX6_read_81 w1_88) dX6_read_84 w1_85 rfl) (t_ret (cv := cvI) (fun _ _ => rfl) (s_iconst dX6_read_87 rfl) dX6_read_88))))))))
noncomputable def DX6_read : Fr → St → Option (Int32 × St) := MZ (fun f => (sR (sR (sR fr0 0 (gR f 0)) 1 (gR f 1)) 2 (gR f 2))) BX6_read
theorem kX6_read : SND yX6_read cX6_read 4 (some .boolean) 9 [(0, 2), (1, 2), (2, 2)] cvoI DX6_read := snd_Z (nw := 3) (by decide) rfl rfl (fun _ _ => rfl) sBX6_read
theorem dX11_port_0 : decode cX11_port 0 = .ok (.aload_n 0, 1) := by decide +kernel
theorem dX11_port_1 : decode cX11_port 1 = .ok (.getfield 19, 3) := by decide +kernel
theorem dX11_port_4 : decode cX11_port 4 = .ok (.aload_n 0, 1) := by decide +kernel
theorem dX11_port_5 : decode cX11_port 5 = .ok (.getfield 12, 3) := by decide +kernel
theorem dX11_port_8 : decode cX11_port 8 = .ok (.aload_n 0, 1) := by decide +kernel
theorem dX11_port_9 : decode cX11_port 9 = .ok (.getfield 30, 3) := by decide +kernel
theorem dX11_port_12 : decode cX11_port 12 = .ok (.invokevirtual 97, 3) := by decide +kernel
theorem dX11_port_15 : decode cX11_port 15 = .ok (.istore_n 1, 1) := by decide +kernel
theorem dX11_port_16 : decode cX11_port 16 = .ok (.aload_n 0, 1) := by decide +kernel
theorem dX11_port_17 : decode cX11_port 17 = .ok (.getfield 12, 3) := by decide +kernel
theorem dX11_port_20 : decode cX11_port 20 = .ok (.iconst 0, 1) := by decide +kernel
theorem dX11_port_21 : decode cX11_port 21 = .ok (.putfield 89, 3) := by decide +kernel
theorem dX11_port_24 : decode cX11_port 24 = .ok (.iload_n 1, 1) := by decide +kernel
theorem dX11_port_25 : decode cX11_port 25 = .ok (.ifCond .ne 6, 3) := by decide +kernel
theorem dX11_port_28 : decode cX11_port 28 = .ok (.bipush (-4), 2) := by decide +kernel
theorem dX11_port_30 : decode cX11_port 30 = .ok (.ireturn, 1) := by decide +kernel
theorem dX11_port_31 : decode cX11_port 31 = .ok (.aload_n 0, 1) := by decide +kernel
theorem dX11_port_32 : decode cX11_port 32 = .ok (.getfield 26, 3) := by decide +kernel
theorem dX11_port_35 : decode cX11_port 35 = .ok (.aload_n 0, 1) := by decide +kernel
theorem dX11_port_36 : decode cX11_port 36 = .ok (.getfield 30, 3) := by decide +kernel
theorem dX11_port_39 : decode cX11_port 39 = .ok (.invokevirtual 101, 3) := by decide +kernel
theorem dX11_port_42 : decode cX11_port 42 = .ok (.aload_n 0, 1) := by decide +kernel
theorem dX11_port_43 : decode cX11_port 43 = .ok (.invokevirtual 105, 3) := by decide +kernel
theorem dX11_port_46 : decode cX11_port 46 = .ok (.aload_n 0, 1) := by decide +kernel
theorem dX11_port_47 : decode cX11_port 47 = .ok (.getfield 26, 3) := by decide +kernel
theorem dX11_port_50 : decode cX11_port 50 = .ok (.getfield 108, 3) := by decide +kernel
theorem dX11_port_53 : decode cX11_port 53 = .ok (.ireturn, 1) := by decide +kernel
theorem mokX11_port : MOK yX11_port cX11_port 2 (some .int) 0 := ⟨w5_89, w1_1, ⟨by decide, by decide⟩, by decide +kernel, by decide⟩
abbrev miX11_port : MI := (yX11_port.cls, cX11_port, 2, 10, false)
noncomputable def BX11_port : Sm Int32 := (dSeq (dSetI 1 (dCallV 6 DX6_read (aR (aR (aR aN 0 (dGR 11 1 (vR 0))) 1 (dGR 11 0 (vR 0))) 2 (dGR 11 3 (vR 0))))) (dSeq (dP (fI 9 1) (dGR 11 0 (vR 0)) (cI 0)) (dSeq (dIf (dNot (dCZ q_ne (vI 1))) (dRet (cI (-4))) dSkip) (dSeq (dDo (dCallV 5 DX5_copy (aR (aR aN 0 (dGR 11 2 (vR 0))) 1 (dGR 11 3 (vR 0))))) (dSeq (dDo (dCallV 11 DX11_makeStale (aR aN 0 (vR 0)))) (dRet (dGI 5 0 (dGR 11 2 (vR 0)))))))))
theorem sBX11_port : SS (cvoI, .ireturn) miX11_port [] [] [] [(0, 2)] [(0, 2)] 0 [] BX11_port := (t_sq (p1 := 16) (Γ' := [(0, 2), (1, 0)]) (t_istore_n (s_of_xI (x_callV (ts := [(0, 2), (1, 2), (2, 2)]) ck6 rfl kX6_read mokX6_read w5_91 w5_92 rfl rfl rfl rfl (a_R (ts := [(0, 2), (1, 2)]) 2 (a_R (ts := [(0, 2)]) 1 (a_R (ts := []) 0 a_nil (s_getR ck11 1 (by decide) rfl (s_aload_n dX11_port_0 rfl rfl) dX11_port_1 w2_197) rfl) (s_getR ck11 0 (by decide) rfl (s_aload_n dX11_port_4 rfl rfl) dX11_port_5 w2_196) rfl) (s_getR ck11 3 (by decide) rfl (s_aload_n dX11_port_8 rfl rfl) dX11_port_9 w2_199) rfl) dX11_port_12 w5_90)) dX11_port_15 rfl rfl rfl) (t_sq (p1 := 24) (Γ' := [(0, 2), (1, 0)]) (t_pI ck9 1 (by decide) rfl (Or.inl rfl) (s_getR ck11 0 (by decide) rfl (s_aload_n dX11_port_16 rfl rfl) dX11_port_17 w2_196) (s_iconst dX11_port_20 rfl) dX11_port_21 w1_36 rfl) (t_sq (p1 := 31) (Γ' := [(0, 2), (1, 0)]) (t_if (pT := 28) (pF := 31) (X := [31]) (XA := []) (XB := [31]) (c_not (pT := 28) (pF := 31) (c_ne_ZJ (pT := 31) (s_iload_n dX11_port_24 rfl rfl) dX11_port_25 rfl)) (t_ret (cv := cvI) (fun _ _ => rfl) (s_bipush dX11_port_28 rfl) dX11_port_30) (t_skip (ld_in rfl) rfl) lda_nil (lda_cons (ld_in rfl) lda_nil)) (t_sq (p1 := 42) (Γ' := [(0, 2), (1, 0)]) (t_do (x_callV (ts := [(0, 2), (1, 2)]) ck5 rfl kX5_copy mokX5_copy w4_191 w4_192 rfl rfl rfl rfl (a_R (ts := [(0, 2)]) 1 (a_R (ts := []) 0 a_nil (s_getR ck11 2 (by decide) rfl (s_aload_n dX11_port_31 rfl rfl) dX11_port_32 w2_198) rfl) (s_getR ck11 3 (by decide) rfl (s_aload_n dX11_port_35 rfl rfl) dX11_port_36 w2_199) rfl) dX11_port_39 w4_190) rfl) (t_sq (p1 := 46) (Γ' := [(0, 2), (1, 0)]) (t_do (x_callV (ts := [(0, 2)]) ck11 rfl kX11_makeStale mokX11_makeStale w4_137 ps2_1 rfl rfl rfl rfl (a_R (ts := []) 0 a_nil (s_aload_n dX11_port_42 rfl rfl) rfl) dX11_port_43 w4_135) rfl) (t_ret (cv := cvI) (fun _ _ => rfl) (s_getI ck5 0 (by decide) rfl (s_getR ck11 2 (by decide) rfl (s_aload_n dX11_port_46 rfl rfl) dX11_port_47 w2_198) dX11_port_50 w1_126) dX11_port_53))))))
noncomputable def DX11_port : Fr → St → Option (Int32 × St) := M1 (fun f => (sR fr0 0 (gR f 0))) BX11_port
theorem kX11_port : SND yX11_port cX11_port 2 (some .int) 10 [(0, 2)] cvoI DX11_port := snd_I (nw := 1) (by decide) rfl rfl (fun _ _ => rfl) sBX11_port
theorem dX11_hasBit_0 : decode cX11_hasBit 0 = .ok (.iload_n 1, 1) := by decide +kernel
theorem dX11_hasBit_1 : decode cX11_hasBit 1 = .ok (.ifCond .lt 21, 3) := by decide +kernel
theorem dX11_hasBit_4 : decode cX11_hasBit 4 = .ok (.iload_n 1, 1) := by decide +kernel
theorem dX11_hasBit_5 : decode cX11_hasBit 5 = .ok (.bipush 32, 2) := by decide +kernel
theorem dX11_hasBit_7 : decode cX11_hasBit 7 = .ok (.if_icmp .ge 15, 3) := by decide +kernel
theorem dX11_hasBit_10 : decode cX11_hasBit 10 = .ok (.iload_n 0, 1) := by decide +kernel
theorem dX11_hasBit_11 : decode cX11_hasBit 11 = .ok (.iload_n 1, 1) := by decide +kernel
theorem dX11_hasBit_12 : decode cX11_hasBit 12 = .ok (.iushr, 1) := by decide +kernel
theorem dX11_hasBit_13 : decode cX11_hasBit 13 = .ok (.iconst 1, 1) := by decide +kernel
theorem dX11_hasBit_14 : decode cX11_hasBit 14 = .ok (.iand, 1) := by decide +kernel
theorem dX11_hasBit_15 : decode cX11_hasBit 15 = .ok (.ifCond .eq 7, 3) := by decide +kernel
theorem dX11_hasBit_18 : decode cX11_hasBit 18 = .ok (.iconst 1, 1) := by decide +kernel
theorem dX11_hasBit_19 : decode cX11_hasBit 19 = .ok (.goto 4, 3) := by decide +kernel
theorem dX11_hasBit_22 : decode cX11_hasBit 22 = .ok (.iconst 0, 1) := by decide +kernel
theorem dX11_hasBit_23 : decode cX11_hasBit 23 = .ok (.ireturn, 1) := by decide +kernel
theorem mokX11_hasBit : MOK yX11_hasBit cX11_hasBit 2 (some .boolean) 2 := ⟨w3_17, w1_1, ⟨by decide, by decide⟩, by decide +kernel, by decide⟩
abbrev miX11_hasBit : MI := (yX11_hasBit.cls, cX11_hasBit, 2, 1, false)
noncomputable def BX11_hasBit : Sm Int32 := (dRet (dB (dAnd (dAnd (dCZ q_ge (vI 1)) (dCI r_lt (vI 1) (cI 32))) (dCZ q_ne (d2 o_iand (d2 o_iushr (vI 0) (vI 1)) (cI 1))))))
theorem sBX11_hasBit : SS (cvoI, .ireturn) miX11_hasBit [] [] [] [(0, 0), (1, 0)] [(0, 0), (1, 0)] 0 [] BX11_hasBit := (t_ret (cv := cvI) (fun _ _ => rfl) (s_B (pT := 18) (pF := 22) (pe := 23) (c_and (p1 := 10) (pT := 18) (pF := 22) (c_and (p1 := 4) (pT := 10) (pF := 22) (c_ge_ZF (pF := 22) (s_iload_n dX11_hasBit_0 rfl rfl) dX11_hasBit_1 rfl) (c_lt_F (pF := 22) (s_iload_n dX11_hasBit_4 rfl rfl) (s_bipush dX11_hasBit_5 rfl) dX11_hasBit_7 rfl)) (c_ne_ZF (pF := 22) (s_iand (s_iushr (s_iload_n dX11_hasBit_10 rfl rfl) (s_iload_n dX11_hasBit_11 rfl rfl) dX11_hasBit_12) (s_iconst dX11_hasBit_13 rfl) dX11_hasBit_14) dX11_hasBit_15 rfl)) dX11_hasBit_18 dX11_hasBit_19 rfl dX11_hasBit_22 rfl) dX11_hasBit_23)
noncomputable def DX11_hasBit : Fr → St → Option (Int32 × St) := MZ (fun f => (sI (sI fr0 0 (gI f 0)) 1 (gI f 1))) BX11_hasBit
theorem kX11_hasBit : SND yX11_hasBit cX11_hasBit 2 (some .boolean) 1 [(0, 0), (1, 0)] cvoI DX11_hasBit := snd_Z (nw := 2) (by decide) rfl rfl (fun _ _ => rfl) sBX11_hasBit
theorem dX11_cell_0 : decode cX11_cell 0 = .ok (.aload_n 0, 1) := by decide +kernel
theorem dX11_cell_1 : decode cX11_cell 1 = .ok (.ifnull 19, 3) := by decide +kernel
theorem dX11_cell_4 : decode cX11_cell 4 = .ok (.iload_n 1, 1) := by decide +kernel
theorem dX11_cell_5 : decode cX11_cell 5 = .ok (.ifCond .lt 15, 3) := by decide +kernel
theorem dX11_cell_8 : decode cX11_cell 8 = .ok (.iload_n 1, 1) := by decide +kernel
theorem dX11_cell_9 : decode cX11_cell 9 = .ok (.aload_n 0, 1) := by decide +kernel
theorem dX11_cell_10 : decode cX11_cell 10 = .ok (.arraylength, 1) := by decide +kernel
theorem dX11_cell_11 : decode cX11_cell 11 = .ok (.if_icmp .ge 9, 3) := by decide +kernel
theorem dX11_cell_14 : decode cX11_cell 14 = .ok (.aload_n 0, 1) := by decide +kernel
theorem dX11_cell_15 : decode cX11_cell 15 = .ok (.iload_n 1, 1) := by decide +kernel
theorem dX11_cell_16 : decode cX11_cell 16 = .ok (.iaload, 1) := by decide +kernel
theorem dX11_cell_17 : decode cX11_cell 17 = .ok (.goto 4, 3) := by decide +kernel
theorem dX11_cell_20 : decode cX11_cell 20 = .ok (.iconst 0, 1) := by decide +kernel
theorem dX11_cell_21 : decode cX11_cell 21 = .ok (.ireturn, 1) := by decide +kernel
theorem mokX11_cell : MOK yX11_cell cX11_cell 2 (some .int) 2 := ⟨w3_27, w1_1, ⟨by decide, by decide⟩, by decide +kernel, by decide⟩
abbrev miX11_cell : MI := (yX11_cell.cls, cX11_cell, 2, 1, false)
noncomputable def BX11_cell : Sm Int32 := (dRet (dT (dAnd (dAnd (dNN (vR 0)) (dCZ q_ge (vI 1))) (dCI r_lt (vI 1) (dLen (vR 0)))) (dAI (vR 0) (vI 1)) (cI 0)))
theorem sBX11_cell : SS (cvoI, .ireturn) miX11_cell [] [] [] [(0, 2), (1, 0)] [(0, 2), (1, 0)] 0 [] BX11_cell := (t_ret (cv := cvI) (fun _ _ => rfl) (s_T (pT := 14) (pF := 20) (p1 := 17) (pe := 21) (c_and (p1 := 8) (pT := 14) (pF := 20) (c_and (p1 := 4) (pT := 8) (pF := 20) (c_nn_F (pF := 20) (s_aload_n dX11_cell_0 rfl rfl) dX11_cell_1 rfl) (c_ge_ZF (pF := 20) (s_iload_n dX11_cell_4 rfl rfl) dX11_cell_5 rfl)) (c_lt_F (pF := 20) (s_iload_n dX11_cell_8 rfl rfl) (s_len (s_aload_n dX11_cell_9 rfl rfl) dX11_cell_10) dX11_cell_11 rfl)) (s_dAI (s_aload_n dX11_cell_14 rfl rfl) (s_iload_n dX11_cell_15 rfl rfl) dX11_cell_16) (s_iconst dX11_cell_20 rfl) (ld_goto (y := 21) dX11_cell_17 rfl (ld_in rfl))) dX11_cell_21)
noncomputable def DX11_cell : Fr → St → Option (Int32 × St) := M1 (fun f => (sI (sR fr0 0 (gR f 0)) 1 (gI f 1))) BX11_cell
theorem kX11_cell : SND yX11_cell cX11_cell 2 (some .int) 1 [(0, 2), (1, 0)] cvoI DX11_cell := snd_I (nw := 2) (by decide) rfl rfl (fun _ _ => rfl) sBX11_cell
theorem dX5_doorsOf_0 : decode cX5_doorsOf 0 = .ok (.iconst 0, 1) := by decide +kernel
theorem dX5_doorsOf_1 : decode cX5_doorsOf 1 = .ok (.istore_n 3, 1) := by decide +kernel
theorem dX5_doorsOf_2 : decode cX5_doorsOf 2 = .ok (.iconst 0, 1) := by decide +kernel
theorem dX5_doorsOf_3 : decode cX5_doorsOf 3 = .ok (.istore 4, 2) := by decide +kernel
theorem dX5_doorsOf_5 : decode cX5_doorsOf 5 = .ok (.iload 4, 2) := by decide +kernel
theorem dX5_doorsOf_7 : decode cX5_doorsOf 7 = .ok (.aload_n 0, 1) := by decide +kernel
theorem dX5_doorsOf_8 : decode cX5_doorsOf 8 = .ok (.getfield 59, 3) := by decide +kernel
theorem dX5_doorsOf_11 : decode cX5_doorsOf 11 = .ok (.if_icmp .ge 76, 3) := by decide +kernel
theorem dX5_doorsOf_14 : decode cX5_doorsOf 14 = .ok (.iload 4, 2) := by decide +kernel
theorem dX5_doorsOf_16 : decode cX5_doorsOf 16 = .ok (.bipush 12, 2) := by decide +kernel
theorem dX5_doorsOf_18 : decode cX5_doorsOf 18 = .ok (.if_icmp .ge 69, 3) := by decide +kernel
theorem dX5_doorsOf_21 : decode cX5_doorsOf 21 = .ok (.aload_n 0, 1) := by decide +kernel
theorem dX5_doorsOf_22 : decode cX5_doorsOf 22 = .ok (.getfield 15, 3) := by decide +kernel
theorem dX5_doorsOf_25 : decode cX5_doorsOf 25 = .ok (.iload 4, 2) := by decide +kernel
theorem dX5_doorsOf_27 : decode cX5_doorsOf 27 = .ok (.invokestatic 85, 3) := by decide +kernel
theorem dX5_doorsOf_30 : decode cX5_doorsOf 30 = .ok (.istore 5, 2) := by decide +kernel
theorem dX5_doorsOf_32 : decode cX5_doorsOf 32 = .ok (.aload_n 0, 1) := by decide +kernel
theorem dX5_doorsOf_33 : decode cX5_doorsOf 33 = .ok (.getfield 18, 3) := by decide +kernel
theorem dX5_doorsOf_36 : decode cX5_doorsOf 36 = .ok (.iload 4, 2) := by decide +kernel
theorem dX5_doorsOf_38 : decode cX5_doorsOf 38 = .ok (.invokestatic 85, 3) := by decide +kernel
theorem dX5_doorsOf_41 : decode cX5_doorsOf 41 = .ok (.istore 6, 2) := by decide +kernel
theorem dX5_doorsOf_43 : decode cX5_doorsOf 43 = .ok (.iload 4, 2) := by decide +kernel
theorem dX5_doorsOf_45 : decode cX5_doorsOf 45 = .ok (.iload_n 2, 1) := by decide +kernel
theorem dX5_doorsOf_46 : decode cX5_doorsOf 46 = .ok (.if_icmp .eq 16, 3) := by decide +kernel
theorem dX5_doorsOf_49 : decode cX5_doorsOf 49 = .ok (.iload 5, 2) := by decide +kernel
theorem dX5_doorsOf_51 : decode cX5_doorsOf 51 = .ok (.iload_n 1, 1) := by decide +kernel
theorem dX5_doorsOf_52 : decode cX5_doorsOf 52 = .ok (.if_icmp .ne 10, 3) := by decide +kernel
theorem dX5_doorsOf_55 : decode cX5_doorsOf 55 = .ok (.iload_n 3, 1) := by decide +kernel
theorem dX5_doorsOf_56 : decode cX5_doorsOf 56 = .ok (.iconst 1, 1) := by decide +kernel
theorem dX5_doorsOf_57 : decode cX5_doorsOf 57 = .ok (.iload 6, 2) := by decide +kernel
theorem dX5_doorsOf_59 : decode cX5_doorsOf 59 = .ok (.ishl, 1) := by decide +kernel
theorem dX5_doorsOf_60 : decode cX5_doorsOf 60 = .ok (.ior, 1) := by decide +kernel
theorem dX5_doorsOf_61 : decode cX5_doorsOf 61 = .ok (.istore_n 3, 1) := by decide +kernel
theorem dX5_doorsOf_62 : decode cX5_doorsOf 62 = .ok (.iload 4, 2) := by decide +kernel
theorem dX5_doorsOf_64 : decode cX5_doorsOf 64 = .ok (.iload_n 2, 1) := by decide +kernel
theorem dX5_doorsOf_65 : decode cX5_doorsOf 65 = .ok (.if_icmp .eq 16, 3) := by decide +kernel
theorem dX5_doorsOf_68 : decode cX5_doorsOf 68 = .ok (.iload 6, 2) := by decide +kernel
theorem dX5_doorsOf_70 : decode cX5_doorsOf 70 = .ok (.iload_n 1, 1) := by decide +kernel
theorem dX5_doorsOf_71 : decode cX5_doorsOf 71 = .ok (.if_icmp .ne 10, 3) := by decide +kernel
theorem dX5_doorsOf_74 : decode cX5_doorsOf 74 = .ok (.iload_n 3, 1) := by decide +kernel
theorem dX5_doorsOf_75 : decode cX5_doorsOf 75 = .ok (.iconst 1, 1) := by decide +kernel
theorem dX5_doorsOf_76 : decode cX5_doorsOf 76 = .ok (.iload 5, 2) := by decide +kernel
theorem dX5_doorsOf_78 : decode cX5_doorsOf 78 = .ok (.ishl, 1) := by decide +kernel
theorem dX5_doorsOf_79 : decode cX5_doorsOf 79 = .ok (.ior, 1) := by decide +kernel
theorem dX5_doorsOf_80 : decode cX5_doorsOf 80 = .ok (.istore_n 3, 1) := by decide +kernel
theorem dX5_doorsOf_81 : decode cX5_doorsOf 81 = .ok (.iinc 4 1, 3) := by decide +kernel
theorem dX5_doorsOf_84 : decode cX5_doorsOf 84 = .ok (.goto (-79), 3) := by decide +kernel
theorem dX5_doorsOf_87 : decode cX5_doorsOf 87 = .ok (.iload_n 3, 1) := by decide +kernel
theorem dX5_doorsOf_88 : decode cX5_doorsOf 88 = .ok (.ireturn, 1) := by decide +kernel
theorem mokX5_doorsOf : MOK yX5_doorsOf cX5_doorsOf 7 (some .int) 2 := ⟨w3_24, w1_4, ⟨by decide, by decide⟩, by decide +kernel, by decide⟩
abbrev miX5_doorsOf : MI := (yX5_doorsOf.cls, cX5_doorsOf, 7, 2, false)
noncomputable def LX5_doorsOf_1 : Sm Int32 := dLoop (fun f => (sI (sI (sI (sI (sR fr0 0 (gR f 0)) 1 (gI f 1)) 2 (gI f 2)) 3 (gI f 3)) 4 (gI f 4))) (dAnd (dCI r_lt (vI 4) (dGI 5 5 (vR 0))) (dCI r_lt (vI 4) (cI 12))) (dSeq (dSetI 5 (dCall DX11_cell (aI (aR aN 0 (dGR 5 9 (vR 0))) 1 (vI 4)))) (dSeq (dSetI 6 (dCall DX11_cell (aI (aR aN 0 (dGR 5 10 (vR 0))) 1 (vI 4)))) (dSeq (dIf (dAnd (dCI r_ne (vI 4) (vI 2)) (dCI r_eq (vI 5) (vI 1))) (dSetI 3 (d2 o_ior (vI 3) (d2 o_ishl (cI 1) (vI 6)))) dSkip) (dIf (dAnd (dCI r_ne (vI 4) (vI 2)) (dCI r_eq (vI 6) (vI 1))) (dSetI 3 (d2 o_ior (vI 3) (d2 o_ishl (cI 1) (vI 5)))) dSkip)))) (dInc 4 1)
theorem sLX5_doorsOf_1 {ΓL : Gm} {PB PK : List Nat} : SS (cvoI, .ireturn) miX5_doorsOf ΓL PB PK [(0, 2), (1, 0), (2, 0), (3, 0), (4, 0)] [(0, 2), (1, 0), (2, 0), (3, 0), (4, 0)] 5 [87] LX5_doorsOf_1 := t_loop (pT := 21) (pF := 87) (pu := 81) (PB' := []) (PK' := []) (XB := [81]) (XU := [84]) (fun _ _ => rfl) rfl (c_and (p1 := 14) (pT := 21) (pF := 87) (c_lt_F (pF := 87) (s_iload dX5_doorsOf_5 rfl) (s_getI ck5 5 (by decide) rfl (s_aload_n dX5_doorsOf_7 rfl rfl) dX5_doorsOf_8 w1_150) dX5_doorsOf_11 rfl) (c_lt_F (pF := 87) (s_iload dX5_doorsOf_14 rfl) (s_bipush dX5_doorsOf_16 rfl) dX5_doorsOf_18 rfl)) (t_sq (p1 := 32) (Γ' := [(0, 2), (1, 0), (2, 0), (3, 0), (4, 0), (5, 0)]) (t_istore (s_of_xI (x_callN (ts := [(0, 2), (1, 0)]) kX11_cell mokX11_cell w3_26 rfl rfl rfl (a_I (ts := [(0, 2)]) 1 (a_R (ts := []) 0 a_nil (s_getR ck5 9 (by decide) rfl (s_aload_n dX5_doorsOf_21 rfl rfl) dX5_doorsOf_22 w1_163) rfl) (s_iload dX5_doorsOf_25 rfl) rfl) dX5_doorsOf_27 nb12)) dX5_doorsOf_30 rfl rfl) (t_sq (p1 := 43) (Γ' := [(0, 2), (1, 0), (2, 0), (3, 0), (4, 0), (5, 0), (6, 0)]) (t_istore (s_of_xI (x_callN (ts := [(0, 2), (1, 0)]) kX11_cell mokX11_cell w3_26 rfl rfl rfl (a_I (ts := [(0, 2)]) 1 (a_R (ts := []) 0 a_nil (s_getR ck5 10 (by decide) rfl (s_aload_n dX5_doorsOf_32 rfl rfl) dX5_doorsOf_33 w1_165) rfl) (s_iload dX5_doorsOf_36 rfl) rfl) dX5_doorsOf_38 nb12)) dX5_doorsOf_41 rfl rfl) (t_sq (p1 := 62) (Γ' := [(0, 2), (1, 0), (2, 0), (3, 0), (4, 0), (5, 0), (6, 0)]) (t_if (pT := 55) (pF := 62) (X := [62]) (XA := [62]) (XB := [62]) (c_and (p1 := 49) (pT := 55) (pF := 62) (c_ne_F (pF := 62) (s_iload dX5_doorsOf_43 rfl) (s_iload_n dX5_doorsOf_45 rfl rfl) dX5_doorsOf_46 rfl) (c_eq_F (pF := 62) (s_iload dX5_doorsOf_49 rfl) (s_iload_n dX5_doorsOf_51 rfl rfl) dX5_doorsOf_52 rfl)) (t_istore_n (s_ior (s_iload_n dX5_doorsOf_55 rfl rfl) (s_ishl (s_iconst dX5_doorsOf_56 rfl) (s_iload dX5_doorsOf_57 rfl) dX5_doorsOf_59) dX5_doorsOf_60) dX5_doorsOf_61 rfl rfl rfl) (t_skip (ld_in rfl) rfl) (lda_cons (ld_in rfl) lda_nil) (lda_cons (ld_in rfl) lda_nil)) (t_if (pT := 74) (pF := 81) (X := [81]) (XA := [81]) (XB := [81]) (c_and (p1 := 68) (pT := 74) (pF := 81) (c_ne_F (pF := 81) (s_iload dX5_doorsOf_62 rfl) (s_iload_n dX5_doorsOf_64 rfl rfl) dX5_doorsOf_65 rfl) (c_eq_F (pF := 81) (s_iload dX5_doorsOf_68 rfl) (s_iload_n dX5_doorsOf_70 rfl rfl) dX5_doorsOf_71 rfl)) (t_istore_n (s_ior (s_iload_n dX5_doorsOf_74 rfl rfl) (s_ishl (s_iconst dX5_doorsOf_75 rfl) (s_iload dX5_doorsOf_76 rfl) dX5_doorsOf_78) dX5_doorsOf_79) dX5_doorsOf_80 rfl rfl rfl) (t_skip (ld_in rfl) rfl) (lda_cons (ld_in rfl) lda_nil) (lda_cons (ld_in rfl) lda_nil))))) (t_iinc dX5_doorsOf_81 rfl rfl rfl rfl) (lda_cons (ld_in rfl) lda_nil) lda_nil (lda_cons (ld_goto (y := 5) dX5_doorsOf_84 rfl (ld_in rfl)) lda_nil) (ld_in rfl) lda_nil
noncomputable def BX5_doorsOf : Sm Int32 := (dSeq (dSetI 3 (cI 0)) (dSeq (dSeq (dSetI 4 (cI 0)) LX5_doorsOf_1) (dRet (vI 3))))
theorem sBX5_doorsOf : SS (cvoI, .ireturn) miX5_doorsOf [] [] [] [(0, 2), (1, 0), (2, 0)] [(0, 2), (1, 0), (2, 0)] 0 [] BX5_doorsOf := (t_sq (p1 := 2) (Γ' := [(0, 2), (1, 0), (2, 0), (3, 0)]) (t_istore_n (s_iconst dX5_doorsOf_0 rfl) dX5_doorsOf_1 rfl rfl rfl) (t_sq (p1 := 87) (Γ' := [(0, 2), (1, 0), (2, 0), (3, 0)]) (t_sq (p1 := 5) (Γ' := [(0, 2), (1, 0), (2, 0), (3, 0), (4, 0)]) (t_istore (s_iconst dX5_doorsOf_2 rfl) dX5_doorsOf_3 rfl rfl) (tn_to (Γ' := [(0, 2), (1, 0), (2, 0), (3, 0), (4, 0)]) (XA := [87]) sLX5_doorsOf_1 (lda_cons (ld_in rfl) lda_nil) rfl)) (t_ret (cv := cvI) (fun _ _ => rfl) (s_iload_n dX5_doorsOf_87 rfl rfl) dX5_doorsOf_88)))
noncomputable def DX5_doorsOf : Fr → St → Option (Int32 × St) := M1 (fun f => (sI (sI (sR fr0 0 (gR f 0)) 1 (gI f 1)) 2 (gI f 2))) BX5_doorsOf
theorem kX5_doorsOf : SND yX5_doorsOf cX5_doorsOf 7 (some .int) 2 [(0, 2), (1, 0), (2, 0)] cvoI DX5_doorsOf := snd_I (nw := 3) (by decide) rfl rfl (fun _ _ => rfl) sBX5_doorsOf
theorem dX4_nextTo_0 : decode cX4_nextTo 0 = .ok (.iconst 0, 1) := by decide +kernel
theorem dX4_nextTo_1 : decode cX4_nextTo 1 = .ok (.istore_n 2, 1) := by decide +kernel
theorem dX4_nextTo_2 : decode cX4_nextTo 2 = .ok (.iconst 0, 1) := by decide +kernel
theorem dX4_nextTo_3 : decode cX4_nextTo 3 = .ok (.istore_n 3, 1) := by decide +kernel
theorem dX4_nextTo_4 : decode cX4_nextTo 4 = .ok (.iload_n 3, 1) := by decide +kernel
theorem dX4_nextTo_5 : decode cX4_nextTo 5 = .ok (.aload_n 0, 1) := by decide +kernel
theorem dX4_nextTo_6 : decode cX4_nextTo 6 = .ok (.getfield 53, 3) := by decide +kernel
theorem dX4_nextTo_9 : decode cX4_nextTo 9 = .ok (.if_icmp .ge 26, 3) := by decide +kernel
theorem dX4_nextTo_12 : decode cX4_nextTo 12 = .ok (.iload_n 1, 1) := by decide +kernel
theorem dX4_nextTo_13 : decode cX4_nextTo 13 = .ok (.iload_n 3, 1) := by decide +kernel
theorem dX4_nextTo_14 : decode cX4_nextTo 14 = .ok (.invokestatic 15, 3) := by decide +kernel
theorem dX4_nextTo_17 : decode cX4_nextTo 17 = .ok (.ifCond .eq 12, 3) := by decide +kernel
theorem dX4_nextTo_20 : decode cX4_nextTo 20 = .ok (.iload_n 2, 1) := by decide +kernel
theorem dX4_nextTo_21 : decode cX4_nextTo 21 = .ok (.aload_n 0, 1) := by decide +kernel
theorem dX4_nextTo_22 : decode cX4_nextTo 22 = .ok (.iload_n 3, 1) := by decide +kernel
theorem dX4_nextTo_23 : decode cX4_nextTo 23 = .ok (.iconst (-1), 1) := by decide +kernel
theorem dX4_nextTo_24 : decode cX4_nextTo 24 = .ok (.invokevirtual 56, 3) := by decide +kernel
theorem dX4_nextTo_27 : decode cX4_nextTo 27 = .ok (.ior, 1) := by decide +kernel
theorem dX4_nextTo_28 : decode cX4_nextTo 28 = .ok (.istore_n 2, 1) := by decide +kernel
theorem dX4_nextTo_29 : decode cX4_nextTo 29 = .ok (.iinc 3 1, 3) := by decide +kernel
theorem dX4_nextTo_32 : decode cX4_nextTo 32 = .ok (.goto (-28), 3) := by decide +kernel
theorem dX4_nextTo_35 : decode cX4_nextTo 35 = .ok (.iload_n 2, 1) := by decide +kernel
theorem dX4_nextTo_36 : decode cX4_nextTo 36 = .ok (.ireturn, 1) := by decide +kernel
theorem mokX4_nextTo : MOK yX4_nextTo cX4_nextTo 4 (some .int) 2 := ⟨w3_20, w1_9, ⟨by decide, by decide⟩, by decide +kernel, by decide⟩
abbrev miX4_nextTo : MI := (yX4_nextTo.cls, cX4_nextTo, 4, 3, false)
noncomputable def LX4_nextTo_1 : Sm Int32 := dLoop (fun f => (sI (sI (sI (sR fr0 0 (gR f 0)) 1 (gI f 1)) 2 (gI f 2)) 3 (gI f 3))) (dCI r_lt (vI 3) (dGI 5 4 (vR 0))) (dIf (dCZ q_ne (dCall DX11_hasBit (aI (aI aN 0 (vI 1)) 1 (vI 3)))) (dSetI 2 (d2 o_ior (vI 2) (dCallV 5 DX5_doorsOf (aI (aI (aR aN 0 (vR 0)) 1 (vI 3)) 2 (cI (-1)))))) dSkip) (dInc 3 1)
theorem sLX4_nextTo_1 {ΓL : Gm} {PB PK : List Nat} : SS (cvoI, .ireturn) miX4_nextTo ΓL PB PK [(0, 2), (1, 0), (2, 0), (3, 0)] [(0, 2), (1, 0), (2, 0), (3, 0)] 4 [35] LX4_nextTo_1 := t_loop (pT := 12) (pF := 35) (pu := 29) (PB' := []) (PK' := []) (XB := [29]) (XU := [32]) (fun _ _ => rfl) rfl (c_lt_F (pF := 35) (s_iload_n dX4_nextTo_4 rfl rfl) (s_getI ck5 4 (by decide) rfl (s_aload_n dX4_nextTo_5 rfl rfl) dX4_nextTo_6 w1_146) dX4_nextTo_9 rfl) (t_if (pT := 20) (pF := 29) (X := [29]) (XA := [29]) (XB := [29]) (c_ne_ZF (pF := 29) (s_of_xI (x_callN (ts := [(0, 0), (1, 0)]) kX11_hasBit mokX11_hasBit w3_16 rfl rfl rfl (a_I (ts := [(0, 0)]) 1 (a_I (ts := []) 0 a_nil (s_iload_n dX4_nextTo_12 rfl rfl) rfl) (s_iload_n dX4_nextTo_13 rfl rfl) rfl) dX4_nextTo_14 nb11)) dX4_nextTo_17 rfl) (t_istore_n (s_ior (s_iload_n dX4_nextTo_20 rfl rfl) (s_of_xI (x_callV (ts := [(0, 2), (1, 0), (2, 0)]) ck5 rfl kX5_doorsOf mokX5_doorsOf w3_22 w3_23 rfl rfl rfl rfl (a_I (ts := [(0, 2), (1, 0)]) 2 (a_I (ts := [(0, 2)]) 1 (a_R (ts := []) 0 a_nil (s_aload_n dX4_nextTo_21 rfl rfl) rfl) (s_iload_n dX4_nextTo_22 rfl rfl) rfl) (s_iconst dX4_nextTo_23 rfl) rfl) dX4_nextTo_24 w3_21)) dX4_nextTo_27) dX4_nextTo_28 rfl rfl rfl) (t_skip (ld_in rfl) rfl) (lda_cons (ld_in rfl) lda_nil) (lda_cons (ld_in rfl) lda_nil)) (t_iinc dX4_nextTo_29 rfl rfl rfl rfl) (lda_cons (ld_in rfl) lda_nil) lda_nil (lda_cons (ld_goto (y := 4) dX4_nextTo_32 rfl (ld_in rfl)) lda_nil) (ld_in rfl) lda_nil
noncomputable def BX4_nextTo : Sm Int32 := (dSeq (dSetI 2 (cI 0)) (dSeq (dSeq (dSetI 3 (cI 0)) LX4_nextTo_1) (dRet (vI 2))))
theorem sBX4_nextTo : SS (cvoI, .ireturn) miX4_nextTo [] [] [] [(0, 2), (1, 0)] [(0, 2), (1, 0)] 0 [] BX4_nextTo := (t_sq (p1 := 2) (Γ' := [(0, 2), (1, 0), (2, 0)]) (t_istore_n (s_iconst dX4_nextTo_0 rfl) dX4_nextTo_1 rfl rfl rfl) (t_sq (p1 := 35) (Γ' := [(0, 2), (1, 0), (2, 0)]) (t_sq (p1 := 4) (Γ' := [(0, 2), (1, 0), (2, 0), (3, 0)]) (t_istore_n (s_iconst dX4_nextTo_2 rfl) dX4_nextTo_3 rfl rfl rfl) (tn_to (Γ' := [(0, 2), (1, 0), (2, 0), (3, 0)]) (XA := [35]) sLX4_nextTo_1 (lda_cons (ld_in rfl) lda_nil) rfl)) (t_ret (cv := cvI) (fun _ _ => rfl) (s_iload_n dX4_nextTo_35 rfl rfl) dX4_nextTo_36)))
noncomputable def DX4_nextTo : Fr → St → Option (Int32 × St) := M1 (fun f => (sI (sR fr0 0 (gR f 0)) 1 (gI f 1))) BX4_nextTo
theorem kX4_nextTo : SND yX4_nextTo cX4_nextTo 4 (some .int) 3 [(0, 2), (1, 0)] cvoI DX4_nextTo := snd_I (nw := 2) (by decide) rfl rfl (fun _ _ => rfl) sBX4_nextTo
theorem dX4_fewestWays_0 : decode cX4_fewestWays 0 = .ok (.iconst 1, 1) := by decide +kernel
theorem dX4_fewestWays_1 : decode cX4_fewestWays 1 = .ok (.iload_n 2, 1) := by decide +kernel
theorem dX4_fewestWays_2 : decode cX4_fewestWays 2 = .ok (.ishl, 1) := by decide +kernel
theorem dX4_fewestWays_3 : decode cX4_fewestWays 3 = .ok (.istore 4, 2) := by decide +kernel
theorem dX4_fewestWays_5 : decode cX4_fewestWays 5 = .ok (.iconst 0, 1) := by decide +kernel
theorem dX4_fewestWays_6 : decode cX4_fewestWays 6 = .ok (.istore 5, 2) := by decide +kernel
theorem dX4_fewestWays_8 : decode cX4_fewestWays 8 = .ok (.iload 5, 2) := by decide +kernel
theorem dX4_fewestWays_10 : decode cX4_fewestWays 10 = .ok (.bipush 8, 2) := by decide +kernel
theorem dX4_fewestWays_12 : decode cX4_fewestWays 12 = .ok (.if_icmp .ge 32, 3) := by decide +kernel
theorem dX4_fewestWays_15 : decode cX4_fewestWays 15 = .ok (.iload 4, 2) := by decide +kernel
theorem dX4_fewestWays_17 : decode cX4_fewestWays 17 = .ok (.iload_n 3, 1) := by decide +kernel
theorem dX4_fewestWays_18 : decode cX4_fewestWays 18 = .ok (.invokestatic 15, 3) := by decide +kernel
theorem dX4_fewestWays_21 : decode cX4_fewestWays 21 = .ok (.ifCond .eq 6, 3) := by decide +kernel
theorem dX4_fewestWays_24 : decode cX4_fewestWays 24 = .ok (.iload 5, 2) := by decide +kernel
theorem dX4_fewestWays_26 : decode cX4_fewestWays 26 = .ok (.ireturn, 1) := by decide +kernel
theorem dX4_fewestWays_27 : decode cX4_fewestWays 27 = .ok (.iload 4, 2) := by decide +kernel
theorem dX4_fewestWays_29 : decode cX4_fewestWays 29 = .ok (.aload_n 1, 1) := by decide +kernel
theorem dX4_fewestWays_30 : decode cX4_fewestWays 30 = .ok (.iload 4, 2) := by decide +kernel
theorem dX4_fewestWays_32 : decode cX4_fewestWays 32 = .ok (.invokestatic 19, 3) := by decide +kernel
theorem dX4_fewestWays_35 : decode cX4_fewestWays 35 = .ok (.ior, 1) := by decide +kernel
theorem dX4_fewestWays_36 : decode cX4_fewestWays 36 = .ok (.istore 4, 2) := by decide +kernel
theorem dX4_fewestWays_38 : decode cX4_fewestWays 38 = .ok (.iinc 5 1, 3) := by decide +kernel
theorem dX4_fewestWays_41 : decode cX4_fewestWays 41 = .ok (.goto (-33), 3) := by decide +kernel
theorem dX4_fewestWays_44 : decode cX4_fewestWays 44 = .ok (.iconst (-1), 1) := by decide +kernel
theorem dX4_fewestWays_45 : decode cX4_fewestWays 45 = .ok (.ireturn, 1) := by decide +kernel
theorem mokX4_fewestWays : MOK yX4_fewestWays cX4_fewestWays 6 (some .int) 3 := ⟨w3_14, w1_9, ⟨by decide, by decide⟩, by decide +kernel, by decide⟩
abbrev miX4_fewestWays : MI := (yX4_fewestWays.cls, cX4_fewestWays, 6, 4, false)
noncomputable def LX4_fewestWays_1 : Sm Int32 := dLoop (fun f => (sI (sI (sI (sI (sR (sR fr0 0 (gR f 0)) 1 (gR f 1)) 2 (gI f 2)) 3 (gI f 3)) 4 (gI f 4)) 5 (gI f 5))) (dCI r_lt (vI 5) (cI 8)) (dSeq (dIf (dCZ q_ne (dCall DX11_hasBit (aI (aI aN 0 (vI 4)) 1 (vI 3)))) (dRet (vI 5)) dSkip) (dSetI 4 (d2 o_ior (vI 4) (dCall DX4_nextTo (aI (aR aN 0 (vR 1)) 1 (vI 4)))))) (dInc 5 1)
theorem sLX4_fewestWays_1 {ΓL : Gm} {PB PK : List Nat} : SS (cvoI, .ireturn) miX4_fewestWays ΓL PB PK [(0, 2), (1, 2), (2, 0), (3, 0), (4, 0), (5, 0)] [(0, 2), (1, 2), (2, 0), (3, 0), (4, 0), (5, 0)] 8 [44] LX4_fewestWays_1 := t_loop (pT := 15) (pF := 44) (pu := 38) (PB' := []) (PK' := []) (XB := [38]) (XU := [41]) (fun _ _ => rfl) rfl (c_lt_F (pF := 44) (s_iload dX4_fewestWays_8 rfl) (s_bipush dX4_fewestWays_10 rfl) dX4_fewestWays_12 rfl) (t_sq (p1 := 27) (Γ' := [(0, 2), (1, 2), (2, 0), (3, 0), (4, 0), (5, 0)]) (t_if (pT := 24) (pF := 27) (X := [27]) (XA := []) (XB := [27]) (c_ne_ZF (pF := 27) (s_of_xI (x_callN (ts := [(0, 0), (1, 0)]) kX11_hasBit mokX11_hasBit w3_16 rfl rfl rfl (a_I (ts := [(0, 0)]) 1 (a_I (ts := []) 0 a_nil (s_iload dX4_fewestWays_15 rfl) rfl) (s_iload_n dX4_fewestWays_17 rfl rfl) rfl) dX4_fewestWays_18 nb11)) dX4_fewestWays_21 rfl) (t_ret (cv := cvI) (fun _ _ => rfl) (s_iload dX4_fewestWays_24 rfl) dX4_fewestWays_26) (t_skip (ld_in rfl) rfl) lda_nil (lda_cons (ld_in rfl) lda_nil)) (t_istore (s_ior (s_iload dX4_fewestWays_27 rfl) (s_of_xI (x_call (ts := [(0, 2), (1, 0)]) kX4_nextTo mokX4_nextTo w3_19 rfl rfl rfl (a_I (ts := [(0, 2)]) 1 (a_R (ts := []) 0 a_nil (s_aload_n dX4_fewestWays_29 rfl rfl) rfl) (s_iload dX4_fewestWays_30 rfl) rfl) dX4_fewestWays_32 w3_18)) dX4_fewestWays_35) dX4_fewestWays_36 rfl rfl)) (t_iinc dX4_fewestWays_38 rfl rfl rfl rfl) (lda_cons (ld_in rfl) lda_nil) lda_nil (lda_cons (ld_goto (y := 8) dX4_fewestWays_41 rfl (ld_in rfl)) lda_nil) (ld_in rfl) lda_nil
noncomputable def BX4_fewestWays : Sm Int32 := (dSeq (dSetI 4 (d2 o_ishl (cI 1) (vI 2))) (dSeq (dSeq (dSetI 5 (cI 0)) LX4_fewestWays_1) (dRet (cI (-1)))))
theorem sBX4_fewestWays : SS (cvoI, .ireturn) miX4_fewestWays [] [] [] [(0, 2), (1, 2), (2, 0), (3, 0)] [(0, 2), (1, 2), (2, 0), (3, 0)] 0 [] BX4_fewestWays := (t_sq (p1 := 5) (Γ' := [(0, 2), (1, 2), (2, 0), (3, 0), (4, 0)]) (t_istore (s_ishl (s_iconst dX4_fewestWays_0 rfl) (s_iload_n dX4_fewestWays_1 rfl rfl) dX4_fewestWays_2) dX4_fewestWays_3 rfl rfl) (t_sq (p1 := 44) (Γ' := [(0, 2), (1, 2), (2, 0), (3, 0), (4, 0)]) (t_sq (p1 := 8) (Γ' := [(0, 2), (1, 2), (2, 0), (3, 0), (4, 0), (5, 0)]) (t_istore (s_iconst dX4_fewestWays_5 rfl) dX4_fewestWays_6 rfl rfl) (tn_to (Γ' := [(0, 2), (1, 2), (2, 0), (3, 0), (4, 0), (5, 0)]) (XA := [44]) sLX4_fewestWays_1 (lda_cons (ld_in rfl) lda_nil) rfl)) (t_ret (cv := cvI) (fun _ _ => rfl) (s_iconst dX4_fewestWays_44 rfl) dX4_fewestWays_45)))
noncomputable def DX4_fewestWays : Fr → St → Option (Int32 × St) := M1 (fun f => (sI (sI (sR (sR fr0 0 (gR f 0)) 1 (gR f 1)) 2 (gI f 2)) 3 (gI f 3))) BX4_fewestWays
theorem kX4_fewestWays : SND yX4_fewestWays cX4_fewestWays 6 (some .int) 4 [(0, 2), (1, 2), (2, 0), (3, 0)] cvoI DX4_fewestWays := snd_I (nw := 4) (by decide) rfl rfl (fun _ _ => rfl) sBX4_fewestWays
theorem dX5_isHouse_0 : decode cX5_isHouse 0 = .ok (.iload_n 1, 1) := by decide +kernel
theorem dX5_isHouse_1 : decode cX5_isHouse 1 = .ok (.ifCond .lt 15, 3) := by decide +kernel
theorem dX5_isHouse_4 : decode cX5_isHouse 4 = .ok (.iload_n 1, 1) := by decide +kernel
theorem dX5_isHouse_5 : decode cX5_isHouse 5 = .ok (.aload_n 0, 1) := by decide +kernel
theorem dX5_isHouse_6 : decode cX5_isHouse 6 = .ok (.getfield 56, 3) := by decide +kernel
theorem dX5_isHouse_9 : decode cX5_isHouse 9 = .ok (.if_icmp .ge 7, 3) := by decide +kernel
theorem dX5_isHouse_12 : decode cX5_isHouse 12 = .ok (.iconst 1, 1) := by decide +kernel
theorem dX5_isHouse_13 : decode cX5_isHouse 13 = .ok (.goto 4, 3) := by decide +kernel
theorem dX5_isHouse_16 : decode cX5_isHouse 16 = .ok (.iconst 0, 1) := by decide +kernel
theorem dX5_isHouse_17 : decode cX5_isHouse 17 = .ok (.ireturn, 1) := by decide +kernel
theorem mokX5_isHouse : MOK yX5_isHouse cX5_isHouse 2 (some .boolean) 1 := ⟨w3_10, w1_4, ⟨by decide, by decide⟩, by decide +kernel, by decide⟩
abbrev miX5_isHouse : MI := (yX5_isHouse.cls, cX5_isHouse, 2, 1, false)
noncomputable def BX5_isHouse : Sm Int32 := (dRet (dB (dAnd (dCZ q_ge (vI 1)) (dCI r_lt (vI 1) (dGI 5 4 (vR 0))))))
theorem sBX5_isHouse : SS (cvoI, .ireturn) miX5_isHouse [] [] [] [(0, 2), (1, 0)] [(0, 2), (1, 0)] 0 [] BX5_isHouse := (t_ret (cv := cvI) (fun _ _ => rfl) (s_B (pT := 12) (pF := 16) (pe := 17) (c_and (p1 := 4) (pT := 12) (pF := 16) (c_ge_ZF (pF := 16) (s_iload_n dX5_isHouse_0 rfl rfl) dX5_isHouse_1 rfl) (c_lt_F (pF := 16) (s_iload_n dX5_isHouse_4 rfl rfl) (s_getI ck5 4 (by decide) rfl (s_aload_n dX5_isHouse_5 rfl rfl) dX5_isHouse_6 w1_143) dX5_isHouse_9 rfl)) dX5_isHouse_12 dX5_isHouse_13 rfl dX5_isHouse_16 rfl) dX5_isHouse_17)
noncomputable def DX5_isHouse : Fr → St → Option (Int32 × St) := MZ (fun f => (sI (sR fr0 0 (gR f 0)) 1 (gI f 1))) BX5_isHouse
theorem kX5_isHouse : SND yX5_isHouse cX5_isHouse 2 (some .boolean) 1 [(0, 2), (1, 0)] cvoI DX5_isHouse := snd_Z (nw := 2) (by decide) rfl rfl (fun _ _ => rfl) sBX5_isHouse
theorem dX5_areHouses_0 : decode cX5_areHouses 0 = .ok (.aload_n 0, 1) := by decide +kernel
theorem dX5_areHouses_1 : decode cX5_areHouses 1 = .ok (.iload_n 1, 1) := by decide +kernel
theorem dX5_areHouses_2 : decode cX5_areHouses 2 = .ok (.invokevirtual 81, 3) := by decide +kernel
theorem dX5_areHouses_5 : decode cX5_areHouses 5 = .ok (.ifCond .eq 15, 3) := by decide +kernel
theorem dX5_areHouses_8 : decode cX5_areHouses 8 = .ok (.aload_n 0, 1) := by decide +kernel
theorem dX5_areHouses_9 : decode cX5_areHouses 9 = .ok (.iload_n 2, 1) := by decide +kernel
theorem dX5_areHouses_10 : decode cX5_areHouses 10 = .ok (.invokevirtual 81, 3) := by decide +kernel
theorem dX5_areHouses_13 : decode cX5_areHouses 13 = .ok (.ifCond .eq 7, 3) := by decide +kernel
theorem dX5_areHouses_16 : decode cX5_areHouses 16 = .ok (.iconst 1, 1) := by decide +kernel
theorem dX5_areHouses_17 : decode cX5_areHouses 17 = .ok (.goto 4, 3) := by decide +kernel
theorem dX5_areHouses_20 : decode cX5_areHouses 20 = .ok (.iconst 0, 1) := by decide +kernel
theorem dX5_areHouses_21 : decode cX5_areHouses 21 = .ok (.ireturn, 1) := by decide +kernel
theorem mokX5_areHouses : MOK yX5_areHouses cX5_areHouses 3 (some .boolean) 2 := ⟨w3_6, w1_4, ⟨by decide, by decide⟩, by decide +kernel, by decide⟩
abbrev miX5_areHouses : MI := (yX5_areHouses.cls, cX5_areHouses, 3, 2, false)
noncomputable def BX5_areHouses : Sm Int32 := (dRet (dB (dAnd (dCZ q_ne (dCallV 5 DX5_isHouse (aI (aR aN 0 (vR 0)) 1 (vI 1)))) (dCZ q_ne (dCallV 5 DX5_isHouse (aI (aR aN 0 (vR 0)) 1 (vI 2)))))))
theorem sBX5_areHouses : SS (cvoI, .ireturn) miX5_areHouses [] [] [] [(0, 2), (1, 0), (2, 0)] [(0, 2), (1, 0), (2, 0)] 0 [] BX5_areHouses := (t_ret (cv := cvI) (fun _ _ => rfl) (s_B (pT := 16) (pF := 20) (pe := 21) (c_and (p1 := 8) (pT := 16) (pF := 20) (c_ne_ZF (pF := 20) (s_of_xI (x_callV (ts := [(0, 2), (1, 0)]) ck5 rfl kX5_isHouse mokX5_isHouse w3_8 w3_9 rfl rfl rfl rfl (a_I (ts := [(0, 2)]) 1 (a_R (ts := []) 0 a_nil (s_aload_n dX5_areHouses_0 rfl rfl) rfl) (s_iload_n dX5_areHouses_1 rfl rfl) rfl) dX5_areHouses_2 w3_7)) dX5_areHouses_5 rfl) (c_ne_ZF (pF := 20) (s_of_xI (x_callV (ts := [(0, 2), (1, 0)]) ck5 rfl kX5_isHouse mokX5_isHouse w3_8 w3_9 rfl rfl rfl rfl (a_I (ts := [(0, 2)]) 1 (a_R (ts := []) 0 a_nil (s_aload_n dX5_areHouses_8 rfl rfl) rfl) (s_iload_n dX5_areHouses_9 rfl rfl) rfl) dX5_areHouses_10 w3_7)) dX5_areHouses_13 rfl)) dX5_areHouses_16 dX5_areHouses_17 rfl dX5_areHouses_20 rfl) dX5_areHouses_21)
noncomputable def DX5_areHouses : Fr → St → Option (Int32 × St) := MZ (fun f => (sI (sI (sR fr0 0 (gR f 0)) 1 (gI f 1)) 2 (gI f 2))) BX5_areHouses
theorem kX5_areHouses : SND yX5_areHouses cX5_areHouses 3 (some .boolean) 2 [(0, 2), (1, 0), (2, 0)] cvoI DX5_areHouses := snd_Z (nw := 3) (by decide) rfl rfl (fun _ _ => rfl) sBX5_areHouses
theorem dX11_far_0 : decode cX11_far 0 = .ok (.aload_n 0, 1) := by decide +kernel
theorem dX11_far_1 : decode cX11_far 1 = .ok (.getfield 26, 3) := by decide +kernel
theorem dX11_far_4 : decode cX11_far 4 = .ok (.iload_n 1, 1) := by decide +kernel
theorem dX11_far_5 : decode cX11_far 5 = .ok (.iload_n 2, 1) := by decide +kernel
theorem dX11_far_6 : decode cX11_far 6 = .ok (.invokevirtual 154, 3) := by decide +kernel
theorem dX11_far_9 : decode cX11_far 9 = .ok (.ifCond .eq 19, 3) := by decide +kernel
theorem dX11_far_12 : decode cX11_far 12 = .ok (.aload_n 0, 1) := by decide +kernel
theorem dX11_far_13 : decode cX11_far 13 = .ok (.getfield 57, 3) := by decide +kernel
theorem dX11_far_16 : decode cX11_far 16 = .ok (.aload_n 0, 1) := by decide +kernel
theorem dX11_far_17 : decode cX11_far 17 = .ok (.getfield 26, 3) := by decide +kernel
theorem dX11_far_20 : decode cX11_far 20 = .ok (.iload_n 1, 1) := by decide +kernel
theorem dX11_far_21 : decode cX11_far 21 = .ok (.iload_n 2, 1) := by decide +kernel
theorem dX11_far_22 : decode cX11_far 22 = .ok (.invokevirtual 157, 3) := by decide +kernel
theorem dX11_far_25 : decode cX11_far 25 = .ok (.goto 5, 3) := by decide +kernel
theorem dX11_far_28 : decode cX11_far 28 = .ok (.bipush (-2), 2) := by decide +kernel
theorem dX11_far_30 : decode cX11_far 30 = .ok (.ireturn, 1) := by decide +kernel
theorem mokX11_far : MOK yX11_far cX11_far 3 (some .int) 2 := ⟨w3_2, w1_1, ⟨by decide, by decide⟩, by decide +kernel, by decide⟩
abbrev miX11_far : MI := (yX11_far.cls, cX11_far, 3, 5, false)
noncomputable def BX11_far : Sm Int32 := (dRet (dT (dCZ q_ne (dCallV 5 DX5_areHouses (aI (aI (aR aN 0 (dGR 11 2 (vR 0))) 1 (vI 1)) 2 (vI 2)))) (dCallV 4 DX4_fewestWays (aI (aI (aR (aR aN 0 (dGR 11 8 (vR 0))) 1 (dGR 11 2 (vR 0))) 2 (vI 1)) 3 (vI 2))) (cI (-2))))
theorem sBX11_far : SS (cvoI, .ireturn) miX11_far [] [] [] [(0, 2), (1, 0), (2, 0)] [(0, 2), (1, 0), (2, 0)] 0 [] BX11_far := (t_ret (cv := cvI) (fun _ _ => rfl) (s_T (pT := 12) (pF := 28) (p1 := 25) (pe := 30) (c_ne_ZF (pF := 28) (s_of_xI (x_callV (ts := [(0, 2), (1, 0), (2, 0)]) ck5 rfl kX5_areHouses mokX5_areHouses w3_4 w3_5 rfl rfl rfl rfl (a_I (ts := [(0, 2), (1, 0)]) 2 (a_I (ts := [(0, 2)]) 1 (a_R (ts := []) 0 a_nil (s_getR ck11 2 (by decide) rfl (s_aload_n dX11_far_0 rfl rfl) dX11_far_1 w2_198) rfl) (s_iload_n dX11_far_4 rfl rfl) rfl) (s_iload_n dX11_far_5 rfl rfl) rfl) dX11_far_6 w3_3)) dX11_far_9 rfl) (s_of_xI (x_callV (ts := [(0, 2), (1, 2), (2, 0), (3, 0)]) ck4 rfl kX4_fewestWays mokX4_fewestWays w3_12 w3_13 rfl rfl rfl rfl (a_I (ts := [(0, 2), (1, 2), (2, 0)]) 3 (a_I (ts := [(0, 2), (1, 2)]) 2 (a_R (ts := [(0, 2)]) 1 (a_R (ts := []) 0 a_nil (s_getR ck11 8 (by decide) rfl (s_aload_n dX11_far_12 rfl rfl) dX11_far_13 w2_204) rfl) (s_getR ck11 2 (by decide) rfl (s_aload_n dX11_far_16 rfl rfl) dX11_far_17 w2_198) rfl) (s_iload_n dX11_far_20 rfl rfl) rfl) (s_iload_n dX11_far_21 rfl rfl) rfl) dX11_far_22 w3_11)) (s_bipush dX11_far_28 rfl) (ld_goto (y := 30) dX11_far_25 rfl (ld_in rfl))) dX11_far_30)
noncomputable def DX11_far : Fr → St → Option (Int32 × St) := M1 (fun f => (sI (sI (sR fr0 0 (gR f 0)) 1 (gI f 1)) 2 (gI f 2))) BX11_far
theorem kX11_far : SND yX11_far cX11_far 3 (some .int) 5 [(0, 2), (1, 0), (2, 0)] cvoI DX11_far := snd_I (nw := 3) (by decide) rfl rfl (fun _ _ => rfl) sBX11_far
theorem dX2_setAsTold_0 : decode cX2_setAsTold 0 = .ok (.aload_n 0, 1) := by decide +kernel
theorem dX2_setAsTold_1 : decode cX2_setAsTold 1 = .ok (.aload_n 1, 1) := by decide +kernel
theorem dX2_setAsTold_2 : decode cX2_setAsTold 2 = .ok (.getfield 33, 3) := by decide +kernel
theorem dX2_setAsTold_5 : decode cX2_setAsTold 5 = .ok (.putfield 39, 3) := by decide +kernel
theorem dX2_setAsTold_8 : decode cX2_setAsTold 8 = .ok (.aload_n 0, 1) := by decide +kernel
theorem dX2_setAsTold_9 : decode cX2_setAsTold 9 = .ok (.iconst (-1), 1) := by decide +kernel
theorem dX2_setAsTold_10 : decode cX2_setAsTold 10 = .ok (.putfield 40, 3) := by decide +kernel
theorem dX2_setAsTold_13 : decode cX2_setAsTold 13 = .ok (.aload_n 0, 1) := by decide +kernel
theorem dX2_setAsTold_14 : decode cX2_setAsTold 14 = .ok (.iconst 0, 1) := by decide +kernel
theorem dX2_setAsTold_15 : decode cX2_setAsTold 15 = .ok (.putfield 43, 3) := by decide +kernel
theorem dX2_setAsTold_18 : decode cX2_setAsTold 18 = .ok (.aload_n 0, 1) := by decide +kernel
theorem dX2_setAsTold_19 : decode cX2_setAsTold 19 = .ok (.iconst 0, 1) := by decide +kernel
theorem dX2_setAsTold_20 : decode cX2_setAsTold 20 = .ok (.putfield 46, 3) := by decide +kernel
theorem dX2_setAsTold_23 : decode cX2_setAsTold 23 = .ok (.aload_n 0, 1) := by decide +kernel
theorem dX2_setAsTold_24 : decode cX2_setAsTold 24 = .ok (.iconst (-1), 1) := by decide +kernel
theorem dX2_setAsTold_25 : decode cX2_setAsTold 25 = .ok (.putfield 49, 3) := by decide +kernel
theorem dX2_setAsTold_28 : decode cX2_setAsTold 28 = .ok (.aload_n 0, 1) := by decide +kernel
theorem dX2_setAsTold_29 : decode cX2_setAsTold 29 = .ok (.iconst (-1), 1) := by decide +kernel
theorem dX2_setAsTold_30 : decode cX2_setAsTold 30 = .ok (.putfield 52, 3) := by decide +kernel
theorem dX2_setAsTold_33 : decode cX2_setAsTold 33 = .ok (.return_, 1) := by decide +kernel
theorem mokX2_setAsTold : MOK yX2_setAsTold cX2_setAsTold 2 none 1 := ⟨w3_51, w1_8, ⟨by decide, by decide⟩, by decide +kernel, by decide⟩
abbrev miX2_setAsTold : MI := (yX2_setAsTold.cls, cX2_setAsTold, 2, 1, false)
noncomputable def BX2_setAsTold : Sm Unit := (dSeq (dP (fI 2 0) (vR 0) (dGI 5 2 (vR 1))) (dSeq (dP (fI 2 1) (vR 0) (cI (-1))) (dSeq (dP (fI 2 2) (vR 0) (cI 0)) (dSeq (dP (fI 2 3) (vR 0) (cI 0)) (dSeq (dP (fI 2 4) (vR 0) (cI (-1))) (dSeq (dP (fI 2 5) (vR 0) (cI (-1))) dRet0))))))
theorem sBX2_setAsTold : SS (cvoV, .return_) miX2_setAsTold [] [] [] [(0, 2), (1, 2)] [(0, 2), (1, 2)] 0 [] BX2_setAsTold := (t_sq (p1 := 8) (Γ' := [(0, 2), (1, 2)]) (t_pI ck2 0 (by decide) rfl (Or.inl rfl) (s_aload_n dX2_setAsTold_0 rfl rfl) (s_getI ck5 2 (by decide) rfl (s_aload_n dX2_setAsTold_1 rfl rfl) dX2_setAsTold_2 w1_134) dX2_setAsTold_5 w2_11 rfl) (t_sq (p1 := 13) (Γ' := [(0, 2), (1, 2)]) (t_pI ck2 1 (by decide) rfl (Or.inl rfl) (s_aload_n dX2_setAsTold_8 rfl rfl) (s_iconst dX2_setAsTold_9 rfl) dX2_setAsTold_10 w2_13 rfl) (t_sq (p1 := 18) (Γ' := [(0, 2), (1, 2)]) (t_pI ck2 2 (by decide) rfl (Or.inl rfl) (s_aload_n dX2_setAsTold_13 rfl rfl) (s_iconst dX2_setAsTold_14 rfl) dX2_setAsTold_15 w2_14 rfl) (t_sq (p1 := 23) (Γ' := [(0, 2), (1, 2)]) (t_pI ck2 3 (by decide) rfl (Or.inl rfl) (s_aload_n dX2_setAsTold_18 rfl rfl) (s_iconst dX2_setAsTold_19 rfl) dX2_setAsTold_20 w2_16 rfl) (t_sq (p1 := 28) (Γ' := [(0, 2), (1, 2)]) (t_pI ck2 4 (by decide) rfl (Or.inl rfl) (s_aload_n dX2_setAsTold_23 rfl rfl) (s_iconst dX2_setAsTold_24 rfl) dX2_setAsTold_25 w2_18 rfl) (t_sq (p1 := 33) (Γ' := [(0, 2), (1, 2)]) (t_pI ck2 5 (by decide) rfl (Or.inl rfl) (s_aload_n dX2_setAsTold_28 rfl rfl) (s_iconst dX2_setAsTold_29 rfl) dX2_setAsTold_30 w2_20 rfl) (t_ret0 (fun _ _ => rfl) dX2_setAsTold_33)))))))
noncomputable def DX2_setAsTold : Fr → St → Option (Unit × St) := M1 (fun f => (sR (sR fr0 0 (gR f 0)) 1 (gR f 1))) BX2_setAsTold
theorem kX2_setAsTold : SND yX2_setAsTold cX2_setAsTold 2 none 1 [(0, 2), (1, 2)] cvoV DX2_setAsTold := snd_V (nw := 2) (by decide) (fun z => by cases z) rfl rfl (fun _ _ => rfl) sBX2_setAsTold
theorem dJ7_fill_53178_0 : decode cJ7_fill_53178 0 = .ok (.iconst 0, 1) := by decide +kernel
theorem dJ7_fill_53178_1 : decode cJ7_fill_53178 1 = .ok (.istore_n 2, 1) := by decide +kernel
theorem dJ7_fill_53178_2 : decode cJ7_fill_53178 2 = .ok (.aload_n 0, 1) := by decide +kernel
theorem dJ7_fill_53178_3 : decode cJ7_fill_53178 3 = .ok (.arraylength, 1) := by decide +kernel
theorem dJ7_fill_53178_4 : decode cJ7_fill_53178 4 = .ok (.istore_n 3, 1) := by decide +kernel
theorem dJ7_fill_53178_5 : decode cJ7_fill_53178 5 = .ok (.iload_n 2, 1) := by decide +kernel
theorem dJ7_fill_53178_6 : decode cJ7_fill_53178 6 = .ok (.iload_n 3, 1) := by decide +kernel
theorem dJ7_fill_53178_7 : decode cJ7_fill_53178 7 = .ok (.if_icmp .ge 13, 3) := by decide +kernel
theorem dJ7_fill_53178_10 : decode cJ7_fill_53178 10 = .ok (.aload_n 0, 1) := by decide +kernel
theorem dJ7_fill_53178_11 : decode cJ7_fill_53178 11 = .ok (.iload_n 2, 1) := by decide +kernel
theorem dJ7_fill_53178_12 : decode cJ7_fill_53178 12 = .ok (.iload_n 1, 1) := by decide +kernel
theorem dJ7_fill_53178_13 : decode cJ7_fill_53178 13 = .ok (.iastore, 1) := by decide +kernel
theorem dJ7_fill_53178_14 : decode cJ7_fill_53178 14 = .ok (.iinc 2 1, 3) := by decide +kernel
theorem dJ7_fill_53178_17 : decode cJ7_fill_53178 17 = .ok (.goto (-12), 3) := by decide +kernel
theorem dJ7_fill_53178_20 : decode cJ7_fill_53178 20 = .ok (.return_, 1) := by decide +kernel
theorem mokJ7_fill_53178 : MOK yJ7_fill_53178 cJ7_fill_53178 4 none 2 := ⟨w3_62, w1_19, ⟨by decide, by decide⟩, by decide +kernel, by decide⟩
abbrev miJ7_fill_53178 : MI := (yJ7_fill_53178.cls, cJ7_fill_53178, 4, 1, false)
noncomputable def LJ7_fill_53178_1 : Sm Unit := dLoop (fun f => (sI (sI (sI (sR fr0 0 (gR f 0)) 1 (gI f 1)) 2 (gI f 2)) 3 (gI f 3))) (dCI r_lt (vI 2) (vI 3)) (d3 (stI 13 idI) (vR 0) (vI 2) (vI 1)) (dInc 2 1)
theorem sLJ7_fill_53178_1 {ΓL : Gm} {PB PK : List Nat} : SS (cvoV, .return_) miJ7_fill_53178 ΓL PB PK [(0, 2), (1, 0), (2, 0), (3, 0)] [(0, 2), (1, 0), (2, 0), (3, 0)] 5 [20] LJ7_fill_53178_1 := t_loop (pT := 10) (pF := 20) (pu := 14) (PB' := []) (PK' := []) (XB := [14]) (XU := [17]) (fun _ _ => rfl) rfl (c_lt_F (pF := 20) (s_iload_n dJ7_fill_53178_5 rfl rfl) (s_iload_n dJ7_fill_53178_6 rfl rfl) dJ7_fill_53178_7 rfl) (t_stI (s_aload_n dJ7_fill_53178_10 rfl rfl) (s_iload_n dJ7_fill_53178_11 rfl rfl) (s_iload_n dJ7_fill_53178_12 rfl rfl) dJ7_fill_53178_13 rfl) (t_iinc dJ7_fill_53178_14 rfl rfl rfl rfl) (lda_cons (ld_in rfl) lda_nil) lda_nil (lda_cons (ld_goto (y := 5) dJ7_fill_53178_17 rfl (ld_in rfl)) lda_nil) (ld_in rfl) lda_nil
noncomputable def BJ7_fill_53178 : Sm Unit := (dSeq (dSeq (dSetI 2 (cI 0)) (dSeq (dSetI 3 (dLen (vR 0))) LJ7_fill_53178_1)) dRet0)
theorem sBJ7_fill_53178 : SS (cvoV, .return_) miJ7_fill_53178 [] [] [] [(0, 2), (1, 0)] [(0, 2), (1, 0)] 0 [] BJ7_fill_53178 := (t_sq (p1 := 20) (Γ' := [(0, 2), (1, 0)]) (t_sq (p1 := 2) (Γ' := [(0, 2), (1, 0), (2, 0)]) (t_istore_n (s_iconst dJ7_fill_53178_0 rfl) dJ7_fill_53178_1 rfl rfl rfl) (t_sq (p1 := 5) (Γ' := [(0, 2), (1, 0), (2, 0), (3, 0)]) (t_istore_n (s_len (s_aload_n dJ7_fill_53178_2 rfl rfl) dJ7_fill_53178_3) dJ7_fill_53178_4 rfl rfl rfl) (tn_to (Γ' := [(0, 2), (1, 0), (2, 0), (3, 0)]) (XA := [20]) sLJ7_fill_53178_1 (lda_cons (ld_in rfl) lda_nil) rfl))) (t_ret0 (fun _ _ => rfl) dJ7_fill_53178_20))
noncomputable def DJ7_fill_53178 : Fr → St → Option (Unit × St) := M1 (fun f => (sI (sR fr0 0 (gR f 0)) 1 (gI f 1))) BJ7_fill_53178
theorem kJ7_fill_53178 : SND yJ7_fill_53178 cJ7_fill_53178 4 none 1 [(0, 2), (1, 0)] cvoV DJ7_fill_53178 := snd_V (nw := 2) (by decide) (fun z => by cases z) rfl rfl (fun _ _ => rfl) sBJ7_fill_53178
theorem dX1_rubbedByActs_0 : decode cX1_rubbedByActs 0 = .ok (.iconst 0, 1) := by decide +kernel
theorem dX1_rubbedByActs_1 : decode cX1_rubbedByActs 1 = .ok (.istore_n 2, 1) := by decide +kernel
theorem dX1_rubbedByActs_2 : decode cX1_rubbedByActs 2 = .ok (.iconst 0, 1) := by decide +kernel
theorem dX1_rubbedByActs_3 : decode cX1_rubbedByActs 3 = .ok (.istore_n 3, 1) := by decide +kernel
theorem dX1_rubbedByActs_4 : decode cX1_rubbedByActs 4 = .ok (.iload_n 3, 1) := by decide +kernel
theorem dX1_rubbedByActs_5 : decode cX1_rubbedByActs 5 = .ok (.aload_n 0, 1) := by decide +kernel
theorem dX1_rubbedByActs_6 : decode cX1_rubbedByActs 6 = .ok (.getfield 37, 3) := by decide +kernel
theorem dX1_rubbedByActs_9 : decode cX1_rubbedByActs 9 = .ok (.if_icmp .ge 52, 3) := by decide +kernel
theorem dX1_rubbedByActs_12 : decode cX1_rubbedByActs 12 = .ok (.iload_n 3, 1) := by decide +kernel
theorem dX1_rubbedByActs_13 : decode cX1_rubbedByActs 13 = .ok (.bipush 20, 2) := by decide +kernel
theorem dX1_rubbedByActs_15 : decode cX1_rubbedByActs 15 = .ok (.if_icmp .ge 46, 3) := by decide +kernel
theorem dX1_rubbedByActs_18 : decode cX1_rubbedByActs 18 = .ok (.aload_n 0, 1) := by decide +kernel
theorem dX1_rubbedByActs_19 : decode cX1_rubbedByActs 19 = .ok (.getfield 27, 3) := by decide +kernel
theorem dX1_rubbedByActs_22 : decode cX1_rubbedByActs 22 = .ok (.iload_n 3, 1) := by decide +kernel
theorem dX1_rubbedByActs_23 : decode cX1_rubbedByActs 23 = .ok (.invokestatic 50, 3) := by decide +kernel
theorem dX1_rubbedByActs_26 : decode cX1_rubbedByActs 26 = .ok (.iconst (-1), 1) := by decide +kernel
theorem dX1_rubbedByActs_27 : decode cX1_rubbedByActs 27 = .ok (.if_icmp .eq 28, 3) := by decide +kernel
theorem dX1_rubbedByActs_30 : decode cX1_rubbedByActs 30 = .ok (.aload_n 0, 1) := by decide +kernel
theorem dX1_rubbedByActs_31 : decode cX1_rubbedByActs 31 = .ok (.getfield 24, 3) := by decide +kernel
theorem dX1_rubbedByActs_34 : decode cX1_rubbedByActs 34 = .ok (.iload_n 3, 1) := by decide +kernel
theorem dX1_rubbedByActs_35 : decode cX1_rubbedByActs 35 = .ok (.invokestatic 50, 3) := by decide +kernel
theorem dX1_rubbedByActs_38 : decode cX1_rubbedByActs 38 = .ok (.iload_n 1, 1) := by decide +kernel
theorem dX1_rubbedByActs_39 : decode cX1_rubbedByActs 39 = .ok (.if_icmp .ne 16, 3) := by decide +kernel
theorem dX1_rubbedByActs_42 : decode cX1_rubbedByActs 42 = .ok (.iload_n 2, 1) := by decide +kernel
theorem dX1_rubbedByActs_43 : decode cX1_rubbedByActs 43 = .ok (.iconst 1, 1) := by decide +kernel
theorem dX1_rubbedByActs_44 : decode cX1_rubbedByActs 44 = .ok (.aload_n 0, 1) := by decide +kernel
theorem dX1_rubbedByActs_45 : decode cX1_rubbedByActs 45 = .ok (.getfield 27, 3) := by decide +kernel
theorem dX1_rubbedByActs_48 : decode cX1_rubbedByActs 48 = .ok (.iload_n 3, 1) := by decide +kernel
theorem dX1_rubbedByActs_49 : decode cX1_rubbedByActs 49 = .ok (.invokestatic 50, 3) := by decide +kernel
theorem dX1_rubbedByActs_52 : decode cX1_rubbedByActs 52 = .ok (.ishl, 1) := by decide +kernel
theorem dX1_rubbedByActs_53 : decode cX1_rubbedByActs 53 = .ok (.ior, 1) := by decide +kernel
theorem dX1_rubbedByActs_54 : decode cX1_rubbedByActs 54 = .ok (.istore_n 2, 1) := by decide +kernel
theorem dX1_rubbedByActs_55 : decode cX1_rubbedByActs 55 = .ok (.iinc 3 1, 3) := by decide +kernel
theorem dX1_rubbedByActs_58 : decode cX1_rubbedByActs 58 = .ok (.goto (-54), 3) := by decide +kernel
theorem dX1_rubbedByActs_61 : decode cX1_rubbedByActs 61 = .ok (.iload_n 2, 1) := by decide +kernel
theorem dX1_rubbedByActs_62 : decode cX1_rubbedByActs 62 = .ok (.ireturn, 1) := by decide +kernel
theorem mokX1_rubbedByActs : MOK yX1_rubbedByActs cX1_rubbedByActs 4 (some .int) 1 := ⟨w3_78, w1_5, ⟨by decide, by decide⟩, by decide +kernel, by decide⟩
abbrev miX1_rubbedByActs : MI := (yX1_rubbedByActs.cls, cX1_rubbedByActs, 4, 2, false)
noncomputable def LX1_rubbedByActs_1 : Sm Int32 := dLoop (fun f => (sI (sI (sI (sR fr0 0 (gR f 0)) 1 (gI f 1)) 2 (gI f 2)) 3 (gI f 3))) (dAnd (dCI r_lt (vI 3) (dGI 1 2 (vR 0))) (dCI r_lt (vI 3) (cI 20))) (dIf (dAnd (dCI r_ne (dCall DX11_cell (aI (aR aN 0 (dGR 1 8 (vR 0))) 1 (vI 3))) (cI (-1))) (dCI r_eq (dCall DX11_cell (aI (aR aN 0 (dGR 1 7 (vR 0))) 1 (vI 3))) (vI 1))) (dSetI 2 (d2 o_ior (vI 2) (d2 o_ishl (cI 1) (dCall DX11_cell (aI (aR aN 0 (dGR 1 8 (vR 0))) 1 (vI 3)))))) dSkip) (dInc 3 1)
theorem sLX1_rubbedByActs_1 {ΓL : Gm} {PB PK : List Nat} : SS (cvoI, .ireturn) miX1_rubbedByActs ΓL PB PK [(0, 2), (1, 0), (2, 0), (3, 0)] [(0, 2), (1, 0), (2, 0), (3, 0)] 4 [61] LX1_rubbedByActs_1 := t_loop (pT := 18) (pF := 61) (pu := 55) (PB' := []) (PK' := []) (XB := [55]) (XU := [58]) (fun _ _ => rfl) rfl (c_and (p1 := 12) (pT := 18) (pF := 61) (c_lt_F (pF := 61) (s_iload_n dX1_rubbedByActs_4 rfl rfl) (s_getI ck1 2 (by decide) rfl (s_aload_n dX1_rubbedByActs_5 rfl rfl) dX1_rubbedByActs_6 w1_92) dX1_rubbedByActs_9 rfl) (c_lt_F (pF := 61) (s_iload_n dX1_rubbedByActs_12 rfl rfl) (s_bipush dX1_rubbedByActs_13 rfl) dX1_rubbedByActs_15 rfl)) (t_if (pT := 42) (pF := 55) (X := [55]) (XA := [55]) (XB := [55]) (c_and (p1 := 30) (pT := 42) (pF := 55) (c_ne_F (pF := 55) (s_of_xI (x_callN (ts := [(0, 2), (1, 0)]) kX11_cell mokX11_cell w3_26 rfl rfl rfl (a_I (ts := [(0, 2)]) 1 (a_R (ts := []) 0 a_nil (s_getR ck1 8 (by decide) rfl (s_aload_n dX1_rubbedByActs_18 rfl rfl) dX1_rubbedByActs_19 w1_103) rfl) (s_iload_n dX1_rubbedByActs_22 rfl rfl) rfl) dX1_rubbedByActs_23 nb15)) (s_iconst dX1_rubbedByActs_26 rfl) dX1_rubbedByActs_27 rfl) (c_eq_F (pF := 55) (s_of_xI (x_callN (ts := [(0, 2), (1, 0)]) kX11_cell mokX11_cell w3_26 rfl rfl rfl (a_I (ts := [(0, 2)]) 1 (a_R (ts := []) 0 a_nil (s_getR ck1 7 (by decide) rfl (s_aload_n dX1_rubbedByActs_30 rfl rfl) dX1_rubbedByActs_31 w1_102) rfl) (s_iload_n dX1_rubbedByActs_34 rfl rfl) rfl) dX1_rubbedByActs_35 nb15)) (s_iload_n dX1_rubbedByActs_38 rfl rfl) dX1_rubbedByActs_39 rfl)) (t_istore_n (s_ior (s_iload_n dX1_rubbedByActs_42 rfl rfl) (s_ishl (s_iconst dX1_rubbedByActs_43 rfl) (s_of_xI (x_callN (ts := [(0, 2), (1, 0)]) kX11_cell mokX11_cell w3_26 rfl rfl rfl (a_I (ts := [(0, 2)]) 1 (a_R (ts := []) 0 a_nil (s_getR ck1 8 (by decide) rfl (s_aload_n dX1_rubbedByActs_44 rfl rfl) dX1_rubbedByActs_45 w1_103) rfl) (s_iload_n dX1_rubbedByActs_48 rfl rfl) rfl) dX1_rubbedByActs_49 nb15)) dX1_rubbedByActs_52) dX1_rubbedByActs_53) dX1_rubbedByActs_54 rfl rfl rfl) (t_skip (ld_in rfl) rfl) (lda_cons (ld_in rfl) lda_nil) (lda_cons (ld_in rfl) lda_nil)) (t_iinc dX1_rubbedByActs_55 rfl rfl rfl rfl) (lda_cons (ld_in rfl) lda_nil) lda_nil (lda_cons (ld_goto (y := 4) dX1_rubbedByActs_58 rfl (ld_in rfl)) lda_nil) (ld_in rfl) lda_nil
noncomputable def BX1_rubbedByActs : Sm Int32 := (dSeq (dSetI 2 (cI 0)) (dSeq (dSeq (dSetI 3 (cI 0)) LX1_rubbedByActs_1) (dRet (vI 2))))
theorem sBX1_rubbedByActs : SS (cvoI, .ireturn) miX1_rubbedByActs [] [] [] [(0, 2), (1, 0)] [(0, 2), (1, 0)] 0 [] BX1_rubbedByActs := (t_sq (p1 := 2) (Γ' := [(0, 2), (1, 0), (2, 0)]) (t_istore_n (s_iconst dX1_rubbedByActs_0 rfl) dX1_rubbedByActs_1 rfl rfl rfl) (t_sq (p1 := 61) (Γ' := [(0, 2), (1, 0), (2, 0)]) (t_sq (p1 := 4) (Γ' := [(0, 2), (1, 0), (2, 0), (3, 0)]) (t_istore_n (s_iconst dX1_rubbedByActs_2 rfl) dX1_rubbedByActs_3 rfl rfl rfl) (tn_to (Γ' := [(0, 2), (1, 0), (2, 0), (3, 0)]) (XA := [61]) sLX1_rubbedByActs_1 (lda_cons (ld_in rfl) lda_nil) rfl)) (t_ret (cv := cvI) (fun _ _ => rfl) (s_iload_n dX1_rubbedByActs_61 rfl rfl) dX1_rubbedByActs_62)))
noncomputable def DX1_rubbedByActs : Fr → St → Option (Int32 × St) := M1 (fun f => (sI (sR fr0 0 (gR f 0)) 1 (gI f 1))) BX1_rubbedByActs
theorem kX1_rubbedByActs : SND yX1_rubbedByActs cX1_rubbedByActs 4 (some .int) 2 [(0, 2), (1, 0)] cvoI DX1_rubbedByActs := snd_I (nw := 2) (by decide) rfl rfl (fun _ _ => rfl) sBX1_rubbedByActs
theorem dX5_allWords_0 : decode cX5_allWords 0 = .ok (.iconst 1, 1) := by decide +kernel
theorem dX5_allWords_1 : decode cX5_allWords 1 = .ok (.aload_n 0, 1) := by decide +kernel
theorem dX5_allWords_2 : decode cX5_allWords 2 = .ok (.getfield 30, 3) := by decide +kernel
theorem dX5_allWords_5 : decode cX5_allWords 5 = .ok (.iload_n 1, 1) := by decide +kernel
theorem dX5_allWords_6 : decode cX5_allWords 6 = .ok (.invokestatic 85, 3) := by decide +kernel
theorem dX5_allWords_9 : decode cX5_allWords 9 = .ok (.ishl, 1) := by decide +kernel
theorem dX5_allWords_10 : decode cX5_allWords 10 = .ok (.iconst 1, 1) := by decide +kernel
theorem dX5_allWords_11 : decode cX5_allWords 11 = .ok (.isub, 1) := by decide +kernel
theorem dX5_allWords_12 : decode cX5_allWords 12 = .ok (.ireturn, 1) := by decide +kernel
theorem mokX5_allWords : MOK yX5_allWords cX5_allWords 2 (some .int) 1 := ⟨w3_74, w1_4, ⟨by decide, by decide⟩, by decide +kernel, by decide⟩
abbrev miX5_allWords : MI := (yX5_allWords.cls, cX5_allWords, 2, 2, false)
noncomputable def BX5_allWords : Sm Int32 := (dRet (d2 o_isub (d2 o_ishl (cI 1) (dCall DX11_cell (aI (aR aN 0 (dGR 5 14 (vR 0))) 1 (vI 1)))) (cI 1)))
theorem sBX5_allWords : SS (cvoI, .ireturn) miX5_allWords [] [] [] [(0, 2), (1, 0)] [(0, 2), (1, 0)] 0 [] BX5_allWords := (t_ret (cv := cvI) (fun _ _ => rfl) (s_isub (s_ishl (s_iconst dX5_allWords_0 rfl) (s_of_xI (x_callN (ts := [(0, 2), (1, 0)]) kX11_cell mokX11_cell w3_26 rfl rfl rfl (a_I (ts := [(0, 2)]) 1 (a_R (ts := []) 0 a_nil (s_getR ck5 14 (by decide) rfl (s_aload_n dX5_allWords_1 rfl rfl) dX5_allWords_2 w1_178) rfl) (s_iload_n dX5_allWords_5 rfl rfl) rfl) dX5_allWords_6 nb12)) dX5_allWords_9) (s_iconst dX5_allWords_10 rfl) dX5_allWords_11) dX5_allWords_12)
noncomputable def DX5_allWords : Fr → St → Option (Int32 × St) := M1 (fun f => (sI (sR fr0 0 (gR f 0)) 1 (gI f 1))) BX5_allWords
theorem kX5_allWords : SND yX5_allWords cX5_allWords 2 (some .int) 2 [(0, 2), (1, 0)] cvoI DX5_allWords := snd_I (nw := 2) (by decide) rfl rfl (fun _ _ => rfl) sBX5_allWords
theorem dX5_leftAtFirst_0 : decode cX5_leftAtFirst 0 = .ok (.aload_n 0, 1) := by decide +kernel
theorem dX5_leftAtFirst_1 : decode cX5_leftAtFirst 1 = .ok (.iload_n 1, 1) := by decide +kernel
theorem dX5_leftAtFirst_2 : decode cX5_leftAtFirst 2 = .ok (.invokevirtual 106, 3) := by decide +kernel
theorem dX5_leftAtFirst_5 : decode cX5_leftAtFirst 5 = .ok (.aload_n 0, 1) := by decide +kernel
theorem dX5_leftAtFirst_6 : decode cX5_leftAtFirst 6 = .ok (.getfield 39, 3) := by decide +kernel
theorem dX5_leftAtFirst_9 : decode cX5_leftAtFirst 9 = .ok (.iload_n 1, 1) := by decide +kernel
theorem dX5_leftAtFirst_10 : decode cX5_leftAtFirst 10 = .ok (.invokevirtual 110, 3) := by decide +kernel
theorem dX5_leftAtFirst_13 : decode cX5_leftAtFirst 13 = .ok (.iconst (-1), 1) := by decide +kernel
theorem dX5_leftAtFirst_14 : decode cX5_leftAtFirst 14 = .ok (.ixor, 1) := by decide +kernel
theorem dX5_leftAtFirst_15 : decode cX5_leftAtFirst 15 = .ok (.iand, 1) := by decide +kernel
theorem dX5_leftAtFirst_16 : decode cX5_leftAtFirst 16 = .ok (.ireturn, 1) := by decide +kernel
theorem mokX5_leftAtFirst : MOK yX5_leftAtFirst cX5_leftAtFirst 2 (some .int) 1 := ⟨w3_70, w1_4, ⟨by decide, by decide⟩, by decide +kernel, by decide⟩
abbrev miX5_leftAtFirst : MI := (yX5_leftAtFirst.cls, cX5_leftAtFirst, 2, 3, false)
noncomputable def BX5_leftAtFirst : Sm Int32 := (dRet (d2 o_iand (dCallV 5 DX5_allWords (aI (aR aN 0 (vR 0)) 1 (vI 1))) (d2 o_ixor (dCallV 1 DX1_rubbedByActs (aI (aR aN 0 (dGR 5 16 (vR 0))) 1 (vI 1))) (cI (-1)))))
theorem sBX5_leftAtFirst : SS (cvoI, .ireturn) miX5_leftAtFirst [] [] [] [(0, 2), (1, 0)] [(0, 2), (1, 0)] 0 [] BX5_leftAtFirst := (t_ret (cv := cvI) (fun _ _ => rfl) (s_iand (s_of_xI (x_callV (ts := [(0, 2), (1, 0)]) ck5 rfl kX5_allWords mokX5_allWords w3_72 w3_73 rfl rfl rfl rfl (a_I (ts := [(0, 2)]) 1 (a_R (ts := []) 0 a_nil (s_aload_n dX5_leftAtFirst_0 rfl rfl) rfl) (s_iload_n dX5_leftAtFirst_1 rfl rfl) rfl) dX5_leftAtFirst_2 w3_71)) (s_ixor (s_of_xI (x_callV (ts := [(0, 2), (1, 0)]) ck1 rfl kX1_rubbedByActs mokX1_rubbedByActs w3_76 w3_77 rfl rfl rfl rfl (a_I (ts := [(0, 2)]) 1 (a_R (ts := []) 0 a_nil (s_getR ck5 16 (by decide) rfl (s_aload_n dX5_leftAtFirst_5 rfl rfl) dX5_leftAtFirst_6 w1_182) rfl) (s_iload_n dX5_leftAtFirst_9 rfl rfl) rfl) dX5_leftAtFirst_10 w3_75)) (s_iconst dX5_leftAtFirst_13 rfl) dX5_leftAtFirst_14) dX5_leftAtFirst_15) dX5_leftAtFirst_16)
noncomputable def DX5_leftAtFirst : Fr → St → Option (Int32 × St) := M1 (fun f => (sI (sR fr0 0 (gR f 0)) 1 (gI f 1))) BX5_leftAtFirst
theorem kX5_leftAtFirst : SND yX5_leftAtFirst cX5_leftAtFirst 2 (some .int) 3 [(0, 2), (1, 0)] cvoI DX5_leftAtFirst := snd_I (nw := 2) (by decide) rfl rfl (fun _ _ => rfl) sBX5_leftAtFirst
theorem dX2_begin_0 : decode cX2_begin 0 = .ok (.aload_n 0, 1) := by decide +kernel
theorem dX2_begin_1 : decode cX2_begin 1 = .ok (.getfield 21, 3) := by decide +kernel
theorem dX2_begin_4 : decode cX2_begin 4 = .ok (.iconst 0, 1) := by decide +kernel
theorem dX2_begin_5 : decode cX2_begin 5 = .ok (.invokestatic 55, 3) := by decide +kernel
theorem dX2_begin_8 : decode cX2_begin 8 = .ok (.aload_n 0, 1) := by decide +kernel
theorem dX2_begin_9 : decode cX2_begin 9 = .ok (.getfield 27, 3) := by decide +kernel
theorem dX2_begin_12 : decode cX2_begin 12 = .ok (.iconst 1, 1) := by decide +kernel
theorem dX2_begin_13 : decode cX2_begin 13 = .ok (.invokestatic 55, 3) := by decide +kernel
theorem dX2_begin_16 : decode cX2_begin 16 = .ok (.aload_n 0, 1) := by decide +kernel
theorem dX2_begin_17 : decode cX2_begin 17 = .ok (.getfield 30, 3) := by decide +kernel
theorem dX2_begin_20 : decode cX2_begin 20 = .ok (.iconst (-1), 1) := by decide +kernel
theorem dX2_begin_21 : decode cX2_begin 21 = .ok (.invokestatic 55, 3) := by decide +kernel
theorem dX2_begin_24 : decode cX2_begin 24 = .ok (.iconst 0, 1) := by decide +kernel
theorem dX2_begin_25 : decode cX2_begin 25 = .ok (.istore_n 2, 1) := by decide +kernel
theorem dX2_begin_26 : decode cX2_begin 26 = .ok (.iload_n 2, 1) := by decide +kernel
theorem dX2_begin_27 : decode cX2_begin 27 = .ok (.aload_n 1, 1) := by decide +kernel
theorem dX2_begin_28 : decode cX2_begin 28 = .ok (.getfield 61, 3) := by decide +kernel
theorem dX2_begin_31 : decode cX2_begin 31 = .ok (.if_icmp .ge 25, 3) := by decide +kernel
theorem dX2_begin_34 : decode cX2_begin 34 = .ok (.aload_n 0, 1) := by decide +kernel
theorem dX2_begin_35 : decode cX2_begin 35 = .ok (.getfield 9, 3) := by decide +kernel
theorem dX2_begin_38 : decode cX2_begin 38 = .ok (.iload_n 2, 1) := by decide +kernel
theorem dX2_begin_39 : decode cX2_begin 39 = .ok (.aload_n 1, 1) := by decide +kernel
theorem dX2_begin_40 : decode cX2_begin 40 = .ok (.getfield 64, 3) := by decide +kernel
theorem dX2_begin_43 : decode cX2_begin 43 = .ok (.iload_n 2, 1) := by decide +kernel
theorem dX2_begin_44 : decode cX2_begin 44 = .ok (.invokestatic 65, 3) := by decide +kernel
theorem dX2_begin_47 : decode cX2_begin 47 = .ok (.invokestatic 69, 3) := by decide +kernel
theorem dX2_begin_50 : decode cX2_begin 50 = .ok (.iinc 2 1, 3) := by decide +kernel
theorem dX2_begin_53 : decode cX2_begin 53 = .ok (.goto (-27), 3) := by decide +kernel
theorem dX2_begin_56 : decode cX2_begin 56 = .ok (.iconst 0, 1) := by decide +kernel
theorem dX2_begin_57 : decode cX2_begin 57 = .ok (.istore_n 2, 1) := by decide +kernel
theorem dX2_begin_58 : decode cX2_begin 58 = .ok (.iload_n 2, 1) := by decide +kernel
theorem dX2_begin_59 : decode cX2_begin 59 = .ok (.aload_n 1, 1) := by decide +kernel
theorem dX2_begin_60 : decode cX2_begin 60 = .ok (.getfield 73, 3) := by decide +kernel
theorem dX2_begin_63 : decode cX2_begin 63 = .ok (.if_icmp .ge 87, 3) := by decide +kernel
theorem dX2_begin_66 : decode cX2_begin 66 = .ok (.iload_n 2, 1) := by decide +kernel
theorem dX2_begin_67 : decode cX2_begin 67 = .ok (.aload_n 0, 1) := by decide +kernel
theorem dX2_begin_68 : decode cX2_begin 68 = .ok (.getfield 49, 3) := by decide +kernel
theorem dX2_begin_71 : decode cX2_begin 71 = .ok (.if_icmp .ne 10, 3) := by decide +kernel
theorem dX2_begin_74 : decode cX2_begin 74 = .ok (.aload_n 0, 1) := by decide +kernel
theorem dX2_begin_75 : decode cX2_begin 75 = .ok (.getfield 52, 3) := by decide +kernel
theorem dX2_begin_78 : decode cX2_begin 78 = .ok (.goto 11, 3) := by decide +kernel
theorem dX2_begin_81 : decode cX2_begin 81 = .ok (.aload_n 1, 1) := by decide +kernel
theorem dX2_begin_82 : decode cX2_begin 82 = .ok (.getfield 76, 3) := by decide +kernel
theorem dX2_begin_85 : decode cX2_begin 85 = .ok (.iload_n 2, 1) := by decide +kernel
theorem dX2_begin_86 : decode cX2_begin 86 = .ok (.invokestatic 65, 3) := by decide +kernel
theorem dX2_begin_89 : decode cX2_begin 89 = .ok (.istore_n 3, 1) := by decide +kernel
theorem dX2_begin_90 : decode cX2_begin 90 = .ok (.aload_n 0, 1) := by decide +kernel
theorem dX2_begin_91 : decode cX2_begin 91 = .ok (.getfield 15, 3) := by decide +kernel
theorem dX2_begin_94 : decode cX2_begin 94 = .ok (.iload_n 2, 1) := by decide +kernel
theorem dX2_begin_95 : decode cX2_begin 95 = .ok (.iload_n 3, 1) := by decide +kernel
theorem dX2_begin_96 : decode cX2_begin 96 = .ok (.invokestatic 69, 3) := by decide +kernel
theorem dX2_begin_99 : decode cX2_begin 99 = .ok (.aload_n 0, 1) := by decide +kernel
theorem dX2_begin_100 : decode cX2_begin 100 = .ok (.getfield 18, 3) := by decide +kernel
theorem dX2_begin_103 : decode cX2_begin 103 = .ok (.iload_n 2, 1) := by decide +kernel
theorem dX2_begin_104 : decode cX2_begin 104 = .ok (.aload_n 1, 1) := by decide +kernel
theorem dX2_begin_105 : decode cX2_begin 105 = .ok (.iload_n 2, 1) := by decide +kernel
theorem dX2_begin_106 : decode cX2_begin 106 = .ok (.invokevirtual 77, 3) := by decide +kernel
theorem dX2_begin_109 : decode cX2_begin 109 = .ok (.invokestatic 69, 3) := by decide +kernel
theorem dX2_begin_112 : decode cX2_begin 112 = .ok (.aload_n 0, 1) := by decide +kernel
theorem dX2_begin_113 : decode cX2_begin 113 = .ok (.getfield 24, 3) := by decide +kernel
theorem dX2_begin_116 : decode cX2_begin 116 = .ok (.iload_n 2, 1) := by decide +kernel
theorem dX2_begin_117 : decode cX2_begin 117 = .ok (.iconst 1, 1) := by decide +kernel
theorem dX2_begin_118 : decode cX2_begin 118 = .ok (.iload_n 3, 1) := by decide +kernel
theorem dX2_begin_119 : decode cX2_begin 119 = .ok (.ishl, 1) := by decide +kernel
theorem dX2_begin_120 : decode cX2_begin 120 = .ok (.invokestatic 69, 3) := by decide +kernel
theorem dX2_begin_123 : decode cX2_begin 123 = .ok (.aload_n 0, 1) := by decide +kernel
theorem dX2_begin_124 : decode cX2_begin 124 = .ok (.getfield 21, 3) := by decide +kernel
theorem dX2_begin_127 : decode cX2_begin 127 = .ok (.iload_n 2, 1) := by decide +kernel
theorem dX2_begin_128 : decode cX2_begin 128 = .ok (.bipush 8, 2) := by decide +kernel
theorem dX2_begin_130 : decode cX2_begin 130 = .ok (.imul, 1) := by decide +kernel
theorem dX2_begin_131 : decode cX2_begin 131 = .ok (.iload_n 3, 1) := by decide +kernel
theorem dX2_begin_132 : decode cX2_begin 132 = .ok (.iadd, 1) := by decide +kernel
theorem dX2_begin_133 : decode cX2_begin 133 = .ok (.aload_n 0, 1) := by decide +kernel
theorem dX2_begin_134 : decode cX2_begin 134 = .ok (.getfield 18, 3) := by decide +kernel
theorem dX2_begin_137 : decode cX2_begin 137 = .ok (.iload_n 2, 1) := by decide +kernel
theorem dX2_begin_138 : decode cX2_begin 138 = .ok (.invokestatic 65, 3) := by decide +kernel
theorem dX2_begin_141 : decode cX2_begin 141 = .ok (.invokestatic 69, 3) := by decide +kernel
theorem dX2_begin_144 : decode cX2_begin 144 = .ok (.iinc 2 1, 3) := by decide +kernel
theorem dX2_begin_147 : decode cX2_begin 147 = .ok (.goto (-89), 3) := by decide +kernel
theorem dX2_begin_150 : decode cX2_begin 150 = .ok (.return_, 1) := by decide +kernel
theorem mokX2_begin : MOK yX2_begin cX2_begin 4 none 1 := ⟨w3_59, w1_8, ⟨by decide, by decide⟩, by decide +kernel, by decide⟩
abbrev miX2_begin : MI := (yX2_begin.cls, cX2_begin, 4, 4, false)
noncomputable def LX2_begin_1 : Sm Unit := dLoop (fun f => (sI (sR (sR fr0 0 (gR f 0)) 1 (gR f 1)) 2 (gI f 2))) (dCI r_lt (vI 2) (dGI 5 6 (vR 1))) (dDo (dCall DX11_put (aI (aI (aR aN 0 (dGR 2 8 (vR 0))) 1 (vI 2)) 2 (dCall DX11_cell (aI (aR aN 0 (dGR 5 11 (vR 1))) 1 (vI 2)))))) (dInc 2 1)
theorem sLX2_begin_1 {ΓL : Gm} {PB PK : List Nat} : SS (cvoV, .return_) miX2_begin ΓL PB PK [(0, 2), (1, 2), (2, 0)] [(0, 2), (1, 2), (2, 0)] 26 [56] LX2_begin_1 := t_loop (pT := 34) (pF := 56) (pu := 50) (PB' := []) (PK' := []) (XB := [50]) (XU := [53]) (fun _ _ => rfl) rfl (c_lt_F (pF := 56) (s_iload_n dX2_begin_26 rfl rfl) (s_getI ck5 6 (by decide) rfl (s_aload_n dX2_begin_27 rfl rfl) dX2_begin_28 w1_154) dX2_begin_31 rfl) (t_do (x_callN (ts := [(0, 2), (1, 0), (2, 0)]) kX11_put mokX11_put w3_65 rfl rfl rfl (a_I (ts := [(0, 2), (1, 0)]) 2 (a_I (ts := [(0, 2)]) 1 (a_R (ts := []) 0 a_nil (s_getR ck2 8 (by decide) rfl (s_aload_n dX2_begin_34 rfl rfl) dX2_begin_35 w2_25) rfl) (s_iload_n dX2_begin_38 rfl rfl) rfl) (s_of_xI (x_callN (ts := [(0, 2), (1, 0)]) kX11_cell mokX11_cell w3_26 rfl rfl rfl (a_I (ts := [(0, 2)]) 1 (a_R (ts := []) 0 a_nil (s_getR ck5 11 (by decide) rfl (s_aload_n dX2_begin_39 rfl rfl) dX2_begin_40 w1_168) rfl) (s_iload_n dX2_begin_43 rfl rfl) rfl) dX2_begin_44 nb13)) rfl) dX2_begin_47 nb14) rfl) (t_iinc dX2_begin_50 rfl rfl rfl rfl) (lda_cons (ld_in rfl) lda_nil) lda_nil (lda_cons (ld_goto (y := 26) dX2_begin_53 rfl (ld_in rfl)) lda_nil) (ld_in rfl) lda_nil
noncomputable def LX2_begin_2 : Sm Unit := dLoop (fun f => (sI (sR (sR fr0 0 (gR f 0)) 1 (gR f 1)) 2 (gI f 2))) (dCI r_lt (vI 2) (dGI 5 7 (vR 1))) (dSeq (dSetI 3 (dT (dCI r_eq (vI 2) (dGI 2 4 (vR 0))) (dGI 2 5 (vR 0)) (dCall DX11_cell (aI (aR aN 0 (dGR 5 13 (vR 1))) 1 (vI 2))))) (dSeq (dDo (dCall DX11_put (aI (aI (aR aN 0 (dGR 2 9 (vR 0))) 1 (vI 2)) 2 (vI 3)))) (dSeq (dDo (dCall DX11_put (aI (aI (aR aN 0 (dGR 2 10 (vR 0))) 1 (vI 2)) 2 (dCallV 5 DX5_leftAtFirst (aI (aR aN 0 (vR 1)) 1 (vI 2)))))) (dSeq (dDo (dCall DX11_put (aI (aI (aR aN 0 (dGR 2 12 (vR 0))) 1 (vI 2)) 2 (d2 o_ishl (cI 1) (vI 3))))) (dDo (dCall DX11_put (aI (aI (aR aN 0 (dGR 2 11 (vR 0))) 1 (d2 o_iadd (d2 o_imul (vI 2) (cI 8)) (vI 3))) 2 (dCall DX11_cell (aI (aR aN 0 (dGR 2 10 (vR 0))) 1 (vI 2)))))))))) (dInc 2 1)
theorem sLX2_begin_2 {ΓL : Gm} {PB PK : List Nat} : SS (cvoV, .return_) miX2_begin ΓL PB PK [(0, 2), (1, 2), (2, 0)] [(0, 2), (1, 2), (2, 0)] 58 [150] LX2_begin_2 := t_loop (pT := 66) (pF := 150) (pu := 144) (PB' := []) (PK' := []) (XB := [144]) (XU := [147]) (fun _ _ => rfl) rfl (c_lt_F (pF := 150) (s_iload_n dX2_begin_58 rfl rfl) (s_getI ck5 7 (by decide) rfl (s_aload_n dX2_begin_59 rfl rfl) dX2_begin_60 w1_158) dX2_begin_63 rfl) (t_sq (p1 := 90) (Γ' := [(0, 2), (1, 2), (2, 0), (3, 0)]) (t_istore_n (s_T (pT := 74) (pF := 81) (p1 := 78) (pe := 89) (c_eq_F (pF := 81) (s_iload_n dX2_begin_66 rfl rfl) (s_getI ck2 4 (by decide) rfl (s_aload_n dX2_begin_67 rfl rfl) dX2_begin_68 w2_18) dX2_begin_71 rfl) (s_getI ck2 5 (by decide) rfl (s_aload_n dX2_begin_74 rfl rfl) dX2_begin_75 w2_20) (s_of_xI (x_callN (ts := [(0, 2), (1, 0)]) kX11_cell mokX11_cell w3_26 rfl rfl rfl (a_I (ts := [(0, 2)]) 1 (a_R (ts := []) 0 a_nil (s_getR ck5 13 (by decide) rfl (s_aload_n dX2_begin_81 rfl rfl) dX2_begin_82 w1_176) rfl) (s_iload_n dX2_begin_85 rfl rfl) rfl) dX2_begin_86 nb13)) (ld_goto (y := 89) dX2_begin_78 rfl (ld_in rfl))) dX2_begin_89 rfl rfl rfl) (t_sq (p1 := 99) (Γ' := [(0, 2), (1, 2), (2, 0), (3, 0)]) (t_do (x_callN (ts := [(0, 2), (1, 0), (2, 0)]) kX11_put mokX11_put w3_65 rfl rfl rfl (a_I (ts := [(0, 2), (1, 0)]) 2 (a_I (ts := [(0, 2)]) 1 (a_R (ts := []) 0 a_nil (s_getR ck2 9 (by decide) rfl (s_aload_n dX2_begin_90 rfl rfl) dX2_begin_91 w2_27) rfl) (s_iload_n dX2_begin_94 rfl rfl) rfl) (s_iload_n dX2_begin_95 rfl rfl) rfl) dX2_begin_96 nb14) rfl) (t_sq (p1 := 112) (Γ' := [(0, 2), (1, 2), (2, 0), (3, 0)]) (t_do (x_callN (ts := [(0, 2), (1, 0), (2, 0)]) kX11_put mokX11_put w3_65 rfl rfl rfl (a_I (ts := [(0, 2), (1, 0)]) 2 (a_I (ts := [(0, 2)]) 1 (a_R (ts := []) 0 a_nil (s_getR ck2 10 (by decide) rfl (s_aload_n dX2_begin_99 rfl rfl) dX2_begin_100 w2_29) rfl) (s_iload_n dX2_begin_103 rfl rfl) rfl) (s_of_xI (x_callV (ts := [(0, 2), (1, 0)]) ck5 rfl kX5_leftAtFirst mokX5_leftAtFirst w3_68 w3_69 rfl rfl rfl rfl (a_I (ts := [(0, 2)]) 1 (a_R (ts := []) 0 a_nil (s_aload_n dX2_begin_104 rfl rfl) rfl) (s_iload_n dX2_begin_105 rfl rfl) rfl) dX2_begin_106 w3_67)) rfl) dX2_begin_109 nb14) rfl) (t_sq (p1 := 123) (Γ' := [(0, 2), (1, 2), (2, 0), (3, 0)]) (t_do (x_callN (ts := [(0, 2), (1, 0), (2, 0)]) kX11_put mokX11_put w3_65 rfl rfl rfl (a_I (ts := [(0, 2), (1, 0)]) 2 (a_I (ts := [(0, 2)]) 1 (a_R (ts := []) 0 a_nil (s_getR ck2 12 (by decide) rfl (s_aload_n dX2_begin_112 rfl rfl) dX2_begin_113 w2_34) rfl) (s_iload_n dX2_begin_116 rfl rfl) rfl) (s_ishl (s_iconst dX2_begin_117 rfl) (s_iload_n dX2_begin_118 rfl rfl) dX2_begin_119) rfl) dX2_begin_120 nb14) rfl) (t_do (x_callN (ts := [(0, 2), (1, 0), (2, 0)]) kX11_put mokX11_put w3_65 rfl rfl rfl (a_I (ts := [(0, 2), (1, 0)]) 2 (a_I (ts := [(0, 2)]) 1 (a_R (ts := []) 0 a_nil (s_getR ck2 11 (by decide) rfl (s_aload_n dX2_begin_123 rfl rfl) dX2_begin_124 w2_32) rfl) (s_iadd (s_imul (s_iload_n dX2_begin_127 rfl rfl) (s_bipush dX2_begin_128 rfl) dX2_begin_130) (s_iload_n dX2_begin_131 rfl rfl) dX2_begin_132) rfl) (s_of_xI (x_callN (ts := [(0, 2), (1, 0)]) kX11_cell mokX11_cell w3_26 rfl rfl rfl (a_I (ts := [(0, 2)]) 1 (a_R (ts := []) 0 a_nil (s_getR ck2 10 (by decide) rfl (s_aload_n dX2_begin_133 rfl rfl) dX2_begin_134 w2_29) rfl) (s_iload_n dX2_begin_137 rfl rfl) rfl) dX2_begin_138 nb13)) rfl) dX2_begin_141 nb14) rfl))))) (t_iinc dX2_begin_144 rfl rfl rfl rfl) (lda_cons (ld_in rfl) lda_nil) lda_nil (lda_cons (ld_goto (y := 58) dX2_begin_147 rfl (ld_in rfl)) lda_nil) (ld_in rfl) lda_nil
noncomputable def BX2_begin : Sm Unit := (dSeq (dDo (dCall DJ7_fill_53178 (aI (aR aN 0 (dGR 2 11 (vR 0))) 1 (cI 0)))) (dSeq (dDo (dCall DJ7_fill_53178 (aI (aR aN 0 (dGR 2 13 (vR 0))) 1 (cI 1)))) (dSeq (dDo (dCall DJ7_fill_53178 (aI (aR aN 0 (dGR 2 14 (vR 0))) 1 (cI (-1))))) (dSeq (dSeq (dSetI 2 (cI 0)) LX2_begin_1) (dSeq (dSeq (dSetI 2 (cI 0)) LX2_begin_2) dRet0)))))
theorem sBX2_begin : SS (cvoV, .return_) miX2_begin [] [] [] [(0, 2), (1, 2)] [(0, 2), (1, 2)] 0 [] BX2_begin := (t_sq (p1 := 8) (Γ' := [(0, 2), (1, 2)]) (t_do (x_call (ts := [(0, 2), (1, 0)]) kJ7_fill_53178 mokJ7_fill_53178 w3_61 rfl rfl rfl (a_I (ts := [(0, 2)]) 1 (a_R (ts := []) 0 a_nil (s_getR ck2 11 (by decide) rfl (s_aload_n dX2_begin_0 rfl rfl) dX2_begin_1 w2_32) rfl) (s_iconst dX2_begin_4 rfl) rfl) dX2_begin_5 w3_60) rfl) (t_sq (p1 := 16) (Γ' := [(0, 2), (1, 2)]) (t_do (x_call (ts := [(0, 2), (1, 0)]) kJ7_fill_53178 mokJ7_fill_53178 w3_61 rfl rfl rfl (a_I (ts := [(0, 2)]) 1 (a_R (ts := []) 0 a_nil (s_getR ck2 13 (by decide) rfl (s_aload_n dX2_begin_8 rfl rfl) dX2_begin_9 w2_35) rfl) (s_iconst dX2_begin_12 rfl) rfl) dX2_begin_13 w3_60) rfl) (t_sq (p1 := 24) (Γ' := [(0, 2), (1, 2)]) (t_do (x_call (ts := [(0, 2), (1, 0)]) kJ7_fill_53178 mokJ7_fill_53178 w3_61 rfl rfl rfl (a_I (ts := [(0, 2)]) 1 (a_R (ts := []) 0 a_nil (s_getR ck2 14 (by decide) rfl (s_aload_n dX2_begin_16 rfl rfl) dX2_begin_17 w2_37) rfl) (s_iconst dX2_begin_20 rfl) rfl) dX2_begin_21 w3_60) rfl) (t_sq (p1 := 56) (Γ' := [(0, 2), (1, 2)]) (t_sq (p1 := 26) (Γ' := [(0, 2), (1, 2), (2, 0)]) (t_istore_n (s_iconst dX2_begin_24 rfl) dX2_begin_25 rfl rfl rfl) (tn_to (Γ' := [(0, 2), (1, 2), (2, 0)]) (XA := [56]) sLX2_begin_1 (lda_cons (ld_in rfl) lda_nil) rfl)) (t_sq (p1 := 150) (Γ' := [(0, 2), (1, 2)]) (t_sq (p1 := 58) (Γ' := [(0, 2), (1, 2), (2, 0)]) (t_istore_n (s_iconst dX2_begin_56 rfl) dX2_begin_57 rfl rfl rfl) (tn_to (Γ' := [(0, 2), (1, 2), (2, 0)]) (XA := [150]) sLX2_begin_2 (lda_cons (ld_in rfl) lda_nil) rfl)) (t_ret0 (fun _ _ => rfl) dX2_begin_150))))))
noncomputable def DX2_begin : Fr → St → Option (Unit × St) := M1 (fun f => (sR (sR fr0 0 (gR f 0)) 1 (gR f 1))) BX2_begin
theorem kX2_begin : SND yX2_begin cX2_begin 4 none 4 [(0, 2), (1, 2)] cvoV DX2_begin := snd_V (nw := 2) (by decide) (fun z => by cases z) rfl rfl (fun _ _ => rfl) sBX2_begin
theorem dX5_climbTo_0 : decode cX5_climbTo 0 = .ok (.iconst 0, 1) := by decide +kernel
theorem dX5_climbTo_1 : decode cX5_climbTo 1 = .ok (.aload_n 0, 1) := by decide +kernel
theorem dX5_climbTo_2 : decode cX5_climbTo 2 = .ok (.getfield 9, 3) := by decide +kernel
theorem dX5_climbTo_5 : decode cX5_climbTo 5 = .ok (.iload_n 2, 1) := by decide +kernel
theorem dX5_climbTo_6 : decode cX5_climbTo 6 = .ok (.invokestatic 85, 3) := by decide +kernel
theorem dX5_climbTo_9 : decode cX5_climbTo 9 = .ok (.aload_n 0, 1) := by decide +kernel
theorem dX5_climbTo_10 : decode cX5_climbTo 10 = .ok (.getfield 9, 3) := by decide +kernel
theorem dX5_climbTo_13 : decode cX5_climbTo 13 = .ok (.iload_n 1, 1) := by decide +kernel
theorem dX5_climbTo_14 : decode cX5_climbTo 14 = .ok (.invokestatic 85, 3) := by decide +kernel
theorem dX5_climbTo_17 : decode cX5_climbTo 17 = .ok (.isub, 1) := by decide +kernel
theorem dX5_climbTo_18 : decode cX5_climbTo 18 = .ok (.invokestatic 117, 3) := by decide +kernel
theorem dX5_climbTo_21 : decode cX5_climbTo 21 = .ok (.ireturn, 1) := by decide +kernel
theorem mokX5_climbTo : MOK yX5_climbTo cX5_climbTo 3 (some .int) 2 := ⟨w3_109, w1_4, ⟨by decide, by decide⟩, by decide +kernel, by decide⟩
abbrev miX5_climbTo : MI := (yX5_climbTo.cls, cX5_climbTo, 3, 2, false)
noncomputable def BX5_climbTo : Sm Int32 := (dRet (d2 o_imax (cI 0) (d2 o_isub (dCall DX11_cell (aI (aR aN 0 (dGR 5 8 (vR 0))) 1 (vI 2))) (dCall DX11_cell (aI (aR aN 0 (dGR 5 8 (vR 0))) 1 (vI 1))))))
theorem sBX5_climbTo : SS (cvoI, .ireturn) miX5_climbTo [] [] [] [(0, 2), (1, 0), (2, 0)] [(0, 2), (1, 0), (2, 0)] 0 [] BX5_climbTo := (t_ret (cv := cvI) (fun _ _ => rfl) (s_mmax (s_iconst dX5_climbTo_0 rfl) (s_isub (s_of_xI (x_callN (ts := [(0, 2), (1, 0)]) kX11_cell mokX11_cell w3_26 rfl rfl rfl (a_I (ts := [(0, 2)]) 1 (a_R (ts := []) 0 a_nil (s_getR ck5 8 (by decide) rfl (s_aload_n dX5_climbTo_1 rfl rfl) dX5_climbTo_2 w1_161) rfl) (s_iload_n dX5_climbTo_5 rfl rfl) rfl) dX5_climbTo_6 nb12)) (s_of_xI (x_callN (ts := [(0, 2), (1, 0)]) kX11_cell mokX11_cell w3_26 rfl rfl rfl (a_I (ts := [(0, 2)]) 1 (a_R (ts := []) 0 a_nil (s_getR ck5 8 (by decide) rfl (s_aload_n dX5_climbTo_9 rfl rfl) dX5_climbTo_10 w1_161) rfl) (s_iload_n dX5_climbTo_13 rfl rfl) rfl) dX5_climbTo_14 nb12)) dX5_climbTo_17) rfl rfl dX5_climbTo_18 w3_110) dX5_climbTo_21)
noncomputable def DX5_climbTo : Fr → St → Option (Int32 × St) := M1 (fun f => (sI (sI (sR fr0 0 (gR f 0)) 1 (gI f 1)) 2 (gI f 2))) BX5_climbTo
theorem kX5_climbTo : SND yX5_climbTo cX5_climbTo 3 (some .int) 2 [(0, 2), (1, 0), (2, 0)] cvoI DX5_climbTo := snd_I (nw := 3) (by decide) rfl rfl (fun _ _ => rfl) sBX5_climbTo
theorem dX5_weightOf_0 : decode cX5_weightOf 0 = .ok (.iconst 0, 1) := by decide +kernel
theorem dX5_weightOf_1 : decode cX5_weightOf 1 = .ok (.istore_n 3, 1) := by decide +kernel
theorem dX5_weightOf_2 : decode cX5_weightOf 2 = .ok (.iconst 0, 1) := by decide +kernel
theorem dX5_weightOf_3 : decode cX5_weightOf 3 = .ok (.istore 4, 2) := by decide +kernel
theorem dX5_weightOf_5 : decode cX5_weightOf 5 = .ok (.iload 4, 2) := by decide +kernel
theorem dX5_weightOf_7 : decode cX5_weightOf 7 = .ok (.bipush 6, 2) := by decide +kernel
theorem dX5_weightOf_9 : decode cX5_weightOf 9 = .ok (.if_icmp .ge 35, 3) := by decide +kernel
theorem dX5_weightOf_12 : decode cX5_weightOf 12 = .ok (.iload_n 2, 1) := by decide +kernel
theorem dX5_weightOf_13 : decode cX5_weightOf 13 = .ok (.iload 4, 2) := by decide +kernel
theorem dX5_weightOf_15 : decode cX5_weightOf 15 = .ok (.invokestatic 113, 3) := by decide +kernel
theorem dX5_weightOf_18 : decode cX5_weightOf 18 = .ok (.ifCond .eq 20, 3) := by decide +kernel
theorem dX5_weightOf_21 : decode cX5_weightOf 21 = .ok (.iload_n 3, 1) := by decide +kernel
theorem dX5_weightOf_22 : decode cX5_weightOf 22 = .ok (.aload_n 0, 1) := by decide +kernel
theorem dX5_weightOf_23 : decode cX5_weightOf 23 = .ok (.getfield 33, 3) := by decide +kernel
theorem dX5_weightOf_26 : decode cX5_weightOf 26 = .ok (.iload_n 1, 1) := by decide +kernel
theorem dX5_weightOf_27 : decode cX5_weightOf 27 = .ok (.bipush 6, 2) := by decide +kernel
theorem dX5_weightOf_29 : decode cX5_weightOf 29 = .ok (.imul, 1) := by decide +kernel
theorem dX5_weightOf_30 : decode cX5_weightOf 30 = .ok (.iload 4, 2) := by decide +kernel
theorem dX5_weightOf_32 : decode cX5_weightOf 32 = .ok (.iadd, 1) := by decide +kernel
theorem dX5_weightOf_33 : decode cX5_weightOf 33 = .ok (.invokestatic 85, 3) := by decide +kernel
theorem dX5_weightOf_36 : decode cX5_weightOf 36 = .ok (.iadd, 1) := by decide +kernel
theorem dX5_weightOf_37 : decode cX5_weightOf 37 = .ok (.istore_n 3, 1) := by decide +kernel
theorem dX5_weightOf_38 : decode cX5_weightOf 38 = .ok (.iinc 4 1, 3) := by decide +kernel
theorem dX5_weightOf_41 : decode cX5_weightOf 41 = .ok (.goto (-36), 3) := by decide +kernel
theorem dX5_weightOf_44 : decode cX5_weightOf 44 = .ok (.iload_n 3, 1) := by decide +kernel
theorem dX5_weightOf_45 : decode cX5_weightOf 45 = .ok (.ireturn, 1) := by decide +kernel
theorem mokX5_weightOf : MOK yX5_weightOf cX5_weightOf 5 (some .int) 2 := ⟨w3_104, w1_4, ⟨by decide, by decide⟩, by decide +kernel, by decide⟩
abbrev miX5_weightOf : MI := (yX5_weightOf.cls, cX5_weightOf, 5, 2, false)
noncomputable def LX5_weightOf_1 : Sm Int32 := dLoop (fun f => (sI (sI (sI (sI (sR fr0 0 (gR f 0)) 1 (gI f 1)) 2 (gI f 2)) 3 (gI f 3)) 4 (gI f 4))) (dCI r_lt (vI 4) (cI 6)) (dIf (dCZ q_ne (dCall DX11_hasBit (aI (aI aN 0 (vI 2)) 1 (vI 4)))) (dSetI 3 (d2 o_iadd (vI 3) (dCall DX11_cell (aI (aR aN 0 (dGR 5 15 (vR 0))) 1 (d2 o_iadd (d2 o_imul (vI 1) (cI 6)) (vI 4)))))) dSkip) (dInc 4 1)
theorem sLX5_weightOf_1 {ΓL : Gm} {PB PK : List Nat} : SS (cvoI, .ireturn) miX5_weightOf ΓL PB PK [(0, 2), (1, 0), (2, 0), (3, 0), (4, 0)] [(0, 2), (1, 0), (2, 0), (3, 0), (4, 0)] 5 [44] LX5_weightOf_1 := t_loop (pT := 12) (pF := 44) (pu := 38) (PB' := []) (PK' := []) (XB := [38]) (XU := [41]) (fun _ _ => rfl) rfl (c_lt_F (pF := 44) (s_iload dX5_weightOf_5 rfl) (s_bipush dX5_weightOf_7 rfl) dX5_weightOf_9 rfl) (t_if (pT := 21) (pF := 38) (X := [38]) (XA := [38]) (XB := [38]) (c_ne_ZF (pF := 38) (s_of_xI (x_callN (ts := [(0, 0), (1, 0)]) kX11_hasBit mokX11_hasBit w3_16 rfl rfl rfl (a_I (ts := [(0, 0)]) 1 (a_I (ts := []) 0 a_nil (s_iload_n dX5_weightOf_12 rfl rfl) rfl) (s_iload dX5_weightOf_13 rfl) rfl) dX5_weightOf_15 nb17)) dX5_weightOf_18 rfl) (t_istore_n (s_iadd (s_iload_n dX5_weightOf_21 rfl rfl) (s_of_xI (x_callN (ts := [(0, 2), (1, 0)]) kX11_cell mokX11_cell w3_26 rfl rfl rfl (a_I (ts := [(0, 2)]) 1 (a_R (ts := []) 0 a_nil (s_getR ck5 15 (by decide) rfl (s_aload_n dX5_weightOf_22 rfl rfl) dX5_weightOf_23 w1_180) rfl) (s_iadd (s_imul (s_iload_n dX5_weightOf_26 rfl rfl) (s_bipush dX5_weightOf_27 rfl) dX5_weightOf_29) (s_iload dX5_weightOf_30 rfl) dX5_weightOf_32) rfl) dX5_weightOf_33 nb12)) dX5_weightOf_36) dX5_weightOf_37 rfl rfl rfl) (t_skip (ld_in rfl) rfl) (lda_cons (ld_in rfl) lda_nil) (lda_cons (ld_in rfl) lda_nil)) (t_iinc dX5_weightOf_38 rfl rfl rfl rfl) (lda_cons (ld_in rfl) lda_nil) lda_nil (lda_cons (ld_goto (y := 5) dX5_weightOf_41 rfl (ld_in rfl)) lda_nil) (ld_in rfl) lda_nil
noncomputable def BX5_weightOf : Sm Int32 := (dSeq (dSetI 3 (cI 0)) (dSeq (dSeq (dSetI 4 (cI 0)) LX5_weightOf_1) (dRet (vI 3))))
theorem sBX5_weightOf : SS (cvoI, .ireturn) miX5_weightOf [] [] [] [(0, 2), (1, 0), (2, 0)] [(0, 2), (1, 0), (2, 0)] 0 [] BX5_weightOf := (t_sq (p1 := 2) (Γ' := [(0, 2), (1, 0), (2, 0), (3, 0)]) (t_istore_n (s_iconst dX5_weightOf_0 rfl) dX5_weightOf_1 rfl rfl rfl) (t_sq (p1 := 44) (Γ' := [(0, 2), (1, 0), (2, 0), (3, 0)]) (t_sq (p1 := 5) (Γ' := [(0, 2), (1, 0), (2, 0), (3, 0), (4, 0)]) (t_istore (s_iconst dX5_weightOf_2 rfl) dX5_weightOf_3 rfl rfl) (tn_to (Γ' := [(0, 2), (1, 0), (2, 0), (3, 0), (4, 0)]) (XA := [44]) sLX5_weightOf_1 (lda_cons (ld_in rfl) lda_nil) rfl)) (t_ret (cv := cvI) (fun _ _ => rfl) (s_iload_n dX5_weightOf_44 rfl rfl) dX5_weightOf_45)))
noncomputable def DX5_weightOf : Fr → St → Option (Int32 × St) := M1 (fun f => (sI (sI (sR fr0 0 (gR f 0)) 1 (gI f 1)) 2 (gI f 2))) BX5_weightOf
theorem kX5_weightOf : SND yX5_weightOf cX5_weightOf 5 (some .int) 2 [(0, 2), (1, 0), (2, 0)] cvoI DX5_weightOf := snd_I (nw := 3) (by decide) rfl rfl (fun _ _ => rfl) sBX5_weightOf
theorem dX2_loadTo_0 : decode cX2_loadTo 0 = .ok (.aload_n 1, 1) := by decide +kernel
theorem dX2_loadTo_1 : decode cX2_loadTo 1 = .ok (.iload_n 2, 1) := by decide +kernel
theorem dX2_loadTo_2 : decode cX2_loadTo 2 = .ok (.aload_n 0, 1) := by decide +kernel
theorem dX2_loadTo_3 : decode cX2_loadTo 3 = .ok (.getfield 18, 3) := by decide +kernel
theorem dX2_loadTo_6 : decode cX2_loadTo 6 = .ok (.iload_n 2, 1) := by decide +kernel
theorem dX2_loadTo_7 : decode cX2_loadTo 7 = .ok (.invokestatic 65, 3) := by decide +kernel
theorem dX2_loadTo_10 : decode cX2_loadTo 10 = .ok (.invokevirtual 142, 3) := by decide +kernel
theorem dX2_loadTo_13 : decode cX2_loadTo 13 = .ok (.istore 4, 2) := by decide +kernel
theorem dX2_loadTo_15 : decode cX2_loadTo 15 = .ok (.iload 4, 2) := by decide +kernel
theorem dX2_loadTo_17 : decode cX2_loadTo 17 = .ok (.aload_n 1, 1) := by decide +kernel
theorem dX2_loadTo_18 : decode cX2_loadTo 18 = .ok (.aload_n 0, 1) := by decide +kernel
theorem dX2_loadTo_19 : decode cX2_loadTo 19 = .ok (.getfield 15, 3) := by decide +kernel
theorem dX2_loadTo_22 : decode cX2_loadTo 22 = .ok (.iload_n 2, 1) := by decide +kernel
theorem dX2_loadTo_23 : decode cX2_loadTo 23 = .ok (.invokestatic 65, 3) := by decide +kernel
theorem dX2_loadTo_26 : decode cX2_loadTo 26 = .ok (.iload_n 3, 1) := by decide +kernel
theorem dX2_loadTo_27 : decode cX2_loadTo 27 = .ok (.invokevirtual 145, 3) := by decide +kernel
theorem dX2_loadTo_30 : decode cX2_loadTo 30 = .ok (.iadd, 1) := by decide +kernel
theorem dX2_loadTo_31 : decode cX2_loadTo 31 = .ok (.ireturn, 1) := by decide +kernel
theorem mokX2_loadTo : MOK yX2_loadTo cX2_loadTo 5 (some .int) 3 := ⟨w3_100, w1_8, ⟨by decide, by decide⟩, by decide +kernel, by decide⟩
abbrev miX2_loadTo : MI := (yX2_loadTo.cls, cX2_loadTo, 5, 3, false)
noncomputable def BX2_loadTo : Sm Int32 := (dSeq (dSetI 4 (dCallV 5 DX5_weightOf (aI (aI (aR aN 0 (vR 1)) 1 (vI 2)) 2 (dCall DX11_cell (aI (aR aN 0 (dGR 2 10 (vR 0))) 1 (vI 2)))))) (dRet (d2 o_iadd (vI 4) (dCallV 5 DX5_climbTo (aI (aI (aR aN 0 (vR 1)) 1 (dCall DX11_cell (aI (aR aN 0 (dGR 2 9 (vR 0))) 1 (vI 2)))) 2 (vI 3))))))
theorem sBX2_loadTo : SS (cvoI, .ireturn) miX2_loadTo [] [] [] [(0, 2), (1, 2), (2, 0), (3, 0)] [(0, 2), (1, 2), (2, 0), (3, 0)] 0 [] BX2_loadTo := (t_sq (p1 := 15) (Γ' := [(0, 2), (1, 2), (2, 0), (3, 0), (4, 0)]) (t_istore (s_of_xI (x_callV (ts := [(0, 2), (1, 0), (2, 0)]) ck5 rfl kX5_weightOf mokX5_weightOf w3_102 w3_103 rfl rfl rfl rfl (a_I (ts := [(0, 2), (1, 0)]) 2 (a_I (ts := [(0, 2)]) 1 (a_R (ts := []) 0 a_nil (s_aload_n dX2_loadTo_0 rfl rfl) rfl) (s_iload_n dX2_loadTo_1 rfl rfl) rfl) (s_of_xI (x_callN (ts := [(0, 2), (1, 0)]) kX11_cell mokX11_cell w3_26 rfl rfl rfl (a_I (ts := [(0, 2)]) 1 (a_R (ts := []) 0 a_nil (s_getR ck2 10 (by decide) rfl (s_aload_n dX2_loadTo_2 rfl rfl) dX2_loadTo_3 w2_29) rfl) (s_iload_n dX2_loadTo_6 rfl rfl) rfl) dX2_loadTo_7 nb13)) rfl) dX2_loadTo_10 w3_101)) dX2_loadTo_13 rfl rfl) (t_ret (cv := cvI) (fun _ _ => rfl) (s_iadd (s_iload dX2_loadTo_15 rfl) (s_of_xI (x_callV (ts := [(0, 2), (1, 0), (2, 0)]) ck5 rfl kX5_climbTo mokX5_climbTo w3_107 w3_108 rfl rfl rfl rfl (a_I (ts := [(0, 2), (1, 0)]) 2 (a_I (ts := [(0, 2)]) 1 (a_R (ts := []) 0 a_nil (s_aload_n dX2_loadTo_17 rfl rfl) rfl) (s_of_xI (x_callN (ts := [(0, 2), (1, 0)]) kX11_cell mokX11_cell w3_26 rfl rfl rfl (a_I (ts := [(0, 2)]) 1 (a_R (ts := []) 0 a_nil (s_getR ck2 9 (by decide) rfl (s_aload_n dX2_loadTo_18 rfl rfl) dX2_loadTo_19 w2_27) rfl) (s_iload_n dX2_loadTo_22 rfl rfl) rfl) dX2_loadTo_23 nb13)) rfl) (s_iload_n dX2_loadTo_26 rfl rfl) rfl) dX2_loadTo_27 w3_106)) dX2_loadTo_30) dX2_loadTo_31))
noncomputable def DX2_loadTo : Fr → St → Option (Int32 × St) := M1 (fun f => (sI (sI (sR (sR fr0 0 (gR f 0)) 1 (gR f 1)) 2 (gI f 2)) 3 (gI f 3))) BX2_loadTo
theorem kX2_loadTo : SND yX2_loadTo cX2_loadTo 5 (some .int) 3 [(0, 2), (1, 2), (2, 0), (3, 0)] cvoI DX2_loadTo := snd_I (nw := 4) (by decide) rfl rfl (fun _ _ => rfl) sBX2_loadTo
theorem dX5_leftByLaw_0 : decode cX5_leftByLaw 0 = .ok (.iconst 0, 1) := by decide +kernel
theorem dX5_leftByLaw_1 : decode cX5_leftByLaw 1 = .ok (.istore 4, 2) := by decide +kernel
theorem dX5_leftByLaw_3 : decode cX5_leftByLaw 3 = .ok (.iconst 0, 1) := by decide +kernel
theorem dX5_leftByLaw_4 : decode cX5_leftByLaw 4 = .ok (.istore 5, 2) := by decide +kernel
theorem dX5_leftByLaw_6 : decode cX5_leftByLaw 6 = .ok (.iconst 0, 1) := by decide +kernel
theorem dX5_leftByLaw_7 : decode cX5_leftByLaw 7 = .ok (.istore 6, 2) := by decide +kernel
theorem dX5_leftByLaw_9 : decode cX5_leftByLaw 9 = .ok (.iload 6, 2) := by decide +kernel
theorem dX5_leftByLaw_11 : decode cX5_leftByLaw 11 = .ok (.bipush 6, 2) := by decide +kernel
theorem dX5_leftByLaw_13 : decode cX5_leftByLaw 13 = .ok (.if_icmp .ge 104, 3) := by decide +kernel
theorem dX5_leftByLaw_16 : decode cX5_leftByLaw 16 = .ok (.iload_n 2, 1) := by decide +kernel
theorem dX5_leftByLaw_17 : decode cX5_leftByLaw 17 = .ok (.iload 6, 2) := by decide +kernel
theorem dX5_leftByLaw_19 : decode cX5_leftByLaw 19 = .ok (.invokestatic 113, 3) := by decide +kernel
theorem dX5_leftByLaw_22 : decode cX5_leftByLaw 22 = .ok (.ifCond .eq 20, 3) := by decide +kernel
theorem dX5_leftByLaw_25 : decode cX5_leftByLaw 25 = .ok (.aload_n 0, 1) := by decide +kernel
theorem dX5_leftByLaw_26 : decode cX5_leftByLaw 26 = .ok (.getfield 33, 3) := by decide +kernel
theorem dX5_leftByLaw_29 : decode cX5_leftByLaw 29 = .ok (.iload_n 1, 1) := by decide +kernel
theorem dX5_leftByLaw_30 : decode cX5_leftByLaw 30 = .ok (.bipush 6, 2) := by decide +kernel
theorem dX5_leftByLaw_32 : decode cX5_leftByLaw 32 = .ok (.imul, 1) := by decide +kernel
theorem dX5_leftByLaw_33 : decode cX5_leftByLaw 33 = .ok (.iload 6, 2) := by decide +kernel
theorem dX5_leftByLaw_35 : decode cX5_leftByLaw 35 = .ok (.iadd, 1) := by decide +kernel
theorem dX5_leftByLaw_36 : decode cX5_leftByLaw 36 = .ok (.invokestatic 85, 3) := by decide +kernel
theorem dX5_leftByLaw_39 : decode cX5_leftByLaw 39 = .ok (.goto 4, 3) := by decide +kernel
theorem dX5_leftByLaw_42 : decode cX5_leftByLaw 42 = .ok (.iconst 0, 1) := by decide +kernel
theorem dX5_leftByLaw_43 : decode cX5_leftByLaw 43 = .ok (.istore 7, 2) := by decide +kernel
theorem dX5_leftByLaw_45 : decode cX5_leftByLaw 45 = .ok (.iload_n 3, 1) := by decide +kernel
theorem dX5_leftByLaw_46 : decode cX5_leftByLaw 46 = .ok (.iconst 1, 1) := by decide +kernel
theorem dX5_leftByLaw_47 : decode cX5_leftByLaw 47 = .ok (.if_icmp .ne 12, 3) := by decide +kernel
theorem dX5_leftByLaw_50 : decode cX5_leftByLaw 50 = .ok (.iload 4, 2) := by decide +kernel
theorem dX5_leftByLaw_52 : decode cX5_leftByLaw 52 = .ok (.ifCond .ne 7, 3) := by decide +kernel
theorem dX5_leftByLaw_55 : decode cX5_leftByLaw 55 = .ok (.iconst 1, 1) := by decide +kernel
theorem dX5_leftByLaw_56 : decode cX5_leftByLaw 56 = .ok (.goto 4, 3) := by decide +kernel
theorem dX5_leftByLaw_59 : decode cX5_leftByLaw 59 = .ok (.iconst 0, 1) := by decide +kernel
theorem dX5_leftByLaw_60 : decode cX5_leftByLaw 60 = .ok (.istore 8, 2) := by decide +kernel
theorem dX5_leftByLaw_62 : decode cX5_leftByLaw 62 = .ok (.iload_n 3, 1) := by decide +kernel
theorem dX5_leftByLaw_63 : decode cX5_leftByLaw 63 = .ok (.iconst 2, 1) := by decide +kernel
theorem dX5_leftByLaw_64 : decode cX5_leftByLaw 64 = .ok (.if_icmp .ne 14, 3) := by decide +kernel
theorem dX5_leftByLaw_67 : decode cX5_leftByLaw 67 = .ok (.iload 7, 2) := by decide +kernel
theorem dX5_leftByLaw_69 : decode cX5_leftByLaw 69 = .ok (.iload 5, 2) := by decide +kernel
theorem dX5_leftByLaw_71 : decode cX5_leftByLaw 71 = .ok (.if_icmp .le 7, 3) := by decide +kernel
theorem dX5_leftByLaw_74 : decode cX5_leftByLaw 74 = .ok (.iconst 1, 1) := by decide +kernel
theorem dX5_leftByLaw_75 : decode cX5_leftByLaw 75 = .ok (.goto 4, 3) := by decide +kernel
theorem dX5_leftByLaw_78 : decode cX5_leftByLaw 78 = .ok (.iconst 0, 1) := by decide +kernel
theorem dX5_leftByLaw_79 : decode cX5_leftByLaw 79 = .ok (.istore 9, 2) := by decide +kernel
theorem dX5_leftByLaw_81 : decode cX5_leftByLaw 81 = .ok (.iload 7, 2) := by decide +kernel
theorem dX5_leftByLaw_83 : decode cX5_leftByLaw 83 = .ok (.ifCond .le 28, 3) := by decide +kernel
theorem dX5_leftByLaw_86 : decode cX5_leftByLaw 86 = .ok (.iload 8, 2) := by decide +kernel
theorem dX5_leftByLaw_88 : decode cX5_leftByLaw 88 = .ok (.ifCond .ne 13, 3) := by decide +kernel
theorem dX5_leftByLaw_91 : decode cX5_leftByLaw 91 = .ok (.iload 9, 2) := by decide +kernel
theorem dX5_leftByLaw_93 : decode cX5_leftByLaw 93 = .ok (.ifCond .ne 8, 3) := by decide +kernel
theorem dX5_leftByLaw_96 : decode cX5_leftByLaw 96 = .ok (.iload_n 3, 1) := by decide +kernel
theorem dX5_leftByLaw_97 : decode cX5_leftByLaw 97 = .ok (.iconst 3, 1) := by decide +kernel
theorem dX5_leftByLaw_98 : decode cX5_leftByLaw 98 = .ok (.if_icmp .ne 13, 3) := by decide +kernel
theorem dX5_leftByLaw_101 : decode cX5_leftByLaw 101 = .ok (.iconst 1, 1) := by decide +kernel
theorem dX5_leftByLaw_102 : decode cX5_leftByLaw 102 = .ok (.iload 6, 2) := by decide +kernel
theorem dX5_leftByLaw_104 : decode cX5_leftByLaw 104 = .ok (.ishl, 1) := by decide +kernel
theorem dX5_leftByLaw_105 : decode cX5_leftByLaw 105 = .ok (.istore 4, 2) := by decide +kernel
theorem dX5_leftByLaw_107 : decode cX5_leftByLaw 107 = .ok (.iload 7, 2) := by decide +kernel
theorem dX5_leftByLaw_109 : decode cX5_leftByLaw 109 = .ok (.istore 5, 2) := by decide +kernel
theorem dX5_leftByLaw_111 : decode cX5_leftByLaw 111 = .ok (.iinc 6 1, 3) := by decide +kernel
theorem dX5_leftByLaw_114 : decode cX5_leftByLaw 114 = .ok (.goto (-105), 3) := by decide +kernel
theorem dX5_leftByLaw_117 : decode cX5_leftByLaw 117 = .ok (.iload_n 2, 1) := by decide +kernel
theorem dX5_leftByLaw_118 : decode cX5_leftByLaw 118 = .ok (.iload 4, 2) := by decide +kernel
theorem dX5_leftByLaw_120 : decode cX5_leftByLaw 120 = .ok (.iconst (-1), 1) := by decide +kernel
theorem dX5_leftByLaw_121 : decode cX5_leftByLaw 121 = .ok (.ixor, 1) := by decide +kernel
theorem dX5_leftByLaw_122 : decode cX5_leftByLaw 122 = .ok (.iand, 1) := by decide +kernel
theorem dX5_leftByLaw_123 : decode cX5_leftByLaw 123 = .ok (.ireturn, 1) := by decide +kernel
theorem mokX5_leftByLaw : MOK yX5_leftByLaw cX5_leftByLaw 10 (some .int) 3 := ⟨w3_120, w1_4, ⟨by decide, by decide⟩, by decide +kernel, by decide⟩
abbrev miX5_leftByLaw : MI := (yX5_leftByLaw.cls, cX5_leftByLaw, 10, 2, false)
noncomputable def LX5_leftByLaw_1 : Sm Int32 := dLoop (fun f => (sI (sI (sI (sI (sI (sI (sR fr0 0 (gR f 0)) 1 (gI f 1)) 2 (gI f 2)) 3 (gI f 3)) 4 (gI f 4)) 5 (gI f 5)) 6 (gI f 6))) (dCI r_lt (vI 6) (cI 6)) (dSeq (dSetI 7 (dT (dCZ q_ne (dCall DX11_hasBit (aI (aI aN 0 (vI 2)) 1 (vI 6)))) (dCall DX11_cell (aI (aR aN 0 (dGR 5 15 (vR 0))) 1 (d2 o_iadd (d2 o_imul (vI 1) (cI 6)) (vI 6)))) (cI 0))) (dSeq (dSetI 8 (dB (dAnd (dCI r_eq (vI 3) (cI 1)) (dCZ q_eq (vI 4))))) (dSeq (dSetI 9 (dB (dAnd (dCI r_eq (vI 3) (cI 2)) (dCI r_gt (vI 7) (vI 5))))) (dIf (dAnd (dCZ q_gt (vI 7)) (dOr (dOr (dCZ q_ne (vI 8)) (dCZ q_ne (vI 9))) (dCI r_eq (vI 3) (cI 3)))) (dSeq (dSetI 4 (d2 o_ishl (cI 1) (vI 6))) (dSetI 5 (vI 7))) dSkip)))) (dInc 6 1)
theorem sLX5_leftByLaw_1 {ΓL : Gm} {PB PK : List Nat} : SS (cvoI, .ireturn) miX5_leftByLaw ΓL PB PK [(0, 2), (1, 0), (2, 0), (3, 0), (4, 0), (5, 0), (6, 0)] [(0, 2), (1, 0), (2, 0), (3, 0), (4, 0), (5, 0), (6, 0)] 9 [117] LX5_leftByLaw_1 := t_loop (pT := 16) (pF := 117) (pu := 111) (PB' := []) (PK' := []) (XB := [111]) (XU := [114]) (fun _ _ => rfl) rfl (c_lt_F (pF := 117) (s_iload dX5_leftByLaw_9 rfl) (s_bipush dX5_leftByLaw_11 rfl) dX5_leftByLaw_13 rfl) (t_sq (p1 := 45) (Γ' := [(0, 2), (1, 0), (2, 0), (3, 0), (4, 0), (5, 0), (6, 0), (7, 0)]) (t_istore (s_T (pT := 25) (pF := 42) (p1 := 39) (pe := 43) (c_ne_ZF (pF := 42) (s_of_xI (x_callN (ts := [(0, 0), (1, 0)]) kX11_hasBit mokX11_hasBit w3_16 rfl rfl rfl (a_I (ts := [(0, 0)]) 1 (a_I (ts := []) 0 a_nil (s_iload_n dX5_leftByLaw_16 rfl rfl) rfl) (s_iload dX5_leftByLaw_17 rfl) rfl) dX5_leftByLaw_19 nb17)) dX5_leftByLaw_22 rfl) (s_of_xI (x_callN (ts := [(0, 2), (1, 0)]) kX11_cell mokX11_cell w3_26 rfl rfl rfl (a_I (ts := [(0, 2)]) 1 (a_R (ts := []) 0 a_nil (s_getR ck5 15 (by decide) rfl (s_aload_n dX5_leftByLaw_25 rfl rfl) dX5_leftByLaw_26 w1_180) rfl) (s_iadd (s_imul (s_iload_n dX5_leftByLaw_29 rfl rfl) (s_bipush dX5_leftByLaw_30 rfl) dX5_leftByLaw_32) (s_iload dX5_leftByLaw_33 rfl) dX5_leftByLaw_35) rfl) dX5_leftByLaw_36 nb12)) (s_iconst dX5_leftByLaw_42 rfl) (ld_goto (y := 43) dX5_leftByLaw_39 rfl (ld_in rfl))) dX5_leftByLaw_43 rfl rfl) (t_sq (p1 := 62) (Γ' := [(0, 2), (1, 0), (2, 0), (3, 0), (4, 0), (5, 0), (6, 0), (7, 0), (8, 0)]) (t_istore (s_B (pT := 55) (pF := 59) (pe := 60) (c_and (p1 := 50) (pT := 55) (pF := 59) (c_eq_F (pF := 59) (s_iload_n dX5_leftByLaw_45 rfl rfl) (s_iconst dX5_leftByLaw_46 rfl) dX5_leftByLaw_47 rfl) (c_eq_ZF (pF := 59) (s_iload dX5_leftByLaw_50 rfl) dX5_leftByLaw_52 rfl)) dX5_leftByLaw_55 dX5_leftByLaw_56 rfl dX5_leftByLaw_59 rfl) dX5_leftByLaw_60 rfl rfl) (t_sq (p1 := 81) (Γ' := [(0, 2), (1, 0), (2, 0), (3, 0), (4, 0), (5, 0), (6, 0), (7, 0), (8, 0), (9, 0)]) (t_istore (s_B (pT := 74) (pF := 78) (pe := 79) (c_and (p1 := 67) (pT := 74) (pF := 78) (c_eq_F (pF := 78) (s_iload_n dX5_leftByLaw_62 rfl rfl) (s_iconst dX5_leftByLaw_63 rfl) dX5_leftByLaw_64 rfl) (c_gt_F (pF := 78) (s_iload dX5_leftByLaw_67 rfl) (s_iload dX5_leftByLaw_69 rfl) dX5_leftByLaw_71 rfl)) dX5_leftByLaw_74 dX5_leftByLaw_75 rfl dX5_leftByLaw_78 rfl) dX5_leftByLaw_79 rfl rfl) (t_if (pT := 101) (pF := 111) (X := [111]) (XA := [111]) (XB := [111]) (c_and (p1 := 86) (pT := 101) (pF := 111) (c_gt_ZF (pF := 111) (s_iload dX5_leftByLaw_81 rfl) dX5_leftByLaw_83 rfl) (c_or (p1 := 96) (pT := 101) (pF := 111) (c_or (p1 := 91) (pT := 101) (pF := 96) (c_ne_ZJ (pT := 101) (s_iload dX5_leftByLaw_86 rfl) dX5_leftByLaw_88 rfl) (c_ne_ZJ (pT := 101) (s_iload dX5_leftByLaw_91 rfl) dX5_leftByLaw_93 rfl)) (c_eq_F (pF := 111) (s_iload_n dX5_leftByLaw_96 rfl rfl) (s_iconst dX5_leftByLaw_97 rfl) dX5_leftByLaw_98 rfl))) (t_sq (p1 := 107) (Γ' := [(0, 2), (1, 0), (2, 0), (3, 0), (4, 0), (5, 0), (6, 0), (7, 0), (8, 0), (9, 0)]) (t_istore (s_ishl (s_iconst dX5_leftByLaw_101 rfl) (s_iload dX5_leftByLaw_102 rfl) dX5_leftByLaw_104) dX5_leftByLaw_105 rfl rfl) (t_istore (s_iload dX5_leftByLaw_107 rfl) dX5_leftByLaw_109 rfl rfl)) (t_skip (ld_in rfl) rfl) (lda_cons (ld_in rfl) lda_nil) (lda_cons (ld_in rfl) lda_nil))))) (t_iinc dX5_leftByLaw_111 rfl rfl rfl rfl) (lda_cons (ld_in rfl) lda_nil) lda_nil (lda_cons (ld_goto (y := 9) dX5_leftByLaw_114 rfl (ld_in rfl)) lda_nil) (ld_in rfl) lda_nil
noncomputable def BX5_leftByLaw : Sm Int32 := (dSeq (dSetI 4 (cI 0)) (dSeq (dSetI 5 (cI 0)) (dSeq (dSeq (dSetI 6 (cI 0)) LX5_leftByLaw_1) (dRet (d2 o_iand (vI 2) (d2 o_ixor (vI 4) (cI (-1))))))))
theorem sBX5_leftByLaw : SS (cvoI, .ireturn) miX5_leftByLaw [] [] [] [(0, 2), (1, 0), (2, 0), (3, 0)] [(0, 2), (1, 0), (2, 0), (3, 0)] 0 [] BX5_leftByLaw := (t_sq (p1 := 3) (Γ' := [(0, 2), (1, 0), (2, 0), (3, 0), (4, 0)]) (t_istore (s_iconst dX5_leftByLaw_0 rfl) dX5_leftByLaw_1 rfl rfl) (t_sq (p1 := 6) (Γ' := [(0, 2), (1, 0), (2, 0), (3, 0), (4, 0), (5, 0)]) (t_istore (s_iconst dX5_leftByLaw_3 rfl) dX5_leftByLaw_4 rfl rfl) (t_sq (p1 := 117) (Γ' := [(0, 2), (1, 0), (2, 0), (3, 0), (4, 0), (5, 0)]) (t_sq (p1 := 9) (Γ' := [(0, 2), (1, 0), (2, 0), (3, 0), (4, 0), (5, 0), (6, 0)]) (t_istore (s_iconst dX5_leftByLaw_6 rfl) dX5_leftByLaw_7 rfl rfl) (tn_to (Γ' := [(0, 2), (1, 0), (2, 0), (3, 0), (4, 0), (5, 0), (6, 0)]) (XA := [117]) sLX5_leftByLaw_1 (lda_cons (ld_in rfl) lda_nil) rfl)) (t_ret (cv := cvI) (fun _ _ => rfl) (s_iand (s_iload_n dX5_leftByLaw_117 rfl rfl) (s_ixor (s_iload dX5_leftByLaw_118 rfl) (s_iconst dX5_leftByLaw_120 rfl) dX5_leftByLaw_121) dX5_leftByLaw_122) dX5_leftByLaw_123))))
noncomputable def DX5_leftByLaw : Fr → St → Option (Int32 × St) := M1 (fun f => (sI (sI (sI (sR fr0 0 (gR f 0)) 1 (gI f 1)) 2 (gI f 2)) 3 (gI f 3))) BX5_leftByLaw
theorem kX5_leftByLaw : SND yX5_leftByLaw cX5_leftByLaw 10 (some .int) 2 [(0, 2), (1, 0), (2, 0), (3, 0)] cvoI DX5_leftByLaw := snd_I (nw := 4) (by decide) rfl rfl (fun _ _ => rfl) sBX5_leftByLaw
theorem dX2_carryOut_0 : decode cX2_carryOut 0 = .ok (.aload_n 1, 1) := by decide +kernel
theorem dX2_carryOut_1 : decode cX2_carryOut 1 = .ok (.getfield 87, 3) := by decide +kernel
theorem dX2_carryOut_4 : decode cX2_carryOut 4 = .ok (.getfield 122, 3) := by decide +kernel
theorem dX2_carryOut_7 : decode cX2_carryOut 7 = .ok (.iload_n 2, 1) := by decide +kernel
theorem dX2_carryOut_8 : decode cX2_carryOut 8 = .ok (.invokestatic 65, 3) := by decide +kernel
theorem dX2_carryOut_11 : decode cX2_carryOut 11 = .ok (.istore 4, 2) := by decide +kernel
theorem dX2_carryOut_13 : decode cX2_carryOut 13 = .ok (.aload_n 1, 1) := by decide +kernel
theorem dX2_carryOut_14 : decode cX2_carryOut 14 = .ok (.getfield 87, 3) := by decide +kernel
theorem dX2_carryOut_17 : decode cX2_carryOut 17 = .ok (.getfield 125, 3) := by decide +kernel
theorem dX2_carryOut_20 : decode cX2_carryOut 20 = .ok (.iload_n 2, 1) := by decide +kernel
theorem dX2_carryOut_21 : decode cX2_carryOut 21 = .ok (.invokestatic 65, 3) := by decide +kernel
theorem dX2_carryOut_24 : decode cX2_carryOut 24 = .ok (.istore 5, 2) := by decide +kernel
theorem dX2_carryOut_26 : decode cX2_carryOut 26 = .ok (.aload_n 1, 1) := by decide +kernel
theorem dX2_carryOut_27 : decode cX2_carryOut 27 = .ok (.getfield 87, 3) := by decide +kernel
theorem dX2_carryOut_30 : decode cX2_carryOut 30 = .ok (.getfield 128, 3) := by decide +kernel
theorem dX2_carryOut_33 : decode cX2_carryOut 33 = .ok (.iload_n 2, 1) := by decide +kernel
theorem dX2_carryOut_34 : decode cX2_carryOut 34 = .ok (.invokestatic 65, 3) := by decide +kernel
theorem dX2_carryOut_37 : decode cX2_carryOut 37 = .ok (.istore 6, 2) := by decide +kernel
theorem dX2_carryOut_39 : decode cX2_carryOut 39 = .ok (.aload_n 0, 1) := by decide +kernel
theorem dX2_carryOut_40 : decode cX2_carryOut 40 = .ok (.getfield 30, 3) := by decide +kernel
theorem dX2_carryOut_43 : decode cX2_carryOut 43 = .ok (.iload_n 2, 1) := by decide +kernel
theorem dX2_carryOut_44 : decode cX2_carryOut 44 = .ok (.aload_n 0, 1) := by decide +kernel
theorem dX2_carryOut_45 : decode cX2_carryOut 45 = .ok (.aload_n 1, 1) := by decide +kernel
theorem dX2_carryOut_46 : decode cX2_carryOut 46 = .ok (.iload 5, 2) := by decide +kernel
theorem dX2_carryOut_48 : decode cX2_carryOut 48 = .ok (.iload 6, 2) := by decide +kernel
theorem dX2_carryOut_50 : decode cX2_carryOut 50 = .ok (.invokevirtual 135, 3) := by decide +kernel
theorem dX2_carryOut_53 : decode cX2_carryOut 53 = .ok (.invokestatic 69, 3) := by decide +kernel
theorem dX2_carryOut_56 : decode cX2_carryOut 56 = .ok (.aload_n 0, 1) := by decide +kernel
theorem dX2_carryOut_57 : decode cX2_carryOut 57 = .ok (.dup, 1) := by decide +kernel
theorem dX2_carryOut_58 : decode cX2_carryOut 58 = .ok (.getfield 81, 3) := by decide +kernel
theorem dX2_carryOut_61 : decode cX2_carryOut 61 = .ok (.iconst 1, 1) := by decide +kernel
theorem dX2_carryOut_62 : decode cX2_carryOut 62 = .ok (.iload 4, 2) := by decide +kernel
theorem dX2_carryOut_64 : decode cX2_carryOut 64 = .ok (.ishl, 1) := by decide +kernel
theorem dX2_carryOut_65 : decode cX2_carryOut 65 = .ok (.ior, 1) := by decide +kernel
theorem dX2_carryOut_66 : decode cX2_carryOut 66 = .ok (.putfield 81, 3) := by decide +kernel
theorem dX2_carryOut_69 : decode cX2_carryOut 69 = .ok (.aload_n 0, 1) := by decide +kernel
theorem dX2_carryOut_70 : decode cX2_carryOut 70 = .ok (.dup, 1) := by decide +kernel
theorem dX2_carryOut_71 : decode cX2_carryOut 71 = .ok (.getfield 84, 3) := by decide +kernel
theorem dX2_carryOut_74 : decode cX2_carryOut 74 = .ok (.iconst 1, 1) := by decide +kernel
theorem dX2_carryOut_75 : decode cX2_carryOut 75 = .ok (.iload 5, 2) := by decide +kernel
theorem dX2_carryOut_77 : decode cX2_carryOut 77 = .ok (.ishl, 1) := by decide +kernel
theorem dX2_carryOut_78 : decode cX2_carryOut 78 = .ok (.ior, 1) := by decide +kernel
theorem dX2_carryOut_79 : decode cX2_carryOut 79 = .ok (.putfield 84, 3) := by decide +kernel
theorem dX2_carryOut_82 : decode cX2_carryOut 82 = .ok (.aload_n 0, 1) := by decide +kernel
theorem dX2_carryOut_83 : decode cX2_carryOut 83 = .ok (.getfield 9, 3) := by decide +kernel
theorem dX2_carryOut_86 : decode cX2_carryOut 86 = .ok (.iload 4, 2) := by decide +kernel
theorem dX2_carryOut_88 : decode cX2_carryOut 88 = .ok (.iload 6, 2) := by decide +kernel
theorem dX2_carryOut_90 : decode cX2_carryOut 90 = .ok (.invokestatic 69, 3) := by decide +kernel
theorem dX2_carryOut_93 : decode cX2_carryOut 93 = .ok (.aload_n 0, 1) := by decide +kernel
theorem dX2_carryOut_94 : decode cX2_carryOut 94 = .ok (.getfield 15, 3) := by decide +kernel
theorem dX2_carryOut_97 : decode cX2_carryOut 97 = .ok (.iload 5, 2) := by decide +kernel
theorem dX2_carryOut_99 : decode cX2_carryOut 99 = .ok (.iload 6, 2) := by decide +kernel
theorem dX2_carryOut_101 : decode cX2_carryOut 101 = .ok (.invokestatic 69, 3) := by decide +kernel
theorem dX2_carryOut_104 : decode cX2_carryOut 104 = .ok (.aload_n 0, 1) := by decide +kernel
theorem dX2_carryOut_105 : decode cX2_carryOut 105 = .ok (.getfield 18, 3) := by decide +kernel
theorem dX2_carryOut_108 : decode cX2_carryOut 108 = .ok (.iload 5, 2) := by decide +kernel
theorem dX2_carryOut_110 : decode cX2_carryOut 110 = .ok (.invokestatic 65, 3) := by decide +kernel
theorem dX2_carryOut_113 : decode cX2_carryOut 113 = .ok (.istore 7, 2) := by decide +kernel
theorem dX2_carryOut_115 : decode cX2_carryOut 115 = .ok (.iload_n 3, 1) := by decide +kernel
theorem dX2_carryOut_116 : decode cX2_carryOut 116 = .ok (.ifCond .eq 12, 3) := by decide +kernel
theorem dX2_carryOut_119 : decode cX2_carryOut 119 = .ok (.iload 7, 2) := by decide +kernel
theorem dX2_carryOut_121 : decode cX2_carryOut 121 = .ok (.iload 7, 2) := by decide +kernel
theorem dX2_carryOut_123 : decode cX2_carryOut 123 = .ok (.iconst 1, 1) := by decide +kernel
theorem dX2_carryOut_124 : decode cX2_carryOut 124 = .ok (.isub, 1) := by decide +kernel
theorem dX2_carryOut_125 : decode cX2_carryOut 125 = .ok (.iand, 1) := by decide +kernel
theorem dX2_carryOut_126 : decode cX2_carryOut 126 = .ok (.istore 7, 2) := by decide +kernel
theorem dX2_carryOut_128 : decode cX2_carryOut 128 = .ok (.iload 5, 2) := by decide +kernel
theorem dX2_carryOut_130 : decode cX2_carryOut 130 = .ok (.bipush 8, 2) := by decide +kernel
theorem dX2_carryOut_132 : decode cX2_carryOut 132 = .ok (.imul, 1) := by decide +kernel
theorem dX2_carryOut_133 : decode cX2_carryOut 133 = .ok (.iload 6, 2) := by decide +kernel
theorem dX2_carryOut_135 : decode cX2_carryOut 135 = .ok (.iadd, 1) := by decide +kernel
theorem dX2_carryOut_136 : decode cX2_carryOut 136 = .ok (.istore 8, 2) := by decide +kernel
theorem dX2_carryOut_138 : decode cX2_carryOut 138 = .ok (.aload_n 0, 1) := by decide +kernel
theorem dX2_carryOut_139 : decode cX2_carryOut 139 = .ok (.getfield 21, 3) := by decide +kernel
theorem dX2_carryOut_142 : decode cX2_carryOut 142 = .ok (.iload 8, 2) := by decide +kernel
theorem dX2_carryOut_144 : decode cX2_carryOut 144 = .ok (.aload_n 0, 1) := by decide +kernel
theorem dX2_carryOut_145 : decode cX2_carryOut 145 = .ok (.getfield 21, 3) := by decide +kernel
theorem dX2_carryOut_148 : decode cX2_carryOut 148 = .ok (.iload 8, 2) := by decide +kernel
theorem dX2_carryOut_150 : decode cX2_carryOut 150 = .ok (.invokestatic 65, 3) := by decide +kernel
theorem dX2_carryOut_153 : decode cX2_carryOut 153 = .ok (.iload 7, 2) := by decide +kernel
theorem dX2_carryOut_155 : decode cX2_carryOut 155 = .ok (.ior, 1) := by decide +kernel
theorem dX2_carryOut_156 : decode cX2_carryOut 156 = .ok (.invokestatic 69, 3) := by decide +kernel
theorem dX2_carryOut_159 : decode cX2_carryOut 159 = .ok (.aload_n 0, 1) := by decide +kernel
theorem dX2_carryOut_160 : decode cX2_carryOut 160 = .ok (.getfield 24, 3) := by decide +kernel
theorem dX2_carryOut_163 : decode cX2_carryOut 163 = .ok (.iload 5, 2) := by decide +kernel
theorem dX2_carryOut_165 : decode cX2_carryOut 165 = .ok (.invokestatic 65, 3) := by decide +kernel
theorem dX2_carryOut_168 : decode cX2_carryOut 168 = .ok (.iload 6, 2) := by decide +kernel
theorem dX2_carryOut_170 : decode cX2_carryOut 170 = .ok (.invokestatic 103, 3) := by decide +kernel
theorem dX2_carryOut_173 : decode cX2_carryOut 173 = .ok (.ifCond .ne 40, 3) := by decide +kernel
theorem dX2_carryOut_176 : decode cX2_carryOut 176 = .ok (.aload_n 0, 1) := by decide +kernel
theorem dX2_carryOut_177 : decode cX2_carryOut 177 = .ok (.getfield 24, 3) := by decide +kernel
theorem dX2_carryOut_180 : decode cX2_carryOut 180 = .ok (.iload 5, 2) := by decide +kernel
theorem dX2_carryOut_182 : decode cX2_carryOut 182 = .ok (.aload_n 0, 1) := by decide +kernel
theorem dX2_carryOut_183 : decode cX2_carryOut 183 = .ok (.getfield 24, 3) := by decide +kernel
theorem dX2_carryOut_186 : decode cX2_carryOut 186 = .ok (.iload 5, 2) := by decide +kernel
theorem dX2_carryOut_188 : decode cX2_carryOut 188 = .ok (.invokestatic 65, 3) := by decide +kernel
theorem dX2_carryOut_191 : decode cX2_carryOut 191 = .ok (.iconst 1, 1) := by decide +kernel
theorem dX2_carryOut_192 : decode cX2_carryOut 192 = .ok (.iload 6, 2) := by decide +kernel
theorem dX2_carryOut_194 : decode cX2_carryOut 194 = .ok (.ishl, 1) := by decide +kernel
theorem dX2_carryOut_195 : decode cX2_carryOut 195 = .ok (.ior, 1) := by decide +kernel
theorem dX2_carryOut_196 : decode cX2_carryOut 196 = .ok (.invokestatic 69, 3) := by decide +kernel
theorem dX2_carryOut_199 : decode cX2_carryOut 199 = .ok (.aload_n 1, 1) := by decide +kernel
theorem dX2_carryOut_200 : decode cX2_carryOut 200 = .ok (.iload 5, 2) := by decide +kernel
theorem dX2_carryOut_202 : decode cX2_carryOut 202 = .ok (.iload 7, 2) := by decide +kernel
theorem dX2_carryOut_204 : decode cX2_carryOut 204 = .ok (.aload_n 0, 1) := by decide +kernel
theorem dX2_carryOut_205 : decode cX2_carryOut 205 = .ok (.getfield 39, 3) := by decide +kernel
theorem dX2_carryOut_208 : decode cX2_carryOut 208 = .ok (.invokevirtual 148, 3) := by decide +kernel
theorem dX2_carryOut_211 : decode cX2_carryOut 211 = .ok (.istore 7, 2) := by decide +kernel
theorem dX2_carryOut_213 : decode cX2_carryOut 213 = .ok (.aload_n 0, 1) := by decide +kernel
theorem dX2_carryOut_214 : decode cX2_carryOut 214 = .ok (.getfield 18, 3) := by decide +kernel
theorem dX2_carryOut_217 : decode cX2_carryOut 217 = .ok (.iload 5, 2) := by decide +kernel
theorem dX2_carryOut_219 : decode cX2_carryOut 219 = .ok (.iload 7, 2) := by decide +kernel
theorem dX2_carryOut_221 : decode cX2_carryOut 221 = .ok (.invokestatic 69, 3) := by decide +kernel
theorem dX2_carryOut_224 : decode cX2_carryOut 224 = .ok (.return_, 1) := by decide +kernel
theorem mokX2_carryOut : MOK yX2_carryOut cX2_carryOut 9 none 3 := ⟨w3_116, w1_8, ⟨by decide, by decide⟩, by decide +kernel, by decide⟩
abbrev miX2_carryOut : MI := (yX2_carryOut.cls, cX2_carryOut, 9, 4, false)
noncomputable def BX2_carryOut : Sm Unit := (dSeq (dSetI 4 (dCall DX11_cell (aI (aR aN 0 (dGR 1 3 (dGR 5 16 (vR 1)))) 1 (vI 2)))) (dSeq (dSetI 5 (dCall DX11_cell (aI (aR aN 0 (dGR 1 4 (dGR 5 16 (vR 1)))) 1 (vI 2)))) (dSeq (dSetI 6 (dCall DX11_cell (aI (aR aN 0 (dGR 1 5 (dGR 5 16 (vR 1)))) 1 (vI 2)))) (dSeq (dDo (dCall DX11_put (aI (aI (aR aN 0 (dGR 2 14 (vR 0))) 1 (vI 2)) 2 (dCallV 2 DX2_loadTo (aI (aI (aR (aR aN 0 (vR 0)) 1 (vR 1)) 2 (vI 5)) 3 (vI 6)))))) (dSeq (dUF 2 6 o_ior (vR 0) (d2 o_ishl (cI 1) (vI 4))) (dSeq (dUF 2 7 o_ior (vR 0) (d2 o_ishl (cI 1) (vI 5))) (dSeq (dDo (dCall DX11_put (aI (aI (aR aN 0 (dGR 2 8 (vR 0))) 1 (vI 4)) 2 (vI 6)))) (dSeq (dDo (dCall DX11_put (aI (aI (aR aN 0 (dGR 2 9 (vR 0))) 1 (vI 5)) 2 (vI 6)))) (dSeq (dSetI 7 (dCall DX11_cell (aI (aR aN 0 (dGR 2 10 (vR 0))) 1 (vI 5)))) (dSeq (dIf (dCZ q_ne (vI 3)) (dSetI 7 (d2 o_iand (vI 7) (d2 o_isub (vI 7) (cI 1)))) dSkip) (dSeq (dSetI 8 (d2 o_iadd (d2 o_imul (vI 5) (cI 8)) (vI 6))) (dSeq (dDo (dCall DX11_put (aI (aI (aR aN 0 (dGR 2 11 (vR 0))) 1 (vI 8)) 2 (d2 o_ior (dCall DX11_cell (aI (aR aN 0 (dGR 2 11 (vR 0))) 1 (vI 8))) (vI 7))))) (dSeq (dIf (dNot (dCZ q_ne (dCall DX11_hasBit (aI (aI aN 0 (dCall DX11_cell (aI (aR aN 0 (dGR 2 12 (vR 0))) 1 (vI 5)))) 1 (vI 6))))) (dSeq (dDo (dCall DX11_put (aI (aI (aR aN 0 (dGR 2 12 (vR 0))) 1 (vI 5)) 2 (d2 o_ior (dCall DX11_cell (aI (aR aN 0 (dGR 2 12 (vR 0))) 1 (vI 5))) (d2 o_ishl (cI 1) (vI 6)))))) (dSetI 7 (dCallV 5 DX5_leftByLaw (aI (aI (aI (aR aN 0 (vR 1)) 1 (vI 5)) 2 (vI 7)) 3 (dGI 2 0 (vR 0)))))) dSkip) (dSeq (dDo (dCall DX11_put (aI (aI (aR aN 0 (dGR 2 10 (vR 0))) 1 (vI 5)) 2 (vI 7)))) dRet0))))))))))))))
theorem sBX2_carryOut : SS (cvoV, .return_) miX2_carryOut [] [] [] [(0, 2), (1, 2), (2, 0), (3, 0)] [(0, 2), (1, 2), (2, 0), (3, 0)] 0 [] BX2_carryOut := (t_sq (p1 := 13) (Γ' := [(0, 2), (1, 2), (2, 0), (3, 0), (4, 0)]) (t_istore (s_of_xI (x_callN (ts := [(0, 2), (1, 0)]) kX11_cell mokX11_cell w3_26 rfl rfl rfl (a_I (ts := [(0, 2)]) 1 (a_R (ts := []) 0 a_nil (s_getR ck1 3 (by decide) rfl (s_getR ck5 16 (by decide) rfl (s_aload_n dX2_carryOut_0 rfl rfl) dX2_carryOut_1 w1_184) dX2_carryOut_4 w1_95) rfl) (s_iload_n dX2_carryOut_7 rfl rfl) rfl) dX2_carryOut_8 nb13)) dX2_carryOut_11 rfl rfl) (t_sq (p1 := 26) (Γ' := [(0, 2), (1, 2), (2, 0), (3, 0), (4, 0), (5, 0)]) (t_istore (s_of_xI (x_callN (ts := [(0, 2), (1, 0)]) kX11_cell mokX11_cell w3_26 rfl rfl rfl (a_I (ts := [(0, 2)]) 1 (a_R (ts := []) 0 a_nil (s_getR ck1 4 (by decide) rfl (s_getR ck5 16 (by decide) rfl (s_aload_n dX2_carryOut_13 rfl rfl) dX2_carryOut_14 w1_184) dX2_carryOut_17 w1_97) rfl) (s_iload_n dX2_carryOut_20 rfl rfl) rfl) dX2_carryOut_21 nb13)) dX2_carryOut_24 rfl rfl) (t_sq (p1 := 39) (Γ' := [(0, 2), (1, 2), (2, 0), (3, 0), (4, 0), (5, 0), (6, 0)]) (t_istore (s_of_xI (x_callN (ts := [(0, 2), (1, 0)]) kX11_cell mokX11_cell w3_26 rfl rfl rfl (a_I (ts := [(0, 2)]) 1 (a_R (ts := []) 0 a_nil (s_getR ck1 5 (by decide) rfl (s_getR ck5 16 (by decide) rfl (s_aload_n dX2_carryOut_26 rfl rfl) dX2_carryOut_27 w1_184) dX2_carryOut_30 w1_99) rfl) (s_iload_n dX2_carryOut_33 rfl rfl) rfl) dX2_carryOut_34 nb13)) dX2_carryOut_37 rfl rfl) (t_sq (p1 := 56) (Γ' := [(0, 2), (1, 2), (2, 0), (3, 0), (4, 0), (5, 0), (6, 0)]) (t_do (x_callN (ts := [(0, 2), (1, 0), (2, 0)]) kX11_put mokX11_put w3_65 rfl rfl rfl (a_I (ts := [(0, 2), (1, 0)]) 2 (a_I (ts := [(0, 2)]) 1 (a_R (ts := []) 0 a_nil (s_getR ck2 14 (by decide) rfl (s_aload_n dX2_carryOut_39 rfl rfl) dX2_carryOut_40 w2_37) rfl) (s_iload_n dX2_carryOut_43 rfl rfl) rfl) (s_of_xI (x_callV (ts := [(0, 2), (1, 2), (2, 0), (3, 0)]) ck2 rfl kX2_loadTo mokX2_loadTo w3_99 ps1_3 rfl rfl rfl rfl (a_I (ts := [(0, 2), (1, 2), (2, 0)]) 3 (a_I (ts := [(0, 2), (1, 2)]) 2 (a_R (ts := [(0, 2)]) 1 (a_R (ts := []) 0 a_nil (s_aload_n dX2_carryOut_44 rfl rfl) rfl) (s_aload_n dX2_carryOut_45 rfl rfl) rfl) (s_iload dX2_carryOut_46 rfl) rfl) (s_iload dX2_carryOut_48 rfl) rfl) dX2_carryOut_50 w3_97)) rfl) dX2_carryOut_53 nb14) rfl) (t_sq (p1 := 69) (Γ' := [(0, 2), (1, 2), (2, 0), (3, 0), (4, 0), (5, 0), (6, 0)]) (t_UF ck2 6 (by decide) rfl (Or.inl rfl) (s_aload_n dX2_carryOut_56 rfl rfl) dX2_carryOut_57 dX2_carryOut_58 w2_23 (s_ishl (s_iconst dX2_carryOut_61 rfl) (s_iload dX2_carryOut_62 rfl) dX2_carryOut_64) (fun _ _ _ _ => rulI fun a b K => lv_ior a b dX2_carryOut_65 K) dX2_carryOut_66 w2_23 rfl) (t_sq (p1 := 82) (Γ' := [(0, 2), (1, 2), (2, 0), (3, 0), (4, 0), (5, 0), (6, 0)]) (t_UF ck2 7 (by decide) rfl (Or.inl rfl) (s_aload_n dX2_carryOut_69 rfl rfl) dX2_carryOut_70 dX2_carryOut_71 w2_24 (s_ishl (s_iconst dX2_carryOut_74 rfl) (s_iload dX2_carryOut_75 rfl) dX2_carryOut_77) (fun _ _ _ _ => rulI fun a b K => lv_ior a b dX2_carryOut_78 K) dX2_carryOut_79 w2_24 rfl) (t_sq (p1 := 93) (Γ' := [(0, 2), (1, 2), (2, 0), (3, 0), (4, 0), (5, 0), (6, 0)]) (t_do (x_callN (ts := [(0, 2), (1, 0), (2, 0)]) kX11_put mokX11_put w3_65 rfl rfl rfl (a_I (ts := [(0, 2), (1, 0)]) 2 (a_I (ts := [(0, 2)]) 1 (a_R (ts := []) 0 a_nil (s_getR ck2 8 (by decide) rfl (s_aload_n dX2_carryOut_82 rfl rfl) dX2_carryOut_83 w2_25) rfl) (s_iload dX2_carryOut_86 rfl) rfl) (s_iload dX2_carryOut_88 rfl) rfl) dX2_carryOut_90 nb14) rfl) (t_sq (p1 := 104) (Γ' := [(0, 2), (1, 2), (2, 0), (3, 0), (4, 0), (5, 0), (6, 0)]) (t_do (x_callN (ts := [(0, 2), (1, 0), (2, 0)]) kX11_put mokX11_put w3_65 rfl rfl rfl (a_I (ts := [(0, 2), (1, 0)]) 2 (a_I (ts := [(0, 2)]) 1 (a_R (ts := []) 0 a_nil (s_getR ck2 9 (by decide) rfl (s_aload_n dX2_carryOut_93 rfl rfl) dX2_carryOut_94 w2_27) rfl) (s_iload dX2_carryOut_97 rfl) rfl) (s_iload dX2_carryOut_99 rfl) rfl) dX2_carryOut_101 nb14) rfl) (t_sq (p1 := 115) (Γ' := [(0, 2), (1, 2), (2, 0), (3, 0), (4, 0), (5, 0), (6, 0), (7, 0)]) (t_istore (s_of_xI (x_callN (ts := [(0, 2), (1, 0)]) kX11_cell mokX11_cell w3_26 rfl rfl rfl (a_I (ts := [(0, 2)]) 1 (a_R (ts := []) 0 a_nil (s_getR ck2 10 (by decide) rfl (s_aload_n dX2_carryOut_104 rfl rfl) dX2_carryOut_105 w2_29) rfl) (s_iload dX2_carryOut_108 rfl) rfl) dX2_carryOut_110 nb13)) dX2_carryOut_113 rfl rfl) (t_sq (p1 := 128) (Γ' := [(0, 2), (1, 2), (2, 0), (3, 0), (4, 0), (5, 0), (6, 0), (7, 0)]) (t_if (pT := 119) (pF := 128) (X := [128]) (XA := [128]) (XB := [128]) (c_ne_ZF (pF := 128) (s_iload_n dX2_carryOut_115 rfl rfl) dX2_carryOut_116 rfl) (t_istore (s_iand (s_iload dX2_carryOut_119 rfl) (s_isub (s_iload dX2_carryOut_121 rfl) (s_iconst dX2_carryOut_123 rfl) dX2_carryOut_124) dX2_carryOut_125) dX2_carryOut_126 rfl rfl) (t_skip (ld_in rfl) rfl) (lda_cons (ld_in rfl) lda_nil) (lda_cons (ld_in rfl) lda_nil)) (t_sq (p1 := 138) (Γ' := [(0, 2), (1, 2), (2, 0), (3, 0), (4, 0), (5, 0), (6, 0), (7, 0), (8, 0)]) (t_istore (s_iadd (s_imul (s_iload dX2_carryOut_128 rfl) (s_bipush dX2_carryOut_130 rfl) dX2_carryOut_132) (s_iload dX2_carryOut_133 rfl) dX2_carryOut_135) dX2_carryOut_136 rfl rfl) (t_sq (p1 := 159) (Γ' := [(0, 2), (1, 2), (2, 0), (3, 0), (4, 0), (5, 0), (6, 0), (7, 0), (8, 0)]) (t_do (x_callN (ts := [(0, 2), (1, 0), (2, 0)]) kX11_put mokX11_put w3_65 rfl rfl rfl (a_I (ts := [(0, 2), (1, 0)]) 2 (a_I (ts := [(0, 2)]) 1 (a_R (ts := []) 0 a_nil (s_getR ck2 11 (by decide) rfl (s_aload_n dX2_carryOut_138 rfl rfl) dX2_carryOut_139 w2_32) rfl) (s_iload dX2_carryOut_142 rfl) rfl) (s_ior (s_of_xI (x_callN (ts := [(0, 2), (1, 0)]) kX11_cell mokX11_cell w3_26 rfl rfl rfl (a_I (ts := [(0, 2)]) 1 (a_R (ts := []) 0 a_nil (s_getR ck2 11 (by decide) rfl (s_aload_n dX2_carryOut_144 rfl rfl) dX2_carryOut_145 w2_32) rfl) (s_iload dX2_carryOut_148 rfl) rfl) dX2_carryOut_150 nb13)) (s_iload dX2_carryOut_153 rfl) dX2_carryOut_155) rfl) dX2_carryOut_156 nb14) rfl) (t_sq (p1 := 213) (Γ' := [(0, 2), (1, 2), (2, 0), (3, 0), (4, 0), (5, 0), (6, 0), (7, 0), (8, 0)]) (t_if (pT := 176) (pF := 213) (X := [213]) (XA := [213]) (XB := [213]) (c_not (pT := 176) (pF := 213) (c_ne_ZJ (pT := 213) (s_of_xI (x_callN (ts := [(0, 0), (1, 0)]) kX11_hasBit mokX11_hasBit w3_16 rfl rfl rfl (a_I (ts := [(0, 0)]) 1 (a_I (ts := []) 0 a_nil (s_of_xI (x_callN (ts := [(0, 2), (1, 0)]) kX11_cell mokX11_cell w3_26 rfl rfl rfl (a_I (ts := [(0, 2)]) 1 (a_R (ts := []) 0 a_nil (s_getR ck2 12 (by decide) rfl (s_aload_n dX2_carryOut_159 rfl rfl) dX2_carryOut_160 w2_34) rfl) (s_iload dX2_carryOut_163 rfl) rfl) dX2_carryOut_165 nb13)) rfl) (s_iload dX2_carryOut_168 rfl) rfl) dX2_carryOut_170 nb16)) dX2_carryOut_173 rfl)) (t_sq (p1 := 199) (Γ' := [(0, 2), (1, 2), (2, 0), (3, 0), (4, 0), (5, 0), (6, 0), (7, 0), (8, 0)]) (t_do (x_callN (ts := [(0, 2), (1, 0), (2, 0)]) kX11_put mokX11_put w3_65 rfl rfl rfl (a_I (ts := [(0, 2), (1, 0)]) 2 (a_I (ts := [(0, 2)]) 1 (a_R (ts := []) 0 a_nil (s_getR ck2 12 (by decide) rfl (s_aload_n dX2_carryOut_176 rfl rfl) dX2_carryOut_177 w2_34) rfl) (s_iload dX2_carryOut_180 rfl) rfl) (s_ior (s_of_xI (x_callN (ts := [(0, 2), (1, 0)]) kX11_cell mokX11_cell w3_26 rfl rfl rfl (a_I (ts := [(0, 2)]) 1 (a_R (ts := []) 0 a_nil (s_getR ck2 12 (by decide) rfl (s_aload_n dX2_carryOut_182 rfl rfl) dX2_carryOut_183 w2_34) rfl) (s_iload dX2_carryOut_186 rfl) rfl) dX2_carryOut_188 nb13)) (s_ishl (s_iconst dX2_carryOut_191 rfl) (s_iload dX2_carryOut_192 rfl) dX2_carryOut_194) dX2_carryOut_195) rfl) dX2_carryOut_196 nb14) rfl) (t_istore (s_of_xI (x_callV (ts := [(0, 2), (1, 0), (2, 0), (3, 0)]) ck5 rfl kX5_leftByLaw mokX5_leftByLaw w3_118 w3_119 rfl rfl rfl rfl (a_I (ts := [(0, 2), (1, 0), (2, 0)]) 3 (a_I (ts := [(0, 2), (1, 0)]) 2 (a_I (ts := [(0, 2)]) 1 (a_R (ts := []) 0 a_nil (s_aload_n dX2_carryOut_199 rfl rfl) rfl) (s_iload dX2_carryOut_200 rfl) rfl) (s_iload dX2_carryOut_202 rfl) rfl) (s_getI ck2 0 (by decide) rfl (s_aload_n dX2_carryOut_204 rfl rfl) dX2_carryOut_205 w2_11) rfl) dX2_carryOut_208 w3_117)) dX2_carryOut_211 rfl rfl)) (t_skip (ld_in rfl) rfl) (lda_cons (ld_in rfl) lda_nil) (lda_cons (ld_in rfl) lda_nil)) (t_sq (p1 := 224) (Γ' := [(0, 2), (1, 2), (2, 0), (3, 0), (4, 0), (5, 0), (6, 0), (7, 0), (8, 0)]) (t_do (x_callN (ts := [(0, 2), (1, 0), (2, 0)]) kX11_put mokX11_put w3_65 rfl rfl rfl (a_I (ts := [(0, 2), (1, 0)]) 2 (a_I (ts := [(0, 2)]) 1 (a_R (ts := []) 0 a_nil (s_getR ck2 10 (by decide) rfl (s_aload_n dX2_carryOut_213 rfl rfl) dX2_carryOut_214 w2_29) rfl) (s_iload dX2_carryOut_217 rfl) rfl) (s_iload dX2_carryOut_219 rfl) rfl) dX2_carryOut_221 nb14) rfl) (t_ret0 (fun _ _ => rfl) dX2_carryOut_224)))))))))))))))
noncomputable def DX2_carryOut : Fr → St → Option (Unit × St) := M1 (fun f => (sI (sI (sR (sR fr0 0 (gR f 0)) 1 (gR f 1)) 2 (gI f 2)) 3 (gI f 3))) BX2_carryOut
theorem kX2_carryOut : SND yX2_carryOut cX2_carryOut 9 none 4 [(0, 2), (1, 2), (2, 0), (3, 0)] cvoV DX2_carryOut := snd_V (nw := 4) (by decide) (fun z => by cases z) rfl rfl (fun _ _ => rfl) sBX2_carryOut
theorem dX2_hindrance_0 : decode cX2_hindrance 0 = .ok (.aload_n 1, 1) := by decide +kernel
theorem dX2_hindrance_1 : decode cX2_hindrance 1 = .ok (.getfield 87, 3) := by decide +kernel
theorem dX2_hindrance_4 : decode cX2_hindrance 4 = .ok (.getfield 122, 3) := by decide +kernel
theorem dX2_hindrance_7 : decode cX2_hindrance 7 = .ok (.iload_n 2, 1) := by decide +kernel
theorem dX2_hindrance_8 : decode cX2_hindrance 8 = .ok (.invokestatic 65, 3) := by decide +kernel
theorem dX2_hindrance_11 : decode cX2_hindrance 11 = .ok (.istore_n 3, 1) := by decide +kernel
theorem dX2_hindrance_12 : decode cX2_hindrance 12 = .ok (.aload_n 1, 1) := by decide +kernel
theorem dX2_hindrance_13 : decode cX2_hindrance 13 = .ok (.getfield 87, 3) := by decide +kernel
theorem dX2_hindrance_16 : decode cX2_hindrance 16 = .ok (.getfield 125, 3) := by decide +kernel
theorem dX2_hindrance_19 : decode cX2_hindrance 19 = .ok (.iload_n 2, 1) := by decide +kernel
theorem dX2_hindrance_20 : decode cX2_hindrance 20 = .ok (.invokestatic 65, 3) := by decide +kernel
theorem dX2_hindrance_23 : decode cX2_hindrance 23 = .ok (.istore 4, 2) := by decide +kernel
theorem dX2_hindrance_25 : decode cX2_hindrance 25 = .ok (.aload_n 1, 1) := by decide +kernel
theorem dX2_hindrance_26 : decode cX2_hindrance 26 = .ok (.getfield 87, 3) := by decide +kernel
theorem dX2_hindrance_29 : decode cX2_hindrance 29 = .ok (.getfield 128, 3) := by decide +kernel
theorem dX2_hindrance_32 : decode cX2_hindrance 32 = .ok (.iload_n 2, 1) := by decide +kernel
theorem dX2_hindrance_33 : decode cX2_hindrance 33 = .ok (.invokestatic 65, 3) := by decide +kernel
theorem dX2_hindrance_36 : decode cX2_hindrance 36 = .ok (.istore 5, 2) := by decide +kernel
theorem dX2_hindrance_38 : decode cX2_hindrance 38 = .ok (.aload_n 0, 1) := by decide +kernel
theorem dX2_hindrance_39 : decode cX2_hindrance 39 = .ok (.getfield 15, 3) := by decide +kernel
theorem dX2_hindrance_42 : decode cX2_hindrance 42 = .ok (.iload 4, 2) := by decide +kernel
theorem dX2_hindrance_44 : decode cX2_hindrance 44 = .ok (.invokestatic 65, 3) := by decide +kernel
theorem dX2_hindrance_47 : decode cX2_hindrance 47 = .ok (.istore 6, 2) := by decide +kernel
theorem dX2_hindrance_49 : decode cX2_hindrance 49 = .ok (.aload_n 0, 1) := by decide +kernel
theorem dX2_hindrance_50 : decode cX2_hindrance 50 = .ok (.getfield 81, 3) := by decide +kernel
theorem dX2_hindrance_53 : decode cX2_hindrance 53 = .ok (.iload_n 3, 1) := by decide +kernel
theorem dX2_hindrance_54 : decode cX2_hindrance 54 = .ok (.invokestatic 103, 3) := by decide +kernel
theorem dX2_hindrance_57 : decode cX2_hindrance 57 = .ok (.ifCond .ne 15, 3) := by decide +kernel
theorem dX2_hindrance_60 : decode cX2_hindrance 60 = .ok (.aload_n 0, 1) := by decide +kernel
theorem dX2_hindrance_61 : decode cX2_hindrance 61 = .ok (.getfield 84, 3) := by decide +kernel
theorem dX2_hindrance_64 : decode cX2_hindrance 64 = .ok (.iload 4, 2) := by decide +kernel
theorem dX2_hindrance_66 : decode cX2_hindrance 66 = .ok (.invokestatic 103, 3) := by decide +kernel
theorem dX2_hindrance_69 : decode cX2_hindrance 69 = .ok (.ifCond .eq 5, 3) := by decide +kernel
theorem dX2_hindrance_72 : decode cX2_hindrance 72 = .ok (.iconst 2, 1) := by decide +kernel
theorem dX2_hindrance_73 : decode cX2_hindrance 73 = .ok (.ireturn, 1) := by decide +kernel
theorem dX2_hindrance_74 : decode cX2_hindrance 74 = .ok (.aload_n 0, 1) := by decide +kernel
theorem dX2_hindrance_75 : decode cX2_hindrance 75 = .ok (.getfield 9, 3) := by decide +kernel
theorem dX2_hindrance_78 : decode cX2_hindrance 78 = .ok (.iload_n 3, 1) := by decide +kernel
theorem dX2_hindrance_79 : decode cX2_hindrance 79 = .ok (.invokestatic 65, 3) := by decide +kernel
theorem dX2_hindrance_82 : decode cX2_hindrance 82 = .ok (.iload 6, 2) := by decide +kernel
theorem dX2_hindrance_84 : decode cX2_hindrance 84 = .ok (.if_icmp .eq 5, 3) := by decide +kernel
theorem dX2_hindrance_87 : decode cX2_hindrance 87 = .ok (.iconst 3, 1) := by decide +kernel
theorem dX2_hindrance_88 : decode cX2_hindrance 88 = .ok (.ireturn, 1) := by decide +kernel
theorem dX2_hindrance_89 : decode cX2_hindrance 89 = .ok (.aload_n 0, 1) := by decide +kernel
theorem dX2_hindrance_90 : decode cX2_hindrance 90 = .ok (.getfield 43, 3) := by decide +kernel
theorem dX2_hindrance_93 : decode cX2_hindrance 93 = .ok (.iload 5, 2) := by decide +kernel
theorem dX2_hindrance_95 : decode cX2_hindrance 95 = .ok (.invokestatic 103, 3) := by decide +kernel
theorem dX2_hindrance_98 : decode cX2_hindrance 98 = .ok (.ifCond .ne 21, 3) := by decide +kernel
theorem dX2_hindrance_101 : decode cX2_hindrance 101 = .ok (.aload_n 1, 1) := by decide +kernel
theorem dX2_hindrance_102 : decode cX2_hindrance 102 = .ok (.iload 6, 2) := by decide +kernel
theorem dX2_hindrance_104 : decode cX2_hindrance 104 = .ok (.aload_n 0, 1) := by decide +kernel
theorem dX2_hindrance_105 : decode cX2_hindrance 105 = .ok (.getfield 40, 3) := by decide +kernel
theorem dX2_hindrance_108 : decode cX2_hindrance 108 = .ok (.invokevirtual 131, 3) := by decide +kernel
theorem dX2_hindrance_111 : decode cX2_hindrance 111 = .ok (.iload 5, 2) := by decide +kernel
theorem dX2_hindrance_113 : decode cX2_hindrance 113 = .ok (.invokestatic 103, 3) := by decide +kernel
theorem dX2_hindrance_116 : decode cX2_hindrance 116 = .ok (.ifCond .ne 5, 3) := by decide +kernel
theorem dX2_hindrance_119 : decode cX2_hindrance 119 = .ok (.iconst 4, 1) := by decide +kernel
theorem dX2_hindrance_120 : decode cX2_hindrance 120 = .ok (.ireturn, 1) := by decide +kernel
theorem dX2_hindrance_121 : decode cX2_hindrance 121 = .ok (.aload_n 0, 1) := by decide +kernel
theorem dX2_hindrance_122 : decode cX2_hindrance 122 = .ok (.aload_n 1, 1) := by decide +kernel
theorem dX2_hindrance_123 : decode cX2_hindrance 123 = .ok (.iload 4, 2) := by decide +kernel
theorem dX2_hindrance_125 : decode cX2_hindrance 125 = .ok (.iload 5, 2) := by decide +kernel
theorem dX2_hindrance_127 : decode cX2_hindrance 127 = .ok (.invokevirtual 135, 3) := by decide +kernel
theorem dX2_hindrance_130 : decode cX2_hindrance 130 = .ok (.aload_n 1, 1) := by decide +kernel
theorem dX2_hindrance_131 : decode cX2_hindrance 131 = .ok (.getfield 139, 3) := by decide +kernel
theorem dX2_hindrance_134 : decode cX2_hindrance 134 = .ok (.iload_n 3, 1) := by decide +kernel
theorem dX2_hindrance_135 : decode cX2_hindrance 135 = .ok (.invokestatic 65, 3) := by decide +kernel
theorem dX2_hindrance_138 : decode cX2_hindrance 138 = .ok (.if_icmp .le 7, 3) := by decide +kernel
theorem dX2_hindrance_141 : decode cX2_hindrance 141 = .ok (.iconst 5, 1) := by decide +kernel
theorem dX2_hindrance_142 : decode cX2_hindrance 142 = .ok (.goto 4, 3) := by decide +kernel
theorem dX2_hindrance_145 : decode cX2_hindrance 145 = .ok (.iconst 0, 1) := by decide +kernel
theorem dX2_hindrance_146 : decode cX2_hindrance 146 = .ok (.ireturn, 1) := by decide +kernel
theorem mokX2_hindrance : MOK yX2_hindrance cX2_hindrance 7 (some .int) 2 := ⟨w3_94, w1_8, ⟨by decide, by decide⟩, by decide +kernel, by decide⟩
abbrev miX2_hindrance : MI := (yX2_hindrance.cls, cX2_hindrance, 7, 4, false)
noncomputable def BX2_hindrance : Sm Int32 := (dSeq (dSetI 3 (dCall DX11_cell (aI (aR aN 0 (dGR 1 3 (dGR 5 16 (vR 1)))) 1 (vI 2)))) (dSeq (dSetI 4 (dCall DX11_cell (aI (aR aN 0 (dGR 1 4 (dGR 5 16 (vR 1)))) 1 (vI 2)))) (dSeq (dSetI 5 (dCall DX11_cell (aI (aR aN 0 (dGR 1 5 (dGR 5 16 (vR 1)))) 1 (vI 2)))) (dSeq (dSetI 6 (dCall DX11_cell (aI (aR aN 0 (dGR 2 9 (vR 0))) 1 (vI 4)))) (dSeq (dIf (dOr (dCZ q_ne (dCall DX11_hasBit (aI (aI aN 0 (dGI 2 6 (vR 0))) 1 (vI 3)))) (dCZ q_ne (dCall DX11_hasBit (aI (aI aN 0 (dGI 2 7 (vR 0))) 1 (vI 4))))) (dRet (cI 2)) dSkip) (dSeq (dIf (dCI r_ne (dCall DX11_cell (aI (aR aN 0 (dGR 2 8 (vR 0))) 1 (vI 3))) (vI 6)) (dRet (cI 3)) dSkip) (dSeq (dIf (dOr (dCZ q_ne (dCall DX11_hasBit (aI (aI aN 0 (dGI 2 2 (vR 0))) 1 (vI 5)))) (dNot (dCZ q_ne (dCall DX11_hasBit (aI (aI aN 0 (dCallV 5 DX5_doorsOf (aI (aI (aR aN 0 (vR 1)) 1 (vI 6)) 2 (dGI 2 1 (vR 0))))) 1 (vI 5)))))) (dRet (cI 4)) dSkip) (dRet (dT (dCI r_gt (dCallV 2 DX2_loadTo (aI (aI (aR (aR aN 0 (vR 0)) 1 (vR 1)) 2 (vI 4)) 3 (vI 5))) (dCall DX11_cell (aI (aR aN 0 (dGR 5 12 (vR 1))) 1 (vI 3)))) (cI 5) (cI 0))))))))))
theorem sBX2_hindrance : SS (cvoI, .ireturn) miX2_hindrance [] [] [] [(0, 2), (1, 2), (2, 0)] [(0, 2), (1, 2), (2, 0)] 0 [] BX2_hindrance := (t_sq (p1 := 12) (Γ' := [(0, 2), (1, 2), (2, 0), (3, 0)]) (t_istore_n (s_of_xI (x_callN (ts := [(0, 2), (1, 0)]) kX11_cell mokX11_cell w3_26 rfl rfl rfl (a_I (ts := [(0, 2)]) 1 (a_R (ts := []) 0 a_nil (s_getR ck1 3 (by decide) rfl (s_getR ck5 16 (by decide) rfl (s_aload_n dX2_hindrance_0 rfl rfl) dX2_hindrance_1 w1_184) dX2_hindrance_4 w1_95) rfl) (s_iload_n dX2_hindrance_7 rfl rfl) rfl) dX2_hindrance_8 nb13)) dX2_hindrance_11 rfl rfl rfl) (t_sq (p1 := 25) (Γ' := [(0, 2), (1, 2), (2, 0), (3, 0), (4, 0)]) (t_istore (s_of_xI (x_callN (ts := [(0, 2), (1, 0)]) kX11_cell mokX11_cell w3_26 rfl rfl rfl (a_I (ts := [(0, 2)]) 1 (a_R (ts := []) 0 a_nil (s_getR ck1 4 (by decide) rfl (s_getR ck5 16 (by decide) rfl (s_aload_n dX2_hindrance_12 rfl rfl) dX2_hindrance_13 w1_184) dX2_hindrance_16 w1_97) rfl) (s_iload_n dX2_hindrance_19 rfl rfl) rfl) dX2_hindrance_20 nb13)) dX2_hindrance_23 rfl rfl) (t_sq (p1 := 38) (Γ' := [(0, 2), (1, 2), (2, 0), (3, 0), (4, 0), (5, 0)]) (t_istore (s_of_xI (x_callN (ts := [(0, 2), (1, 0)]) kX11_cell mokX11_cell w3_26 rfl rfl rfl (a_I (ts := [(0, 2)]) 1 (a_R (ts := []) 0 a_nil (s_getR ck1 5 (by decide) rfl (s_getR ck5 16 (by decide) rfl (s_aload_n dX2_hindrance_25 rfl rfl) dX2_hindrance_26 w1_184) dX2_hindrance_29 w1_99) rfl) (s_iload_n dX2_hindrance_32 rfl rfl) rfl) dX2_hindrance_33 nb13)) dX2_hindrance_36 rfl rfl) (t_sq (p1 := 49) (Γ' := [(0, 2), (1, 2), (2, 0), (3, 0), (4, 0), (5, 0), (6, 0)]) (t_istore (s_of_xI (x_callN (ts := [(0, 2), (1, 0)]) kX11_cell mokX11_cell w3_26 rfl rfl rfl (a_I (ts := [(0, 2)]) 1 (a_R (ts := []) 0 a_nil (s_getR ck2 9 (by decide) rfl (s_aload_n dX2_hindrance_38 rfl rfl) dX2_hindrance_39 w2_27) rfl) (s_iload dX2_hindrance_42 rfl) rfl) dX2_hindrance_44 nb13)) dX2_hindrance_47 rfl rfl) (t_sq (p1 := 74) (Γ' := [(0, 2), (1, 2), (2, 0), (3, 0), (4, 0), (5, 0), (6, 0)]) (t_if (pT := 72) (pF := 74) (X := [74]) (XA := []) (XB := [74]) (c_or (p1 := 60) (pT := 72) (pF := 74) (c_ne_ZJ (pT := 72) (s_of_xI (x_callN (ts := [(0, 0), (1, 0)]) kX11_hasBit mokX11_hasBit w3_16 rfl rfl rfl (a_I (ts := [(0, 0)]) 1 (a_I (ts := []) 0 a_nil (s_getI ck2 6 (by decide) rfl (s_aload_n dX2_hindrance_49 rfl rfl) dX2_hindrance_50 w2_23) rfl) (s_iload_n dX2_hindrance_53 rfl rfl) rfl) dX2_hindrance_54 nb16)) dX2_hindrance_57 rfl) (c_ne_ZF (pF := 74) (s_of_xI (x_callN (ts := [(0, 0), (1, 0)]) kX11_hasBit mokX11_hasBit w3_16 rfl rfl rfl (a_I (ts := [(0, 0)]) 1 (a_I (ts := []) 0 a_nil (s_getI ck2 7 (by decide) rfl (s_aload_n dX2_hindrance_60 rfl rfl) dX2_hindrance_61 w2_24) rfl) (s_iload dX2_hindrance_64 rfl) rfl) dX2_hindrance_66 nb16)) dX2_hindrance_69 rfl)) (t_ret (cv := cvI) (fun _ _ => rfl) (s_iconst dX2_hindrance_72 rfl) dX2_hindrance_73) (t_skip (ld_in rfl) rfl) lda_nil (lda_cons (ld_in rfl) lda_nil)) (t_sq (p1 := 89) (Γ' := [(0, 2), (1, 2), (2, 0), (3, 0), (4, 0), (5, 0), (6, 0)]) (t_if (pT := 87) (pF := 89) (X := [89]) (XA := []) (XB := [89]) (c_ne_F (pF := 89) (s_of_xI (x_callN (ts := [(0, 2), (1, 0)]) kX11_cell mokX11_cell w3_26 rfl rfl rfl (a_I (ts := [(0, 2)]) 1 (a_R (ts := []) 0 a_nil (s_getR ck2 8 (by decide) rfl (s_aload_n dX2_hindrance_74 rfl rfl) dX2_hindrance_75 w2_25) rfl) (s_iload_n dX2_hindrance_78 rfl rfl) rfl) dX2_hindrance_79 nb13)) (s_iload dX2_hindrance_82 rfl) dX2_hindrance_84 rfl) (t_ret (cv := cvI) (fun _ _ => rfl) (s_iconst dX2_hindrance_87 rfl) dX2_hindrance_88) (t_skip (ld_in rfl) rfl) lda_nil (lda_cons (ld_in rfl) lda_nil)) (t_sq (p1 := 121) (Γ' := [(0, 2), (1, 2), (2, 0), (3, 0), (4, 0), (5, 0), (6, 0)]) (t_if (pT := 119) (pF := 121) (X := [121]) (XA := []) (XB := [121]) (c_or (p1 := 101) (pT := 119) (pF := 121) (c_ne_ZJ (pT := 119) (s_of_xI (x_callN (ts := [(0, 0), (1, 0)]) kX11_hasBit mokX11_hasBit w3_16 rfl rfl rfl (a_I (ts := [(0, 0)]) 1 (a_I (ts := []) 0 a_nil (s_getI ck2 2 (by decide) rfl (s_aload_n dX2_hindrance_89 rfl rfl) dX2_hindrance_90 w2_14) rfl) (s_iload dX2_hindrance_93 rfl) rfl) dX2_hindrance_95 nb16)) dX2_hindrance_98 rfl) (c_not (pT := 119) (pF := 121) (c_ne_ZJ (pT := 121) (s_of_xI (x_callN (ts := [(0, 0), (1, 0)]) kX11_hasBit mokX11_hasBit w3_16 rfl rfl rfl (a_I (ts := [(0, 0)]) 1 (a_I (ts := []) 0 a_nil (s_of_xI (x_callV (ts := [(0, 2), (1, 0), (2, 0)]) ck5 rfl kX5_doorsOf mokX5_doorsOf w3_22 w3_23 rfl rfl rfl rfl (a_I (ts := [(0, 2), (1, 0)]) 2 (a_I (ts := [(0, 2)]) 1 (a_R (ts := []) 0 a_nil (s_aload_n dX2_hindrance_101 rfl rfl) rfl) (s_iload dX2_hindrance_102 rfl) rfl) (s_getI ck2 1 (by decide) rfl (s_aload_n dX2_hindrance_104 rfl rfl) dX2_hindrance_105 w2_13) rfl) dX2_hindrance_108 w3_96)) rfl) (s_iload dX2_hindrance_111 rfl) rfl) dX2_hindrance_113 nb16)) dX2_hindrance_116 rfl))) (t_ret (cv := cvI) (fun _ _ => rfl) (s_iconst dX2_hindrance_119 rfl) dX2_hindrance_120) (t_skip (ld_in rfl) rfl) lda_nil (lda_cons (ld_in rfl) lda_nil)) (t_ret (cv := cvI) (fun _ _ => rfl) (s_T (pT := 141) (pF := 145) (p1 := 142) (pe := 146) (c_gt_F (pF := 145) (s_of_xI (x_callV (ts := [(0, 2), (1, 2), (2, 0), (3, 0)]) ck2 rfl kX2_loadTo mokX2_loadTo w3_99 ps1_3 rfl rfl rfl rfl (a_I (ts := [(0, 2), (1, 2), (2, 0)]) 3 (a_I (ts := [(0, 2), (1, 2)]) 2 (a_R (ts := [(0, 2)]) 1 (a_R (ts := []) 0 a_nil (s_aload_n dX2_hindrance_121 rfl rfl) rfl) (s_aload_n dX2_hindrance_122 rfl rfl) rfl) (s_iload dX2_hindrance_123 rfl) rfl) (s_iload dX2_hindrance_125 rfl) rfl) dX2_hindrance_127 w3_97)) (s_of_xI (x_callN (ts := [(0, 2), (1, 0)]) kX11_cell mokX11_cell w3_26 rfl rfl rfl (a_I (ts := [(0, 2)]) 1 (a_R (ts := []) 0 a_nil (s_getR ck5 12 (by decide) rfl (s_aload_n dX2_hindrance_130 rfl rfl) dX2_hindrance_131 w1_172) rfl) (s_iload_n dX2_hindrance_134 rfl rfl) rfl) dX2_hindrance_135 nb13)) dX2_hindrance_138 rfl) (s_iconst dX2_hindrance_141 rfl) (s_iconst dX2_hindrance_145 rfl) (ld_goto (y := 146) dX2_hindrance_142 rfl (ld_in rfl))) dX2_hindrance_146))))))))
noncomputable def DX2_hindrance : Fr → St → Option (Int32 × St) := M1 (fun f => (sI (sR (sR fr0 0 (gR f 0)) 1 (gR f 1)) 2 (gI f 2))) BX2_hindrance
theorem kX2_hindrance : SND yX2_hindrance cX2_hindrance 7 (some .int) 4 [(0, 2), (1, 2), (2, 0)] cvoI DX2_hindrance := snd_I (nw := 3) (by decide) rfl rfl (fun _ _ => rfl) sBX2_hindrance
theorem dX2_passDay_0 : decode cX2_passDay 0 = .ok (.aload_n 0, 1) := by decide +kernel
theorem dX2_passDay_1 : decode cX2_passDay 1 = .ok (.iconst 0, 1) := by decide +kernel
theorem dX2_passDay_2 : decode cX2_passDay 2 = .ok (.putfield 81, 3) := by decide +kernel
theorem dX2_passDay_5 : decode cX2_passDay 5 = .ok (.aload_n 0, 1) := by decide +kernel
theorem dX2_passDay_6 : decode cX2_passDay 6 = .ok (.iconst 0, 1) := by decide +kernel
theorem dX2_passDay_7 : decode cX2_passDay 7 = .ok (.putfield 84, 3) := by decide +kernel
theorem dX2_passDay_10 : decode cX2_passDay 10 = .ok (.iconst 0, 1) := by decide +kernel
theorem dX2_passDay_11 : decode cX2_passDay 11 = .ok (.istore_n 3, 1) := by decide +kernel
theorem dX2_passDay_12 : decode cX2_passDay 12 = .ok (.iload_n 3, 1) := by decide +kernel
theorem dX2_passDay_13 : decode cX2_passDay 13 = .ok (.aload_n 1, 1) := by decide +kernel
theorem dX2_passDay_14 : decode cX2_passDay 14 = .ok (.getfield 87, 3) := by decide +kernel
theorem dX2_passDay_17 : decode cX2_passDay 17 = .ok (.getfield 91, 3) := by decide +kernel
theorem dX2_passDay_20 : decode cX2_passDay 20 = .ok (.if_icmp .ge 67, 3) := by decide +kernel
theorem dX2_passDay_23 : decode cX2_passDay 23 = .ok (.iload_n 3, 1) := by decide +kernel
theorem dX2_passDay_24 : decode cX2_passDay 24 = .ok (.bipush 32, 2) := by decide +kernel
theorem dX2_passDay_26 : decode cX2_passDay 26 = .ok (.if_icmp .ge 61, 3) := by decide +kernel
theorem dX2_passDay_29 : decode cX2_passDay 29 = .ok (.aload_n 1, 1) := by decide +kernel
theorem dX2_passDay_30 : decode cX2_passDay 30 = .ok (.getfield 87, 3) := by decide +kernel
theorem dX2_passDay_33 : decode cX2_passDay 33 = .ok (.getfield 96, 3) := by decide +kernel
theorem dX2_passDay_36 : decode cX2_passDay 36 = .ok (.iload_n 3, 1) := by decide +kernel
theorem dX2_passDay_37 : decode cX2_passDay 37 = .ok (.invokestatic 65, 3) := by decide +kernel
theorem dX2_passDay_40 : decode cX2_passDay 40 = .ok (.iload_n 2, 1) := by decide +kernel
theorem dX2_passDay_41 : decode cX2_passDay 41 = .ok (.if_icmp .ne 40, 3) := by decide +kernel
theorem dX2_passDay_44 : decode cX2_passDay 44 = .ok (.aload_n 0, 1) := by decide +kernel
theorem dX2_passDay_45 : decode cX2_passDay 45 = .ok (.aload_n 1, 1) := by decide +kernel
theorem dX2_passDay_46 : decode cX2_passDay 46 = .ok (.iload_n 3, 1) := by decide +kernel
theorem dX2_passDay_47 : decode cX2_passDay 47 = .ok (.invokevirtual 99, 3) := by decide +kernel
theorem dX2_passDay_50 : decode cX2_passDay 50 = .ok (.istore 4, 2) := by decide +kernel
theorem dX2_passDay_52 : decode cX2_passDay 52 = .ok (.aload_n 0, 1) := by decide +kernel
theorem dX2_passDay_53 : decode cX2_passDay 53 = .ok (.getfield 27, 3) := by decide +kernel
theorem dX2_passDay_56 : decode cX2_passDay 56 = .ok (.iload_n 3, 1) := by decide +kernel
theorem dX2_passDay_57 : decode cX2_passDay 57 = .ok (.iload 4, 2) := by decide +kernel
theorem dX2_passDay_59 : decode cX2_passDay 59 = .ok (.invokestatic 69, 3) := by decide +kernel
theorem dX2_passDay_62 : decode cX2_passDay 62 = .ok (.iload 4, 2) := by decide +kernel
theorem dX2_passDay_64 : decode cX2_passDay 64 = .ok (.ifCond .ne 17, 3) := by decide +kernel
theorem dX2_passDay_67 : decode cX2_passDay 67 = .ok (.aload_n 0, 1) := by decide +kernel
theorem dX2_passDay_68 : decode cX2_passDay 68 = .ok (.aload_n 1, 1) := by decide +kernel
theorem dX2_passDay_69 : decode cX2_passDay 69 = .ok (.iload_n 3, 1) := by decide +kernel
theorem dX2_passDay_70 : decode cX2_passDay 70 = .ok (.aload_n 0, 1) := by decide +kernel
theorem dX2_passDay_71 : decode cX2_passDay 71 = .ok (.getfield 46, 3) := by decide +kernel
theorem dX2_passDay_74 : decode cX2_passDay 74 = .ok (.iload_n 2, 1) := by decide +kernel
theorem dX2_passDay_75 : decode cX2_passDay 75 = .ok (.invokestatic 103, 3) := by decide +kernel
theorem dX2_passDay_78 : decode cX2_passDay 78 = .ok (.invokevirtual 107, 3) := by decide +kernel
theorem dX2_passDay_81 : decode cX2_passDay 81 = .ok (.iinc 3 1, 3) := by decide +kernel
theorem dX2_passDay_84 : decode cX2_passDay 84 = .ok (.goto (-72), 3) := by decide +kernel
theorem dX2_passDay_87 : decode cX2_passDay 87 = .ok (.return_, 1) := by decide +kernel
theorem mokX2_passDay : MOK yX2_passDay cX2_passDay 5 none 2 := ⟨w3_90, w1_8, ⟨by decide, by decide⟩, by decide +kernel, by decide⟩
abbrev miX2_passDay : MI := (yX2_passDay.cls, cX2_passDay, 5, 5, false)
noncomputable def LX2_passDay_1 : Sm Unit := dLoop (fun f => (sI (sI (sR (sR fr0 0 (gR f 0)) 1 (gR f 1)) 2 (gI f 2)) 3 (gI f 3))) (dAnd (dCI r_lt (vI 3) (dGI 1 1 (dGR 5 16 (vR 1)))) (dCI r_lt (vI 3) (cI 32))) (dIf (dCI r_eq (dCall DX11_cell (aI (aR aN 0 (dGR 1 6 (dGR 5 16 (vR 1)))) 1 (vI 3))) (vI 2)) (dSeq (dSetI 4 (dCallV 2 DX2_hindrance (aI (aR (aR aN 0 (vR 0)) 1 (vR 1)) 2 (vI 3)))) (dSeq (dDo (dCall DX11_put (aI (aI (aR aN 0 (dGR 2 13 (vR 0))) 1 (vI 3)) 2 (vI 4)))) (dIf (dCZ q_eq (vI 4)) (dDo (dCallV 2 DX2_carryOut (aI (aI (aR (aR aN 0 (vR 0)) 1 (vR 1)) 2 (vI 3)) 3 (dCall DX11_hasBit (aI (aI aN 0 (dGI 2 3 (vR 0))) 1 (vI 2)))))) dSkip))) dSkip) (dInc 3 1)
theorem sLX2_passDay_1 {ΓL : Gm} {PB PK : List Nat} : SS (cvoV, .return_) miX2_passDay ΓL PB PK [(0, 2), (1, 2), (2, 0), (3, 0)] [(0, 2), (1, 2), (2, 0), (3, 0)] 12 [87] LX2_passDay_1 := t_loop (pT := 29) (pF := 87) (pu := 81) (PB' := []) (PK' := []) (XB := [81]) (XU := [84]) (fun _ _ => rfl) rfl (c_and (p1 := 23) (pT := 29) (pF := 87) (c_lt_F (pF := 87) (s_iload_n dX2_passDay_12 rfl rfl) (s_getI ck1 1 (by decide) rfl (s_getR ck5 16 (by decide) rfl (s_aload_n dX2_passDay_13 rfl rfl) dX2_passDay_14 w1_184) dX2_passDay_17 w1_89) dX2_passDay_20 rfl) (c_lt_F (pF := 87) (s_iload_n dX2_passDay_23 rfl rfl) (s_bipush dX2_passDay_24 rfl) dX2_passDay_26 rfl)) (t_if (pT := 44) (pF := 81) (X := [81]) (XA := [81]) (XB := [81]) (c_eq_F (pF := 81) (s_of_xI (x_callN (ts := [(0, 2), (1, 0)]) kX11_cell mokX11_cell w3_26 rfl rfl rfl (a_I (ts := [(0, 2)]) 1 (a_R (ts := []) 0 a_nil (s_getR ck1 6 (by decide) rfl (s_getR ck5 16 (by decide) rfl (s_aload_n dX2_passDay_29 rfl rfl) dX2_passDay_30 w1_184) dX2_passDay_33 w1_101) rfl) (s_iload_n dX2_passDay_36 rfl rfl) rfl) dX2_passDay_37 nb13)) (s_iload_n dX2_passDay_40 rfl rfl) dX2_passDay_41 rfl) (t_sq (p1 := 52) (Γ' := [(0, 2), (1, 2), (2, 0), (3, 0), (4, 0)]) (t_istore (s_of_xI (x_callV (ts := [(0, 2), (1, 2), (2, 0)]) ck2 rfl kX2_hindrance mokX2_hindrance w3_93 ps1_2 rfl rfl rfl rfl (a_I (ts := [(0, 2), (1, 2)]) 2 (a_R (ts := [(0, 2)]) 1 (a_R (ts := []) 0 a_nil (s_aload_n dX2_passDay_44 rfl rfl) rfl) (s_aload_n dX2_passDay_45 rfl rfl) rfl) (s_iload_n dX2_passDay_46 rfl rfl) rfl) dX2_passDay_47 w3_91)) dX2_passDay_50 rfl rfl) (t_sq (p1 := 62) (Γ' := [(0, 2), (1, 2), (2, 0), (3, 0), (4, 0)]) (t_do (x_callN (ts := [(0, 2), (1, 0), (2, 0)]) kX11_put mokX11_put w3_65 rfl rfl rfl (a_I (ts := [(0, 2), (1, 0)]) 2 (a_I (ts := [(0, 2)]) 1 (a_R (ts := []) 0 a_nil (s_getR ck2 13 (by decide) rfl (s_aload_n dX2_passDay_52 rfl rfl) dX2_passDay_53 w2_35) rfl) (s_iload_n dX2_passDay_56 rfl rfl) rfl) (s_iload dX2_passDay_57 rfl) rfl) dX2_passDay_59 nb14) rfl) (t_if (pT := 67) (pF := 81) (X := [81]) (XA := [81]) (XB := [81]) (c_eq_ZF (pF := 81) (s_iload dX2_passDay_62 rfl) dX2_passDay_64 rfl) (t_do (x_callV (ts := [(0, 2), (1, 2), (2, 0), (3, 0)]) ck2 rfl kX2_carryOut mokX2_carryOut w3_115 ps1_4 rfl rfl rfl rfl (a_I (ts := [(0, 2), (1, 2), (2, 0)]) 3 (a_I (ts := [(0, 2), (1, 2)]) 2 (a_R (ts := [(0, 2)]) 1 (a_R (ts := []) 0 a_nil (s_aload_n dX2_passDay_67 rfl rfl) rfl) (s_aload_n dX2_passDay_68 rfl rfl) rfl) (s_iload_n dX2_passDay_69 rfl rfl) rfl) (s_of_xI (x_callN (ts := [(0, 0), (1, 0)]) kX11_hasBit mokX11_hasBit w3_16 rfl rfl rfl (a_I (ts := [(0, 0)]) 1 (a_I (ts := []) 0 a_nil (s_getI ck2 3 (by decide) rfl (s_aload_n dX2_passDay_70 rfl rfl) dX2_passDay_71 w2_16) rfl) (s_iload_n dX2_passDay_74 rfl rfl) rfl) dX2_passDay_75 nb16)) rfl) dX2_passDay_78 w3_113) rfl) (t_skip (ld_in rfl) rfl) (lda_cons (ld_in rfl) lda_nil) (lda_cons (ld_in rfl) lda_nil)))) (t_skip (ld_in rfl) rfl) (lda_cons (ld_in rfl) lda_nil) (lda_cons (ld_in rfl) lda_nil)) (t_iinc dX2_passDay_81 rfl rfl rfl rfl) (lda_cons (ld_in rfl) lda_nil) lda_nil (lda_cons (ld_goto (y := 12) dX2_passDay_84 rfl (ld_in rfl)) lda_nil) (ld_in rfl) lda_nil
noncomputable def BX2_passDay : Sm Unit := (dSeq (dP (fI 2 6) (vR 0) (cI 0)) (dSeq (dP (fI 2 7) (vR 0) (cI 0)) (dSeq (dSeq (dSetI 3 (cI 0)) LX2_passDay_1) dRet0)))
theorem sBX2_passDay : SS (cvoV, .return_) miX2_passDay [] [] [] [(0, 2), (1, 2), (2, 0)] [(0, 2), (1, 2), (2, 0)] 0 [] BX2_passDay := (t_sq (p1 := 5) (Γ' := [(0, 2), (1, 2), (2, 0)]) (t_pI ck2 6 (by decide) rfl (Or.inl rfl) (s_aload_n dX2_passDay_0 rfl rfl) (s_iconst dX2_passDay_1 rfl) dX2_passDay_2 w2_23 rfl) (t_sq (p1 := 10) (Γ' := [(0, 2), (1, 2), (2, 0)]) (t_pI ck2 7 (by decide) rfl (Or.inl rfl) (s_aload_n dX2_passDay_5 rfl rfl) (s_iconst dX2_passDay_6 rfl) dX2_passDay_7 w2_24 rfl) (t_sq (p1 := 87) (Γ' := [(0, 2), (1, 2), (2, 0)]) (t_sq (p1 := 12) (Γ' := [(0, 2), (1, 2), (2, 0), (3, 0)]) (t_istore_n (s_iconst dX2_passDay_10 rfl) dX2_passDay_11 rfl rfl rfl) (tn_to (Γ' := [(0, 2), (1, 2), (2, 0), (3, 0)]) (XA := [87]) sLX2_passDay_1 (lda_cons (ld_in rfl) lda_nil) rfl)) (t_ret0 (fun _ _ => rfl) dX2_passDay_87))))
noncomputable def DX2_passDay : Fr → St → Option (Unit × St) := M1 (fun f => (sI (sR (sR fr0 0 (gR f 0)) 1 (gR f 1)) 2 (gI f 2))) BX2_passDay
theorem kX2_passDay : SND yX2_passDay cX2_passDay 5 none 5 [(0, 2), (1, 2), (2, 0)] cvoV DX2_passDay := snd_V (nw := 3) (by decide) (fun z => by cases z) rfl rfl (fun _ _ => rfl) sBX2_passDay
