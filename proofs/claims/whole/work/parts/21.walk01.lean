theorem dX6_readHouse_0 : decode cX6_readHouse 0 = .ok (.aload_n 1, 1) := by decide +kernel
theorem dX6_readHouse_1 : decode cX6_readHouse 1 = .ok (.invokevirtual 28, 3) := by decide +kernel
theorem dX6_readHouse_4 : decode cX6_readHouse 4 = .ok (.aload_n 2, 1) := by decide +kernel
theorem dX6_readHouse_5 : decode cX6_readHouse 5 = .ok (.getfield 131, 3) := by decide +kernel
theorem dX6_readHouse_8 : decode cX6_readHouse 8 = .ok (.aload_n 2, 1) := by decide +kernel
theorem dX6_readHouse_9 : decode cX6_readHouse 9 = .ok (.getfield 66, 3) := by decide +kernel
theorem dX6_readHouse_12 : decode cX6_readHouse 12 = .ok (.aload_n 0, 1) := by decide +kernel
theorem dX6_readHouse_13 : decode cX6_readHouse 13 = .ok (.aload_n 1, 1) := by decide +kernel
theorem dX6_readHouse_14 : decode cX6_readHouse 14 = .ok (.ldc 135, 2) := by decide +kernel
theorem dX6_readHouse_16 : decode cX6_readHouse 16 = .ok (.iconst 0, 1) := by decide +kernel
theorem dX6_readHouse_17 : decode cX6_readHouse 17 = .ok (.bipush 20, 2) := by decide +kernel
theorem dX6_readHouse_19 : decode cX6_readHouse 19 = .ok (.invokevirtual 117, 3) := by decide +kernel
theorem dX6_readHouse_22 : decode cX6_readHouse 22 = .ok (.invokestatic 136, 3) := by decide +kernel
theorem dX6_readHouse_25 : decode cX6_readHouse 25 = .ok (.aload_n 2, 1) := by decide +kernel
theorem dX6_readHouse_26 : decode cX6_readHouse 26 = .ok (.dup, 1) := by decide +kernel
theorem dX6_readHouse_27 : decode cX6_readHouse 27 = .ok (.getfield 66, 3) := by decide +kernel
theorem dX6_readHouse_30 : decode cX6_readHouse 30 = .ok (.iconst 1, 1) := by decide +kernel
theorem dX6_readHouse_31 : decode cX6_readHouse 31 = .ok (.iadd, 1) := by decide +kernel
theorem dX6_readHouse_32 : decode cX6_readHouse 32 = .ok (.putfield 66, 3) := by decide +kernel
theorem dX6_readHouse_35 : decode cX6_readHouse 35 = .ok (.aload_n 0, 1) := by decide +kernel
theorem dX6_readHouse_36 : decode cX6_readHouse 36 = .ok (.getfield 15, 3) := by decide +kernel
theorem dX6_readHouse_39 : decode cX6_readHouse 39 = .ok (.ifCond .ne 7, 3) := by decide +kernel
theorem dX6_readHouse_42 : decode cX6_readHouse 42 = .ok (.iconst 1, 1) := by decide +kernel
theorem dX6_readHouse_43 : decode cX6_readHouse 43 = .ok (.goto 4, 3) := by decide +kernel
theorem dX6_readHouse_46 : decode cX6_readHouse 46 = .ok (.iconst 0, 1) := by decide +kernel
theorem dX6_readHouse_47 : decode cX6_readHouse 47 = .ok (.ireturn, 1) := by decide +kernel
theorem mokX6_readHouse : MOK yX6_readHouse cX6_readHouse 3 (some .boolean) 2 := ⟨w3_158, w1_3, ⟨by decide, by decide⟩, by decide +kernel, by decide⟩
abbrev miX6_readHouse : MI := (yX6_readHouse.cls, cX6_readHouse, 3, 7, false)
noncomputable def BX6_readHouse : Sm Int32 := (dSeq (dDo (dCallV 9 DX9_next (aR aN 0 (vR 1)))) (dSeq (dDo (dCall DX11_put (aI (aI (aR aN 0 (dGR 5 8 (vR 2))) 1 (dGI 5 4 (vR 2))) 2 (dCallV 6 DX6_readAmount (aI (aI (aR (aR (aR aN 0 (vR 0)) 1 (vR 1)) 2 (cR 8)) 3 (cI 0)) 4 (cI 20)))))) (dSeq (dUF 5 4 o_iadd (vR 2) (cI 1)) (dRet (dB (dCZ q_eq (dGI 6 0 (vR 0))))))))
theorem sBX6_readHouse : SS (cvoI, .ireturn) miX6_readHouse [] [] [] [(0, 2), (1, 2), (2, 2)] [(0, 2), (1, 2), (2, 2)] 0 [] BX6_readHouse := (t_sq (p1 := 4) (Γ' := [(0, 2), (1, 2), (2, 2)]) (t_do (x_callV (ts := [(0, 2)]) ck9 rfl kX9_next mokX9_next w3_54 w3_55 rfl rfl rfl rfl (a_R (ts := []) 0 a_nil (s_aload_n dX6_readHouse_0 rfl rfl) rfl) dX6_readHouse_1 w3_53) rfl) (t_sq (p1 := 25) (Γ' := [(0, 2), (1, 2), (2, 2)]) (t_do (x_callN (ts := [(0, 2), (1, 0), (2, 0)]) kX11_put mokX11_put w3_161 rfl rfl rfl (a_I (ts := [(0, 2), (1, 0)]) 2 (a_I (ts := [(0, 2)]) 1 (a_R (ts := []) 0 a_nil (s_getR ck5 8 (by decide) rfl (s_aload_n dX6_readHouse_4 rfl rfl) dX6_readHouse_5 w1_171) rfl) (s_getI ck5 4 (by decide) rfl (s_aload_n dX6_readHouse_8 rfl rfl) dX6_readHouse_9 w1_151) rfl) (s_of_xI (x_callV (ts := [(0, 2), (1, 2), (2, 2), (3, 0), (4, 0)]) ck6 rfl kX6_readAmount mokX6_readAmount w3_142 ps1_5 rfl rfl rfl rfl (a_I (ts := [(0, 2), (1, 2), (2, 2), (3, 0)]) 4 (a_I (ts := [(0, 2), (1, 2), (2, 2)]) 3 (a_R (ts := [(0, 2), (1, 2)]) 2 (a_R (ts := [(0, 2)]) 1 (a_R (ts := []) 0 a_nil (s_aload_n dX6_readHouse_12 rfl rfl) rfl) (s_aload_n dX6_readHouse_13 rfl rfl) rfl) (s_ldcS 5 dX6_readHouse_14 (by decide) rfl rfl) rfl) (s_iconst dX6_readHouse_16 rfl) rfl) (s_bipush dX6_readHouse_17 rfl) rfl) dX6_readHouse_19 w3_140)) rfl) dX6_readHouse_22 nb11) rfl) (t_sq (p1 := 35) (Γ' := [(0, 2), (1, 2), (2, 2)]) (t_UF ck5 4 (by decide) rfl (Or.inl rfl) (s_aload_n dX6_readHouse_25 rfl rfl) dX6_readHouse_26 dX6_readHouse_27 w1_151 (s_iconst dX6_readHouse_30 rfl) (fun _ _ _ _ => rulI fun a b K => lv_iadd a b dX6_readHouse_31 K) dX6_readHouse_32 w1_151 rfl) (t_ret (cv := cvI) (fun _ _ => rfl) (s_B (pT := 42) (pF := 46) (pe := 47) (c_eq_ZF (pF := 46) (s_getI ck6 0 (by decide) rfl (s_aload_n dX6_readHouse_35 rfl rfl) dX6_readHouse_36 w1_66) dX6_readHouse_39 rfl) dX6_readHouse_42 dX6_readHouse_43 rfl dX6_readHouse_46 rfl) dX6_readHouse_47))))
noncomputable def DX6_readHouse : Fr → St → Option (Int32 × St) := MZ (fun f => (sR (sR (sR fr0 0 (gR f 0)) 1 (gR f 1)) 2 (gR f 2))) BX6_readHouse
theorem kX6_readHouse : SND yX6_readHouse cX6_readHouse 3 (some .boolean) 7 [(0, 2), (1, 2), (2, 2)] cvoI DX6_readHouse := snd_Z (nw := 3) (by decide) rfl rfl (fun _ _ => rfl) sBX6_readHouse
theorem dX6_readPort_0 : decode cX6_readPort 0 = .ok (.aload_n 0, 1) := by decide +kernel
theorem dX6_readPort_1 : decode cX6_readPort 1 = .ok (.aload_n 1, 1) := by decide +kernel
theorem dX6_readPort_2 : decode cX6_readPort 2 = .ok (.ldc 109, 2) := by decide +kernel
theorem dX6_readPort_4 : decode cX6_readPort 4 = .ok (.invokevirtual 111, 3) := by decide +kernel
theorem dX6_readPort_7 : decode cX6_readPort 7 = .ok (.ifCond .ne 5, 3) := by decide +kernel
theorem dX6_readPort_10 : decode cX6_readPort 10 = .ok (.iconst 0, 1) := by decide +kernel
theorem dX6_readPort_11 : decode cX6_readPort 11 = .ok (.ireturn, 1) := by decide +kernel
theorem dX6_readPort_12 : decode cX6_readPort 12 = .ok (.aload_n 2, 1) := by decide +kernel
theorem dX6_readPort_13 : decode cX6_readPort 13 = .ok (.aload_n 0, 1) := by decide +kernel
theorem dX6_readPort_14 : decode cX6_readPort 14 = .ok (.aload_n 1, 1) := by decide +kernel
theorem dX6_readPort_15 : decode cX6_readPort 15 = .ok (.ldc 115, 2) := by decide +kernel
theorem dX6_readPort_17 : decode cX6_readPort 17 = .ok (.iconst 1, 1) := by decide +kernel
theorem dX6_readPort_18 : decode cX6_readPort 18 = .ok (.bipush 12, 2) := by decide +kernel
theorem dX6_readPort_20 : decode cX6_readPort 20 = .ok (.invokevirtual 117, 3) := by decide +kernel
theorem dX6_readPort_23 : decode cX6_readPort 23 = .ok (.putfield 121, 3) := by decide +kernel
theorem dX6_readPort_26 : decode cX6_readPort 26 = .ok (.aload_n 0, 1) := by decide +kernel
theorem dX6_readPort_27 : decode cX6_readPort 27 = .ok (.getfield 15, 3) := by decide +kernel
theorem dX6_readPort_30 : decode cX6_readPort 30 = .ok (.ifCond .ne 16, 3) := by decide +kernel
theorem dX6_readPort_33 : decode cX6_readPort 33 = .ok (.aload_n 2, 1) := by decide +kernel
theorem dX6_readPort_34 : decode cX6_readPort 34 = .ok (.aload_n 0, 1) := by decide +kernel
theorem dX6_readPort_35 : decode cX6_readPort 35 = .ok (.aload_n 1, 1) := by decide +kernel
theorem dX6_readPort_36 : decode cX6_readPort 36 = .ok (.ldc 123, 2) := by decide +kernel
theorem dX6_readPort_38 : decode cX6_readPort 38 = .ok (.iconst 0, 1) := by decide +kernel
theorem dX6_readPort_39 : decode cX6_readPort 39 = .ok (.iconst 3, 1) := by decide +kernel
theorem dX6_readPort_40 : decode cX6_readPort 40 = .ok (.invokevirtual 117, 3) := by decide +kernel
theorem dX6_readPort_43 : decode cX6_readPort 43 = .ok (.putfield 125, 3) := by decide +kernel
theorem dX6_readPort_46 : decode cX6_readPort 46 = .ok (.aload_n 0, 1) := by decide +kernel
theorem dX6_readPort_47 : decode cX6_readPort 47 = .ok (.getfield 15, 3) := by decide +kernel
theorem dX6_readPort_50 : decode cX6_readPort 50 = .ok (.ifCond .ne 17, 3) := by decide +kernel
theorem dX6_readPort_53 : decode cX6_readPort 53 = .ok (.aload_n 2, 1) := by decide +kernel
theorem dX6_readPort_54 : decode cX6_readPort 54 = .ok (.aload_n 0, 1) := by decide +kernel
theorem dX6_readPort_55 : decode cX6_readPort 55 = .ok (.aload_n 1, 1) := by decide +kernel
theorem dX6_readPort_56 : decode cX6_readPort 56 = .ok (.ldc 127, 2) := by decide +kernel
theorem dX6_readPort_58 : decode cX6_readPort 58 = .ok (.iconst 0, 1) := by decide +kernel
theorem dX6_readPort_59 : decode cX6_readPort 59 = .ok (.bipush 10, 2) := by decide +kernel
theorem dX6_readPort_61 : decode cX6_readPort 61 = .ok (.invokevirtual 117, 3) := by decide +kernel
theorem dX6_readPort_64 : decode cX6_readPort 64 = .ok (.putfield 129, 3) := by decide +kernel
theorem dX6_readPort_67 : decode cX6_readPort 67 = .ok (.aload_n 0, 1) := by decide +kernel
theorem dX6_readPort_68 : decode cX6_readPort 68 = .ok (.getfield 15, 3) := by decide +kernel
theorem dX6_readPort_71 : decode cX6_readPort 71 = .ok (.ifCond .ne 7, 3) := by decide +kernel
theorem dX6_readPort_74 : decode cX6_readPort 74 = .ok (.iconst 1, 1) := by decide +kernel
theorem dX6_readPort_75 : decode cX6_readPort 75 = .ok (.goto 4, 3) := by decide +kernel
theorem dX6_readPort_78 : decode cX6_readPort 78 = .ok (.iconst 0, 1) := by decide +kernel
theorem dX6_readPort_79 : decode cX6_readPort 79 = .ok (.ireturn, 1) := by decide +kernel
theorem mokX6_readPort : MOK yX6_readPort cX6_readPort 3 (some .boolean) 2 := ⟨w3_77, w1_3, ⟨by decide, by decide⟩, by decide +kernel, by decide⟩
abbrev miX6_readPort : MI := (yX6_readPort.cls, cX6_readPort, 3, 7, false)
noncomputable def BX6_readPort : Sm Int32 := (dSeq (dIf (dNot (dCZ q_ne (dCallV 6 DX6_readWord (aR (aR (aR aN 0 (vR 0)) 1 (vR 1)) 2 (cR 3))))) (dRet (cI 0)) dSkip) (dSeq (dP (fI 5 1) (vR 2) (dCallV 6 DX6_readAmount (aI (aI (aR (aR (aR aN 0 (vR 0)) 1 (vR 1)) 2 (cR 4)) 3 (cI 1)) 4 (cI 12)))) (dSeq (dIf (dCZ q_eq (dGI 6 0 (vR 0))) (dP (fI 5 2) (vR 2) (dCallV 6 DX6_readAmount (aI (aI (aR (aR (aR aN 0 (vR 0)) 1 (vR 1)) 2 (cR 5)) 3 (cI 0)) 4 (cI 3)))) dSkip) (dSeq (dIf (dCZ q_eq (dGI 6 0 (vR 0))) (dP (fI 5 3) (vR 2) (dCallV 6 DX6_readAmount (aI (aI (aR (aR (aR aN 0 (vR 0)) 1 (vR 1)) 2 (cR 6)) 3 (cI 0)) 4 (cI 10)))) dSkip) (dRet (dB (dCZ q_eq (dGI 6 0 (vR 0)))))))))
theorem sBX6_readPort : SS (cvoI, .ireturn) miX6_readPort [] [] [] [(0, 2), (1, 2), (2, 2)] [(0, 2), (1, 2), (2, 2)] 0 [] BX6_readPort := (t_sq (p1 := 12) (Γ' := [(0, 2), (1, 2), (2, 2)]) (t_if (pT := 10) (pF := 12) (X := [12]) (XA := []) (XB := [12]) (c_not (pT := 10) (pF := 12) (c_ne_ZJ (pT := 12) (s_of_xI (x_callV (ts := [(0, 2), (1, 2), (2, 2)]) ck6 rfl kX6_readWord mokX6_readWord w3_81 ps1_3 rfl rfl rfl rfl (a_R (ts := [(0, 2), (1, 2)]) 2 (a_R (ts := [(0, 2)]) 1 (a_R (ts := []) 0 a_nil (s_aload_n dX6_readPort_0 rfl rfl) rfl) (s_aload_n dX6_readPort_1 rfl rfl) rfl) (s_ldcS 0 dX6_readPort_2 (by decide) rfl rfl) rfl) dX6_readPort_4 w3_79)) dX6_readPort_7 rfl)) (t_ret (cv := cvI) (fun _ _ => rfl) (s_iconst dX6_readPort_10 rfl) dX6_readPort_11) (t_skip (ld_in rfl) rfl) lda_nil (lda_cons (ld_in rfl) lda_nil)) (t_sq (p1 := 26) (Γ' := [(0, 2), (1, 2), (2, 2)]) (t_pI ck5 1 (by decide) rfl (Or.inl rfl) (s_aload_n dX6_readPort_12 rfl rfl) (s_of_xI (x_callV (ts := [(0, 2), (1, 2), (2, 2), (3, 0), (4, 0)]) ck6 rfl kX6_readAmount mokX6_readAmount w3_142 ps1_5 rfl rfl rfl rfl (a_I (ts := [(0, 2), (1, 2), (2, 2), (3, 0)]) 4 (a_I (ts := [(0, 2), (1, 2), (2, 2)]) 3 (a_R (ts := [(0, 2), (1, 2)]) 2 (a_R (ts := [(0, 2)]) 1 (a_R (ts := []) 0 a_nil (s_aload_n dX6_readPort_13 rfl rfl) rfl) (s_aload_n dX6_readPort_14 rfl rfl) rfl) (s_ldcS 1 dX6_readPort_15 (by decide) rfl rfl) rfl) (s_iconst dX6_readPort_17 rfl) rfl) (s_bipush dX6_readPort_18 rfl) rfl) dX6_readPort_20 w3_140)) dX6_readPort_23 w1_136 rfl) (t_sq (p1 := 46) (Γ' := [(0, 2), (1, 2), (2, 2)]) (t_if (pT := 33) (pF := 46) (X := [46]) (XA := [46]) (XB := [46]) (c_eq_ZF (pF := 46) (s_getI ck6 0 (by decide) rfl (s_aload_n dX6_readPort_26 rfl rfl) dX6_readPort_27 w1_66) dX6_readPort_30 rfl) (t_pI ck5 2 (by decide) rfl (Or.inl rfl) (s_aload_n dX6_readPort_33 rfl rfl) (s_of_xI (x_callV (ts := [(0, 2), (1, 2), (2, 2), (3, 0), (4, 0)]) ck6 rfl kX6_readAmount mokX6_readAmount w3_142 ps1_5 rfl rfl rfl rfl (a_I (ts := [(0, 2), (1, 2), (2, 2), (3, 0)]) 4 (a_I (ts := [(0, 2), (1, 2), (2, 2)]) 3 (a_R (ts := [(0, 2), (1, 2)]) 2 (a_R (ts := [(0, 2)]) 1 (a_R (ts := []) 0 a_nil (s_aload_n dX6_readPort_34 rfl rfl) rfl) (s_aload_n dX6_readPort_35 rfl rfl) rfl) (s_ldcS 2 dX6_readPort_36 (by decide) rfl rfl) rfl) (s_iconst dX6_readPort_38 rfl) rfl) (s_iconst dX6_readPort_39 rfl) rfl) dX6_readPort_40 w3_140)) dX6_readPort_43 w1_142 rfl) (t_skip (ld_in rfl) rfl) (lda_cons (ld_in rfl) lda_nil) (lda_cons (ld_in rfl) lda_nil)) (t_sq (p1 := 67) (Γ' := [(0, 2), (1, 2), (2, 2)]) (t_if (pT := 53) (pF := 67) (X := [67]) (XA := [67]) (XB := [67]) (c_eq_ZF (pF := 67) (s_getI ck6 0 (by decide) rfl (s_aload_n dX6_readPort_46 rfl rfl) dX6_readPort_47 w1_66) dX6_readPort_50 rfl) (t_pI ck5 3 (by decide) rfl (Or.inl rfl) (s_aload_n dX6_readPort_53 rfl rfl) (s_of_xI (x_callV (ts := [(0, 2), (1, 2), (2, 2), (3, 0), (4, 0)]) ck6 rfl kX6_readAmount mokX6_readAmount w3_142 ps1_5 rfl rfl rfl rfl (a_I (ts := [(0, 2), (1, 2), (2, 2), (3, 0)]) 4 (a_I (ts := [(0, 2), (1, 2), (2, 2)]) 3 (a_R (ts := [(0, 2), (1, 2)]) 2 (a_R (ts := [(0, 2)]) 1 (a_R (ts := []) 0 a_nil (s_aload_n dX6_readPort_54 rfl rfl) rfl) (s_aload_n dX6_readPort_55 rfl rfl) rfl) (s_ldcS 3 dX6_readPort_56 (by decide) rfl rfl) rfl) (s_iconst dX6_readPort_58 rfl) rfl) (s_bipush dX6_readPort_59 rfl) rfl) dX6_readPort_61 w3_140)) dX6_readPort_64 w1_147 rfl) (t_skip (ld_in rfl) rfl) (lda_cons (ld_in rfl) lda_nil) (lda_cons (ld_in rfl) lda_nil)) (t_ret (cv := cvI) (fun _ _ => rfl) (s_B (pT := 74) (pF := 78) (pe := 79) (c_eq_ZF (pF := 78) (s_getI ck6 0 (by decide) rfl (s_aload_n dX6_readPort_67 rfl rfl) dX6_readPort_68 w1_66) dX6_readPort_71 rfl) dX6_readPort_74 dX6_readPort_75 rfl dX6_readPort_78 rfl) dX6_readPort_79)))))
noncomputable def DX6_readPort : Fr → St → Option (Int32 × St) := MZ (fun f => (sR (sR (sR fr0 0 (gR f 0)) 1 (gR f 1)) 2 (gR f 2))) BX6_readPort
theorem kX6_readPort : SND yX6_readPort cX6_readPort 3 (some .boolean) 7 [(0, 2), (1, 2), (2, 2)] cvoI DX6_readPort := snd_Z (nw := 3) (by decide) rfl rfl (fun _ _ => rfl) sBX6_readPort
theorem dX6_readSlate_0 : decode cX6_readSlate 0 = .ok (.aload_n 1, 1) := by decide +kernel
theorem dX6_readSlate_1 : decode cX6_readSlate 1 = .ok (.invokevirtual 28, 3) := by decide +kernel
theorem dX6_readSlate_4 : decode cX6_readSlate 4 = .ok (.aload_n 2, 1) := by decide +kernel
theorem dX6_readSlate_5 : decode cX6_readSlate 5 = .ok (.getfield 94, 3) := by decide +kernel
theorem dX6_readSlate_8 : decode cX6_readSlate 8 = .ok (.istore_n 3, 1) := by decide +kernel
theorem dX6_readSlate_9 : decode cX6_readSlate 9 = .ok (.aload_n 2, 1) := by decide +kernel
theorem dX6_readSlate_10 : decode cX6_readSlate 10 = .ok (.getfield 162, 3) := by decide +kernel
theorem dX6_readSlate_13 : decode cX6_readSlate 13 = .ok (.iload_n 3, 1) := by decide +kernel
theorem dX6_readSlate_14 : decode cX6_readSlate 14 = .ok (.aload_n 0, 1) := by decide +kernel
theorem dX6_readSlate_15 : decode cX6_readSlate 15 = .ok (.aload_n 1, 1) := by decide +kernel
theorem dX6_readSlate_16 : decode cX6_readSlate 16 = .ok (.ldc 156, 2) := by decide +kernel
theorem dX6_readSlate_18 : decode cX6_readSlate 18 = .ok (.iconst 0, 1) := by decide +kernel
theorem dX6_readSlate_19 : decode cX6_readSlate 19 = .ok (.aload_n 2, 1) := by decide +kernel
theorem dX6_readSlate_20 : decode cX6_readSlate 20 = .ok (.getfield 66, 3) := by decide +kernel
theorem dX6_readSlate_23 : decode cX6_readSlate 23 = .ok (.iconst 1, 1) := by decide +kernel
theorem dX6_readSlate_24 : decode cX6_readSlate 24 = .ok (.isub, 1) := by decide +kernel
theorem dX6_readSlate_25 : decode cX6_readSlate 25 = .ok (.invokevirtual 117, 3) := by decide +kernel
theorem dX6_readSlate_28 : decode cX6_readSlate 28 = .ok (.invokestatic 136, 3) := by decide +kernel
theorem dX6_readSlate_31 : decode cX6_readSlate 31 = .ok (.iconst 0, 1) := by decide +kernel
theorem dX6_readSlate_32 : decode cX6_readSlate 32 = .ok (.istore 4, 2) := by decide +kernel
theorem dX6_readSlate_34 : decode cX6_readSlate 34 = .ok (.aload_n 0, 1) := by decide +kernel
theorem dX6_readSlate_35 : decode cX6_readSlate 35 = .ok (.getfield 15, 3) := by decide +kernel
theorem dX6_readSlate_38 : decode cX6_readSlate 38 = .ok (.ifCond .ne 68, 3) := by decide +kernel
theorem dX6_readSlate_41 : decode cX6_readSlate 41 = .ok (.iload 4, 2) := by decide +kernel
theorem dX6_readSlate_43 : decode cX6_readSlate 43 = .ok (.bipush 6, 2) := by decide +kernel
theorem dX6_readSlate_45 : decode cX6_readSlate 45 = .ok (.if_icmp .gt 61, 3) := by decide +kernel
theorem dX6_readSlate_48 : decode cX6_readSlate 48 = .ok (.iload 4, 2) := by decide +kernel
theorem dX6_readSlate_50 : decode cX6_readSlate 50 = .ok (.ifCond .eq 12, 3) := by decide +kernel
theorem dX6_readSlate_53 : decode cX6_readSlate 53 = .ok (.aload_n 1, 1) := by decide +kernel
theorem dX6_readSlate_54 : decode cX6_readSlate 54 = .ok (.ldc 165, 2) := by decide +kernel
theorem dX6_readSlate_56 : decode cX6_readSlate 56 = .ok (.invokevirtual 62, 3) := by decide +kernel
theorem dX6_readSlate_59 : decode cX6_readSlate 59 = .ok (.ifCond .eq 47, 3) := by decide +kernel
theorem dX6_readSlate_62 : decode cX6_readSlate 62 = .ok (.aload_n 0, 1) := by decide +kernel
theorem dX6_readSlate_63 : decode cX6_readSlate 63 = .ok (.aload_n 1, 1) := by decide +kernel
theorem dX6_readSlate_64 : decode cX6_readSlate 64 = .ok (.iload 4, 2) := by decide +kernel
theorem dX6_readSlate_66 : decode cX6_readSlate 66 = .ok (.bipush 6, 2) := by decide +kernel
theorem dX6_readSlate_68 : decode cX6_readSlate 68 = .ok (.invokevirtual 69, 3) := by decide +kernel
theorem dX6_readSlate_71 : decode cX6_readSlate 71 = .ok (.ifCond .ne 5, 3) := by decide +kernel
theorem dX6_readSlate_74 : decode cX6_readSlate 74 = .ok (.iconst 0, 1) := by decide +kernel
theorem dX6_readSlate_75 : decode cX6_readSlate 75 = .ok (.ireturn, 1) := by decide +kernel
theorem dX6_readSlate_76 : decode cX6_readSlate 76 = .ok (.aload_n 2, 1) := by decide +kernel
theorem dX6_readSlate_77 : decode cX6_readSlate 77 = .ok (.getfield 167, 3) := by decide +kernel
theorem dX6_readSlate_80 : decode cX6_readSlate 80 = .ok (.iload_n 3, 1) := by decide +kernel
theorem dX6_readSlate_81 : decode cX6_readSlate 81 = .ok (.bipush 6, 2) := by decide +kernel
theorem dX6_readSlate_83 : decode cX6_readSlate 83 = .ok (.imul, 1) := by decide +kernel
theorem dX6_readSlate_84 : decode cX6_readSlate 84 = .ok (.iload 4, 2) := by decide +kernel
theorem dX6_readSlate_86 : decode cX6_readSlate 86 = .ok (.iadd, 1) := by decide +kernel
theorem dX6_readSlate_87 : decode cX6_readSlate 87 = .ok (.aload_n 0, 1) := by decide +kernel
theorem dX6_readSlate_88 : decode cX6_readSlate 88 = .ok (.aload_n 1, 1) := by decide +kernel
theorem dX6_readSlate_89 : decode cX6_readSlate 89 = .ok (.ldc 165, 2) := by decide +kernel
theorem dX6_readSlate_91 : decode cX6_readSlate 91 = .ok (.iconst 1, 1) := by decide +kernel
theorem dX6_readSlate_92 : decode cX6_readSlate 92 = .ok (.bipush 30, 2) := by decide +kernel
theorem dX6_readSlate_94 : decode cX6_readSlate 94 = .ok (.invokevirtual 117, 3) := by decide +kernel
theorem dX6_readSlate_97 : decode cX6_readSlate 97 = .ok (.invokestatic 136, 3) := by decide +kernel
theorem dX6_readSlate_100 : decode cX6_readSlate 100 = .ok (.iinc 4 1, 3) := by decide +kernel
theorem dX6_readSlate_103 : decode cX6_readSlate 103 = .ok (.goto (-69), 3) := by decide +kernel
theorem dX6_readSlate_106 : decode cX6_readSlate 106 = .ok (.aload_n 2, 1) := by decide +kernel
theorem dX6_readSlate_107 : decode cX6_readSlate 107 = .ok (.getfield 170, 3) := by decide +kernel
theorem dX6_readSlate_110 : decode cX6_readSlate 110 = .ok (.iload_n 3, 1) := by decide +kernel
theorem dX6_readSlate_111 : decode cX6_readSlate 111 = .ok (.iload 4, 2) := by decide +kernel
theorem dX6_readSlate_113 : decode cX6_readSlate 113 = .ok (.invokestatic 136, 3) := by decide +kernel
theorem dX6_readSlate_116 : decode cX6_readSlate 116 = .ok (.aload_n 2, 1) := by decide +kernel
theorem dX6_readSlate_117 : decode cX6_readSlate 117 = .ok (.dup, 1) := by decide +kernel
theorem dX6_readSlate_118 : decode cX6_readSlate 118 = .ok (.getfield 94, 3) := by decide +kernel
theorem dX6_readSlate_121 : decode cX6_readSlate 121 = .ok (.iconst 1, 1) := by decide +kernel
theorem dX6_readSlate_122 : decode cX6_readSlate 122 = .ok (.iadd, 1) := by decide +kernel
theorem dX6_readSlate_123 : decode cX6_readSlate 123 = .ok (.putfield 94, 3) := by decide +kernel
theorem dX6_readSlate_126 : decode cX6_readSlate 126 = .ok (.aload_n 0, 1) := by decide +kernel
theorem dX6_readSlate_127 : decode cX6_readSlate 127 = .ok (.getfield 15, 3) := by decide +kernel
theorem dX6_readSlate_130 : decode cX6_readSlate 130 = .ok (.ifCond .ne 7, 3) := by decide +kernel
theorem dX6_readSlate_133 : decode cX6_readSlate 133 = .ok (.iconst 1, 1) := by decide +kernel
theorem dX6_readSlate_134 : decode cX6_readSlate 134 = .ok (.goto 4, 3) := by decide +kernel
theorem dX6_readSlate_137 : decode cX6_readSlate 137 = .ok (.iconst 0, 1) := by decide +kernel
theorem dX6_readSlate_138 : decode cX6_readSlate 138 = .ok (.ireturn, 1) := by decide +kernel
theorem mokX6_readSlate : MOK yX6_readSlate cX6_readSlate 5 (some .boolean) 2 := ⟨w3_179, w1_3, ⟨by decide, by decide⟩, by decide +kernel, by decide⟩
abbrev miX6_readSlate : MI := (yX6_readSlate.cls, cX6_readSlate, 5, 7, false)
noncomputable def LX6_readSlate_1 : Sm Int32 := dLoop (fun f => (sI (sI (sR (sR (sR fr0 0 (gR f 0)) 1 (gR f 1)) 2 (gR f 2)) 3 (gI f 3)) 4 (gI f 4))) (dAnd (dAnd (dCZ q_eq (dGI 6 0 (vR 0))) (dCI r_le (vI 4) (cI 6))) (dOr (dCZ q_eq (vI 4)) (dCZ q_ne (dCallV 9 DX9_isAt (aR (aR aN 0 (vR 1)) 1 (cR 14)))))) (dSeq (dIf (dNot (dCZ q_ne (dCallV 6 DX6_hasRoom (aI (aI (aR (aR aN 0 (vR 0)) 1 (vR 1)) 2 (vI 4)) 3 (cI 6))))) (dRet (cI 0)) dSkip) (dSeq (dDo (dCall DX11_put (aI (aI (aR aN 0 (dGR 5 15 (vR 2))) 1 (d2 o_iadd (d2 o_imul (vI 3) (cI 6)) (vI 4))) 2 (dCallV 6 DX6_readAmount (aI (aI (aR (aR (aR aN 0 (vR 0)) 1 (vR 1)) 2 (cR 14)) 3 (cI 1)) 4 (cI 30)))))) (dInc 4 1))) dSkip
theorem sLX6_readSlate_1 {ΓL : Gm} {PB PK : List Nat} : SS (cvoI, .ireturn) miX6_readSlate ΓL PB PK [(0, 2), (1, 2), (2, 2), (3, 0), (4, 0)] [(0, 2), (1, 2), (2, 2), (3, 0), (4, 0)] 34 [106] LX6_readSlate_1 := t_loop (pT := 62) (pF := 106) (pu := 34) (PB' := []) (PK' := []) (XB := [103]) (XU := [34]) (fun _ _ => rfl) rfl (c_and (p1 := 48) (pT := 62) (pF := 106) (c_and (p1 := 41) (pT := 48) (pF := 106) (c_eq_ZF (pF := 106) (s_getI ck6 0 (by decide) rfl (s_aload_n dX6_readSlate_34 rfl rfl) dX6_readSlate_35 w1_66) dX6_readSlate_38 rfl) (c_le_F (pF := 106) (s_iload dX6_readSlate_41 rfl) (s_bipush dX6_readSlate_43 rfl) dX6_readSlate_45 rfl)) (c_or (p1 := 53) (pT := 62) (pF := 106) (c_eq_ZJ (pT := 62) (s_iload dX6_readSlate_48 rfl) dX6_readSlate_50 rfl) (c_ne_ZF (pF := 106) (s_of_xI (x_callV (ts := [(0, 2), (1, 2)]) ck9 rfl kX9_isAt mokX9_isAt w3_84 w3_85 rfl rfl rfl rfl (a_R (ts := [(0, 2)]) 1 (a_R (ts := []) 0 a_nil (s_aload_n dX6_readSlate_53 rfl rfl) rfl) (s_ldcS 11 dX6_readSlate_54 (by decide) rfl rfl) rfl) dX6_readSlate_56 w3_83)) dX6_readSlate_59 rfl))) (t_sq (p1 := 76) (Γ' := [(0, 2), (1, 2), (2, 2), (3, 0), (4, 0)]) (t_if (pT := 74) (pF := 76) (X := [76]) (XA := []) (XB := [76]) (c_not (pT := 74) (pF := 76) (c_ne_ZJ (pT := 76) (s_of_xI (x_callV (ts := [(0, 2), (1, 2), (2, 0), (3, 0)]) ck6 rfl kX6_hasRoom mokX6_hasRoom w3_153 ps1_7 rfl rfl rfl rfl (a_I (ts := [(0, 2), (1, 2), (2, 0)]) 3 (a_I (ts := [(0, 2), (1, 2)]) 2 (a_R (ts := [(0, 2)]) 1 (a_R (ts := []) 0 a_nil (s_aload_n dX6_readSlate_62 rfl rfl) rfl) (s_aload_n dX6_readSlate_63 rfl rfl) rfl) (s_iload dX6_readSlate_64 rfl) rfl) (s_bipush dX6_readSlate_66 rfl) rfl) dX6_readSlate_68 w3_151)) dX6_readSlate_71 rfl)) (t_ret (cv := cvI) (fun _ _ => rfl) (s_iconst dX6_readSlate_74 rfl) dX6_readSlate_75) (t_skip (ld_in rfl) rfl) lda_nil (lda_cons (ld_in rfl) lda_nil)) (t_sq (p1 := 100) (Γ' := [(0, 2), (1, 2), (2, 2), (3, 0), (4, 0)]) (t_do (x_callN (ts := [(0, 2), (1, 0), (2, 0)]) kX11_put mokX11_put w3_161 rfl rfl rfl (a_I (ts := [(0, 2), (1, 0)]) 2 (a_I (ts := [(0, 2)]) 1 (a_R (ts := []) 0 a_nil (s_getR ck5 15 (by decide) rfl (s_aload_n dX6_readSlate_76 rfl rfl) dX6_readSlate_77 w1_196) rfl) (s_iadd (s_imul (s_iload_n dX6_readSlate_80 rfl rfl) (s_bipush dX6_readSlate_81 rfl) dX6_readSlate_83) (s_iload dX6_readSlate_84 rfl) dX6_readSlate_86) rfl) (s_of_xI (x_callV (ts := [(0, 2), (1, 2), (2, 2), (3, 0), (4, 0)]) ck6 rfl kX6_readAmount mokX6_readAmount w3_142 ps1_5 rfl rfl rfl rfl (a_I (ts := [(0, 2), (1, 2), (2, 2), (3, 0)]) 4 (a_I (ts := [(0, 2), (1, 2), (2, 2)]) 3 (a_R (ts := [(0, 2), (1, 2)]) 2 (a_R (ts := [(0, 2)]) 1 (a_R (ts := []) 0 a_nil (s_aload_n dX6_readSlate_87 rfl rfl) rfl) (s_aload_n dX6_readSlate_88 rfl rfl) rfl) (s_ldcS 11 dX6_readSlate_89 (by decide) rfl rfl) rfl) (s_iconst dX6_readSlate_91 rfl) rfl) (s_bipush dX6_readSlate_92 rfl) rfl) dX6_readSlate_94 w3_140)) rfl) dX6_readSlate_97 nb11) rfl) (t_iinc dX6_readSlate_100 rfl rfl rfl rfl))) (t_skip (ld_in rfl) rfl) (lda_cons (ld_goto (y := 34) dX6_readSlate_103 rfl (ld_in rfl)) lda_nil) lda_nil (lda_cons (ld_in rfl) lda_nil) (ld_in rfl) lda_nil
noncomputable def BX6_readSlate : Sm Int32 := (dSeq (dDo (dCallV 9 DX9_next (aR aN 0 (vR 1)))) (dSeq (dSetI 3 (dGI 5 7 (vR 2))) (dSeq (dDo (dCall DX11_put (aI (aI (aR aN 0 (dGR 5 13 (vR 2))) 1 (vI 3)) 2 (dCallV 6 DX6_readAmount (aI (aI (aR (aR (aR aN 0 (vR 0)) 1 (vR 1)) 2 (cR 11)) 3 (cI 0)) 4 (d2 o_isub (dGI 5 4 (vR 2)) (cI 1))))))) (dSeq (dSetI 4 (cI 0)) (dSeq LX6_readSlate_1 (dSeq (dDo (dCall DX11_put (aI (aI (aR aN 0 (dGR 5 14 (vR 2))) 1 (vI 3)) 2 (vI 4)))) (dSeq (dUF 5 7 o_iadd (vR 2) (cI 1)) (dRet (dB (dCZ q_eq (dGI 6 0 (vR 0))))))))))))
theorem sBX6_readSlate : SS (cvoI, .ireturn) miX6_readSlate [] [] [] [(0, 2), (1, 2), (2, 2)] [(0, 2), (1, 2), (2, 2)] 0 [] BX6_readSlate := (t_sq (p1 := 4) (Γ' := [(0, 2), (1, 2), (2, 2)]) (t_do (x_callV (ts := [(0, 2)]) ck9 rfl kX9_next mokX9_next w3_54 w3_55 rfl rfl rfl rfl (a_R (ts := []) 0 a_nil (s_aload_n dX6_readSlate_0 rfl rfl) rfl) dX6_readSlate_1 w3_53) rfl) (t_sq (p1 := 9) (Γ' := [(0, 2), (1, 2), (2, 2), (3, 0)]) (t_istore_n (s_getI ck5 7 (by decide) rfl (s_aload_n dX6_readSlate_4 rfl rfl) dX6_readSlate_5 w1_167) dX6_readSlate_8 rfl rfl rfl) (t_sq (p1 := 31) (Γ' := [(0, 2), (1, 2), (2, 2), (3, 0)]) (t_do (x_callN (ts := [(0, 2), (1, 0), (2, 0)]) kX11_put mokX11_put w3_161 rfl rfl rfl (a_I (ts := [(0, 2), (1, 0)]) 2 (a_I (ts := [(0, 2)]) 1 (a_R (ts := []) 0 a_nil (s_getR ck5 13 (by decide) rfl (s_aload_n dX6_readSlate_9 rfl rfl) dX6_readSlate_10 w1_190) rfl) (s_iload_n dX6_readSlate_13 rfl rfl) rfl) (s_of_xI (x_callV (ts := [(0, 2), (1, 2), (2, 2), (3, 0), (4, 0)]) ck6 rfl kX6_readAmount mokX6_readAmount w3_142 ps1_5 rfl rfl rfl rfl (a_I (ts := [(0, 2), (1, 2), (2, 2), (3, 0)]) 4 (a_I (ts := [(0, 2), (1, 2), (2, 2)]) 3 (a_R (ts := [(0, 2), (1, 2)]) 2 (a_R (ts := [(0, 2)]) 1 (a_R (ts := []) 0 a_nil (s_aload_n dX6_readSlate_14 rfl rfl) rfl) (s_aload_n dX6_readSlate_15 rfl rfl) rfl) (s_ldcS 8 dX6_readSlate_16 (by decide) rfl rfl) rfl) (s_iconst dX6_readSlate_18 rfl) rfl) (s_isub (s_getI ck5 4 (by decide) rfl (s_aload_n dX6_readSlate_19 rfl rfl) dX6_readSlate_20 w1_151) (s_iconst dX6_readSlate_23 rfl) dX6_readSlate_24) rfl) dX6_readSlate_25 w3_140)) rfl) dX6_readSlate_28 nb11) rfl) (t_sq (p1 := 34) (Γ' := [(0, 2), (1, 2), (2, 2), (3, 0), (4, 0)]) (t_istore (s_iconst dX6_readSlate_31 rfl) dX6_readSlate_32 rfl rfl) (t_sq (p1 := 106) (Γ' := [(0, 2), (1, 2), (2, 2), (3, 0), (4, 0)]) (tn_to (Γ' := [(0, 2), (1, 2), (2, 2), (3, 0), (4, 0)]) (XA := [106]) sLX6_readSlate_1 (lda_cons (ld_in rfl) lda_nil) rfl) (t_sq (p1 := 116) (Γ' := [(0, 2), (1, 2), (2, 2), (3, 0), (4, 0)]) (t_do (x_callN (ts := [(0, 2), (1, 0), (2, 0)]) kX11_put mokX11_put w3_161 rfl rfl rfl (a_I (ts := [(0, 2), (1, 0)]) 2 (a_I (ts := [(0, 2)]) 1 (a_R (ts := []) 0 a_nil (s_getR ck5 14 (by decide) rfl (s_aload_n dX6_readSlate_106 rfl rfl) dX6_readSlate_107 w1_193) rfl) (s_iload_n dX6_readSlate_110 rfl rfl) rfl) (s_iload dX6_readSlate_111 rfl) rfl) dX6_readSlate_113 nb11) rfl) (t_sq (p1 := 126) (Γ' := [(0, 2), (1, 2), (2, 2), (3, 0), (4, 0)]) (t_UF ck5 7 (by decide) rfl (Or.inl rfl) (s_aload_n dX6_readSlate_116 rfl rfl) dX6_readSlate_117 dX6_readSlate_118 w1_167 (s_iconst dX6_readSlate_121 rfl) (fun _ _ _ _ => rulI fun a b K => lv_iadd a b dX6_readSlate_122 K) dX6_readSlate_123 w1_167 rfl) (t_ret (cv := cvI) (fun _ _ => rfl) (s_B (pT := 133) (pF := 137) (pe := 138) (c_eq_ZF (pF := 137) (s_getI ck6 0 (by decide) rfl (s_aload_n dX6_readSlate_126 rfl rfl) dX6_readSlate_127 w1_66) dX6_readSlate_130 rfl) dX6_readSlate_133 dX6_readSlate_134 rfl dX6_readSlate_137 rfl) dX6_readSlate_138))))))))
noncomputable def DX6_readSlate : Fr → St → Option (Int32 × St) := MZ (fun f => (sR (sR (sR fr0 0 (gR f 0)) 1 (gR f 1)) 2 (gR f 2))) BX6_readSlate
theorem kX6_readSlate : SND yX6_readSlate cX6_readSlate 5 (some .boolean) 7 [(0, 2), (1, 2), (2, 2)] cvoI DX6_readSlate := snd_Z (nw := 3) (by decide) rfl rfl (fun _ _ => rfl) sBX6_readSlate
theorem dX6_readWay_0 : decode cX6_readWay 0 = .ok (.aload_n 1, 1) := by decide +kernel
theorem dX6_readWay_1 : decode cX6_readWay 1 = .ok (.invokevirtual 28, 3) := by decide +kernel
theorem dX6_readWay_4 : decode cX6_readWay 4 = .ok (.aload_n 0, 1) := by decide +kernel
theorem dX6_readWay_5 : decode cX6_readWay 5 = .ok (.aload_n 1, 1) := by decide +kernel
theorem dX6_readWay_6 : decode cX6_readWay 6 = .ok (.iconst 0, 1) := by decide +kernel
theorem dX6_readWay_7 : decode cX6_readWay 7 = .ok (.aload_n 2, 1) := by decide +kernel
theorem dX6_readWay_8 : decode cX6_readWay 8 = .ok (.getfield 66, 3) := by decide +kernel
theorem dX6_readWay_11 : decode cX6_readWay 11 = .ok (.iconst 1, 1) := by decide +kernel
theorem dX6_readWay_12 : decode cX6_readWay 12 = .ok (.isub, 1) := by decide +kernel
theorem dX6_readWay_13 : decode cX6_readWay 13 = .ok (.invokevirtual 140, 3) := by decide +kernel
theorem dX6_readWay_16 : decode cX6_readWay 16 = .ok (.istore_n 3, 1) := by decide +kernel
theorem dX6_readWay_17 : decode cX6_readWay 17 = .ok (.aload_n 0, 1) := by decide +kernel
theorem dX6_readWay_18 : decode cX6_readWay 18 = .ok (.getfield 15, 3) := by decide +kernel
theorem dX6_readWay_21 : decode cX6_readWay 21 = .ok (.ifCond .eq 5, 3) := by decide +kernel
theorem dX6_readWay_24 : decode cX6_readWay 24 = .ok (.iconst 0, 1) := by decide +kernel
theorem dX6_readWay_25 : decode cX6_readWay 25 = .ok (.ireturn, 1) := by decide +kernel
theorem dX6_readWay_26 : decode cX6_readWay 26 = .ok (.aload_n 1, 1) := by decide +kernel
theorem dX6_readWay_27 : decode cX6_readWay 27 = .ok (.getfield 31, 3) := by decide +kernel
theorem dX6_readWay_30 : decode cX6_readWay 30 = .ok (.iconst 2, 1) := by decide +kernel
theorem dX6_readWay_31 : decode cX6_readWay 31 = .ok (.if_icmp .ne 18, 3) := by decide +kernel
theorem dX6_readWay_34 : decode cX6_readWay 34 = .ok (.aload_n 1, 1) := by decide +kernel
theorem dX6_readWay_35 : decode cX6_readWay 35 = .ok (.getfield 144, 3) := by decide +kernel
theorem dX6_readWay_38 : decode cX6_readWay 38 = .ok (.iload_n 3, 1) := by decide +kernel
theorem dX6_readWay_39 : decode cX6_readWay 39 = .ok (.if_icmp .ne 10, 3) := by decide +kernel
theorem dX6_readWay_42 : decode cX6_readWay 42 = .ok (.aload_n 0, 1) := by decide +kernel
theorem dX6_readWay_43 : decode cX6_readWay 43 = .ok (.aload_n 1, 1) := by decide +kernel
theorem dX6_readWay_44 : decode cX6_readWay 44 = .ok (.iconst 2, 1) := by decide +kernel
theorem dX6_readWay_45 : decode cX6_readWay 45 = .ok (.invokevirtual 105, 3) := by decide +kernel
theorem dX6_readWay_48 : decode cX6_readWay 48 = .ok (.ireturn, 1) := by decide +kernel
theorem dX6_readWay_49 : decode cX6_readWay 49 = .ok (.aload_n 2, 1) := by decide +kernel
theorem dX6_readWay_50 : decode cX6_readWay 50 = .ok (.getfield 147, 3) := by decide +kernel
theorem dX6_readWay_53 : decode cX6_readWay 53 = .ok (.aload_n 2, 1) := by decide +kernel
theorem dX6_readWay_54 : decode cX6_readWay 54 = .ok (.getfield 78, 3) := by decide +kernel
theorem dX6_readWay_57 : decode cX6_readWay 57 = .ok (.iload_n 3, 1) := by decide +kernel
theorem dX6_readWay_58 : decode cX6_readWay 58 = .ok (.invokestatic 136, 3) := by decide +kernel
theorem dX6_readWay_61 : decode cX6_readWay 61 = .ok (.aload_n 2, 1) := by decide +kernel
theorem dX6_readWay_62 : decode cX6_readWay 62 = .ok (.getfield 150, 3) := by decide +kernel
theorem dX6_readWay_65 : decode cX6_readWay 65 = .ok (.aload_n 2, 1) := by decide +kernel
theorem dX6_readWay_66 : decode cX6_readWay 66 = .ok (.getfield 78, 3) := by decide +kernel
theorem dX6_readWay_69 : decode cX6_readWay 69 = .ok (.aload_n 0, 1) := by decide +kernel
theorem dX6_readWay_70 : decode cX6_readWay 70 = .ok (.aload_n 1, 1) := by decide +kernel
theorem dX6_readWay_71 : decode cX6_readWay 71 = .ok (.iconst 0, 1) := by decide +kernel
theorem dX6_readWay_72 : decode cX6_readWay 72 = .ok (.aload_n 2, 1) := by decide +kernel
theorem dX6_readWay_73 : decode cX6_readWay 73 = .ok (.getfield 66, 3) := by decide +kernel
theorem dX6_readWay_76 : decode cX6_readWay 76 = .ok (.iconst 1, 1) := by decide +kernel
theorem dX6_readWay_77 : decode cX6_readWay 77 = .ok (.isub, 1) := by decide +kernel
theorem dX6_readWay_78 : decode cX6_readWay 78 = .ok (.invokevirtual 140, 3) := by decide +kernel
theorem dX6_readWay_81 : decode cX6_readWay 81 = .ok (.invokestatic 136, 3) := by decide +kernel
theorem dX6_readWay_84 : decode cX6_readWay 84 = .ok (.aload_n 2, 1) := by decide +kernel
theorem dX6_readWay_85 : decode cX6_readWay 85 = .ok (.dup, 1) := by decide +kernel
theorem dX6_readWay_86 : decode cX6_readWay 86 = .ok (.getfield 78, 3) := by decide +kernel
theorem dX6_readWay_89 : decode cX6_readWay 89 = .ok (.iconst 1, 1) := by decide +kernel
theorem dX6_readWay_90 : decode cX6_readWay 90 = .ok (.iadd, 1) := by decide +kernel
theorem dX6_readWay_91 : decode cX6_readWay 91 = .ok (.putfield 78, 3) := by decide +kernel
theorem dX6_readWay_94 : decode cX6_readWay 94 = .ok (.aload_n 0, 1) := by decide +kernel
theorem dX6_readWay_95 : decode cX6_readWay 95 = .ok (.getfield 15, 3) := by decide +kernel
theorem dX6_readWay_98 : decode cX6_readWay 98 = .ok (.ifCond .ne 7, 3) := by decide +kernel
theorem dX6_readWay_101 : decode cX6_readWay 101 = .ok (.iconst 1, 1) := by decide +kernel
theorem dX6_readWay_102 : decode cX6_readWay 102 = .ok (.goto 4, 3) := by decide +kernel
theorem dX6_readWay_105 : decode cX6_readWay 105 = .ok (.iconst 0, 1) := by decide +kernel
theorem dX6_readWay_106 : decode cX6_readWay 106 = .ok (.ireturn, 1) := by decide +kernel
theorem mokX6_readWay : MOK yX6_readWay cX6_readWay 4 (some .boolean) 2 := ⟨w3_167, w1_3, ⟨by decide, by decide⟩, by decide +kernel, by decide⟩
abbrev miX6_readWay : MI := (yX6_readWay.cls, cX6_readWay, 4, 4, false)
noncomputable def BX6_readWay : Sm Int32 := (dSeq (dDo (dCallV 9 DX9_next (aR aN 0 (vR 1)))) (dSeq (dSetI 3 (dCallV 6 DX6_readNumber (aI (aI (aR (aR aN 0 (vR 0)) 1 (vR 1)) 2 (cI 0)) 3 (d2 o_isub (dGI 5 4 (vR 2)) (cI 1))))) (dSeq (dIf (dCZ q_ne (dGI 6 0 (vR 0))) (dRet (cI 0)) dSkip) (dSeq (dIf (dAnd (dCI r_eq (dGI 9 2 (vR 1)) (cI 2)) (dCI r_eq (dGI 9 4 (vR 1)) (vI 3))) (dRet (dCallV 6 DX6_fail (aI (aR (aR aN 0 (vR 0)) 1 (vR 1)) 2 (cI 2)))) dSkip) (dSeq (dDo (dCall DX11_put (aI (aI (aR aN 0 (dGR 5 9 (vR 2))) 1 (dGI 5 5 (vR 2))) 2 (vI 3)))) (dSeq (dDo (dCall DX11_put (aI (aI (aR aN 0 (dGR 5 10 (vR 2))) 1 (dGI 5 5 (vR 2))) 2 (dCallV 6 DX6_readNumber (aI (aI (aR (aR aN 0 (vR 0)) 1 (vR 1)) 2 (cI 0)) 3 (d2 o_isub (dGI 5 4 (vR 2)) (cI 1))))))) (dSeq (dUF 5 5 o_iadd (vR 2) (cI 1)) (dRet (dB (dCZ q_eq (dGI 6 0 (vR 0))))))))))))
theorem sBX6_readWay : SS (cvoI, .ireturn) miX6_readWay [] [] [] [(0, 2), (1, 2), (2, 2)] [(0, 2), (1, 2), (2, 2)] 0 [] BX6_readWay := (t_sq (p1 := 4) (Γ' := [(0, 2), (1, 2), (2, 2)]) (t_do (x_callV (ts := [(0, 2)]) ck9 rfl kX9_next mokX9_next w3_54 w3_55 rfl rfl rfl rfl (a_R (ts := []) 0 a_nil (s_aload_n dX6_readWay_0 rfl rfl) rfl) dX6_readWay_1 w3_53) rfl) (t_sq (p1 := 17) (Γ' := [(0, 2), (1, 2), (2, 2), (3, 0)]) (t_istore_n (s_of_xI (x_callV (ts := [(0, 2), (1, 2), (2, 0), (3, 0)]) ck6 rfl kX6_readNumber mokX6_readNumber w3_146 ps1_6 rfl rfl rfl rfl (a_I (ts := [(0, 2), (1, 2), (2, 0)]) 3 (a_I (ts := [(0, 2), (1, 2)]) 2 (a_R (ts := [(0, 2)]) 1 (a_R (ts := []) 0 a_nil (s_aload_n dX6_readWay_4 rfl rfl) rfl) (s_aload_n dX6_readWay_5 rfl rfl) rfl) (s_iconst dX6_readWay_6 rfl) rfl) (s_isub (s_getI ck5 4 (by decide) rfl (s_aload_n dX6_readWay_7 rfl rfl) dX6_readWay_8 w1_151) (s_iconst dX6_readWay_11 rfl) dX6_readWay_12) rfl) dX6_readWay_13 w3_144)) dX6_readWay_16 rfl rfl rfl) (t_sq (p1 := 26) (Γ' := [(0, 2), (1, 2), (2, 2), (3, 0)]) (t_if (pT := 24) (pF := 26) (X := [26]) (XA := []) (XB := [26]) (c_ne_ZF (pF := 26) (s_getI ck6 0 (by decide) rfl (s_aload_n dX6_readWay_17 rfl rfl) dX6_readWay_18 w1_66) dX6_readWay_21 rfl) (t_ret (cv := cvI) (fun _ _ => rfl) (s_iconst dX6_readWay_24 rfl) dX6_readWay_25) (t_skip (ld_in rfl) rfl) lda_nil (lda_cons (ld_in rfl) lda_nil)) (t_sq (p1 := 49) (Γ' := [(0, 2), (1, 2), (2, 2), (3, 0)]) (t_if (pT := 42) (pF := 49) (X := [49]) (XA := []) (XB := [49]) (c_and (p1 := 34) (pT := 42) (pF := 49) (c_eq_F (pF := 49) (s_getI ck9 2 (by decide) rfl (s_aload_n dX6_readWay_26 rfl rfl) dX6_readWay_27 w1_39) (s_iconst dX6_readWay_30 rfl) dX6_readWay_31 rfl) (c_eq_F (pF := 49) (s_getI ck9 4 (by decide) rfl (s_aload_n dX6_readWay_34 rfl rfl) dX6_readWay_35 w1_44) (s_iload_n dX6_readWay_38 rfl rfl) dX6_readWay_39 rfl)) (t_ret (cv := cvI) (fun _ _ => rfl) (s_of_xI (x_callV (ts := [(0, 2), (1, 2), (2, 0)]) ck6 rfl kX6_fail mokX6_fail w3_137 ps1_4 rfl rfl rfl rfl (a_I (ts := [(0, 2), (1, 2)]) 2 (a_R (ts := [(0, 2)]) 1 (a_R (ts := []) 0 a_nil (s_aload_n dX6_readWay_42 rfl rfl) rfl) (s_aload_n dX6_readWay_43 rfl rfl) rfl) (s_iconst dX6_readWay_44 rfl) rfl) dX6_readWay_45 w3_135)) dX6_readWay_48) (t_skip (ld_in rfl) rfl) lda_nil (lda_cons (ld_in rfl) lda_nil)) (t_sq (p1 := 61) (Γ' := [(0, 2), (1, 2), (2, 2), (3, 0)]) (t_do (x_callN (ts := [(0, 2), (1, 0), (2, 0)]) kX11_put mokX11_put w3_161 rfl rfl rfl (a_I (ts := [(0, 2), (1, 0)]) 2 (a_I (ts := [(0, 2)]) 1 (a_R (ts := []) 0 a_nil (s_getR ck5 9 (by decide) rfl (s_aload_n dX6_readWay_49 rfl rfl) dX6_readWay_50 w1_175) rfl) (s_getI ck5 5 (by decide) rfl (s_aload_n dX6_readWay_53 rfl rfl) dX6_readWay_54 w1_159) rfl) (s_iload_n dX6_readWay_57 rfl rfl) rfl) dX6_readWay_58 nb11) rfl) (t_sq (p1 := 84) (Γ' := [(0, 2), (1, 2), (2, 2), (3, 0)]) (t_do (x_callN (ts := [(0, 2), (1, 0), (2, 0)]) kX11_put mokX11_put w3_161 rfl rfl rfl (a_I (ts := [(0, 2), (1, 0)]) 2 (a_I (ts := [(0, 2)]) 1 (a_R (ts := []) 0 a_nil (s_getR ck5 10 (by decide) rfl (s_aload_n dX6_readWay_61 rfl rfl) dX6_readWay_62 w1_178) rfl) (s_getI ck5 5 (by decide) rfl (s_aload_n dX6_readWay_65 rfl rfl) dX6_readWay_66 w1_159) rfl) (s_of_xI (x_callV (ts := [(0, 2), (1, 2), (2, 0), (3, 0)]) ck6 rfl kX6_readNumber mokX6_readNumber w3_146 ps1_6 rfl rfl rfl rfl (a_I (ts := [(0, 2), (1, 2), (2, 0)]) 3 (a_I (ts := [(0, 2), (1, 2)]) 2 (a_R (ts := [(0, 2)]) 1 (a_R (ts := []) 0 a_nil (s_aload_n dX6_readWay_69 rfl rfl) rfl) (s_aload_n dX6_readWay_70 rfl rfl) rfl) (s_iconst dX6_readWay_71 rfl) rfl) (s_isub (s_getI ck5 4 (by decide) rfl (s_aload_n dX6_readWay_72 rfl rfl) dX6_readWay_73 w1_151) (s_iconst dX6_readWay_76 rfl) dX6_readWay_77) rfl) dX6_readWay_78 w3_144)) rfl) dX6_readWay_81 nb11) rfl) (t_sq (p1 := 94) (Γ' := [(0, 2), (1, 2), (2, 2), (3, 0)]) (t_UF ck5 5 (by decide) rfl (Or.inl rfl) (s_aload_n dX6_readWay_84 rfl rfl) dX6_readWay_85 dX6_readWay_86 w1_159 (s_iconst dX6_readWay_89 rfl) (fun _ _ _ _ => rulI fun a b K => lv_iadd a b dX6_readWay_90 K) dX6_readWay_91 w1_159 rfl) (t_ret (cv := cvI) (fun _ _ => rfl) (s_B (pT := 101) (pF := 105) (pe := 106) (c_eq_ZF (pF := 105) (s_getI ck6 0 (by decide) rfl (s_aload_n dX6_readWay_94 rfl rfl) dX6_readWay_95 w1_66) dX6_readWay_98 rfl) dX6_readWay_101 dX6_readWay_102 rfl dX6_readWay_105 rfl) dX6_readWay_106))))))))
noncomputable def DX6_readWay : Fr → St → Option (Int32 × St) := MZ (fun f => (sR (sR (sR fr0 0 (gR f 0)) 1 (gR f 1)) 2 (gR f 2))) BX6_readWay
theorem kX6_readWay : SND yX6_readWay cX6_readWay 4 (some .boolean) 4 [(0, 2), (1, 2), (2, 2)] cvoI DX6_readWay := snd_Z (nw := 3) (by decide) rfl rfl (fun _ _ => rfl) sBX6_readWay
theorem dX6_readLine_0 : decode cX6_readLine 0 = .ok (.aload_n 2, 1) := by decide +kernel
theorem dX6_readLine_1 : decode cX6_readLine 1 = .ok (.getfield 42, 3) := by decide +kernel
theorem dX6_readLine_4 : decode cX6_readLine 4 = .ok (.ifCond .ne 10, 3) := by decide +kernel
theorem dX6_readLine_7 : decode cX6_readLine 7 = .ok (.aload_n 0, 1) := by decide +kernel
theorem dX6_readLine_8 : decode cX6_readLine 8 = .ok (.aload_n 1, 1) := by decide +kernel
theorem dX6_readLine_9 : decode cX6_readLine 9 = .ok (.aload_n 2, 1) := by decide +kernel
theorem dX6_readLine_10 : decode cX6_readLine 10 = .ok (.invokevirtual 57, 3) := by decide +kernel
theorem dX6_readLine_13 : decode cX6_readLine 13 = .ok (.ireturn, 1) := by decide +kernel
theorem dX6_readLine_14 : decode cX6_readLine 14 = .ok (.aload_n 1, 1) := by decide +kernel
theorem dX6_readLine_15 : decode cX6_readLine 15 = .ok (.ldc 60, 2) := by decide +kernel
theorem dX6_readLine_17 : decode cX6_readLine 17 = .ok (.invokevirtual 62, 3) := by decide +kernel
theorem dX6_readLine_20 : decode cX6_readLine 20 = .ok (.ifCond .eq 32, 3) := by decide +kernel
theorem dX6_readLine_23 : decode cX6_readLine 23 = .ok (.aload_n 0, 1) := by decide +kernel
theorem dX6_readLine_24 : decode cX6_readLine 24 = .ok (.aload_n 1, 1) := by decide +kernel
theorem dX6_readLine_25 : decode cX6_readLine 25 = .ok (.aload_n 2, 1) := by decide +kernel
theorem dX6_readLine_26 : decode cX6_readLine 26 = .ok (.getfield 66, 3) := by decide +kernel
theorem dX6_readLine_29 : decode cX6_readLine 29 = .ok (.bipush 8, 2) := by decide +kernel
theorem dX6_readLine_31 : decode cX6_readLine 31 = .ok (.invokevirtual 69, 3) := by decide +kernel
theorem dX6_readLine_34 : decode cX6_readLine 34 = .ok (.ifCond .eq 16, 3) := by decide +kernel
theorem dX6_readLine_37 : decode cX6_readLine 37 = .ok (.aload_n 0, 1) := by decide +kernel
theorem dX6_readLine_38 : decode cX6_readLine 38 = .ok (.aload_n 1, 1) := by decide +kernel
theorem dX6_readLine_39 : decode cX6_readLine 39 = .ok (.aload_n 2, 1) := by decide +kernel
theorem dX6_readLine_40 : decode cX6_readLine 40 = .ok (.invokevirtual 73, 3) := by decide +kernel
theorem dX6_readLine_43 : decode cX6_readLine 43 = .ok (.ifCond .eq 7, 3) := by decide +kernel
theorem dX6_readLine_46 : decode cX6_readLine 46 = .ok (.iconst 1, 1) := by decide +kernel
theorem dX6_readLine_47 : decode cX6_readLine 47 = .ok (.goto 4, 3) := by decide +kernel
theorem dX6_readLine_50 : decode cX6_readLine 50 = .ok (.iconst 0, 1) := by decide +kernel
theorem dX6_readLine_51 : decode cX6_readLine 51 = .ok (.ireturn, 1) := by decide +kernel
theorem dX6_readLine_52 : decode cX6_readLine 52 = .ok (.aload_n 1, 1) := by decide +kernel
theorem dX6_readLine_53 : decode cX6_readLine 53 = .ok (.ldc 76, 2) := by decide +kernel
theorem dX6_readLine_55 : decode cX6_readLine 55 = .ok (.invokevirtual 62, 3) := by decide +kernel
theorem dX6_readLine_58 : decode cX6_readLine 58 = .ok (.ifCond .eq 32, 3) := by decide +kernel
theorem dX6_readLine_61 : decode cX6_readLine 61 = .ok (.aload_n 0, 1) := by decide +kernel
theorem dX6_readLine_62 : decode cX6_readLine 62 = .ok (.aload_n 1, 1) := by decide +kernel
theorem dX6_readLine_63 : decode cX6_readLine 63 = .ok (.aload_n 2, 1) := by decide +kernel
theorem dX6_readLine_64 : decode cX6_readLine 64 = .ok (.getfield 78, 3) := by decide +kernel
theorem dX6_readLine_67 : decode cX6_readLine 67 = .ok (.bipush 12, 2) := by decide +kernel
theorem dX6_readLine_69 : decode cX6_readLine 69 = .ok (.invokevirtual 69, 3) := by decide +kernel
theorem dX6_readLine_72 : decode cX6_readLine 72 = .ok (.ifCond .eq 16, 3) := by decide +kernel
theorem dX6_readLine_75 : decode cX6_readLine 75 = .ok (.aload_n 0, 1) := by decide +kernel
theorem dX6_readLine_76 : decode cX6_readLine 76 = .ok (.aload_n 1, 1) := by decide +kernel
theorem dX6_readLine_77 : decode cX6_readLine 77 = .ok (.aload_n 2, 1) := by decide +kernel
theorem dX6_readLine_78 : decode cX6_readLine 78 = .ok (.invokevirtual 81, 3) := by decide +kernel
theorem dX6_readLine_81 : decode cX6_readLine 81 = .ok (.ifCond .eq 7, 3) := by decide +kernel
theorem dX6_readLine_84 : decode cX6_readLine 84 = .ok (.iconst 1, 1) := by decide +kernel
theorem dX6_readLine_85 : decode cX6_readLine 85 = .ok (.goto 4, 3) := by decide +kernel
theorem dX6_readLine_88 : decode cX6_readLine 88 = .ok (.iconst 0, 1) := by decide +kernel
theorem dX6_readLine_89 : decode cX6_readLine 89 = .ok (.ireturn, 1) := by decide +kernel
theorem dX6_readLine_90 : decode cX6_readLine 90 = .ok (.aload_n 1, 1) := by decide +kernel
theorem dX6_readLine_91 : decode cX6_readLine 91 = .ok (.ldc 84, 2) := by decide +kernel
theorem dX6_readLine_93 : decode cX6_readLine 93 = .ok (.invokevirtual 62, 3) := by decide +kernel
theorem dX6_readLine_96 : decode cX6_readLine 96 = .ok (.ifCond .eq 31, 3) := by decide +kernel
theorem dX6_readLine_99 : decode cX6_readLine 99 = .ok (.aload_n 0, 1) := by decide +kernel
theorem dX6_readLine_100 : decode cX6_readLine 100 = .ok (.aload_n 1, 1) := by decide +kernel
theorem dX6_readLine_101 : decode cX6_readLine 101 = .ok (.aload_n 2, 1) := by decide +kernel
theorem dX6_readLine_102 : decode cX6_readLine 102 = .ok (.getfield 86, 3) := by decide +kernel
theorem dX6_readLine_105 : decode cX6_readLine 105 = .ok (.iconst 5, 1) := by decide +kernel
theorem dX6_readLine_106 : decode cX6_readLine 106 = .ok (.invokevirtual 69, 3) := by decide +kernel
theorem dX6_readLine_109 : decode cX6_readLine 109 = .ok (.ifCond .eq 16, 3) := by decide +kernel
theorem dX6_readLine_112 : decode cX6_readLine 112 = .ok (.aload_n 0, 1) := by decide +kernel
theorem dX6_readLine_113 : decode cX6_readLine 113 = .ok (.aload_n 1, 1) := by decide +kernel
theorem dX6_readLine_114 : decode cX6_readLine 114 = .ok (.aload_n 2, 1) := by decide +kernel
theorem dX6_readLine_115 : decode cX6_readLine 115 = .ok (.invokevirtual 89, 3) := by decide +kernel
theorem dX6_readLine_118 : decode cX6_readLine 118 = .ok (.ifCond .eq 7, 3) := by decide +kernel
theorem dX6_readLine_121 : decode cX6_readLine 121 = .ok (.iconst 1, 1) := by decide +kernel
theorem dX6_readLine_122 : decode cX6_readLine 122 = .ok (.goto 4, 3) := by decide +kernel
theorem dX6_readLine_125 : decode cX6_readLine 125 = .ok (.iconst 0, 1) := by decide +kernel
theorem dX6_readLine_126 : decode cX6_readLine 126 = .ok (.ireturn, 1) := by decide +kernel
theorem dX6_readLine_127 : decode cX6_readLine 127 = .ok (.aload_n 1, 1) := by decide +kernel
theorem dX6_readLine_128 : decode cX6_readLine 128 = .ok (.ldc 92, 2) := by decide +kernel
theorem dX6_readLine_130 : decode cX6_readLine 130 = .ok (.invokevirtual 62, 3) := by decide +kernel
theorem dX6_readLine_133 : decode cX6_readLine 133 = .ok (.ifCond .eq 31, 3) := by decide +kernel
theorem dX6_readLine_136 : decode cX6_readLine 136 = .ok (.aload_n 0, 1) := by decide +kernel
theorem dX6_readLine_137 : decode cX6_readLine 137 = .ok (.aload_n 1, 1) := by decide +kernel
theorem dX6_readLine_138 : decode cX6_readLine 138 = .ok (.aload_n 2, 1) := by decide +kernel
theorem dX6_readLine_139 : decode cX6_readLine 139 = .ok (.getfield 94, 3) := by decide +kernel
theorem dX6_readLine_142 : decode cX6_readLine 142 = .ok (.iconst 3, 1) := by decide +kernel
theorem dX6_readLine_143 : decode cX6_readLine 143 = .ok (.invokevirtual 69, 3) := by decide +kernel
theorem dX6_readLine_146 : decode cX6_readLine 146 = .ok (.ifCond .eq 16, 3) := by decide +kernel
theorem dX6_readLine_149 : decode cX6_readLine 149 = .ok (.aload_n 0, 1) := by decide +kernel
theorem dX6_readLine_150 : decode cX6_readLine 150 = .ok (.aload_n 1, 1) := by decide +kernel
theorem dX6_readLine_151 : decode cX6_readLine 151 = .ok (.aload_n 2, 1) := by decide +kernel
theorem dX6_readLine_152 : decode cX6_readLine 152 = .ok (.invokevirtual 97, 3) := by decide +kernel
theorem dX6_readLine_155 : decode cX6_readLine 155 = .ok (.ifCond .eq 7, 3) := by decide +kernel
theorem dX6_readLine_158 : decode cX6_readLine 158 = .ok (.iconst 1, 1) := by decide +kernel
theorem dX6_readLine_159 : decode cX6_readLine 159 = .ok (.goto 4, 3) := by decide +kernel
theorem dX6_readLine_162 : decode cX6_readLine 162 = .ok (.iconst 0, 1) := by decide +kernel
theorem dX6_readLine_163 : decode cX6_readLine 163 = .ok (.ireturn, 1) := by decide +kernel
theorem dX6_readLine_164 : decode cX6_readLine 164 = .ok (.aload_n 1, 1) := by decide +kernel
theorem dX6_readLine_165 : decode cX6_readLine 165 = .ok (.ldc 100, 2) := by decide +kernel
theorem dX6_readLine_167 : decode cX6_readLine 167 = .ok (.invokevirtual 62, 3) := by decide +kernel
theorem dX6_readLine_170 : decode cX6_readLine 170 = .ok (.ifCond .eq 35, 3) := by decide +kernel
theorem dX6_readLine_173 : decode cX6_readLine 173 = .ok (.aload_n 0, 1) := by decide +kernel
theorem dX6_readLine_174 : decode cX6_readLine 174 = .ok (.aload_n 1, 1) := by decide +kernel
theorem dX6_readLine_175 : decode cX6_readLine 175 = .ok (.aload_n 2, 1) := by decide +kernel
theorem dX6_readLine_176 : decode cX6_readLine 176 = .ok (.getfield 45, 3) := by decide +kernel
theorem dX6_readLine_179 : decode cX6_readLine 179 = .ok (.getfield 49, 3) := by decide +kernel
theorem dX6_readLine_182 : decode cX6_readLine 182 = .ok (.bipush 12, 2) := by decide +kernel
theorem dX6_readLine_184 : decode cX6_readLine 184 = .ok (.invokevirtual 69, 3) := by decide +kernel
theorem dX6_readLine_187 : decode cX6_readLine 187 = .ok (.ifCond .eq 16, 3) := by decide +kernel
theorem dX6_readLine_190 : decode cX6_readLine 190 = .ok (.aload_n 0, 1) := by decide +kernel
theorem dX6_readLine_191 : decode cX6_readLine 191 = .ok (.aload_n 1, 1) := by decide +kernel
theorem dX6_readLine_192 : decode cX6_readLine 192 = .ok (.aload_n 2, 1) := by decide +kernel
theorem dX6_readLine_193 : decode cX6_readLine 193 = .ok (.invokevirtual 102, 3) := by decide +kernel
theorem dX6_readLine_196 : decode cX6_readLine 196 = .ok (.ifCond .eq 7, 3) := by decide +kernel
theorem dX6_readLine_199 : decode cX6_readLine 199 = .ok (.iconst 1, 1) := by decide +kernel
theorem dX6_readLine_200 : decode cX6_readLine 200 = .ok (.goto 4, 3) := by decide +kernel
theorem dX6_readLine_203 : decode cX6_readLine 203 = .ok (.iconst 0, 1) := by decide +kernel
theorem dX6_readLine_204 : decode cX6_readLine 204 = .ok (.ireturn, 1) := by decide +kernel
theorem dX6_readLine_205 : decode cX6_readLine 205 = .ok (.aload_n 0, 1) := by decide +kernel
theorem dX6_readLine_206 : decode cX6_readLine 206 = .ok (.aload_n 1, 1) := by decide +kernel
theorem dX6_readLine_207 : decode cX6_readLine 207 = .ok (.iconst 1, 1) := by decide +kernel
theorem dX6_readLine_208 : decode cX6_readLine 208 = .ok (.invokevirtual 105, 3) := by decide +kernel
theorem dX6_readLine_211 : decode cX6_readLine 211 = .ok (.ireturn, 1) := by decide +kernel
theorem mokX6_readLine : MOK yX6_readLine cX6_readLine 3 (some .boolean) 2 := ⟨w3_73, w1_3, ⟨by decide, by decide⟩, by decide +kernel, by decide⟩
abbrev miX6_readLine : MI := (yX6_readLine.cls, cX6_readLine, 3, 8, false)
noncomputable def BX6_readLine : Sm Int32 := (dSeq (dIf (dCZ q_eq (dGI 5 0 (vR 2))) (dRet (dCallV 6 DX6_readPort (aR (aR (aR aN 0 (vR 0)) 1 (vR 1)) 2 (vR 2)))) dSkip) (dSeq (dIf (dCZ q_ne (dCallV 9 DX9_isAt (aR (aR aN 0 (vR 1)) 1 (cR 7)))) (dRet (dB (dAnd (dCZ q_ne (dCallV 6 DX6_hasRoom (aI (aI (aR (aR aN 0 (vR 0)) 1 (vR 1)) 2 (dGI 5 4 (vR 2))) 3 (cI 8)))) (dCZ q_ne (dCallV 6 DX6_readHouse (aR (aR (aR aN 0 (vR 0)) 1 (vR 1)) 2 (vR 2))))))) dSkip) (dSeq (dIf (dCZ q_ne (dCallV 9 DX9_isAt (aR (aR aN 0 (vR 1)) 1 (cR 9)))) (dRet (dB (dAnd (dCZ q_ne (dCallV 6 DX6_hasRoom (aI (aI (aR (aR aN 0 (vR 0)) 1 (vR 1)) 2 (dGI 5 5 (vR 2))) 3 (cI 12)))) (dCZ q_ne (dCallV 6 DX6_readWay (aR (aR (aR aN 0 (vR 0)) 1 (vR 1)) 2 (vR 2))))))) dSkip) (dSeq (dIf (dCZ q_ne (dCallV 9 DX9_isAt (aR (aR aN 0 (vR 1)) 1 (cR 10)))) (dRet (dB (dAnd (dCZ q_ne (dCallV 6 DX6_hasRoom (aI (aI (aR (aR aN 0 (vR 0)) 1 (vR 1)) 2 (dGI 5 6 (vR 2))) 3 (cI 5)))) (dCZ q_ne (dCallV 6 DX6_readCarrier (aR (aR (aR aN 0 (vR 0)) 1 (vR 1)) 2 (vR 2))))))) dSkip) (dSeq (dIf (dCZ q_ne (dCallV 9 DX9_isAt (aR (aR aN 0 (vR 1)) 1 (cR 13)))) (dRet (dB (dAnd (dCZ q_ne (dCallV 6 DX6_hasRoom (aI (aI (aR (aR aN 0 (vR 0)) 1 (vR 1)) 2 (dGI 5 7 (vR 2))) 3 (cI 3)))) (dCZ q_ne (dCallV 6 DX6_readSlate (aR (aR (aR aN 0 (vR 0)) 1 (vR 1)) 2 (vR 2))))))) dSkip) (dSeq (dIf (dCZ q_ne (dCallV 9 DX9_isAt (aR (aR aN 0 (vR 1)) 1 (cR 15)))) (dRet (dB (dAnd (dCZ q_ne (dCallV 6 DX6_hasRoom (aI (aI (aR (aR aN 0 (vR 0)) 1 (vR 1)) 2 (dGI 1 1 (dGR 5 16 (vR 2)))) 3 (cI 12)))) (dCZ q_ne (dCallV 6 DX6_readCarry (aR (aR (aR aN 0 (vR 0)) 1 (vR 1)) 2 (vR 2))))))) dSkip) (dRet (dCallV 6 DX6_fail (aI (aR (aR aN 0 (vR 0)) 1 (vR 1)) 2 (cI 1))))))))))
theorem sBX6_readLine : SS (cvoI, .ireturn) miX6_readLine [] [] [] [(0, 2), (1, 2), (2, 2)] [(0, 2), (1, 2), (2, 2)] 0 [] BX6_readLine := (t_sq (p1 := 14) (Γ' := [(0, 2), (1, 2), (2, 2)]) (t_if (pT := 7) (pF := 14) (X := [14]) (XA := []) (XB := [14]) (c_eq_ZF (pF := 14) (s_getI ck5 0 (by decide) rfl (s_aload_n dX6_readLine_0 rfl rfl) dX6_readLine_1 w1_131) dX6_readLine_4 rfl) (t_ret (cv := cvI) (fun _ _ => rfl) (s_of_xI (x_callV (ts := [(0, 2), (1, 2), (2, 2)]) ck6 rfl kX6_readPort mokX6_readPort w3_76 ps1_2 rfl rfl rfl rfl (a_R (ts := [(0, 2), (1, 2)]) 2 (a_R (ts := [(0, 2)]) 1 (a_R (ts := []) 0 a_nil (s_aload_n dX6_readLine_7 rfl rfl) rfl) (s_aload_n dX6_readLine_8 rfl rfl) rfl) (s_aload_n dX6_readLine_9 rfl rfl) rfl) dX6_readLine_10 w3_74)) dX6_readLine_13) (t_skip (ld_in rfl) rfl) lda_nil (lda_cons (ld_in rfl) lda_nil)) (t_sq (p1 := 52) (Γ' := [(0, 2), (1, 2), (2, 2)]) (t_if (pT := 23) (pF := 52) (X := [52]) (XA := []) (XB := [52]) (c_ne_ZF (pF := 52) (s_of_xI (x_callV (ts := [(0, 2), (1, 2)]) ck9 rfl kX9_isAt mokX9_isAt w3_84 w3_85 rfl rfl rfl rfl (a_R (ts := [(0, 2)]) 1 (a_R (ts := []) 0 a_nil (s_aload_n dX6_readLine_14 rfl rfl) rfl) (s_ldcS 4 dX6_readLine_15 (by decide) rfl rfl) rfl) dX6_readLine_17 w3_83)) dX6_readLine_20 rfl) (t_ret (cv := cvI) (fun _ _ => rfl) (s_B (pT := 46) (pF := 50) (pe := 51) (c_and (p1 := 37) (pT := 46) (pF := 50) (c_ne_ZF (pF := 50) (s_of_xI (x_callV (ts := [(0, 2), (1, 2), (2, 0), (3, 0)]) ck6 rfl kX6_hasRoom mokX6_hasRoom w3_153 ps1_7 rfl rfl rfl rfl (a_I (ts := [(0, 2), (1, 2), (2, 0)]) 3 (a_I (ts := [(0, 2), (1, 2)]) 2 (a_R (ts := [(0, 2)]) 1 (a_R (ts := []) 0 a_nil (s_aload_n dX6_readLine_23 rfl rfl) rfl) (s_aload_n dX6_readLine_24 rfl rfl) rfl) (s_getI ck5 4 (by decide) rfl (s_aload_n dX6_readLine_25 rfl rfl) dX6_readLine_26 w1_151) rfl) (s_bipush dX6_readLine_29 rfl) rfl) dX6_readLine_31 w3_151)) dX6_readLine_34 rfl) (c_ne_ZF (pF := 50) (s_of_xI (x_callV (ts := [(0, 2), (1, 2), (2, 2)]) ck6 rfl kX6_readHouse mokX6_readHouse w3_157 ps1_8 rfl rfl rfl rfl (a_R (ts := [(0, 2), (1, 2)]) 2 (a_R (ts := [(0, 2)]) 1 (a_R (ts := []) 0 a_nil (s_aload_n dX6_readLine_37 rfl rfl) rfl) (s_aload_n dX6_readLine_38 rfl rfl) rfl) (s_aload_n dX6_readLine_39 rfl rfl) rfl) dX6_readLine_40 w3_155)) dX6_readLine_43 rfl)) dX6_readLine_46 dX6_readLine_47 rfl dX6_readLine_50 rfl) dX6_readLine_51) (t_skip (ld_in rfl) rfl) lda_nil (lda_cons (ld_in rfl) lda_nil)) (t_sq (p1 := 90) (Γ' := [(0, 2), (1, 2), (2, 2)]) (t_if (pT := 61) (pF := 90) (X := [90]) (XA := []) (XB := [90]) (c_ne_ZF (pF := 90) (s_of_xI (x_callV (ts := [(0, 2), (1, 2)]) ck9 rfl kX9_isAt mokX9_isAt w3_84 w3_85 rfl rfl rfl rfl (a_R (ts := [(0, 2)]) 1 (a_R (ts := []) 0 a_nil (s_aload_n dX6_readLine_52 rfl rfl) rfl) (s_ldcS 6 dX6_readLine_53 (by decide) rfl rfl) rfl) dX6_readLine_55 w3_83)) dX6_readLine_58 rfl) (t_ret (cv := cvI) (fun _ _ => rfl) (s_B (pT := 84) (pF := 88) (pe := 89) (c_and (p1 := 75) (pT := 84) (pF := 88) (c_ne_ZF (pF := 88) (s_of_xI (x_callV (ts := [(0, 2), (1, 2), (2, 0), (3, 0)]) ck6 rfl kX6_hasRoom mokX6_hasRoom w3_153 ps1_7 rfl rfl rfl rfl (a_I (ts := [(0, 2), (1, 2), (2, 0)]) 3 (a_I (ts := [(0, 2), (1, 2)]) 2 (a_R (ts := [(0, 2)]) 1 (a_R (ts := []) 0 a_nil (s_aload_n dX6_readLine_61 rfl rfl) rfl) (s_aload_n dX6_readLine_62 rfl rfl) rfl) (s_getI ck5 5 (by decide) rfl (s_aload_n dX6_readLine_63 rfl rfl) dX6_readLine_64 w1_159) rfl) (s_bipush dX6_readLine_67 rfl) rfl) dX6_readLine_69 w3_151)) dX6_readLine_72 rfl) (c_ne_ZF (pF := 88) (s_of_xI (x_callV (ts := [(0, 2), (1, 2), (2, 2)]) ck6 rfl kX6_readWay mokX6_readWay w3_166 ps1_9 rfl rfl rfl rfl (a_R (ts := [(0, 2), (1, 2)]) 2 (a_R (ts := [(0, 2)]) 1 (a_R (ts := []) 0 a_nil (s_aload_n dX6_readLine_75 rfl rfl) rfl) (s_aload_n dX6_readLine_76 rfl rfl) rfl) (s_aload_n dX6_readLine_77 rfl rfl) rfl) dX6_readLine_78 w3_164)) dX6_readLine_81 rfl)) dX6_readLine_84 dX6_readLine_85 rfl dX6_readLine_88 rfl) dX6_readLine_89) (t_skip (ld_in rfl) rfl) lda_nil (lda_cons (ld_in rfl) lda_nil)) (t_sq (p1 := 127) (Γ' := [(0, 2), (1, 2), (2, 2)]) (t_if (pT := 99) (pF := 127) (X := [127]) (XA := []) (XB := [127]) (c_ne_ZF (pF := 127) (s_of_xI (x_callV (ts := [(0, 2), (1, 2)]) ck9 rfl kX9_isAt mokX9_isAt w3_84 w3_85 rfl rfl rfl rfl (a_R (ts := [(0, 2)]) 1 (a_R (ts := []) 0 a_nil (s_aload_n dX6_readLine_90 rfl rfl) rfl) (s_ldcS 7 dX6_readLine_91 (by decide) rfl rfl) rfl) dX6_readLine_93 w3_83)) dX6_readLine_96 rfl) (t_ret (cv := cvI) (fun _ _ => rfl) (s_B (pT := 121) (pF := 125) (pe := 126) (c_and (p1 := 112) (pT := 121) (pF := 125) (c_ne_ZF (pF := 125) (s_of_xI (x_callV (ts := [(0, 2), (1, 2), (2, 0), (3, 0)]) ck6 rfl kX6_hasRoom mokX6_hasRoom w3_153 ps1_7 rfl rfl rfl rfl (a_I (ts := [(0, 2), (1, 2), (2, 0)]) 3 (a_I (ts := [(0, 2), (1, 2)]) 2 (a_R (ts := [(0, 2)]) 1 (a_R (ts := []) 0 a_nil (s_aload_n dX6_readLine_99 rfl rfl) rfl) (s_aload_n dX6_readLine_100 rfl rfl) rfl) (s_getI ck5 6 (by decide) rfl (s_aload_n dX6_readLine_101 rfl rfl) dX6_readLine_102 w1_163) rfl) (s_iconst dX6_readLine_105 rfl) rfl) dX6_readLine_106 w3_151)) dX6_readLine_109 rfl) (c_ne_ZF (pF := 125) (s_of_xI (x_callV (ts := [(0, 2), (1, 2), (2, 2)]) ck6 rfl kX6_readCarrier mokX6_readCarrier w3_171 ps1_10 rfl rfl rfl rfl (a_R (ts := [(0, 2), (1, 2)]) 2 (a_R (ts := [(0, 2)]) 1 (a_R (ts := []) 0 a_nil (s_aload_n dX6_readLine_112 rfl rfl) rfl) (s_aload_n dX6_readLine_113 rfl rfl) rfl) (s_aload_n dX6_readLine_114 rfl rfl) rfl) dX6_readLine_115 w3_169)) dX6_readLine_118 rfl)) dX6_readLine_121 dX6_readLine_122 rfl dX6_readLine_125 rfl) dX6_readLine_126) (t_skip (ld_in rfl) rfl) lda_nil (lda_cons (ld_in rfl) lda_nil)) (t_sq (p1 := 164) (Γ' := [(0, 2), (1, 2), (2, 2)]) (t_if (pT := 136) (pF := 164) (X := [164]) (XA := []) (XB := [164]) (c_ne_ZF (pF := 164) (s_of_xI (x_callV (ts := [(0, 2), (1, 2)]) ck9 rfl kX9_isAt mokX9_isAt w3_84 w3_85 rfl rfl rfl rfl (a_R (ts := [(0, 2)]) 1 (a_R (ts := []) 0 a_nil (s_aload_n dX6_readLine_127 rfl rfl) rfl) (s_ldcS 10 dX6_readLine_128 (by decide) rfl rfl) rfl) dX6_readLine_130 w3_83)) dX6_readLine_133 rfl) (t_ret (cv := cvI) (fun _ _ => rfl) (s_B (pT := 158) (pF := 162) (pe := 163) (c_and (p1 := 149) (pT := 158) (pF := 162) (c_ne_ZF (pF := 162) (s_of_xI (x_callV (ts := [(0, 2), (1, 2), (2, 0), (3, 0)]) ck6 rfl kX6_hasRoom mokX6_hasRoom w3_153 ps1_7 rfl rfl rfl rfl (a_I (ts := [(0, 2), (1, 2), (2, 0)]) 3 (a_I (ts := [(0, 2), (1, 2)]) 2 (a_R (ts := [(0, 2)]) 1 (a_R (ts := []) 0 a_nil (s_aload_n dX6_readLine_136 rfl rfl) rfl) (s_aload_n dX6_readLine_137 rfl rfl) rfl) (s_getI ck5 7 (by decide) rfl (s_aload_n dX6_readLine_138 rfl rfl) dX6_readLine_139 w1_167) rfl) (s_iconst dX6_readLine_142 rfl) rfl) dX6_readLine_143 w3_151)) dX6_readLine_146 rfl) (c_ne_ZF (pF := 162) (s_of_xI (x_callV (ts := [(0, 2), (1, 2), (2, 2)]) ck6 rfl kX6_readSlate mokX6_readSlate w3_178 ps1_11 rfl rfl rfl rfl (a_R (ts := [(0, 2), (1, 2)]) 2 (a_R (ts := [(0, 2)]) 1 (a_R (ts := []) 0 a_nil (s_aload_n dX6_readLine_149 rfl rfl) rfl) (s_aload_n dX6_readLine_150 rfl rfl) rfl) (s_aload_n dX6_readLine_151 rfl rfl) rfl) dX6_readLine_152 w3_176)) dX6_readLine_155 rfl)) dX6_readLine_158 dX6_readLine_159 rfl dX6_readLine_162 rfl) dX6_readLine_163) (t_skip (ld_in rfl) rfl) lda_nil (lda_cons (ld_in rfl) lda_nil)) (t_sq (p1 := 205) (Γ' := [(0, 2), (1, 2), (2, 2)]) (t_if (pT := 173) (pF := 205) (X := [205]) (XA := []) (XB := [205]) (c_ne_ZF (pF := 205) (s_of_xI (x_callV (ts := [(0, 2), (1, 2)]) ck9 rfl kX9_isAt mokX9_isAt w3_84 w3_85 rfl rfl rfl rfl (a_R (ts := [(0, 2)]) 1 (a_R (ts := []) 0 a_nil (s_aload_n dX6_readLine_164 rfl rfl) rfl) (s_ldcS 12 dX6_readLine_165 (by decide) rfl rfl) rfl) dX6_readLine_167 w3_83)) dX6_readLine_170 rfl) (t_ret (cv := cvI) (fun _ _ => rfl) (s_B (pT := 199) (pF := 203) (pe := 204) (c_and (p1 := 190) (pT := 199) (pF := 203) (c_ne_ZF (pF := 203) (s_of_xI (x_callV (ts := [(0, 2), (1, 2), (2, 0), (3, 0)]) ck6 rfl kX6_hasRoom mokX6_hasRoom w3_153 ps1_7 rfl rfl rfl rfl (a_I (ts := [(0, 2), (1, 2), (2, 0)]) 3 (a_I (ts := [(0, 2), (1, 2)]) 2 (a_R (ts := [(0, 2)]) 1 (a_R (ts := []) 0 a_nil (s_aload_n dX6_readLine_173 rfl rfl) rfl) (s_aload_n dX6_readLine_174 rfl rfl) rfl) (s_getI ck1 1 (by decide) rfl (s_getR ck5 16 (by decide) rfl (s_aload_n dX6_readLine_175 rfl rfl) dX6_readLine_176 w1_198) dX6_readLine_179 w1_91) rfl) (s_bipush dX6_readLine_182 rfl) rfl) dX6_readLine_184 w3_151)) dX6_readLine_187 rfl) (c_ne_ZF (pF := 203) (s_of_xI (x_callV (ts := [(0, 2), (1, 2), (2, 2)]) ck6 rfl kX6_readCarry mokX6_readCarry w3_184 ps1_12 rfl rfl rfl rfl (a_R (ts := [(0, 2), (1, 2)]) 2 (a_R (ts := [(0, 2)]) 1 (a_R (ts := []) 0 a_nil (s_aload_n dX6_readLine_190 rfl rfl) rfl) (s_aload_n dX6_readLine_191 rfl rfl) rfl) (s_aload_n dX6_readLine_192 rfl rfl) rfl) dX6_readLine_193 w3_182)) dX6_readLine_196 rfl)) dX6_readLine_199 dX6_readLine_200 rfl dX6_readLine_203 rfl) dX6_readLine_204) (t_skip (ld_in rfl) rfl) lda_nil (lda_cons (ld_in rfl) lda_nil)) (t_ret (cv := cvI) (fun _ _ => rfl) (s_of_xI (x_callV (ts := [(0, 2), (1, 2), (2, 0)]) ck6 rfl kX6_fail mokX6_fail w3_137 ps1_4 rfl rfl rfl rfl (a_I (ts := [(0, 2), (1, 2)]) 2 (a_R (ts := [(0, 2)]) 1 (a_R (ts := []) 0 a_nil (s_aload_n dX6_readLine_205 rfl rfl) rfl) (s_aload_n dX6_readLine_206 rfl rfl) rfl) (s_iconst dX6_readLine_207 rfl) rfl) dX6_readLine_208 w3_135)) dX6_readLine_211)))))))
noncomputable def DX6_readLine : Fr → St → Option (Int32 × St) := MZ (fun f => (sR (sR (sR fr0 0 (gR f 0)) 1 (gR f 1)) 2 (gR f 2))) BX6_readLine
theorem kX6_readLine : SND yX6_readLine cX6_readLine 3 (some .boolean) 8 [(0, 2), (1, 2), (2, 2)] cvoI DX6_readLine := snd_Z (nw := 3) (by decide) rfl rfl (fun _ _ => rfl) sBX6_readLine
theorem dX6_readSign_0 : decode cX6_readSign 0 = .ok (.aload_n 1, 1) := by decide +kernel
theorem dX6_readSign_1 : decode cX6_readSign 1 = .ok (.getfield 31, 3) := by decide +kernel
theorem dX6_readSign_4 : decode cX6_readSign 4 = .ok (.iconst 3, 1) := by decide +kernel
theorem dX6_readSign_5 : decode cX6_readSign 5 = .ok (.if_icmp .eq 10, 3) := by decide +kernel
theorem dX6_readSign_8 : decode cX6_readSign 8 = .ok (.aload_n 0, 1) := by decide +kernel
theorem dX6_readSign_9 : decode cX6_readSign 9 = .ok (.aload_n 1, 1) := by decide +kernel
theorem dX6_readSign_10 : decode cX6_readSign 10 = .ok (.iconst 1, 1) := by decide +kernel
theorem dX6_readSign_11 : decode cX6_readSign 11 = .ok (.invokevirtual 105, 3) := by decide +kernel
theorem dX6_readSign_14 : decode cX6_readSign 14 = .ok (.ireturn, 1) := by decide +kernel
theorem dX6_readSign_15 : decode cX6_readSign 15 = .ok (.aload_n 1, 1) := by decide +kernel
theorem dX6_readSign_16 : decode cX6_readSign 16 = .ok (.invokevirtual 28, 3) := by decide +kernel
theorem dX6_readSign_19 : decode cX6_readSign 19 = .ok (.iconst 1, 1) := by decide +kernel
theorem dX6_readSign_20 : decode cX6_readSign 20 = .ok (.ireturn, 1) := by decide +kernel
theorem mokX6_readSign : MOK yX6_readSign cX6_readSign 2 (some .boolean) 1 := ⟨w3_195, w1_3, ⟨by decide, by decide⟩, by decide +kernel, by decide⟩
abbrev miX6_readSign : MI := (yX6_readSign.cls, cX6_readSign, 2, 3, false)
noncomputable def BX6_readSign : Sm Int32 := (dSeq (dIf (dCI r_ne (dGI 9 2 (vR 1)) (cI 3)) (dRet (dCallV 6 DX6_fail (aI (aR (aR aN 0 (vR 0)) 1 (vR 1)) 2 (cI 1)))) dSkip) (dSeq (dDo (dCallV 9 DX9_next (aR aN 0 (vR 1)))) (dRet (cI 1))))
theorem sBX6_readSign : SS (cvoI, .ireturn) miX6_readSign [] [] [] [(0, 2), (1, 2)] [(0, 2), (1, 2)] 0 [] BX6_readSign := (t_sq (p1 := 15) (Γ' := [(0, 2), (1, 2)]) (t_if (pT := 8) (pF := 15) (X := [15]) (XA := []) (XB := [15]) (c_ne_F (pF := 15) (s_getI ck9 2 (by decide) rfl (s_aload_n dX6_readSign_0 rfl rfl) dX6_readSign_1 w1_39) (s_iconst dX6_readSign_4 rfl) dX6_readSign_5 rfl) (t_ret (cv := cvI) (fun _ _ => rfl) (s_of_xI (x_callV (ts := [(0, 2), (1, 2), (2, 0)]) ck6 rfl kX6_fail mokX6_fail w3_137 ps1_4 rfl rfl rfl rfl (a_I (ts := [(0, 2), (1, 2)]) 2 (a_R (ts := [(0, 2)]) 1 (a_R (ts := []) 0 a_nil (s_aload_n dX6_readSign_8 rfl rfl) rfl) (s_aload_n dX6_readSign_9 rfl rfl) rfl) (s_iconst dX6_readSign_10 rfl) rfl) dX6_readSign_11 w3_135)) dX6_readSign_14) (t_skip (ld_in rfl) rfl) lda_nil (lda_cons (ld_in rfl) lda_nil)) (t_sq (p1 := 19) (Γ' := [(0, 2), (1, 2)]) (t_do (x_callV (ts := [(0, 2)]) ck9 rfl kX9_next mokX9_next w3_54 w3_55 rfl rfl rfl rfl (a_R (ts := []) 0 a_nil (s_aload_n dX6_readSign_15 rfl rfl) rfl) dX6_readSign_16 w3_53) rfl) (t_ret (cv := cvI) (fun _ _ => rfl) (s_iconst dX6_readSign_19 rfl) dX6_readSign_20)))
noncomputable def DX6_readSign : Fr → St → Option (Int32 × St) := MZ (fun f => (sR (sR fr0 0 (gR f 0)) 1 (gR f 1))) BX6_readSign
theorem kX6_readSign : SND yX6_readSign cX6_readSign 2 (some .boolean) 3 [(0, 2), (1, 2)] cvoI DX6_readSign := snd_Z (nw := 2) (by decide) rfl rfl (fun _ _ => rfl) sBX6_readSign
theorem dX9_rewind_0 : decode cX9_rewind 0 = .ok (.aload_n 0, 1) := by decide +kernel
theorem dX9_rewind_1 : decode cX9_rewind 1 = .ok (.iconst 0, 1) := by decide +kernel
theorem dX9_rewind_2 : decode cX9_rewind 2 = .ok (.putfield 19, 3) := by decide +kernel
theorem dX9_rewind_5 : decode cX9_rewind 5 = .ok (.return_, 1) := by decide +kernel
theorem mokX9_rewind : MOK yX9_rewind cX9_rewind 1 none 0 := ⟨w3_52, w1_2, ⟨by decide, by decide⟩, by decide +kernel, by decide⟩
abbrev miX9_rewind : MI := (yX9_rewind.cls, cX9_rewind, 1, 1, false)
noncomputable def BX9_rewind : Sm Unit := (dSeq (dP (fI 9 5) (vR 0) (cI 0)) dRet0)
theorem sBX9_rewind : SS (cvoV, .return_) miX9_rewind [] [] [] [(0, 2)] [(0, 2)] 0 [] BX9_rewind := (t_sq (p1 := 5) (Γ' := [(0, 2)]) (t_pI ck9 5 (by decide) rfl (Or.inl rfl) (s_aload_n dX9_rewind_0 rfl rfl) (s_iconst dX9_rewind_1 rfl) dX9_rewind_2 w1_45 rfl) (t_ret0 (fun _ _ => rfl) dX9_rewind_5))
noncomputable def DX9_rewind : Fr → St → Option (Unit × St) := M1 (fun f => (sR fr0 0 (gR f 0))) BX9_rewind
theorem kX9_rewind : SND yX9_rewind cX9_rewind 1 none 1 [(0, 2)] cvoV DX9_rewind := snd_V (nw := 1) (by decide) (fun z => by cases z) rfl rfl (fun _ _ => rfl) sBX9_rewind
theorem dX6_read_0 : decode cX6_read 0 = .ok (.aload_n 0, 1) := by decide +kernel
theorem dX6_read_1 : decode cX6_read 1 = .ok (.iconst 0, 1) := by decide +kernel
theorem dX6_read_2 : decode cX6_read 2 = .ok (.putfield 15, 3) := by decide +kernel
theorem dX6_read_5 : decode cX6_read 5 = .ok (.aload_n 0, 1) := by decide +kernel
theorem dX6_read_6 : decode cX6_read 6 = .ok (.iconst (-1), 1) := by decide +kernel
theorem dX6_read_7 : decode cX6_read 7 = .ok (.putfield 9, 3) := by decide +kernel
theorem dX6_read_10 : decode cX6_read 10 = .ok (.aload_n 2, 1) := by decide +kernel
theorem dX6_read_11 : decode cX6_read 11 = .ok (.invokevirtual 18, 3) := by decide +kernel
theorem dX6_read_14 : decode cX6_read 14 = .ok (.aload_n 1, 1) := by decide +kernel
theorem dX6_read_15 : decode cX6_read 15 = .ok (.invokevirtual 23, 3) := by decide +kernel
theorem dX6_read_18 : decode cX6_read 18 = .ok (.aload_n 1, 1) := by decide +kernel
theorem dX6_read_19 : decode cX6_read 19 = .ok (.invokevirtual 28, 3) := by decide +kernel
theorem dX6_read_22 : decode cX6_read 22 = .ok (.iconst 0, 1) := by decide +kernel
theorem dX6_read_23 : decode cX6_read 23 = .ok (.istore_n 3, 1) := by decide +kernel
theorem dX6_read_24 : decode cX6_read 24 = .ok (.iload_n 3, 1) := by decide +kernel
theorem dX6_read_25 : decode cX6_read 25 = .ok (.sipush 800, 3) := by decide +kernel
theorem dX6_read_28 : decode cX6_read 28 = .ok (.if_icmp .gt 45, 3) := by decide +kernel
theorem dX6_read_31 : decode cX6_read 31 = .ok (.aload_n 1, 1) := by decide +kernel
theorem dX6_read_32 : decode cX6_read 32 = .ok (.getfield 31, 3) := by decide +kernel
theorem dX6_read_35 : decode cX6_read 35 = .ok (.ifCond .eq 38, 3) := by decide +kernel
theorem dX6_read_38 : decode cX6_read 38 = .ok (.aload_n 0, 1) := by decide +kernel
theorem dX6_read_39 : decode cX6_read 39 = .ok (.aload_n 1, 1) := by decide +kernel
theorem dX6_read_40 : decode cX6_read 40 = .ok (.aload_n 2, 1) := by decide +kernel
theorem dX6_read_41 : decode cX6_read 41 = .ok (.invokevirtual 34, 3) := by decide +kernel
theorem dX6_read_44 : decode cX6_read 44 = .ok (.ifCond .eq 11, 3) := by decide +kernel
theorem dX6_read_47 : decode cX6_read 47 = .ok (.aload_n 0, 1) := by decide +kernel
theorem dX6_read_48 : decode cX6_read 48 = .ok (.aload_n 1, 1) := by decide +kernel
theorem dX6_read_49 : decode cX6_read 49 = .ok (.invokevirtual 38, 3) := by decide +kernel
theorem dX6_read_52 : decode cX6_read 52 = .ok (.ifCond .ne 5, 3) := by decide +kernel
theorem dX6_read_55 : decode cX6_read 55 = .ok (.iconst 0, 1) := by decide +kernel
theorem dX6_read_56 : decode cX6_read 56 = .ok (.ireturn, 1) := by decide +kernel
theorem dX6_read_57 : decode cX6_read 57 = .ok (.aload_n 2, 1) := by decide +kernel
theorem dX6_read_58 : decode cX6_read 58 = .ok (.dup, 1) := by decide +kernel
theorem dX6_read_59 : decode cX6_read 59 = .ok (.getfield 42, 3) := by decide +kernel
theorem dX6_read_62 : decode cX6_read 62 = .ok (.iconst 1, 1) := by decide +kernel
theorem dX6_read_63 : decode cX6_read 63 = .ok (.iadd, 1) := by decide +kernel
theorem dX6_read_64 : decode cX6_read 64 = .ok (.putfield 42, 3) := by decide +kernel
theorem dX6_read_67 : decode cX6_read 67 = .ok (.iinc 3 1, 3) := by decide +kernel
theorem dX6_read_70 : decode cX6_read 70 = .ok (.goto (-46), 3) := by decide +kernel
theorem dX6_read_73 : decode cX6_read 73 = .ok (.aload_n 2, 1) := by decide +kernel
theorem dX6_read_74 : decode cX6_read 74 = .ok (.getfield 45, 3) := by decide +kernel
theorem dX6_read_77 : decode cX6_read 77 = .ok (.aload_n 2, 1) := by decide +kernel
theorem dX6_read_78 : decode cX6_read 78 = .ok (.getfield 45, 3) := by decide +kernel
theorem dX6_read_81 : decode cX6_read 81 = .ok (.getfield 49, 3) := by decide +kernel
theorem dX6_read_84 : decode cX6_read 84 = .ok (.putfield 54, 3) := by decide +kernel
theorem dX6_read_87 : decode cX6_read 87 = .ok (.iconst 1, 1) := by decide +kernel
theorem dX6_read_88 : decode cX6_read 88 = .ok (.ireturn, 1) := by decide +kernel
theorem mokX6_read : MOK yX6_read cX6_read 4 (some .boolean) 2 := ⟨w3_40, w1_3, ⟨by decide, by decide⟩, by decide +kernel, by decide⟩
abbrev miX6_read : MI := (yX6_read.cls, cX6_read, 4, 9, false)
noncomputable def LX6_read_1 : Sm Int32 := dLoop (fun f => (sI (sR (sR (sR fr0 0 (gR f 0)) 1 (gR f 1)) 2 (gR f 2)) 3 (gI f 3))) (dAnd (dCI r_le (vI 3) (cI 800)) (dCZ q_ne (dGI 9 2 (vR 1)))) (dSeq (dIf (dOr (dNot (dCZ q_ne (dCallV 6 DX6_readLine (aR (aR (aR aN 0 (vR 0)) 1 (vR 1)) 2 (vR 2))))) (dNot (dCZ q_ne (dCallV 6 DX6_readSign (aR (aR aN 0 (vR 0)) 1 (vR 1)))))) (dRet (cI 0)) dSkip) (dUF 5 0 o_iadd (vR 2) (cI 1))) (dInc 3 1)
theorem sLX6_read_1 {ΓL : Gm} {PB PK : List Nat} : SS (cvoI, .ireturn) miX6_read ΓL PB PK [(0, 2), (1, 2), (2, 2), (3, 0)] [(0, 2), (1, 2), (2, 2), (3, 0)] 24 [73] LX6_read_1 := t_loop (pT := 38) (pF := 73) (pu := 67) (PB' := []) (PK' := []) (XB := [67]) (XU := [70]) (fun _ _ => rfl) rfl (c_and (p1 := 31) (pT := 38) (pF := 73) (c_le_F (pF := 73) (s_iload_n dX6_read_24 rfl rfl) (s_sipush dX6_read_25 rfl) dX6_read_28 rfl) (c_ne_ZF (pF := 73) (s_getI ck9 2 (by decide) rfl (s_aload_n dX6_read_31 rfl rfl) dX6_read_32 w1_39) dX6_read_35 rfl)) (t_sq (p1 := 57) (Γ' := [(0, 2), (1, 2), (2, 2), (3, 0)]) (t_if (pT := 55) (pF := 57) (X := [57]) (XA := []) (XB := [57]) (c_or (p1 := 47) (pT := 55) (pF := 57) (c_not (pT := 55) (pF := 47) (c_ne_ZF (pF := 55) (s_of_xI (x_callV (ts := [(0, 2), (1, 2), (2, 2)]) ck6 rfl kX6_readLine mokX6_readLine w3_72 ps1_1 rfl rfl rfl rfl (a_R (ts := [(0, 2), (1, 2)]) 2 (a_R (ts := [(0, 2)]) 1 (a_R (ts := []) 0 a_nil (s_aload_n dX6_read_38 rfl rfl) rfl) (s_aload_n dX6_read_39 rfl rfl) rfl) (s_aload_n dX6_read_40 rfl rfl) rfl) dX6_read_41 w3_70)) dX6_read_44 rfl)) (c_not (pT := 55) (pF := 57) (c_ne_ZJ (pT := 57) (s_of_xI (x_callV (ts := [(0, 2), (1, 2)]) ck6 rfl kX6_readSign mokX6_readSign w3_194 ps1_13 rfl rfl rfl rfl (a_R (ts := [(0, 2)]) 1 (a_R (ts := []) 0 a_nil (s_aload_n dX6_read_47 rfl rfl) rfl) (s_aload_n dX6_read_48 rfl rfl) rfl) dX6_read_49 w3_192)) dX6_read_52 rfl))) (t_ret (cv := cvI) (fun _ _ => rfl) (s_iconst dX6_read_55 rfl) dX6_read_56) (t_skip (ld_in rfl) rfl) lda_nil (lda_cons (ld_in rfl) lda_nil)) (t_UF ck5 0 (by decide) rfl (Or.inl rfl) (s_aload_n dX6_read_57 rfl rfl) dX6_read_58 dX6_read_59 w1_131 (s_iconst dX6_read_62 rfl) (fun _ _ _ _ => rulI fun a b K => lv_iadd a b dX6_read_63 K) dX6_read_64 w1_131 rfl)) (t_iinc dX6_read_67 rfl rfl rfl rfl) (lda_cons (ld_in rfl) lda_nil) lda_nil (lda_cons (ld_goto (y := 24) dX6_read_70 rfl (ld_in rfl)) lda_nil) (ld_in rfl) lda_nil
noncomputable def BX6_read : Sm Int32 := (dSeq (dP (fI 6 0) (vR 0) (cI 0)) (dSeq (dP (fI 6 1) (vR 0) (cI (-1))) (dSeq (dDo (dCallV 5 DX5_clear (aR aN 0 (vR 2)))) (dSeq (dDo (dCallV 9 DX9_rewind (aR aN 0 (vR 1)))) (dSeq (dDo (dCallV 9 DX9_next (aR aN 0 (vR 1)))) (dSeq (dSeq (dSetI 3 (cI 0)) LX6_read_1) (dSeq (dP (fI 1 0) (dGR 5 16 (vR 2)) (dGI 1 1 (dGR 5 16 (vR 2)))) (dRet (cI 1)))))))))
theorem sBX6_read : SS (cvoI, .ireturn) miX6_read [] [] [] [(0, 2), (1, 2), (2, 2)] [(0, 2), (1, 2), (2, 2)] 0 [] BX6_read := (t_sq (p1 := 5) (Γ' := [(0, 2), (1, 2), (2, 2)]) (t_pI ck6 0 (by decide) rfl (Or.inl rfl) (s_aload_n dX6_read_0 rfl rfl) (s_iconst dX6_read_1 rfl) dX6_read_2 w1_66 rfl) (t_sq (p1 := 10) (Γ' := [(0, 2), (1, 2), (2, 2)]) (t_pI ck6 1 (by decide) rfl (Or.inl rfl) (s_aload_n dX6_read_5 rfl rfl) (s_iconst dX6_read_6 rfl) dX6_read_7 w1_68 rfl) (t_sq (p1 := 14) (Γ' := [(0, 2), (1, 2), (2, 2)]) (t_do (x_callV (ts := [(0, 2)]) ck5 rfl kX5_clear mokX5_clear w3_42 w3_43 rfl rfl rfl rfl (a_R (ts := []) 0 a_nil (s_aload_n dX6_read_10 rfl rfl) rfl) dX6_read_11 w3_41) rfl) (t_sq (p1 := 18) (Γ' := [(0, 2), (1, 2), (2, 2)]) (t_do (x_callV (ts := [(0, 2)]) ck9 rfl kX9_rewind mokX9_rewind w3_50 w3_51 rfl rfl rfl rfl (a_R (ts := []) 0 a_nil (s_aload_n dX6_read_14 rfl rfl) rfl) dX6_read_15 w3_49) rfl) (t_sq (p1 := 22) (Γ' := [(0, 2), (1, 2), (2, 2)]) (t_do (x_callV (ts := [(0, 2)]) ck9 rfl kX9_next mokX9_next w3_54 w3_55 rfl rfl rfl rfl (a_R (ts := []) 0 a_nil (s_aload_n dX6_read_18 rfl rfl) rfl) dX6_read_19 w3_53) rfl) (t_sq (p1 := 73) (Γ' := [(0, 2), (1, 2), (2, 2)]) (t_sq (p1 := 24) (Γ' := [(0, 2), (1, 2), (2, 2), (3, 0)]) (t_istore_n (s_iconst dX6_read_22 rfl) dX6_read_23 rfl rfl rfl) (tn_to (Γ' := [(0, 2), (1, 2), (2, 2), (3, 0)]) (XA := [73]) sLX6_read_1 (lda_cons (ld_in rfl) lda_nil) rfl)) (t_sq (p1 := 87) (Γ' := [(0, 2), (1, 2), (2, 2)]) (t_pI ck1 0 (by decide) rfl (Or.inl rfl) (s_getR ck5 16 (by decide) rfl (s_aload_n dX6_read_73 rfl rfl) dX6_read_74 w1_198) (s_getI ck1 1 (by decide) rfl (s_getR ck5 16 (by decide) rfl (s_aload_n dX6_read_77 rfl rfl) dX6_read_78 w1_198) dX6_read_81 w1_91) dX6_read_84 w1_88 rfl) (t_ret (cv := cvI) (fun _ _ => rfl) (s_iconst dX6_read_87 rfl) dX6_read_88))))))))
noncomputable def DX6_read : Fr → St → Option (Int32 × St) := MZ (fun f => (sR (sR (sR fr0 0 (gR f 0)) 1 (gR f 1)) 2 (gR f 2))) BX6_read
theorem kX6_read : SND yX6_read cX6_read 4 (some .boolean) 9 [(0, 2), (1, 2), (2, 2)] cvoI DX6_read := snd_Z (nw := 3) (by decide) rfl rfl (fun _ _ => rfl) sBX6_read
theorem dX11_port_0 : decode cX11_port 0 = .ok (.aload_n 0, 1) := by decide +kernel
theorem dX11_port_1 : decode cX11_port 1 = .ok (.getfield 19, 3) := by decide +kernel
theorem dX11_port_4 : decode cX11_port 4 = .ok (.aload_n 0, 1) := by decide +kernel
theorem dX11_port_5 : decode cX11_port 5 = .ok (.getfield 12, 3) := by decide +kernel
theorem dX11_port_8 : decode cX11_port 8 = .ok (.aload_n 0, 1) := by decide +kernel
theorem dX11_port_9 : decode cX11_port 9 = .ok (.getfield 30, 3) := by decide +kernel
theorem dX11_port_12 : decode cX11_port 12 = .ok (.invokevirtual 97, 3) := by decide +kernel
theorem dX11_port_15 : decode cX11_port 15 = .ok (.istore_n 1, 1) := by decide +kernel
theorem dX11_port_16 : decode cX11_port 16 = .ok (.aload_n 0, 1) := by decide +kernel
theorem dX11_port_17 : decode cX11_port 17 = .ok (.getfield 12, 3) := by decide +kernel
theorem dX11_port_20 : decode cX11_port 20 = .ok (.iconst 0, 1) := by decide +kernel
theorem dX11_port_21 : decode cX11_port 21 = .ok (.putfield 89, 3) := by decide +kernel
theorem dX11_port_24 : decode cX11_port 24 = .ok (.iload_n 1, 1) := by decide +kernel
theorem dX11_port_25 : decode cX11_port 25 = .ok (.ifCond .ne 6, 3) := by decide +kernel
theorem dX11_port_28 : decode cX11_port 28 = .ok (.bipush (-4), 2) := by decide +kernel
theorem dX11_port_30 : decode cX11_port 30 = .ok (.ireturn, 1) := by decide +kernel
theorem dX11_port_31 : decode cX11_port 31 = .ok (.aload_n 0, 1) := by decide +kernel
theorem dX11_port_32 : decode cX11_port 32 = .ok (.getfield 26, 3) := by decide +kernel
theorem dX11_port_35 : decode cX11_port 35 = .ok (.aload_n 0, 1) := by decide +kernel
theorem dX11_port_36 : decode cX11_port 36 = .ok (.getfield 30, 3) := by decide +kernel
theorem dX11_port_39 : decode cX11_port 39 = .ok (.invokevirtual 101, 3) := by decide +kernel
theorem dX11_port_42 : decode cX11_port 42 = .ok (.aload_n 0, 1) := by decide +kernel
theorem dX11_port_43 : decode cX11_port 43 = .ok (.invokevirtual 105, 3) := by decide +kernel
theorem dX11_port_46 : decode cX11_port 46 = .ok (.aload_n 0, 1) := by decide +kernel
theorem dX11_port_47 : decode cX11_port 47 = .ok (.getfield 26, 3) := by decide +kernel
theorem dX11_port_50 : decode cX11_port 50 = .ok (.getfield 108, 3) := by decide +kernel
theorem dX11_port_53 : decode cX11_port 53 = .ok (.ireturn, 1) := by decide +kernel
theorem mokX11_port : MOK yX11_port cX11_port 2 (some .int) 0 := ⟨w3_36, w1_1, ⟨by decide, by decide⟩, by decide +kernel, by decide⟩
abbrev miX11_port : MI := (yX11_port.cls, cX11_port, 2, 10, false)
noncomputable def BX11_port : Sm Int32 := (dSeq (dSetI 1 (dCallV 6 DX6_read (aR (aR (aR aN 0 (dGR 11 1 (vR 0))) 1 (dGR 11 0 (vR 0))) 2 (dGR 11 3 (vR 0))))) (dSeq (dP (fI 9 1) (dGR 11 0 (vR 0)) (cI 0)) (dSeq (dIf (dNot (dCZ q_ne (vI 1))) (dRet (cI (-4))) dSkip) (dSeq (dDo (dCallV 5 DX5_copy (aR (aR aN 0 (dGR 11 2 (vR 0))) 1 (dGR 11 3 (vR 0))))) (dSeq (dDo (dCallV 11 DX11_makeStale (aR aN 0 (vR 0)))) (dRet (dGI 5 0 (dGR 11 2 (vR 0)))))))))
theorem sBX11_port : SS (cvoI, .ireturn) miX11_port [] [] [] [(0, 2)] [(0, 2)] 0 [] BX11_port := (t_sq (p1 := 16) (Γ' := [(0, 2), (1, 0)]) (t_istore_n (s_of_xI (x_callV (ts := [(0, 2), (1, 2), (2, 2)]) ck6 rfl kX6_read mokX6_read w3_38 w3_39 rfl rfl rfl rfl (a_R (ts := [(0, 2), (1, 2)]) 2 (a_R (ts := [(0, 2)]) 1 (a_R (ts := []) 0 a_nil (s_getR ck11 1 (by decide) rfl (s_aload_n dX11_port_0 rfl rfl) dX11_port_1 w2_219) rfl) (s_getR ck11 0 (by decide) rfl (s_aload_n dX11_port_4 rfl rfl) dX11_port_5 w2_218) rfl) (s_getR ck11 3 (by decide) rfl (s_aload_n dX11_port_8 rfl rfl) dX11_port_9 w2_221) rfl) dX11_port_12 w3_37)) dX11_port_15 rfl rfl rfl) (t_sq (p1 := 24) (Γ' := [(0, 2), (1, 0)]) (t_pI ck9 1 (by decide) rfl (Or.inl rfl) (s_getR ck11 0 (by decide) rfl (s_aload_n dX11_port_16 rfl rfl) dX11_port_17 w2_218) (s_iconst dX11_port_20 rfl) dX11_port_21 w1_37 rfl) (t_sq (p1 := 31) (Γ' := [(0, 2), (1, 0)]) (t_if (pT := 28) (pF := 31) (X := [31]) (XA := []) (XB := [31]) (c_not (pT := 28) (pF := 31) (c_ne_ZJ (pT := 31) (s_iload_n dX11_port_24 rfl rfl) dX11_port_25 rfl)) (t_ret (cv := cvI) (fun _ _ => rfl) (s_bipush dX11_port_28 rfl) dX11_port_30) (t_skip (ld_in rfl) rfl) lda_nil (lda_cons (ld_in rfl) lda_nil)) (t_sq (p1 := 42) (Γ' := [(0, 2), (1, 0)]) (t_do (x_callV (ts := [(0, 2), (1, 2)]) ck5 rfl kX5_copy mokX5_copy w3_197 w3_198 rfl rfl rfl rfl (a_R (ts := [(0, 2)]) 1 (a_R (ts := []) 0 a_nil (s_getR ck11 2 (by decide) rfl (s_aload_n dX11_port_31 rfl rfl) dX11_port_32 w2_220) rfl) (s_getR ck11 3 (by decide) rfl (s_aload_n dX11_port_35 rfl rfl) dX11_port_36 w2_221) rfl) dX11_port_39 w3_196) rfl) (t_sq (p1 := 46) (Γ' := [(0, 2), (1, 0)]) (t_do (x_callV (ts := [(0, 2)]) ck11 rfl kX11_makeStale mokX11_makeStale w3_210 ps1_14 rfl rfl rfl rfl (a_R (ts := []) 0 a_nil (s_aload_n dX11_port_42 rfl rfl) rfl) dX11_port_43 w3_208) rfl) (t_ret (cv := cvI) (fun _ _ => rfl) (s_getI ck5 0 (by decide) rfl (s_getR ck11 2 (by decide) rfl (s_aload_n dX11_port_46 rfl rfl) dX11_port_47 w2_220) dX11_port_50 w1_132) dX11_port_53))))))
noncomputable def DX11_port : Fr → St → Option (Int32 × St) := M1 (fun f => (sR fr0 0 (gR f 0))) BX11_port
theorem kX11_port : SND yX11_port cX11_port 2 (some .int) 10 [(0, 2)] cvoI DX11_port := snd_I (nw := 1) (by decide) rfl rfl (fun _ _ => rfl) sBX11_port
theorem dX11_fault_0 : decode cX11_fault 0 = .ok (.iload_n 1, 1) := by decide +kernel
theorem dX11_fault_1 : decode cX11_fault 1 = .ok (.ifCond .ne 11, 3) := by decide +kernel
theorem dX11_fault_4 : decode cX11_fault 4 = .ok (.aload_n 0, 1) := by decide +kernel
theorem dX11_fault_5 : decode cX11_fault 5 = .ok (.getfield 19, 3) := by decide +kernel
theorem dX11_fault_8 : decode cX11_fault 8 = .ok (.getfield 111, 3) := by decide +kernel
theorem dX11_fault_11 : decode cX11_fault 11 = .ok (.ireturn, 1) := by decide +kernel
theorem dX11_fault_12 : decode cX11_fault 12 = .ok (.iload_n 1, 1) := by decide +kernel
theorem dX11_fault_13 : decode cX11_fault 13 = .ok (.iconst 1, 1) := by decide +kernel
theorem dX11_fault_14 : decode cX11_fault 14 = .ok (.if_icmp .ne 13, 3) := by decide +kernel
theorem dX11_fault_17 : decode cX11_fault 17 = .ok (.aload_n 0, 1) := by decide +kernel
theorem dX11_fault_18 : decode cX11_fault 18 = .ok (.getfield 19, 3) := by decide +kernel
theorem dX11_fault_21 : decode cX11_fault 21 = .ok (.getfield 114, 3) := by decide +kernel
theorem dX11_fault_24 : decode cX11_fault 24 = .ok (.goto 4, 3) := by decide +kernel
theorem dX11_fault_27 : decode cX11_fault 27 = .ok (.iconst (-1), 1) := by decide +kernel
theorem dX11_fault_28 : decode cX11_fault 28 = .ok (.ireturn, 1) := by decide +kernel
theorem mokX11_fault : MOK yX11_fault cX11_fault 2 (some .int) 1 := ⟨w3_219, w1_1, ⟨by decide, by decide⟩, by decide +kernel, by decide⟩
abbrev miX11_fault : MI := (yX11_fault.cls, cX11_fault, 2, 1, false)
noncomputable def BX11_fault : Sm Int32 := (dSeq (dIf (dCZ q_eq (vI 1)) (dRet (dGI 6 0 (dGR 11 1 (vR 0)))) dSkip) (dRet (dT (dCI r_eq (vI 1) (cI 1)) (dGI 6 1 (dGR 11 1 (vR 0))) (cI (-1)))))
theorem sBX11_fault : SS (cvoI, .ireturn) miX11_fault [] [] [] [(0, 2), (1, 0)] [(0, 2), (1, 0)] 0 [] BX11_fault := (t_sq (p1 := 12) (Γ' := [(0, 2), (1, 0)]) (t_if (pT := 4) (pF := 12) (X := [12]) (XA := []) (XB := [12]) (c_eq_ZF (pF := 12) (s_iload_n dX11_fault_0 rfl rfl) dX11_fault_1 rfl) (t_ret (cv := cvI) (fun _ _ => rfl) (s_getI ck6 0 (by decide) rfl (s_getR ck11 1 (by decide) rfl (s_aload_n dX11_fault_4 rfl rfl) dX11_fault_5 w2_219) dX11_fault_8 w1_67) dX11_fault_11) (t_skip (ld_in rfl) rfl) lda_nil (lda_cons (ld_in rfl) lda_nil)) (t_ret (cv := cvI) (fun _ _ => rfl) (s_T (pT := 17) (pF := 27) (p1 := 24) (pe := 28) (c_eq_F (pF := 27) (s_iload_n dX11_fault_12 rfl rfl) (s_iconst dX11_fault_13 rfl) dX11_fault_14 rfl) (s_getI ck6 1 (by decide) rfl (s_getR ck11 1 (by decide) rfl (s_aload_n dX11_fault_17 rfl rfl) dX11_fault_18 w2_219) dX11_fault_21 w1_69) (s_iconst dX11_fault_27 rfl) (ld_goto (y := 28) dX11_fault_24 rfl (ld_in rfl))) dX11_fault_28))
noncomputable def DX11_fault : Fr → St → Option (Int32 × St) := M1 (fun f => (sI (sR fr0 0 (gR f 0)) 1 (gI f 1))) BX11_fault
theorem kX11_fault : SND yX11_fault cX11_fault 2 (some .int) 1 [(0, 2), (1, 0)] cvoI DX11_fault := snd_I (nw := 2) (by decide) rfl rfl (fun _ _ => rfl) sBX11_fault
theorem dX11_cell_0 : decode cX11_cell 0 = .ok (.aload_n 0, 1) := by decide +kernel
theorem dX11_cell_1 : decode cX11_cell 1 = .ok (.ifnull 19, 3) := by decide +kernel
theorem dX11_cell_4 : decode cX11_cell 4 = .ok (.iload_n 1, 1) := by decide +kernel
theorem dX11_cell_5 : decode cX11_cell 5 = .ok (.ifCond .lt 15, 3) := by decide +kernel
theorem dX11_cell_8 : decode cX11_cell 8 = .ok (.iload_n 1, 1) := by decide +kernel
theorem dX11_cell_9 : decode cX11_cell 9 = .ok (.aload_n 0, 1) := by decide +kernel
theorem dX11_cell_10 : decode cX11_cell 10 = .ok (.arraylength, 1) := by decide +kernel
theorem dX11_cell_11 : decode cX11_cell 11 = .ok (.if_icmp .ge 9, 3) := by decide +kernel
theorem dX11_cell_14 : decode cX11_cell 14 = .ok (.aload_n 0, 1) := by decide +kernel
theorem dX11_cell_15 : decode cX11_cell 15 = .ok (.iload_n 1, 1) := by decide +kernel
theorem dX11_cell_16 : decode cX11_cell 16 = .ok (.iaload, 1) := by decide +kernel
theorem dX11_cell_17 : decode cX11_cell 17 = .ok (.goto 4, 3) := by decide +kernel
theorem dX11_cell_20 : decode cX11_cell 20 = .ok (.iconst 0, 1) := by decide +kernel
theorem dX11_cell_21 : decode cX11_cell 21 = .ok (.ireturn, 1) := by decide +kernel
theorem mokX11_cell : MOK yX11_cell cX11_cell 2 (some .int) 2 := ⟨w3_230, w1_1, ⟨by decide, by decide⟩, by decide +kernel, by decide⟩
abbrev miX11_cell : MI := (yX11_cell.cls, cX11_cell, 2, 1, false)
noncomputable def BX11_cell : Sm Int32 := (dRet (dT (dAnd (dAnd (dNN (vR 0)) (dCZ q_ge (vI 1))) (dCI r_lt (vI 1) (dLen (vR 0)))) (dAI (vR 0) (vI 1)) (cI 0)))
theorem sBX11_cell : SS (cvoI, .ireturn) miX11_cell [] [] [] [(0, 2), (1, 0)] [(0, 2), (1, 0)] 0 [] BX11_cell := (t_ret (cv := cvI) (fun _ _ => rfl) (s_T (pT := 14) (pF := 20) (p1 := 17) (pe := 21) (c_and (p1 := 8) (pT := 14) (pF := 20) (c_and (p1 := 4) (pT := 8) (pF := 20) (c_nn_F (pF := 20) (s_aload_n dX11_cell_0 rfl rfl) dX11_cell_1 rfl) (c_ge_ZF (pF := 20) (s_iload_n dX11_cell_4 rfl rfl) dX11_cell_5 rfl)) (c_lt_F (pF := 20) (s_iload_n dX11_cell_8 rfl rfl) (s_len (s_aload_n dX11_cell_9 rfl rfl) dX11_cell_10) dX11_cell_11 rfl)) (s_dAI (s_aload_n dX11_cell_14 rfl rfl) (s_iload_n dX11_cell_15 rfl rfl) dX11_cell_16) (s_iconst dX11_cell_20 rfl) (ld_goto (y := 21) dX11_cell_17 rfl (ld_in rfl))) dX11_cell_21)
noncomputable def DX11_cell : Fr → St → Option (Int32 × St) := M1 (fun f => (sI (sR fr0 0 (gR f 0)) 1 (gI f 1))) BX11_cell
theorem kX11_cell : SND yX11_cell cX11_cell 2 (some .int) 1 [(0, 2), (1, 0)] cvoI DX11_cell := snd_I (nw := 2) (by decide) rfl rfl (fun _ _ => rfl) sBX11_cell
theorem dX5_isHouse_0 : decode cX5_isHouse 0 = .ok (.iload_n 1, 1) := by decide +kernel
theorem dX5_isHouse_1 : decode cX5_isHouse 1 = .ok (.ifCond .lt 15, 3) := by decide +kernel
theorem dX5_isHouse_4 : decode cX5_isHouse 4 = .ok (.iload_n 1, 1) := by decide +kernel
theorem dX5_isHouse_5 : decode cX5_isHouse 5 = .ok (.aload_n 0, 1) := by decide +kernel
theorem dX5_isHouse_6 : decode cX5_isHouse 6 = .ok (.getfield 56, 3) := by decide +kernel
theorem dX5_isHouse_9 : decode cX5_isHouse 9 = .ok (.if_icmp .ge 7, 3) := by decide +kernel
theorem dX5_isHouse_12 : decode cX5_isHouse 12 = .ok (.iconst 1, 1) := by decide +kernel
theorem dX5_isHouse_13 : decode cX5_isHouse 13 = .ok (.goto 4, 3) := by decide +kernel
theorem dX5_isHouse_16 : decode cX5_isHouse 16 = .ok (.iconst 0, 1) := by decide +kernel
theorem dX5_isHouse_17 : decode cX5_isHouse 17 = .ok (.ireturn, 1) := by decide +kernel
theorem mokX5_isHouse : MOK yX5_isHouse cX5_isHouse 2 (some .boolean) 1 := ⟨w3_227, w1_4, ⟨by decide, by decide⟩, by decide +kernel, by decide⟩
abbrev miX5_isHouse : MI := (yX5_isHouse.cls, cX5_isHouse, 2, 1, false)
noncomputable def BX5_isHouse : Sm Int32 := (dRet (dB (dAnd (dCZ q_ge (vI 1)) (dCI r_lt (vI 1) (dGI 5 4 (vR 0))))))
theorem sBX5_isHouse : SS (cvoI, .ireturn) miX5_isHouse [] [] [] [(0, 2), (1, 0)] [(0, 2), (1, 0)] 0 [] BX5_isHouse := (t_ret (cv := cvI) (fun _ _ => rfl) (s_B (pT := 12) (pF := 16) (pe := 17) (c_and (p1 := 4) (pT := 12) (pF := 16) (c_ge_ZF (pF := 16) (s_iload_n dX5_isHouse_0 rfl rfl) dX5_isHouse_1 rfl) (c_lt_F (pF := 16) (s_iload_n dX5_isHouse_4 rfl rfl) (s_getI ck5 4 (by decide) rfl (s_aload_n dX5_isHouse_5 rfl rfl) dX5_isHouse_6 w1_149) dX5_isHouse_9 rfl)) dX5_isHouse_12 dX5_isHouse_13 rfl dX5_isHouse_16 rfl) dX5_isHouse_17)
noncomputable def DX5_isHouse : Fr → St → Option (Int32 × St) := MZ (fun f => (sI (sR fr0 0 (gR f 0)) 1 (gI f 1))) BX5_isHouse
theorem kX5_isHouse : SND yX5_isHouse cX5_isHouse 2 (some .boolean) 1 [(0, 2), (1, 0)] cvoI DX5_isHouse := snd_Z (nw := 2) (by decide) rfl rfl (fun _ _ => rfl) sBX5_isHouse
theorem dX11_house_0 : decode cX11_house 0 = .ok (.aload_n 0, 1) := by decide +kernel
theorem dX11_house_1 : decode cX11_house 1 = .ok (.getfield 26, 3) := by decide +kernel
theorem dX11_house_4 : decode cX11_house 4 = .ok (.iload_n 1, 1) := by decide +kernel
theorem dX11_house_5 : decode cX11_house 5 = .ok (.invokevirtual 117, 3) := by decide +kernel
theorem dX11_house_8 : decode cX11_house 8 = .ok (.ifCond .eq 17, 3) := by decide +kernel
theorem dX11_house_11 : decode cX11_house 11 = .ok (.aload_n 0, 1) := by decide +kernel
theorem dX11_house_12 : decode cX11_house 12 = .ok (.getfield 26, 3) := by decide +kernel
theorem dX11_house_15 : decode cX11_house 15 = .ok (.getfield 121, 3) := by decide +kernel
theorem dX11_house_18 : decode cX11_house 18 = .ok (.iload_n 1, 1) := by decide +kernel
theorem dX11_house_19 : decode cX11_house 19 = .ok (.invokestatic 124, 3) := by decide +kernel
theorem dX11_house_22 : decode cX11_house 22 = .ok (.goto 5, 3) := by decide +kernel
theorem dX11_house_25 : decode cX11_house 25 = .ok (.bipush (-2), 2) := by decide +kernel
theorem dX11_house_27 : decode cX11_house 27 = .ok (.ireturn, 1) := by decide +kernel
theorem mokX11_house : MOK yX11_house cX11_house 2 (some .int) 1 := ⟨w3_223, w1_1, ⟨by decide, by decide⟩, by decide +kernel, by decide⟩
abbrev miX11_house : MI := (yX11_house.cls, cX11_house, 2, 2, false)
noncomputable def BX11_house : Sm Int32 := (dRet (dT (dCZ q_ne (dCallV 5 DX5_isHouse (aI (aR aN 0 (dGR 11 2 (vR 0))) 1 (vI 1)))) (dCall DX11_cell (aI (aR aN 0 (dGR 5 8 (dGR 11 2 (vR 0)))) 1 (vI 1))) (cI (-2))))
theorem sBX11_house : SS (cvoI, .ireturn) miX11_house [] [] [] [(0, 2), (1, 0)] [(0, 2), (1, 0)] 0 [] BX11_house := (t_ret (cv := cvI) (fun _ _ => rfl) (s_T (pT := 11) (pF := 25) (p1 := 22) (pe := 27) (c_ne_ZF (pF := 25) (s_of_xI (x_callV (ts := [(0, 2), (1, 0)]) ck5 rfl kX5_isHouse mokX5_isHouse w3_225 w3_226 rfl rfl rfl rfl (a_I (ts := [(0, 2)]) 1 (a_R (ts := []) 0 a_nil (s_getR ck11 2 (by decide) rfl (s_aload_n dX11_house_0 rfl rfl) dX11_house_1 w2_220) rfl) (s_iload_n dX11_house_4 rfl rfl) rfl) dX11_house_5 w3_224)) dX11_house_8 rfl) (s_of_xI (x_call (ts := [(0, 2), (1, 0)]) kX11_cell mokX11_cell w3_229 rfl rfl rfl (a_I (ts := [(0, 2)]) 1 (a_R (ts := []) 0 a_nil (s_getR ck5 8 (by decide) rfl (s_getR ck11 2 (by decide) rfl (s_aload_n dX11_house_11 rfl rfl) dX11_house_12 w2_220) dX11_house_15 w1_172) rfl) (s_iload_n dX11_house_18 rfl rfl) rfl) dX11_house_19 w3_228)) (s_bipush dX11_house_25 rfl) (ld_goto (y := 27) dX11_house_22 rfl (ld_in rfl))) dX11_house_27)
noncomputable def DX11_house : Fr → St → Option (Int32 × St) := M1 (fun f => (sI (sR fr0 0 (gR f 0)) 1 (gI f 1))) BX11_house
theorem kX11_house : SND yX11_house cX11_house 2 (some .int) 2 [(0, 2), (1, 0)] cvoI DX11_house := snd_I (nw := 2) (by decide) rfl rfl (fun _ _ => rfl) sBX11_house
theorem dX11_isChoice_0 : decode cX11_isChoice 0 = .ok (.iload_n 0, 1) := by decide +kernel
theorem dX11_isChoice_1 : decode cX11_isChoice 1 = .ok (.ifCond .eq 8, 3) := by decide +kernel
theorem dX11_isChoice_4 : decode cX11_isChoice 4 = .ok (.iload_n 0, 1) := by decide +kernel
theorem dX11_isChoice_5 : decode cX11_isChoice 5 = .ok (.iconst 1, 1) := by decide +kernel
theorem dX11_isChoice_6 : decode cX11_isChoice 6 = .ok (.if_icmp .ne 7, 3) := by decide +kernel
theorem dX11_isChoice_9 : decode cX11_isChoice 9 = .ok (.iconst 1, 1) := by decide +kernel
theorem dX11_isChoice_10 : decode cX11_isChoice 10 = .ok (.goto 4, 3) := by decide +kernel
theorem dX11_isChoice_13 : decode cX11_isChoice 13 = .ok (.iconst 0, 1) := by decide +kernel
theorem dX11_isChoice_14 : decode cX11_isChoice 14 = .ok (.ireturn, 1) := by decide +kernel
theorem mokX11_isChoice : MOK yX11_isChoice cX11_isChoice 1 (some .boolean) 1 := ⟨w4_1, w1_1, ⟨by decide, by decide⟩, by decide +kernel, by decide⟩
abbrev miX11_isChoice : MI := (yX11_isChoice.cls, cX11_isChoice, 1, 1, false)
noncomputable def BX11_isChoice : Sm Int32 := (dRet (dB (dOr (dCZ q_eq (vI 0)) (dCI r_eq (vI 0) (cI 1)))))
theorem sBX11_isChoice : SS (cvoI, .ireturn) miX11_isChoice [] [] [] [(0, 0)] [(0, 0)] 0 [] BX11_isChoice := (t_ret (cv := cvI) (fun _ _ => rfl) (s_B (pT := 9) (pF := 13) (pe := 14) (c_or (p1 := 4) (pT := 9) (pF := 13) (c_eq_ZJ (pT := 9) (s_iload_n dX11_isChoice_0 rfl rfl) dX11_isChoice_1 rfl) (c_eq_F (pF := 13) (s_iload_n dX11_isChoice_4 rfl rfl) (s_iconst dX11_isChoice_5 rfl) dX11_isChoice_6 rfl)) dX11_isChoice_9 dX11_isChoice_10 rfl dX11_isChoice_13 rfl) dX11_isChoice_14)
noncomputable def DX11_isChoice : Fr → St → Option (Int32 × St) := MZ (fun f => (sI fr0 0 (gI f 0))) BX11_isChoice
theorem kX11_isChoice : SND yX11_isChoice cX11_isChoice 1 (some .boolean) 1 [(0, 0)] cvoI DX11_isChoice := snd_Z (nw := 1) (by decide) rfl rfl (fun _ _ => rfl) sBX11_isChoice
theorem dX5_isCarrier_0 : decode cX5_isCarrier 0 = .ok (.iload_n 1, 1) := by decide +kernel
theorem dX5_isCarrier_1 : decode cX5_isCarrier 1 = .ok (.ifCond .lt 15, 3) := by decide +kernel
theorem dX5_isCarrier_4 : decode cX5_isCarrier 4 = .ok (.iload_n 1, 1) := by decide +kernel
theorem dX5_isCarrier_5 : decode cX5_isCarrier 5 = .ok (.aload_n 0, 1) := by decide +kernel
theorem dX5_isCarrier_6 : decode cX5_isCarrier 6 = .ok (.getfield 62, 3) := by decide +kernel
theorem dX5_isCarrier_9 : decode cX5_isCarrier 9 = .ok (.if_icmp .ge 7, 3) := by decide +kernel
theorem dX5_isCarrier_12 : decode cX5_isCarrier 12 = .ok (.iconst 1, 1) := by decide +kernel
theorem dX5_isCarrier_13 : decode cX5_isCarrier 13 = .ok (.goto 4, 3) := by decide +kernel
theorem dX5_isCarrier_16 : decode cX5_isCarrier 16 = .ok (.iconst 0, 1) := by decide +kernel
theorem dX5_isCarrier_17 : decode cX5_isCarrier 17 = .ok (.ireturn, 1) := by decide +kernel
theorem mokX5_isCarrier : MOK yX5_isCarrier cX5_isCarrier 2 (some .boolean) 1 := ⟨w3_238, w1_4, ⟨by decide, by decide⟩, by decide +kernel, by decide⟩
abbrev miX5_isCarrier : MI := (yX5_isCarrier.cls, cX5_isCarrier, 2, 1, false)
noncomputable def BX5_isCarrier : Sm Int32 := (dRet (dB (dAnd (dCZ q_ge (vI 1)) (dCI r_lt (vI 1) (dGI 5 6 (vR 0))))))
theorem sBX5_isCarrier : SS (cvoI, .ireturn) miX5_isCarrier [] [] [] [(0, 2), (1, 0)] [(0, 2), (1, 0)] 0 [] BX5_isCarrier := (t_ret (cv := cvI) (fun _ _ => rfl) (s_B (pT := 12) (pF := 16) (pe := 17) (c_and (p1 := 4) (pT := 12) (pF := 16) (c_ge_ZF (pF := 16) (s_iload_n dX5_isCarrier_0 rfl rfl) dX5_isCarrier_1 rfl) (c_lt_F (pF := 16) (s_iload_n dX5_isCarrier_4 rfl rfl) (s_getI ck5 6 (by decide) rfl (s_aload_n dX5_isCarrier_5 rfl rfl) dX5_isCarrier_6 w1_161) dX5_isCarrier_9 rfl)) dX5_isCarrier_12 dX5_isCarrier_13 rfl dX5_isCarrier_16 rfl) dX5_isCarrier_17)
noncomputable def DX5_isCarrier : Fr → St → Option (Int32 × St) := MZ (fun f => (sI (sR fr0 0 (gR f 0)) 1 (gI f 1))) BX5_isCarrier
theorem kX5_isCarrier : SND yX5_isCarrier cX5_isCarrier 2 (some .boolean) 1 [(0, 2), (1, 0)] cvoI DX5_isCarrier := snd_Z (nw := 2) (by decide) rfl rfl (fun _ _ => rfl) sBX5_isCarrier
theorem dX11_carrier_0 : decode cX11_carrier 0 = .ok (.aload_n 0, 1) := by decide +kernel
theorem dX11_carrier_1 : decode cX11_carrier 1 = .ok (.getfield 26, 3) := by decide +kernel
theorem dX11_carrier_4 : decode cX11_carrier 4 = .ok (.iload_n 1, 1) := by decide +kernel
theorem dX11_carrier_5 : decode cX11_carrier 5 = .ok (.invokevirtual 128, 3) := by decide +kernel
theorem dX11_carrier_8 : decode cX11_carrier 8 = .ok (.ifCond .eq 10, 3) := by decide +kernel
theorem dX11_carrier_11 : decode cX11_carrier 11 = .ok (.iload_n 2, 1) := by decide +kernel
theorem dX11_carrier_12 : decode cX11_carrier 12 = .ok (.invokestatic 131, 3) := by decide +kernel
theorem dX11_carrier_15 : decode cX11_carrier 15 = .ok (.ifCond .ne 6, 3) := by decide +kernel
theorem dX11_carrier_18 : decode cX11_carrier 18 = .ok (.bipush (-2), 2) := by decide +kernel
theorem dX11_carrier_20 : decode cX11_carrier 20 = .ok (.ireturn, 1) := by decide +kernel
theorem dX11_carrier_21 : decode cX11_carrier 21 = .ok (.iload_n 2, 1) := by decide +kernel
theorem dX11_carrier_22 : decode cX11_carrier 22 = .ok (.ifCond .ne 13, 3) := by decide +kernel
theorem dX11_carrier_25 : decode cX11_carrier 25 = .ok (.aload_n 0, 1) := by decide +kernel
theorem dX11_carrier_26 : decode cX11_carrier 26 = .ok (.getfield 26, 3) := by decide +kernel
theorem dX11_carrier_29 : decode cX11_carrier 29 = .ok (.getfield 134, 3) := by decide +kernel
theorem dX11_carrier_32 : decode cX11_carrier 32 = .ok (.goto 10, 3) := by decide +kernel
theorem dX11_carrier_35 : decode cX11_carrier 35 = .ok (.aload_n 0, 1) := by decide +kernel
theorem dX11_carrier_36 : decode cX11_carrier 36 = .ok (.getfield 26, 3) := by decide +kernel
theorem dX11_carrier_39 : decode cX11_carrier 39 = .ok (.getfield 137, 3) := by decide +kernel
theorem dX11_carrier_42 : decode cX11_carrier 42 = .ok (.iload_n 1, 1) := by decide +kernel
theorem dX11_carrier_43 : decode cX11_carrier 43 = .ok (.invokestatic 124, 3) := by decide +kernel
theorem dX11_carrier_46 : decode cX11_carrier 46 = .ok (.ireturn, 1) := by decide +kernel
theorem mokX11_carrier : MOK yX11_carrier cX11_carrier 3 (some .int) 2 := ⟨w3_234, w1_1, ⟨by decide, by decide⟩, by decide +kernel, by decide⟩
abbrev miX11_carrier : MI := (yX11_carrier.cls, cX11_carrier, 3, 2, false)
noncomputable def BX11_carrier : Sm Int32 := (dSeq (dIf (dOr (dNot (dCZ q_ne (dCallV 5 DX5_isCarrier (aI (aR aN 0 (dGR 11 2 (vR 0))) 1 (vI 1))))) (dNot (dCZ q_ne (dCall DX11_isChoice (aI aN 0 (vI 2)))))) (dRet (cI (-2))) dSkip) (dRet (dCall DX11_cell (aI (aR aN 0 (dT (dCZ q_eq (vI 2)) (dGR 5 11 (dGR 11 2 (vR 0))) (dGR 5 12 (dGR 11 2 (vR 0))))) 1 (vI 1)))))
theorem sBX11_carrier : SS (cvoI, .ireturn) miX11_carrier [] [] [] [(0, 2), (1, 0), (2, 0)] [(0, 2), (1, 0), (2, 0)] 0 [] BX11_carrier := (t_sq (p1 := 21) (Γ' := [(0, 2), (1, 0), (2, 0)]) (t_if (pT := 18) (pF := 21) (X := [21]) (XA := []) (XB := [21]) (c_or (p1 := 11) (pT := 18) (pF := 21) (c_not (pT := 18) (pF := 11) (c_ne_ZF (pF := 18) (s_of_xI (x_callV (ts := [(0, 2), (1, 0)]) ck5 rfl kX5_isCarrier mokX5_isCarrier w3_236 w3_237 rfl rfl rfl rfl (a_I (ts := [(0, 2)]) 1 (a_R (ts := []) 0 a_nil (s_getR ck11 2 (by decide) rfl (s_aload_n dX11_carrier_0 rfl rfl) dX11_carrier_1 w2_220) rfl) (s_iload_n dX11_carrier_4 rfl rfl) rfl) dX11_carrier_5 w3_235)) dX11_carrier_8 rfl)) (c_not (pT := 18) (pF := 21) (c_ne_ZJ (pT := 21) (s_of_xI (x_call (ts := [(0, 0)]) kX11_isChoice mokX11_isChoice w4_0 rfl rfl rfl (a_I (ts := []) 0 a_nil (s_iload_n dX11_carrier_11 rfl rfl) rfl) dX11_carrier_12 w3_239)) dX11_carrier_15 rfl))) (t_ret (cv := cvI) (fun _ _ => rfl) (s_bipush dX11_carrier_18 rfl) dX11_carrier_20) (t_skip (ld_in rfl) rfl) lda_nil (lda_cons (ld_in rfl) lda_nil)) (t_ret (cv := cvI) (fun _ _ => rfl) (s_of_xI (x_call (ts := [(0, 2), (1, 0)]) kX11_cell mokX11_cell w3_229 rfl rfl rfl (a_I (ts := [(0, 2)]) 1 (a_R (ts := []) 0 a_nil (s_T (pT := 25) (pF := 35) (p1 := 32) (pe := 42) (c_eq_ZF (pF := 35) (s_iload_n dX11_carrier_21 rfl rfl) dX11_carrier_22 rfl) (s_getR ck5 11 (by decide) rfl (s_getR ck11 2 (by decide) rfl (s_aload_n dX11_carrier_25 rfl rfl) dX11_carrier_26 w2_220) dX11_carrier_29 w1_182) (s_getR ck5 12 (by decide) rfl (s_getR ck11 2 (by decide) rfl (s_aload_n dX11_carrier_35 rfl rfl) dX11_carrier_36 w2_220) dX11_carrier_39 w1_185) (ld_goto (y := 42) dX11_carrier_32 rfl (ld_in rfl))) rfl) (s_iload_n dX11_carrier_42 rfl rfl) rfl) dX11_carrier_43 w3_228)) dX11_carrier_46))
noncomputable def DX11_carrier : Fr → St → Option (Int32 × St) := M1 (fun f => (sI (sI (sR fr0 0 (gR f 0)) 1 (gI f 1)) 2 (gI f 2))) BX11_carrier
theorem kX11_carrier : SND yX11_carrier cX11_carrier 3 (some .int) 2 [(0, 2), (1, 0), (2, 0)] cvoI DX11_carrier := snd_I (nw := 3) (by decide) rfl rfl (fun _ _ => rfl) sBX11_carrier
theorem dX5_isSlate_0 : decode cX5_isSlate 0 = .ok (.iload_n 1, 1) := by decide +kernel
theorem dX5_isSlate_1 : decode cX5_isSlate 1 = .ok (.ifCond .lt 15, 3) := by decide +kernel
theorem dX5_isSlate_4 : decode cX5_isSlate 4 = .ok (.iload_n 1, 1) := by decide +kernel
theorem dX5_isSlate_5 : decode cX5_isSlate 5 = .ok (.aload_n 0, 1) := by decide +kernel
theorem dX5_isSlate_6 : decode cX5_isSlate 6 = .ok (.getfield 65, 3) := by decide +kernel
theorem dX5_isSlate_9 : decode cX5_isSlate 9 = .ok (.if_icmp .ge 7, 3) := by decide +kernel
theorem dX5_isSlate_12 : decode cX5_isSlate 12 = .ok (.iconst 1, 1) := by decide +kernel
theorem dX5_isSlate_13 : decode cX5_isSlate 13 = .ok (.goto 4, 3) := by decide +kernel
theorem dX5_isSlate_16 : decode cX5_isSlate 16 = .ok (.iconst 0, 1) := by decide +kernel
theorem dX5_isSlate_17 : decode cX5_isSlate 17 = .ok (.ireturn, 1) := by decide +kernel
theorem mokX5_isSlate : MOK yX5_isSlate cX5_isSlate 2 (some .boolean) 1 := ⟨w4_9, w1_4, ⟨by decide, by decide⟩, by decide +kernel, by decide⟩
abbrev miX5_isSlate : MI := (yX5_isSlate.cls, cX5_isSlate, 2, 1, false)
noncomputable def BX5_isSlate : Sm Int32 := (dRet (dB (dAnd (dCZ q_ge (vI 1)) (dCI r_lt (vI 1) (dGI 5 7 (vR 0))))))
theorem sBX5_isSlate : SS (cvoI, .ireturn) miX5_isSlate [] [] [] [(0, 2), (1, 0)] [(0, 2), (1, 0)] 0 [] BX5_isSlate := (t_ret (cv := cvI) (fun _ _ => rfl) (s_B (pT := 12) (pF := 16) (pe := 17) (c_and (p1 := 4) (pT := 12) (pF := 16) (c_ge_ZF (pF := 16) (s_iload_n dX5_isSlate_0 rfl rfl) dX5_isSlate_1 rfl) (c_lt_F (pF := 16) (s_iload_n dX5_isSlate_4 rfl rfl) (s_getI ck5 7 (by decide) rfl (s_aload_n dX5_isSlate_5 rfl rfl) dX5_isSlate_6 w1_165) dX5_isSlate_9 rfl)) dX5_isSlate_12 dX5_isSlate_13 rfl dX5_isSlate_16 rfl) dX5_isSlate_17)
noncomputable def DX5_isSlate : Fr → St → Option (Int32 × St) := MZ (fun f => (sI (sR fr0 0 (gR f 0)) 1 (gI f 1))) BX5_isSlate
theorem kX5_isSlate : SND yX5_isSlate cX5_isSlate 2 (some .boolean) 1 [(0, 2), (1, 0)] cvoI DX5_isSlate := snd_Z (nw := 2) (by decide) rfl rfl (fun _ _ => rfl) sBX5_isSlate
theorem dX5_isWord_0 : decode cX5_isWord 0 = .ok (.iload_n 2, 1) := by decide +kernel
theorem dX5_isWord_1 : decode cX5_isWord 1 = .ok (.ifCond .lt 19, 3) := by decide +kernel
theorem dX5_isWord_4 : decode cX5_isWord 4 = .ok (.iload_n 2, 1) := by decide +kernel
theorem dX5_isWord_5 : decode cX5_isWord 5 = .ok (.aload_n 0, 1) := by decide +kernel
theorem dX5_isWord_6 : decode cX5_isWord 6 = .ok (.getfield 30, 3) := by decide +kernel
theorem dX5_isWord_9 : decode cX5_isWord 9 = .ok (.iload_n 1, 1) := by decide +kernel
theorem dX5_isWord_10 : decode cX5_isWord 10 = .ok (.invokestatic 85, 3) := by decide +kernel
theorem dX5_isWord_13 : decode cX5_isWord 13 = .ok (.if_icmp .ge 7, 3) := by decide +kernel
theorem dX5_isWord_16 : decode cX5_isWord 16 = .ok (.iconst 1, 1) := by decide +kernel
theorem dX5_isWord_17 : decode cX5_isWord 17 = .ok (.goto 4, 3) := by decide +kernel
theorem dX5_isWord_20 : decode cX5_isWord 20 = .ok (.iconst 0, 1) := by decide +kernel
theorem dX5_isWord_21 : decode cX5_isWord 21 = .ok (.ireturn, 1) := by decide +kernel
theorem mokX5_isWord : MOK yX5_isWord cX5_isWord 3 (some .boolean) 2 := ⟨w4_13, w1_4, ⟨by decide, by decide⟩, by decide +kernel, by decide⟩
abbrev miX5_isWord : MI := (yX5_isWord.cls, cX5_isWord, 3, 2, false)
noncomputable def BX5_isWord : Sm Int32 := (dRet (dB (dAnd (dCZ q_ge (vI 2)) (dCI r_lt (vI 2) (dCall DX11_cell (aI (aR aN 0 (dGR 5 14 (vR 0))) 1 (vI 1)))))))
theorem sBX5_isWord : SS (cvoI, .ireturn) miX5_isWord [] [] [] [(0, 2), (1, 0), (2, 0)] [(0, 2), (1, 0), (2, 0)] 0 [] BX5_isWord := (t_ret (cv := cvI) (fun _ _ => rfl) (s_B (pT := 16) (pF := 20) (pe := 21) (c_and (p1 := 4) (pT := 16) (pF := 20) (c_ge_ZF (pF := 20) (s_iload_n dX5_isWord_0 rfl rfl) dX5_isWord_1 rfl) (c_lt_F (pF := 20) (s_iload_n dX5_isWord_4 rfl rfl) (s_of_xI (x_callN (ts := [(0, 2), (1, 0)]) kX11_cell mokX11_cell w3_229 rfl rfl rfl (a_I (ts := [(0, 2)]) 1 (a_R (ts := []) 0 a_nil (s_getR ck5 14 (by decide) rfl (s_aload_n dX5_isWord_5 rfl rfl) dX5_isWord_6 w1_192) rfl) (s_iload_n dX5_isWord_9 rfl rfl) rfl) dX5_isWord_10 nb13)) dX5_isWord_13 rfl)) dX5_isWord_16 dX5_isWord_17 rfl dX5_isWord_20 rfl) dX5_isWord_21)
noncomputable def DX5_isWord : Fr → St → Option (Int32 × St) := MZ (fun f => (sI (sI (sR fr0 0 (gR f 0)) 1 (gI f 1)) 2 (gI f 2))) BX5_isWord
theorem kX5_isWord : SND yX5_isWord cX5_isWord 3 (some .boolean) 2 [(0, 2), (1, 0), (2, 0)] cvoI DX5_isWord := snd_Z (nw := 3) (by decide) rfl rfl (fun _ _ => rfl) sBX5_isWord
theorem dX11_word_0 : decode cX11_word 0 = .ok (.aload_n 0, 1) := by decide +kernel
theorem dX11_word_1 : decode cX11_word 1 = .ok (.getfield 26, 3) := by decide +kernel
theorem dX11_word_4 : decode cX11_word 4 = .ok (.iload_n 1, 1) := by decide +kernel
theorem dX11_word_5 : decode cX11_word 5 = .ok (.invokevirtual 140, 3) := by decide +kernel
theorem dX11_word_8 : decode cX11_word 8 = .ok (.ifCond .ne 6, 3) := by decide +kernel
theorem dX11_word_11 : decode cX11_word 11 = .ok (.bipush (-2), 2) := by decide +kernel
theorem dX11_word_13 : decode cX11_word 13 = .ok (.ireturn, 1) := by decide +kernel
theorem dX11_word_14 : decode cX11_word 14 = .ok (.aload_n 0, 1) := by decide +kernel
theorem dX11_word_15 : decode cX11_word 15 = .ok (.getfield 26, 3) := by decide +kernel
theorem dX11_word_18 : decode cX11_word 18 = .ok (.iload_n 1, 1) := by decide +kernel
theorem dX11_word_19 : decode cX11_word 19 = .ok (.iload_n 2, 1) := by decide +kernel
theorem dX11_word_20 : decode cX11_word 20 = .ok (.invokevirtual 143, 3) := by decide +kernel
theorem dX11_word_23 : decode cX11_word 23 = .ok (.ifCond .eq 22, 3) := by decide +kernel
theorem dX11_word_26 : decode cX11_word 26 = .ok (.aload_n 0, 1) := by decide +kernel
theorem dX11_word_27 : decode cX11_word 27 = .ok (.getfield 26, 3) := by decide +kernel
theorem dX11_word_30 : decode cX11_word 30 = .ok (.getfield 147, 3) := by decide +kernel
theorem dX11_word_33 : decode cX11_word 33 = .ok (.iload_n 1, 1) := by decide +kernel
theorem dX11_word_34 : decode cX11_word 34 = .ok (.bipush 6, 2) := by decide +kernel
theorem dX11_word_36 : decode cX11_word 36 = .ok (.imul, 1) := by decide +kernel
theorem dX11_word_37 : decode cX11_word 37 = .ok (.iload_n 2, 1) := by decide +kernel
theorem dX11_word_38 : decode cX11_word 38 = .ok (.iadd, 1) := by decide +kernel
theorem dX11_word_39 : decode cX11_word 39 = .ok (.invokestatic 124, 3) := by decide +kernel
theorem dX11_word_42 : decode cX11_word 42 = .ok (.goto 4, 3) := by decide +kernel
theorem dX11_word_45 : decode cX11_word 45 = .ok (.iconst (-1), 1) := by decide +kernel
theorem dX11_word_46 : decode cX11_word 46 = .ok (.ireturn, 1) := by decide +kernel
theorem mokX11_word : MOK yX11_word cX11_word 3 (some .int) 2 := ⟨w4_5, w1_1, ⟨by decide, by decide⟩, by decide +kernel, by decide⟩
abbrev miX11_word : MI := (yX11_word.cls, cX11_word, 3, 3, false)
noncomputable def BX11_word : Sm Int32 := (dSeq (dIf (dNot (dCZ q_ne (dCallV 5 DX5_isSlate (aI (aR aN 0 (dGR 11 2 (vR 0))) 1 (vI 1))))) (dRet (cI (-2))) dSkip) (dRet (dT (dCZ q_ne (dCallV 5 DX5_isWord (aI (aI (aR aN 0 (dGR 11 2 (vR 0))) 1 (vI 1)) 2 (vI 2)))) (dCall DX11_cell (aI (aR aN 0 (dGR 5 15 (dGR 11 2 (vR 0)))) 1 (d2 o_iadd (d2 o_imul (vI 1) (cI 6)) (vI 2)))) (cI (-1)))))
theorem sBX11_word : SS (cvoI, .ireturn) miX11_word [] [] [] [(0, 2), (1, 0), (2, 0)] [(0, 2), (1, 0), (2, 0)] 0 [] BX11_word := (t_sq (p1 := 14) (Γ' := [(0, 2), (1, 0), (2, 0)]) (t_if (pT := 11) (pF := 14) (X := [14]) (XA := []) (XB := [14]) (c_not (pT := 11) (pF := 14) (c_ne_ZJ (pT := 14) (s_of_xI (x_callV (ts := [(0, 2), (1, 0)]) ck5 rfl kX5_isSlate mokX5_isSlate w4_7 w4_8 rfl rfl rfl rfl (a_I (ts := [(0, 2)]) 1 (a_R (ts := []) 0 a_nil (s_getR ck11 2 (by decide) rfl (s_aload_n dX11_word_0 rfl rfl) dX11_word_1 w2_220) rfl) (s_iload_n dX11_word_4 rfl rfl) rfl) dX11_word_5 w4_6)) dX11_word_8 rfl)) (t_ret (cv := cvI) (fun _ _ => rfl) (s_bipush dX11_word_11 rfl) dX11_word_13) (t_skip (ld_in rfl) rfl) lda_nil (lda_cons (ld_in rfl) lda_nil)) (t_ret (cv := cvI) (fun _ _ => rfl) (s_T (pT := 26) (pF := 45) (p1 := 42) (pe := 46) (c_ne_ZF (pF := 45) (s_of_xI (x_callV (ts := [(0, 2), (1, 0), (2, 0)]) ck5 rfl kX5_isWord mokX5_isWord w4_11 w4_12 rfl rfl rfl rfl (a_I (ts := [(0, 2), (1, 0)]) 2 (a_I (ts := [(0, 2)]) 1 (a_R (ts := []) 0 a_nil (s_getR ck11 2 (by decide) rfl (s_aload_n dX11_word_14 rfl rfl) dX11_word_15 w2_220) rfl) (s_iload_n dX11_word_18 rfl rfl) rfl) (s_iload_n dX11_word_19 rfl rfl) rfl) dX11_word_20 w4_10)) dX11_word_23 rfl) (s_of_xI (x_call (ts := [(0, 2), (1, 0)]) kX11_cell mokX11_cell w3_229 rfl rfl rfl (a_I (ts := [(0, 2)]) 1 (a_R (ts := []) 0 a_nil (s_getR ck5 15 (by decide) rfl (s_getR ck11 2 (by decide) rfl (s_aload_n dX11_word_26 rfl rfl) dX11_word_27 w2_220) dX11_word_30 w1_195) rfl) (s_iadd (s_imul (s_iload_n dX11_word_33 rfl rfl) (s_bipush dX11_word_34 rfl) dX11_word_36) (s_iload_n dX11_word_37 rfl rfl) dX11_word_38) rfl) dX11_word_39 w3_228)) (s_iconst dX11_word_45 rfl) (ld_goto (y := 46) dX11_word_42 rfl (ld_in rfl))) dX11_word_46))
noncomputable def DX11_word : Fr → St → Option (Int32 × St) := M1 (fun f => (sI (sI (sR fr0 0 (gR f 0)) 1 (gI f 1)) 2 (gI f 2))) BX11_word
theorem kX11_word : SND yX11_word cX11_word 3 (some .int) 3 [(0, 2), (1, 0), (2, 0)] cvoI DX11_word := snd_I (nw := 3) (by decide) rfl rfl (fun _ _ => rfl) sBX11_word
theorem dX5_doorsOf_0 : decode cX5_doorsOf 0 = .ok (.iconst 0, 1) := by decide +kernel
theorem dX5_doorsOf_1 : decode cX5_doorsOf 1 = .ok (.istore_n 3, 1) := by decide +kernel
theorem dX5_doorsOf_2 : decode cX5_doorsOf 2 = .ok (.iconst 0, 1) := by decide +kernel
theorem dX5_doorsOf_3 : decode cX5_doorsOf 3 = .ok (.istore 4, 2) := by decide +kernel
theorem dX5_doorsOf_5 : decode cX5_doorsOf 5 = .ok (.iload 4, 2) := by decide +kernel
theorem dX5_doorsOf_7 : decode cX5_doorsOf 7 = .ok (.aload_n 0, 1) := by decide +kernel
theorem dX5_doorsOf_8 : decode cX5_doorsOf 8 = .ok (.getfield 59, 3) := by decide +kernel
theorem dX5_doorsOf_11 : decode cX5_doorsOf 11 = .ok (.if_icmp .ge 76, 3) := by decide +kernel
theorem dX5_doorsOf_14 : decode cX5_doorsOf 14 = .ok (.iload 4, 2) := by decide +kernel
theorem dX5_doorsOf_16 : decode cX5_doorsOf 16 = .ok (.bipush 12, 2) := by decide +kernel
theorem dX5_doorsOf_18 : decode cX5_doorsOf 18 = .ok (.if_icmp .ge 69, 3) := by decide +kernel
theorem dX5_doorsOf_21 : decode cX5_doorsOf 21 = .ok (.aload_n 0, 1) := by decide +kernel
theorem dX5_doorsOf_22 : decode cX5_doorsOf 22 = .ok (.getfield 15, 3) := by decide +kernel
theorem dX5_doorsOf_25 : decode cX5_doorsOf 25 = .ok (.iload 4, 2) := by decide +kernel
theorem dX5_doorsOf_27 : decode cX5_doorsOf 27 = .ok (.invokestatic 85, 3) := by decide +kernel
theorem dX5_doorsOf_30 : decode cX5_doorsOf 30 = .ok (.istore 5, 2) := by decide +kernel
theorem dX5_doorsOf_32 : decode cX5_doorsOf 32 = .ok (.aload_n 0, 1) := by decide +kernel
theorem dX5_doorsOf_33 : decode cX5_doorsOf 33 = .ok (.getfield 18, 3) := by decide +kernel
theorem dX5_doorsOf_36 : decode cX5_doorsOf 36 = .ok (.iload 4, 2) := by decide +kernel
theorem dX5_doorsOf_38 : decode cX5_doorsOf 38 = .ok (.invokestatic 85, 3) := by decide +kernel
theorem dX5_doorsOf_41 : decode cX5_doorsOf 41 = .ok (.istore 6, 2) := by decide +kernel
theorem dX5_doorsOf_43 : decode cX5_doorsOf 43 = .ok (.iload 4, 2) := by decide +kernel
theorem dX5_doorsOf_45 : decode cX5_doorsOf 45 = .ok (.iload_n 2, 1) := by decide +kernel
theorem dX5_doorsOf_46 : decode cX5_doorsOf 46 = .ok (.if_icmp .eq 16, 3) := by decide +kernel
theorem dX5_doorsOf_49 : decode cX5_doorsOf 49 = .ok (.iload 5, 2) := by decide +kernel
theorem dX5_doorsOf_51 : decode cX5_doorsOf 51 = .ok (.iload_n 1, 1) := by decide +kernel
theorem dX5_doorsOf_52 : decode cX5_doorsOf 52 = .ok (.if_icmp .ne 10, 3) := by decide +kernel
theorem dX5_doorsOf_55 : decode cX5_doorsOf 55 = .ok (.iload_n 3, 1) := by decide +kernel
theorem dX5_doorsOf_56 : decode cX5_doorsOf 56 = .ok (.iconst 1, 1) := by decide +kernel
theorem dX5_doorsOf_57 : decode cX5_doorsOf 57 = .ok (.iload 6, 2) := by decide +kernel
theorem dX5_doorsOf_59 : decode cX5_doorsOf 59 = .ok (.ishl, 1) := by decide +kernel
theorem dX5_doorsOf_60 : decode cX5_doorsOf 60 = .ok (.ior, 1) := by decide +kernel
theorem dX5_doorsOf_61 : decode cX5_doorsOf 61 = .ok (.istore_n 3, 1) := by decide +kernel
theorem dX5_doorsOf_62 : decode cX5_doorsOf 62 = .ok (.iload 4, 2) := by decide +kernel
theorem dX5_doorsOf_64 : decode cX5_doorsOf 64 = .ok (.iload_n 2, 1) := by decide +kernel
theorem dX5_doorsOf_65 : decode cX5_doorsOf 65 = .ok (.if_icmp .eq 16, 3) := by decide +kernel
theorem dX5_doorsOf_68 : decode cX5_doorsOf 68 = .ok (.iload 6, 2) := by decide +kernel
theorem dX5_doorsOf_70 : decode cX5_doorsOf 70 = .ok (.iload_n 1, 1) := by decide +kernel
theorem dX5_doorsOf_71 : decode cX5_doorsOf 71 = .ok (.if_icmp .ne 10, 3) := by decide +kernel
theorem dX5_doorsOf_74 : decode cX5_doorsOf 74 = .ok (.iload_n 3, 1) := by decide +kernel
theorem dX5_doorsOf_75 : decode cX5_doorsOf 75 = .ok (.iconst 1, 1) := by decide +kernel
theorem dX5_doorsOf_76 : decode cX5_doorsOf 76 = .ok (.iload 5, 2) := by decide +kernel
theorem dX5_doorsOf_78 : decode cX5_doorsOf 78 = .ok (.ishl, 1) := by decide +kernel
theorem dX5_doorsOf_79 : decode cX5_doorsOf 79 = .ok (.ior, 1) := by decide +kernel
theorem dX5_doorsOf_80 : decode cX5_doorsOf 80 = .ok (.istore_n 3, 1) := by decide +kernel
theorem dX5_doorsOf_81 : decode cX5_doorsOf 81 = .ok (.iinc 4 1, 3) := by decide +kernel
theorem dX5_doorsOf_84 : decode cX5_doorsOf 84 = .ok (.goto (-79), 3) := by decide +kernel
theorem dX5_doorsOf_87 : decode cX5_doorsOf 87 = .ok (.iload_n 3, 1) := by decide +kernel
theorem dX5_doorsOf_88 : decode cX5_doorsOf 88 = .ok (.ireturn, 1) := by decide +kernel
theorem mokX5_doorsOf : MOK yX5_doorsOf cX5_doorsOf 7 (some .int) 2 := ⟨w4_22, w1_4, ⟨by decide, by decide⟩, by decide +kernel, by decide⟩
abbrev miX5_doorsOf : MI := (yX5_doorsOf.cls, cX5_doorsOf, 7, 2, false)
noncomputable def LX5_doorsOf_1 : Sm Int32 := dLoop (fun f => (sI (sI (sI (sI (sR fr0 0 (gR f 0)) 1 (gI f 1)) 2 (gI f 2)) 3 (gI f 3)) 4 (gI f 4))) (dAnd (dCI r_lt (vI 4) (dGI 5 5 (vR 0))) (dCI r_lt (vI 4) (cI 12))) (dSeq (dSetI 5 (dCall DX11_cell (aI (aR aN 0 (dGR 5 9 (vR 0))) 1 (vI 4)))) (dSeq (dSetI 6 (dCall DX11_cell (aI (aR aN 0 (dGR 5 10 (vR 0))) 1 (vI 4)))) (dSeq (dIf (dAnd (dCI r_ne (vI 4) (vI 2)) (dCI r_eq (vI 5) (vI 1))) (dSetI 3 (d2 o_ior (vI 3) (d2 o_ishl (cI 1) (vI 6)))) dSkip) (dIf (dAnd (dCI r_ne (vI 4) (vI 2)) (dCI r_eq (vI 6) (vI 1))) (dSetI 3 (d2 o_ior (vI 3) (d2 o_ishl (cI 1) (vI 5)))) dSkip)))) (dInc 4 1)
theorem sLX5_doorsOf_1 {ΓL : Gm} {PB PK : List Nat} : SS (cvoI, .ireturn) miX5_doorsOf ΓL PB PK [(0, 2), (1, 0), (2, 0), (3, 0), (4, 0)] [(0, 2), (1, 0), (2, 0), (3, 0), (4, 0)] 5 [87] LX5_doorsOf_1 := t_loop (pT := 21) (pF := 87) (pu := 81) (PB' := []) (PK' := []) (XB := [81]) (XU := [84]) (fun _ _ => rfl) rfl (c_and (p1 := 14) (pT := 21) (pF := 87) (c_lt_F (pF := 87) (s_iload dX5_doorsOf_5 rfl) (s_getI ck5 5 (by decide) rfl (s_aload_n dX5_doorsOf_7 rfl rfl) dX5_doorsOf_8 w1_157) dX5_doorsOf_11 rfl) (c_lt_F (pF := 87) (s_iload dX5_doorsOf_14 rfl) (s_bipush dX5_doorsOf_16 rfl) dX5_doorsOf_18 rfl)) (t_sq (p1 := 32) (Γ' := [(0, 2), (1, 0), (2, 0), (3, 0), (4, 0), (5, 0)]) (t_istore (s_of_xI (x_callN (ts := [(0, 2), (1, 0)]) kX11_cell mokX11_cell w3_229 rfl rfl rfl (a_I (ts := [(0, 2)]) 1 (a_R (ts := []) 0 a_nil (s_getR ck5 9 (by decide) rfl (s_aload_n dX5_doorsOf_21 rfl rfl) dX5_doorsOf_22 w1_173) rfl) (s_iload dX5_doorsOf_25 rfl) rfl) dX5_doorsOf_27 nb13)) dX5_doorsOf_30 rfl rfl) (t_sq (p1 := 43) (Γ' := [(0, 2), (1, 0), (2, 0), (3, 0), (4, 0), (5, 0), (6, 0)]) (t_istore (s_of_xI (x_callN (ts := [(0, 2), (1, 0)]) kX11_cell mokX11_cell w3_229 rfl rfl rfl (a_I (ts := [(0, 2)]) 1 (a_R (ts := []) 0 a_nil (s_getR ck5 10 (by decide) rfl (s_aload_n dX5_doorsOf_32 rfl rfl) dX5_doorsOf_33 w1_176) rfl) (s_iload dX5_doorsOf_36 rfl) rfl) dX5_doorsOf_38 nb13)) dX5_doorsOf_41 rfl rfl) (t_sq (p1 := 62) (Γ' := [(0, 2), (1, 0), (2, 0), (3, 0), (4, 0), (5, 0), (6, 0)]) (t_if (pT := 55) (pF := 62) (X := [62]) (XA := [62]) (XB := [62]) (c_and (p1 := 49) (pT := 55) (pF := 62) (c_ne_F (pF := 62) (s_iload dX5_doorsOf_43 rfl) (s_iload_n dX5_doorsOf_45 rfl rfl) dX5_doorsOf_46 rfl) (c_eq_F (pF := 62) (s_iload dX5_doorsOf_49 rfl) (s_iload_n dX5_doorsOf_51 rfl rfl) dX5_doorsOf_52 rfl)) (t_istore_n (s_ior (s_iload_n dX5_doorsOf_55 rfl rfl) (s_ishl (s_iconst dX5_doorsOf_56 rfl) (s_iload dX5_doorsOf_57 rfl) dX5_doorsOf_59) dX5_doorsOf_60) dX5_doorsOf_61 rfl rfl rfl) (t_skip (ld_in rfl) rfl) (lda_cons (ld_in rfl) lda_nil) (lda_cons (ld_in rfl) lda_nil)) (t_if (pT := 74) (pF := 81) (X := [81]) (XA := [81]) (XB := [81]) (c_and (p1 := 68) (pT := 74) (pF := 81) (c_ne_F (pF := 81) (s_iload dX5_doorsOf_62 rfl) (s_iload_n dX5_doorsOf_64 rfl rfl) dX5_doorsOf_65 rfl) (c_eq_F (pF := 81) (s_iload dX5_doorsOf_68 rfl) (s_iload_n dX5_doorsOf_70 rfl rfl) dX5_doorsOf_71 rfl)) (t_istore_n (s_ior (s_iload_n dX5_doorsOf_74 rfl rfl) (s_ishl (s_iconst dX5_doorsOf_75 rfl) (s_iload dX5_doorsOf_76 rfl) dX5_doorsOf_78) dX5_doorsOf_79) dX5_doorsOf_80 rfl rfl rfl) (t_skip (ld_in rfl) rfl) (lda_cons (ld_in rfl) lda_nil) (lda_cons (ld_in rfl) lda_nil))))) (t_iinc dX5_doorsOf_81 rfl rfl rfl rfl) (lda_cons (ld_in rfl) lda_nil) lda_nil (lda_cons (ld_goto (y := 5) dX5_doorsOf_84 rfl (ld_in rfl)) lda_nil) (ld_in rfl) lda_nil
noncomputable def BX5_doorsOf : Sm Int32 := (dSeq (dSetI 3 (cI 0)) (dSeq (dSeq (dSetI 4 (cI 0)) LX5_doorsOf_1) (dRet (vI 3))))
theorem sBX5_doorsOf : SS (cvoI, .ireturn) miX5_doorsOf [] [] [] [(0, 2), (1, 0), (2, 0)] [(0, 2), (1, 0), (2, 0)] 0 [] BX5_doorsOf := (t_sq (p1 := 2) (Γ' := [(0, 2), (1, 0), (2, 0), (3, 0)]) (t_istore_n (s_iconst dX5_doorsOf_0 rfl) dX5_doorsOf_1 rfl rfl rfl) (t_sq (p1 := 87) (Γ' := [(0, 2), (1, 0), (2, 0), (3, 0)]) (t_sq (p1 := 5) (Γ' := [(0, 2), (1, 0), (2, 0), (3, 0), (4, 0)]) (t_istore (s_iconst dX5_doorsOf_2 rfl) dX5_doorsOf_3 rfl rfl) (tn_to (Γ' := [(0, 2), (1, 0), (2, 0), (3, 0), (4, 0)]) (XA := [87]) sLX5_doorsOf_1 (lda_cons (ld_in rfl) lda_nil) rfl)) (t_ret (cv := cvI) (fun _ _ => rfl) (s_iload_n dX5_doorsOf_87 rfl rfl) dX5_doorsOf_88)))
noncomputable def DX5_doorsOf : Fr → St → Option (Int32 × St) := M1 (fun f => (sI (sI (sR fr0 0 (gR f 0)) 1 (gI f 1)) 2 (gI f 2))) BX5_doorsOf
theorem kX5_doorsOf : SND yX5_doorsOf cX5_doorsOf 7 (some .int) 2 [(0, 2), (1, 0), (2, 0)] cvoI DX5_doorsOf := snd_I (nw := 3) (by decide) rfl rfl (fun _ _ => rfl) sBX5_doorsOf
theorem dX11_doors_0 : decode cX11_doors 0 = .ok (.aload_n 0, 1) := by decide +kernel
theorem dX11_doors_1 : decode cX11_doors 1 = .ok (.getfield 26, 3) := by decide +kernel
theorem dX11_doors_4 : decode cX11_doors 4 = .ok (.iload_n 1, 1) := by decide +kernel
theorem dX11_doors_5 : decode cX11_doors 5 = .ok (.invokevirtual 117, 3) := by decide +kernel
theorem dX11_doors_8 : decode cX11_doors 8 = .ok (.ifCond .eq 15, 3) := by decide +kernel
theorem dX11_doors_11 : decode cX11_doors 11 = .ok (.aload_n 0, 1) := by decide +kernel
theorem dX11_doors_12 : decode cX11_doors 12 = .ok (.getfield 26, 3) := by decide +kernel
theorem dX11_doors_15 : decode cX11_doors 15 = .ok (.iload_n 1, 1) := by decide +kernel
theorem dX11_doors_16 : decode cX11_doors 16 = .ok (.iconst (-1), 1) := by decide +kernel
theorem dX11_doors_17 : decode cX11_doors 17 = .ok (.invokevirtual 150, 3) := by decide +kernel
theorem dX11_doors_20 : decode cX11_doors 20 = .ok (.goto 5, 3) := by decide +kernel
theorem dX11_doors_23 : decode cX11_doors 23 = .ok (.bipush (-2), 2) := by decide +kernel
theorem dX11_doors_25 : decode cX11_doors 25 = .ok (.ireturn, 1) := by decide +kernel
theorem mokX11_doors : MOK yX11_doors cX11_doors 2 (some .int) 1 := ⟨w4_18, w1_1, ⟨by decide, by decide⟩, by decide +kernel, by decide⟩
abbrev miX11_doors : MI := (yX11_doors.cls, cX11_doors, 2, 3, false)
noncomputable def BX11_doors : Sm Int32 := (dRet (dT (dCZ q_ne (dCallV 5 DX5_isHouse (aI (aR aN 0 (dGR 11 2 (vR 0))) 1 (vI 1)))) (dCallV 5 DX5_doorsOf (aI (aI (aR aN 0 (dGR 11 2 (vR 0))) 1 (vI 1)) 2 (cI (-1)))) (cI (-2))))
theorem sBX11_doors : SS (cvoI, .ireturn) miX11_doors [] [] [] [(0, 2), (1, 0)] [(0, 2), (1, 0)] 0 [] BX11_doors := (t_ret (cv := cvI) (fun _ _ => rfl) (s_T (pT := 11) (pF := 23) (p1 := 20) (pe := 25) (c_ne_ZF (pF := 23) (s_of_xI (x_callV (ts := [(0, 2), (1, 0)]) ck5 rfl kX5_isHouse mokX5_isHouse w3_225 w3_226 rfl rfl rfl rfl (a_I (ts := [(0, 2)]) 1 (a_R (ts := []) 0 a_nil (s_getR ck11 2 (by decide) rfl (s_aload_n dX11_doors_0 rfl rfl) dX11_doors_1 w2_220) rfl) (s_iload_n dX11_doors_4 rfl rfl) rfl) dX11_doors_5 w3_224)) dX11_doors_8 rfl) (s_of_xI (x_callV (ts := [(0, 2), (1, 0), (2, 0)]) ck5 rfl kX5_doorsOf mokX5_doorsOf w4_20 w4_21 rfl rfl rfl rfl (a_I (ts := [(0, 2), (1, 0)]) 2 (a_I (ts := [(0, 2)]) 1 (a_R (ts := []) 0 a_nil (s_getR ck11 2 (by decide) rfl (s_aload_n dX11_doors_11 rfl rfl) dX11_doors_12 w2_220) rfl) (s_iload_n dX11_doors_15 rfl rfl) rfl) (s_iconst dX11_doors_16 rfl) rfl) dX11_doors_17 w4_19)) (s_bipush dX11_doors_23 rfl) (ld_goto (y := 25) dX11_doors_20 rfl (ld_in rfl))) dX11_doors_25)
noncomputable def DX11_doors : Fr → St → Option (Int32 × St) := M1 (fun f => (sI (sR fr0 0 (gR f 0)) 1 (gI f 1))) BX11_doors
theorem kX11_doors : SND yX11_doors cX11_doors 2 (some .int) 3 [(0, 2), (1, 0)] cvoI DX11_doors := snd_I (nw := 2) (by decide) rfl rfl (fun _ _ => rfl) sBX11_doors
theorem dX11_hasBit_0 : decode cX11_hasBit 0 = .ok (.iload_n 1, 1) := by decide +kernel
theorem dX11_hasBit_1 : decode cX11_hasBit 1 = .ok (.ifCond .lt 21, 3) := by decide +kernel
theorem dX11_hasBit_4 : decode cX11_hasBit 4 = .ok (.iload_n 1, 1) := by decide +kernel
theorem dX11_hasBit_5 : decode cX11_hasBit 5 = .ok (.bipush 32, 2) := by decide +kernel
theorem dX11_hasBit_7 : decode cX11_hasBit 7 = .ok (.if_icmp .ge 15, 3) := by decide +kernel
theorem dX11_hasBit_10 : decode cX11_hasBit 10 = .ok (.iload_n 0, 1) := by decide +kernel
theorem dX11_hasBit_11 : decode cX11_hasBit 11 = .ok (.iload_n 1, 1) := by decide +kernel
theorem dX11_hasBit_12 : decode cX11_hasBit 12 = .ok (.iushr, 1) := by decide +kernel
theorem dX11_hasBit_13 : decode cX11_hasBit 13 = .ok (.iconst 1, 1) := by decide +kernel
theorem dX11_hasBit_14 : decode cX11_hasBit 14 = .ok (.iand, 1) := by decide +kernel
theorem dX11_hasBit_15 : decode cX11_hasBit 15 = .ok (.ifCond .eq 7, 3) := by decide +kernel
theorem dX11_hasBit_18 : decode cX11_hasBit 18 = .ok (.iconst 1, 1) := by decide +kernel
theorem dX11_hasBit_19 : decode cX11_hasBit 19 = .ok (.goto 4, 3) := by decide +kernel
theorem dX11_hasBit_22 : decode cX11_hasBit 22 = .ok (.iconst 0, 1) := by decide +kernel
theorem dX11_hasBit_23 : decode cX11_hasBit 23 = .ok (.ireturn, 1) := by decide +kernel
theorem mokX11_hasBit : MOK yX11_hasBit cX11_hasBit 2 (some .boolean) 2 := ⟨w4_38, w1_1, ⟨by decide, by decide⟩, by decide +kernel, by decide⟩
abbrev miX11_hasBit : MI := (yX11_hasBit.cls, cX11_hasBit, 2, 1, false)
noncomputable def BX11_hasBit : Sm Int32 := (dRet (dB (dAnd (dAnd (dCZ q_ge (vI 1)) (dCI r_lt (vI 1) (cI 32))) (dCZ q_ne (d2 o_iand (d2 o_iushr (vI 0) (vI 1)) (cI 1))))))
theorem sBX11_hasBit : SS (cvoI, .ireturn) miX11_hasBit [] [] [] [(0, 0), (1, 0)] [(0, 0), (1, 0)] 0 [] BX11_hasBit := (t_ret (cv := cvI) (fun _ _ => rfl) (s_B (pT := 18) (pF := 22) (pe := 23) (c_and (p1 := 10) (pT := 18) (pF := 22) (c_and (p1 := 4) (pT := 10) (pF := 22) (c_ge_ZF (pF := 22) (s_iload_n dX11_hasBit_0 rfl rfl) dX11_hasBit_1 rfl) (c_lt_F (pF := 22) (s_iload_n dX11_hasBit_4 rfl rfl) (s_bipush dX11_hasBit_5 rfl) dX11_hasBit_7 rfl)) (c_ne_ZF (pF := 22) (s_iand (s_iushr (s_iload_n dX11_hasBit_10 rfl rfl) (s_iload_n dX11_hasBit_11 rfl rfl) dX11_hasBit_12) (s_iconst dX11_hasBit_13 rfl) dX11_hasBit_14) dX11_hasBit_15 rfl)) dX11_hasBit_18 dX11_hasBit_19 rfl dX11_hasBit_22 rfl) dX11_hasBit_23)
noncomputable def DX11_hasBit : Fr → St → Option (Int32 × St) := MZ (fun f => (sI (sI fr0 0 (gI f 0)) 1 (gI f 1))) BX11_hasBit
theorem kX11_hasBit : SND yX11_hasBit cX11_hasBit 2 (some .boolean) 1 [(0, 0), (1, 0)] cvoI DX11_hasBit := snd_Z (nw := 2) (by decide) rfl rfl (fun _ _ => rfl) sBX11_hasBit
theorem dX4_nextTo_0 : decode cX4_nextTo 0 = .ok (.iconst 0, 1) := by decide +kernel
theorem dX4_nextTo_1 : decode cX4_nextTo 1 = .ok (.istore_n 2, 1) := by decide +kernel
theorem dX4_nextTo_2 : decode cX4_nextTo 2 = .ok (.iconst 0, 1) := by decide +kernel
theorem dX4_nextTo_3 : decode cX4_nextTo 3 = .ok (.istore_n 3, 1) := by decide +kernel
theorem dX4_nextTo_4 : decode cX4_nextTo 4 = .ok (.iload_n 3, 1) := by decide +kernel
theorem dX4_nextTo_5 : decode cX4_nextTo 5 = .ok (.aload_n 0, 1) := by decide +kernel
theorem dX4_nextTo_6 : decode cX4_nextTo 6 = .ok (.getfield 53, 3) := by decide +kernel
theorem dX4_nextTo_9 : decode cX4_nextTo 9 = .ok (.if_icmp .ge 26, 3) := by decide +kernel
theorem dX4_nextTo_12 : decode cX4_nextTo 12 = .ok (.iload_n 1, 1) := by decide +kernel
theorem dX4_nextTo_13 : decode cX4_nextTo 13 = .ok (.iload_n 3, 1) := by decide +kernel
theorem dX4_nextTo_14 : decode cX4_nextTo 14 = .ok (.invokestatic 15, 3) := by decide +kernel
theorem dX4_nextTo_17 : decode cX4_nextTo 17 = .ok (.ifCond .eq 12, 3) := by decide +kernel
theorem dX4_nextTo_20 : decode cX4_nextTo 20 = .ok (.iload_n 2, 1) := by decide +kernel
theorem dX4_nextTo_21 : decode cX4_nextTo 21 = .ok (.aload_n 0, 1) := by decide +kernel
theorem dX4_nextTo_22 : decode cX4_nextTo 22 = .ok (.iload_n 3, 1) := by decide +kernel
theorem dX4_nextTo_23 : decode cX4_nextTo 23 = .ok (.iconst (-1), 1) := by decide +kernel
theorem dX4_nextTo_24 : decode cX4_nextTo 24 = .ok (.invokevirtual 56, 3) := by decide +kernel
theorem dX4_nextTo_27 : decode cX4_nextTo 27 = .ok (.ior, 1) := by decide +kernel
theorem dX4_nextTo_28 : decode cX4_nextTo 28 = .ok (.istore_n 2, 1) := by decide +kernel
theorem dX4_nextTo_29 : decode cX4_nextTo 29 = .ok (.iinc 3 1, 3) := by decide +kernel
theorem dX4_nextTo_32 : decode cX4_nextTo 32 = .ok (.goto (-28), 3) := by decide +kernel
theorem dX4_nextTo_35 : decode cX4_nextTo 35 = .ok (.iload_n 2, 1) := by decide +kernel
theorem dX4_nextTo_36 : decode cX4_nextTo 36 = .ok (.ireturn, 1) := by decide +kernel
theorem mokX4_nextTo : MOK yX4_nextTo cX4_nextTo 4 (some .int) 2 := ⟨w4_41, w1_9, ⟨by decide, by decide⟩, by decide +kernel, by decide⟩
abbrev miX4_nextTo : MI := (yX4_nextTo.cls, cX4_nextTo, 4, 3, false)
noncomputable def LX4_nextTo_1 : Sm Int32 := dLoop (fun f => (sI (sI (sI (sR fr0 0 (gR f 0)) 1 (gI f 1)) 2 (gI f 2)) 3 (gI f 3))) (dCI r_lt (vI 3) (dGI 5 4 (vR 0))) (dIf (dCZ q_ne (dCall DX11_hasBit (aI (aI aN 0 (vI 1)) 1 (vI 3)))) (dSetI 2 (d2 o_ior (vI 2) (dCallV 5 DX5_doorsOf (aI (aI (aR aN 0 (vR 0)) 1 (vI 3)) 2 (cI (-1)))))) dSkip) (dInc 3 1)
theorem sLX4_nextTo_1 {ΓL : Gm} {PB PK : List Nat} : SS (cvoI, .ireturn) miX4_nextTo ΓL PB PK [(0, 2), (1, 0), (2, 0), (3, 0)] [(0, 2), (1, 0), (2, 0), (3, 0)] 4 [35] LX4_nextTo_1 := t_loop (pT := 12) (pF := 35) (pu := 29) (PB' := []) (PK' := []) (XB := [29]) (XU := [32]) (fun _ _ => rfl) rfl (c_lt_F (pF := 35) (s_iload_n dX4_nextTo_4 rfl rfl) (s_getI ck5 4 (by decide) rfl (s_aload_n dX4_nextTo_5 rfl rfl) dX4_nextTo_6 w1_152) dX4_nextTo_9 rfl) (t_if (pT := 20) (pF := 29) (X := [29]) (XA := [29]) (XB := [29]) (c_ne_ZF (pF := 29) (s_of_xI (x_callN (ts := [(0, 0), (1, 0)]) kX11_hasBit mokX11_hasBit w4_37 rfl rfl rfl (a_I (ts := [(0, 0)]) 1 (a_I (ts := []) 0 a_nil (s_iload_n dX4_nextTo_12 rfl rfl) rfl) (s_iload_n dX4_nextTo_13 rfl rfl) rfl) dX4_nextTo_14 nb14)) dX4_nextTo_17 rfl) (t_istore_n (s_ior (s_iload_n dX4_nextTo_20 rfl rfl) (s_of_xI (x_callV (ts := [(0, 2), (1, 0), (2, 0)]) ck5 rfl kX5_doorsOf mokX5_doorsOf w4_20 w4_21 rfl rfl rfl rfl (a_I (ts := [(0, 2), (1, 0)]) 2 (a_I (ts := [(0, 2)]) 1 (a_R (ts := []) 0 a_nil (s_aload_n dX4_nextTo_21 rfl rfl) rfl) (s_iload_n dX4_nextTo_22 rfl rfl) rfl) (s_iconst dX4_nextTo_23 rfl) rfl) dX4_nextTo_24 w4_42)) dX4_nextTo_27) dX4_nextTo_28 rfl rfl rfl) (t_skip (ld_in rfl) rfl) (lda_cons (ld_in rfl) lda_nil) (lda_cons (ld_in rfl) lda_nil)) (t_iinc dX4_nextTo_29 rfl rfl rfl rfl) (lda_cons (ld_in rfl) lda_nil) lda_nil (lda_cons (ld_goto (y := 4) dX4_nextTo_32 rfl (ld_in rfl)) lda_nil) (ld_in rfl) lda_nil
noncomputable def BX4_nextTo : Sm Int32 := (dSeq (dSetI 2 (cI 0)) (dSeq (dSeq (dSetI 3 (cI 0)) LX4_nextTo_1) (dRet (vI 2))))
theorem sBX4_nextTo : SS (cvoI, .ireturn) miX4_nextTo [] [] [] [(0, 2), (1, 0)] [(0, 2), (1, 0)] 0 [] BX4_nextTo := (t_sq (p1 := 2) (Γ' := [(0, 2), (1, 0), (2, 0)]) (t_istore_n (s_iconst dX4_nextTo_0 rfl) dX4_nextTo_1 rfl rfl rfl) (t_sq (p1 := 35) (Γ' := [(0, 2), (1, 0), (2, 0)]) (t_sq (p1 := 4) (Γ' := [(0, 2), (1, 0), (2, 0), (3, 0)]) (t_istore_n (s_iconst dX4_nextTo_2 rfl) dX4_nextTo_3 rfl rfl rfl) (tn_to (Γ' := [(0, 2), (1, 0), (2, 0), (3, 0)]) (XA := [35]) sLX4_nextTo_1 (lda_cons (ld_in rfl) lda_nil) rfl)) (t_ret (cv := cvI) (fun _ _ => rfl) (s_iload_n dX4_nextTo_35 rfl rfl) dX4_nextTo_36)))
noncomputable def DX4_nextTo : Fr → St → Option (Int32 × St) := M1 (fun f => (sI (sR fr0 0 (gR f 0)) 1 (gI f 1))) BX4_nextTo
theorem kX4_nextTo : SND yX4_nextTo cX4_nextTo 4 (some .int) 3 [(0, 2), (1, 0)] cvoI DX4_nextTo := snd_I (nw := 2) (by decide) rfl rfl (fun _ _ => rfl) sBX4_nextTo
theorem dX4_fewestWays_0 : decode cX4_fewestWays 0 = .ok (.iconst 1, 1) := by decide +kernel
theorem dX4_fewestWays_1 : decode cX4_fewestWays 1 = .ok (.iload_n 2, 1) := by decide +kernel
theorem dX4_fewestWays_2 : decode cX4_fewestWays 2 = .ok (.ishl, 1) := by decide +kernel
theorem dX4_fewestWays_3 : decode cX4_fewestWays 3 = .ok (.istore 4, 2) := by decide +kernel
theorem dX4_fewestWays_5 : decode cX4_fewestWays 5 = .ok (.iconst 0, 1) := by decide +kernel
theorem dX4_fewestWays_6 : decode cX4_fewestWays 6 = .ok (.istore 5, 2) := by decide +kernel
theorem dX4_fewestWays_8 : decode cX4_fewestWays 8 = .ok (.iload 5, 2) := by decide +kernel
theorem dX4_fewestWays_10 : decode cX4_fewestWays 10 = .ok (.bipush 8, 2) := by decide +kernel
theorem dX4_fewestWays_12 : decode cX4_fewestWays 12 = .ok (.if_icmp .ge 32, 3) := by decide +kernel
theorem dX4_fewestWays_15 : decode cX4_fewestWays 15 = .ok (.iload 4, 2) := by decide +kernel
theorem dX4_fewestWays_17 : decode cX4_fewestWays 17 = .ok (.iload_n 3, 1) := by decide +kernel
theorem dX4_fewestWays_18 : decode cX4_fewestWays 18 = .ok (.invokestatic 15, 3) := by decide +kernel
theorem dX4_fewestWays_21 : decode cX4_fewestWays 21 = .ok (.ifCond .eq 6, 3) := by decide +kernel
theorem dX4_fewestWays_24 : decode cX4_fewestWays 24 = .ok (.iload 5, 2) := by decide +kernel
theorem dX4_fewestWays_26 : decode cX4_fewestWays 26 = .ok (.ireturn, 1) := by decide +kernel
theorem dX4_fewestWays_27 : decode cX4_fewestWays 27 = .ok (.iload 4, 2) := by decide +kernel
theorem dX4_fewestWays_29 : decode cX4_fewestWays 29 = .ok (.aload_n 1, 1) := by decide +kernel
theorem dX4_fewestWays_30 : decode cX4_fewestWays 30 = .ok (.iload 4, 2) := by decide +kernel
theorem dX4_fewestWays_32 : decode cX4_fewestWays 32 = .ok (.invokestatic 19, 3) := by decide +kernel
theorem dX4_fewestWays_35 : decode cX4_fewestWays 35 = .ok (.ior, 1) := by decide +kernel
theorem dX4_fewestWays_36 : decode cX4_fewestWays 36 = .ok (.istore 4, 2) := by decide +kernel
theorem dX4_fewestWays_38 : decode cX4_fewestWays 38 = .ok (.iinc 5 1, 3) := by decide +kernel
theorem dX4_fewestWays_41 : decode cX4_fewestWays 41 = .ok (.goto (-33), 3) := by decide +kernel
theorem dX4_fewestWays_44 : decode cX4_fewestWays 44 = .ok (.iconst (-1), 1) := by decide +kernel
theorem dX4_fewestWays_45 : decode cX4_fewestWays 45 = .ok (.ireturn, 1) := by decide +kernel
theorem mokX4_fewestWays : MOK yX4_fewestWays cX4_fewestWays 6 (some .int) 3 := ⟨w4_35, w1_9, ⟨by decide, by decide⟩, by decide +kernel, by decide⟩
abbrev miX4_fewestWays : MI := (yX4_fewestWays.cls, cX4_fewestWays, 6, 4, false)
noncomputable def LX4_fewestWays_1 : Sm Int32 := dLoop (fun f => (sI (sI (sI (sI (sR (sR fr0 0 (gR f 0)) 1 (gR f 1)) 2 (gI f 2)) 3 (gI f 3)) 4 (gI f 4)) 5 (gI f 5))) (dCI r_lt (vI 5) (cI 8)) (dSeq (dIf (dCZ q_ne (dCall DX11_hasBit (aI (aI aN 0 (vI 4)) 1 (vI 3)))) (dRet (vI 5)) dSkip) (dSetI 4 (d2 o_ior (vI 4) (dCall DX4_nextTo (aI (aR aN 0 (vR 1)) 1 (vI 4)))))) (dInc 5 1)
theorem sLX4_fewestWays_1 {ΓL : Gm} {PB PK : List Nat} : SS (cvoI, .ireturn) miX4_fewestWays ΓL PB PK [(0, 2), (1, 2), (2, 0), (3, 0), (4, 0), (5, 0)] [(0, 2), (1, 2), (2, 0), (3, 0), (4, 0), (5, 0)] 8 [44] LX4_fewestWays_1 := t_loop (pT := 15) (pF := 44) (pu := 38) (PB' := []) (PK' := []) (XB := [38]) (XU := [41]) (fun _ _ => rfl) rfl (c_lt_F (pF := 44) (s_iload dX4_fewestWays_8 rfl) (s_bipush dX4_fewestWays_10 rfl) dX4_fewestWays_12 rfl) (t_sq (p1 := 27) (Γ' := [(0, 2), (1, 2), (2, 0), (3, 0), (4, 0), (5, 0)]) (t_if (pT := 24) (pF := 27) (X := [27]) (XA := []) (XB := [27]) (c_ne_ZF (pF := 27) (s_of_xI (x_callN (ts := [(0, 0), (1, 0)]) kX11_hasBit mokX11_hasBit w4_37 rfl rfl rfl (a_I (ts := [(0, 0)]) 1 (a_I (ts := []) 0 a_nil (s_iload dX4_fewestWays_15 rfl) rfl) (s_iload_n dX4_fewestWays_17 rfl rfl) rfl) dX4_fewestWays_18 nb14)) dX4_fewestWays_21 rfl) (t_ret (cv := cvI) (fun _ _ => rfl) (s_iload dX4_fewestWays_24 rfl) dX4_fewestWays_26) (t_skip (ld_in rfl) rfl) lda_nil (lda_cons (ld_in rfl) lda_nil)) (t_istore (s_ior (s_iload dX4_fewestWays_27 rfl) (s_of_xI (x_call (ts := [(0, 2), (1, 0)]) kX4_nextTo mokX4_nextTo w4_40 rfl rfl rfl (a_I (ts := [(0, 2)]) 1 (a_R (ts := []) 0 a_nil (s_aload_n dX4_fewestWays_29 rfl rfl) rfl) (s_iload dX4_fewestWays_30 rfl) rfl) dX4_fewestWays_32 w4_39)) dX4_fewestWays_35) dX4_fewestWays_36 rfl rfl)) (t_iinc dX4_fewestWays_38 rfl rfl rfl rfl) (lda_cons (ld_in rfl) lda_nil) lda_nil (lda_cons (ld_goto (y := 8) dX4_fewestWays_41 rfl (ld_in rfl)) lda_nil) (ld_in rfl) lda_nil
noncomputable def BX4_fewestWays : Sm Int32 := (dSeq (dSetI 4 (d2 o_ishl (cI 1) (vI 2))) (dSeq (dSeq (dSetI 5 (cI 0)) LX4_fewestWays_1) (dRet (cI (-1)))))
theorem sBX4_fewestWays : SS (cvoI, .ireturn) miX4_fewestWays [] [] [] [(0, 2), (1, 2), (2, 0), (3, 0)] [(0, 2), (1, 2), (2, 0), (3, 0)] 0 [] BX4_fewestWays := (t_sq (p1 := 5) (Γ' := [(0, 2), (1, 2), (2, 0), (3, 0), (4, 0)]) (t_istore (s_ishl (s_iconst dX4_fewestWays_0 rfl) (s_iload_n dX4_fewestWays_1 rfl rfl) dX4_fewestWays_2) dX4_fewestWays_3 rfl rfl) (t_sq (p1 := 44) (Γ' := [(0, 2), (1, 2), (2, 0), (3, 0), (4, 0)]) (t_sq (p1 := 8) (Γ' := [(0, 2), (1, 2), (2, 0), (3, 0), (4, 0), (5, 0)]) (t_istore (s_iconst dX4_fewestWays_5 rfl) dX4_fewestWays_6 rfl rfl) (tn_to (Γ' := [(0, 2), (1, 2), (2, 0), (3, 0), (4, 0), (5, 0)]) (XA := [44]) sLX4_fewestWays_1 (lda_cons (ld_in rfl) lda_nil) rfl)) (t_ret (cv := cvI) (fun _ _ => rfl) (s_iconst dX4_fewestWays_44 rfl) dX4_fewestWays_45)))
noncomputable def DX4_fewestWays : Fr → St → Option (Int32 × St) := M1 (fun f => (sI (sI (sR (sR fr0 0 (gR f 0)) 1 (gR f 1)) 2 (gI f 2)) 3 (gI f 3))) BX4_fewestWays
theorem kX4_fewestWays : SND yX4_fewestWays cX4_fewestWays 6 (some .int) 4 [(0, 2), (1, 2), (2, 0), (3, 0)] cvoI DX4_fewestWays := snd_I (nw := 4) (by decide) rfl rfl (fun _ _ => rfl) sBX4_fewestWays
theorem dX5_areHouses_0 : decode cX5_areHouses 0 = .ok (.aload_n 0, 1) := by decide +kernel
theorem dX5_areHouses_1 : decode cX5_areHouses 1 = .ok (.iload_n 1, 1) := by decide +kernel
theorem dX5_areHouses_2 : decode cX5_areHouses 2 = .ok (.invokevirtual 81, 3) := by decide +kernel
theorem dX5_areHouses_5 : decode cX5_areHouses 5 = .ok (.ifCond .eq 15, 3) := by decide +kernel
theorem dX5_areHouses_8 : decode cX5_areHouses 8 = .ok (.aload_n 0, 1) := by decide +kernel
theorem dX5_areHouses_9 : decode cX5_areHouses 9 = .ok (.iload_n 2, 1) := by decide +kernel
theorem dX5_areHouses_10 : decode cX5_areHouses 10 = .ok (.invokevirtual 81, 3) := by decide +kernel
theorem dX5_areHouses_13 : decode cX5_areHouses 13 = .ok (.ifCond .eq 7, 3) := by decide +kernel
theorem dX5_areHouses_16 : decode cX5_areHouses 16 = .ok (.iconst 1, 1) := by decide +kernel
theorem dX5_areHouses_17 : decode cX5_areHouses 17 = .ok (.goto 4, 3) := by decide +kernel
theorem dX5_areHouses_20 : decode cX5_areHouses 20 = .ok (.iconst 0, 1) := by decide +kernel
theorem dX5_areHouses_21 : decode cX5_areHouses 21 = .ok (.ireturn, 1) := by decide +kernel
theorem mokX5_areHouses : MOK yX5_areHouses cX5_areHouses 3 (some .boolean) 2 := ⟨w4_30, w1_4, ⟨by decide, by decide⟩, by decide +kernel, by decide⟩
abbrev miX5_areHouses : MI := (yX5_areHouses.cls, cX5_areHouses, 3, 2, false)
noncomputable def BX5_areHouses : Sm Int32 := (dRet (dB (dAnd (dCZ q_ne (dCallV 5 DX5_isHouse (aI (aR aN 0 (vR 0)) 1 (vI 1)))) (dCZ q_ne (dCallV 5 DX5_isHouse (aI (aR aN 0 (vR 0)) 1 (vI 2)))))))
theorem sBX5_areHouses : SS (cvoI, .ireturn) miX5_areHouses [] [] [] [(0, 2), (1, 0), (2, 0)] [(0, 2), (1, 0), (2, 0)] 0 [] BX5_areHouses := (t_ret (cv := cvI) (fun _ _ => rfl) (s_B (pT := 16) (pF := 20) (pe := 21) (c_and (p1 := 8) (pT := 16) (pF := 20) (c_ne_ZF (pF := 20) (s_of_xI (x_callV (ts := [(0, 2), (1, 0)]) ck5 rfl kX5_isHouse mokX5_isHouse w3_225 w3_226 rfl rfl rfl rfl (a_I (ts := [(0, 2)]) 1 (a_R (ts := []) 0 a_nil (s_aload_n dX5_areHouses_0 rfl rfl) rfl) (s_iload_n dX5_areHouses_1 rfl rfl) rfl) dX5_areHouses_2 w4_31)) dX5_areHouses_5 rfl) (c_ne_ZF (pF := 20) (s_of_xI (x_callV (ts := [(0, 2), (1, 0)]) ck5 rfl kX5_isHouse mokX5_isHouse w3_225 w3_226 rfl rfl rfl rfl (a_I (ts := [(0, 2)]) 1 (a_R (ts := []) 0 a_nil (s_aload_n dX5_areHouses_8 rfl rfl) rfl) (s_iload_n dX5_areHouses_9 rfl rfl) rfl) dX5_areHouses_10 w4_31)) dX5_areHouses_13 rfl)) dX5_areHouses_16 dX5_areHouses_17 rfl dX5_areHouses_20 rfl) dX5_areHouses_21)
noncomputable def DX5_areHouses : Fr → St → Option (Int32 × St) := MZ (fun f => (sI (sI (sR fr0 0 (gR f 0)) 1 (gI f 1)) 2 (gI f 2))) BX5_areHouses
theorem kX5_areHouses : SND yX5_areHouses cX5_areHouses 3 (some .boolean) 2 [(0, 2), (1, 0), (2, 0)] cvoI DX5_areHouses := snd_Z (nw := 3) (by decide) rfl rfl (fun _ _ => rfl) sBX5_areHouses
theorem dX11_far_0 : decode cX11_far 0 = .ok (.aload_n 0, 1) := by decide +kernel
theorem dX11_far_1 : decode cX11_far 1 = .ok (.getfield 26, 3) := by decide +kernel
theorem dX11_far_4 : decode cX11_far 4 = .ok (.iload_n 1, 1) := by decide +kernel
theorem dX11_far_5 : decode cX11_far 5 = .ok (.iload_n 2, 1) := by decide +kernel
theorem dX11_far_6 : decode cX11_far 6 = .ok (.invokevirtual 154, 3) := by decide +kernel
theorem dX11_far_9 : decode cX11_far 9 = .ok (.ifCond .eq 19, 3) := by decide +kernel
theorem dX11_far_12 : decode cX11_far 12 = .ok (.aload_n 0, 1) := by decide +kernel
theorem dX11_far_13 : decode cX11_far 13 = .ok (.getfield 57, 3) := by decide +kernel
theorem dX11_far_16 : decode cX11_far 16 = .ok (.aload_n 0, 1) := by decide +kernel
theorem dX11_far_17 : decode cX11_far 17 = .ok (.getfield 26, 3) := by decide +kernel
theorem dX11_far_20 : decode cX11_far 20 = .ok (.iload_n 1, 1) := by decide +kernel
theorem dX11_far_21 : decode cX11_far 21 = .ok (.iload_n 2, 1) := by decide +kernel
theorem dX11_far_22 : decode cX11_far 22 = .ok (.invokevirtual 157, 3) := by decide +kernel
theorem dX11_far_25 : decode cX11_far 25 = .ok (.goto 5, 3) := by decide +kernel
theorem dX11_far_28 : decode cX11_far 28 = .ok (.bipush (-2), 2) := by decide +kernel
theorem dX11_far_30 : decode cX11_far 30 = .ok (.ireturn, 1) := by decide +kernel
theorem mokX11_far : MOK yX11_far cX11_far 3 (some .int) 2 := ⟨w4_26, w1_1, ⟨by decide, by decide⟩, by decide +kernel, by decide⟩
abbrev miX11_far : MI := (yX11_far.cls, cX11_far, 3, 5, false)
noncomputable def BX11_far : Sm Int32 := (dRet (dT (dCZ q_ne (dCallV 5 DX5_areHouses (aI (aI (aR aN 0 (dGR 11 2 (vR 0))) 1 (vI 1)) 2 (vI 2)))) (dCallV 4 DX4_fewestWays (aI (aI (aR (aR aN 0 (dGR 11 8 (vR 0))) 1 (dGR 11 2 (vR 0))) 2 (vI 1)) 3 (vI 2))) (cI (-2))))
theorem sBX11_far : SS (cvoI, .ireturn) miX11_far [] [] [] [(0, 2), (1, 0), (2, 0)] [(0, 2), (1, 0), (2, 0)] 0 [] BX11_far := (t_ret (cv := cvI) (fun _ _ => rfl) (s_T (pT := 12) (pF := 28) (p1 := 25) (pe := 30) (c_ne_ZF (pF := 28) (s_of_xI (x_callV (ts := [(0, 2), (1, 0), (2, 0)]) ck5 rfl kX5_areHouses mokX5_areHouses w4_28 w4_29 rfl rfl rfl rfl (a_I (ts := [(0, 2), (1, 0)]) 2 (a_I (ts := [(0, 2)]) 1 (a_R (ts := []) 0 a_nil (s_getR ck11 2 (by decide) rfl (s_aload_n dX11_far_0 rfl rfl) dX11_far_1 w2_220) rfl) (s_iload_n dX11_far_4 rfl rfl) rfl) (s_iload_n dX11_far_5 rfl rfl) rfl) dX11_far_6 w4_27)) dX11_far_9 rfl) (s_of_xI (x_callV (ts := [(0, 2), (1, 2), (2, 0), (3, 0)]) ck4 rfl kX4_fewestWays mokX4_fewestWays w4_33 w4_34 rfl rfl rfl rfl (a_I (ts := [(0, 2), (1, 2), (2, 0)]) 3 (a_I (ts := [(0, 2), (1, 2)]) 2 (a_R (ts := [(0, 2)]) 1 (a_R (ts := []) 0 a_nil (s_getR ck11 8 (by decide) rfl (s_aload_n dX11_far_12 rfl rfl) dX11_far_13 w2_226) rfl) (s_getR ck11 2 (by decide) rfl (s_aload_n dX11_far_16 rfl rfl) dX11_far_17 w2_220) rfl) (s_iload_n dX11_far_20 rfl rfl) rfl) (s_iload_n dX11_far_21 rfl rfl) rfl) dX11_far_22 w4_32)) (s_bipush dX11_far_28 rfl) (ld_goto (y := 30) dX11_far_25 rfl (ld_in rfl))) dX11_far_30)
noncomputable def DX11_far : Fr → St → Option (Int32 × St) := M1 (fun f => (sI (sI (sR fr0 0 (gR f 0)) 1 (gI f 1)) 2 (gI f 2))) BX11_far
theorem kX11_far : SND yX11_far cX11_far 3 (some .int) 5 [(0, 2), (1, 0), (2, 0)] cvoI DX11_far := snd_I (nw := 3) (by decide) rfl rfl (fun _ _ => rfl) sBX11_far
theorem dJ7_fill_53178_0 : decode cJ7_fill_53178 0 = .ok (.iconst 0, 1) := by decide +kernel
theorem dJ7_fill_53178_1 : decode cJ7_fill_53178 1 = .ok (.istore_n 2, 1) := by decide +kernel
theorem dJ7_fill_53178_2 : decode cJ7_fill_53178 2 = .ok (.aload_n 0, 1) := by decide +kernel
theorem dJ7_fill_53178_3 : decode cJ7_fill_53178 3 = .ok (.arraylength, 1) := by decide +kernel
theorem dJ7_fill_53178_4 : decode cJ7_fill_53178 4 = .ok (.istore_n 3, 1) := by decide +kernel
theorem dJ7_fill_53178_5 : decode cJ7_fill_53178 5 = .ok (.iload_n 2, 1) := by decide +kernel
theorem dJ7_fill_53178_6 : decode cJ7_fill_53178 6 = .ok (.iload_n 3, 1) := by decide +kernel
theorem dJ7_fill_53178_7 : decode cJ7_fill_53178 7 = .ok (.if_icmp .ge 13, 3) := by decide +kernel
theorem dJ7_fill_53178_10 : decode cJ7_fill_53178 10 = .ok (.aload_n 0, 1) := by decide +kernel
theorem dJ7_fill_53178_11 : decode cJ7_fill_53178 11 = .ok (.iload_n 2, 1) := by decide +kernel
theorem dJ7_fill_53178_12 : decode cJ7_fill_53178 12 = .ok (.iload_n 1, 1) := by decide +kernel
theorem dJ7_fill_53178_13 : decode cJ7_fill_53178 13 = .ok (.iastore, 1) := by decide +kernel
theorem dJ7_fill_53178_14 : decode cJ7_fill_53178 14 = .ok (.iinc 2 1, 3) := by decide +kernel
theorem dJ7_fill_53178_17 : decode cJ7_fill_53178 17 = .ok (.goto (-12), 3) := by decide +kernel
theorem dJ7_fill_53178_20 : decode cJ7_fill_53178 20 = .ok (.return_, 1) := by decide +kernel
theorem mokJ7_fill_53178 : MOK yJ7_fill_53178 cJ7_fill_53178 4 none 2 := ⟨w4_53, w1_20, ⟨by decide, by decide⟩, by decide +kernel, by decide⟩
abbrev miJ7_fill_53178 : MI := (yJ7_fill_53178.cls, cJ7_fill_53178, 4, 1, false)
noncomputable def LJ7_fill_53178_1 : Sm Unit := dLoop (fun f => (sI (sI (sI (sR fr0 0 (gR f 0)) 1 (gI f 1)) 2 (gI f 2)) 3 (gI f 3))) (dCI r_lt (vI 2) (vI 3)) (d3 (stI 13 idI) (vR 0) (vI 2) (vI 1)) (dInc 2 1)
theorem sLJ7_fill_53178_1 {ΓL : Gm} {PB PK : List Nat} : SS (cvoV, .return_) miJ7_fill_53178 ΓL PB PK [(0, 2), (1, 0), (2, 0), (3, 0)] [(0, 2), (1, 0), (2, 0), (3, 0)] 5 [20] LJ7_fill_53178_1 := t_loop (pT := 10) (pF := 20) (pu := 14) (PB' := []) (PK' := []) (XB := [14]) (XU := [17]) (fun _ _ => rfl) rfl (c_lt_F (pF := 20) (s_iload_n dJ7_fill_53178_5 rfl rfl) (s_iload_n dJ7_fill_53178_6 rfl rfl) dJ7_fill_53178_7 rfl) (t_stI (s_aload_n dJ7_fill_53178_10 rfl rfl) (s_iload_n dJ7_fill_53178_11 rfl rfl) (s_iload_n dJ7_fill_53178_12 rfl rfl) dJ7_fill_53178_13 rfl) (t_iinc dJ7_fill_53178_14 rfl rfl rfl rfl) (lda_cons (ld_in rfl) lda_nil) lda_nil (lda_cons (ld_goto (y := 5) dJ7_fill_53178_17 rfl (ld_in rfl)) lda_nil) (ld_in rfl) lda_nil
noncomputable def BJ7_fill_53178 : Sm Unit := (dSeq (dSeq (dSetI 2 (cI 0)) (dSeq (dSetI 3 (dLen (vR 0))) LJ7_fill_53178_1)) dRet0)
theorem sBJ7_fill_53178 : SS (cvoV, .return_) miJ7_fill_53178 [] [] [] [(0, 2), (1, 0)] [(0, 2), (1, 0)] 0 [] BJ7_fill_53178 := (t_sq (p1 := 20) (Γ' := [(0, 2), (1, 0)]) (t_sq (p1 := 2) (Γ' := [(0, 2), (1, 0), (2, 0)]) (t_istore_n (s_iconst dJ7_fill_53178_0 rfl) dJ7_fill_53178_1 rfl rfl rfl) (t_sq (p1 := 5) (Γ' := [(0, 2), (1, 0), (2, 0), (3, 0)]) (t_istore_n (s_len (s_aload_n dJ7_fill_53178_2 rfl rfl) dJ7_fill_53178_3) dJ7_fill_53178_4 rfl rfl rfl) (tn_to (Γ' := [(0, 2), (1, 0), (2, 0), (3, 0)]) (XA := [20]) sLJ7_fill_53178_1 (lda_cons (ld_in rfl) lda_nil) rfl))) (t_ret0 (fun _ _ => rfl) dJ7_fill_53178_20))
noncomputable def DJ7_fill_53178 : Fr → St → Option (Unit × St) := M1 (fun f => (sI (sR fr0 0 (gR f 0)) 1 (gI f 1))) BJ7_fill_53178
theorem kJ7_fill_53178 : SND yJ7_fill_53178 cJ7_fill_53178 4 none 1 [(0, 2), (1, 0)] cvoV DJ7_fill_53178 := snd_V (nw := 2) (by decide) (fun z => by cases z) rfl rfl (fun _ _ => rfl) sBJ7_fill_53178
theorem dX5_climbTo_0 : decode cX5_climbTo 0 = .ok (.iconst 0, 1) := by decide +kernel
theorem dX5_climbTo_1 : decode cX5_climbTo 1 = .ok (.aload_n 0, 1) := by decide +kernel
theorem dX5_climbTo_2 : decode cX5_climbTo 2 = .ok (.getfield 9, 3) := by decide +kernel
theorem dX5_climbTo_5 : decode cX5_climbTo 5 = .ok (.iload_n 2, 1) := by decide +kernel
theorem dX5_climbTo_6 : decode cX5_climbTo 6 = .ok (.invokestatic 85, 3) := by decide +kernel
theorem dX5_climbTo_9 : decode cX5_climbTo 9 = .ok (.aload_n 0, 1) := by decide +kernel
theorem dX5_climbTo_10 : decode cX5_climbTo 10 = .ok (.getfield 9, 3) := by decide +kernel
theorem dX5_climbTo_13 : decode cX5_climbTo 13 = .ok (.iload_n 1, 1) := by decide +kernel
theorem dX5_climbTo_14 : decode cX5_climbTo 14 = .ok (.invokestatic 85, 3) := by decide +kernel
theorem dX5_climbTo_17 : decode cX5_climbTo 17 = .ok (.isub, 1) := by decide +kernel
theorem dX5_climbTo_18 : decode cX5_climbTo 18 = .ok (.invokestatic 117, 3) := by decide +kernel
theorem dX5_climbTo_21 : decode cX5_climbTo 21 = .ok (.ireturn, 1) := by decide +kernel
theorem mokX5_climbTo : MOK yX5_climbTo cX5_climbTo 3 (some .int) 2 := ⟨w4_63, w1_4, ⟨by decide, by decide⟩, by decide +kernel, by decide⟩
abbrev miX5_climbTo : MI := (yX5_climbTo.cls, cX5_climbTo, 3, 2, false)
noncomputable def BX5_climbTo : Sm Int32 := (dRet (d2 o_imax (cI 0) (d2 o_isub (dCall DX11_cell (aI (aR aN 0 (dGR 5 8 (vR 0))) 1 (vI 2))) (dCall DX11_cell (aI (aR aN 0 (dGR 5 8 (vR 0))) 1 (vI 1))))))
theorem sBX5_climbTo : SS (cvoI, .ireturn) miX5_climbTo [] [] [] [(0, 2), (1, 0), (2, 0)] [(0, 2), (1, 0), (2, 0)] 0 [] BX5_climbTo := (t_ret (cv := cvI) (fun _ _ => rfl) (s_mmax (s_iconst dX5_climbTo_0 rfl) (s_isub (s_of_xI (x_callN (ts := [(0, 2), (1, 0)]) kX11_cell mokX11_cell w3_229 rfl rfl rfl (a_I (ts := [(0, 2)]) 1 (a_R (ts := []) 0 a_nil (s_getR ck5 8 (by decide) rfl (s_aload_n dX5_climbTo_1 rfl rfl) dX5_climbTo_2 w1_170) rfl) (s_iload_n dX5_climbTo_5 rfl rfl) rfl) dX5_climbTo_6 nb13)) (s_of_xI (x_callN (ts := [(0, 2), (1, 0)]) kX11_cell mokX11_cell w3_229 rfl rfl rfl (a_I (ts := [(0, 2)]) 1 (a_R (ts := []) 0 a_nil (s_getR ck5 8 (by decide) rfl (s_aload_n dX5_climbTo_9 rfl rfl) dX5_climbTo_10 w1_170) rfl) (s_iload_n dX5_climbTo_13 rfl rfl) rfl) dX5_climbTo_14 nb13)) dX5_climbTo_17) rfl rfl dX5_climbTo_18 w4_64) dX5_climbTo_21)
noncomputable def DX5_climbTo : Fr → St → Option (Int32 × St) := M1 (fun f => (sI (sI (sR fr0 0 (gR f 0)) 1 (gI f 1)) 2 (gI f 2))) BX5_climbTo
theorem kX5_climbTo : SND yX5_climbTo cX5_climbTo 3 (some .int) 2 [(0, 2), (1, 0), (2, 0)] cvoI DX5_climbTo := snd_I (nw := 3) (by decide) rfl rfl (fun _ _ => rfl) sBX5_climbTo
theorem dX4_improve_0 : decode cX4_improve 0 = .ok (.aload_n 0, 1) := by decide +kernel
theorem dX4_improve_1 : decode cX4_improve 1 = .ok (.getfield 9, 3) := by decide +kernel
theorem dX4_improve_4 : decode cX4_improve 4 = .ok (.iload_n 2, 1) := by decide +kernel
theorem dX4_improve_5 : decode cX4_improve 5 = .ok (.invokestatic 42, 3) := by decide +kernel
theorem dX4_improve_8 : decode cX4_improve 8 = .ok (.istore 4, 2) := by decide +kernel
theorem dX4_improve_10 : decode cX4_improve 10 = .ok (.aload_n 0, 1) := by decide +kernel
theorem dX4_improve_11 : decode cX4_improve 11 = .ok (.getfield 9, 3) := by decide +kernel
theorem dX4_improve_14 : decode cX4_improve 14 = .ok (.iload_n 3, 1) := by decide +kernel
theorem dX4_improve_15 : decode cX4_improve 15 = .ok (.invokestatic 42, 3) := by decide +kernel
theorem dX4_improve_18 : decode cX4_improve 18 = .ok (.istore 5, 2) := by decide +kernel
theorem dX4_improve_20 : decode cX4_improve 20 = .ok (.iload 4, 2) := by decide +kernel
theorem dX4_improve_22 : decode cX4_improve 22 = .ok (.aload_n 1, 1) := by decide +kernel
theorem dX4_improve_23 : decode cX4_improve 23 = .ok (.iload_n 2, 1) := by decide +kernel
theorem dX4_improve_24 : decode cX4_improve 24 = .ok (.iload_n 3, 1) := by decide +kernel
theorem dX4_improve_25 : decode cX4_improve 25 = .ok (.invokevirtual 60, 3) := by decide +kernel
theorem dX4_improve_28 : decode cX4_improve 28 = .ok (.iadd, 1) := by decide +kernel
theorem dX4_improve_29 : decode cX4_improve 29 = .ok (.istore 6, 2) := by decide +kernel
theorem dX4_improve_31 : decode cX4_improve 31 = .ok (.iload 4, 2) := by decide +kernel
theorem dX4_improve_33 : decode cX4_improve 33 = .ok (.iconst (-1), 1) := by decide +kernel
theorem dX4_improve_34 : decode cX4_improve 34 = .ok (.if_icmp .eq 26, 3) := by decide +kernel
theorem dX4_improve_37 : decode cX4_improve 37 = .ok (.iload 5, 2) := by decide +kernel
theorem dX4_improve_39 : decode cX4_improve 39 = .ok (.iconst (-1), 1) := by decide +kernel
theorem dX4_improve_40 : decode cX4_improve 40 = .ok (.if_icmp .eq 10, 3) := by decide +kernel
theorem dX4_improve_43 : decode cX4_improve 43 = .ok (.iload 6, 2) := by decide +kernel
theorem dX4_improve_45 : decode cX4_improve 45 = .ok (.iload 5, 2) := by decide +kernel
theorem dX4_improve_47 : decode cX4_improve 47 = .ok (.if_icmp .ge 13, 3) := by decide +kernel
theorem dX4_improve_50 : decode cX4_improve 50 = .ok (.aload_n 0, 1) := by decide +kernel
theorem dX4_improve_51 : decode cX4_improve 51 = .ok (.getfield 9, 3) := by decide +kernel
theorem dX4_improve_54 : decode cX4_improve 54 = .ok (.iload_n 3, 1) := by decide +kernel
theorem dX4_improve_55 : decode cX4_improve 55 = .ok (.iload 6, 2) := by decide +kernel
theorem dX4_improve_57 : decode cX4_improve 57 = .ok (.invokestatic 29, 3) := by decide +kernel
theorem dX4_improve_60 : decode cX4_improve 60 = .ok (.return_, 1) := by decide +kernel
theorem mokX4_improve : MOK yX4_improve cX4_improve 7 none 3 := ⟨w4_59, w1_9, ⟨by decide, by decide⟩, by decide +kernel, by decide⟩
abbrev miX4_improve : MI := (yX4_improve.cls, cX4_improve, 7, 3, false)
noncomputable def BX4_improve : Sm Unit := (dSeq (dSetI 4 (dCall DX11_cell (aI (aR aN 0 (dGR 4 0 (vR 0))) 1 (vI 2)))) (dSeq (dSetI 5 (dCall DX11_cell (aI (aR aN 0 (dGR 4 0 (vR 0))) 1 (vI 3)))) (dSeq (dSetI 6 (d2 o_iadd (vI 4) (dCallV 5 DX5_climbTo (aI (aI (aR aN 0 (vR 1)) 1 (vI 2)) 2 (vI 3))))) (dSeq (dIf (dAnd (dCI r_ne (vI 4) (cI (-1))) (dOr (dCI r_eq (vI 5) (cI (-1))) (dCI r_lt (vI 6) (vI 5)))) (dDo (dCall DX11_put (aI (aI (aR aN 0 (dGR 4 0 (vR 0))) 1 (vI 3)) 2 (vI 6)))) dSkip) dRet0))))
theorem sBX4_improve : SS (cvoV, .return_) miX4_improve [] [] [] [(0, 2), (1, 2), (2, 0), (3, 0)] [(0, 2), (1, 2), (2, 0), (3, 0)] 0 [] BX4_improve := (t_sq (p1 := 10) (Γ' := [(0, 2), (1, 2), (2, 0), (3, 0), (4, 0)]) (t_istore (s_of_xI (x_callN (ts := [(0, 2), (1, 0)]) kX11_cell mokX11_cell w3_229 rfl rfl rfl (a_I (ts := [(0, 2)]) 1 (a_R (ts := []) 0 a_nil (s_getR ck4 0 (by decide) rfl (s_aload_n dX4_improve_0 rfl rfl) dX4_improve_1 w2_118) rfl) (s_iload_n dX4_improve_4 rfl rfl) rfl) dX4_improve_5 nb16)) dX4_improve_8 rfl rfl) (t_sq (p1 := 20) (Γ' := [(0, 2), (1, 2), (2, 0), (3, 0), (4, 0), (5, 0)]) (t_istore (s_of_xI (x_callN (ts := [(0, 2), (1, 0)]) kX11_cell mokX11_cell w3_229 rfl rfl rfl (a_I (ts := [(0, 2)]) 1 (a_R (ts := []) 0 a_nil (s_getR ck4 0 (by decide) rfl (s_aload_n dX4_improve_10 rfl rfl) dX4_improve_11 w2_118) rfl) (s_iload_n dX4_improve_14 rfl rfl) rfl) dX4_improve_15 nb16)) dX4_improve_18 rfl rfl) (t_sq (p1 := 31) (Γ' := [(0, 2), (1, 2), (2, 0), (3, 0), (4, 0), (5, 0), (6, 0)]) (t_istore (s_iadd (s_iload dX4_improve_20 rfl) (s_of_xI (x_callV (ts := [(0, 2), (1, 0), (2, 0)]) ck5 rfl kX5_climbTo mokX5_climbTo w4_61 w4_62 rfl rfl rfl rfl (a_I (ts := [(0, 2), (1, 0)]) 2 (a_I (ts := [(0, 2)]) 1 (a_R (ts := []) 0 a_nil (s_aload_n dX4_improve_22 rfl rfl) rfl) (s_iload_n dX4_improve_23 rfl rfl) rfl) (s_iload_n dX4_improve_24 rfl rfl) rfl) dX4_improve_25 w4_60)) dX4_improve_28) dX4_improve_29 rfl rfl) (t_sq (p1 := 60) (Γ' := [(0, 2), (1, 2), (2, 0), (3, 0), (4, 0), (5, 0), (6, 0)]) (t_if (pT := 50) (pF := 60) (X := [60]) (XA := [60]) (XB := [60]) (c_and (p1 := 37) (pT := 50) (pF := 60) (c_ne_F (pF := 60) (s_iload dX4_improve_31 rfl) (s_iconst dX4_improve_33 rfl) dX4_improve_34 rfl) (c_or (p1 := 43) (pT := 50) (pF := 60) (c_eq_J (pT := 50) (s_iload dX4_improve_37 rfl) (s_iconst dX4_improve_39 rfl) dX4_improve_40 rfl) (c_lt_F (pF := 60) (s_iload dX4_improve_43 rfl) (s_iload dX4_improve_45 rfl) dX4_improve_47 rfl))) (t_do (x_callN (ts := [(0, 2), (1, 0), (2, 0)]) kX11_put mokX11_put w3_161 rfl rfl rfl (a_I (ts := [(0, 2), (1, 0)]) 2 (a_I (ts := [(0, 2)]) 1 (a_R (ts := []) 0 a_nil (s_getR ck4 0 (by decide) rfl (s_aload_n dX4_improve_50 rfl rfl) dX4_improve_51 w2_118) rfl) (s_iload_n dX4_improve_54 rfl rfl) rfl) (s_iload dX4_improve_55 rfl) rfl) dX4_improve_57 nb15) rfl) (t_skip (ld_in rfl) rfl) (lda_cons (ld_in rfl) lda_nil) (lda_cons (ld_in rfl) lda_nil)) (t_ret0 (fun _ _ => rfl) dX4_improve_60)))))
noncomputable def DX4_improve : Fr → St → Option (Unit × St) := M1 (fun f => (sI (sI (sR (sR fr0 0 (gR f 0)) 1 (gR f 1)) 2 (gI f 2)) 3 (gI f 3))) BX4_improve
theorem kX4_improve : SND yX4_improve cX4_improve 7 none 3 [(0, 2), (1, 2), (2, 0), (3, 0)] cvoV DX4_improve := snd_V (nw := 4) (by decide) (fun z => by cases z) rfl rfl (fun _ _ => rfl) sBX4_improve
theorem dX4_leastClimb_0 : decode cX4_leastClimb 0 = .ok (.aload_n 0, 1) := by decide +kernel
theorem dX4_leastClimb_1 : decode cX4_leastClimb 1 = .ok (.getfield 9, 3) := by decide +kernel
theorem dX4_leastClimb_4 : decode cX4_leastClimb 4 = .ok (.iconst (-1), 1) := by decide +kernel
theorem dX4_leastClimb_5 : decode cX4_leastClimb 5 = .ok (.invokestatic 23, 3) := by decide +kernel
theorem dX4_leastClimb_8 : decode cX4_leastClimb 8 = .ok (.aload_n 0, 1) := by decide +kernel
theorem dX4_leastClimb_9 : decode cX4_leastClimb 9 = .ok (.getfield 9, 3) := by decide +kernel
theorem dX4_leastClimb_12 : decode cX4_leastClimb 12 = .ok (.iload_n 2, 1) := by decide +kernel
theorem dX4_leastClimb_13 : decode cX4_leastClimb 13 = .ok (.iconst 0, 1) := by decide +kernel
theorem dX4_leastClimb_14 : decode cX4_leastClimb 14 = .ok (.invokestatic 29, 3) := by decide +kernel
theorem dX4_leastClimb_17 : decode cX4_leastClimb 17 = .ok (.iconst 0, 1) := by decide +kernel
theorem dX4_leastClimb_18 : decode cX4_leastClimb 18 = .ok (.istore 4, 2) := by decide +kernel
theorem dX4_leastClimb_20 : decode cX4_leastClimb 20 = .ok (.iload 4, 2) := by decide +kernel
theorem dX4_leastClimb_22 : decode cX4_leastClimb 22 = .ok (.bipush 8, 2) := by decide +kernel
theorem dX4_leastClimb_24 : decode cX4_leastClimb 24 = .ok (.if_icmp .ge 73, 3) := by decide +kernel
theorem dX4_leastClimb_27 : decode cX4_leastClimb 27 = .ok (.iconst 0, 1) := by decide +kernel
theorem dX4_leastClimb_28 : decode cX4_leastClimb 28 = .ok (.istore 5, 2) := by decide +kernel
theorem dX4_leastClimb_30 : decode cX4_leastClimb 30 = .ok (.iload 5, 2) := by decide +kernel
theorem dX4_leastClimb_32 : decode cX4_leastClimb 32 = .ok (.aload_n 1, 1) := by decide +kernel
theorem dX4_leastClimb_33 : decode cX4_leastClimb 33 = .ok (.getfield 33, 3) := by decide +kernel
theorem dX4_leastClimb_36 : decode cX4_leastClimb 36 = .ok (.if_icmp .ge 55, 3) := by decide +kernel
theorem dX4_leastClimb_39 : decode cX4_leastClimb 39 = .ok (.aload_n 0, 1) := by decide +kernel
theorem dX4_leastClimb_40 : decode cX4_leastClimb 40 = .ok (.aload_n 1, 1) := by decide +kernel
theorem dX4_leastClimb_41 : decode cX4_leastClimb 41 = .ok (.aload_n 1, 1) := by decide +kernel
theorem dX4_leastClimb_42 : decode cX4_leastClimb 42 = .ok (.getfield 39, 3) := by decide +kernel
theorem dX4_leastClimb_45 : decode cX4_leastClimb 45 = .ok (.iload 5, 2) := by decide +kernel
theorem dX4_leastClimb_47 : decode cX4_leastClimb 47 = .ok (.invokestatic 42, 3) := by decide +kernel
theorem dX4_leastClimb_50 : decode cX4_leastClimb 50 = .ok (.aload_n 1, 1) := by decide +kernel
theorem dX4_leastClimb_51 : decode cX4_leastClimb 51 = .ok (.getfield 46, 3) := by decide +kernel
theorem dX4_leastClimb_54 : decode cX4_leastClimb 54 = .ok (.iload 5, 2) := by decide +kernel
theorem dX4_leastClimb_56 : decode cX4_leastClimb 56 = .ok (.invokestatic 42, 3) := by decide +kernel
theorem dX4_leastClimb_59 : decode cX4_leastClimb 59 = .ok (.invokevirtual 49, 3) := by decide +kernel
theorem dX4_leastClimb_62 : decode cX4_leastClimb 62 = .ok (.aload_n 0, 1) := by decide +kernel
theorem dX4_leastClimb_63 : decode cX4_leastClimb 63 = .ok (.aload_n 1, 1) := by decide +kernel
theorem dX4_leastClimb_64 : decode cX4_leastClimb 64 = .ok (.aload_n 1, 1) := by decide +kernel
theorem dX4_leastClimb_65 : decode cX4_leastClimb 65 = .ok (.getfield 46, 3) := by decide +kernel
theorem dX4_leastClimb_68 : decode cX4_leastClimb 68 = .ok (.iload 5, 2) := by decide +kernel
theorem dX4_leastClimb_70 : decode cX4_leastClimb 70 = .ok (.invokestatic 42, 3) := by decide +kernel
theorem dX4_leastClimb_73 : decode cX4_leastClimb 73 = .ok (.aload_n 1, 1) := by decide +kernel
theorem dX4_leastClimb_74 : decode cX4_leastClimb 74 = .ok (.getfield 39, 3) := by decide +kernel
theorem dX4_leastClimb_77 : decode cX4_leastClimb 77 = .ok (.iload 5, 2) := by decide +kernel
theorem dX4_leastClimb_79 : decode cX4_leastClimb 79 = .ok (.invokestatic 42, 3) := by decide +kernel
theorem dX4_leastClimb_82 : decode cX4_leastClimb 82 = .ok (.invokevirtual 49, 3) := by decide +kernel
theorem dX4_leastClimb_85 : decode cX4_leastClimb 85 = .ok (.iinc 5 1, 3) := by decide +kernel
theorem dX4_leastClimb_88 : decode cX4_leastClimb 88 = .ok (.goto (-58), 3) := by decide +kernel
theorem dX4_leastClimb_91 : decode cX4_leastClimb 91 = .ok (.iinc 4 1, 3) := by decide +kernel
theorem dX4_leastClimb_94 : decode cX4_leastClimb 94 = .ok (.goto (-74), 3) := by decide +kernel
theorem dX4_leastClimb_97 : decode cX4_leastClimb 97 = .ok (.aload_n 0, 1) := by decide +kernel
theorem dX4_leastClimb_98 : decode cX4_leastClimb 98 = .ok (.getfield 9, 3) := by decide +kernel
theorem dX4_leastClimb_101 : decode cX4_leastClimb 101 = .ok (.iload_n 3, 1) := by decide +kernel
theorem dX4_leastClimb_102 : decode cX4_leastClimb 102 = .ok (.invokestatic 42, 3) := by decide +kernel
theorem dX4_leastClimb_105 : decode cX4_leastClimb 105 = .ok (.ireturn, 1) := by decide +kernel
theorem mokX4_leastClimb : MOK yX4_leastClimb cX4_leastClimb 6 (some .int) 3 := ⟨w4_50, w1_9, ⟨by decide, by decide⟩, by decide +kernel, by decide⟩
abbrev miX4_leastClimb : MI := (yX4_leastClimb.cls, cX4_leastClimb, 6, 4, false)
noncomputable def LX4_leastClimb_1 : Sm Int32 := dLoop (fun f => (sI (sI (sI (sI (sR (sR fr0 0 (gR f 0)) 1 (gR f 1)) 2 (gI f 2)) 3 (gI f 3)) 4 (gI f 4)) 5 (gI f 5))) (dCI r_lt (vI 5) (dGI 5 5 (vR 1))) (dSeq (dDo (dCallV 4 DX4_improve (aI (aI (aR (aR aN 0 (vR 0)) 1 (vR 1)) 2 (dCall DX11_cell (aI (aR aN 0 (dGR 5 9 (vR 1))) 1 (vI 5)))) 3 (dCall DX11_cell (aI (aR aN 0 (dGR 5 10 (vR 1))) 1 (vI 5)))))) (dDo (dCallV 4 DX4_improve (aI (aI (aR (aR aN 0 (vR 0)) 1 (vR 1)) 2 (dCall DX11_cell (aI (aR aN 0 (dGR 5 10 (vR 1))) 1 (vI 5)))) 3 (dCall DX11_cell (aI (aR aN 0 (dGR 5 9 (vR 1))) 1 (vI 5))))))) (dInc 5 1)
theorem sLX4_leastClimb_1 {ΓL : Gm} {PB PK : List Nat} : SS (cvoI, .ireturn) miX4_leastClimb ΓL PB PK [(0, 2), (1, 2), (2, 0), (3, 0), (4, 0), (5, 0)] [(0, 2), (1, 2), (2, 0), (3, 0), (4, 0), (5, 0)] 30 [91] LX4_leastClimb_1 := t_loop (pT := 39) (pF := 91) (pu := 85) (PB' := []) (PK' := []) (XB := [85]) (XU := [88]) (fun _ _ => rfl) rfl (c_lt_F (pF := 91) (s_iload dX4_leastClimb_30 rfl) (s_getI ck5 5 (by decide) rfl (s_aload_n dX4_leastClimb_32 rfl rfl) dX4_leastClimb_33 w1_158) dX4_leastClimb_36 rfl) (t_sq (p1 := 62) (Γ' := [(0, 2), (1, 2), (2, 0), (3, 0), (4, 0), (5, 0)]) (t_do (x_callV (ts := [(0, 2), (1, 2), (2, 0), (3, 0)]) ck4 rfl kX4_improve mokX4_improve w4_58 ps1_15 rfl rfl rfl rfl (a_I (ts := [(0, 2), (1, 2), (2, 0)]) 3 (a_I (ts := [(0, 2), (1, 2)]) 2 (a_R (ts := [(0, 2)]) 1 (a_R (ts := []) 0 a_nil (s_aload_n dX4_leastClimb_39 rfl rfl) rfl) (s_aload_n dX4_leastClimb_40 rfl rfl) rfl) (s_of_xI (x_callN (ts := [(0, 2), (1, 0)]) kX11_cell mokX11_cell w3_229 rfl rfl rfl (a_I (ts := [(0, 2)]) 1 (a_R (ts := []) 0 a_nil (s_getR ck5 9 (by decide) rfl (s_aload_n dX4_leastClimb_41 rfl rfl) dX4_leastClimb_42 w1_174) rfl) (s_iload dX4_leastClimb_45 rfl) rfl) dX4_leastClimb_47 nb16)) rfl) (s_of_xI (x_callN (ts := [(0, 2), (1, 0)]) kX11_cell mokX11_cell w3_229 rfl rfl rfl (a_I (ts := [(0, 2)]) 1 (a_R (ts := []) 0 a_nil (s_getR ck5 10 (by decide) rfl (s_aload_n dX4_leastClimb_50 rfl rfl) dX4_leastClimb_51 w1_177) rfl) (s_iload dX4_leastClimb_54 rfl) rfl) dX4_leastClimb_56 nb16)) rfl) dX4_leastClimb_59 w4_56) rfl) (t_do (x_callV (ts := [(0, 2), (1, 2), (2, 0), (3, 0)]) ck4 rfl kX4_improve mokX4_improve w4_58 ps1_15 rfl rfl rfl rfl (a_I (ts := [(0, 2), (1, 2), (2, 0)]) 3 (a_I (ts := [(0, 2), (1, 2)]) 2 (a_R (ts := [(0, 2)]) 1 (a_R (ts := []) 0 a_nil (s_aload_n dX4_leastClimb_62 rfl rfl) rfl) (s_aload_n dX4_leastClimb_63 rfl rfl) rfl) (s_of_xI (x_callN (ts := [(0, 2), (1, 0)]) kX11_cell mokX11_cell w3_229 rfl rfl rfl (a_I (ts := [(0, 2)]) 1 (a_R (ts := []) 0 a_nil (s_getR ck5 10 (by decide) rfl (s_aload_n dX4_leastClimb_64 rfl rfl) dX4_leastClimb_65 w1_177) rfl) (s_iload dX4_leastClimb_68 rfl) rfl) dX4_leastClimb_70 nb16)) rfl) (s_of_xI (x_callN (ts := [(0, 2), (1, 0)]) kX11_cell mokX11_cell w3_229 rfl rfl rfl (a_I (ts := [(0, 2)]) 1 (a_R (ts := []) 0 a_nil (s_getR ck5 9 (by decide) rfl (s_aload_n dX4_leastClimb_73 rfl rfl) dX4_leastClimb_74 w1_174) rfl) (s_iload dX4_leastClimb_77 rfl) rfl) dX4_leastClimb_79 nb16)) rfl) dX4_leastClimb_82 w4_56) rfl)) (t_iinc dX4_leastClimb_85 rfl rfl rfl rfl) (lda_cons (ld_in rfl) lda_nil) lda_nil (lda_cons (ld_goto (y := 30) dX4_leastClimb_88 rfl (ld_in rfl)) lda_nil) (ld_in rfl) lda_nil
noncomputable def LX4_leastClimb_2 : Sm Int32 := dLoop (fun f => (sI (sI (sI (sR (sR fr0 0 (gR f 0)) 1 (gR f 1)) 2 (gI f 2)) 3 (gI f 3)) 4 (gI f 4))) (dCI r_lt (vI 4) (cI 8)) (dSeq (dSetI 5 (cI 0)) LX4_leastClimb_1) (dInc 4 1)
theorem sLX4_leastClimb_2 {ΓL : Gm} {PB PK : List Nat} : SS (cvoI, .ireturn) miX4_leastClimb ΓL PB PK [(0, 2), (1, 2), (2, 0), (3, 0), (4, 0)] [(0, 2), (1, 2), (2, 0), (3, 0), (4, 0)] 20 [97] LX4_leastClimb_2 := t_loop (pT := 27) (pF := 97) (pu := 91) (PB' := []) (PK' := []) (XB := [91]) (XU := [94]) (fun _ _ => rfl) rfl (c_lt_F (pF := 97) (s_iload dX4_leastClimb_20 rfl) (s_bipush dX4_leastClimb_22 rfl) dX4_leastClimb_24 rfl) (t_sq (p1 := 30) (Γ' := [(0, 2), (1, 2), (2, 0), (3, 0), (4, 0), (5, 0)]) (t_istore (s_iconst dX4_leastClimb_27 rfl) dX4_leastClimb_28 rfl rfl) (tn_to (Γ' := [(0, 2), (1, 2), (2, 0), (3, 0), (4, 0), (5, 0)]) (XA := [91]) sLX4_leastClimb_1 (lda_cons (ld_in rfl) lda_nil) rfl)) (t_iinc dX4_leastClimb_91 rfl rfl rfl rfl) (lda_cons (ld_in rfl) lda_nil) lda_nil (lda_cons (ld_goto (y := 20) dX4_leastClimb_94 rfl (ld_in rfl)) lda_nil) (ld_in rfl) lda_nil
noncomputable def BX4_leastClimb : Sm Int32 := (dSeq (dDo (dCall DJ7_fill_53178 (aI (aR aN 0 (dGR 4 0 (vR 0))) 1 (cI (-1))))) (dSeq (dDo (dCall DX11_put (aI (aI (aR aN 0 (dGR 4 0 (vR 0))) 1 (vI 2)) 2 (cI 0)))) (dSeq (dSeq (dSetI 4 (cI 0)) LX4_leastClimb_2) (dRet (dCall DX11_cell (aI (aR aN 0 (dGR 4 0 (vR 0))) 1 (vI 3)))))))
theorem sBX4_leastClimb : SS (cvoI, .ireturn) miX4_leastClimb [] [] [] [(0, 2), (1, 2), (2, 0), (3, 0)] [(0, 2), (1, 2), (2, 0), (3, 0)] 0 [] BX4_leastClimb := (t_sq (p1 := 8) (Γ' := [(0, 2), (1, 2), (2, 0), (3, 0)]) (t_do (x_call (ts := [(0, 2), (1, 0)]) kJ7_fill_53178 mokJ7_fill_53178 w4_52 rfl rfl rfl (a_I (ts := [(0, 2)]) 1 (a_R (ts := []) 0 a_nil (s_getR ck4 0 (by decide) rfl (s_aload_n dX4_leastClimb_0 rfl rfl) dX4_leastClimb_1 w2_118) rfl) (s_iconst dX4_leastClimb_4 rfl) rfl) dX4_leastClimb_5 w4_51) rfl) (t_sq (p1 := 17) (Γ' := [(0, 2), (1, 2), (2, 0), (3, 0)]) (t_do (x_callN (ts := [(0, 2), (1, 0), (2, 0)]) kX11_put mokX11_put w3_161 rfl rfl rfl (a_I (ts := [(0, 2), (1, 0)]) 2 (a_I (ts := [(0, 2)]) 1 (a_R (ts := []) 0 a_nil (s_getR ck4 0 (by decide) rfl (s_aload_n dX4_leastClimb_8 rfl rfl) dX4_leastClimb_9 w2_118) rfl) (s_iload_n dX4_leastClimb_12 rfl rfl) rfl) (s_iconst dX4_leastClimb_13 rfl) rfl) dX4_leastClimb_14 nb15) rfl) (t_sq (p1 := 97) (Γ' := [(0, 2), (1, 2), (2, 0), (3, 0)]) (t_sq (p1 := 20) (Γ' := [(0, 2), (1, 2), (2, 0), (3, 0), (4, 0)]) (t_istore (s_iconst dX4_leastClimb_17 rfl) dX4_leastClimb_18 rfl rfl) (tn_to (Γ' := [(0, 2), (1, 2), (2, 0), (3, 0), (4, 0)]) (XA := [97]) sLX4_leastClimb_2 (lda_cons (ld_in rfl) lda_nil) rfl)) (t_ret (cv := cvI) (fun _ _ => rfl) (s_of_xI (x_callN (ts := [(0, 2), (1, 0)]) kX11_cell mokX11_cell w3_229 rfl rfl rfl (a_I (ts := [(0, 2)]) 1 (a_R (ts := []) 0 a_nil (s_getR ck4 0 (by decide) rfl (s_aload_n dX4_leastClimb_97 rfl rfl) dX4_leastClimb_98 w2_118) rfl) (s_iload_n dX4_leastClimb_101 rfl rfl) rfl) dX4_leastClimb_102 nb16)) dX4_leastClimb_105))))
noncomputable def DX4_leastClimb : Fr → St → Option (Int32 × St) := M1 (fun f => (sI (sI (sR (sR fr0 0 (gR f 0)) 1 (gR f 1)) 2 (gI f 2)) 3 (gI f 3))) BX4_leastClimb
theorem kX4_leastClimb : SND yX4_leastClimb cX4_leastClimb 6 (some .int) 4 [(0, 2), (1, 2), (2, 0), (3, 0)] cvoI DX4_leastClimb := snd_I (nw := 4) (by decide) rfl rfl (fun _ _ => rfl) sBX4_leastClimb
theorem dX11_climb_0 : decode cX11_climb 0 = .ok (.aload_n 0, 1) := by decide +kernel
theorem dX11_climb_1 : decode cX11_climb 1 = .ok (.getfield 26, 3) := by decide +kernel
theorem dX11_climb_4 : decode cX11_climb 4 = .ok (.iload_n 1, 1) := by decide +kernel
theorem dX11_climb_5 : decode cX11_climb 5 = .ok (.iload_n 2, 1) := by decide +kernel
theorem dX11_climb_6 : decode cX11_climb 6 = .ok (.invokevirtual 154, 3) := by decide +kernel
theorem dX11_climb_9 : decode cX11_climb 9 = .ok (.ifCond .eq 19, 3) := by decide +kernel
theorem dX11_climb_12 : decode cX11_climb 12 = .ok (.aload_n 0, 1) := by decide +kernel
theorem dX11_climb_13 : decode cX11_climb 13 = .ok (.getfield 57, 3) := by decide +kernel
theorem dX11_climb_16 : decode cX11_climb 16 = .ok (.aload_n 0, 1) := by decide +kernel
theorem dX11_climb_17 : decode cX11_climb 17 = .ok (.getfield 26, 3) := by decide +kernel
theorem dX11_climb_20 : decode cX11_climb 20 = .ok (.iload_n 1, 1) := by decide +kernel
theorem dX11_climb_21 : decode cX11_climb 21 = .ok (.iload_n 2, 1) := by decide +kernel
theorem dX11_climb_22 : decode cX11_climb 22 = .ok (.invokevirtual 161, 3) := by decide +kernel
theorem dX11_climb_25 : decode cX11_climb 25 = .ok (.goto 5, 3) := by decide +kernel
theorem dX11_climb_28 : decode cX11_climb 28 = .ok (.bipush (-2), 2) := by decide +kernel
theorem dX11_climb_30 : decode cX11_climb 30 = .ok (.ireturn, 1) := by decide +kernel
theorem mokX11_climb : MOK yX11_climb cX11_climb 3 (some .int) 2 := ⟨w4_46, w1_1, ⟨by decide, by decide⟩, by decide +kernel, by decide⟩
abbrev miX11_climb : MI := (yX11_climb.cls, cX11_climb, 3, 5, false)
noncomputable def BX11_climb : Sm Int32 := (dRet (dT (dCZ q_ne (dCallV 5 DX5_areHouses (aI (aI (aR aN 0 (dGR 11 2 (vR 0))) 1 (vI 1)) 2 (vI 2)))) (dCallV 4 DX4_leastClimb (aI (aI (aR (aR aN 0 (dGR 11 8 (vR 0))) 1 (dGR 11 2 (vR 0))) 2 (vI 1)) 3 (vI 2))) (cI (-2))))
theorem sBX11_climb : SS (cvoI, .ireturn) miX11_climb [] [] [] [(0, 2), (1, 0), (2, 0)] [(0, 2), (1, 0), (2, 0)] 0 [] BX11_climb := (t_ret (cv := cvI) (fun _ _ => rfl) (s_T (pT := 12) (pF := 28) (p1 := 25) (pe := 30) (c_ne_ZF (pF := 28) (s_of_xI (x_callV (ts := [(0, 2), (1, 0), (2, 0)]) ck5 rfl kX5_areHouses mokX5_areHouses w4_28 w4_29 rfl rfl rfl rfl (a_I (ts := [(0, 2), (1, 0)]) 2 (a_I (ts := [(0, 2)]) 1 (a_R (ts := []) 0 a_nil (s_getR ck11 2 (by decide) rfl (s_aload_n dX11_climb_0 rfl rfl) dX11_climb_1 w2_220) rfl) (s_iload_n dX11_climb_4 rfl rfl) rfl) (s_iload_n dX11_climb_5 rfl rfl) rfl) dX11_climb_6 w4_27)) dX11_climb_9 rfl) (s_of_xI (x_callV (ts := [(0, 2), (1, 2), (2, 0), (3, 0)]) ck4 rfl kX4_leastClimb mokX4_leastClimb w4_48 w4_49 rfl rfl rfl rfl (a_I (ts := [(0, 2), (1, 2), (2, 0)]) 3 (a_I (ts := [(0, 2), (1, 2)]) 2 (a_R (ts := [(0, 2)]) 1 (a_R (ts := []) 0 a_nil (s_getR ck11 8 (by decide) rfl (s_aload_n dX11_climb_12 rfl rfl) dX11_climb_13 w2_226) rfl) (s_getR ck11 2 (by decide) rfl (s_aload_n dX11_climb_16 rfl rfl) dX11_climb_17 w2_220) rfl) (s_iload_n dX11_climb_20 rfl rfl) rfl) (s_iload_n dX11_climb_21 rfl rfl) rfl) dX11_climb_22 w4_47)) (s_bipush dX11_climb_28 rfl) (ld_goto (y := 30) dX11_climb_25 rfl (ld_in rfl))) dX11_climb_30)
noncomputable def DX11_climb : Fr → St → Option (Int32 × St) := M1 (fun f => (sI (sI (sR fr0 0 (gR f 0)) 1 (gI f 1)) 2 (gI f 2))) BX11_climb
theorem kX11_climb : SND yX11_climb cX11_climb 3 (some .int) 5 [(0, 2), (1, 0), (2, 0)] cvoI DX11_climb := snd_I (nw := 3) (by decide) rfl rfl (fun _ _ => rfl) sBX11_climb
theorem dX2_setAsTold_0 : decode cX2_setAsTold 0 = .ok (.aload_n 0, 1) := by decide +kernel
theorem dX2_setAsTold_1 : decode cX2_setAsTold 1 = .ok (.aload_n 1, 1) := by decide +kernel
theorem dX2_setAsTold_2 : decode cX2_setAsTold 2 = .ok (.getfield 33, 3) := by decide +kernel
theorem dX2_setAsTold_5 : decode cX2_setAsTold 5 = .ok (.putfield 39, 3) := by decide +kernel
theorem dX2_setAsTold_8 : decode cX2_setAsTold 8 = .ok (.aload_n 0, 1) := by decide +kernel
theorem dX2_setAsTold_9 : decode cX2_setAsTold 9 = .ok (.iconst (-1), 1) := by decide +kernel
theorem dX2_setAsTold_10 : decode cX2_setAsTold 10 = .ok (.putfield 40, 3) := by decide +kernel
theorem dX2_setAsTold_13 : decode cX2_setAsTold 13 = .ok (.aload_n 0, 1) := by decide +kernel
theorem dX2_setAsTold_14 : decode cX2_setAsTold 14 = .ok (.iconst 0, 1) := by decide +kernel
theorem dX2_setAsTold_15 : decode cX2_setAsTold 15 = .ok (.putfield 43, 3) := by decide +kernel
theorem dX2_setAsTold_18 : decode cX2_setAsTold 18 = .ok (.aload_n 0, 1) := by decide +kernel
theorem dX2_setAsTold_19 : decode cX2_setAsTold 19 = .ok (.iconst 0, 1) := by decide +kernel
theorem dX2_setAsTold_20 : decode cX2_setAsTold 20 = .ok (.putfield 46, 3) := by decide +kernel
theorem dX2_setAsTold_23 : decode cX2_setAsTold 23 = .ok (.aload_n 0, 1) := by decide +kernel
theorem dX2_setAsTold_24 : decode cX2_setAsTold 24 = .ok (.iconst (-1), 1) := by decide +kernel
theorem dX2_setAsTold_25 : decode cX2_setAsTold 25 = .ok (.putfield 49, 3) := by decide +kernel
theorem dX2_setAsTold_28 : decode cX2_setAsTold 28 = .ok (.aload_n 0, 1) := by decide +kernel
theorem dX2_setAsTold_29 : decode cX2_setAsTold 29 = .ok (.iconst (-1), 1) := by decide +kernel
theorem dX2_setAsTold_30 : decode cX2_setAsTold 30 = .ok (.putfield 52, 3) := by decide +kernel
theorem dX2_setAsTold_33 : decode cX2_setAsTold 33 = .ok (.return_, 1) := by decide +kernel
theorem mokX2_setAsTold : MOK yX2_setAsTold cX2_setAsTold 2 none 1 := ⟨w4_86, w1_8, ⟨by decide, by decide⟩, by decide +kernel, by decide⟩
abbrev miX2_setAsTold : MI := (yX2_setAsTold.cls, cX2_setAsTold, 2, 1, false)
noncomputable def BX2_setAsTold : Sm Unit := (dSeq (dP (fI 2 0) (vR 0) (dGI 5 2 (vR 1))) (dSeq (dP (fI 2 1) (vR 0) (cI (-1))) (dSeq (dP (fI 2 2) (vR 0) (cI 0)) (dSeq (dP (fI 2 3) (vR 0) (cI 0)) (dSeq (dP (fI 2 4) (vR 0) (cI (-1))) (dSeq (dP (fI 2 5) (vR 0) (cI (-1))) dRet0))))))
theorem sBX2_setAsTold : SS (cvoV, .return_) miX2_setAsTold [] [] [] [(0, 2), (1, 2)] [(0, 2), (1, 2)] 0 [] BX2_setAsTold := (t_sq (p1 := 8) (Γ' := [(0, 2), (1, 2)]) (t_pI ck2 0 (by decide) rfl (Or.inl rfl) (s_aload_n dX2_setAsTold_0 rfl rfl) (s_getI ck5 2 (by decide) rfl (s_aload_n dX2_setAsTold_1 rfl rfl) dX2_setAsTold_2 w1_140) dX2_setAsTold_5 w2_26 rfl) (t_sq (p1 := 13) (Γ' := [(0, 2), (1, 2)]) (t_pI ck2 1 (by decide) rfl (Or.inl rfl) (s_aload_n dX2_setAsTold_8 rfl rfl) (s_iconst dX2_setAsTold_9 rfl) dX2_setAsTold_10 w2_28 rfl) (t_sq (p1 := 18) (Γ' := [(0, 2), (1, 2)]) (t_pI ck2 2 (by decide) rfl (Or.inl rfl) (s_aload_n dX2_setAsTold_13 rfl rfl) (s_iconst dX2_setAsTold_14 rfl) dX2_setAsTold_15 w2_30 rfl) (t_sq (p1 := 23) (Γ' := [(0, 2), (1, 2)]) (t_pI ck2 3 (by decide) rfl (Or.inl rfl) (s_aload_n dX2_setAsTold_18 rfl rfl) (s_iconst dX2_setAsTold_19 rfl) dX2_setAsTold_20 w2_32 rfl) (t_sq (p1 := 28) (Γ' := [(0, 2), (1, 2)]) (t_pI ck2 4 (by decide) rfl (Or.inl rfl) (s_aload_n dX2_setAsTold_23 rfl rfl) (s_iconst dX2_setAsTold_24 rfl) dX2_setAsTold_25 w2_35 rfl) (t_sq (p1 := 33) (Γ' := [(0, 2), (1, 2)]) (t_pI ck2 5 (by decide) rfl (Or.inl rfl) (s_aload_n dX2_setAsTold_28 rfl rfl) (s_iconst dX2_setAsTold_29 rfl) dX2_setAsTold_30 w2_37 rfl) (t_ret0 (fun _ _ => rfl) dX2_setAsTold_33)))))))
noncomputable def DX2_setAsTold : Fr → St → Option (Unit × St) := M1 (fun f => (sR (sR fr0 0 (gR f 0)) 1 (gR f 1))) BX2_setAsTold
theorem kX2_setAsTold : SND yX2_setAsTold cX2_setAsTold 2 none 1 [(0, 2), (1, 2)] cvoV DX2_setAsTold := snd_V (nw := 2) (by decide) (fun z => by cases z) rfl rfl (fun _ _ => rfl) sBX2_setAsTold
theorem dX1_rubbedByActs_0 : decode cX1_rubbedByActs 0 = .ok (.iconst 0, 1) := by decide +kernel
theorem dX1_rubbedByActs_1 : decode cX1_rubbedByActs 1 = .ok (.istore_n 2, 1) := by decide +kernel
theorem dX1_rubbedByActs_2 : decode cX1_rubbedByActs 2 = .ok (.iconst 0, 1) := by decide +kernel
theorem dX1_rubbedByActs_3 : decode cX1_rubbedByActs 3 = .ok (.istore_n 3, 1) := by decide +kernel
theorem dX1_rubbedByActs_4 : decode cX1_rubbedByActs 4 = .ok (.iload_n 3, 1) := by decide +kernel
theorem dX1_rubbedByActs_5 : decode cX1_rubbedByActs 5 = .ok (.aload_n 0, 1) := by decide +kernel
theorem dX1_rubbedByActs_6 : decode cX1_rubbedByActs 6 = .ok (.getfield 37, 3) := by decide +kernel
theorem dX1_rubbedByActs_9 : decode cX1_rubbedByActs 9 = .ok (.if_icmp .ge 52, 3) := by decide +kernel
theorem dX1_rubbedByActs_12 : decode cX1_rubbedByActs 12 = .ok (.iload_n 3, 1) := by decide +kernel
theorem dX1_rubbedByActs_13 : decode cX1_rubbedByActs 13 = .ok (.bipush 20, 2) := by decide +kernel
theorem dX1_rubbedByActs_15 : decode cX1_rubbedByActs 15 = .ok (.if_icmp .ge 46, 3) := by decide +kernel
theorem dX1_rubbedByActs_18 : decode cX1_rubbedByActs 18 = .ok (.aload_n 0, 1) := by decide +kernel
theorem dX1_rubbedByActs_19 : decode cX1_rubbedByActs 19 = .ok (.getfield 27, 3) := by decide +kernel
theorem dX1_rubbedByActs_22 : decode cX1_rubbedByActs 22 = .ok (.iload_n 3, 1) := by decide +kernel
theorem dX1_rubbedByActs_23 : decode cX1_rubbedByActs 23 = .ok (.invokestatic 50, 3) := by decide +kernel
theorem dX1_rubbedByActs_26 : decode cX1_rubbedByActs 26 = .ok (.iconst (-1), 1) := by decide +kernel
theorem dX1_rubbedByActs_27 : decode cX1_rubbedByActs 27 = .ok (.if_icmp .eq 28, 3) := by decide +kernel
theorem dX1_rubbedByActs_30 : decode cX1_rubbedByActs 30 = .ok (.aload_n 0, 1) := by decide +kernel
theorem dX1_rubbedByActs_31 : decode cX1_rubbedByActs 31 = .ok (.getfield 24, 3) := by decide +kernel
theorem dX1_rubbedByActs_34 : decode cX1_rubbedByActs 34 = .ok (.iload_n 3, 1) := by decide +kernel
theorem dX1_rubbedByActs_35 : decode cX1_rubbedByActs 35 = .ok (.invokestatic 50, 3) := by decide +kernel
theorem dX1_rubbedByActs_38 : decode cX1_rubbedByActs 38 = .ok (.iload_n 1, 1) := by decide +kernel
theorem dX1_rubbedByActs_39 : decode cX1_rubbedByActs 39 = .ok (.if_icmp .ne 16, 3) := by decide +kernel
theorem dX1_rubbedByActs_42 : decode cX1_rubbedByActs 42 = .ok (.iload_n 2, 1) := by decide +kernel
theorem dX1_rubbedByActs_43 : decode cX1_rubbedByActs 43 = .ok (.iconst 1, 1) := by decide +kernel
theorem dX1_rubbedByActs_44 : decode cX1_rubbedByActs 44 = .ok (.aload_n 0, 1) := by decide +kernel
theorem dX1_rubbedByActs_45 : decode cX1_rubbedByActs 45 = .ok (.getfield 27, 3) := by decide +kernel
theorem dX1_rubbedByActs_48 : decode cX1_rubbedByActs 48 = .ok (.iload_n 3, 1) := by decide +kernel
theorem dX1_rubbedByActs_49 : decode cX1_rubbedByActs 49 = .ok (.invokestatic 50, 3) := by decide +kernel
theorem dX1_rubbedByActs_52 : decode cX1_rubbedByActs 52 = .ok (.ishl, 1) := by decide +kernel
theorem dX1_rubbedByActs_53 : decode cX1_rubbedByActs 53 = .ok (.ior, 1) := by decide +kernel
theorem dX1_rubbedByActs_54 : decode cX1_rubbedByActs 54 = .ok (.istore_n 2, 1) := by decide +kernel
theorem dX1_rubbedByActs_55 : decode cX1_rubbedByActs 55 = .ok (.iinc 3 1, 3) := by decide +kernel
theorem dX1_rubbedByActs_58 : decode cX1_rubbedByActs 58 = .ok (.goto (-54), 3) := by decide +kernel
theorem dX1_rubbedByActs_61 : decode cX1_rubbedByActs 61 = .ok (.iload_n 2, 1) := by decide +kernel
theorem dX1_rubbedByActs_62 : decode cX1_rubbedByActs 62 = .ok (.ireturn, 1) := by decide +kernel
theorem mokX1_rubbedByActs : MOK yX1_rubbedByActs cX1_rubbedByActs 4 (some .int) 1 := ⟨w4_109, w1_5, ⟨by decide, by decide⟩, by decide +kernel, by decide⟩
abbrev miX1_rubbedByActs : MI := (yX1_rubbedByActs.cls, cX1_rubbedByActs, 4, 2, false)
noncomputable def LX1_rubbedByActs_1 : Sm Int32 := dLoop (fun f => (sI (sI (sI (sR fr0 0 (gR f 0)) 1 (gI f 1)) 2 (gI f 2)) 3 (gI f 3))) (dAnd (dCI r_lt (vI 3) (dGI 1 2 (vR 0))) (dCI r_lt (vI 3) (cI 20))) (dIf (dAnd (dCI r_ne (dCall DX11_cell (aI (aR aN 0 (dGR 1 8 (vR 0))) 1 (vI 3))) (cI (-1))) (dCI r_eq (dCall DX11_cell (aI (aR aN 0 (dGR 1 7 (vR 0))) 1 (vI 3))) (vI 1))) (dSetI 2 (d2 o_ior (vI 2) (d2 o_ishl (cI 1) (dCall DX11_cell (aI (aR aN 0 (dGR 1 8 (vR 0))) 1 (vI 3)))))) dSkip) (dInc 3 1)
theorem sLX1_rubbedByActs_1 {ΓL : Gm} {PB PK : List Nat} : SS (cvoI, .ireturn) miX1_rubbedByActs ΓL PB PK [(0, 2), (1, 0), (2, 0), (3, 0)] [(0, 2), (1, 0), (2, 0), (3, 0)] 4 [61] LX1_rubbedByActs_1 := t_loop (pT := 18) (pF := 61) (pu := 55) (PB' := []) (PK' := []) (XB := [55]) (XU := [58]) (fun _ _ => rfl) rfl (c_and (p1 := 12) (pT := 18) (pF := 61) (c_lt_F (pF := 61) (s_iload_n dX1_rubbedByActs_4 rfl rfl) (s_getI ck1 2 (by decide) rfl (s_aload_n dX1_rubbedByActs_5 rfl rfl) dX1_rubbedByActs_6 w1_95) dX1_rubbedByActs_9 rfl) (c_lt_F (pF := 61) (s_iload_n dX1_rubbedByActs_12 rfl rfl) (s_bipush dX1_rubbedByActs_13 rfl) dX1_rubbedByActs_15 rfl)) (t_if (pT := 42) (pF := 55) (X := [55]) (XA := [55]) (XB := [55]) (c_and (p1 := 30) (pT := 42) (pF := 55) (c_ne_F (pF := 55) (s_of_xI (x_callN (ts := [(0, 2), (1, 0)]) kX11_cell mokX11_cell w3_229 rfl rfl rfl (a_I (ts := [(0, 2)]) 1 (a_R (ts := []) 0 a_nil (s_getR ck1 8 (by decide) rfl (s_aload_n dX1_rubbedByActs_18 rfl rfl) dX1_rubbedByActs_19 w1_109) rfl) (s_iload_n dX1_rubbedByActs_22 rfl rfl) rfl) dX1_rubbedByActs_23 nb19)) (s_iconst dX1_rubbedByActs_26 rfl) dX1_rubbedByActs_27 rfl) (c_eq_F (pF := 55) (s_of_xI (x_callN (ts := [(0, 2), (1, 0)]) kX11_cell mokX11_cell w3_229 rfl rfl rfl (a_I (ts := [(0, 2)]) 1 (a_R (ts := []) 0 a_nil (s_getR ck1 7 (by decide) rfl (s_aload_n dX1_rubbedByActs_30 rfl rfl) dX1_rubbedByActs_31 w1_108) rfl) (s_iload_n dX1_rubbedByActs_34 rfl rfl) rfl) dX1_rubbedByActs_35 nb19)) (s_iload_n dX1_rubbedByActs_38 rfl rfl) dX1_rubbedByActs_39 rfl)) (t_istore_n (s_ior (s_iload_n dX1_rubbedByActs_42 rfl rfl) (s_ishl (s_iconst dX1_rubbedByActs_43 rfl) (s_of_xI (x_callN (ts := [(0, 2), (1, 0)]) kX11_cell mokX11_cell w3_229 rfl rfl rfl (a_I (ts := [(0, 2)]) 1 (a_R (ts := []) 0 a_nil (s_getR ck1 8 (by decide) rfl (s_aload_n dX1_rubbedByActs_44 rfl rfl) dX1_rubbedByActs_45 w1_109) rfl) (s_iload_n dX1_rubbedByActs_48 rfl rfl) rfl) dX1_rubbedByActs_49 nb19)) dX1_rubbedByActs_52) dX1_rubbedByActs_53) dX1_rubbedByActs_54 rfl rfl rfl) (t_skip (ld_in rfl) rfl) (lda_cons (ld_in rfl) lda_nil) (lda_cons (ld_in rfl) lda_nil)) (t_iinc dX1_rubbedByActs_55 rfl rfl rfl rfl) (lda_cons (ld_in rfl) lda_nil) lda_nil (lda_cons (ld_goto (y := 4) dX1_rubbedByActs_58 rfl (ld_in rfl)) lda_nil) (ld_in rfl) lda_nil
noncomputable def BX1_rubbedByActs : Sm Int32 := (dSeq (dSetI 2 (cI 0)) (dSeq (dSeq (dSetI 3 (cI 0)) LX1_rubbedByActs_1) (dRet (vI 2))))
theorem sBX1_rubbedByActs : SS (cvoI, .ireturn) miX1_rubbedByActs [] [] [] [(0, 2), (1, 0)] [(0, 2), (1, 0)] 0 [] BX1_rubbedByActs := (t_sq (p1 := 2) (Γ' := [(0, 2), (1, 0), (2, 0)]) (t_istore_n (s_iconst dX1_rubbedByActs_0 rfl) dX1_rubbedByActs_1 rfl rfl rfl) (t_sq (p1 := 61) (Γ' := [(0, 2), (1, 0), (2, 0)]) (t_sq (p1 := 4) (Γ' := [(0, 2), (1, 0), (2, 0), (3, 0)]) (t_istore_n (s_iconst dX1_rubbedByActs_2 rfl) dX1_rubbedByActs_3 rfl rfl rfl) (tn_to (Γ' := [(0, 2), (1, 0), (2, 0), (3, 0)]) (XA := [61]) sLX1_rubbedByActs_1 (lda_cons (ld_in rfl) lda_nil) rfl)) (t_ret (cv := cvI) (fun _ _ => rfl) (s_iload_n dX1_rubbedByActs_61 rfl rfl) dX1_rubbedByActs_62)))
noncomputable def DX1_rubbedByActs : Fr → St → Option (Int32 × St) := M1 (fun f => (sI (sR fr0 0 (gR f 0)) 1 (gI f 1))) BX1_rubbedByActs
theorem kX1_rubbedByActs : SND yX1_rubbedByActs cX1_rubbedByActs 4 (some .int) 2 [(0, 2), (1, 0)] cvoI DX1_rubbedByActs := snd_I (nw := 2) (by decide) rfl rfl (fun _ _ => rfl) sBX1_rubbedByActs
theorem dX5_allWords_0 : decode cX5_allWords 0 = .ok (.iconst 1, 1) := by decide +kernel
theorem dX5_allWords_1 : decode cX5_allWords 1 = .ok (.aload_n 0, 1) := by decide +kernel
theorem dX5_allWords_2 : decode cX5_allWords 2 = .ok (.getfield 30, 3) := by decide +kernel
theorem dX5_allWords_5 : decode cX5_allWords 5 = .ok (.iload_n 1, 1) := by decide +kernel
theorem dX5_allWords_6 : decode cX5_allWords 6 = .ok (.invokestatic 85, 3) := by decide +kernel
theorem dX5_allWords_9 : decode cX5_allWords 9 = .ok (.ishl, 1) := by decide +kernel
theorem dX5_allWords_10 : decode cX5_allWords 10 = .ok (.iconst 1, 1) := by decide +kernel
theorem dX5_allWords_11 : decode cX5_allWords 11 = .ok (.isub, 1) := by decide +kernel
theorem dX5_allWords_12 : decode cX5_allWords 12 = .ok (.ireturn, 1) := by decide +kernel
theorem mokX5_allWords : MOK yX5_allWords cX5_allWords 2 (some .int) 1 := ⟨w4_105, w1_4, ⟨by decide, by decide⟩, by decide +kernel, by decide⟩
abbrev miX5_allWords : MI := (yX5_allWords.cls, cX5_allWords, 2, 2, false)
noncomputable def BX5_allWords : Sm Int32 := (dRet (d2 o_isub (d2 o_ishl (cI 1) (dCall DX11_cell (aI (aR aN 0 (dGR 5 14 (vR 0))) 1 (vI 1)))) (cI 1)))
theorem sBX5_allWords : SS (cvoI, .ireturn) miX5_allWords [] [] [] [(0, 2), (1, 0)] [(0, 2), (1, 0)] 0 [] BX5_allWords := (t_ret (cv := cvI) (fun _ _ => rfl) (s_isub (s_ishl (s_iconst dX5_allWords_0 rfl) (s_of_xI (x_callN (ts := [(0, 2), (1, 0)]) kX11_cell mokX11_cell w3_229 rfl rfl rfl (a_I (ts := [(0, 2)]) 1 (a_R (ts := []) 0 a_nil (s_getR ck5 14 (by decide) rfl (s_aload_n dX5_allWords_1 rfl rfl) dX5_allWords_2 w1_192) rfl) (s_iload_n dX5_allWords_5 rfl rfl) rfl) dX5_allWords_6 nb13)) dX5_allWords_9) (s_iconst dX5_allWords_10 rfl) dX5_allWords_11) dX5_allWords_12)
noncomputable def DX5_allWords : Fr → St → Option (Int32 × St) := M1 (fun f => (sI (sR fr0 0 (gR f 0)) 1 (gI f 1))) BX5_allWords
theorem kX5_allWords : SND yX5_allWords cX5_allWords 2 (some .int) 2 [(0, 2), (1, 0)] cvoI DX5_allWords := snd_I (nw := 2) (by decide) rfl rfl (fun _ _ => rfl) sBX5_allWords
theorem dX5_leftAtFirst_0 : decode cX5_leftAtFirst 0 = .ok (.aload_n 0, 1) := by decide +kernel
theorem dX5_leftAtFirst_1 : decode cX5_leftAtFirst 1 = .ok (.iload_n 1, 1) := by decide +kernel
theorem dX5_leftAtFirst_2 : decode cX5_leftAtFirst 2 = .ok (.invokevirtual 106, 3) := by decide +kernel
theorem dX5_leftAtFirst_5 : decode cX5_leftAtFirst 5 = .ok (.aload_n 0, 1) := by decide +kernel
theorem dX5_leftAtFirst_6 : decode cX5_leftAtFirst 6 = .ok (.getfield 39, 3) := by decide +kernel
theorem dX5_leftAtFirst_9 : decode cX5_leftAtFirst 9 = .ok (.iload_n 1, 1) := by decide +kernel
theorem dX5_leftAtFirst_10 : decode cX5_leftAtFirst 10 = .ok (.invokevirtual 110, 3) := by decide +kernel
theorem dX5_leftAtFirst_13 : decode cX5_leftAtFirst 13 = .ok (.iconst (-1), 1) := by decide +kernel
theorem dX5_leftAtFirst_14 : decode cX5_leftAtFirst 14 = .ok (.ixor, 1) := by decide +kernel
theorem dX5_leftAtFirst_15 : decode cX5_leftAtFirst 15 = .ok (.iand, 1) := by decide +kernel
theorem dX5_leftAtFirst_16 : decode cX5_leftAtFirst 16 = .ok (.ireturn, 1) := by decide +kernel
theorem mokX5_leftAtFirst : MOK yX5_leftAtFirst cX5_leftAtFirst 2 (some .int) 1 := ⟨w4_101, w1_4, ⟨by decide, by decide⟩, by decide +kernel, by decide⟩
abbrev miX5_leftAtFirst : MI := (yX5_leftAtFirst.cls, cX5_leftAtFirst, 2, 3, false)
noncomputable def BX5_leftAtFirst : Sm Int32 := (dRet (d2 o_iand (dCallV 5 DX5_allWords (aI (aR aN 0 (vR 0)) 1 (vI 1))) (d2 o_ixor (dCallV 1 DX1_rubbedByActs (aI (aR aN 0 (dGR 5 16 (vR 0))) 1 (vI 1))) (cI (-1)))))
theorem sBX5_leftAtFirst : SS (cvoI, .ireturn) miX5_leftAtFirst [] [] [] [(0, 2), (1, 0)] [(0, 2), (1, 0)] 0 [] BX5_leftAtFirst := (t_ret (cv := cvI) (fun _ _ => rfl) (s_iand (s_of_xI (x_callV (ts := [(0, 2), (1, 0)]) ck5 rfl kX5_allWords mokX5_allWords w4_103 w4_104 rfl rfl rfl rfl (a_I (ts := [(0, 2)]) 1 (a_R (ts := []) 0 a_nil (s_aload_n dX5_leftAtFirst_0 rfl rfl) rfl) (s_iload_n dX5_leftAtFirst_1 rfl rfl) rfl) dX5_leftAtFirst_2 w4_102)) (s_ixor (s_of_xI (x_callV (ts := [(0, 2), (1, 0)]) ck1 rfl kX1_rubbedByActs mokX1_rubbedByActs w4_107 w4_108 rfl rfl rfl rfl (a_I (ts := [(0, 2)]) 1 (a_R (ts := []) 0 a_nil (s_getR ck5 16 (by decide) rfl (s_aload_n dX5_leftAtFirst_5 rfl rfl) dX5_leftAtFirst_6 w1_197) rfl) (s_iload_n dX5_leftAtFirst_9 rfl rfl) rfl) dX5_leftAtFirst_10 w4_106)) (s_iconst dX5_leftAtFirst_13 rfl) dX5_leftAtFirst_14) dX5_leftAtFirst_15) dX5_leftAtFirst_16)
noncomputable def DX5_leftAtFirst : Fr → St → Option (Int32 × St) := M1 (fun f => (sI (sR fr0 0 (gR f 0)) 1 (gI f 1))) BX5_leftAtFirst
theorem kX5_leftAtFirst : SND yX5_leftAtFirst cX5_leftAtFirst 2 (some .int) 3 [(0, 2), (1, 0)] cvoI DX5_leftAtFirst := snd_I (nw := 2) (by decide) rfl rfl (fun _ _ => rfl) sBX5_leftAtFirst
theorem dX2_begin_0 : decode cX2_begin 0 = .ok (.aload_n 0, 1) := by decide +kernel
theorem dX2_begin_1 : decode cX2_begin 1 = .ok (.getfield 21, 3) := by decide +kernel
theorem dX2_begin_4 : decode cX2_begin 4 = .ok (.iconst 0, 1) := by decide +kernel
theorem dX2_begin_5 : decode cX2_begin 5 = .ok (.invokestatic 55, 3) := by decide +kernel
theorem dX2_begin_8 : decode cX2_begin 8 = .ok (.aload_n 0, 1) := by decide +kernel
theorem dX2_begin_9 : decode cX2_begin 9 = .ok (.getfield 27, 3) := by decide +kernel
theorem dX2_begin_12 : decode cX2_begin 12 = .ok (.iconst 1, 1) := by decide +kernel
theorem dX2_begin_13 : decode cX2_begin 13 = .ok (.invokestatic 55, 3) := by decide +kernel
theorem dX2_begin_16 : decode cX2_begin 16 = .ok (.aload_n 0, 1) := by decide +kernel
theorem dX2_begin_17 : decode cX2_begin 17 = .ok (.getfield 30, 3) := by decide +kernel
theorem dX2_begin_20 : decode cX2_begin 20 = .ok (.iconst (-1), 1) := by decide +kernel
theorem dX2_begin_21 : decode cX2_begin 21 = .ok (.invokestatic 55, 3) := by decide +kernel
theorem dX2_begin_24 : decode cX2_begin 24 = .ok (.iconst 0, 1) := by decide +kernel
theorem dX2_begin_25 : decode cX2_begin 25 = .ok (.istore_n 2, 1) := by decide +kernel
theorem dX2_begin_26 : decode cX2_begin 26 = .ok (.iload_n 2, 1) := by decide +kernel
theorem dX2_begin_27 : decode cX2_begin 27 = .ok (.aload_n 1, 1) := by decide +kernel
theorem dX2_begin_28 : decode cX2_begin 28 = .ok (.getfield 61, 3) := by decide +kernel
theorem dX2_begin_31 : decode cX2_begin 31 = .ok (.if_icmp .ge 25, 3) := by decide +kernel
theorem dX2_begin_34 : decode cX2_begin 34 = .ok (.aload_n 0, 1) := by decide +kernel
theorem dX2_begin_35 : decode cX2_begin 35 = .ok (.getfield 9, 3) := by decide +kernel
theorem dX2_begin_38 : decode cX2_begin 38 = .ok (.iload_n 2, 1) := by decide +kernel
theorem dX2_begin_39 : decode cX2_begin 39 = .ok (.aload_n 1, 1) := by decide +kernel
theorem dX2_begin_40 : decode cX2_begin 40 = .ok (.getfield 64, 3) := by decide +kernel
theorem dX2_begin_43 : decode cX2_begin 43 = .ok (.iload_n 2, 1) := by decide +kernel
theorem dX2_begin_44 : decode cX2_begin 44 = .ok (.invokestatic 65, 3) := by decide +kernel
theorem dX2_begin_47 : decode cX2_begin 47 = .ok (.invokestatic 69, 3) := by decide +kernel
theorem dX2_begin_50 : decode cX2_begin 50 = .ok (.iinc 2 1, 3) := by decide +kernel
theorem dX2_begin_53 : decode cX2_begin 53 = .ok (.goto (-27), 3) := by decide +kernel
theorem dX2_begin_56 : decode cX2_begin 56 = .ok (.iconst 0, 1) := by decide +kernel
theorem dX2_begin_57 : decode cX2_begin 57 = .ok (.istore_n 2, 1) := by decide +kernel
theorem dX2_begin_58 : decode cX2_begin 58 = .ok (.iload_n 2, 1) := by decide +kernel
theorem dX2_begin_59 : decode cX2_begin 59 = .ok (.aload_n 1, 1) := by decide +kernel
theorem dX2_begin_60 : decode cX2_begin 60 = .ok (.getfield 73, 3) := by decide +kernel
theorem dX2_begin_63 : decode cX2_begin 63 = .ok (.if_icmp .ge 87, 3) := by decide +kernel
theorem dX2_begin_66 : decode cX2_begin 66 = .ok (.iload_n 2, 1) := by decide +kernel
theorem dX2_begin_67 : decode cX2_begin 67 = .ok (.aload_n 0, 1) := by decide +kernel
theorem dX2_begin_68 : decode cX2_begin 68 = .ok (.getfield 49, 3) := by decide +kernel
theorem dX2_begin_71 : decode cX2_begin 71 = .ok (.if_icmp .ne 10, 3) := by decide +kernel
theorem dX2_begin_74 : decode cX2_begin 74 = .ok (.aload_n 0, 1) := by decide +kernel
theorem dX2_begin_75 : decode cX2_begin 75 = .ok (.getfield 52, 3) := by decide +kernel
theorem dX2_begin_78 : decode cX2_begin 78 = .ok (.goto 11, 3) := by decide +kernel
theorem dX2_begin_81 : decode cX2_begin 81 = .ok (.aload_n 1, 1) := by decide +kernel
theorem dX2_begin_82 : decode cX2_begin 82 = .ok (.getfield 76, 3) := by decide +kernel
theorem dX2_begin_85 : decode cX2_begin 85 = .ok (.iload_n 2, 1) := by decide +kernel
theorem dX2_begin_86 : decode cX2_begin 86 = .ok (.invokestatic 65, 3) := by decide +kernel
theorem dX2_begin_89 : decode cX2_begin 89 = .ok (.istore_n 3, 1) := by decide +kernel
theorem dX2_begin_90 : decode cX2_begin 90 = .ok (.aload_n 0, 1) := by decide +kernel
theorem dX2_begin_91 : decode cX2_begin 91 = .ok (.getfield 15, 3) := by decide +kernel
theorem dX2_begin_94 : decode cX2_begin 94 = .ok (.iload_n 2, 1) := by decide +kernel
theorem dX2_begin_95 : decode cX2_begin 95 = .ok (.iload_n 3, 1) := by decide +kernel
theorem dX2_begin_96 : decode cX2_begin 96 = .ok (.invokestatic 69, 3) := by decide +kernel
theorem dX2_begin_99 : decode cX2_begin 99 = .ok (.aload_n 0, 1) := by decide +kernel
theorem dX2_begin_100 : decode cX2_begin 100 = .ok (.getfield 18, 3) := by decide +kernel
theorem dX2_begin_103 : decode cX2_begin 103 = .ok (.iload_n 2, 1) := by decide +kernel
theorem dX2_begin_104 : decode cX2_begin 104 = .ok (.aload_n 1, 1) := by decide +kernel
theorem dX2_begin_105 : decode cX2_begin 105 = .ok (.iload_n 2, 1) := by decide +kernel
theorem dX2_begin_106 : decode cX2_begin 106 = .ok (.invokevirtual 77, 3) := by decide +kernel
theorem dX2_begin_109 : decode cX2_begin 109 = .ok (.invokestatic 69, 3) := by decide +kernel
theorem dX2_begin_112 : decode cX2_begin 112 = .ok (.aload_n 0, 1) := by decide +kernel
theorem dX2_begin_113 : decode cX2_begin 113 = .ok (.getfield 24, 3) := by decide +kernel
theorem dX2_begin_116 : decode cX2_begin 116 = .ok (.iload_n 2, 1) := by decide +kernel
theorem dX2_begin_117 : decode cX2_begin 117 = .ok (.iconst 1, 1) := by decide +kernel
theorem dX2_begin_118 : decode cX2_begin 118 = .ok (.iload_n 3, 1) := by decide +kernel
theorem dX2_begin_119 : decode cX2_begin 119 = .ok (.ishl, 1) := by decide +kernel
theorem dX2_begin_120 : decode cX2_begin 120 = .ok (.invokestatic 69, 3) := by decide +kernel
theorem dX2_begin_123 : decode cX2_begin 123 = .ok (.aload_n 0, 1) := by decide +kernel
theorem dX2_begin_124 : decode cX2_begin 124 = .ok (.getfield 21, 3) := by decide +kernel
theorem dX2_begin_127 : decode cX2_begin 127 = .ok (.iload_n 2, 1) := by decide +kernel
theorem dX2_begin_128 : decode cX2_begin 128 = .ok (.bipush 8, 2) := by decide +kernel
theorem dX2_begin_130 : decode cX2_begin 130 = .ok (.imul, 1) := by decide +kernel
theorem dX2_begin_131 : decode cX2_begin 131 = .ok (.iload_n 3, 1) := by decide +kernel
theorem dX2_begin_132 : decode cX2_begin 132 = .ok (.iadd, 1) := by decide +kernel
theorem dX2_begin_133 : decode cX2_begin 133 = .ok (.aload_n 0, 1) := by decide +kernel
theorem dX2_begin_134 : decode cX2_begin 134 = .ok (.getfield 18, 3) := by decide +kernel
theorem dX2_begin_137 : decode cX2_begin 137 = .ok (.iload_n 2, 1) := by decide +kernel
theorem dX2_begin_138 : decode cX2_begin 138 = .ok (.invokestatic 65, 3) := by decide +kernel
theorem dX2_begin_141 : decode cX2_begin 141 = .ok (.invokestatic 69, 3) := by decide +kernel
theorem dX2_begin_144 : decode cX2_begin 144 = .ok (.iinc 2 1, 3) := by decide +kernel
theorem dX2_begin_147 : decode cX2_begin 147 = .ok (.goto (-89), 3) := by decide +kernel
theorem dX2_begin_150 : decode cX2_begin 150 = .ok (.return_, 1) := by decide +kernel
theorem mokX2_begin : MOK yX2_begin cX2_begin 4 none 1 := ⟨w4_94, w1_8, ⟨by decide, by decide⟩, by decide +kernel, by decide⟩
abbrev miX2_begin : MI := (yX2_begin.cls, cX2_begin, 4, 4, false)
noncomputable def LX2_begin_1 : Sm Unit := dLoop (fun f => (sI (sR (sR fr0 0 (gR f 0)) 1 (gR f 1)) 2 (gI f 2))) (dCI r_lt (vI 2) (dGI 5 6 (vR 1))) (dDo (dCall DX11_put (aI (aI (aR aN 0 (dGR 2 8 (vR 0))) 1 (vI 2)) 2 (dCall DX11_cell (aI (aR aN 0 (dGR 5 11 (vR 1))) 1 (vI 2)))))) (dInc 2 1)
theorem sLX2_begin_1 {ΓL : Gm} {PB PK : List Nat} : SS (cvoV, .return_) miX2_begin ΓL PB PK [(0, 2), (1, 2), (2, 0)] [(0, 2), (1, 2), (2, 0)] 26 [56] LX2_begin_1 := t_loop (pT := 34) (pF := 56) (pu := 50) (PB' := []) (PK' := []) (XB := [50]) (XU := [53]) (fun _ _ => rfl) rfl (c_lt_F (pF := 56) (s_iload_n dX2_begin_26 rfl rfl) (s_getI ck5 6 (by decide) rfl (s_aload_n dX2_begin_27 rfl rfl) dX2_begin_28 w1_162) dX2_begin_31 rfl) (t_do (x_callN (ts := [(0, 2), (1, 0), (2, 0)]) kX11_put mokX11_put w3_161 rfl rfl rfl (a_I (ts := [(0, 2), (1, 0)]) 2 (a_I (ts := [(0, 2)]) 1 (a_R (ts := []) 0 a_nil (s_getR ck2 8 (by decide) rfl (s_aload_n dX2_begin_34 rfl rfl) dX2_begin_35 w2_42) rfl) (s_iload_n dX2_begin_38 rfl rfl) rfl) (s_of_xI (x_callN (ts := [(0, 2), (1, 0)]) kX11_cell mokX11_cell w3_229 rfl rfl rfl (a_I (ts := [(0, 2)]) 1 (a_R (ts := []) 0 a_nil (s_getR ck5 11 (by decide) rfl (s_aload_n dX2_begin_39 rfl rfl) dX2_begin_40 w1_180) rfl) (s_iload_n dX2_begin_43 rfl rfl) rfl) dX2_begin_44 nb17)) rfl) dX2_begin_47 nb18) rfl) (t_iinc dX2_begin_50 rfl rfl rfl rfl) (lda_cons (ld_in rfl) lda_nil) lda_nil (lda_cons (ld_goto (y := 26) dX2_begin_53 rfl (ld_in rfl)) lda_nil) (ld_in rfl) lda_nil
noncomputable def LX2_begin_2 : Sm Unit := dLoop (fun f => (sI (sR (sR fr0 0 (gR f 0)) 1 (gR f 1)) 2 (gI f 2))) (dCI r_lt (vI 2) (dGI 5 7 (vR 1))) (dSeq (dSetI 3 (dT (dCI r_eq (vI 2) (dGI 2 4 (vR 0))) (dGI 2 5 (vR 0)) (dCall DX11_cell (aI (aR aN 0 (dGR 5 13 (vR 1))) 1 (vI 2))))) (dSeq (dDo (dCall DX11_put (aI (aI (aR aN 0 (dGR 2 9 (vR 0))) 1 (vI 2)) 2 (vI 3)))) (dSeq (dDo (dCall DX11_put (aI (aI (aR aN 0 (dGR 2 10 (vR 0))) 1 (vI 2)) 2 (dCallV 5 DX5_leftAtFirst (aI (aR aN 0 (vR 1)) 1 (vI 2)))))) (dSeq (dDo (dCall DX11_put (aI (aI (aR aN 0 (dGR 2 12 (vR 0))) 1 (vI 2)) 2 (d2 o_ishl (cI 1) (vI 3))))) (dDo (dCall DX11_put (aI (aI (aR aN 0 (dGR 2 11 (vR 0))) 1 (d2 o_iadd (d2 o_imul (vI 2) (cI 8)) (vI 3))) 2 (dCall DX11_cell (aI (aR aN 0 (dGR 2 10 (vR 0))) 1 (vI 2)))))))))) (dInc 2 1)
theorem sLX2_begin_2 {ΓL : Gm} {PB PK : List Nat} : SS (cvoV, .return_) miX2_begin ΓL PB PK [(0, 2), (1, 2), (2, 0)] [(0, 2), (1, 2), (2, 0)] 58 [150] LX2_begin_2 := t_loop (pT := 66) (pF := 150) (pu := 144) (PB' := []) (PK' := []) (XB := [144]) (XU := [147]) (fun _ _ => rfl) rfl (c_lt_F (pF := 150) (s_iload_n dX2_begin_58 rfl rfl) (s_getI ck5 7 (by decide) rfl (s_aload_n dX2_begin_59 rfl rfl) dX2_begin_60 w1_166) dX2_begin_63 rfl) (t_sq (p1 := 90) (Γ' := [(0, 2), (1, 2), (2, 0), (3, 0)]) (t_istore_n (s_T (pT := 74) (pF := 81) (p1 := 78) (pe := 89) (c_eq_F (pF := 81) (s_iload_n dX2_begin_66 rfl rfl) (s_getI ck2 4 (by decide) rfl (s_aload_n dX2_begin_67 rfl rfl) dX2_begin_68 w2_35) dX2_begin_71 rfl) (s_getI ck2 5 (by decide) rfl (s_aload_n dX2_begin_74 rfl rfl) dX2_begin_75 w2_37) (s_of_xI (x_callN (ts := [(0, 2), (1, 0)]) kX11_cell mokX11_cell w3_229 rfl rfl rfl (a_I (ts := [(0, 2)]) 1 (a_R (ts := []) 0 a_nil (s_getR ck5 13 (by decide) rfl (s_aload_n dX2_begin_81 rfl rfl) dX2_begin_82 w1_189) rfl) (s_iload_n dX2_begin_85 rfl rfl) rfl) dX2_begin_86 nb17)) (ld_goto (y := 89) dX2_begin_78 rfl (ld_in rfl))) dX2_begin_89 rfl rfl rfl) (t_sq (p1 := 99) (Γ' := [(0, 2), (1, 2), (2, 0), (3, 0)]) (t_do (x_callN (ts := [(0, 2), (1, 0), (2, 0)]) kX11_put mokX11_put w3_161 rfl rfl rfl (a_I (ts := [(0, 2), (1, 0)]) 2 (a_I (ts := [(0, 2)]) 1 (a_R (ts := []) 0 a_nil (s_getR ck2 9 (by decide) rfl (s_aload_n dX2_begin_90 rfl rfl) dX2_begin_91 w2_44) rfl) (s_iload_n dX2_begin_94 rfl rfl) rfl) (s_iload_n dX2_begin_95 rfl rfl) rfl) dX2_begin_96 nb18) rfl) (t_sq (p1 := 112) (Γ' := [(0, 2), (1, 2), (2, 0), (3, 0)]) (t_do (x_callN (ts := [(0, 2), (1, 0), (2, 0)]) kX11_put mokX11_put w3_161 rfl rfl rfl (a_I (ts := [(0, 2), (1, 0)]) 2 (a_I (ts := [(0, 2)]) 1 (a_R (ts := []) 0 a_nil (s_getR ck2 10 (by decide) rfl (s_aload_n dX2_begin_99 rfl rfl) dX2_begin_100 w2_46) rfl) (s_iload_n dX2_begin_103 rfl rfl) rfl) (s_of_xI (x_callV (ts := [(0, 2), (1, 0)]) ck5 rfl kX5_leftAtFirst mokX5_leftAtFirst w4_99 w4_100 rfl rfl rfl rfl (a_I (ts := [(0, 2)]) 1 (a_R (ts := []) 0 a_nil (s_aload_n dX2_begin_104 rfl rfl) rfl) (s_iload_n dX2_begin_105 rfl rfl) rfl) dX2_begin_106 w4_98)) rfl) dX2_begin_109 nb18) rfl) (t_sq (p1 := 123) (Γ' := [(0, 2), (1, 2), (2, 0), (3, 0)]) (t_do (x_callN (ts := [(0, 2), (1, 0), (2, 0)]) kX11_put mokX11_put w3_161 rfl rfl rfl (a_I (ts := [(0, 2), (1, 0)]) 2 (a_I (ts := [(0, 2)]) 1 (a_R (ts := []) 0 a_nil (s_getR ck2 12 (by decide) rfl (s_aload_n dX2_begin_112 rfl rfl) dX2_begin_113 w2_52) rfl) (s_iload_n dX2_begin_116 rfl rfl) rfl) (s_ishl (s_iconst dX2_begin_117 rfl) (s_iload_n dX2_begin_118 rfl rfl) dX2_begin_119) rfl) dX2_begin_120 nb18) rfl) (t_do (x_callN (ts := [(0, 2), (1, 0), (2, 0)]) kX11_put mokX11_put w3_161 rfl rfl rfl (a_I (ts := [(0, 2), (1, 0)]) 2 (a_I (ts := [(0, 2)]) 1 (a_R (ts := []) 0 a_nil (s_getR ck2 11 (by decide) rfl (s_aload_n dX2_begin_123 rfl rfl) dX2_begin_124 w2_50) rfl) (s_iadd (s_imul (s_iload_n dX2_begin_127 rfl rfl) (s_bipush dX2_begin_128 rfl) dX2_begin_130) (s_iload_n dX2_begin_131 rfl rfl) dX2_begin_132) rfl) (s_of_xI (x_callN (ts := [(0, 2), (1, 0)]) kX11_cell mokX11_cell w3_229 rfl rfl rfl (a_I (ts := [(0, 2)]) 1 (a_R (ts := []) 0 a_nil (s_getR ck2 10 (by decide) rfl (s_aload_n dX2_begin_133 rfl rfl) dX2_begin_134 w2_46) rfl) (s_iload_n dX2_begin_137 rfl rfl) rfl) dX2_begin_138 nb17)) rfl) dX2_begin_141 nb18) rfl))))) (t_iinc dX2_begin_144 rfl rfl rfl rfl) (lda_cons (ld_in rfl) lda_nil) lda_nil (lda_cons (ld_goto (y := 58) dX2_begin_147 rfl (ld_in rfl)) lda_nil) (ld_in rfl) lda_nil
noncomputable def BX2_begin : Sm Unit := (dSeq (dDo (dCall DJ7_fill_53178 (aI (aR aN 0 (dGR 2 11 (vR 0))) 1 (cI 0)))) (dSeq (dDo (dCall DJ7_fill_53178 (aI (aR aN 0 (dGR 2 13 (vR 0))) 1 (cI 1)))) (dSeq (dDo (dCall DJ7_fill_53178 (aI (aR aN 0 (dGR 2 14 (vR 0))) 1 (cI (-1))))) (dSeq (dSeq (dSetI 2 (cI 0)) LX2_begin_1) (dSeq (dSeq (dSetI 2 (cI 0)) LX2_begin_2) dRet0)))))
theorem sBX2_begin : SS (cvoV, .return_) miX2_begin [] [] [] [(0, 2), (1, 2)] [(0, 2), (1, 2)] 0 [] BX2_begin := (t_sq (p1 := 8) (Γ' := [(0, 2), (1, 2)]) (t_do (x_call (ts := [(0, 2), (1, 0)]) kJ7_fill_53178 mokJ7_fill_53178 w4_52 rfl rfl rfl (a_I (ts := [(0, 2)]) 1 (a_R (ts := []) 0 a_nil (s_getR ck2 11 (by decide) rfl (s_aload_n dX2_begin_0 rfl rfl) dX2_begin_1 w2_50) rfl) (s_iconst dX2_begin_4 rfl) rfl) dX2_begin_5 w4_95) rfl) (t_sq (p1 := 16) (Γ' := [(0, 2), (1, 2)]) (t_do (x_call (ts := [(0, 2), (1, 0)]) kJ7_fill_53178 mokJ7_fill_53178 w4_52 rfl rfl rfl (a_I (ts := [(0, 2)]) 1 (a_R (ts := []) 0 a_nil (s_getR ck2 13 (by decide) rfl (s_aload_n dX2_begin_8 rfl rfl) dX2_begin_9 w2_53) rfl) (s_iconst dX2_begin_12 rfl) rfl) dX2_begin_13 w4_95) rfl) (t_sq (p1 := 24) (Γ' := [(0, 2), (1, 2)]) (t_do (x_call (ts := [(0, 2), (1, 0)]) kJ7_fill_53178 mokJ7_fill_53178 w4_52 rfl rfl rfl (a_I (ts := [(0, 2)]) 1 (a_R (ts := []) 0 a_nil (s_getR ck2 14 (by decide) rfl (s_aload_n dX2_begin_16 rfl rfl) dX2_begin_17 w2_55) rfl) (s_iconst dX2_begin_20 rfl) rfl) dX2_begin_21 w4_95) rfl) (t_sq (p1 := 56) (Γ' := [(0, 2), (1, 2)]) (t_sq (p1 := 26) (Γ' := [(0, 2), (1, 2), (2, 0)]) (t_istore_n (s_iconst dX2_begin_24 rfl) dX2_begin_25 rfl rfl rfl) (tn_to (Γ' := [(0, 2), (1, 2), (2, 0)]) (XA := [56]) sLX2_begin_1 (lda_cons (ld_in rfl) lda_nil) rfl)) (t_sq (p1 := 150) (Γ' := [(0, 2), (1, 2)]) (t_sq (p1 := 58) (Γ' := [(0, 2), (1, 2), (2, 0)]) (t_istore_n (s_iconst dX2_begin_56 rfl) dX2_begin_57 rfl rfl rfl) (tn_to (Γ' := [(0, 2), (1, 2), (2, 0)]) (XA := [150]) sLX2_begin_2 (lda_cons (ld_in rfl) lda_nil) rfl)) (t_ret0 (fun _ _ => rfl) dX2_begin_150))))))
noncomputable def DX2_begin : Fr → St → Option (Unit × St) := M1 (fun f => (sR (sR fr0 0 (gR f 0)) 1 (gR f 1))) BX2_begin
theorem kX2_begin : SND yX2_begin cX2_begin 4 none 4 [(0, 2), (1, 2)] cvoV DX2_begin := snd_V (nw := 2) (by decide) (fun z => by cases z) rfl rfl (fun _ _ => rfl) sBX2_begin
theorem dX5_weightOf_0 : decode cX5_weightOf 0 = .ok (.iconst 0, 1) := by decide +kernel
theorem dX5_weightOf_1 : decode cX5_weightOf 1 = .ok (.istore_n 3, 1) := by decide +kernel
theorem dX5_weightOf_2 : decode cX5_weightOf 2 = .ok (.iconst 0, 1) := by decide +kernel
theorem dX5_weightOf_3 : decode cX5_weightOf 3 = .ok (.istore 4, 2) := by decide +kernel
theorem dX5_weightOf_5 : decode cX5_weightOf 5 = .ok (.iload 4, 2) := by decide +kernel
theorem dX5_weightOf_7 : decode cX5_weightOf 7 = .ok (.bipush 6, 2) := by decide +kernel
theorem dX5_weightOf_9 : decode cX5_weightOf 9 = .ok (.if_icmp .ge 35, 3) := by decide +kernel
theorem dX5_weightOf_12 : decode cX5_weightOf 12 = .ok (.iload_n 2, 1) := by decide +kernel
theorem dX5_weightOf_13 : decode cX5_weightOf 13 = .ok (.iload 4, 2) := by decide +kernel
theorem dX5_weightOf_15 : decode cX5_weightOf 15 = .ok (.invokestatic 113, 3) := by decide +kernel
theorem dX5_weightOf_18 : decode cX5_weightOf 18 = .ok (.ifCond .eq 20, 3) := by decide +kernel
theorem dX5_weightOf_21 : decode cX5_weightOf 21 = .ok (.iload_n 3, 1) := by decide +kernel
theorem dX5_weightOf_22 : decode cX5_weightOf 22 = .ok (.aload_n 0, 1) := by decide +kernel
theorem dX5_weightOf_23 : decode cX5_weightOf 23 = .ok (.getfield 33, 3) := by decide +kernel
theorem dX5_weightOf_26 : decode cX5_weightOf 26 = .ok (.iload_n 1, 1) := by decide +kernel
theorem dX5_weightOf_27 : decode cX5_weightOf 27 = .ok (.bipush 6, 2) := by decide +kernel
theorem dX5_weightOf_29 : decode cX5_weightOf 29 = .ok (.imul, 1) := by decide +kernel
theorem dX5_weightOf_30 : decode cX5_weightOf 30 = .ok (.iload 4, 2) := by decide +kernel
theorem dX5_weightOf_32 : decode cX5_weightOf 32 = .ok (.iadd, 1) := by decide +kernel
theorem dX5_weightOf_33 : decode cX5_weightOf 33 = .ok (.invokestatic 85, 3) := by decide +kernel
theorem dX5_weightOf_36 : decode cX5_weightOf 36 = .ok (.iadd, 1) := by decide +kernel
theorem dX5_weightOf_37 : decode cX5_weightOf 37 = .ok (.istore_n 3, 1) := by decide +kernel
theorem dX5_weightOf_38 : decode cX5_weightOf 38 = .ok (.iinc 4 1, 3) := by decide +kernel
theorem dX5_weightOf_41 : decode cX5_weightOf 41 = .ok (.goto (-36), 3) := by decide +kernel
theorem dX5_weightOf_44 : decode cX5_weightOf 44 = .ok (.iload_n 3, 1) := by decide +kernel
theorem dX5_weightOf_45 : decode cX5_weightOf 45 = .ok (.ireturn, 1) := by decide +kernel
theorem mokX5_weightOf : MOK yX5_weightOf cX5_weightOf 5 (some .int) 2 := ⟨w4_133, w1_4, ⟨by decide, by decide⟩, by decide +kernel, by decide⟩
abbrev miX5_weightOf : MI := (yX5_weightOf.cls, cX5_weightOf, 5, 2, false)
noncomputable def LX5_weightOf_1 : Sm Int32 := dLoop (fun f => (sI (sI (sI (sI (sR fr0 0 (gR f 0)) 1 (gI f 1)) 2 (gI f 2)) 3 (gI f 3)) 4 (gI f 4))) (dCI r_lt (vI 4) (cI 6)) (dIf (dCZ q_ne (dCall DX11_hasBit (aI (aI aN 0 (vI 2)) 1 (vI 4)))) (dSetI 3 (d2 o_iadd (vI 3) (dCall DX11_cell (aI (aR aN 0 (dGR 5 15 (vR 0))) 1 (d2 o_iadd (d2 o_imul (vI 1) (cI 6)) (vI 4)))))) dSkip) (dInc 4 1)
theorem sLX5_weightOf_1 {ΓL : Gm} {PB PK : List Nat} : SS (cvoI, .ireturn) miX5_weightOf ΓL PB PK [(0, 2), (1, 0), (2, 0), (3, 0), (4, 0)] [(0, 2), (1, 0), (2, 0), (3, 0), (4, 0)] 5 [44] LX5_weightOf_1 := t_loop (pT := 12) (pF := 44) (pu := 38) (PB' := []) (PK' := []) (XB := [38]) (XU := [41]) (fun _ _ => rfl) rfl (c_lt_F (pF := 44) (s_iload dX5_weightOf_5 rfl) (s_bipush dX5_weightOf_7 rfl) dX5_weightOf_9 rfl) (t_if (pT := 21) (pF := 38) (X := [38]) (XA := [38]) (XB := [38]) (c_ne_ZF (pF := 38) (s_of_xI (x_callN (ts := [(0, 0), (1, 0)]) kX11_hasBit mokX11_hasBit w4_37 rfl rfl rfl (a_I (ts := [(0, 0)]) 1 (a_I (ts := []) 0 a_nil (s_iload_n dX5_weightOf_12 rfl rfl) rfl) (s_iload dX5_weightOf_13 rfl) rfl) dX5_weightOf_15 nb21)) dX5_weightOf_18 rfl) (t_istore_n (s_iadd (s_iload_n dX5_weightOf_21 rfl rfl) (s_of_xI (x_callN (ts := [(0, 2), (1, 0)]) kX11_cell mokX11_cell w3_229 rfl rfl rfl (a_I (ts := [(0, 2)]) 1 (a_R (ts := []) 0 a_nil (s_getR ck5 15 (by decide) rfl (s_aload_n dX5_weightOf_22 rfl rfl) dX5_weightOf_23 w1_194) rfl) (s_iadd (s_imul (s_iload_n dX5_weightOf_26 rfl rfl) (s_bipush dX5_weightOf_27 rfl) dX5_weightOf_29) (s_iload dX5_weightOf_30 rfl) dX5_weightOf_32) rfl) dX5_weightOf_33 nb13)) dX5_weightOf_36) dX5_weightOf_37 rfl rfl rfl) (t_skip (ld_in rfl) rfl) (lda_cons (ld_in rfl) lda_nil) (lda_cons (ld_in rfl) lda_nil)) (t_iinc dX5_weightOf_38 rfl rfl rfl rfl) (lda_cons (ld_in rfl) lda_nil) lda_nil (lda_cons (ld_goto (y := 5) dX5_weightOf_41 rfl (ld_in rfl)) lda_nil) (ld_in rfl) lda_nil
noncomputable def BX5_weightOf : Sm Int32 := (dSeq (dSetI 3 (cI 0)) (dSeq (dSeq (dSetI 4 (cI 0)) LX5_weightOf_1) (dRet (vI 3))))
theorem sBX5_weightOf : SS (cvoI, .ireturn) miX5_weightOf [] [] [] [(0, 2), (1, 0), (2, 0)] [(0, 2), (1, 0), (2, 0)] 0 [] BX5_weightOf := (t_sq (p1 := 2) (Γ' := [(0, 2), (1, 0), (2, 0), (3, 0)]) (t_istore_n (s_iconst dX5_weightOf_0 rfl) dX5_weightOf_1 rfl rfl rfl) (t_sq (p1 := 44) (Γ' := [(0, 2), (1, 0), (2, 0), (3, 0)]) (t_sq (p1 := 5) (Γ' := [(0, 2), (1, 0), (2, 0), (3, 0), (4, 0)]) (t_istore (s_iconst dX5_weightOf_2 rfl) dX5_weightOf_3 rfl rfl) (tn_to (Γ' := [(0, 2), (1, 0), (2, 0), (3, 0), (4, 0)]) (XA := [44]) sLX5_weightOf_1 (lda_cons (ld_in rfl) lda_nil) rfl)) (t_ret (cv := cvI) (fun _ _ => rfl) (s_iload_n dX5_weightOf_44 rfl rfl) dX5_weightOf_45)))
noncomputable def DX5_weightOf : Fr → St → Option (Int32 × St) := M1 (fun f => (sI (sI (sR fr0 0 (gR f 0)) 1 (gI f 1)) 2 (gI f 2))) BX5_weightOf
theorem kX5_weightOf : SND yX5_weightOf cX5_weightOf 5 (some .int) 2 [(0, 2), (1, 0), (2, 0)] cvoI DX5_weightOf := snd_I (nw := 3) (by decide) rfl rfl (fun _ _ => rfl) sBX5_weightOf
theorem dX2_loadTo_0 : decode cX2_loadTo 0 = .ok (.aload_n 1, 1) := by decide +kernel
theorem dX2_loadTo_1 : decode cX2_loadTo 1 = .ok (.iload_n 2, 1) := by decide +kernel
theorem dX2_loadTo_2 : decode cX2_loadTo 2 = .ok (.aload_n 0, 1) := by decide +kernel
theorem dX2_loadTo_3 : decode cX2_loadTo 3 = .ok (.getfield 18, 3) := by decide +kernel
theorem dX2_loadTo_6 : decode cX2_loadTo 6 = .ok (.iload_n 2, 1) := by decide +kernel
theorem dX2_loadTo_7 : decode cX2_loadTo 7 = .ok (.invokestatic 65, 3) := by decide +kernel
theorem dX2_loadTo_10 : decode cX2_loadTo 10 = .ok (.invokevirtual 142, 3) := by decide +kernel
theorem dX2_loadTo_13 : decode cX2_loadTo 13 = .ok (.istore 4, 2) := by decide +kernel
theorem dX2_loadTo_15 : decode cX2_loadTo 15 = .ok (.iload 4, 2) := by decide +kernel
theorem dX2_loadTo_17 : decode cX2_loadTo 17 = .ok (.aload_n 1, 1) := by decide +kernel
theorem dX2_loadTo_18 : decode cX2_loadTo 18 = .ok (.aload_n 0, 1) := by decide +kernel
theorem dX2_loadTo_19 : decode cX2_loadTo 19 = .ok (.getfield 15, 3) := by decide +kernel
theorem dX2_loadTo_22 : decode cX2_loadTo 22 = .ok (.iload_n 2, 1) := by decide +kernel
theorem dX2_loadTo_23 : decode cX2_loadTo 23 = .ok (.invokestatic 65, 3) := by decide +kernel
theorem dX2_loadTo_26 : decode cX2_loadTo 26 = .ok (.iload_n 3, 1) := by decide +kernel
theorem dX2_loadTo_27 : decode cX2_loadTo 27 = .ok (.invokevirtual 145, 3) := by decide +kernel
theorem dX2_loadTo_30 : decode cX2_loadTo 30 = .ok (.iadd, 1) := by decide +kernel
theorem dX2_loadTo_31 : decode cX2_loadTo 31 = .ok (.ireturn, 1) := by decide +kernel
theorem mokX2_loadTo : MOK yX2_loadTo cX2_loadTo 5 (some .int) 3 := ⟨w4_129, w1_8, ⟨by decide, by decide⟩, by decide +kernel, by decide⟩
abbrev miX2_loadTo : MI := (yX2_loadTo.cls, cX2_loadTo, 5, 3, false)
noncomputable def BX2_loadTo : Sm Int32 := (dSeq (dSetI 4 (dCallV 5 DX5_weightOf (aI (aI (aR aN 0 (vR 1)) 1 (vI 2)) 2 (dCall DX11_cell (aI (aR aN 0 (dGR 2 10 (vR 0))) 1 (vI 2)))))) (dRet (d2 o_iadd (vI 4) (dCallV 5 DX5_climbTo (aI (aI (aR aN 0 (vR 1)) 1 (dCall DX11_cell (aI (aR aN 0 (dGR 2 9 (vR 0))) 1 (vI 2)))) 2 (vI 3))))))
theorem sBX2_loadTo : SS (cvoI, .ireturn) miX2_loadTo [] [] [] [(0, 2), (1, 2), (2, 0), (3, 0)] [(0, 2), (1, 2), (2, 0), (3, 0)] 0 [] BX2_loadTo := (t_sq (p1 := 15) (Γ' := [(0, 2), (1, 2), (2, 0), (3, 0), (4, 0)]) (t_istore (s_of_xI (x_callV (ts := [(0, 2), (1, 0), (2, 0)]) ck5 rfl kX5_weightOf mokX5_weightOf w4_131 w4_132 rfl rfl rfl rfl (a_I (ts := [(0, 2), (1, 0)]) 2 (a_I (ts := [(0, 2)]) 1 (a_R (ts := []) 0 a_nil (s_aload_n dX2_loadTo_0 rfl rfl) rfl) (s_iload_n dX2_loadTo_1 rfl rfl) rfl) (s_of_xI (x_callN (ts := [(0, 2), (1, 0)]) kX11_cell mokX11_cell w3_229 rfl rfl rfl (a_I (ts := [(0, 2)]) 1 (a_R (ts := []) 0 a_nil (s_getR ck2 10 (by decide) rfl (s_aload_n dX2_loadTo_2 rfl rfl) dX2_loadTo_3 w2_46) rfl) (s_iload_n dX2_loadTo_6 rfl rfl) rfl) dX2_loadTo_7 nb17)) rfl) dX2_loadTo_10 w4_130)) dX2_loadTo_13 rfl rfl) (t_ret (cv := cvI) (fun _ _ => rfl) (s_iadd (s_iload dX2_loadTo_15 rfl) (s_of_xI (x_callV (ts := [(0, 2), (1, 0), (2, 0)]) ck5 rfl kX5_climbTo mokX5_climbTo w4_61 w4_62 rfl rfl rfl rfl (a_I (ts := [(0, 2), (1, 0)]) 2 (a_I (ts := [(0, 2)]) 1 (a_R (ts := []) 0 a_nil (s_aload_n dX2_loadTo_17 rfl rfl) rfl) (s_of_xI (x_callN (ts := [(0, 2), (1, 0)]) kX11_cell mokX11_cell w3_229 rfl rfl rfl (a_I (ts := [(0, 2)]) 1 (a_R (ts := []) 0 a_nil (s_getR ck2 9 (by decide) rfl (s_aload_n dX2_loadTo_18 rfl rfl) dX2_loadTo_19 w2_44) rfl) (s_iload_n dX2_loadTo_22 rfl rfl) rfl) dX2_loadTo_23 nb17)) rfl) (s_iload_n dX2_loadTo_26 rfl rfl) rfl) dX2_loadTo_27 w4_135)) dX2_loadTo_30) dX2_loadTo_31))
noncomputable def DX2_loadTo : Fr → St → Option (Int32 × St) := M1 (fun f => (sI (sI (sR (sR fr0 0 (gR f 0)) 1 (gR f 1)) 2 (gI f 2)) 3 (gI f 3))) BX2_loadTo
theorem kX2_loadTo : SND yX2_loadTo cX2_loadTo 5 (some .int) 3 [(0, 2), (1, 2), (2, 0), (3, 0)] cvoI DX2_loadTo := snd_I (nw := 4) (by decide) rfl rfl (fun _ _ => rfl) sBX2_loadTo
theorem dX5_leftByLaw_0 : decode cX5_leftByLaw 0 = .ok (.iconst 0, 1) := by decide +kernel
theorem dX5_leftByLaw_1 : decode cX5_leftByLaw 1 = .ok (.istore 4, 2) := by decide +kernel
theorem dX5_leftByLaw_3 : decode cX5_leftByLaw 3 = .ok (.iconst 0, 1) := by decide +kernel
theorem dX5_leftByLaw_4 : decode cX5_leftByLaw 4 = .ok (.istore 5, 2) := by decide +kernel
theorem dX5_leftByLaw_6 : decode cX5_leftByLaw 6 = .ok (.iconst 0, 1) := by decide +kernel
theorem dX5_leftByLaw_7 : decode cX5_leftByLaw 7 = .ok (.istore 6, 2) := by decide +kernel
theorem dX5_leftByLaw_9 : decode cX5_leftByLaw 9 = .ok (.iload 6, 2) := by decide +kernel
theorem dX5_leftByLaw_11 : decode cX5_leftByLaw 11 = .ok (.bipush 6, 2) := by decide +kernel
theorem dX5_leftByLaw_13 : decode cX5_leftByLaw 13 = .ok (.if_icmp .ge 104, 3) := by decide +kernel
theorem dX5_leftByLaw_16 : decode cX5_leftByLaw 16 = .ok (.iload_n 2, 1) := by decide +kernel
theorem dX5_leftByLaw_17 : decode cX5_leftByLaw 17 = .ok (.iload 6, 2) := by decide +kernel
theorem dX5_leftByLaw_19 : decode cX5_leftByLaw 19 = .ok (.invokestatic 113, 3) := by decide +kernel
theorem dX5_leftByLaw_22 : decode cX5_leftByLaw 22 = .ok (.ifCond .eq 20, 3) := by decide +kernel
theorem dX5_leftByLaw_25 : decode cX5_leftByLaw 25 = .ok (.aload_n 0, 1) := by decide +kernel
theorem dX5_leftByLaw_26 : decode cX5_leftByLaw 26 = .ok (.getfield 33, 3) := by decide +kernel
theorem dX5_leftByLaw_29 : decode cX5_leftByLaw 29 = .ok (.iload_n 1, 1) := by decide +kernel
theorem dX5_leftByLaw_30 : decode cX5_leftByLaw 30 = .ok (.bipush 6, 2) := by decide +kernel
theorem dX5_leftByLaw_32 : decode cX5_leftByLaw 32 = .ok (.imul, 1) := by decide +kernel
theorem dX5_leftByLaw_33 : decode cX5_leftByLaw 33 = .ok (.iload 6, 2) := by decide +kernel
theorem dX5_leftByLaw_35 : decode cX5_leftByLaw 35 = .ok (.iadd, 1) := by decide +kernel
theorem dX5_leftByLaw_36 : decode cX5_leftByLaw 36 = .ok (.invokestatic 85, 3) := by decide +kernel
theorem dX5_leftByLaw_39 : decode cX5_leftByLaw 39 = .ok (.goto 4, 3) := by decide +kernel
theorem dX5_leftByLaw_42 : decode cX5_leftByLaw 42 = .ok (.iconst 0, 1) := by decide +kernel
theorem dX5_leftByLaw_43 : decode cX5_leftByLaw 43 = .ok (.istore 7, 2) := by decide +kernel
theorem dX5_leftByLaw_45 : decode cX5_leftByLaw 45 = .ok (.iload_n 3, 1) := by decide +kernel
theorem dX5_leftByLaw_46 : decode cX5_leftByLaw 46 = .ok (.iconst 1, 1) := by decide +kernel
theorem dX5_leftByLaw_47 : decode cX5_leftByLaw 47 = .ok (.if_icmp .ne 12, 3) := by decide +kernel
theorem dX5_leftByLaw_50 : decode cX5_leftByLaw 50 = .ok (.iload 4, 2) := by decide +kernel
theorem dX5_leftByLaw_52 : decode cX5_leftByLaw 52 = .ok (.ifCond .ne 7, 3) := by decide +kernel
theorem dX5_leftByLaw_55 : decode cX5_leftByLaw 55 = .ok (.iconst 1, 1) := by decide +kernel
theorem dX5_leftByLaw_56 : decode cX5_leftByLaw 56 = .ok (.goto 4, 3) := by decide +kernel
theorem dX5_leftByLaw_59 : decode cX5_leftByLaw 59 = .ok (.iconst 0, 1) := by decide +kernel
theorem dX5_leftByLaw_60 : decode cX5_leftByLaw 60 = .ok (.istore 8, 2) := by decide +kernel
theorem dX5_leftByLaw_62 : decode cX5_leftByLaw 62 = .ok (.iload_n 3, 1) := by decide +kernel
theorem dX5_leftByLaw_63 : decode cX5_leftByLaw 63 = .ok (.iconst 2, 1) := by decide +kernel
theorem dX5_leftByLaw_64 : decode cX5_leftByLaw 64 = .ok (.if_icmp .ne 14, 3) := by decide +kernel
theorem dX5_leftByLaw_67 : decode cX5_leftByLaw 67 = .ok (.iload 7, 2) := by decide +kernel
theorem dX5_leftByLaw_69 : decode cX5_leftByLaw 69 = .ok (.iload 5, 2) := by decide +kernel
theorem dX5_leftByLaw_71 : decode cX5_leftByLaw 71 = .ok (.if_icmp .le 7, 3) := by decide +kernel
theorem dX5_leftByLaw_74 : decode cX5_leftByLaw 74 = .ok (.iconst 1, 1) := by decide +kernel
theorem dX5_leftByLaw_75 : decode cX5_leftByLaw 75 = .ok (.goto 4, 3) := by decide +kernel
theorem dX5_leftByLaw_78 : decode cX5_leftByLaw 78 = .ok (.iconst 0, 1) := by decide +kernel
theorem dX5_leftByLaw_79 : decode cX5_leftByLaw 79 = .ok (.istore 9, 2) := by decide +kernel
theorem dX5_leftByLaw_81 : decode cX5_leftByLaw 81 = .ok (.iload 7, 2) := by decide +kernel
theorem dX5_leftByLaw_83 : decode cX5_leftByLaw 83 = .ok (.ifCond .le 28, 3) := by decide +kernel
theorem dX5_leftByLaw_86 : decode cX5_leftByLaw 86 = .ok (.iload 8, 2) := by decide +kernel
theorem dX5_leftByLaw_88 : decode cX5_leftByLaw 88 = .ok (.ifCond .ne 13, 3) := by decide +kernel
theorem dX5_leftByLaw_91 : decode cX5_leftByLaw 91 = .ok (.iload 9, 2) := by decide +kernel
theorem dX5_leftByLaw_93 : decode cX5_leftByLaw 93 = .ok (.ifCond .ne 8, 3) := by decide +kernel
theorem dX5_leftByLaw_96 : decode cX5_leftByLaw 96 = .ok (.iload_n 3, 1) := by decide +kernel
theorem dX5_leftByLaw_97 : decode cX5_leftByLaw 97 = .ok (.iconst 3, 1) := by decide +kernel
theorem dX5_leftByLaw_98 : decode cX5_leftByLaw 98 = .ok (.if_icmp .ne 13, 3) := by decide +kernel
theorem dX5_leftByLaw_101 : decode cX5_leftByLaw 101 = .ok (.iconst 1, 1) := by decide +kernel
theorem dX5_leftByLaw_102 : decode cX5_leftByLaw 102 = .ok (.iload 6, 2) := by decide +kernel
theorem dX5_leftByLaw_104 : decode cX5_leftByLaw 104 = .ok (.ishl, 1) := by decide +kernel
theorem dX5_leftByLaw_105 : decode cX5_leftByLaw 105 = .ok (.istore 4, 2) := by decide +kernel
theorem dX5_leftByLaw_107 : decode cX5_leftByLaw 107 = .ok (.iload 7, 2) := by decide +kernel
theorem dX5_leftByLaw_109 : decode cX5_leftByLaw 109 = .ok (.istore 5, 2) := by decide +kernel
theorem dX5_leftByLaw_111 : decode cX5_leftByLaw 111 = .ok (.iinc 6 1, 3) := by decide +kernel
theorem dX5_leftByLaw_114 : decode cX5_leftByLaw 114 = .ok (.goto (-105), 3) := by decide +kernel
theorem dX5_leftByLaw_117 : decode cX5_leftByLaw 117 = .ok (.iload_n 2, 1) := by decide +kernel
theorem dX5_leftByLaw_118 : decode cX5_leftByLaw 118 = .ok (.iload 4, 2) := by decide +kernel
theorem dX5_leftByLaw_120 : decode cX5_leftByLaw 120 = .ok (.iconst (-1), 1) := by decide +kernel
theorem dX5_leftByLaw_121 : decode cX5_leftByLaw 121 = .ok (.ixor, 1) := by decide +kernel
theorem dX5_leftByLaw_122 : decode cX5_leftByLaw 122 = .ok (.iand, 1) := by decide +kernel
theorem dX5_leftByLaw_123 : decode cX5_leftByLaw 123 = .ok (.ireturn, 1) := by decide +kernel
theorem mokX5_leftByLaw : MOK yX5_leftByLaw cX5_leftByLaw 10 (some .int) 3 := ⟨w4_143, w1_4, ⟨by decide, by decide⟩, by decide +kernel, by decide⟩
abbrev miX5_leftByLaw : MI := (yX5_leftByLaw.cls, cX5_leftByLaw, 10, 2, false)
noncomputable def LX5_leftByLaw_1 : Sm Int32 := dLoop (fun f => (sI (sI (sI (sI (sI (sI (sR fr0 0 (gR f 0)) 1 (gI f 1)) 2 (gI f 2)) 3 (gI f 3)) 4 (gI f 4)) 5 (gI f 5)) 6 (gI f 6))) (dCI r_lt (vI 6) (cI 6)) (dSeq (dSetI 7 (dT (dCZ q_ne (dCall DX11_hasBit (aI (aI aN 0 (vI 2)) 1 (vI 6)))) (dCall DX11_cell (aI (aR aN 0 (dGR 5 15 (vR 0))) 1 (d2 o_iadd (d2 o_imul (vI 1) (cI 6)) (vI 6)))) (cI 0))) (dSeq (dSetI 8 (dB (dAnd (dCI r_eq (vI 3) (cI 1)) (dCZ q_eq (vI 4))))) (dSeq (dSetI 9 (dB (dAnd (dCI r_eq (vI 3) (cI 2)) (dCI r_gt (vI 7) (vI 5))))) (dIf (dAnd (dCZ q_gt (vI 7)) (dOr (dOr (dCZ q_ne (vI 8)) (dCZ q_ne (vI 9))) (dCI r_eq (vI 3) (cI 3)))) (dSeq (dSetI 4 (d2 o_ishl (cI 1) (vI 6))) (dSetI 5 (vI 7))) dSkip)))) (dInc 6 1)
theorem sLX5_leftByLaw_1 {ΓL : Gm} {PB PK : List Nat} : SS (cvoI, .ireturn) miX5_leftByLaw ΓL PB PK [(0, 2), (1, 0), (2, 0), (3, 0), (4, 0), (5, 0), (6, 0)] [(0, 2), (1, 0), (2, 0), (3, 0), (4, 0), (5, 0), (6, 0)] 9 [117] LX5_leftByLaw_1 := t_loop (pT := 16) (pF := 117) (pu := 111) (PB' := []) (PK' := []) (XB := [111]) (XU := [114]) (fun _ _ => rfl) rfl (c_lt_F (pF := 117) (s_iload dX5_leftByLaw_9 rfl) (s_bipush dX5_leftByLaw_11 rfl) dX5_leftByLaw_13 rfl) (t_sq (p1 := 45) (Γ' := [(0, 2), (1, 0), (2, 0), (3, 0), (4, 0), (5, 0), (6, 0), (7, 0)]) (t_istore (s_T (pT := 25) (pF := 42) (p1 := 39) (pe := 43) (c_ne_ZF (pF := 42) (s_of_xI (x_callN (ts := [(0, 0), (1, 0)]) kX11_hasBit mokX11_hasBit w4_37 rfl rfl rfl (a_I (ts := [(0, 0)]) 1 (a_I (ts := []) 0 a_nil (s_iload_n dX5_leftByLaw_16 rfl rfl) rfl) (s_iload dX5_leftByLaw_17 rfl) rfl) dX5_leftByLaw_19 nb21)) dX5_leftByLaw_22 rfl) (s_of_xI (x_callN (ts := [(0, 2), (1, 0)]) kX11_cell mokX11_cell w3_229 rfl rfl rfl (a_I (ts := [(0, 2)]) 1 (a_R (ts := []) 0 a_nil (s_getR ck5 15 (by decide) rfl (s_aload_n dX5_leftByLaw_25 rfl rfl) dX5_leftByLaw_26 w1_194) rfl) (s_iadd (s_imul (s_iload_n dX5_leftByLaw_29 rfl rfl) (s_bipush dX5_leftByLaw_30 rfl) dX5_leftByLaw_32) (s_iload dX5_leftByLaw_33 rfl) dX5_leftByLaw_35) rfl) dX5_leftByLaw_36 nb13)) (s_iconst dX5_leftByLaw_42 rfl) (ld_goto (y := 43) dX5_leftByLaw_39 rfl (ld_in rfl))) dX5_leftByLaw_43 rfl rfl) (t_sq (p1 := 62) (Γ' := [(0, 2), (1, 0), (2, 0), (3, 0), (4, 0), (5, 0), (6, 0), (7, 0), (8, 0)]) (t_istore (s_B (pT := 55) (pF := 59) (pe := 60) (c_and (p1 := 50) (pT := 55) (pF := 59) (c_eq_F (pF := 59) (s_iload_n dX5_leftByLaw_45 rfl rfl) (s_iconst dX5_leftByLaw_46 rfl) dX5_leftByLaw_47 rfl) (c_eq_ZF (pF := 59) (s_iload dX5_leftByLaw_50 rfl) dX5_leftByLaw_52 rfl)) dX5_leftByLaw_55 dX5_leftByLaw_56 rfl dX5_leftByLaw_59 rfl) dX5_leftByLaw_60 rfl rfl) (t_sq (p1 := 81) (Γ' := [(0, 2), (1, 0), (2, 0), (3, 0), (4, 0), (5, 0), (6, 0), (7, 0), (8, 0), (9, 0)]) (t_istore (s_B (pT := 74) (pF := 78) (pe := 79) (c_and (p1 := 67) (pT := 74) (pF := 78) (c_eq_F (pF := 78) (s_iload_n dX5_leftByLaw_62 rfl rfl) (s_iconst dX5_leftByLaw_63 rfl) dX5_leftByLaw_64 rfl) (c_gt_F (pF := 78) (s_iload dX5_leftByLaw_67 rfl) (s_iload dX5_leftByLaw_69 rfl) dX5_leftByLaw_71 rfl)) dX5_leftByLaw_74 dX5_leftByLaw_75 rfl dX5_leftByLaw_78 rfl) dX5_leftByLaw_79 rfl rfl) (t_if (pT := 101) (pF := 111) (X := [111]) (XA := [111]) (XB := [111]) (c_and (p1 := 86) (pT := 101) (pF := 111) (c_gt_ZF (pF := 111) (s_iload dX5_leftByLaw_81 rfl) dX5_leftByLaw_83 rfl) (c_or (p1 := 96) (pT := 101) (pF := 111) (c_or (p1 := 91) (pT := 101) (pF := 96) (c_ne_ZJ (pT := 101) (s_iload dX5_leftByLaw_86 rfl) dX5_leftByLaw_88 rfl) (c_ne_ZJ (pT := 101) (s_iload dX5_leftByLaw_91 rfl) dX5_leftByLaw_93 rfl)) (c_eq_F (pF := 111) (s_iload_n dX5_leftByLaw_96 rfl rfl) (s_iconst dX5_leftByLaw_97 rfl) dX5_leftByLaw_98 rfl))) (t_sq (p1 := 107) (Γ' := [(0, 2), (1, 0), (2, 0), (3, 0), (4, 0), (5, 0), (6, 0), (7, 0), (8, 0), (9, 0)]) (t_istore (s_ishl (s_iconst dX5_leftByLaw_101 rfl) (s_iload dX5_leftByLaw_102 rfl) dX5_leftByLaw_104) dX5_leftByLaw_105 rfl rfl) (t_istore (s_iload dX5_leftByLaw_107 rfl) dX5_leftByLaw_109 rfl rfl)) (t_skip (ld_in rfl) rfl) (lda_cons (ld_in rfl) lda_nil) (lda_cons (ld_in rfl) lda_nil))))) (t_iinc dX5_leftByLaw_111 rfl rfl rfl rfl) (lda_cons (ld_in rfl) lda_nil) lda_nil (lda_cons (ld_goto (y := 9) dX5_leftByLaw_114 rfl (ld_in rfl)) lda_nil) (ld_in rfl) lda_nil
noncomputable def BX5_leftByLaw : Sm Int32 := (dSeq (dSetI 4 (cI 0)) (dSeq (dSetI 5 (cI 0)) (dSeq (dSeq (dSetI 6 (cI 0)) LX5_leftByLaw_1) (dRet (d2 o_iand (vI 2) (d2 o_ixor (vI 4) (cI (-1))))))))
theorem sBX5_leftByLaw : SS (cvoI, .ireturn) miX5_leftByLaw [] [] [] [(0, 2), (1, 0), (2, 0), (3, 0)] [(0, 2), (1, 0), (2, 0), (3, 0)] 0 [] BX5_leftByLaw := (t_sq (p1 := 3) (Γ' := [(0, 2), (1, 0), (2, 0), (3, 0), (4, 0)]) (t_istore (s_iconst dX5_leftByLaw_0 rfl) dX5_leftByLaw_1 rfl rfl) (t_sq (p1 := 6) (Γ' := [(0, 2), (1, 0), (2, 0), (3, 0), (4, 0), (5, 0)]) (t_istore (s_iconst dX5_leftByLaw_3 rfl) dX5_leftByLaw_4 rfl rfl) (t_sq (p1 := 117) (Γ' := [(0, 2), (1, 0), (2, 0), (3, 0), (4, 0), (5, 0)]) (t_sq (p1 := 9) (Γ' := [(0, 2), (1, 0), (2, 0), (3, 0), (4, 0), (5, 0), (6, 0)]) (t_istore (s_iconst dX5_leftByLaw_6 rfl) dX5_leftByLaw_7 rfl rfl) (tn_to (Γ' := [(0, 2), (1, 0), (2, 0), (3, 0), (4, 0), (5, 0), (6, 0)]) (XA := [117]) sLX5_leftByLaw_1 (lda_cons (ld_in rfl) lda_nil) rfl)) (t_ret (cv := cvI) (fun _ _ => rfl) (s_iand (s_iload_n dX5_leftByLaw_117 rfl rfl) (s_ixor (s_iload dX5_leftByLaw_118 rfl) (s_iconst dX5_leftByLaw_120 rfl) dX5_leftByLaw_121) dX5_leftByLaw_122) dX5_leftByLaw_123))))
noncomputable def DX5_leftByLaw : Fr → St → Option (Int32 × St) := M1 (fun f => (sI (sI (sI (sR fr0 0 (gR f 0)) 1 (gI f 1)) 2 (gI f 2)) 3 (gI f 3))) BX5_leftByLaw
theorem kX5_leftByLaw : SND yX5_leftByLaw cX5_leftByLaw 10 (some .int) 2 [(0, 2), (1, 0), (2, 0), (3, 0)] cvoI DX5_leftByLaw := snd_I (nw := 4) (by decide) rfl rfl (fun _ _ => rfl) sBX5_leftByLaw
