theorem dX0_init_0 : decode cX0_init 0 = .ok (.aload_n 0, 1) := by decide +kernel
theorem dX0_init_1 : decode cX0_init 1 = .ok (.invokespecial 5, 3) := by decide +kernel
theorem dX0_init_4 : decode cX0_init 4 = .ok (.aload_n 0, 1) := by decide +kernel
theorem dX0_init_5 : decode cX0_init 5 = .ok (.bipush 8, 2) := by decide +kernel
theorem dX0_init_7 : decode cX0_init 7 = .ok (.newarray .int, 2) := by decide +kernel
theorem dX0_init_9 : decode cX0_init 9 = .ok (.putfield 11, 3) := by decide +kernel
theorem dX0_init_12 : decode cX0_init 12 = .ok (.aload_n 0, 1) := by decide +kernel
theorem dX0_init_13 : decode cX0_init 13 = .ok (.bipush 8, 2) := by decide +kernel
theorem dX0_init_15 : decode cX0_init 15 = .ok (.newarray .int, 2) := by decide +kernel
theorem dX0_init_17 : decode cX0_init 17 = .ok (.putfield 15, 3) := by decide +kernel
theorem dX0_init_20 : decode cX0_init 20 = .ok (.aload_n 0, 1) := by decide +kernel
theorem dX0_init_21 : decode cX0_init 21 = .ok (.bipush 8, 2) := by decide +kernel
theorem dX0_init_23 : decode cX0_init 23 = .ok (.newarray .int, 2) := by decide +kernel
theorem dX0_init_25 : decode cX0_init 25 = .ok (.putfield 18, 3) := by decide +kernel
theorem dX0_init_28 : decode cX0_init 28 = .ok (.aload_n 0, 1) := by decide +kernel
theorem dX0_init_29 : decode cX0_init 29 = .ok (.bipush 8, 2) := by decide +kernel
theorem dX0_init_31 : decode cX0_init 31 = .ok (.newarray .int, 2) := by decide +kernel
theorem dX0_init_33 : decode cX0_init 33 = .ok (.putfield 21, 3) := by decide +kernel
theorem dX0_init_36 : decode cX0_init 36 = .ok (.aload_n 0, 1) := by decide +kernel
theorem dX0_init_37 : decode cX0_init 37 = .ok (.bipush 9, 2) := by decide +kernel
theorem dX0_init_39 : decode cX0_init 39 = .ok (.newarray .int, 2) := by decide +kernel
theorem dX0_init_41 : decode cX0_init 41 = .ok (.putfield 24, 3) := by decide +kernel
theorem dX0_init_44 : decode cX0_init 44 = .ok (.aload_n 0, 1) := by decide +kernel
theorem dX0_init_45 : decode cX0_init 45 = .ok (.bipush 9, 2) := by decide +kernel
theorem dX0_init_47 : decode cX0_init 47 = .ok (.newarray .int, 2) := by decide +kernel
theorem dX0_init_49 : decode cX0_init 49 = .ok (.putfield 27, 3) := by decide +kernel
theorem dX0_init_52 : decode cX0_init 52 = .ok (.aload_n 0, 1) := by decide +kernel
theorem dX0_init_53 : decode cX0_init 53 = .ok (.bipush 8, 2) := by decide +kernel
theorem dX0_init_55 : decode cX0_init 55 = .ok (.newarray .int, 2) := by decide +kernel
theorem dX0_init_57 : decode cX0_init 57 = .ok (.putfield 30, 3) := by decide +kernel
theorem dX0_init_60 : decode cX0_init 60 = .ok (.aload_n 0, 1) := by decide +kernel
theorem dX0_init_61 : decode cX0_init 61 = .ok (.sipush 256, 3) := by decide +kernel
theorem dX0_init_64 : decode cX0_init 64 = .ok (.newarray .int, 2) := by decide +kernel
theorem dX0_init_66 : decode cX0_init 66 = .ok (.putfield 33, 3) := by decide +kernel
theorem dX0_init_69 : decode cX0_init 69 = .ok (.aload_n 0, 1) := by decide +kernel
theorem dX0_init_70 : decode cX0_init 70 = .ok (.sipush 2048, 3) := by decide +kernel
theorem dX0_init_73 : decode cX0_init 73 = .ok (.newarray .int, 2) := by decide +kernel
theorem dX0_init_75 : decode cX0_init 75 = .ok (.putfield 36, 3) := by decide +kernel
theorem dX0_init_78 : decode cX0_init 78 = .ok (.aload_n 0, 1) := by decide +kernel
theorem dX0_init_79 : decode cX0_init 79 = .ok (.sipush 201, 3) := by decide +kernel
theorem dX0_init_82 : decode cX0_init 82 = .ok (.newarray .int, 2) := by decide +kernel
theorem dX0_init_84 : decode cX0_init 84 = .ok (.putfield 39, 3) := by decide +kernel
theorem dX0_init_87 : decode cX0_init 87 = .ok (.aload_n 0, 1) := by decide +kernel
theorem dX0_init_88 : decode cX0_init 88 = .ok (.sipush 3073, 3) := by decide +kernel
theorem dX0_init_91 : decode cX0_init 91 = .ok (.newarray .int, 2) := by decide +kernel
theorem dX0_init_93 : decode cX0_init 93 = .ok (.putfield 42, 3) := by decide +kernel
theorem dX0_init_96 : decode cX0_init 96 = .ok (.aload_n 0, 1) := by decide +kernel
theorem dX0_init_97 : decode cX0_init 97 = .ok (.sipush 3073, 3) := by decide +kernel
theorem dX0_init_100 : decode cX0_init 100 = .ok (.newarray .int, 2) := by decide +kernel
theorem dX0_init_102 : decode cX0_init 102 = .ok (.putfield 45, 3) := by decide +kernel
theorem dX0_init_105 : decode cX0_init 105 = .ok (.aload_n 0, 1) := by decide +kernel
theorem dX0_init_106 : decode cX0_init 106 = .ok (.iconst (-1), 1) := by decide +kernel
theorem dX0_init_107 : decode cX0_init 107 = .ok (.putfield 48, 3) := by decide +kernel
theorem dX0_init_110 : decode cX0_init 110 = .ok (.aload_n 0, 1) := by decide +kernel
theorem dX0_init_111 : decode cX0_init 111 = .ok (.iconst (-1), 1) := by decide +kernel
theorem dX0_init_112 : decode cX0_init 112 = .ok (.putfield 52, 3) := by decide +kernel
theorem dX0_init_115 : decode cX0_init 115 = .ok (.aload_n 0, 1) := by decide +kernel
theorem dX0_init_116 : decode cX0_init 116 = .ok (.iconst (-1), 1) := by decide +kernel
theorem dX0_init_117 : decode cX0_init 117 = .ok (.putfield 55, 3) := by decide +kernel
theorem dX0_init_120 : decode cX0_init 120 = .ok (.return_, 1) := by decide +kernel
theorem mokX0_init : MOK yX0_init cX0_init 1 none 0 := ⟨w2_107, w1_10, ⟨by decide, by decide⟩, by decide +kernel, by decide⟩
abbrev miX0_init : MI := (yX0_init.cls, cX0_init, 1, 1, true)
noncomputable def BX0_init : Sm Unit := (dSeq dSup (dSeq (dP (fR 0 0) (vR 0) (dNewA 0 (cI 8))) (dSeq (dP (fR 0 1) (vR 0) (dNewA 0 (cI 8))) (dSeq (dP (fR 0 2) (vR 0) (dNewA 0 (cI 8))) (dSeq (dP (fR 0 3) (vR 0) (dNewA 0 (cI 8))) (dSeq (dP (fR 0 4) (vR 0) (dNewA 0 (cI 9))) (dSeq (dP (fR 0 5) (vR 0) (dNewA 0 (cI 9))) (dSeq (dP (fR 0 6) (vR 0) (dNewA 0 (cI 8))) (dSeq (dP (fR 0 7) (vR 0) (dNewA 0 (cI 256))) (dSeq (dP (fR 0 8) (vR 0) (dNewA 0 (cI 2048))) (dSeq (dP (fR 0 10) (vR 0) (dNewA 0 (cI 201))) (dSeq (dP (fR 0 11) (vR 0) (dNewA 0 (cI 3073))) (dSeq (dP (fR 0 12) (vR 0) (dNewA 0 (cI 3073))) (dSeq (dP (fI 0 14) (vR 0) (cI (-1))) (dSeq (dP (fI 0 15) (vR 0) (cI (-1))) (dSeq (dP (fI 0 16) (vR 0) (cI (-1))) dRet0))))))))))))))))
theorem sBX0_init : SS (cvoV, .return_) miX0_init [] [] [] [(0, 2)] [(0, 2)] 0 [] BX0_init := (t_sq (p1 := 4) (Γ' := [(0, 2)]) (t_super dX0_init_0 rfl dX0_init_1 w2_108 w1_27 w1_28 rfl rfl) (t_sq (p1 := 12) (Γ' := [(0, 2)]) (t_pR ck0 0 (by decide) rfl ⟨rfl, rfl, fun _ => ⟨rfl, rfl⟩⟩ (Or.inr ⟨rfl, rfl, rfl⟩) (s_aload_n dX0_init_4 rfl rfl) (s_newI (s_bipush dX0_init_5 rfl) dX0_init_7 w1_123) dX0_init_9 w2_109 rfl) (t_sq (p1 := 20) (Γ' := [(0, 2)]) (t_pR ck0 1 (by decide) rfl ⟨rfl, rfl, fun _ => ⟨rfl, rfl⟩⟩ (Or.inr ⟨rfl, rfl, rfl⟩) (s_aload_n dX0_init_12 rfl rfl) (s_newI (s_bipush dX0_init_13 rfl) dX0_init_15 w1_123) dX0_init_17 w2_111 rfl) (t_sq (p1 := 28) (Γ' := [(0, 2)]) (t_pR ck0 2 (by decide) rfl ⟨rfl, rfl, fun _ => ⟨rfl, rfl⟩⟩ (Or.inr ⟨rfl, rfl, rfl⟩) (s_aload_n dX0_init_20 rfl rfl) (s_newI (s_bipush dX0_init_21 rfl) dX0_init_23 w1_123) dX0_init_25 w2_113 rfl) (t_sq (p1 := 36) (Γ' := [(0, 2)]) (t_pR ck0 3 (by decide) rfl ⟨rfl, rfl, fun _ => ⟨rfl, rfl⟩⟩ (Or.inr ⟨rfl, rfl, rfl⟩) (s_aload_n dX0_init_28 rfl rfl) (s_newI (s_bipush dX0_init_29 rfl) dX0_init_31 w1_123) dX0_init_33 w2_115 rfl) (t_sq (p1 := 44) (Γ' := [(0, 2)]) (t_pR ck0 4 (by decide) rfl ⟨rfl, rfl, fun _ => ⟨rfl, rfl⟩⟩ (Or.inr ⟨rfl, rfl, rfl⟩) (s_aload_n dX0_init_36 rfl rfl) (s_newI (s_bipush dX0_init_37 rfl) dX0_init_39 w1_123) dX0_init_41 w2_116 rfl) (t_sq (p1 := 52) (Γ' := [(0, 2)]) (t_pR ck0 5 (by decide) rfl ⟨rfl, rfl, fun _ => ⟨rfl, rfl⟩⟩ (Or.inr ⟨rfl, rfl, rfl⟩) (s_aload_n dX0_init_44 rfl rfl) (s_newI (s_bipush dX0_init_45 rfl) dX0_init_47 w1_123) dX0_init_49 w2_117 rfl) (t_sq (p1 := 60) (Γ' := [(0, 2)]) (t_pR ck0 6 (by decide) rfl ⟨rfl, rfl, fun _ => ⟨rfl, rfl⟩⟩ (Or.inr ⟨rfl, rfl, rfl⟩) (s_aload_n dX0_init_52 rfl rfl) (s_newI (s_bipush dX0_init_53 rfl) dX0_init_55 w1_123) dX0_init_57 w2_118 rfl) (t_sq (p1 := 69) (Γ' := [(0, 2)]) (t_pR ck0 7 (by decide) rfl ⟨rfl, rfl, fun _ => ⟨rfl, rfl⟩⟩ (Or.inr ⟨rfl, rfl, rfl⟩) (s_aload_n dX0_init_60 rfl rfl) (s_newI (s_sipush dX0_init_61 rfl) dX0_init_64 w1_123) dX0_init_66 w2_119 rfl) (t_sq (p1 := 78) (Γ' := [(0, 2)]) (t_pR ck0 8 (by decide) rfl ⟨rfl, rfl, fun _ => ⟨rfl, rfl⟩⟩ (Or.inr ⟨rfl, rfl, rfl⟩) (s_aload_n dX0_init_69 rfl rfl) (s_newI (s_sipush dX0_init_70 rfl) dX0_init_73 w1_123) dX0_init_75 w2_120 rfl) (t_sq (p1 := 87) (Γ' := [(0, 2)]) (t_pR ck0 10 (by decide) rfl ⟨rfl, rfl, fun _ => ⟨rfl, rfl⟩⟩ (Or.inr ⟨rfl, rfl, rfl⟩) (s_aload_n dX0_init_78 rfl rfl) (s_newI (s_sipush dX0_init_79 rfl) dX0_init_82 w1_123) dX0_init_84 w2_122 rfl) (t_sq (p1 := 96) (Γ' := [(0, 2)]) (t_pR ck0 11 (by decide) rfl ⟨rfl, rfl, fun _ => ⟨rfl, rfl⟩⟩ (Or.inr ⟨rfl, rfl, rfl⟩) (s_aload_n dX0_init_87 rfl rfl) (s_newI (s_sipush dX0_init_88 rfl) dX0_init_91 w1_123) dX0_init_93 w2_123 rfl) (t_sq (p1 := 105) (Γ' := [(0, 2)]) (t_pR ck0 12 (by decide) rfl ⟨rfl, rfl, fun _ => ⟨rfl, rfl⟩⟩ (Or.inr ⟨rfl, rfl, rfl⟩) (s_aload_n dX0_init_96 rfl rfl) (s_newI (s_sipush dX0_init_97 rfl) dX0_init_100 w1_123) dX0_init_102 w2_124 rfl) (t_sq (p1 := 110) (Γ' := [(0, 2)]) (t_pI ck0 14 (by decide) rfl (Or.inl rfl) (s_aload_n dX0_init_105 rfl rfl) (s_iconst dX0_init_106 rfl) dX0_init_107 w2_126 rfl) (t_sq (p1 := 115) (Γ' := [(0, 2)]) (t_pI ck0 15 (by decide) rfl (Or.inl rfl) (s_aload_n dX0_init_110 rfl rfl) (s_iconst dX0_init_111 rfl) dX0_init_112 w2_127 rfl) (t_sq (p1 := 120) (Γ' := [(0, 2)]) (t_pI ck0 16 (by decide) rfl (Or.inl rfl) (s_aload_n dX0_init_115 rfl rfl) (s_iconst dX0_init_116 rfl) dX0_init_117 w2_128 rfl) (t_ret0 (fun _ _ => rfl) dX0_init_120)))))))))))))))))
noncomputable def DX0_init : Fr → St → Option (Unit × St) := M1 (fun f => (sR fr0 0 (gR f 0))) BX0_init
theorem kX0_init : SND yX0_init cX0_init 1 none 1 [(0, 2)] cvoV DX0_init := snd_V (nw := 1) (by decide) (fun _ => rfl) rfl rfl (fun _ _ => rfl) sBX0_init
theorem dX10_init_0 : decode cX10_init 0 = .ok (.aload_n 0, 1) := by decide +kernel
theorem dX10_init_1 : decode cX10_init 1 = .ok (.invokespecial 3, 3) := by decide +kernel
theorem dX10_init_4 : decode cX10_init 4 = .ok (.aload_n 0, 1) := by decide +kernel
theorem dX10_init_5 : decode cX10_init 5 = .ok (.bipush 24, 2) := by decide +kernel
theorem dX10_init_7 : decode cX10_init 7 = .ok (.newarray .long, 2) := by decide +kernel
theorem dX10_init_9 : decode cX10_init 9 = .ok (.putfield 9, 3) := by decide +kernel
theorem dX10_init_12 : decode cX10_init 12 = .ok (.aload_n 0, 1) := by decide +kernel
theorem dX10_init_13 : decode cX10_init 13 = .ok (.iconst 3, 1) := by decide +kernel
theorem dX10_init_14 : decode cX10_init 14 = .ok (.newarray .long, 2) := by decide +kernel
theorem dX10_init_16 : decode cX10_init 16 = .ok (.putfield 15, 3) := by decide +kernel
theorem dX10_init_19 : decode cX10_init 19 = .ok (.return_, 1) := by decide +kernel
theorem mokX10_init : MOK yX10_init cX10_init 1 none 0 := ⟨w2_168, w1_11, ⟨by decide, by decide⟩, by decide +kernel, by decide⟩
abbrev miX10_init : MI := (yX10_init.cls, cX10_init, 1, 1, true)
noncomputable def BX10_init : Sm Unit := (dSeq dSup (dSeq (dP (fR 10 2) (vR 0) (dNewA 3 (cI 24))) (dSeq (dP (fR 10 3) (vR 0) (dNewA 3 (cI 3))) dRet0)))
theorem sBX10_init : SS (cvoV, .return_) miX10_init [] [] [] [(0, 2)] [(0, 2)] 0 [] BX10_init := (t_sq (p1 := 4) (Γ' := [(0, 2)]) (t_super dX10_init_0 rfl dX10_init_1 w2_169 w1_27 w1_28 rfl rfl) (t_sq (p1 := 12) (Γ' := [(0, 2)]) (t_pR ck10 2 (by decide) rfl ⟨rfl, rfl, fun _ => ⟨rfl, rfl⟩⟩ (Or.inr ⟨rfl, rfl, rfl⟩) (s_aload_n dX10_init_4 rfl rfl) (s_newJ (s_bipush dX10_init_5 rfl) dX10_init_7 w1_238) dX10_init_9 w2_171 rfl) (t_sq (p1 := 19) (Γ' := [(0, 2)]) (t_pR ck10 3 (by decide) rfl ⟨rfl, rfl, fun _ => ⟨rfl, rfl⟩⟩ (Or.inr ⟨rfl, rfl, rfl⟩) (s_aload_n dX10_init_12 rfl rfl) (s_newJ (s_iconst dX10_init_13 rfl) dX10_init_14 w1_238) dX10_init_16 w2_172 rfl) (t_ret0 (fun _ _ => rfl) dX10_init_19))))
noncomputable def DX10_init : Fr → St → Option (Unit × St) := M1 (fun f => (sR fr0 0 (gR f 0))) BX10_init
theorem kX10_init : SND yX10_init cX10_init 1 none 1 [(0, 2)] cvoV DX10_init := snd_V (nw := 1) (by decide) (fun _ => rfl) rfl rfl (fun _ _ => rfl) sBX10_init
theorem dX2_init_0 : decode cX2_init 0 = .ok (.aload_n 0, 1) := by decide +kernel
theorem dX2_init_1 : decode cX2_init 1 = .ok (.invokespecial 3, 3) := by decide +kernel
theorem dX2_init_4 : decode cX2_init 4 = .ok (.aload_n 0, 1) := by decide +kernel
theorem dX2_init_5 : decode cX2_init 5 = .ok (.iconst 5, 1) := by decide +kernel
theorem dX2_init_6 : decode cX2_init 6 = .ok (.newarray .int, 2) := by decide +kernel
theorem dX2_init_8 : decode cX2_init 8 = .ok (.putfield 9, 3) := by decide +kernel
theorem dX2_init_11 : decode cX2_init 11 = .ok (.aload_n 0, 1) := by decide +kernel
theorem dX2_init_12 : decode cX2_init 12 = .ok (.iconst 3, 1) := by decide +kernel
theorem dX2_init_13 : decode cX2_init 13 = .ok (.newarray .int, 2) := by decide +kernel
theorem dX2_init_15 : decode cX2_init 15 = .ok (.putfield 15, 3) := by decide +kernel
theorem dX2_init_18 : decode cX2_init 18 = .ok (.aload_n 0, 1) := by decide +kernel
theorem dX2_init_19 : decode cX2_init 19 = .ok (.iconst 3, 1) := by decide +kernel
theorem dX2_init_20 : decode cX2_init 20 = .ok (.newarray .int, 2) := by decide +kernel
theorem dX2_init_22 : decode cX2_init 22 = .ok (.putfield 18, 3) := by decide +kernel
theorem dX2_init_25 : decode cX2_init 25 = .ok (.aload_n 0, 1) := by decide +kernel
theorem dX2_init_26 : decode cX2_init 26 = .ok (.bipush 24, 2) := by decide +kernel
theorem dX2_init_28 : decode cX2_init 28 = .ok (.newarray .int, 2) := by decide +kernel
theorem dX2_init_30 : decode cX2_init 30 = .ok (.putfield 21, 3) := by decide +kernel
theorem dX2_init_33 : decode cX2_init 33 = .ok (.aload_n 0, 1) := by decide +kernel
theorem dX2_init_34 : decode cX2_init 34 = .ok (.iconst 3, 1) := by decide +kernel
theorem dX2_init_35 : decode cX2_init 35 = .ok (.newarray .int, 2) := by decide +kernel
theorem dX2_init_37 : decode cX2_init 37 = .ok (.putfield 24, 3) := by decide +kernel
theorem dX2_init_40 : decode cX2_init 40 = .ok (.aload_n 0, 1) := by decide +kernel
theorem dX2_init_41 : decode cX2_init 41 = .ok (.bipush 32, 2) := by decide +kernel
theorem dX2_init_43 : decode cX2_init 43 = .ok (.newarray .int, 2) := by decide +kernel
theorem dX2_init_45 : decode cX2_init 45 = .ok (.putfield 27, 3) := by decide +kernel
theorem dX2_init_48 : decode cX2_init 48 = .ok (.aload_n 0, 1) := by decide +kernel
theorem dX2_init_49 : decode cX2_init 49 = .ok (.bipush 32, 2) := by decide +kernel
theorem dX2_init_51 : decode cX2_init 51 = .ok (.newarray .int, 2) := by decide +kernel
theorem dX2_init_53 : decode cX2_init 53 = .ok (.putfield 30, 3) := by decide +kernel
theorem dX2_init_56 : decode cX2_init 56 = .ok (.return_, 1) := by decide +kernel
theorem mokX2_init : MOK yX2_init cX2_init 1 none 0 := ⟨w2_9, w1_8, ⟨by decide, by decide⟩, by decide +kernel, by decide⟩
abbrev miX2_init : MI := (yX2_init.cls, cX2_init, 1, 1, true)
noncomputable def BX2_init : Sm Unit := (dSeq dSup (dSeq (dP (fR 2 8) (vR 0) (dNewA 0 (cI 5))) (dSeq (dP (fR 2 9) (vR 0) (dNewA 0 (cI 3))) (dSeq (dP (fR 2 10) (vR 0) (dNewA 0 (cI 3))) (dSeq (dP (fR 2 11) (vR 0) (dNewA 0 (cI 24))) (dSeq (dP (fR 2 12) (vR 0) (dNewA 0 (cI 3))) (dSeq (dP (fR 2 13) (vR 0) (dNewA 0 (cI 32))) (dSeq (dP (fR 2 14) (vR 0) (dNewA 0 (cI 32))) dRet0))))))))
theorem sBX2_init : SS (cvoV, .return_) miX2_init [] [] [] [(0, 2)] [(0, 2)] 0 [] BX2_init := (t_sq (p1 := 4) (Γ' := [(0, 2)]) (t_super dX2_init_0 rfl dX2_init_1 w2_10 w1_27 w1_28 rfl rfl) (t_sq (p1 := 11) (Γ' := [(0, 2)]) (t_pR ck2 8 (by decide) rfl ⟨rfl, rfl, fun _ => ⟨rfl, rfl⟩⟩ (Or.inr ⟨rfl, rfl, rfl⟩) (s_aload_n dX2_init_4 rfl rfl) (s_newI (s_iconst dX2_init_5 rfl) dX2_init_6 w1_123) dX2_init_8 w2_25 rfl) (t_sq (p1 := 18) (Γ' := [(0, 2)]) (t_pR ck2 9 (by decide) rfl ⟨rfl, rfl, fun _ => ⟨rfl, rfl⟩⟩ (Or.inr ⟨rfl, rfl, rfl⟩) (s_aload_n dX2_init_11 rfl rfl) (s_newI (s_iconst dX2_init_12 rfl) dX2_init_13 w1_123) dX2_init_15 w2_27 rfl) (t_sq (p1 := 25) (Γ' := [(0, 2)]) (t_pR ck2 10 (by decide) rfl ⟨rfl, rfl, fun _ => ⟨rfl, rfl⟩⟩ (Or.inr ⟨rfl, rfl, rfl⟩) (s_aload_n dX2_init_18 rfl rfl) (s_newI (s_iconst dX2_init_19 rfl) dX2_init_20 w1_123) dX2_init_22 w2_29 rfl) (t_sq (p1 := 33) (Γ' := [(0, 2)]) (t_pR ck2 11 (by decide) rfl ⟨rfl, rfl, fun _ => ⟨rfl, rfl⟩⟩ (Or.inr ⟨rfl, rfl, rfl⟩) (s_aload_n dX2_init_25 rfl rfl) (s_newI (s_bipush dX2_init_26 rfl) dX2_init_28 w1_123) dX2_init_30 w2_32 rfl) (t_sq (p1 := 40) (Γ' := [(0, 2)]) (t_pR ck2 12 (by decide) rfl ⟨rfl, rfl, fun _ => ⟨rfl, rfl⟩⟩ (Or.inr ⟨rfl, rfl, rfl⟩) (s_aload_n dX2_init_33 rfl rfl) (s_newI (s_iconst dX2_init_34 rfl) dX2_init_35 w1_123) dX2_init_37 w2_34 rfl) (t_sq (p1 := 48) (Γ' := [(0, 2)]) (t_pR ck2 13 (by decide) rfl ⟨rfl, rfl, fun _ => ⟨rfl, rfl⟩⟩ (Or.inr ⟨rfl, rfl, rfl⟩) (s_aload_n dX2_init_40 rfl rfl) (s_newI (s_bipush dX2_init_41 rfl) dX2_init_43 w1_123) dX2_init_45 w2_35 rfl) (t_sq (p1 := 56) (Γ' := [(0, 2)]) (t_pR ck2 14 (by decide) rfl ⟨rfl, rfl, fun _ => ⟨rfl, rfl⟩⟩ (Or.inr ⟨rfl, rfl, rfl⟩) (s_aload_n dX2_init_48 rfl rfl) (s_newI (s_bipush dX2_init_49 rfl) dX2_init_51 w1_123) dX2_init_53 w2_37 rfl) (t_ret0 (fun _ _ => rfl) dX2_init_56)))))))))
noncomputable def DX2_init : Fr → St → Option (Unit × St) := M1 (fun f => (sR fr0 0 (gR f 0))) BX2_init
theorem kX2_init : SND yX2_init cX2_init 1 none 1 [(0, 2)] cvoV DX2_init := snd_V (nw := 1) (by decide) (fun _ => rfl) rfl rfl (fun _ _ => rfl) sBX2_init
theorem dX3_init_0 : decode cX3_init 0 = .ok (.aload_n 0, 1) := by decide +kernel
theorem dX3_init_1 : decode cX3_init 1 = .ok (.invokespecial 3, 3) := by decide +kernel
theorem dX3_init_4 : decode cX3_init 4 = .ok (.aload_n 0, 1) := by decide +kernel
theorem dX3_init_5 : decode cX3_init 5 = .ok (.new 9, 3) := by decide +kernel
theorem dX3_init_8 : decode cX3_init 8 = .ok (.dup, 1) := by decide +kernel
theorem dX3_init_9 : decode cX3_init 9 = .ok (.invokespecial 11, 3) := by decide +kernel
theorem dX3_init_12 : decode cX3_init 12 = .ok (.putfield 12, 3) := by decide +kernel
theorem dX3_init_15 : decode cX3_init 15 = .ok (.aload_n 0, 1) := by decide +kernel
theorem dX3_init_16 : decode cX3_init 16 = .ok (.bipush 65, 2) := by decide +kernel
theorem dX3_init_18 : decode cX3_init 18 = .ok (.newarray .int, 2) := by decide +kernel
theorem dX3_init_20 : decode cX3_init 20 = .ok (.putfield 18, 3) := by decide +kernel
theorem dX3_init_23 : decode cX3_init 23 = .ok (.aload_n 0, 1) := by decide +kernel
theorem dX3_init_24 : decode cX3_init 24 = .ok (.bipush 39, 2) := by decide +kernel
theorem dX3_init_26 : decode cX3_init 26 = .ok (.newarray .int, 2) := by decide +kernel
theorem dX3_init_28 : decode cX3_init 28 = .ok (.putfield 22, 3) := by decide +kernel
theorem dX3_init_31 : decode cX3_init 31 = .ok (.aload_n 0, 1) := by decide +kernel
theorem dX3_init_32 : decode cX3_init 32 = .ok (.bipush 39, 2) := by decide +kernel
theorem dX3_init_34 : decode cX3_init 34 = .ok (.newarray .int, 2) := by decide +kernel
theorem dX3_init_36 : decode cX3_init 36 = .ok (.putfield 25, 3) := by decide +kernel
theorem dX3_init_39 : decode cX3_init 39 = .ok (.aload_n 0, 1) := by decide +kernel
theorem dX3_init_40 : decode cX3_init 40 = .ok (.sipush 312, 3) := by decide +kernel
theorem dX3_init_43 : decode cX3_init 43 = .ok (.newarray .int, 2) := by decide +kernel
theorem dX3_init_45 : decode cX3_init 45 = .ok (.putfield 28, 3) := by decide +kernel
theorem dX3_init_48 : decode cX3_init 48 = .ok (.aload_n 0, 1) := by decide +kernel
theorem dX3_init_49 : decode cX3_init 49 = .ok (.bipush 13, 2) := by decide +kernel
theorem dX3_init_51 : decode cX3_init 51 = .ok (.newarray .int, 2) := by decide +kernel
theorem dX3_init_53 : decode cX3_init 53 = .ok (.putfield 31, 3) := by decide +kernel
theorem dX3_init_56 : decode cX3_init 56 = .ok (.return_, 1) := by decide +kernel
theorem mokX3_init : MOK yX3_init cX3_init 1 none 0 := ⟨w2_3, w1_7, ⟨by decide, by decide⟩, by decide +kernel, by decide⟩
abbrev miX3_init : MI := (yX3_init.cls, cX3_init, 1, 2, true)
noncomputable def BX3_init : Sm Unit := (dSeq dSup (dSeq (dP (fR 3 1) (vR 0) (dNewC 2 DX2_init)) (dSeq (dP (fR 3 2) (vR 0) (dNewA 0 (cI 65))) (dSeq (dP (fR 3 3) (vR 0) (dNewA 0 (cI 39))) (dSeq (dP (fR 3 4) (vR 0) (dNewA 0 (cI 39))) (dSeq (dP (fR 3 5) (vR 0) (dNewA 0 (cI 312))) (dSeq (dP (fR 3 6) (vR 0) (dNewA 0 (cI 13))) dRet0)))))))
theorem sBX3_init : SS (cvoV, .return_) miX3_init [] [] [] [(0, 2)] [(0, 2)] 0 [] BX3_init := (t_sq (p1 := 4) (Γ' := [(0, 2)]) (t_super dX3_init_0 rfl dX3_init_1 w2_4 w1_27 w1_28 rfl rfl) (t_sq (p1 := 15) (Γ' := [(0, 2)]) (t_pR ck3 1 (by decide) rfl ⟨rfl, rfl, fun _ => ⟨rfl, rfl⟩⟩ (Or.inr ⟨rfl, rfl, rfl⟩) (s_aload_n dX3_init_4 rfl rfl) (s_newN ck2 kX2_init mokX2_init rfl w2_8 w2_5 w2_6 w1_8 df2 rfl rfl dX3_init_5 dX3_init_8 dX3_init_9 nb6 rfl) dX3_init_12 w2_70 rfl) (t_sq (p1 := 23) (Γ' := [(0, 2)]) (t_pR ck3 2 (by decide) rfl ⟨rfl, rfl, fun _ => ⟨rfl, rfl⟩⟩ (Or.inr ⟨rfl, rfl, rfl⟩) (s_aload_n dX3_init_15 rfl rfl) (s_newI (s_bipush dX3_init_16 rfl) dX3_init_18 w1_123) dX3_init_20 w2_73 rfl) (t_sq (p1 := 31) (Γ' := [(0, 2)]) (t_pR ck3 3 (by decide) rfl ⟨rfl, rfl, fun _ => ⟨rfl, rfl⟩⟩ (Or.inr ⟨rfl, rfl, rfl⟩) (s_aload_n dX3_init_23 rfl rfl) (s_newI (s_bipush dX3_init_24 rfl) dX3_init_26 w1_123) dX3_init_28 w2_74 rfl) (t_sq (p1 := 39) (Γ' := [(0, 2)]) (t_pR ck3 4 (by decide) rfl ⟨rfl, rfl, fun _ => ⟨rfl, rfl⟩⟩ (Or.inr ⟨rfl, rfl, rfl⟩) (s_aload_n dX3_init_31 rfl rfl) (s_newI (s_bipush dX3_init_32 rfl) dX3_init_34 w1_123) dX3_init_36 w2_75 rfl) (t_sq (p1 := 48) (Γ' := [(0, 2)]) (t_pR ck3 5 (by decide) rfl ⟨rfl, rfl, fun _ => ⟨rfl, rfl⟩⟩ (Or.inr ⟨rfl, rfl, rfl⟩) (s_aload_n dX3_init_39 rfl rfl) (s_newI (s_sipush dX3_init_40 rfl) dX3_init_43 w1_123) dX3_init_45 w2_76 rfl) (t_sq (p1 := 56) (Γ' := [(0, 2)]) (t_pR ck3 6 (by decide) rfl ⟨rfl, rfl, fun _ => ⟨rfl, rfl⟩⟩ (Or.inr ⟨rfl, rfl, rfl⟩) (s_aload_n dX3_init_48 rfl rfl) (s_newI (s_bipush dX3_init_49 rfl) dX3_init_51 w1_123) dX3_init_53 w2_77 rfl) (t_ret0 (fun _ _ => rfl) dX3_init_56))))))))
noncomputable def DX3_init : Fr → St → Option (Unit × St) := M1 (fun f => (sR fr0 0 (gR f 0))) BX3_init
theorem kX3_init : SND yX3_init cX3_init 1 none 2 [(0, 2)] cvoV DX3_init := snd_V (nw := 1) (by decide) (fun _ => rfl) rfl rfl (fun _ _ => rfl) sBX3_init
theorem dX4_init_0 : decode cX4_init 0 = .ok (.aload_n 0, 1) := by decide +kernel
theorem dX4_init_1 : decode cX4_init 1 = .ok (.invokespecial 3, 3) := by decide +kernel
theorem dX4_init_4 : decode cX4_init 4 = .ok (.aload_n 0, 1) := by decide +kernel
theorem dX4_init_5 : decode cX4_init 5 = .ok (.bipush 8, 2) := by decide +kernel
theorem dX4_init_7 : decode cX4_init 7 = .ok (.newarray .int, 2) := by decide +kernel
theorem dX4_init_9 : decode cX4_init 9 = .ok (.putfield 9, 3) := by decide +kernel
theorem dX4_init_12 : decode cX4_init 12 = .ok (.return_, 1) := by decide +kernel
theorem mokX4_init : MOK yX4_init cX4_init 1 none 0 := ⟨w2_97, w1_9, ⟨by decide, by decide⟩, by decide +kernel, by decide⟩
abbrev miX4_init : MI := (yX4_init.cls, cX4_init, 1, 1, true)
noncomputable def BX4_init : Sm Unit := (dSeq dSup (dSeq (dP (fR 4 0) (vR 0) (dNewA 0 (cI 8))) dRet0))
theorem sBX4_init : SS (cvoV, .return_) miX4_init [] [] [] [(0, 2)] [(0, 2)] 0 [] BX4_init := (t_sq (p1 := 4) (Γ' := [(0, 2)]) (t_super dX4_init_0 rfl dX4_init_1 w2_98 w1_27 w1_28 rfl rfl) (t_sq (p1 := 12) (Γ' := [(0, 2)]) (t_pR ck4 0 (by decide) rfl ⟨rfl, rfl, fun _ => ⟨rfl, rfl⟩⟩ (Or.inr ⟨rfl, rfl, rfl⟩) (s_aload_n dX4_init_4 rfl rfl) (s_newI (s_bipush dX4_init_5 rfl) dX4_init_7 w1_123) dX4_init_9 w2_99 rfl) (t_ret0 (fun _ _ => rfl) dX4_init_12)))
noncomputable def DX4_init : Fr → St → Option (Unit × St) := M1 (fun f => (sR fr0 0 (gR f 0))) BX4_init
theorem kX4_init : SND yX4_init cX4_init 1 none 1 [(0, 2)] cvoV DX4_init := snd_V (nw := 1) (by decide) (fun _ => rfl) rfl rfl (fun _ _ => rfl) sBX4_init
theorem dX1_init_0 : decode cX1_init 0 = .ok (.aload_n 0, 1) := by decide +kernel
theorem dX1_init_1 : decode cX1_init 1 = .ok (.invokespecial 3, 3) := by decide +kernel
theorem dX1_init_4 : decode cX1_init 4 = .ok (.aload_n 0, 1) := by decide +kernel
theorem dX1_init_5 : decode cX1_init 5 = .ok (.bipush 32, 2) := by decide +kernel
theorem dX1_init_7 : decode cX1_init 7 = .ok (.newarray .int, 2) := by decide +kernel
theorem dX1_init_9 : decode cX1_init 9 = .ok (.putfield 9, 3) := by decide +kernel
theorem dX1_init_12 : decode cX1_init 12 = .ok (.aload_n 0, 1) := by decide +kernel
theorem dX1_init_13 : decode cX1_init 13 = .ok (.bipush 32, 2) := by decide +kernel
theorem dX1_init_15 : decode cX1_init 15 = .ok (.newarray .int, 2) := by decide +kernel
theorem dX1_init_17 : decode cX1_init 17 = .ok (.putfield 15, 3) := by decide +kernel
theorem dX1_init_20 : decode cX1_init 20 = .ok (.aload_n 0, 1) := by decide +kernel
theorem dX1_init_21 : decode cX1_init 21 = .ok (.bipush 32, 2) := by decide +kernel
theorem dX1_init_23 : decode cX1_init 23 = .ok (.newarray .int, 2) := by decide +kernel
theorem dX1_init_25 : decode cX1_init 25 = .ok (.putfield 18, 3) := by decide +kernel
theorem dX1_init_28 : decode cX1_init 28 = .ok (.aload_n 0, 1) := by decide +kernel
theorem dX1_init_29 : decode cX1_init 29 = .ok (.bipush 32, 2) := by decide +kernel
theorem dX1_init_31 : decode cX1_init 31 = .ok (.newarray .int, 2) := by decide +kernel
theorem dX1_init_33 : decode cX1_init 33 = .ok (.putfield 21, 3) := by decide +kernel
theorem dX1_init_36 : decode cX1_init 36 = .ok (.aload_n 0, 1) := by decide +kernel
theorem dX1_init_37 : decode cX1_init 37 = .ok (.bipush 20, 2) := by decide +kernel
theorem dX1_init_39 : decode cX1_init 39 = .ok (.newarray .int, 2) := by decide +kernel
theorem dX1_init_41 : decode cX1_init 41 = .ok (.putfield 24, 3) := by decide +kernel
theorem dX1_init_44 : decode cX1_init 44 = .ok (.aload_n 0, 1) := by decide +kernel
theorem dX1_init_45 : decode cX1_init 45 = .ok (.bipush 20, 2) := by decide +kernel
theorem dX1_init_47 : decode cX1_init 47 = .ok (.newarray .int, 2) := by decide +kernel
theorem dX1_init_49 : decode cX1_init 49 = .ok (.putfield 27, 3) := by decide +kernel
theorem dX1_init_52 : decode cX1_init 52 = .ok (.return_, 1) := by decide +kernel
theorem mokX1_init : MOK yX1_init cX1_init 1 none 0 := ⟨w1_82, w1_5, ⟨by decide, by decide⟩, by decide +kernel, by decide⟩
abbrev miX1_init : MI := (yX1_init.cls, cX1_init, 1, 1, true)
noncomputable def BX1_init : Sm Unit := (dSeq dSup (dSeq (dP (fR 1 3) (vR 0) (dNewA 0 (cI 32))) (dSeq (dP (fR 1 4) (vR 0) (dNewA 0 (cI 32))) (dSeq (dP (fR 1 5) (vR 0) (dNewA 0 (cI 32))) (dSeq (dP (fR 1 6) (vR 0) (dNewA 0 (cI 32))) (dSeq (dP (fR 1 7) (vR 0) (dNewA 0 (cI 20))) (dSeq (dP (fR 1 8) (vR 0) (dNewA 0 (cI 20))) dRet0)))))))
theorem sBX1_init : SS (cvoV, .return_) miX1_init [] [] [] [(0, 2)] [(0, 2)] 0 [] BX1_init := (t_sq (p1 := 4) (Γ' := [(0, 2)]) (t_super dX1_init_0 rfl dX1_init_1 w1_83 w1_27 w1_28 rfl rfl) (t_sq (p1 := 12) (Γ' := [(0, 2)]) (t_pR ck1 3 (by decide) rfl ⟨rfl, rfl, fun _ => ⟨rfl, rfl⟩⟩ (Or.inr ⟨rfl, rfl, rfl⟩) (s_aload_n dX1_init_4 rfl rfl) (s_newI (s_bipush dX1_init_5 rfl) dX1_init_7 w1_123) dX1_init_9 w1_94 rfl) (t_sq (p1 := 20) (Γ' := [(0, 2)]) (t_pR ck1 4 (by decide) rfl ⟨rfl, rfl, fun _ => ⟨rfl, rfl⟩⟩ (Or.inr ⟨rfl, rfl, rfl⟩) (s_aload_n dX1_init_12 rfl rfl) (s_newI (s_bipush dX1_init_13 rfl) dX1_init_15 w1_123) dX1_init_17 w1_96 rfl) (t_sq (p1 := 28) (Γ' := [(0, 2)]) (t_pR ck1 5 (by decide) rfl ⟨rfl, rfl, fun _ => ⟨rfl, rfl⟩⟩ (Or.inr ⟨rfl, rfl, rfl⟩) (s_aload_n dX1_init_20 rfl rfl) (s_newI (s_bipush dX1_init_21 rfl) dX1_init_23 w1_123) dX1_init_25 w1_98 rfl) (t_sq (p1 := 36) (Γ' := [(0, 2)]) (t_pR ck1 6 (by decide) rfl ⟨rfl, rfl, fun _ => ⟨rfl, rfl⟩⟩ (Or.inr ⟨rfl, rfl, rfl⟩) (s_aload_n dX1_init_28 rfl rfl) (s_newI (s_bipush dX1_init_29 rfl) dX1_init_31 w1_123) dX1_init_33 w1_100 rfl) (t_sq (p1 := 44) (Γ' := [(0, 2)]) (t_pR ck1 7 (by decide) rfl ⟨rfl, rfl, fun _ => ⟨rfl, rfl⟩⟩ (Or.inr ⟨rfl, rfl, rfl⟩) (s_aload_n dX1_init_36 rfl rfl) (s_newI (s_bipush dX1_init_37 rfl) dX1_init_39 w1_123) dX1_init_41 w1_102 rfl) (t_sq (p1 := 52) (Γ' := [(0, 2)]) (t_pR ck1 8 (by decide) rfl ⟨rfl, rfl, fun _ => ⟨rfl, rfl⟩⟩ (Or.inr ⟨rfl, rfl, rfl⟩) (s_aload_n dX1_init_44 rfl rfl) (s_newI (s_bipush dX1_init_45 rfl) dX1_init_47 w1_123) dX1_init_49 w1_103 rfl) (t_ret0 (fun _ _ => rfl) dX1_init_52))))))))
noncomputable def DX1_init : Fr → St → Option (Unit × St) := M1 (fun f => (sR fr0 0 (gR f 0))) BX1_init
theorem kX1_init : SND yX1_init cX1_init 1 none 1 [(0, 2)] cvoV DX1_init := snd_V (nw := 1) (by decide) (fun _ => rfl) rfl rfl (fun _ _ => rfl) sBX1_init
theorem dX5_init_0 : decode cX5_init 0 = .ok (.aload_n 0, 1) := by decide +kernel
theorem dX5_init_1 : decode cX5_init 1 = .ok (.invokespecial 3, 3) := by decide +kernel
theorem dX5_init_4 : decode cX5_init 4 = .ok (.aload_n 0, 1) := by decide +kernel
theorem dX5_init_5 : decode cX5_init 5 = .ok (.bipush 8, 2) := by decide +kernel
theorem dX5_init_7 : decode cX5_init 7 = .ok (.newarray .int, 2) := by decide +kernel
theorem dX5_init_9 : decode cX5_init 9 = .ok (.putfield 9, 3) := by decide +kernel
theorem dX5_init_12 : decode cX5_init 12 = .ok (.aload_n 0, 1) := by decide +kernel
theorem dX5_init_13 : decode cX5_init 13 = .ok (.bipush 12, 2) := by decide +kernel
theorem dX5_init_15 : decode cX5_init 15 = .ok (.newarray .int, 2) := by decide +kernel
theorem dX5_init_17 : decode cX5_init 17 = .ok (.putfield 15, 3) := by decide +kernel
theorem dX5_init_20 : decode cX5_init 20 = .ok (.aload_n 0, 1) := by decide +kernel
theorem dX5_init_21 : decode cX5_init 21 = .ok (.bipush 12, 2) := by decide +kernel
theorem dX5_init_23 : decode cX5_init 23 = .ok (.newarray .int, 2) := by decide +kernel
theorem dX5_init_25 : decode cX5_init 25 = .ok (.putfield 18, 3) := by decide +kernel
theorem dX5_init_28 : decode cX5_init 28 = .ok (.aload_n 0, 1) := by decide +kernel
theorem dX5_init_29 : decode cX5_init 29 = .ok (.iconst 5, 1) := by decide +kernel
theorem dX5_init_30 : decode cX5_init 30 = .ok (.newarray .int, 2) := by decide +kernel
theorem dX5_init_32 : decode cX5_init 32 = .ok (.putfield 21, 3) := by decide +kernel
theorem dX5_init_35 : decode cX5_init 35 = .ok (.aload_n 0, 1) := by decide +kernel
theorem dX5_init_36 : decode cX5_init 36 = .ok (.iconst 5, 1) := by decide +kernel
theorem dX5_init_37 : decode cX5_init 37 = .ok (.newarray .int, 2) := by decide +kernel
theorem dX5_init_39 : decode cX5_init 39 = .ok (.putfield 24, 3) := by decide +kernel
theorem dX5_init_42 : decode cX5_init 42 = .ok (.aload_n 0, 1) := by decide +kernel
theorem dX5_init_43 : decode cX5_init 43 = .ok (.iconst 3, 1) := by decide +kernel
theorem dX5_init_44 : decode cX5_init 44 = .ok (.newarray .int, 2) := by decide +kernel
theorem dX5_init_46 : decode cX5_init 46 = .ok (.putfield 27, 3) := by decide +kernel
theorem dX5_init_49 : decode cX5_init 49 = .ok (.aload_n 0, 1) := by decide +kernel
theorem dX5_init_50 : decode cX5_init 50 = .ok (.iconst 3, 1) := by decide +kernel
theorem dX5_init_51 : decode cX5_init 51 = .ok (.newarray .int, 2) := by decide +kernel
theorem dX5_init_53 : decode cX5_init 53 = .ok (.putfield 30, 3) := by decide +kernel
theorem dX5_init_56 : decode cX5_init 56 = .ok (.aload_n 0, 1) := by decide +kernel
theorem dX5_init_57 : decode cX5_init 57 = .ok (.bipush 18, 2) := by decide +kernel
theorem dX5_init_59 : decode cX5_init 59 = .ok (.newarray .int, 2) := by decide +kernel
theorem dX5_init_61 : decode cX5_init 61 = .ok (.putfield 33, 3) := by decide +kernel
theorem dX5_init_64 : decode cX5_init 64 = .ok (.aload_n 0, 1) := by decide +kernel
theorem dX5_init_65 : decode cX5_init 65 = .ok (.new 36, 3) := by decide +kernel
theorem dX5_init_68 : decode cX5_init 68 = .ok (.dup, 1) := by decide +kernel
theorem dX5_init_69 : decode cX5_init 69 = .ok (.invokespecial 38, 3) := by decide +kernel
theorem dX5_init_72 : decode cX5_init 72 = .ok (.putfield 39, 3) := by decide +kernel
theorem dX5_init_75 : decode cX5_init 75 = .ok (.return_, 1) := by decide +kernel
theorem mokX5_init : MOK yX5_init cX5_init 1 none 0 := ⟨w1_76, w1_4, ⟨by decide, by decide⟩, by decide +kernel, by decide⟩
abbrev miX5_init : MI := (yX5_init.cls, cX5_init, 1, 2, true)
noncomputable def BX5_init : Sm Unit := (dSeq dSup (dSeq (dP (fR 5 8) (vR 0) (dNewA 0 (cI 8))) (dSeq (dP (fR 5 9) (vR 0) (dNewA 0 (cI 12))) (dSeq (dP (fR 5 10) (vR 0) (dNewA 0 (cI 12))) (dSeq (dP (fR 5 11) (vR 0) (dNewA 0 (cI 5))) (dSeq (dP (fR 5 12) (vR 0) (dNewA 0 (cI 5))) (dSeq (dP (fR 5 13) (vR 0) (dNewA 0 (cI 3))) (dSeq (dP (fR 5 14) (vR 0) (dNewA 0 (cI 3))) (dSeq (dP (fR 5 15) (vR 0) (dNewA 0 (cI 18))) (dSeq (dP (fR 5 16) (vR 0) (dNewC 1 DX1_init)) dRet0))))))))))
theorem sBX5_init : SS (cvoV, .return_) miX5_init [] [] [] [(0, 2)] [(0, 2)] 0 [] BX5_init := (t_sq (p1 := 4) (Γ' := [(0, 2)]) (t_super dX5_init_0 rfl dX5_init_1 w1_77 w1_27 w1_28 rfl rfl) (t_sq (p1 := 12) (Γ' := [(0, 2)]) (t_pR ck5 8 (by decide) rfl ⟨rfl, rfl, fun _ => ⟨rfl, rfl⟩⟩ (Or.inr ⟨rfl, rfl, rfl⟩) (s_aload_n dX5_init_4 rfl rfl) (s_newI (s_bipush dX5_init_5 rfl) dX5_init_7 w1_123) dX5_init_9 w1_161 rfl) (t_sq (p1 := 20) (Γ' := [(0, 2)]) (t_pR ck5 9 (by decide) rfl ⟨rfl, rfl, fun _ => ⟨rfl, rfl⟩⟩ (Or.inr ⟨rfl, rfl, rfl⟩) (s_aload_n dX5_init_12 rfl rfl) (s_newI (s_bipush dX5_init_13 rfl) dX5_init_15 w1_123) dX5_init_17 w1_163 rfl) (t_sq (p1 := 28) (Γ' := [(0, 2)]) (t_pR ck5 10 (by decide) rfl ⟨rfl, rfl, fun _ => ⟨rfl, rfl⟩⟩ (Or.inr ⟨rfl, rfl, rfl⟩) (s_aload_n dX5_init_20 rfl rfl) (s_newI (s_bipush dX5_init_21 rfl) dX5_init_23 w1_123) dX5_init_25 w1_165 rfl) (t_sq (p1 := 35) (Γ' := [(0, 2)]) (t_pR ck5 11 (by decide) rfl ⟨rfl, rfl, fun _ => ⟨rfl, rfl⟩⟩ (Or.inr ⟨rfl, rfl, rfl⟩) (s_aload_n dX5_init_28 rfl rfl) (s_newI (s_iconst dX5_init_29 rfl) dX5_init_30 w1_123) dX5_init_32 w1_167 rfl) (t_sq (p1 := 42) (Γ' := [(0, 2)]) (t_pR ck5 12 (by decide) rfl ⟨rfl, rfl, fun _ => ⟨rfl, rfl⟩⟩ (Or.inr ⟨rfl, rfl, rfl⟩) (s_aload_n dX5_init_35 rfl rfl) (s_newI (s_iconst dX5_init_36 rfl) dX5_init_37 w1_123) dX5_init_39 w1_170 rfl) (t_sq (p1 := 49) (Γ' := [(0, 2)]) (t_pR ck5 13 (by decide) rfl ⟨rfl, rfl, fun _ => ⟨rfl, rfl⟩⟩ (Or.inr ⟨rfl, rfl, rfl⟩) (s_aload_n dX5_init_42 rfl rfl) (s_newI (s_iconst dX5_init_43 rfl) dX5_init_44 w1_123) dX5_init_46 w1_174 rfl) (t_sq (p1 := 56) (Γ' := [(0, 2)]) (t_pR ck5 14 (by decide) rfl ⟨rfl, rfl, fun _ => ⟨rfl, rfl⟩⟩ (Or.inr ⟨rfl, rfl, rfl⟩) (s_aload_n dX5_init_49 rfl rfl) (s_newI (s_iconst dX5_init_50 rfl) dX5_init_51 w1_123) dX5_init_53 w1_178 rfl) (t_sq (p1 := 64) (Γ' := [(0, 2)]) (t_pR ck5 15 (by decide) rfl ⟨rfl, rfl, fun _ => ⟨rfl, rfl⟩⟩ (Or.inr ⟨rfl, rfl, rfl⟩) (s_aload_n dX5_init_56 rfl rfl) (s_newI (s_bipush dX5_init_57 rfl) dX5_init_59 w1_123) dX5_init_61 w1_180 rfl) (t_sq (p1 := 75) (Γ' := [(0, 2)]) (t_pR ck5 16 (by decide) rfl ⟨rfl, rfl, fun _ => ⟨rfl, rfl⟩⟩ (Or.inr ⟨rfl, rfl, rfl⟩) (s_aload_n dX5_init_64 rfl rfl) (s_newN ck1 kX1_init mokX1_init rfl w1_81 w1_78 w1_79 w1_5 df1 rfl rfl dX5_init_65 dX5_init_68 dX5_init_69 nb3 rfl) dX5_init_72 w1_182 rfl) (t_ret0 (fun _ _ => rfl) dX5_init_75)))))))))))
noncomputable def DX5_init : Fr → St → Option (Unit × St) := M1 (fun f => (sR fr0 0 (gR f 0))) BX5_init
theorem kX5_init : SND yX5_init cX5_init 1 none 2 [(0, 2)] cvoV DX5_init := snd_V (nw := 1) (by decide) (fun _ => rfl) rfl rfl (fun _ _ => rfl) sBX5_init
theorem dX6_init_0 : decode cX6_init 0 = .ok (.aload_n 0, 1) := by decide +kernel
theorem dX6_init_1 : decode cX6_init 1 = .ok (.invokespecial 3, 3) := by decide +kernel
theorem dX6_init_4 : decode cX6_init 4 = .ok (.aload_n 0, 1) := by decide +kernel
theorem dX6_init_5 : decode cX6_init 5 = .ok (.iconst (-1), 1) := by decide +kernel
theorem dX6_init_6 : decode cX6_init 6 = .ok (.putfield 9, 3) := by decide +kernel
theorem dX6_init_9 : decode cX6_init 9 = .ok (.return_, 1) := by decide +kernel
theorem mokX6_init : MOK yX6_init cX6_init 1 none 0 := ⟨w1_63, w1_3, ⟨by decide, by decide⟩, by decide +kernel, by decide⟩
abbrev miX6_init : MI := (yX6_init.cls, cX6_init, 1, 1, true)
noncomputable def BX6_init : Sm Unit := (dSeq dSup (dSeq (dP (fI 6 1) (vR 0) (cI (-1))) dRet0))
theorem sBX6_init : SS (cvoV, .return_) miX6_init [] [] [] [(0, 2)] [(0, 2)] 0 [] BX6_init := (t_sq (p1 := 4) (Γ' := [(0, 2)]) (t_super dX6_init_0 rfl dX6_init_1 w1_64 w1_27 w1_28 rfl rfl) (t_sq (p1 := 9) (Γ' := [(0, 2)]) (t_pI ck6 1 (by decide) rfl (Or.inl rfl) (s_aload_n dX6_init_4 rfl rfl) (s_iconst dX6_init_5 rfl) dX6_init_6 w1_66 rfl) (t_ret0 (fun _ _ => rfl) dX6_init_9)))
noncomputable def DX6_init : Fr → St → Option (Unit × St) := M1 (fun f => (sR fr0 0 (gR f 0))) BX6_init
theorem kX6_init : SND yX6_init cX6_init 1 none 1 [(0, 2)] cvoV DX6_init := snd_V (nw := 1) (by decide) (fun _ => rfl) rfl rfl (fun _ _ => rfl) sBX6_init
theorem dX7_init_0 : decode cX7_init 0 = .ok (.aload_n 0, 1) := by decide +kernel
theorem dX7_init_1 : decode cX7_init 1 = .ok (.invokespecial 3, 3) := by decide +kernel
theorem dX7_init_4 : decode cX7_init 4 = .ok (.aload_n 0, 1) := by decide +kernel
theorem dX7_init_5 : decode cX7_init 5 = .ok (.bipush 104, 2) := by decide +kernel
theorem dX7_init_7 : decode cX7_init 7 = .ok (.newarray .int, 2) := by decide +kernel
theorem dX7_init_9 : decode cX7_init 9 = .ok (.putfield 11, 3) := by decide +kernel
theorem dX7_init_12 : decode cX7_init 12 = .ok (.return_, 1) := by decide +kernel
theorem mokX7_init : MOK yX7_init cX7_init 1 none 0 := ⟨w2_186, w1_12, ⟨by decide, by decide⟩, by decide +kernel, by decide⟩
abbrev miX7_init : MI := (yX7_init.cls, cX7_init, 1, 1, true)
noncomputable def BX7_init : Sm Unit := (dSeq dSup (dSeq (dP (fR 7 1) (vR 0) (dNewA 0 (cI 104))) dRet0))
theorem sBX7_init : SS (cvoV, .return_) miX7_init [] [] [] [(0, 2)] [(0, 2)] 0 [] BX7_init := (t_sq (p1 := 4) (Γ' := [(0, 2)]) (t_super dX7_init_0 rfl dX7_init_1 w2_187 w1_27 w1_28 rfl rfl) (t_sq (p1 := 12) (Γ' := [(0, 2)]) (t_pR ck7 1 (by decide) rfl ⟨rfl, rfl, fun _ => ⟨rfl, rfl⟩⟩ (Or.inr ⟨rfl, rfl, rfl⟩) (s_aload_n dX7_init_4 rfl rfl) (s_newI (s_bipush dX7_init_5 rfl) dX7_init_7 w1_123) dX7_init_9 w2_190 rfl) (t_ret0 (fun _ _ => rfl) dX7_init_12)))
noncomputable def DX7_init : Fr → St → Option (Unit × St) := M1 (fun f => (sR fr0 0 (gR f 0))) BX7_init
theorem kX7_init : SND yX7_init cX7_init 1 none 1 [(0, 2)] cvoV DX7_init := snd_V (nw := 1) (by decide) (fun _ => rfl) rfl rfl (fun _ _ => rfl) sBX7_init
theorem dX8_init_0 : decode cX8_init 0 = .ok (.aload_n 0, 1) := by decide +kernel
theorem dX8_init_1 : decode cX8_init 1 = .ok (.invokespecial 3, 3) := by decide +kernel
theorem dX8_init_4 : decode cX8_init 4 = .ok (.aload_n 0, 1) := by decide +kernel
theorem dX8_init_5 : decode cX8_init 5 = .ok (.iconst 4, 1) := by decide +kernel
theorem dX8_init_6 : decode cX8_init 6 = .ok (.newarray .int, 2) := by decide +kernel
theorem dX8_init_8 : decode cX8_init 8 = .ok (.putfield 11, 3) := by decide +kernel
theorem dX8_init_11 : decode cX8_init 11 = .ok (.aload_n 0, 1) := by decide +kernel
theorem dX8_init_12 : decode cX8_init 12 = .ok (.iconst 4, 1) := by decide +kernel
theorem dX8_init_13 : decode cX8_init 13 = .ok (.newarray .int, 2) := by decide +kernel
theorem dX8_init_15 : decode cX8_init 15 = .ok (.putfield 15, 3) := by decide +kernel
theorem dX8_init_18 : decode cX8_init 18 = .ok (.aload_n 0, 1) := by decide +kernel
theorem dX8_init_19 : decode cX8_init 19 = .ok (.sipush 240, 3) := by decide +kernel
theorem dX8_init_22 : decode cX8_init 22 = .ok (.newarray .long, 2) := by decide +kernel
theorem dX8_init_24 : decode cX8_init 24 = .ok (.putfield 18, 3) := by decide +kernel
theorem dX8_init_27 : decode cX8_init 27 = .ok (.return_, 1) := by decide +kernel
theorem mokX8_init : MOK yX8_init cX8_init 1 none 0 := ⟨w1_226, w1_6, ⟨by decide, by decide⟩, by decide +kernel, by decide⟩
abbrev miX8_init : MI := (yX8_init.cls, cX8_init, 1, 1, true)
noncomputable def BX8_init : Sm Unit := (dSeq dSup (dSeq (dP (fR 8 0) (vR 0) (dNewA 0 (cI 4))) (dSeq (dP (fR 8 1) (vR 0) (dNewA 0 (cI 4))) (dSeq (dP (fR 8 2) (vR 0) (dNewA 3 (cI 240))) dRet0))))
theorem sBX8_init : SS (cvoV, .return_) miX8_init [] [] [] [(0, 2)] [(0, 2)] 0 [] BX8_init := (t_sq (p1 := 4) (Γ' := [(0, 2)]) (t_super dX8_init_0 rfl dX8_init_1 w1_227 w1_27 w1_28 rfl rfl) (t_sq (p1 := 11) (Γ' := [(0, 2)]) (t_pR ck8 0 (by decide) rfl ⟨rfl, rfl, fun _ => ⟨rfl, rfl⟩⟩ (Or.inr ⟨rfl, rfl, rfl⟩) (s_aload_n dX8_init_4 rfl rfl) (s_newI (s_iconst dX8_init_5 rfl) dX8_init_6 w1_123) dX8_init_8 w1_228 rfl) (t_sq (p1 := 18) (Γ' := [(0, 2)]) (t_pR ck8 1 (by decide) rfl ⟨rfl, rfl, fun _ => ⟨rfl, rfl⟩⟩ (Or.inr ⟨rfl, rfl, rfl⟩) (s_aload_n dX8_init_11 rfl rfl) (s_newI (s_iconst dX8_init_12 rfl) dX8_init_13 w1_123) dX8_init_15 w1_229 rfl) (t_sq (p1 := 27) (Γ' := [(0, 2)]) (t_pR ck8 2 (by decide) rfl ⟨rfl, rfl, fun _ => ⟨rfl, rfl⟩⟩ (Or.inr ⟨rfl, rfl, rfl⟩) (s_aload_n dX8_init_18 rfl rfl) (s_newJ (s_sipush dX8_init_19 rfl) dX8_init_22 w1_238) dX8_init_24 w1_230 rfl) (t_ret0 (fun _ _ => rfl) dX8_init_27)))))
noncomputable def DX8_init : Fr → St → Option (Unit × St) := M1 (fun f => (sR fr0 0 (gR f 0))) BX8_init
theorem kX8_init : SND yX8_init cX8_init 1 none 1 [(0, 2)] cvoV DX8_init := snd_V (nw := 1) (by decide) (fun _ => rfl) rfl rfl (fun _ _ => rfl) sBX8_init
theorem dX9_init_0 : decode cX9_init 0 = .ok (.aload_n 0, 1) := by decide +kernel
theorem dX9_init_1 : decode cX9_init 1 = .ok (.invokespecial 3, 3) := by decide +kernel
theorem dX9_init_4 : decode cX9_init 4 = .ok (.aload_n 0, 1) := by decide +kernel
theorem dX9_init_5 : decode cX9_init 5 = .ok (.sipush 800, 3) := by decide +kernel
theorem dX9_init_8 : decode cX9_init 8 = .ok (.newarray .byte, 2) := by decide +kernel
theorem dX9_init_10 : decode cX9_init 10 = .ok (.putfield 9, 3) := by decide +kernel
theorem dX9_init_13 : decode cX9_init 13 = .ok (.return_, 1) := by decide +kernel
theorem mokX9_init : MOK yX9_init cX9_init 1 none 0 := ⟨w1_33, w1_2, ⟨by decide, by decide⟩, by decide +kernel, by decide⟩
abbrev miX9_init : MI := (yX9_init.cls, cX9_init, 1, 1, true)
noncomputable def BX9_init : Sm Unit := (dSeq dSup (dSeq (dP (fR 9 0) (vR 0) (dNewA 1 (cI 800))) dRet0))
theorem sBX9_init : SS (cvoV, .return_) miX9_init [] [] [] [(0, 2)] [(0, 2)] 0 [] BX9_init := (t_sq (p1 := 4) (Γ' := [(0, 2)]) (t_super dX9_init_0 rfl dX9_init_1 w1_34 w1_27 w1_28 rfl rfl) (t_sq (p1 := 13) (Γ' := [(0, 2)]) (t_pR ck9 0 (by decide) rfl ⟨rfl, rfl, fun _ => ⟨rfl, rfl⟩⟩ (Or.inr ⟨rfl, rfl, rfl⟩) (s_aload_n dX9_init_4 rfl rfl) (s_newB (s_sipush dX9_init_5 rfl) dX9_init_8 w1_58) dX9_init_10 w1_35 rfl) (t_ret0 (fun _ _ => rfl) dX9_init_13)))
noncomputable def DX9_init : Fr → St → Option (Unit × St) := M1 (fun f => (sR fr0 0 (gR f 0))) BX9_init
theorem kX9_init : SND yX9_init cX9_init 1 none 1 [(0, 2)] cvoV DX9_init := snd_V (nw := 1) (by decide) (fun _ => rfl) rfl rfl (fun _ _ => rfl) sBX9_init
theorem dX11_init_0 : decode cX11_init 0 = .ok (.aload_n 0, 1) := by decide +kernel
theorem dX11_init_1 : decode cX11_init 1 = .ok (.invokespecial 3, 3) := by decide +kernel
theorem dX11_init_4 : decode cX11_init 4 = .ok (.aload_n 0, 1) := by decide +kernel
theorem dX11_init_5 : decode cX11_init 5 = .ok (.new 9, 3) := by decide +kernel
theorem dX11_init_8 : decode cX11_init 8 = .ok (.dup, 1) := by decide +kernel
theorem dX11_init_9 : decode cX11_init 9 = .ok (.invokespecial 11, 3) := by decide +kernel
theorem dX11_init_12 : decode cX11_init 12 = .ok (.putfield 12, 3) := by decide +kernel
theorem dX11_init_15 : decode cX11_init 15 = .ok (.aload_n 0, 1) := by decide +kernel
theorem dX11_init_16 : decode cX11_init 16 = .ok (.new 16, 3) := by decide +kernel
theorem dX11_init_19 : decode cX11_init 19 = .ok (.dup, 1) := by decide +kernel
theorem dX11_init_20 : decode cX11_init 20 = .ok (.invokespecial 18, 3) := by decide +kernel
theorem dX11_init_23 : decode cX11_init 23 = .ok (.putfield 19, 3) := by decide +kernel
theorem dX11_init_26 : decode cX11_init 26 = .ok (.aload_n 0, 1) := by decide +kernel
theorem dX11_init_27 : decode cX11_init 27 = .ok (.new 23, 3) := by decide +kernel
theorem dX11_init_30 : decode cX11_init 30 = .ok (.dup, 1) := by decide +kernel
theorem dX11_init_31 : decode cX11_init 31 = .ok (.invokespecial 25, 3) := by decide +kernel
theorem dX11_init_34 : decode cX11_init 34 = .ok (.putfield 26, 3) := by decide +kernel
theorem dX11_init_37 : decode cX11_init 37 = .ok (.aload_n 0, 1) := by decide +kernel
theorem dX11_init_38 : decode cX11_init 38 = .ok (.new 23, 3) := by decide +kernel
theorem dX11_init_41 : decode cX11_init 41 = .ok (.dup, 1) := by decide +kernel
theorem dX11_init_42 : decode cX11_init 42 = .ok (.invokespecial 25, 3) := by decide +kernel
theorem dX11_init_45 : decode cX11_init 45 = .ok (.putfield 30, 3) := by decide +kernel
theorem dX11_init_48 : decode cX11_init 48 = .ok (.aload_n 0, 1) := by decide +kernel
theorem dX11_init_49 : decode cX11_init 49 = .ok (.iconst 3, 1) := by decide +kernel
theorem dX11_init_50 : decode cX11_init 50 = .ok (.anewarray 23, 3) := by decide +kernel
theorem dX11_init_53 : decode cX11_init 53 = .ok (.putfield 33, 3) := by decide +kernel
theorem dX11_init_56 : decode cX11_init 56 = .ok (.aload_n 0, 1) := by decide +kernel
theorem dX11_init_57 : decode cX11_init 57 = .ok (.new 37, 3) := by decide +kernel
theorem dX11_init_60 : decode cX11_init 60 = .ok (.dup, 1) := by decide +kernel
theorem dX11_init_61 : decode cX11_init 61 = .ok (.invokespecial 39, 3) := by decide +kernel
theorem dX11_init_64 : decode cX11_init 64 = .ok (.putfield 40, 3) := by decide +kernel
theorem dX11_init_67 : decode cX11_init 67 = .ok (.aload_n 0, 1) := by decide +kernel
theorem dX11_init_68 : decode cX11_init 68 = .ok (.new 44, 3) := by decide +kernel
theorem dX11_init_71 : decode cX11_init 71 = .ok (.dup, 1) := by decide +kernel
theorem dX11_init_72 : decode cX11_init 72 = .ok (.invokespecial 46, 3) := by decide +kernel
theorem dX11_init_75 : decode cX11_init 75 = .ok (.putfield 47, 3) := by decide +kernel
theorem dX11_init_78 : decode cX11_init 78 = .ok (.aload_n 0, 1) := by decide +kernel
theorem dX11_init_79 : decode cX11_init 79 = .ok (.new 44, 3) := by decide +kernel
theorem dX11_init_82 : decode cX11_init 82 = .ok (.dup, 1) := by decide +kernel
theorem dX11_init_83 : decode cX11_init 83 = .ok (.invokespecial 46, 3) := by decide +kernel
theorem dX11_init_86 : decode cX11_init 86 = .ok (.putfield 51, 3) := by decide +kernel
theorem dX11_init_89 : decode cX11_init 89 = .ok (.aload_n 0, 1) := by decide +kernel
theorem dX11_init_90 : decode cX11_init 90 = .ok (.new 54, 3) := by decide +kernel
theorem dX11_init_93 : decode cX11_init 93 = .ok (.dup, 1) := by decide +kernel
theorem dX11_init_94 : decode cX11_init 94 = .ok (.invokespecial 56, 3) := by decide +kernel
theorem dX11_init_97 : decode cX11_init 97 = .ok (.putfield 57, 3) := by decide +kernel
theorem dX11_init_100 : decode cX11_init 100 = .ok (.aload_n 0, 1) := by decide +kernel
theorem dX11_init_101 : decode cX11_init 101 = .ok (.new 61, 3) := by decide +kernel
theorem dX11_init_104 : decode cX11_init 104 = .ok (.dup, 1) := by decide +kernel
theorem dX11_init_105 : decode cX11_init 105 = .ok (.invokespecial 63, 3) := by decide +kernel
theorem dX11_init_108 : decode cX11_init 108 = .ok (.putfield 64, 3) := by decide +kernel
theorem dX11_init_111 : decode cX11_init 111 = .ok (.aload_n 0, 1) := by decide +kernel
theorem dX11_init_112 : decode cX11_init 112 = .ok (.new 68, 3) := by decide +kernel
theorem dX11_init_115 : decode cX11_init 115 = .ok (.dup, 1) := by decide +kernel
theorem dX11_init_116 : decode cX11_init 116 = .ok (.invokespecial 70, 3) := by decide +kernel
theorem dX11_init_119 : decode cX11_init 119 = .ok (.putfield 71, 3) := by decide +kernel
theorem dX11_init_122 : decode cX11_init 122 = .ok (.aload_n 0, 1) := by decide +kernel
theorem dX11_init_123 : decode cX11_init 123 = .ok (.new 75, 3) := by decide +kernel
theorem dX11_init_126 : decode cX11_init 126 = .ok (.dup, 1) := by decide +kernel
theorem dX11_init_127 : decode cX11_init 127 = .ok (.invokespecial 77, 3) := by decide +kernel
theorem dX11_init_130 : decode cX11_init 130 = .ok (.putfield 78, 3) := by decide +kernel
theorem dX11_init_133 : decode cX11_init 133 = .ok (.aload_n 0, 1) := by decide +kernel
theorem dX11_init_134 : decode cX11_init 134 = .ok (.iconst 4, 1) := by decide +kernel
theorem dX11_init_135 : decode cX11_init 135 = .ok (.newarray .int, 2) := by decide +kernel
theorem dX11_init_137 : decode cX11_init 137 = .ok (.putfield 82, 3) := by decide +kernel
theorem dX11_init_140 : decode cX11_init 140 = .ok (.aload_n 0, 1) := by decide +kernel
theorem dX11_init_141 : decode cX11_init 141 = .ok (.iconst 4, 1) := by decide +kernel
theorem dX11_init_142 : decode cX11_init 142 = .ok (.newarray .int, 2) := by decide +kernel
theorem dX11_init_144 : decode cX11_init 144 = .ok (.putfield 86, 3) := by decide +kernel
theorem dX11_init_147 : decode cX11_init 147 = .ok (.return_, 1) := by decide +kernel
theorem mokX11_init : MOK yX11_init cX11_init 1 none 0 := ⟨w1_25, w1_1, ⟨by decide, by decide⟩, by decide +kernel, by decide⟩
abbrev miX11_init : MI := (yX11_init.cls, cX11_init, 1, 3, true)
noncomputable def BX11_init : Sm Unit := (dSeq dSup (dSeq (dP (fR 11 0) (vR 0) (dNewC 9 DX9_init)) (dSeq (dP (fR 11 1) (vR 0) (dNewC 6 DX6_init)) (dSeq (dP (fR 11 2) (vR 0) (dNewC 5 DX5_init)) (dSeq (dP (fR 11 3) (vR 0) (dNewC 5 DX5_init)) (dSeq (dP (fR 11 4) (vR 0) (dNewA 4 (cI 3))) (dSeq (dP (fR 11 5) (vR 0) (dNewC 8 DX8_init)) (dSeq (dP (fR 11 6) (vR 0) (dNewC 3 DX3_init)) (dSeq (dP (fR 11 7) (vR 0) (dNewC 3 DX3_init)) (dSeq (dP (fR 11 8) (vR 0) (dNewC 4 DX4_init)) (dSeq (dP (fR 11 9) (vR 0) (dNewC 0 DX0_init)) (dSeq (dP (fR 11 10) (vR 0) (dNewC 10 DX10_init)) (dSeq (dP (fR 11 11) (vR 0) (dNewC 7 DX7_init)) (dSeq (dP (fR 11 12) (vR 0) (dNewA 0 (cI 4))) (dSeq (dP (fR 11 13) (vR 0) (dNewA 0 (cI 4))) dRet0)))))))))))))))
theorem sBX11_init : SS (cvoV, .return_) miX11_init [] [] [] [(0, 2)] [(0, 2)] 0 [] BX11_init := (t_sq (p1 := 4) (Γ' := [(0, 2)]) (t_super dX11_init_0 rfl dX11_init_1 w1_26 w1_27 w1_28 rfl rfl) (t_sq (p1 := 15) (Γ' := [(0, 2)]) (t_pR ck11 0 (by decide) rfl ⟨rfl, rfl, fun _ => ⟨rfl, rfl⟩⟩ (Or.inr ⟨rfl, rfl, rfl⟩) (s_aload_n dX11_init_4 rfl rfl) (s_newN ck9 kX9_init mokX9_init rfl w1_32 w1_29 w1_30 w1_2 df9 rfl rfl dX11_init_5 dX11_init_8 dX11_init_9 nb0 rfl) dX11_init_12 w2_196 rfl) (t_sq (p1 := 26) (Γ' := [(0, 2)]) (t_pR ck11 1 (by decide) rfl ⟨rfl, rfl, fun _ => ⟨rfl, rfl⟩⟩ (Or.inr ⟨rfl, rfl, rfl⟩) (s_aload_n dX11_init_15 rfl rfl) (s_newN ck6 kX6_init mokX6_init rfl w1_62 w1_59 w1_60 w1_3 df6 rfl rfl dX11_init_16 dX11_init_19 dX11_init_20 nb1 rfl) dX11_init_23 w2_197 rfl) (t_sq (p1 := 37) (Γ' := [(0, 2)]) (t_pR ck11 2 (by decide) rfl ⟨rfl, rfl, fun _ => ⟨rfl, rfl⟩⟩ (Or.inr ⟨rfl, rfl, rfl⟩) (s_aload_n dX11_init_26 rfl rfl) (s_newN ck5 kX5_init mokX5_init rfl w1_75 w1_72 w1_73 w1_4 df5 rfl rfl dX11_init_27 dX11_init_30 dX11_init_31 nb2 rfl) dX11_init_34 w2_198 rfl) (t_sq (p1 := 48) (Γ' := [(0, 2)]) (t_pR ck11 3 (by decide) rfl ⟨rfl, rfl, fun _ => ⟨rfl, rfl⟩⟩ (Or.inr ⟨rfl, rfl, rfl⟩) (s_aload_n dX11_init_37 rfl rfl) (s_newN ck5 kX5_init mokX5_init rfl w1_75 w1_72 w1_73 w1_4 df5 rfl rfl dX11_init_38 dX11_init_41 dX11_init_42 nb2 rfl) dX11_init_45 w2_199 rfl) (t_sq (p1 := 56) (Γ' := [(0, 2)]) (t_pR ck11 4 (by decide) rfl ⟨rfl, rfl, fun _ => ⟨rfl, rfl⟩⟩ (Or.inr ⟨rfl, rfl, rfl⟩) (s_aload_n dX11_init_48 rfl rfl) (s_newQ (s_iconst dX11_init_49 rfl) dX11_init_50 w1_72) dX11_init_53 w2_200 rfl) (t_sq (p1 := 67) (Γ' := [(0, 2)]) (t_pR ck11 5 (by decide) rfl ⟨rfl, rfl, fun _ => ⟨rfl, rfl⟩⟩ (Or.inr ⟨rfl, rfl, rfl⟩) (s_aload_n dX11_init_56 rfl rfl) (s_newN ck8 kX8_init mokX8_init rfl w1_225 w1_222 w1_223 w1_6 df8 rfl rfl dX11_init_57 dX11_init_60 dX11_init_61 nb4 rfl) dX11_init_64 w2_201 rfl) (t_sq (p1 := 78) (Γ' := [(0, 2)]) (t_pR ck11 6 (by decide) rfl ⟨rfl, rfl, fun _ => ⟨rfl, rfl⟩⟩ (Or.inr ⟨rfl, rfl, rfl⟩) (s_aload_n dX11_init_67 rfl rfl) (s_newN ck3 kX3_init mokX3_init rfl w2_2 w1_239 w2_0 w1_7 df3 rfl rfl dX11_init_68 dX11_init_71 dX11_init_72 nb5 rfl) dX11_init_75 w2_202 rfl) (t_sq (p1 := 89) (Γ' := [(0, 2)]) (t_pR ck11 7 (by decide) rfl ⟨rfl, rfl, fun _ => ⟨rfl, rfl⟩⟩ (Or.inr ⟨rfl, rfl, rfl⟩) (s_aload_n dX11_init_78 rfl rfl) (s_newN ck3 kX3_init mokX3_init rfl w2_2 w1_239 w2_0 w1_7 df3 rfl rfl dX11_init_79 dX11_init_82 dX11_init_83 nb5 rfl) dX11_init_86 w2_203 rfl) (t_sq (p1 := 100) (Γ' := [(0, 2)]) (t_pR ck11 8 (by decide) rfl ⟨rfl, rfl, fun _ => ⟨rfl, rfl⟩⟩ (Or.inr ⟨rfl, rfl, rfl⟩) (s_aload_n dX11_init_89 rfl rfl) (s_newN ck4 kX4_init mokX4_init rfl w2_96 w2_93 w2_94 w1_9 df4 rfl rfl dX11_init_90 dX11_init_93 dX11_init_94 nb7 rfl) dX11_init_97 w2_204 rfl) (t_sq (p1 := 111) (Γ' := [(0, 2)]) (t_pR ck11 9 (by decide) rfl ⟨rfl, rfl, fun _ => ⟨rfl, rfl⟩⟩ (Or.inr ⟨rfl, rfl, rfl⟩) (s_aload_n dX11_init_100 rfl rfl) (s_newN ck0 kX0_init mokX0_init rfl w2_106 w2_103 w2_104 w1_10 df0 rfl rfl dX11_init_101 dX11_init_104 dX11_init_105 nb8 rfl) dX11_init_108 w2_205 rfl) (t_sq (p1 := 122) (Γ' := [(0, 2)]) (t_pR ck11 10 (by decide) rfl ⟨rfl, rfl, fun _ => ⟨rfl, rfl⟩⟩ (Or.inr ⟨rfl, rfl, rfl⟩) (s_aload_n dX11_init_111 rfl rfl) (s_newN ck10 kX10_init mokX10_init rfl w2_167 w2_164 w2_165 w1_11 df10 rfl rfl dX11_init_112 dX11_init_115 dX11_init_116 nb9 rfl) dX11_init_119 w2_206 rfl) (t_sq (p1 := 133) (Γ' := [(0, 2)]) (t_pR ck11 11 (by decide) rfl ⟨rfl, rfl, fun _ => ⟨rfl, rfl⟩⟩ (Or.inr ⟨rfl, rfl, rfl⟩) (s_aload_n dX11_init_122 rfl rfl) (s_newN ck7 kX7_init mokX7_init rfl w2_185 w2_182 w2_183 w1_12 df7 rfl rfl dX11_init_123 dX11_init_126 dX11_init_127 nb10 rfl) dX11_init_130 w2_207 rfl) (t_sq (p1 := 140) (Γ' := [(0, 2)]) (t_pR ck11 12 (by decide) rfl ⟨rfl, rfl, fun _ => ⟨rfl, rfl⟩⟩ (Or.inr ⟨rfl, rfl, rfl⟩) (s_aload_n dX11_init_133 rfl rfl) (s_newI (s_iconst dX11_init_134 rfl) dX11_init_135 w1_123) dX11_init_137 w2_208 rfl) (t_sq (p1 := 147) (Γ' := [(0, 2)]) (t_pR ck11 13 (by decide) rfl ⟨rfl, rfl, fun _ => ⟨rfl, rfl⟩⟩ (Or.inr ⟨rfl, rfl, rfl⟩) (s_aload_n dX11_init_140 rfl rfl) (s_newI (s_iconst dX11_init_141 rfl) dX11_init_142 w1_123) dX11_init_144 w2_209 rfl) (t_ret0 (fun _ _ => rfl) dX11_init_147))))))))))))))))
noncomputable def DX11_init : Fr → St → Option (Unit × St) := M1 (fun f => (sR fr0 0 (gR f 0))) BX11_init
theorem kX11_init : SND yX11_init cX11_init 1 none 3 [(0, 2)] cvoV DX11_init := snd_V (nw := 1) (by decide) (fun _ => rfl) rfl rfl (fun _ _ => rfl) sBX11_init
theorem dX9_add_0 : decode cX9_add 0 = .ok (.bipush 24, 2) := by decide +kernel
theorem dX9_add_2 : decode cX9_add 2 = .ok (.istore_n 2, 1) := by decide +kernel
theorem dX9_add_3 : decode cX9_add 3 = .ok (.iload_n 2, 1) := by decide +kernel
theorem dX9_add_4 : decode cX9_add 4 = .ok (.ifCond .lt 51, 3) := by decide +kernel
theorem dX9_add_7 : decode cX9_add 7 = .ok (.aload_n 0, 1) := by decide +kernel
theorem dX9_add_8 : decode cX9_add 8 = .ok (.getfield 15, 3) := by decide +kernel
theorem dX9_add_11 : decode cX9_add 11 = .ok (.ifCond .lt 38, 3) := by decide +kernel
theorem dX9_add_14 : decode cX9_add 14 = .ok (.aload_n 0, 1) := by decide +kernel
theorem dX9_add_15 : decode cX9_add 15 = .ok (.getfield 15, 3) := by decide +kernel
theorem dX9_add_18 : decode cX9_add 18 = .ok (.aload_n 0, 1) := by decide +kernel
theorem dX9_add_19 : decode cX9_add 19 = .ok (.getfield 9, 3) := by decide +kernel
theorem dX9_add_22 : decode cX9_add 22 = .ok (.arraylength, 1) := by decide +kernel
theorem dX9_add_23 : decode cX9_add 23 = .ok (.if_icmp .ge 26, 3) := by decide +kernel
theorem dX9_add_26 : decode cX9_add 26 = .ok (.aload_n 0, 1) := by decide +kernel
theorem dX9_add_27 : decode cX9_add 27 = .ok (.getfield 9, 3) := by decide +kernel
theorem dX9_add_30 : decode cX9_add 30 = .ok (.aload_n 0, 1) := by decide +kernel
theorem dX9_add_31 : decode cX9_add 31 = .ok (.getfield 15, 3) := by decide +kernel
theorem dX9_add_34 : decode cX9_add 34 = .ok (.iload_n 1, 1) := by decide +kernel
theorem dX9_add_35 : decode cX9_add 35 = .ok (.iload_n 2, 1) := by decide +kernel
theorem dX9_add_36 : decode cX9_add 36 = .ok (.ishr, 1) := by decide +kernel
theorem dX9_add_37 : decode cX9_add 37 = .ok (.i2b, 1) := by decide +kernel
theorem dX9_add_38 : decode cX9_add 38 = .ok (.bastore, 1) := by decide +kernel
theorem dX9_add_39 : decode cX9_add 39 = .ok (.aload_n 0, 1) := by decide +kernel
theorem dX9_add_40 : decode cX9_add 40 = .ok (.dup, 1) := by decide +kernel
theorem dX9_add_41 : decode cX9_add 41 = .ok (.getfield 15, 3) := by decide +kernel
theorem dX9_add_44 : decode cX9_add 44 = .ok (.iconst 1, 1) := by decide +kernel
theorem dX9_add_45 : decode cX9_add 45 = .ok (.iadd, 1) := by decide +kernel
theorem dX9_add_46 : decode cX9_add 46 = .ok (.putfield 15, 3) := by decide +kernel
theorem dX9_add_49 : decode cX9_add 49 = .ok (.iinc 2 (-8), 3) := by decide +kernel
theorem dX9_add_52 : decode cX9_add 52 = .ok (.goto (-49), 3) := by decide +kernel
theorem dX9_add_55 : decode cX9_add 55 = .ok (.return_, 1) := by decide +kernel
theorem mokX9_add : MOK yX9_add cX9_add 3 none 1 := ⟨w5_45, w1_2, ⟨by decide, by decide⟩, by decide +kernel, by decide⟩
abbrev miX9_add : MI := (yX9_add.cls, cX9_add, 3, 1, false)
noncomputable def LX9_add_1 : Sm Unit := dLoop (fun f => (sI (sI (sR fr0 0 (gR f 0)) 1 (gI f 1)) 2 (gI f 2))) (dCZ q_ge (vI 2)) (dIf (dAnd (dCZ q_ge (dGI 9 1 (vR 0))) (dCI r_lt (dGI 9 1 (vR 0)) (dLen (dGR 9 0 (vR 0))))) (dSeq (d3 (stI 14 nB) (dGR 9 0 (vR 0)) (dGI 9 1 (vR 0)) (d1 o_i2b (d2 o_ishr (vI 1) (vI 2)))) (dUF 9 1 o_iadd (vR 0) (cI 1))) dSkip) (dInc 2 (-8))
theorem sLX9_add_1 {ΓL : Gm} {PB PK : List Nat} : SS (cvoV, .return_) miX9_add ΓL PB PK [(0, 2), (1, 0), (2, 0)] [(0, 2), (1, 0), (2, 0)] 3 [55] LX9_add_1 := t_loop (pT := 7) (pF := 55) (pu := 49) (PB' := []) (PK' := []) (XB := [49]) (XU := [52]) (fun _ _ => rfl) rfl (c_ge_ZF (pF := 55) (s_iload_n dX9_add_3 rfl rfl) dX9_add_4 rfl) (t_if (pT := 26) (pF := 49) (X := [49]) (XA := [49]) (XB := [49]) (c_and (p1 := 14) (pT := 26) (pF := 49) (c_ge_ZF (pF := 49) (s_getI ck9 1 (by decide) rfl (s_aload_n dX9_add_7 rfl rfl) dX9_add_8 w1_37) dX9_add_11 rfl) (c_lt_F (pF := 49) (s_getI ck9 1 (by decide) rfl (s_aload_n dX9_add_14 rfl rfl) dX9_add_15 w1_37) (s_len (s_getR ck9 0 (by decide) rfl (s_aload_n dX9_add_18 rfl rfl) dX9_add_19 w1_35) dX9_add_22) dX9_add_23 rfl)) (t_sq (p1 := 39) (Γ' := [(0, 2), (1, 0), (2, 0)]) (t_stB (s_getR ck9 0 (by decide) rfl (s_aload_n dX9_add_26 rfl rfl) dX9_add_27 w1_35) (s_getI ck9 1 (by decide) rfl (s_aload_n dX9_add_30 rfl rfl) dX9_add_31 w1_37) (s_i2b (s_ishr (s_iload_n dX9_add_34 rfl rfl) (s_iload_n dX9_add_35 rfl rfl) dX9_add_36) dX9_add_37) dX9_add_38 rfl) (t_UF ck9 1 (by decide) rfl (Or.inl rfl) (s_aload_n dX9_add_39 rfl rfl) dX9_add_40 dX9_add_41 w1_37 (s_iconst dX9_add_44 rfl) (fun _ _ _ _ => rulI fun a b K => lv_iadd a b dX9_add_45 K) dX9_add_46 w1_37 rfl)) (t_skip (ld_in rfl) rfl) (lda_cons (ld_in rfl) lda_nil) (lda_cons (ld_in rfl) lda_nil)) (t_iinc dX9_add_49 rfl rfl rfl rfl) (lda_cons (ld_in rfl) lda_nil) lda_nil (lda_cons (ld_goto (y := 3) dX9_add_52 rfl (ld_in rfl)) lda_nil) (ld_in rfl) lda_nil
noncomputable def BX9_add : Sm Unit := (dSeq (dSeq (dSetI 2 (cI 24)) LX9_add_1) dRet0)
theorem sBX9_add : SS (cvoV, .return_) miX9_add [] [] [] [(0, 2), (1, 0)] [(0, 2), (1, 0)] 0 [] BX9_add := (t_sq (p1 := 55) (Γ' := [(0, 2), (1, 0)]) (t_sq (p1 := 3) (Γ' := [(0, 2), (1, 0), (2, 0)]) (t_istore_n (s_bipush dX9_add_0 rfl) dX9_add_2 rfl rfl rfl) (tn_to (Γ' := [(0, 2), (1, 0), (2, 0)]) (XA := [55]) sLX9_add_1 (lda_cons (ld_in rfl) lda_nil) rfl)) (t_ret0 (fun _ _ => rfl) dX9_add_55))
noncomputable def DX9_add : Fr → St → Option (Unit × St) := M1 (fun f => (sI (sR fr0 0 (gR f 0)) 1 (gI f 1))) BX9_add
theorem kX9_add : SND yX9_add cX9_add 3 none 1 [(0, 2), (1, 0)] cvoV DX9_add := snd_V (nw := 2) (by decide) (fun z => by cases z) rfl rfl (fun _ _ => rfl) sBX9_add
theorem dX11_feed_0 : decode cX11_feed 0 = .ok (.aload_n 0, 1) := by decide +kernel
theorem dX11_feed_1 : decode cX11_feed 1 = .ok (.getfield 12, 3) := by decide +kernel
theorem dX11_feed_4 : decode cX11_feed 4 = .ok (.getfield 89, 3) := by decide +kernel
theorem dX11_feed_7 : decode cX11_feed 7 = .ok (.bipush 20, 2) := by decide +kernel
theorem dX11_feed_9 : decode cX11_feed 9 = .ok (.iadd, 1) := by decide +kernel
theorem dX11_feed_10 : decode cX11_feed 10 = .ok (.sipush 800, 3) := by decide +kernel
theorem dX11_feed_13 : decode cX11_feed 13 = .ok (.if_icmp .le 5, 3) := by decide +kernel
theorem dX11_feed_16 : decode cX11_feed 16 = .ok (.iconst (-1), 1) := by decide +kernel
theorem dX11_feed_17 : decode cX11_feed 17 = .ok (.ireturn, 1) := by decide +kernel
theorem dX11_feed_18 : decode cX11_feed 18 = .ok (.aload_n 0, 1) := by decide +kernel
theorem dX11_feed_19 : decode cX11_feed 19 = .ok (.getfield 12, 3) := by decide +kernel
theorem dX11_feed_22 : decode cX11_feed 22 = .ok (.iload_n 1, 1) := by decide +kernel
theorem dX11_feed_23 : decode cX11_feed 23 = .ok (.invokevirtual 93, 3) := by decide +kernel
theorem dX11_feed_26 : decode cX11_feed 26 = .ok (.aload_n 0, 1) := by decide +kernel
theorem dX11_feed_27 : decode cX11_feed 27 = .ok (.getfield 12, 3) := by decide +kernel
theorem dX11_feed_30 : decode cX11_feed 30 = .ok (.iload_n 2, 1) := by decide +kernel
theorem dX11_feed_31 : decode cX11_feed 31 = .ok (.invokevirtual 93, 3) := by decide +kernel
theorem dX11_feed_34 : decode cX11_feed 34 = .ok (.aload_n 0, 1) := by decide +kernel
theorem dX11_feed_35 : decode cX11_feed 35 = .ok (.getfield 12, 3) := by decide +kernel
theorem dX11_feed_38 : decode cX11_feed 38 = .ok (.iload_n 3, 1) := by decide +kernel
theorem dX11_feed_39 : decode cX11_feed 39 = .ok (.invokevirtual 93, 3) := by decide +kernel
theorem dX11_feed_42 : decode cX11_feed 42 = .ok (.aload_n 0, 1) := by decide +kernel
theorem dX11_feed_43 : decode cX11_feed 43 = .ok (.getfield 12, 3) := by decide +kernel
theorem dX11_feed_46 : decode cX11_feed 46 = .ok (.iload 4, 2) := by decide +kernel
theorem dX11_feed_48 : decode cX11_feed 48 = .ok (.invokevirtual 93, 3) := by decide +kernel
theorem dX11_feed_51 : decode cX11_feed 51 = .ok (.aload_n 0, 1) := by decide +kernel
theorem dX11_feed_52 : decode cX11_feed 52 = .ok (.getfield 12, 3) := by decide +kernel
theorem dX11_feed_55 : decode cX11_feed 55 = .ok (.iload 5, 2) := by decide +kernel
theorem dX11_feed_57 : decode cX11_feed 57 = .ok (.invokevirtual 93, 3) := by decide +kernel
theorem dX11_feed_60 : decode cX11_feed 60 = .ok (.aload_n 0, 1) := by decide +kernel
theorem dX11_feed_61 : decode cX11_feed 61 = .ok (.getfield 12, 3) := by decide +kernel
theorem dX11_feed_64 : decode cX11_feed 64 = .ok (.getfield 89, 3) := by decide +kernel
theorem dX11_feed_67 : decode cX11_feed 67 = .ok (.ireturn, 1) := by decide +kernel
theorem mokX11_feed : MOK yX11_feed cX11_feed 6 (some .int) 5 := ⟨w5_41, w1_1, ⟨by decide, by decide⟩, by decide +kernel, by decide⟩
abbrev miX11_feed : MI := (yX11_feed.cls, cX11_feed, 6, 2, false)
noncomputable def BX11_feed : Sm Int32 := (dSeq (dIf (dCI r_gt (d2 o_iadd (dGI 9 1 (dGR 11 0 (vR 0))) (cI 20)) (cI 800)) (dRet (cI (-1))) dSkip) (dSeq (dDo (dCallV 9 DX9_add (aI (aR aN 0 (dGR 11 0 (vR 0))) 1 (vI 1)))) (dSeq (dDo (dCallV 9 DX9_add (aI (aR aN 0 (dGR 11 0 (vR 0))) 1 (vI 2)))) (dSeq (dDo (dCallV 9 DX9_add (aI (aR aN 0 (dGR 11 0 (vR 0))) 1 (vI 3)))) (dSeq (dDo (dCallV 9 DX9_add (aI (aR aN 0 (dGR 11 0 (vR 0))) 1 (vI 4)))) (dSeq (dDo (dCallV 9 DX9_add (aI (aR aN 0 (dGR 11 0 (vR 0))) 1 (vI 5)))) (dRet (dGI 9 1 (dGR 11 0 (vR 0))))))))))
theorem sBX11_feed : SS (cvoI, .ireturn) miX11_feed [] [] [] [(0, 2), (1, 0), (2, 0), (3, 0), (4, 0), (5, 0)] [(0, 2), (1, 0), (2, 0), (3, 0), (4, 0), (5, 0)] 0 [] BX11_feed := (t_sq (p1 := 18) (Γ' := [(0, 2), (1, 0), (2, 0), (3, 0), (4, 0), (5, 0)]) (t_if (pT := 16) (pF := 18) (X := [18]) (XA := []) (XB := [18]) (c_gt_F (pF := 18) (s_iadd (s_getI ck9 1 (by decide) rfl (s_getR ck11 0 (by decide) rfl (s_aload_n dX11_feed_0 rfl rfl) dX11_feed_1 w2_196) dX11_feed_4 w1_36) (s_bipush dX11_feed_7 rfl) dX11_feed_9) (s_sipush dX11_feed_10 rfl) dX11_feed_13 rfl) (t_ret (cv := cvI) (fun _ _ => rfl) (s_iconst dX11_feed_16 rfl) dX11_feed_17) (t_skip (ld_in rfl) rfl) lda_nil (lda_cons (ld_in rfl) lda_nil)) (t_sq (p1 := 26) (Γ' := [(0, 2), (1, 0), (2, 0), (3, 0), (4, 0), (5, 0)]) (t_do (x_callV (ts := [(0, 2), (1, 0)]) ck9 rfl kX9_add mokX9_add w5_43 w5_44 rfl rfl rfl rfl (a_I (ts := [(0, 2)]) 1 (a_R (ts := []) 0 a_nil (s_getR ck11 0 (by decide) rfl (s_aload_n dX11_feed_18 rfl rfl) dX11_feed_19 w2_196) rfl) (s_iload_n dX11_feed_22 rfl rfl) rfl) dX11_feed_23 w5_42) rfl) (t_sq (p1 := 34) (Γ' := [(0, 2), (1, 0), (2, 0), (3, 0), (4, 0), (5, 0)]) (t_do (x_callV (ts := [(0, 2), (1, 0)]) ck9 rfl kX9_add mokX9_add w5_43 w5_44 rfl rfl rfl rfl (a_I (ts := [(0, 2)]) 1 (a_R (ts := []) 0 a_nil (s_getR ck11 0 (by decide) rfl (s_aload_n dX11_feed_26 rfl rfl) dX11_feed_27 w2_196) rfl) (s_iload_n dX11_feed_30 rfl rfl) rfl) dX11_feed_31 w5_42) rfl) (t_sq (p1 := 42) (Γ' := [(0, 2), (1, 0), (2, 0), (3, 0), (4, 0), (5, 0)]) (t_do (x_callV (ts := [(0, 2), (1, 0)]) ck9 rfl kX9_add mokX9_add w5_43 w5_44 rfl rfl rfl rfl (a_I (ts := [(0, 2)]) 1 (a_R (ts := []) 0 a_nil (s_getR ck11 0 (by decide) rfl (s_aload_n dX11_feed_34 rfl rfl) dX11_feed_35 w2_196) rfl) (s_iload_n dX11_feed_38 rfl rfl) rfl) dX11_feed_39 w5_42) rfl) (t_sq (p1 := 51) (Γ' := [(0, 2), (1, 0), (2, 0), (3, 0), (4, 0), (5, 0)]) (t_do (x_callV (ts := [(0, 2), (1, 0)]) ck9 rfl kX9_add mokX9_add w5_43 w5_44 rfl rfl rfl rfl (a_I (ts := [(0, 2)]) 1 (a_R (ts := []) 0 a_nil (s_getR ck11 0 (by decide) rfl (s_aload_n dX11_feed_42 rfl rfl) dX11_feed_43 w2_196) rfl) (s_iload dX11_feed_46 rfl) rfl) dX11_feed_48 w5_42) rfl) (t_sq (p1 := 60) (Γ' := [(0, 2), (1, 0), (2, 0), (3, 0), (4, 0), (5, 0)]) (t_do (x_callV (ts := [(0, 2), (1, 0)]) ck9 rfl kX9_add mokX9_add w5_43 w5_44 rfl rfl rfl rfl (a_I (ts := [(0, 2)]) 1 (a_R (ts := []) 0 a_nil (s_getR ck11 0 (by decide) rfl (s_aload_n dX11_feed_51 rfl rfl) dX11_feed_52 w2_196) rfl) (s_iload dX11_feed_55 rfl) rfl) dX11_feed_57 w5_42) rfl) (t_ret (cv := cvI) (fun _ _ => rfl) (s_getI ck9 1 (by decide) rfl (s_getR ck11 0 (by decide) rfl (s_aload_n dX11_feed_60 rfl rfl) dX11_feed_61 w2_196) dX11_feed_64 w1_36) dX11_feed_67)))))))
noncomputable def DX11_feed : Fr → St → Option (Int32 × St) := M1 (fun f => (sI (sI (sI (sI (sI (sR fr0 0 (gR f 0)) 1 (gI f 1)) 2 (gI f 2)) 3 (gI f 3)) 4 (gI f 4)) 5 (gI f 5))) BX11_feed
theorem kX11_feed : SND yX11_feed cX11_feed 6 (some .int) 2 [(0, 2), (1, 0), (2, 0), (3, 0), (4, 0), (5, 0)] cvoI DX11_feed := snd_I (nw := 6) (by decide) rfl rfl (fun _ _ => rfl) sBX11_feed
theorem dX0_forget_0 : decode cX0_forget 0 = .ok (.aload_n 0, 1) := by decide +kernel
theorem dX0_forget_1 : decode cX0_forget 1 = .ok (.iconst (-1), 1) := by decide +kernel
theorem dX0_forget_2 : decode cX0_forget 2 = .ok (.putfield 48, 3) := by decide +kernel
theorem dX0_forget_5 : decode cX0_forget 5 = .ok (.aload_n 0, 1) := by decide +kernel
theorem dX0_forget_6 : decode cX0_forget 6 = .ok (.iconst (-1), 1) := by decide +kernel
theorem dX0_forget_7 : decode cX0_forget 7 = .ok (.putfield 55, 3) := by decide +kernel
theorem dX0_forget_10 : decode cX0_forget 10 = .ok (.return_, 1) := by decide +kernel
theorem mokX0_forget : MOK yX0_forget cX0_forget 1 none 0 := ⟨w4_142, w1_10, ⟨by decide, by decide⟩, by decide +kernel, by decide⟩
abbrev miX0_forget : MI := (yX0_forget.cls, cX0_forget, 1, 1, false)
noncomputable def BX0_forget : Sm Unit := (dSeq (dP (fI 0 14) (vR 0) (cI (-1))) (dSeq (dP (fI 0 16) (vR 0) (cI (-1))) dRet0))
theorem sBX0_forget : SS (cvoV, .return_) miX0_forget [] [] [] [(0, 2)] [(0, 2)] 0 [] BX0_forget := (t_sq (p1 := 5) (Γ' := [(0, 2)]) (t_pI ck0 14 (by decide) rfl (Or.inl rfl) (s_aload_n dX0_forget_0 rfl rfl) (s_iconst dX0_forget_1 rfl) dX0_forget_2 w2_126 rfl) (t_sq (p1 := 10) (Γ' := [(0, 2)]) (t_pI ck0 16 (by decide) rfl (Or.inl rfl) (s_aload_n dX0_forget_5 rfl rfl) (s_iconst dX0_forget_6 rfl) dX0_forget_7 w2_128 rfl) (t_ret0 (fun _ _ => rfl) dX0_forget_10)))
noncomputable def DX0_forget : Fr → St → Option (Unit × St) := M1 (fun f => (sR fr0 0 (gR f 0))) BX0_forget
theorem kX0_forget : SND yX0_forget cX0_forget 1 none 1 [(0, 2)] cvoV DX0_forget := snd_V (nw := 1) (by decide) (fun z => by cases z) rfl rfl (fun _ _ => rfl) sBX0_forget
theorem dX11_makeStale_0 : decode cX11_makeStale 0 = .ok (.aload_n 0, 1) := by decide +kernel
theorem dX11_makeStale_1 : decode cX11_makeStale 1 = .ok (.getfield 47, 3) := by decide +kernel
theorem dX11_makeStale_4 : decode cX11_makeStale 4 = .ok (.iconst 0, 1) := by decide +kernel
theorem dX11_makeStale_5 : decode cX11_makeStale 5 = .ok (.putfield 441, 3) := by decide +kernel
theorem dX11_makeStale_8 : decode cX11_makeStale 8 = .ok (.aload_n 0, 1) := by decide +kernel
theorem dX11_makeStale_9 : decode cX11_makeStale 9 = .ok (.getfield 71, 3) := by decide +kernel
theorem dX11_makeStale_12 : decode cX11_makeStale 12 = .ok (.iconst 0, 1) := by decide +kernel
theorem dX11_makeStale_13 : decode cX11_makeStale 13 = .ok (.putfield 445, 3) := by decide +kernel
theorem dX11_makeStale_16 : decode cX11_makeStale 16 = .ok (.aload_n 0, 1) := by decide +kernel
theorem dX11_makeStale_17 : decode cX11_makeStale 17 = .ok (.getfield 64, 3) := by decide +kernel
theorem dX11_makeStale_20 : decode cX11_makeStale 20 = .ok (.invokevirtual 446, 3) := by decide +kernel
theorem dX11_makeStale_23 : decode cX11_makeStale 23 = .ok (.return_, 1) := by decide +kernel
theorem mokX11_makeStale : MOK yX11_makeStale cX11_makeStale 1 none 0 := ⟨w4_138, w1_1, ⟨by decide, by decide⟩, by decide +kernel, by decide⟩
abbrev miX11_makeStale : MI := (yX11_makeStale.cls, cX11_makeStale, 1, 2, false)
noncomputable def BX11_makeStale : Sm Unit := (dSeq (dP (fZ 3 0) (dGR 11 6 (vR 0)) (cI 0)) (dSeq (dP (fZ 10 0) (dGR 11 10 (vR 0)) (cI 0)) (dSeq (dDo (dCallV 0 DX0_forget (aR aN 0 (dGR 11 9 (vR 0))))) dRet0)))
theorem sBX11_makeStale : SS (cvoV, .return_) miX11_makeStale [] [] [] [(0, 2)] [(0, 2)] 0 [] BX11_makeStale := (t_sq (p1 := 8) (Γ' := [(0, 2)]) (t_pZ ck3 0 (by decide) rfl (Or.inl rfl) (s_getR ck11 6 (by decide) rfl (s_aload_n dX11_makeStale_0 rfl rfl) dX11_makeStale_1 w2_202) (s_iconst dX11_makeStale_4 rfl) dX11_makeStale_5 w2_69 rfl) (t_sq (p1 := 16) (Γ' := [(0, 2)]) (t_pZ ck10 0 (by decide) rfl (Or.inl rfl) (s_getR ck11 10 (by decide) rfl (s_aload_n dX11_makeStale_8 rfl rfl) dX11_makeStale_9 w2_206) (s_iconst dX11_makeStale_12 rfl) dX11_makeStale_13 w2_170 rfl) (t_sq (p1 := 23) (Γ' := [(0, 2)]) (t_do (x_callV (ts := [(0, 2)]) ck0 rfl kX0_forget mokX0_forget w4_140 w4_141 rfl rfl rfl rfl (a_R (ts := []) 0 a_nil (s_getR ck11 9 (by decide) rfl (s_aload_n dX11_makeStale_16 rfl rfl) dX11_makeStale_17 w2_205) rfl) dX11_makeStale_20 w4_139) rfl) (t_ret0 (fun _ _ => rfl) dX11_makeStale_23))))
noncomputable def DX11_makeStale : Fr → St → Option (Unit × St) := M1 (fun f => (sR fr0 0 (gR f 0))) BX11_makeStale
theorem kX11_makeStale : SND yX11_makeStale cX11_makeStale 1 none 2 [(0, 2)] cvoV DX11_makeStale := snd_V (nw := 1) (by decide) (fun z => by cases z) rfl rfl (fun _ _ => rfl) sBX11_makeStale
theorem dX1_copy_0 : decode cX1_copy 0 = .ok (.aload_n 1, 1) := by decide +kernel
theorem dX1_copy_1 : decode cX1_copy 1 = .ok (.ifnonnull 4, 3) := by decide +kernel
theorem dX1_copy_4 : decode cX1_copy 4 = .ok (.return_, 1) := by decide +kernel
theorem dX1_copy_5 : decode cX1_copy 5 = .ok (.aload_n 0, 1) := by decide +kernel
theorem dX1_copy_6 : decode cX1_copy 6 = .ok (.aload_n 1, 1) := by decide +kernel
theorem dX1_copy_7 : decode cX1_copy 7 = .ok (.getfield 30, 3) := by decide +kernel
theorem dX1_copy_10 : decode cX1_copy 10 = .ok (.putfield 30, 3) := by decide +kernel
theorem dX1_copy_13 : decode cX1_copy 13 = .ok (.aload_n 0, 1) := by decide +kernel
theorem dX1_copy_14 : decode cX1_copy 14 = .ok (.aload_n 1, 1) := by decide +kernel
theorem dX1_copy_15 : decode cX1_copy 15 = .ok (.getfield 34, 3) := by decide +kernel
theorem dX1_copy_18 : decode cX1_copy 18 = .ok (.putfield 34, 3) := by decide +kernel
theorem dX1_copy_21 : decode cX1_copy 21 = .ok (.aload_n 0, 1) := by decide +kernel
theorem dX1_copy_22 : decode cX1_copy 22 = .ok (.aload_n 1, 1) := by decide +kernel
theorem dX1_copy_23 : decode cX1_copy 23 = .ok (.getfield 37, 3) := by decide +kernel
theorem dX1_copy_26 : decode cX1_copy 26 = .ok (.putfield 37, 3) := by decide +kernel
theorem dX1_copy_29 : decode cX1_copy 29 = .ok (.aload_n 1, 1) := by decide +kernel
theorem dX1_copy_30 : decode cX1_copy 30 = .ok (.getfield 9, 3) := by decide +kernel
theorem dX1_copy_33 : decode cX1_copy 33 = .ok (.iconst 0, 1) := by decide +kernel
theorem dX1_copy_34 : decode cX1_copy 34 = .ok (.aload_n 0, 1) := by decide +kernel
theorem dX1_copy_35 : decode cX1_copy 35 = .ok (.getfield 9, 3) := by decide +kernel
theorem dX1_copy_38 : decode cX1_copy 38 = .ok (.iconst 0, 1) := by decide +kernel
theorem dX1_copy_39 : decode cX1_copy 39 = .ok (.bipush 32, 2) := by decide +kernel
theorem dX1_copy_41 : decode cX1_copy 41 = .ok (.invokestatic 40, 3) := by decide +kernel
theorem dX1_copy_44 : decode cX1_copy 44 = .ok (.aload_n 1, 1) := by decide +kernel
theorem dX1_copy_45 : decode cX1_copy 45 = .ok (.getfield 15, 3) := by decide +kernel
theorem dX1_copy_48 : decode cX1_copy 48 = .ok (.iconst 0, 1) := by decide +kernel
theorem dX1_copy_49 : decode cX1_copy 49 = .ok (.aload_n 0, 1) := by decide +kernel
theorem dX1_copy_50 : decode cX1_copy 50 = .ok (.getfield 15, 3) := by decide +kernel
theorem dX1_copy_53 : decode cX1_copy 53 = .ok (.iconst 0, 1) := by decide +kernel
theorem dX1_copy_54 : decode cX1_copy 54 = .ok (.bipush 32, 2) := by decide +kernel
theorem dX1_copy_56 : decode cX1_copy 56 = .ok (.invokestatic 40, 3) := by decide +kernel
theorem dX1_copy_59 : decode cX1_copy 59 = .ok (.aload_n 1, 1) := by decide +kernel
theorem dX1_copy_60 : decode cX1_copy 60 = .ok (.getfield 18, 3) := by decide +kernel
theorem dX1_copy_63 : decode cX1_copy 63 = .ok (.iconst 0, 1) := by decide +kernel
theorem dX1_copy_64 : decode cX1_copy 64 = .ok (.aload_n 0, 1) := by decide +kernel
theorem dX1_copy_65 : decode cX1_copy 65 = .ok (.getfield 18, 3) := by decide +kernel
theorem dX1_copy_68 : decode cX1_copy 68 = .ok (.iconst 0, 1) := by decide +kernel
theorem dX1_copy_69 : decode cX1_copy 69 = .ok (.bipush 32, 2) := by decide +kernel
theorem dX1_copy_71 : decode cX1_copy 71 = .ok (.invokestatic 40, 3) := by decide +kernel
theorem dX1_copy_74 : decode cX1_copy 74 = .ok (.aload_n 1, 1) := by decide +kernel
theorem dX1_copy_75 : decode cX1_copy 75 = .ok (.getfield 21, 3) := by decide +kernel
theorem dX1_copy_78 : decode cX1_copy 78 = .ok (.iconst 0, 1) := by decide +kernel
theorem dX1_copy_79 : decode cX1_copy 79 = .ok (.aload_n 0, 1) := by decide +kernel
theorem dX1_copy_80 : decode cX1_copy 80 = .ok (.getfield 21, 3) := by decide +kernel
theorem dX1_copy_83 : decode cX1_copy 83 = .ok (.iconst 0, 1) := by decide +kernel
theorem dX1_copy_84 : decode cX1_copy 84 = .ok (.bipush 32, 2) := by decide +kernel
theorem dX1_copy_86 : decode cX1_copy 86 = .ok (.invokestatic 40, 3) := by decide +kernel
theorem dX1_copy_89 : decode cX1_copy 89 = .ok (.aload_n 1, 1) := by decide +kernel
theorem dX1_copy_90 : decode cX1_copy 90 = .ok (.getfield 24, 3) := by decide +kernel
theorem dX1_copy_93 : decode cX1_copy 93 = .ok (.iconst 0, 1) := by decide +kernel
theorem dX1_copy_94 : decode cX1_copy 94 = .ok (.aload_n 0, 1) := by decide +kernel
theorem dX1_copy_95 : decode cX1_copy 95 = .ok (.getfield 24, 3) := by decide +kernel
theorem dX1_copy_98 : decode cX1_copy 98 = .ok (.iconst 0, 1) := by decide +kernel
theorem dX1_copy_99 : decode cX1_copy 99 = .ok (.bipush 20, 2) := by decide +kernel
theorem dX1_copy_101 : decode cX1_copy 101 = .ok (.invokestatic 40, 3) := by decide +kernel
theorem dX1_copy_104 : decode cX1_copy 104 = .ok (.aload_n 1, 1) := by decide +kernel
theorem dX1_copy_105 : decode cX1_copy 105 = .ok (.getfield 27, 3) := by decide +kernel
theorem dX1_copy_108 : decode cX1_copy 108 = .ok (.iconst 0, 1) := by decide +kernel
theorem dX1_copy_109 : decode cX1_copy 109 = .ok (.aload_n 0, 1) := by decide +kernel
theorem dX1_copy_110 : decode cX1_copy 110 = .ok (.getfield 27, 3) := by decide +kernel
theorem dX1_copy_113 : decode cX1_copy 113 = .ok (.iconst 0, 1) := by decide +kernel
theorem dX1_copy_114 : decode cX1_copy 114 = .ok (.bipush 20, 2) := by decide +kernel
theorem dX1_copy_116 : decode cX1_copy 116 = .ok (.invokestatic 40, 3) := by decide +kernel
theorem dX1_copy_119 : decode cX1_copy 119 = .ok (.return_, 1) := by decide +kernel
theorem mokX1_copy : MOK yX1_copy cX1_copy 2 none 1 := ⟨w4_198, w1_5, ⟨by decide, by decide⟩, by decide +kernel, by decide⟩
abbrev miX1_copy : MI := (yX1_copy.cls, cX1_copy, 2, 1, false)
noncomputable def BX1_copy : Sm Unit := (dSeq (dIf (dNot (dNN (vR 1))) dRet0 dSkip) (dSeq (dP (fI 1 0) (vR 0) (dGI 1 0 (vR 1))) (dSeq (dP (fI 1 1) (vR 0) (dGI 1 1 (vR 1))) (dSeq (dP (fI 1 2) (vR 0) (dGI 1 2 (vR 1))) (dSeq (dCp 13 (aI (aI (aR (aI (aR aN 0 (dGR 1 3 (vR 1))) 1 (cI 0)) 2 (dGR 1 3 (vR 0))) 3 (cI 0)) 4 (cI 32))) (dSeq (dCp 13 (aI (aI (aR (aI (aR aN 0 (dGR 1 4 (vR 1))) 1 (cI 0)) 2 (dGR 1 4 (vR 0))) 3 (cI 0)) 4 (cI 32))) (dSeq (dCp 13 (aI (aI (aR (aI (aR aN 0 (dGR 1 5 (vR 1))) 1 (cI 0)) 2 (dGR 1 5 (vR 0))) 3 (cI 0)) 4 (cI 32))) (dSeq (dCp 13 (aI (aI (aR (aI (aR aN 0 (dGR 1 6 (vR 1))) 1 (cI 0)) 2 (dGR 1 6 (vR 0))) 3 (cI 0)) 4 (cI 32))) (dSeq (dCp 13 (aI (aI (aR (aI (aR aN 0 (dGR 1 7 (vR 1))) 1 (cI 0)) 2 (dGR 1 7 (vR 0))) 3 (cI 0)) 4 (cI 20))) (dSeq (dCp 13 (aI (aI (aR (aI (aR aN 0 (dGR 1 8 (vR 1))) 1 (cI 0)) 2 (dGR 1 8 (vR 0))) 3 (cI 0)) 4 (cI 20))) dRet0))))))))))
theorem sBX1_copy : SS (cvoV, .return_) miX1_copy [] [] [] [(0, 2), (1, 2)] [(0, 2), (1, 2)] 0 [] BX1_copy := (t_sq (p1 := 5) (Γ' := [(0, 2), (1, 2)]) (t_if (pT := 4) (pF := 5) (X := [5]) (XA := []) (XB := [5]) (c_not (pT := 4) (pF := 5) (c_nn_J (pT := 5) (s_aload_n dX1_copy_0 rfl rfl) dX1_copy_1 rfl)) (t_ret0 (fun _ _ => rfl) dX1_copy_4) (t_skip (ld_in rfl) rfl) lda_nil (lda_cons (ld_in rfl) lda_nil)) (t_sq (p1 := 13) (Γ' := [(0, 2), (1, 2)]) (t_pI ck1 0 (by decide) rfl (Or.inl rfl) (s_aload_n dX1_copy_5 rfl rfl) (s_getI ck1 0 (by decide) rfl (s_aload_n dX1_copy_6 rfl rfl) dX1_copy_7 w1_84) dX1_copy_10 w1_84 rfl) (t_sq (p1 := 21) (Γ' := [(0, 2), (1, 2)]) (t_pI ck1 1 (by decide) rfl (Or.inl rfl) (s_aload_n dX1_copy_13 rfl rfl) (s_getI ck1 1 (by decide) rfl (s_aload_n dX1_copy_14 rfl rfl) dX1_copy_15 w1_87) dX1_copy_18 w1_87 rfl) (t_sq (p1 := 29) (Γ' := [(0, 2), (1, 2)]) (t_pI ck1 2 (by decide) rfl (Or.inl rfl) (s_aload_n dX1_copy_21 rfl rfl) (s_getI ck1 2 (by decide) rfl (s_aload_n dX1_copy_22 rfl rfl) dX1_copy_23 w1_92) dX1_copy_26 w1_92 rfl) (t_sq (p1 := 44) (Γ' := [(0, 2), (1, 2)]) (t_cp (Or.inl rfl) (a_I (ts := [(0, 2), (1, 0), (2, 2), (3, 0)]) 4 (a_I (ts := [(0, 2), (1, 0), (2, 2)]) 3 (a_R (ts := [(0, 2), (1, 0)]) 2 (a_I (ts := [(0, 2)]) 1 (a_R (ts := []) 0 a_nil (s_getR ck1 3 (by decide) rfl (s_aload_n dX1_copy_29 rfl rfl) dX1_copy_30 w1_94) rfl) (s_iconst dX1_copy_33 rfl) rfl) (s_getR ck1 3 (by decide) rfl (s_aload_n dX1_copy_34 rfl rfl) dX1_copy_35 w1_94) rfl) (s_iconst dX1_copy_38 rfl) rfl) (s_bipush dX1_copy_39 rfl) rfl) rfl dX1_copy_41 w4_199 w3_86 w3_85 w1_18 rfl) (t_sq (p1 := 59) (Γ' := [(0, 2), (1, 2)]) (t_cp (Or.inl rfl) (a_I (ts := [(0, 2), (1, 0), (2, 2), (3, 0)]) 4 (a_I (ts := [(0, 2), (1, 0), (2, 2)]) 3 (a_R (ts := [(0, 2), (1, 0)]) 2 (a_I (ts := [(0, 2)]) 1 (a_R (ts := []) 0 a_nil (s_getR ck1 4 (by decide) rfl (s_aload_n dX1_copy_44 rfl rfl) dX1_copy_45 w1_96) rfl) (s_iconst dX1_copy_48 rfl) rfl) (s_getR ck1 4 (by decide) rfl (s_aload_n dX1_copy_49 rfl rfl) dX1_copy_50 w1_96) rfl) (s_iconst dX1_copy_53 rfl) rfl) (s_bipush dX1_copy_54 rfl) rfl) rfl dX1_copy_56 w4_199 w3_86 w3_85 w1_18 rfl) (t_sq (p1 := 74) (Γ' := [(0, 2), (1, 2)]) (t_cp (Or.inl rfl) (a_I (ts := [(0, 2), (1, 0), (2, 2), (3, 0)]) 4 (a_I (ts := [(0, 2), (1, 0), (2, 2)]) 3 (a_R (ts := [(0, 2), (1, 0)]) 2 (a_I (ts := [(0, 2)]) 1 (a_R (ts := []) 0 a_nil (s_getR ck1 5 (by decide) rfl (s_aload_n dX1_copy_59 rfl rfl) dX1_copy_60 w1_98) rfl) (s_iconst dX1_copy_63 rfl) rfl) (s_getR ck1 5 (by decide) rfl (s_aload_n dX1_copy_64 rfl rfl) dX1_copy_65 w1_98) rfl) (s_iconst dX1_copy_68 rfl) rfl) (s_bipush dX1_copy_69 rfl) rfl) rfl dX1_copy_71 w4_199 w3_86 w3_85 w1_18 rfl) (t_sq (p1 := 89) (Γ' := [(0, 2), (1, 2)]) (t_cp (Or.inl rfl) (a_I (ts := [(0, 2), (1, 0), (2, 2), (3, 0)]) 4 (a_I (ts := [(0, 2), (1, 0), (2, 2)]) 3 (a_R (ts := [(0, 2), (1, 0)]) 2 (a_I (ts := [(0, 2)]) 1 (a_R (ts := []) 0 a_nil (s_getR ck1 6 (by decide) rfl (s_aload_n dX1_copy_74 rfl rfl) dX1_copy_75 w1_100) rfl) (s_iconst dX1_copy_78 rfl) rfl) (s_getR ck1 6 (by decide) rfl (s_aload_n dX1_copy_79 rfl rfl) dX1_copy_80 w1_100) rfl) (s_iconst dX1_copy_83 rfl) rfl) (s_bipush dX1_copy_84 rfl) rfl) rfl dX1_copy_86 w4_199 w3_86 w3_85 w1_18 rfl) (t_sq (p1 := 104) (Γ' := [(0, 2), (1, 2)]) (t_cp (Or.inl rfl) (a_I (ts := [(0, 2), (1, 0), (2, 2), (3, 0)]) 4 (a_I (ts := [(0, 2), (1, 0), (2, 2)]) 3 (a_R (ts := [(0, 2), (1, 0)]) 2 (a_I (ts := [(0, 2)]) 1 (a_R (ts := []) 0 a_nil (s_getR ck1 7 (by decide) rfl (s_aload_n dX1_copy_89 rfl rfl) dX1_copy_90 w1_102) rfl) (s_iconst dX1_copy_93 rfl) rfl) (s_getR ck1 7 (by decide) rfl (s_aload_n dX1_copy_94 rfl rfl) dX1_copy_95 w1_102) rfl) (s_iconst dX1_copy_98 rfl) rfl) (s_bipush dX1_copy_99 rfl) rfl) rfl dX1_copy_101 w4_199 w3_86 w3_85 w1_18 rfl) (t_sq (p1 := 119) (Γ' := [(0, 2), (1, 2)]) (t_cp (Or.inl rfl) (a_I (ts := [(0, 2), (1, 0), (2, 2), (3, 0)]) 4 (a_I (ts := [(0, 2), (1, 0), (2, 2)]) 3 (a_R (ts := [(0, 2), (1, 0)]) 2 (a_I (ts := [(0, 2)]) 1 (a_R (ts := []) 0 a_nil (s_getR ck1 8 (by decide) rfl (s_aload_n dX1_copy_104 rfl rfl) dX1_copy_105 w1_103) rfl) (s_iconst dX1_copy_108 rfl) rfl) (s_getR ck1 8 (by decide) rfl (s_aload_n dX1_copy_109 rfl rfl) dX1_copy_110 w1_103) rfl) (s_iconst dX1_copy_113 rfl) rfl) (s_bipush dX1_copy_114 rfl) rfl) rfl dX1_copy_116 w4_199 w3_86 w3_85 w1_18 rfl) (t_ret0 (fun _ _ => rfl) dX1_copy_119)))))))))))
noncomputable def DX1_copy : Fr → St → Option (Unit × St) := M1 (fun f => (sR (sR fr0 0 (gR f 0)) 1 (gR f 1))) BX1_copy
theorem kX1_copy : SND yX1_copy cX1_copy 2 none 1 [(0, 2), (1, 2)] cvoV DX1_copy := snd_V (nw := 2) (by decide) (fun z => by cases z) rfl rfl (fun _ _ => rfl) sBX1_copy
theorem dX5_copy_0 : decode cX5_copy 0 = .ok (.aload_n 1, 1) := by decide +kernel
theorem dX5_copy_1 : decode cX5_copy 1 = .ok (.ifnonnull 4, 3) := by decide +kernel
theorem dX5_copy_4 : decode cX5_copy 4 = .ok (.return_, 1) := by decide +kernel
theorem dX5_copy_5 : decode cX5_copy 5 = .ok (.aload_n 0, 1) := by decide +kernel
theorem dX5_copy_6 : decode cX5_copy 6 = .ok (.aload_n 1, 1) := by decide +kernel
theorem dX5_copy_7 : decode cX5_copy 7 = .ok (.getfield 43, 3) := by decide +kernel
theorem dX5_copy_10 : decode cX5_copy 10 = .ok (.putfield 43, 3) := by decide +kernel
theorem dX5_copy_13 : decode cX5_copy 13 = .ok (.aload_n 0, 1) := by decide +kernel
theorem dX5_copy_14 : decode cX5_copy 14 = .ok (.aload_n 1, 1) := by decide +kernel
theorem dX5_copy_15 : decode cX5_copy 15 = .ok (.getfield 47, 3) := by decide +kernel
theorem dX5_copy_18 : decode cX5_copy 18 = .ok (.putfield 47, 3) := by decide +kernel
theorem dX5_copy_21 : decode cX5_copy 21 = .ok (.aload_n 0, 1) := by decide +kernel
theorem dX5_copy_22 : decode cX5_copy 22 = .ok (.aload_n 1, 1) := by decide +kernel
theorem dX5_copy_23 : decode cX5_copy 23 = .ok (.getfield 50, 3) := by decide +kernel
theorem dX5_copy_26 : decode cX5_copy 26 = .ok (.putfield 50, 3) := by decide +kernel
theorem dX5_copy_29 : decode cX5_copy 29 = .ok (.aload_n 0, 1) := by decide +kernel
theorem dX5_copy_30 : decode cX5_copy 30 = .ok (.aload_n 1, 1) := by decide +kernel
theorem dX5_copy_31 : decode cX5_copy 31 = .ok (.getfield 53, 3) := by decide +kernel
theorem dX5_copy_34 : decode cX5_copy 34 = .ok (.putfield 53, 3) := by decide +kernel
theorem dX5_copy_37 : decode cX5_copy 37 = .ok (.aload_n 0, 1) := by decide +kernel
theorem dX5_copy_38 : decode cX5_copy 38 = .ok (.aload_n 1, 1) := by decide +kernel
theorem dX5_copy_39 : decode cX5_copy 39 = .ok (.getfield 56, 3) := by decide +kernel
theorem dX5_copy_42 : decode cX5_copy 42 = .ok (.putfield 56, 3) := by decide +kernel
theorem dX5_copy_45 : decode cX5_copy 45 = .ok (.aload_n 0, 1) := by decide +kernel
theorem dX5_copy_46 : decode cX5_copy 46 = .ok (.aload_n 1, 1) := by decide +kernel
theorem dX5_copy_47 : decode cX5_copy 47 = .ok (.getfield 59, 3) := by decide +kernel
theorem dX5_copy_50 : decode cX5_copy 50 = .ok (.putfield 59, 3) := by decide +kernel
theorem dX5_copy_53 : decode cX5_copy 53 = .ok (.aload_n 0, 1) := by decide +kernel
theorem dX5_copy_54 : decode cX5_copy 54 = .ok (.aload_n 1, 1) := by decide +kernel
theorem dX5_copy_55 : decode cX5_copy 55 = .ok (.getfield 62, 3) := by decide +kernel
theorem dX5_copy_58 : decode cX5_copy 58 = .ok (.putfield 62, 3) := by decide +kernel
theorem dX5_copy_61 : decode cX5_copy 61 = .ok (.aload_n 0, 1) := by decide +kernel
theorem dX5_copy_62 : decode cX5_copy 62 = .ok (.aload_n 1, 1) := by decide +kernel
theorem dX5_copy_63 : decode cX5_copy 63 = .ok (.getfield 65, 3) := by decide +kernel
theorem dX5_copy_66 : decode cX5_copy 66 = .ok (.putfield 65, 3) := by decide +kernel
theorem dX5_copy_69 : decode cX5_copy 69 = .ok (.aload_n 1, 1) := by decide +kernel
theorem dX5_copy_70 : decode cX5_copy 70 = .ok (.getfield 9, 3) := by decide +kernel
theorem dX5_copy_73 : decode cX5_copy 73 = .ok (.iconst 0, 1) := by decide +kernel
theorem dX5_copy_74 : decode cX5_copy 74 = .ok (.aload_n 0, 1) := by decide +kernel
theorem dX5_copy_75 : decode cX5_copy 75 = .ok (.getfield 9, 3) := by decide +kernel
theorem dX5_copy_78 : decode cX5_copy 78 = .ok (.iconst 0, 1) := by decide +kernel
theorem dX5_copy_79 : decode cX5_copy 79 = .ok (.bipush 8, 2) := by decide +kernel
theorem dX5_copy_81 : decode cX5_copy 81 = .ok (.invokestatic 71, 3) := by decide +kernel
theorem dX5_copy_84 : decode cX5_copy 84 = .ok (.aload_n 1, 1) := by decide +kernel
theorem dX5_copy_85 : decode cX5_copy 85 = .ok (.getfield 15, 3) := by decide +kernel
theorem dX5_copy_88 : decode cX5_copy 88 = .ok (.iconst 0, 1) := by decide +kernel
theorem dX5_copy_89 : decode cX5_copy 89 = .ok (.aload_n 0, 1) := by decide +kernel
theorem dX5_copy_90 : decode cX5_copy 90 = .ok (.getfield 15, 3) := by decide +kernel
theorem dX5_copy_93 : decode cX5_copy 93 = .ok (.iconst 0, 1) := by decide +kernel
theorem dX5_copy_94 : decode cX5_copy 94 = .ok (.bipush 12, 2) := by decide +kernel
theorem dX5_copy_96 : decode cX5_copy 96 = .ok (.invokestatic 71, 3) := by decide +kernel
theorem dX5_copy_99 : decode cX5_copy 99 = .ok (.aload_n 1, 1) := by decide +kernel
theorem dX5_copy_100 : decode cX5_copy 100 = .ok (.getfield 18, 3) := by decide +kernel
theorem dX5_copy_103 : decode cX5_copy 103 = .ok (.iconst 0, 1) := by decide +kernel
theorem dX5_copy_104 : decode cX5_copy 104 = .ok (.aload_n 0, 1) := by decide +kernel
theorem dX5_copy_105 : decode cX5_copy 105 = .ok (.getfield 18, 3) := by decide +kernel
theorem dX5_copy_108 : decode cX5_copy 108 = .ok (.iconst 0, 1) := by decide +kernel
theorem dX5_copy_109 : decode cX5_copy 109 = .ok (.bipush 12, 2) := by decide +kernel
theorem dX5_copy_111 : decode cX5_copy 111 = .ok (.invokestatic 71, 3) := by decide +kernel
theorem dX5_copy_114 : decode cX5_copy 114 = .ok (.aload_n 1, 1) := by decide +kernel
theorem dX5_copy_115 : decode cX5_copy 115 = .ok (.getfield 21, 3) := by decide +kernel
theorem dX5_copy_118 : decode cX5_copy 118 = .ok (.iconst 0, 1) := by decide +kernel
theorem dX5_copy_119 : decode cX5_copy 119 = .ok (.aload_n 0, 1) := by decide +kernel
theorem dX5_copy_120 : decode cX5_copy 120 = .ok (.getfield 21, 3) := by decide +kernel
theorem dX5_copy_123 : decode cX5_copy 123 = .ok (.iconst 0, 1) := by decide +kernel
theorem dX5_copy_124 : decode cX5_copy 124 = .ok (.iconst 5, 1) := by decide +kernel
theorem dX5_copy_125 : decode cX5_copy 125 = .ok (.invokestatic 71, 3) := by decide +kernel
theorem dX5_copy_128 : decode cX5_copy 128 = .ok (.aload_n 1, 1) := by decide +kernel
theorem dX5_copy_129 : decode cX5_copy 129 = .ok (.getfield 24, 3) := by decide +kernel
theorem dX5_copy_132 : decode cX5_copy 132 = .ok (.iconst 0, 1) := by decide +kernel
theorem dX5_copy_133 : decode cX5_copy 133 = .ok (.aload_n 0, 1) := by decide +kernel
theorem dX5_copy_134 : decode cX5_copy 134 = .ok (.getfield 24, 3) := by decide +kernel
theorem dX5_copy_137 : decode cX5_copy 137 = .ok (.iconst 0, 1) := by decide +kernel
theorem dX5_copy_138 : decode cX5_copy 138 = .ok (.iconst 5, 1) := by decide +kernel
theorem dX5_copy_139 : decode cX5_copy 139 = .ok (.invokestatic 71, 3) := by decide +kernel
theorem dX5_copy_142 : decode cX5_copy 142 = .ok (.aload_n 1, 1) := by decide +kernel
theorem dX5_copy_143 : decode cX5_copy 143 = .ok (.getfield 27, 3) := by decide +kernel
theorem dX5_copy_146 : decode cX5_copy 146 = .ok (.iconst 0, 1) := by decide +kernel
theorem dX5_copy_147 : decode cX5_copy 147 = .ok (.aload_n 0, 1) := by decide +kernel
theorem dX5_copy_148 : decode cX5_copy 148 = .ok (.getfield 27, 3) := by decide +kernel
theorem dX5_copy_151 : decode cX5_copy 151 = .ok (.iconst 0, 1) := by decide +kernel
theorem dX5_copy_152 : decode cX5_copy 152 = .ok (.iconst 3, 1) := by decide +kernel
theorem dX5_copy_153 : decode cX5_copy 153 = .ok (.invokestatic 71, 3) := by decide +kernel
theorem dX5_copy_156 : decode cX5_copy 156 = .ok (.aload_n 1, 1) := by decide +kernel
theorem dX5_copy_157 : decode cX5_copy 157 = .ok (.getfield 30, 3) := by decide +kernel
theorem dX5_copy_160 : decode cX5_copy 160 = .ok (.iconst 0, 1) := by decide +kernel
theorem dX5_copy_161 : decode cX5_copy 161 = .ok (.aload_n 0, 1) := by decide +kernel
theorem dX5_copy_162 : decode cX5_copy 162 = .ok (.getfield 30, 3) := by decide +kernel
theorem dX5_copy_165 : decode cX5_copy 165 = .ok (.iconst 0, 1) := by decide +kernel
theorem dX5_copy_166 : decode cX5_copy 166 = .ok (.iconst 3, 1) := by decide +kernel
theorem dX5_copy_167 : decode cX5_copy 167 = .ok (.invokestatic 71, 3) := by decide +kernel
theorem dX5_copy_170 : decode cX5_copy 170 = .ok (.aload_n 1, 1) := by decide +kernel
theorem dX5_copy_171 : decode cX5_copy 171 = .ok (.getfield 33, 3) := by decide +kernel
theorem dX5_copy_174 : decode cX5_copy 174 = .ok (.iconst 0, 1) := by decide +kernel
theorem dX5_copy_175 : decode cX5_copy 175 = .ok (.aload_n 0, 1) := by decide +kernel
theorem dX5_copy_176 : decode cX5_copy 176 = .ok (.getfield 33, 3) := by decide +kernel
theorem dX5_copy_179 : decode cX5_copy 179 = .ok (.iconst 0, 1) := by decide +kernel
theorem dX5_copy_180 : decode cX5_copy 180 = .ok (.bipush 18, 2) := by decide +kernel
theorem dX5_copy_182 : decode cX5_copy 182 = .ok (.invokestatic 71, 3) := by decide +kernel
theorem dX5_copy_185 : decode cX5_copy 185 = .ok (.aload_n 0, 1) := by decide +kernel
theorem dX5_copy_186 : decode cX5_copy 186 = .ok (.getfield 39, 3) := by decide +kernel
theorem dX5_copy_189 : decode cX5_copy 189 = .ok (.aload_n 1, 1) := by decide +kernel
theorem dX5_copy_190 : decode cX5_copy 190 = .ok (.getfield 39, 3) := by decide +kernel
theorem dX5_copy_193 : decode cX5_copy 193 = .ok (.invokevirtual 77, 3) := by decide +kernel
theorem dX5_copy_196 : decode cX5_copy 196 = .ok (.return_, 1) := by decide +kernel
theorem mokX5_copy : MOK yX5_copy cX5_copy 2 none 1 := ⟨w4_193, w1_4, ⟨by decide, by decide⟩, by decide +kernel, by decide⟩
abbrev miX5_copy : MI := (yX5_copy.cls, cX5_copy, 2, 2, false)
noncomputable def BX5_copy : Sm Unit := (dSeq (dIf (dNot (dNN (vR 1))) dRet0 dSkip) (dSeq (dP (fI 5 0) (vR 0) (dGI 5 0 (vR 1))) (dSeq (dP (fI 5 1) (vR 0) (dGI 5 1 (vR 1))) (dSeq (dP (fI 5 2) (vR 0) (dGI 5 2 (vR 1))) (dSeq (dP (fI 5 3) (vR 0) (dGI 5 3 (vR 1))) (dSeq (dP (fI 5 4) (vR 0) (dGI 5 4 (vR 1))) (dSeq (dP (fI 5 5) (vR 0) (dGI 5 5 (vR 1))) (dSeq (dP (fI 5 6) (vR 0) (dGI 5 6 (vR 1))) (dSeq (dP (fI 5 7) (vR 0) (dGI 5 7 (vR 1))) (dSeq (dCp 13 (aI (aI (aR (aI (aR aN 0 (dGR 5 8 (vR 1))) 1 (cI 0)) 2 (dGR 5 8 (vR 0))) 3 (cI 0)) 4 (cI 8))) (dSeq (dCp 13 (aI (aI (aR (aI (aR aN 0 (dGR 5 9 (vR 1))) 1 (cI 0)) 2 (dGR 5 9 (vR 0))) 3 (cI 0)) 4 (cI 12))) (dSeq (dCp 13 (aI (aI (aR (aI (aR aN 0 (dGR 5 10 (vR 1))) 1 (cI 0)) 2 (dGR 5 10 (vR 0))) 3 (cI 0)) 4 (cI 12))) (dSeq (dCp 13 (aI (aI (aR (aI (aR aN 0 (dGR 5 11 (vR 1))) 1 (cI 0)) 2 (dGR 5 11 (vR 0))) 3 (cI 0)) 4 (cI 5))) (dSeq (dCp 13 (aI (aI (aR (aI (aR aN 0 (dGR 5 12 (vR 1))) 1 (cI 0)) 2 (dGR 5 12 (vR 0))) 3 (cI 0)) 4 (cI 5))) (dSeq (dCp 13 (aI (aI (aR (aI (aR aN 0 (dGR 5 13 (vR 1))) 1 (cI 0)) 2 (dGR 5 13 (vR 0))) 3 (cI 0)) 4 (cI 3))) (dSeq (dCp 13 (aI (aI (aR (aI (aR aN 0 (dGR 5 14 (vR 1))) 1 (cI 0)) 2 (dGR 5 14 (vR 0))) 3 (cI 0)) 4 (cI 3))) (dSeq (dCp 13 (aI (aI (aR (aI (aR aN 0 (dGR 5 15 (vR 1))) 1 (cI 0)) 2 (dGR 5 15 (vR 0))) 3 (cI 0)) 4 (cI 18))) (dSeq (dDo (dCallV 1 DX1_copy (aR (aR aN 0 (dGR 5 16 (vR 0))) 1 (dGR 5 16 (vR 1))))) dRet0))))))))))))))))))
theorem sBX5_copy : SS (cvoV, .return_) miX5_copy [] [] [] [(0, 2), (1, 2)] [(0, 2), (1, 2)] 0 [] BX5_copy := (t_sq (p1 := 5) (Γ' := [(0, 2), (1, 2)]) (t_if (pT := 4) (pF := 5) (X := [5]) (XA := []) (XB := [5]) (c_not (pT := 4) (pF := 5) (c_nn_J (pT := 5) (s_aload_n dX5_copy_0 rfl rfl) dX5_copy_1 rfl)) (t_ret0 (fun _ _ => rfl) dX5_copy_4) (t_skip (ld_in rfl) rfl) lda_nil (lda_cons (ld_in rfl) lda_nil)) (t_sq (p1 := 13) (Γ' := [(0, 2), (1, 2)]) (t_pI ck5 0 (by decide) rfl (Or.inl rfl) (s_aload_n dX5_copy_5 rfl rfl) (s_getI ck5 0 (by decide) rfl (s_aload_n dX5_copy_6 rfl rfl) dX5_copy_7 w1_124) dX5_copy_10 w1_124 rfl) (t_sq (p1 := 21) (Γ' := [(0, 2), (1, 2)]) (t_pI ck5 1 (by decide) rfl (Or.inl rfl) (s_aload_n dX5_copy_13 rfl rfl) (s_getI ck5 1 (by decide) rfl (s_aload_n dX5_copy_14 rfl rfl) dX5_copy_15 w1_127) dX5_copy_18 w1_127 rfl) (t_sq (p1 := 29) (Γ' := [(0, 2), (1, 2)]) (t_pI ck5 2 (by decide) rfl (Or.inl rfl) (s_aload_n dX5_copy_21 rfl rfl) (s_getI ck5 2 (by decide) rfl (s_aload_n dX5_copy_22 rfl rfl) dX5_copy_23 w1_135) dX5_copy_26 w1_135 rfl) (t_sq (p1 := 37) (Γ' := [(0, 2), (1, 2)]) (t_pI ck5 3 (by decide) rfl (Or.inl rfl) (s_aload_n dX5_copy_29 rfl rfl) (s_getI ck5 3 (by decide) rfl (s_aload_n dX5_copy_30 rfl rfl) dX5_copy_31 w1_139) dX5_copy_34 w1_139 rfl) (t_sq (p1 := 45) (Γ' := [(0, 2), (1, 2)]) (t_pI ck5 4 (by decide) rfl (Or.inl rfl) (s_aload_n dX5_copy_37 rfl rfl) (s_getI ck5 4 (by decide) rfl (s_aload_n dX5_copy_38 rfl rfl) dX5_copy_39 w1_143) dX5_copy_42 w1_143 rfl) (t_sq (p1 := 53) (Γ' := [(0, 2), (1, 2)]) (t_pI ck5 5 (by decide) rfl (Or.inl rfl) (s_aload_n dX5_copy_45 rfl rfl) (s_getI ck5 5 (by decide) rfl (s_aload_n dX5_copy_46 rfl rfl) dX5_copy_47 w1_150) dX5_copy_50 w1_150 rfl) (t_sq (p1 := 61) (Γ' := [(0, 2), (1, 2)]) (t_pI ck5 6 (by decide) rfl (Or.inl rfl) (s_aload_n dX5_copy_53 rfl rfl) (s_getI ck5 6 (by decide) rfl (s_aload_n dX5_copy_54 rfl rfl) dX5_copy_55 w1_153) dX5_copy_58 w1_153 rfl) (t_sq (p1 := 69) (Γ' := [(0, 2), (1, 2)]) (t_pI ck5 7 (by decide) rfl (Or.inl rfl) (s_aload_n dX5_copy_61 rfl rfl) (s_getI ck5 7 (by decide) rfl (s_aload_n dX5_copy_62 rfl rfl) dX5_copy_63 w1_157) dX5_copy_66 w1_157 rfl) (t_sq (p1 := 84) (Γ' := [(0, 2), (1, 2)]) (t_cp (Or.inl rfl) (a_I (ts := [(0, 2), (1, 0), (2, 2), (3, 0)]) 4 (a_I (ts := [(0, 2), (1, 0), (2, 2)]) 3 (a_R (ts := [(0, 2), (1, 0)]) 2 (a_I (ts := [(0, 2)]) 1 (a_R (ts := []) 0 a_nil (s_getR ck5 8 (by decide) rfl (s_aload_n dX5_copy_69 rfl rfl) dX5_copy_70 w1_161) rfl) (s_iconst dX5_copy_73 rfl) rfl) (s_getR ck5 8 (by decide) rfl (s_aload_n dX5_copy_74 rfl rfl) dX5_copy_75 w1_161) rfl) (s_iconst dX5_copy_78 rfl) rfl) (s_bipush dX5_copy_79 rfl) rfl) rfl dX5_copy_81 w4_194 w3_86 w3_85 w1_18 rfl) (t_sq (p1 := 99) (Γ' := [(0, 2), (1, 2)]) (t_cp (Or.inl rfl) (a_I (ts := [(0, 2), (1, 0), (2, 2), (3, 0)]) 4 (a_I (ts := [(0, 2), (1, 0), (2, 2)]) 3 (a_R (ts := [(0, 2), (1, 0)]) 2 (a_I (ts := [(0, 2)]) 1 (a_R (ts := []) 0 a_nil (s_getR ck5 9 (by decide) rfl (s_aload_n dX5_copy_84 rfl rfl) dX5_copy_85 w1_163) rfl) (s_iconst dX5_copy_88 rfl) rfl) (s_getR ck5 9 (by decide) rfl (s_aload_n dX5_copy_89 rfl rfl) dX5_copy_90 w1_163) rfl) (s_iconst dX5_copy_93 rfl) rfl) (s_bipush dX5_copy_94 rfl) rfl) rfl dX5_copy_96 w4_194 w3_86 w3_85 w1_18 rfl) (t_sq (p1 := 114) (Γ' := [(0, 2), (1, 2)]) (t_cp (Or.inl rfl) (a_I (ts := [(0, 2), (1, 0), (2, 2), (3, 0)]) 4 (a_I (ts := [(0, 2), (1, 0), (2, 2)]) 3 (a_R (ts := [(0, 2), (1, 0)]) 2 (a_I (ts := [(0, 2)]) 1 (a_R (ts := []) 0 a_nil (s_getR ck5 10 (by decide) rfl (s_aload_n dX5_copy_99 rfl rfl) dX5_copy_100 w1_165) rfl) (s_iconst dX5_copy_103 rfl) rfl) (s_getR ck5 10 (by decide) rfl (s_aload_n dX5_copy_104 rfl rfl) dX5_copy_105 w1_165) rfl) (s_iconst dX5_copy_108 rfl) rfl) (s_bipush dX5_copy_109 rfl) rfl) rfl dX5_copy_111 w4_194 w3_86 w3_85 w1_18 rfl) (t_sq (p1 := 128) (Γ' := [(0, 2), (1, 2)]) (t_cp (Or.inl rfl) (a_I (ts := [(0, 2), (1, 0), (2, 2), (3, 0)]) 4 (a_I (ts := [(0, 2), (1, 0), (2, 2)]) 3 (a_R (ts := [(0, 2), (1, 0)]) 2 (a_I (ts := [(0, 2)]) 1 (a_R (ts := []) 0 a_nil (s_getR ck5 11 (by decide) rfl (s_aload_n dX5_copy_114 rfl rfl) dX5_copy_115 w1_167) rfl) (s_iconst dX5_copy_118 rfl) rfl) (s_getR ck5 11 (by decide) rfl (s_aload_n dX5_copy_119 rfl rfl) dX5_copy_120 w1_167) rfl) (s_iconst dX5_copy_123 rfl) rfl) (s_iconst dX5_copy_124 rfl) rfl) rfl dX5_copy_125 w4_194 w3_86 w3_85 w1_18 rfl) (t_sq (p1 := 142) (Γ' := [(0, 2), (1, 2)]) (t_cp (Or.inl rfl) (a_I (ts := [(0, 2), (1, 0), (2, 2), (3, 0)]) 4 (a_I (ts := [(0, 2), (1, 0), (2, 2)]) 3 (a_R (ts := [(0, 2), (1, 0)]) 2 (a_I (ts := [(0, 2)]) 1 (a_R (ts := []) 0 a_nil (s_getR ck5 12 (by decide) rfl (s_aload_n dX5_copy_128 rfl rfl) dX5_copy_129 w1_170) rfl) (s_iconst dX5_copy_132 rfl) rfl) (s_getR ck5 12 (by decide) rfl (s_aload_n dX5_copy_133 rfl rfl) dX5_copy_134 w1_170) rfl) (s_iconst dX5_copy_137 rfl) rfl) (s_iconst dX5_copy_138 rfl) rfl) rfl dX5_copy_139 w4_194 w3_86 w3_85 w1_18 rfl) (t_sq (p1 := 156) (Γ' := [(0, 2), (1, 2)]) (t_cp (Or.inl rfl) (a_I (ts := [(0, 2), (1, 0), (2, 2), (3, 0)]) 4 (a_I (ts := [(0, 2), (1, 0), (2, 2)]) 3 (a_R (ts := [(0, 2), (1, 0)]) 2 (a_I (ts := [(0, 2)]) 1 (a_R (ts := []) 0 a_nil (s_getR ck5 13 (by decide) rfl (s_aload_n dX5_copy_142 rfl rfl) dX5_copy_143 w1_174) rfl) (s_iconst dX5_copy_146 rfl) rfl) (s_getR ck5 13 (by decide) rfl (s_aload_n dX5_copy_147 rfl rfl) dX5_copy_148 w1_174) rfl) (s_iconst dX5_copy_151 rfl) rfl) (s_iconst dX5_copy_152 rfl) rfl) rfl dX5_copy_153 w4_194 w3_86 w3_85 w1_18 rfl) (t_sq (p1 := 170) (Γ' := [(0, 2), (1, 2)]) (t_cp (Or.inl rfl) (a_I (ts := [(0, 2), (1, 0), (2, 2), (3, 0)]) 4 (a_I (ts := [(0, 2), (1, 0), (2, 2)]) 3 (a_R (ts := [(0, 2), (1, 0)]) 2 (a_I (ts := [(0, 2)]) 1 (a_R (ts := []) 0 a_nil (s_getR ck5 14 (by decide) rfl (s_aload_n dX5_copy_156 rfl rfl) dX5_copy_157 w1_178) rfl) (s_iconst dX5_copy_160 rfl) rfl) (s_getR ck5 14 (by decide) rfl (s_aload_n dX5_copy_161 rfl rfl) dX5_copy_162 w1_178) rfl) (s_iconst dX5_copy_165 rfl) rfl) (s_iconst dX5_copy_166 rfl) rfl) rfl dX5_copy_167 w4_194 w3_86 w3_85 w1_18 rfl) (t_sq (p1 := 185) (Γ' := [(0, 2), (1, 2)]) (t_cp (Or.inl rfl) (a_I (ts := [(0, 2), (1, 0), (2, 2), (3, 0)]) 4 (a_I (ts := [(0, 2), (1, 0), (2, 2)]) 3 (a_R (ts := [(0, 2), (1, 0)]) 2 (a_I (ts := [(0, 2)]) 1 (a_R (ts := []) 0 a_nil (s_getR ck5 15 (by decide) rfl (s_aload_n dX5_copy_170 rfl rfl) dX5_copy_171 w1_180) rfl) (s_iconst dX5_copy_174 rfl) rfl) (s_getR ck5 15 (by decide) rfl (s_aload_n dX5_copy_175 rfl rfl) dX5_copy_176 w1_180) rfl) (s_iconst dX5_copy_179 rfl) rfl) (s_bipush dX5_copy_180 rfl) rfl) rfl dX5_copy_182 w4_194 w3_86 w3_85 w1_18 rfl) (t_sq (p1 := 196) (Γ' := [(0, 2), (1, 2)]) (t_do (x_callV (ts := [(0, 2), (1, 2)]) ck1 rfl kX1_copy mokX1_copy w4_196 w4_197 rfl rfl rfl rfl (a_R (ts := [(0, 2)]) 1 (a_R (ts := []) 0 a_nil (s_getR ck5 16 (by decide) rfl (s_aload_n dX5_copy_185 rfl rfl) dX5_copy_186 w1_182) rfl) (s_getR ck5 16 (by decide) rfl (s_aload_n dX5_copy_189 rfl rfl) dX5_copy_190 w1_182) rfl) dX5_copy_193 w4_195) rfl) (t_ret0 (fun _ _ => rfl) dX5_copy_196)))))))))))))))))))
noncomputable def DX5_copy : Fr → St → Option (Unit × St) := M1 (fun f => (sR (sR fr0 0 (gR f 0)) 1 (gR f 1))) BX5_copy
theorem kX5_copy : SND yX5_copy cX5_copy 2 none 2 [(0, 2), (1, 2)] cvoV DX5_copy := snd_V (nw := 2) (by decide) (fun z => by cases z) rfl rfl (fun _ _ => rfl) sBX5_copy
theorem dX1_clear_0 : decode cX1_clear 0 = .ok (.aload_n 0, 1) := by decide +kernel
theorem dX1_clear_1 : decode cX1_clear 1 = .ok (.iconst 0, 1) := by decide +kernel
theorem dX1_clear_2 : decode cX1_clear 2 = .ok (.putfield 30, 3) := by decide +kernel
theorem dX1_clear_5 : decode cX1_clear 5 = .ok (.aload_n 0, 1) := by decide +kernel
theorem dX1_clear_6 : decode cX1_clear 6 = .ok (.iconst 0, 1) := by decide +kernel
theorem dX1_clear_7 : decode cX1_clear 7 = .ok (.putfield 34, 3) := by decide +kernel
theorem dX1_clear_10 : decode cX1_clear 10 = .ok (.aload_n 0, 1) := by decide +kernel
theorem dX1_clear_11 : decode cX1_clear 11 = .ok (.iconst 0, 1) := by decide +kernel
theorem dX1_clear_12 : decode cX1_clear 12 = .ok (.putfield 37, 3) := by decide +kernel
theorem dX1_clear_15 : decode cX1_clear 15 = .ok (.return_, 1) := by decide +kernel
theorem mokX1_clear : MOK yX1_clear cX1_clear 1 none 0 := ⟨w5_101, w1_5, ⟨by decide, by decide⟩, by decide +kernel, by decide⟩
abbrev miX1_clear : MI := (yX1_clear.cls, cX1_clear, 1, 1, false)
noncomputable def BX1_clear : Sm Unit := (dSeq (dP (fI 1 0) (vR 0) (cI 0)) (dSeq (dP (fI 1 1) (vR 0) (cI 0)) (dSeq (dP (fI 1 2) (vR 0) (cI 0)) dRet0)))
theorem sBX1_clear : SS (cvoV, .return_) miX1_clear [] [] [] [(0, 2)] [(0, 2)] 0 [] BX1_clear := (t_sq (p1 := 5) (Γ' := [(0, 2)]) (t_pI ck1 0 (by decide) rfl (Or.inl rfl) (s_aload_n dX1_clear_0 rfl rfl) (s_iconst dX1_clear_1 rfl) dX1_clear_2 w1_84 rfl) (t_sq (p1 := 10) (Γ' := [(0, 2)]) (t_pI ck1 1 (by decide) rfl (Or.inl rfl) (s_aload_n dX1_clear_5 rfl rfl) (s_iconst dX1_clear_6 rfl) dX1_clear_7 w1_87 rfl) (t_sq (p1 := 15) (Γ' := [(0, 2)]) (t_pI ck1 2 (by decide) rfl (Or.inl rfl) (s_aload_n dX1_clear_10 rfl rfl) (s_iconst dX1_clear_11 rfl) dX1_clear_12 w1_92 rfl) (t_ret0 (fun _ _ => rfl) dX1_clear_15))))
noncomputable def DX1_clear : Fr → St → Option (Unit × St) := M1 (fun f => (sR fr0 0 (gR f 0))) BX1_clear
theorem kX1_clear : SND yX1_clear cX1_clear 1 none 1 [(0, 2)] cvoV DX1_clear := snd_V (nw := 1) (by decide) (fun z => by cases z) rfl rfl (fun _ _ => rfl) sBX1_clear
theorem dX5_clear_0 : decode cX5_clear 0 = .ok (.aload_n 0, 1) := by decide +kernel
theorem dX5_clear_1 : decode cX5_clear 1 = .ok (.iconst 0, 1) := by decide +kernel
theorem dX5_clear_2 : decode cX5_clear 2 = .ok (.putfield 43, 3) := by decide +kernel
theorem dX5_clear_5 : decode cX5_clear 5 = .ok (.aload_n 0, 1) := by decide +kernel
theorem dX5_clear_6 : decode cX5_clear 6 = .ok (.iconst 0, 1) := by decide +kernel
theorem dX5_clear_7 : decode cX5_clear 7 = .ok (.putfield 47, 3) := by decide +kernel
theorem dX5_clear_10 : decode cX5_clear 10 = .ok (.aload_n 0, 1) := by decide +kernel
theorem dX5_clear_11 : decode cX5_clear 11 = .ok (.iconst 0, 1) := by decide +kernel
theorem dX5_clear_12 : decode cX5_clear 12 = .ok (.putfield 50, 3) := by decide +kernel
theorem dX5_clear_15 : decode cX5_clear 15 = .ok (.aload_n 0, 1) := by decide +kernel
theorem dX5_clear_16 : decode cX5_clear 16 = .ok (.iconst 0, 1) := by decide +kernel
theorem dX5_clear_17 : decode cX5_clear 17 = .ok (.putfield 53, 3) := by decide +kernel
theorem dX5_clear_20 : decode cX5_clear 20 = .ok (.aload_n 0, 1) := by decide +kernel
theorem dX5_clear_21 : decode cX5_clear 21 = .ok (.iconst 0, 1) := by decide +kernel
theorem dX5_clear_22 : decode cX5_clear 22 = .ok (.putfield 56, 3) := by decide +kernel
theorem dX5_clear_25 : decode cX5_clear 25 = .ok (.aload_n 0, 1) := by decide +kernel
theorem dX5_clear_26 : decode cX5_clear 26 = .ok (.iconst 0, 1) := by decide +kernel
theorem dX5_clear_27 : decode cX5_clear 27 = .ok (.putfield 59, 3) := by decide +kernel
theorem dX5_clear_30 : decode cX5_clear 30 = .ok (.aload_n 0, 1) := by decide +kernel
theorem dX5_clear_31 : decode cX5_clear 31 = .ok (.iconst 0, 1) := by decide +kernel
theorem dX5_clear_32 : decode cX5_clear 32 = .ok (.putfield 62, 3) := by decide +kernel
theorem dX5_clear_35 : decode cX5_clear 35 = .ok (.aload_n 0, 1) := by decide +kernel
theorem dX5_clear_36 : decode cX5_clear 36 = .ok (.iconst 0, 1) := by decide +kernel
theorem dX5_clear_37 : decode cX5_clear 37 = .ok (.putfield 65, 3) := by decide +kernel
theorem dX5_clear_40 : decode cX5_clear 40 = .ok (.aload_n 0, 1) := by decide +kernel
theorem dX5_clear_41 : decode cX5_clear 41 = .ok (.getfield 39, 3) := by decide +kernel
theorem dX5_clear_44 : decode cX5_clear 44 = .ok (.invokevirtual 68, 3) := by decide +kernel
theorem dX5_clear_47 : decode cX5_clear 47 = .ok (.return_, 1) := by decide +kernel
theorem mokX5_clear : MOK yX5_clear cX5_clear 1 none 0 := ⟨w5_97, w1_4, ⟨by decide, by decide⟩, by decide +kernel, by decide⟩
abbrev miX5_clear : MI := (yX5_clear.cls, cX5_clear, 1, 2, false)
noncomputable def BX5_clear : Sm Unit := (dSeq (dP (fI 5 0) (vR 0) (cI 0)) (dSeq (dP (fI 5 1) (vR 0) (cI 0)) (dSeq (dP (fI 5 2) (vR 0) (cI 0)) (dSeq (dP (fI 5 3) (vR 0) (cI 0)) (dSeq (dP (fI 5 4) (vR 0) (cI 0)) (dSeq (dP (fI 5 5) (vR 0) (cI 0)) (dSeq (dP (fI 5 6) (vR 0) (cI 0)) (dSeq (dP (fI 5 7) (vR 0) (cI 0)) (dSeq (dDo (dCallV 1 DX1_clear (aR aN 0 (dGR 5 16 (vR 0))))) dRet0)))))))))
theorem sBX5_clear : SS (cvoV, .return_) miX5_clear [] [] [] [(0, 2)] [(0, 2)] 0 [] BX5_clear := (t_sq (p1 := 5) (Γ' := [(0, 2)]) (t_pI ck5 0 (by decide) rfl (Or.inl rfl) (s_aload_n dX5_clear_0 rfl rfl) (s_iconst dX5_clear_1 rfl) dX5_clear_2 w1_124 rfl) (t_sq (p1 := 10) (Γ' := [(0, 2)]) (t_pI ck5 1 (by decide) rfl (Or.inl rfl) (s_aload_n dX5_clear_5 rfl rfl) (s_iconst dX5_clear_6 rfl) dX5_clear_7 w1_127 rfl) (t_sq (p1 := 15) (Γ' := [(0, 2)]) (t_pI ck5 2 (by decide) rfl (Or.inl rfl) (s_aload_n dX5_clear_10 rfl rfl) (s_iconst dX5_clear_11 rfl) dX5_clear_12 w1_135 rfl) (t_sq (p1 := 20) (Γ' := [(0, 2)]) (t_pI ck5 3 (by decide) rfl (Or.inl rfl) (s_aload_n dX5_clear_15 rfl rfl) (s_iconst dX5_clear_16 rfl) dX5_clear_17 w1_139 rfl) (t_sq (p1 := 25) (Γ' := [(0, 2)]) (t_pI ck5 4 (by decide) rfl (Or.inl rfl) (s_aload_n dX5_clear_20 rfl rfl) (s_iconst dX5_clear_21 rfl) dX5_clear_22 w1_143 rfl) (t_sq (p1 := 30) (Γ' := [(0, 2)]) (t_pI ck5 5 (by decide) rfl (Or.inl rfl) (s_aload_n dX5_clear_25 rfl rfl) (s_iconst dX5_clear_26 rfl) dX5_clear_27 w1_150 rfl) (t_sq (p1 := 35) (Γ' := [(0, 2)]) (t_pI ck5 6 (by decide) rfl (Or.inl rfl) (s_aload_n dX5_clear_30 rfl rfl) (s_iconst dX5_clear_31 rfl) dX5_clear_32 w1_153 rfl) (t_sq (p1 := 40) (Γ' := [(0, 2)]) (t_pI ck5 7 (by decide) rfl (Or.inl rfl) (s_aload_n dX5_clear_35 rfl rfl) (s_iconst dX5_clear_36 rfl) dX5_clear_37 w1_157 rfl) (t_sq (p1 := 47) (Γ' := [(0, 2)]) (t_do (x_callV (ts := [(0, 2)]) ck1 rfl kX1_clear mokX1_clear w5_99 w5_100 rfl rfl rfl rfl (a_R (ts := []) 0 a_nil (s_getR ck5 16 (by decide) rfl (s_aload_n dX5_clear_40 rfl rfl) dX5_clear_41 w1_182) rfl) dX5_clear_44 w5_98) rfl) (t_ret0 (fun _ _ => rfl) dX5_clear_47))))))))))
noncomputable def DX5_clear : Fr → St → Option (Unit × St) := M1 (fun f => (sR fr0 0 (gR f 0))) BX5_clear
theorem kX5_clear : SND yX5_clear cX5_clear 1 none 2 [(0, 2)] cvoV DX5_clear := snd_V (nw := 1) (by decide) (fun z => by cases z) rfl rfl (fun _ _ => rfl) sBX5_clear
theorem dX6_fail_0 : decode cX6_fail 0 = .ok (.aload_n 0, 1) := by decide +kernel
theorem dX6_fail_1 : decode cX6_fail 1 = .ok (.getfield 15, 3) := by decide +kernel
theorem dX6_fail_4 : decode cX6_fail 4 = .ok (.ifCond .ne 16, 3) := by decide +kernel
theorem dX6_fail_7 : decode cX6_fail 7 = .ok (.aload_n 0, 1) := by decide +kernel
theorem dX6_fail_8 : decode cX6_fail 8 = .ok (.iload_n 2, 1) := by decide +kernel
theorem dX6_fail_9 : decode cX6_fail 9 = .ok (.putfield 15, 3) := by decide +kernel
theorem dX6_fail_12 : decode cX6_fail 12 = .ok (.aload_n 0, 1) := by decide +kernel
theorem dX6_fail_13 : decode cX6_fail 13 = .ok (.aload_n 1, 1) := by decide +kernel
theorem dX6_fail_14 : decode cX6_fail 14 = .ok (.getfield 179, 3) := by decide +kernel
theorem dX6_fail_17 : decode cX6_fail 17 = .ok (.putfield 9, 3) := by decide +kernel
theorem dX6_fail_20 : decode cX6_fail 20 = .ok (.iconst 0, 1) := by decide +kernel
theorem dX6_fail_21 : decode cX6_fail 21 = .ok (.ireturn, 1) := by decide +kernel
theorem mokX6_fail : MOK yX6_fail cX6_fail 3 (some .boolean) 2 := ⟨w5_191, w1_3, ⟨by decide, by decide⟩, by decide +kernel, by decide⟩
abbrev miX6_fail : MI := (yX6_fail.cls, cX6_fail, 3, 1, false)
noncomputable def BX6_fail : Sm Int32 := (dSeq (dIf (dCZ q_eq (dGI 6 0 (vR 0))) (dSeq (dP (fI 6 0) (vR 0) (vI 2)) (dP (fI 6 1) (vR 0) (dGI 9 3 (vR 1)))) dSkip) (dRet (cI 0)))
theorem sBX6_fail : SS (cvoI, .ireturn) miX6_fail [] [] [] [(0, 2), (1, 2), (2, 0)] [(0, 2), (1, 2), (2, 0)] 0 [] BX6_fail := (t_sq (p1 := 20) (Γ' := [(0, 2), (1, 2), (2, 0)]) (t_if (pT := 7) (pF := 20) (X := [20]) (XA := [20]) (XB := [20]) (c_eq_ZF (pF := 20) (s_getI ck6 0 (by decide) rfl (s_aload_n dX6_fail_0 rfl rfl) dX6_fail_1 w1_65) dX6_fail_4 rfl) (t_sq (p1 := 12) (Γ' := [(0, 2), (1, 2), (2, 0)]) (t_pI ck6 0 (by decide) rfl (Or.inl rfl) (s_aload_n dX6_fail_7 rfl rfl) (s_iload_n dX6_fail_8 rfl rfl) dX6_fail_9 w1_65 rfl) (t_pI ck6 1 (by decide) rfl (Or.inl rfl) (s_aload_n dX6_fail_12 rfl rfl) (s_getI ck9 3 (by decide) rfl (s_aload_n dX6_fail_13 rfl rfl) dX6_fail_14 w1_41) dX6_fail_17 w1_66 rfl)) (t_skip (ld_in rfl) rfl) (lda_cons (ld_in rfl) lda_nil) (lda_cons (ld_in rfl) lda_nil)) (t_ret (cv := cvI) (fun _ _ => rfl) (s_iconst dX6_fail_20 rfl) dX6_fail_21))
noncomputable def DX6_fail : Fr → St → Option (Int32 × St) := MZ (fun f => (sI (sR (sR fr0 0 (gR f 0)) 1 (gR f 1)) 2 (gI f 2))) BX6_fail
theorem kX6_fail : SND yX6_fail cX6_fail 3 (some .boolean) 1 [(0, 2), (1, 2), (2, 0)] cvoI DX6_fail := snd_Z (nw := 3) (by decide) rfl rfl (fun _ _ => rfl) sBX6_fail
theorem dX6_hasRoom_0 : decode cX6_hasRoom 0 = .ok (.iload_n 2, 1) := by decide +kernel
theorem dX6_hasRoom_1 : decode cX6_hasRoom 1 = .ok (.iload_n 3, 1) := by decide +kernel
theorem dX6_hasRoom_2 : decode cX6_hasRoom 2 = .ok (.if_icmp .lt 12, 3) := by decide +kernel
theorem dX6_hasRoom_5 : decode cX6_hasRoom 5 = .ok (.aload_n 0, 1) := by decide +kernel
theorem dX6_hasRoom_6 : decode cX6_hasRoom 6 = .ok (.aload_n 1, 1) := by decide +kernel
theorem dX6_hasRoom_7 : decode cX6_hasRoom 7 = .ok (.iconst 3, 1) := by decide +kernel
theorem dX6_hasRoom_8 : decode cX6_hasRoom 8 = .ok (.invokevirtual 105, 3) := by decide +kernel
theorem dX6_hasRoom_11 : decode cX6_hasRoom 11 = .ok (.ifCond .eq 7, 3) := by decide +kernel
theorem dX6_hasRoom_14 : decode cX6_hasRoom 14 = .ok (.iconst 1, 1) := by decide +kernel
theorem dX6_hasRoom_15 : decode cX6_hasRoom 15 = .ok (.goto 4, 3) := by decide +kernel
theorem dX6_hasRoom_18 : decode cX6_hasRoom 18 = .ok (.iconst 0, 1) := by decide +kernel
theorem dX6_hasRoom_19 : decode cX6_hasRoom 19 = .ok (.ireturn, 1) := by decide +kernel
theorem mokX6_hasRoom : MOK yX6_hasRoom cX6_hasRoom 4 (some .boolean) 3 := ⟨w5_207, w1_3, ⟨by decide, by decide⟩, by decide +kernel, by decide⟩
abbrev miX6_hasRoom : MI := (yX6_hasRoom.cls, cX6_hasRoom, 4, 2, false)
noncomputable def BX6_hasRoom : Sm Int32 := (dRet (dB (dOr (dCI r_lt (vI 2) (vI 3)) (dCZ q_ne (dCallV 6 DX6_fail (aI (aR (aR aN 0 (vR 0)) 1 (vR 1)) 2 (cI 3)))))))
theorem sBX6_hasRoom : SS (cvoI, .ireturn) miX6_hasRoom [] [] [] [(0, 2), (1, 2), (2, 0), (3, 0)] [(0, 2), (1, 2), (2, 0), (3, 0)] 0 [] BX6_hasRoom := (t_ret (cv := cvI) (fun _ _ => rfl) (s_B (pT := 14) (pF := 18) (pe := 19) (c_or (p1 := 5) (pT := 14) (pF := 18) (c_lt_J (pT := 14) (s_iload_n dX6_hasRoom_0 rfl rfl) (s_iload_n dX6_hasRoom_1 rfl rfl) dX6_hasRoom_2 rfl) (c_ne_ZF (pF := 18) (s_of_xI (x_callV (ts := [(0, 2), (1, 2), (2, 0)]) ck6 rfl kX6_fail mokX6_fail w5_190 ps2_7 rfl rfl rfl rfl (a_I (ts := [(0, 2), (1, 2)]) 2 (a_R (ts := [(0, 2)]) 1 (a_R (ts := []) 0 a_nil (s_aload_n dX6_hasRoom_5 rfl rfl) rfl) (s_aload_n dX6_hasRoom_6 rfl rfl) rfl) (s_iconst dX6_hasRoom_7 rfl) rfl) dX6_hasRoom_8 w5_188)) dX6_hasRoom_11 rfl)) dX6_hasRoom_14 dX6_hasRoom_15 rfl dX6_hasRoom_18 rfl) dX6_hasRoom_19)
noncomputable def DX6_hasRoom : Fr → St → Option (Int32 × St) := MZ (fun f => (sI (sI (sR (sR fr0 0 (gR f 0)) 1 (gR f 1)) 2 (gI f 2)) 3 (gI f 3))) BX6_hasRoom
theorem kX6_hasRoom : SND yX6_hasRoom cX6_hasRoom 4 (some .boolean) 2 [(0, 2), (1, 2), (2, 0), (3, 0)] cvoI DX6_hasRoom := snd_Z (nw := 4) (by decide) rfl rfl (fun _ _ => rfl) sBX6_hasRoom
theorem dX11_put_0 : decode cX11_put 0 = .ok (.aload_n 0, 1) := by decide +kernel
theorem dX11_put_1 : decode cX11_put 1 = .ok (.ifnull 17, 3) := by decide +kernel
theorem dX11_put_4 : decode cX11_put 4 = .ok (.iload_n 1, 1) := by decide +kernel
theorem dX11_put_5 : decode cX11_put 5 = .ok (.ifCond .lt 13, 3) := by decide +kernel
theorem dX11_put_8 : decode cX11_put 8 = .ok (.iload_n 1, 1) := by decide +kernel
theorem dX11_put_9 : decode cX11_put 9 = .ok (.aload_n 0, 1) := by decide +kernel
theorem dX11_put_10 : decode cX11_put 10 = .ok (.arraylength, 1) := by decide +kernel
theorem dX11_put_11 : decode cX11_put 11 = .ok (.if_icmp .ge 7, 3) := by decide +kernel
theorem dX11_put_14 : decode cX11_put 14 = .ok (.aload_n 0, 1) := by decide +kernel
theorem dX11_put_15 : decode cX11_put 15 = .ok (.iload_n 1, 1) := by decide +kernel
theorem dX11_put_16 : decode cX11_put 16 = .ok (.iload_n 2, 1) := by decide +kernel
theorem dX11_put_17 : decode cX11_put 17 = .ok (.iastore, 1) := by decide +kernel
theorem dX11_put_18 : decode cX11_put 18 = .ok (.return_, 1) := by decide +kernel
theorem mokX11_put : MOK yX11_put cX11_put 3 none 3 := ⟨w3_66, w1_1, ⟨by decide, by decide⟩, by decide +kernel, by decide⟩
abbrev miX11_put : MI := (yX11_put.cls, cX11_put, 3, 1, false)
noncomputable def BX11_put : Sm Unit := (dSeq (dIf (dAnd (dAnd (dNN (vR 0)) (dCZ q_ge (vI 1))) (dCI r_lt (vI 1) (dLen (vR 0)))) (d3 (stI 13 idI) (vR 0) (vI 1) (vI 2)) dSkip) dRet0)
theorem sBX11_put : SS (cvoV, .return_) miX11_put [] [] [] [(0, 2), (1, 0), (2, 0)] [(0, 2), (1, 0), (2, 0)] 0 [] BX11_put := (t_sq (p1 := 18) (Γ' := [(0, 2), (1, 0), (2, 0)]) (t_if (pT := 14) (pF := 18) (X := [18]) (XA := [18]) (XB := [18]) (c_and (p1 := 8) (pT := 14) (pF := 18) (c_and (p1 := 4) (pT := 8) (pF := 18) (c_nn_F (pF := 18) (s_aload_n dX11_put_0 rfl rfl) dX11_put_1 rfl) (c_ge_ZF (pF := 18) (s_iload_n dX11_put_4 rfl rfl) dX11_put_5 rfl)) (c_lt_F (pF := 18) (s_iload_n dX11_put_8 rfl rfl) (s_len (s_aload_n dX11_put_9 rfl rfl) dX11_put_10) dX11_put_11 rfl)) (t_stI (s_aload_n dX11_put_14 rfl rfl) (s_iload_n dX11_put_15 rfl rfl) (s_iload_n dX11_put_16 rfl rfl) dX11_put_17 rfl) (t_skip (ld_in rfl) rfl) (lda_cons (ld_in rfl) lda_nil) (lda_cons (ld_in rfl) lda_nil)) (t_ret0 (fun _ _ => rfl) dX11_put_18))
noncomputable def DX11_put : Fr → St → Option (Unit × St) := M1 (fun f => (sI (sI (sR fr0 0 (gR f 0)) 1 (gI f 1)) 2 (gI f 2))) BX11_put
theorem kX11_put : SND yX11_put cX11_put 3 none 1 [(0, 2), (1, 0), (2, 0)] cvoV DX11_put := snd_V (nw := 3) (by decide) (fun z => by cases z) rfl rfl (fun _ _ => rfl) sBX11_put
theorem dX9_byteAt_0 : decode cX9_byteAt 0 = .ok (.iload_n 1, 1) := by decide +kernel
theorem dX9_byteAt_1 : decode cX9_byteAt 1 = .ok (.ifCond .lt 29, 3) := by decide +kernel
theorem dX9_byteAt_4 : decode cX9_byteAt 4 = .ok (.iload_n 1, 1) := by decide +kernel
theorem dX9_byteAt_5 : decode cX9_byteAt 5 = .ok (.aload_n 0, 1) := by decide +kernel
theorem dX9_byteAt_6 : decode cX9_byteAt 6 = .ok (.getfield 15, 3) := by decide +kernel
theorem dX9_byteAt_9 : decode cX9_byteAt 9 = .ok (.if_icmp .ge 21, 3) := by decide +kernel
theorem dX9_byteAt_12 : decode cX9_byteAt 12 = .ok (.iload_n 1, 1) := by decide +kernel
theorem dX9_byteAt_13 : decode cX9_byteAt 13 = .ok (.aload_n 0, 1) := by decide +kernel
theorem dX9_byteAt_14 : decode cX9_byteAt 14 = .ok (.getfield 9, 3) := by decide +kernel
theorem dX9_byteAt_17 : decode cX9_byteAt 17 = .ok (.arraylength, 1) := by decide +kernel
theorem dX9_byteAt_18 : decode cX9_byteAt 18 = .ok (.if_icmp .ge 12, 3) := by decide +kernel
theorem dX9_byteAt_21 : decode cX9_byteAt 21 = .ok (.aload_n 0, 1) := by decide +kernel
theorem dX9_byteAt_22 : decode cX9_byteAt 22 = .ok (.getfield 9, 3) := by decide +kernel
theorem dX9_byteAt_25 : decode cX9_byteAt 25 = .ok (.iload_n 1, 1) := by decide +kernel
theorem dX9_byteAt_26 : decode cX9_byteAt 26 = .ok (.baload, 1) := by decide +kernel
theorem dX9_byteAt_27 : decode cX9_byteAt 27 = .ok (.goto 4, 3) := by decide +kernel
theorem dX9_byteAt_30 : decode cX9_byteAt 30 = .ok (.iconst 0, 1) := by decide +kernel
theorem dX9_byteAt_31 : decode cX9_byteAt 31 = .ok (.ireturn, 1) := by decide +kernel
theorem mokX9_byteAt : MOK yX9_byteAt cX9_byteAt 2 (some .int) 1 := ⟨w5_113, w1_2, ⟨by decide, by decide⟩, by decide +kernel, by decide⟩
abbrev miX9_byteAt : MI := (yX9_byteAt.cls, cX9_byteAt, 2, 1, false)
noncomputable def BX9_byteAt : Sm Int32 := (dRet (dT (dAnd (dAnd (dCZ q_ge (vI 1)) (dCI r_lt (vI 1) (dGI 9 1 (vR 0)))) (dCI r_lt (vI 1) (dLen (dGR 9 0 (vR 0))))) (dAB (dGR 9 0 (vR 0)) (vI 1)) (cI 0)))
theorem sBX9_byteAt : SS (cvoI, .ireturn) miX9_byteAt [] [] [] [(0, 2), (1, 0)] [(0, 2), (1, 0)] 0 [] BX9_byteAt := (t_ret (cv := cvI) (fun _ _ => rfl) (s_T (pT := 21) (pF := 30) (p1 := 27) (pe := 31) (c_and (p1 := 12) (pT := 21) (pF := 30) (c_and (p1 := 4) (pT := 12) (pF := 30) (c_ge_ZF (pF := 30) (s_iload_n dX9_byteAt_0 rfl rfl) dX9_byteAt_1 rfl) (c_lt_F (pF := 30) (s_iload_n dX9_byteAt_4 rfl rfl) (s_getI ck9 1 (by decide) rfl (s_aload_n dX9_byteAt_5 rfl rfl) dX9_byteAt_6 w1_37) dX9_byteAt_9 rfl)) (c_lt_F (pF := 30) (s_iload_n dX9_byteAt_12 rfl rfl) (s_len (s_getR ck9 0 (by decide) rfl (s_aload_n dX9_byteAt_13 rfl rfl) dX9_byteAt_14 w1_35) dX9_byteAt_17) dX9_byteAt_18 rfl)) (s_dAB (s_getR ck9 0 (by decide) rfl (s_aload_n dX9_byteAt_21 rfl rfl) dX9_byteAt_22 w1_35) (s_iload_n dX9_byteAt_25 rfl rfl) dX9_byteAt_26) (s_iconst dX9_byteAt_30 rfl) (ld_goto (y := 31) dX9_byteAt_27 rfl (ld_in rfl))) dX9_byteAt_31)
noncomputable def DX9_byteAt : Fr → St → Option (Int32 × St) := M1 (fun f => (sI (sR fr0 0 (gR f 0)) 1 (gI f 1))) BX9_byteAt
theorem kX9_byteAt : SND yX9_byteAt cX9_byteAt 2 (some .int) 1 [(0, 2), (1, 0)] cvoI DX9_byteAt := snd_I (nw := 2) (by decide) rfl rfl (fun _ _ => rfl) sBX9_byteAt
theorem dX9_isBlank_0 : decode cX9_isBlank 0 = .ok (.iload_n 0, 1) := by decide +kernel
theorem dX9_isBlank_1 : decode cX9_isBlank 1 = .ok (.bipush 32, 2) := by decide +kernel
theorem dX9_isBlank_3 : decode cX9_isBlank 3 = .ok (.if_icmp .eq 9, 3) := by decide +kernel
theorem dX9_isBlank_6 : decode cX9_isBlank 6 = .ok (.iload_n 0, 1) := by decide +kernel
theorem dX9_isBlank_7 : decode cX9_isBlank 7 = .ok (.bipush 10, 2) := by decide +kernel
theorem dX9_isBlank_9 : decode cX9_isBlank 9 = .ok (.if_icmp .ne 7, 3) := by decide +kernel
theorem dX9_isBlank_12 : decode cX9_isBlank 12 = .ok (.iconst 1, 1) := by decide +kernel
theorem dX9_isBlank_13 : decode cX9_isBlank 13 = .ok (.goto 4, 3) := by decide +kernel
theorem dX9_isBlank_16 : decode cX9_isBlank 16 = .ok (.iconst 0, 1) := by decide +kernel
theorem dX9_isBlank_17 : decode cX9_isBlank 17 = .ok (.ireturn, 1) := by decide +kernel
theorem mokX9_isBlank : MOK yX9_isBlank cX9_isBlank 1 (some .boolean) 1 := ⟨w5_116, w1_2, ⟨by decide, by decide⟩, by decide +kernel, by decide⟩
abbrev miX9_isBlank : MI := (yX9_isBlank.cls, cX9_isBlank, 1, 1, false)
noncomputable def BX9_isBlank : Sm Int32 := (dRet (dB (dOr (dCI r_eq (vI 0) (cI 32)) (dCI r_eq (vI 0) (cI 10)))))
theorem sBX9_isBlank : SS (cvoI, .ireturn) miX9_isBlank [] [] [] [(0, 0)] [(0, 0)] 0 [] BX9_isBlank := (t_ret (cv := cvI) (fun _ _ => rfl) (s_B (pT := 12) (pF := 16) (pe := 17) (c_or (p1 := 6) (pT := 12) (pF := 16) (c_eq_J (pT := 12) (s_iload_n dX9_isBlank_0 rfl rfl) (s_bipush dX9_isBlank_1 rfl) dX9_isBlank_3 rfl) (c_eq_F (pF := 16) (s_iload_n dX9_isBlank_6 rfl rfl) (s_bipush dX9_isBlank_7 rfl) dX9_isBlank_9 rfl)) dX9_isBlank_12 dX9_isBlank_13 rfl dX9_isBlank_16 rfl) dX9_isBlank_17)
noncomputable def DX9_isBlank : Fr → St → Option (Int32 × St) := MZ (fun f => (sI fr0 0 (gI f 0))) BX9_isBlank
theorem kX9_isBlank : SND yX9_isBlank cX9_isBlank 1 (some .boolean) 1 [(0, 0)] cvoI DX9_isBlank := snd_Z (nw := 1) (by decide) rfl rfl (fun _ _ => rfl) sBX9_isBlank
theorem dX9_kindOf_0 : decode cX9_kindOf 0 = .ok (.iload_n 0, 1) := by decide +kernel
theorem dX9_kindOf_1 : decode cX9_kindOf 1 = .ok (.bipush 97, 2) := by decide +kernel
theorem dX9_kindOf_3 : decode cX9_kindOf 3 = .ok (.if_icmp .lt 11, 3) := by decide +kernel
theorem dX9_kindOf_6 : decode cX9_kindOf 6 = .ok (.iload_n 0, 1) := by decide +kernel
theorem dX9_kindOf_7 : decode cX9_kindOf 7 = .ok (.bipush 122, 2) := by decide +kernel
theorem dX9_kindOf_9 : decode cX9_kindOf 9 = .ok (.if_icmp .gt 5, 3) := by decide +kernel
theorem dX9_kindOf_12 : decode cX9_kindOf 12 = .ok (.iconst 1, 1) := by decide +kernel
theorem dX9_kindOf_13 : decode cX9_kindOf 13 = .ok (.ireturn, 1) := by decide +kernel
theorem dX9_kindOf_14 : decode cX9_kindOf 14 = .ok (.iload_n 0, 1) := by decide +kernel
theorem dX9_kindOf_15 : decode cX9_kindOf 15 = .ok (.bipush 48, 2) := by decide +kernel
theorem dX9_kindOf_17 : decode cX9_kindOf 17 = .ok (.if_icmp .lt 11, 3) := by decide +kernel
theorem dX9_kindOf_20 : decode cX9_kindOf 20 = .ok (.iload_n 0, 1) := by decide +kernel
theorem dX9_kindOf_21 : decode cX9_kindOf 21 = .ok (.bipush 57, 2) := by decide +kernel
theorem dX9_kindOf_23 : decode cX9_kindOf 23 = .ok (.if_icmp .gt 5, 3) := by decide +kernel
theorem dX9_kindOf_26 : decode cX9_kindOf 26 = .ok (.iconst 2, 1) := by decide +kernel
theorem dX9_kindOf_27 : decode cX9_kindOf 27 = .ok (.ireturn, 1) := by decide +kernel
theorem dX9_kindOf_28 : decode cX9_kindOf 28 = .ok (.iload_n 0, 1) := by decide +kernel
theorem dX9_kindOf_29 : decode cX9_kindOf 29 = .ok (.bipush 59, 2) := by decide +kernel
theorem dX9_kindOf_31 : decode cX9_kindOf 31 = .ok (.if_icmp .ne 7, 3) := by decide +kernel
theorem dX9_kindOf_34 : decode cX9_kindOf 34 = .ok (.iconst 3, 1) := by decide +kernel
theorem dX9_kindOf_35 : decode cX9_kindOf 35 = .ok (.goto 4, 3) := by decide +kernel
theorem dX9_kindOf_38 : decode cX9_kindOf 38 = .ok (.iconst 4, 1) := by decide +kernel
theorem dX9_kindOf_39 : decode cX9_kindOf 39 = .ok (.ireturn, 1) := by decide +kernel
theorem mokX9_kindOf : MOK yX9_kindOf cX9_kindOf 1 (some .int) 1 := ⟨w5_119, w1_2, ⟨by decide, by decide⟩, by decide +kernel, by decide⟩
abbrev miX9_kindOf : MI := (yX9_kindOf.cls, cX9_kindOf, 1, 1, false)
noncomputable def BX9_kindOf : Sm Int32 := (dSeq (dIf (dAnd (dCI r_ge (vI 0) (cI 97)) (dCI r_le (vI 0) (cI 122))) (dRet (cI 1)) dSkip) (dSeq (dIf (dAnd (dCI r_ge (vI 0) (cI 48)) (dCI r_le (vI 0) (cI 57))) (dRet (cI 2)) dSkip) (dRet (dT (dCI r_eq (vI 0) (cI 59)) (cI 3) (cI 4)))))
theorem sBX9_kindOf : SS (cvoI, .ireturn) miX9_kindOf [] [] [] [(0, 0)] [(0, 0)] 0 [] BX9_kindOf := (t_sq (p1 := 14) (Γ' := [(0, 0)]) (t_if (pT := 12) (pF := 14) (X := [14]) (XA := []) (XB := [14]) (c_and (p1 := 6) (pT := 12) (pF := 14) (c_ge_F (pF := 14) (s_iload_n dX9_kindOf_0 rfl rfl) (s_bipush dX9_kindOf_1 rfl) dX9_kindOf_3 rfl) (c_le_F (pF := 14) (s_iload_n dX9_kindOf_6 rfl rfl) (s_bipush dX9_kindOf_7 rfl) dX9_kindOf_9 rfl)) (t_ret (cv := cvI) (fun _ _ => rfl) (s_iconst dX9_kindOf_12 rfl) dX9_kindOf_13) (t_skip (ld_in rfl) rfl) lda_nil (lda_cons (ld_in rfl) lda_nil)) (t_sq (p1 := 28) (Γ' := [(0, 0)]) (t_if (pT := 26) (pF := 28) (X := [28]) (XA := []) (XB := [28]) (c_and (p1 := 20) (pT := 26) (pF := 28) (c_ge_F (pF := 28) (s_iload_n dX9_kindOf_14 rfl rfl) (s_bipush dX9_kindOf_15 rfl) dX9_kindOf_17 rfl) (c_le_F (pF := 28) (s_iload_n dX9_kindOf_20 rfl rfl) (s_bipush dX9_kindOf_21 rfl) dX9_kindOf_23 rfl)) (t_ret (cv := cvI) (fun _ _ => rfl) (s_iconst dX9_kindOf_26 rfl) dX9_kindOf_27) (t_skip (ld_in rfl) rfl) lda_nil (lda_cons (ld_in rfl) lda_nil)) (t_ret (cv := cvI) (fun _ _ => rfl) (s_T (pT := 34) (pF := 38) (p1 := 35) (pe := 39) (c_eq_F (pF := 38) (s_iload_n dX9_kindOf_28 rfl rfl) (s_bipush dX9_kindOf_29 rfl) dX9_kindOf_31 rfl) (s_iconst dX9_kindOf_34 rfl) (s_iconst dX9_kindOf_38 rfl) (ld_goto (y := 39) dX9_kindOf_35 rfl (ld_in rfl))) dX9_kindOf_39)))
noncomputable def DX9_kindOf : Fr → St → Option (Int32 × St) := M1 (fun f => (sI fr0 0 (gI f 0))) BX9_kindOf
theorem kX9_kindOf : SND yX9_kindOf cX9_kindOf 1 (some .int) 1 [(0, 0)] cvoI DX9_kindOf := snd_I (nw := 1) (by decide) rfl rfl (fun _ _ => rfl) sBX9_kindOf
theorem dX9_next_0 : decode cX9_next 0 = .ok (.aload_n 0, 1) := by decide +kernel
theorem dX9_next_1 : decode cX9_next 1 = .ok (.aload_n 0, 1) := by decide +kernel
theorem dX9_next_2 : decode cX9_next 2 = .ok (.getfield 19, 3) := by decide +kernel
theorem dX9_next_5 : decode cX9_next 5 = .ok (.putfield 22, 3) := by decide +kernel
theorem dX9_next_8 : decode cX9_next 8 = .ok (.aload_n 0, 1) := by decide +kernel
theorem dX9_next_9 : decode cX9_next 9 = .ok (.getfield 22, 3) := by decide +kernel
theorem dX9_next_12 : decode cX9_next 12 = .ok (.aload_n 0, 1) := by decide +kernel
theorem dX9_next_13 : decode cX9_next 13 = .ok (.getfield 15, 3) := by decide +kernel
theorem dX9_next_16 : decode cX9_next 16 = .ok (.if_icmp .ge 30, 3) := by decide +kernel
theorem dX9_next_19 : decode cX9_next 19 = .ok (.aload_n 0, 1) := by decide +kernel
theorem dX9_next_20 : decode cX9_next 20 = .ok (.aload_n 0, 1) := by decide +kernel
theorem dX9_next_21 : decode cX9_next 21 = .ok (.getfield 22, 3) := by decide +kernel
theorem dX9_next_24 : decode cX9_next 24 = .ok (.invokevirtual 25, 3) := by decide +kernel
theorem dX9_next_27 : decode cX9_next 27 = .ok (.invokestatic 29, 3) := by decide +kernel
theorem dX9_next_30 : decode cX9_next 30 = .ok (.ifCond .eq 16, 3) := by decide +kernel
theorem dX9_next_33 : decode cX9_next 33 = .ok (.aload_n 0, 1) := by decide +kernel
theorem dX9_next_34 : decode cX9_next 34 = .ok (.dup, 1) := by decide +kernel
theorem dX9_next_35 : decode cX9_next 35 = .ok (.getfield 22, 3) := by decide +kernel
theorem dX9_next_38 : decode cX9_next 38 = .ok (.iconst 1, 1) := by decide +kernel
theorem dX9_next_39 : decode cX9_next 39 = .ok (.iadd, 1) := by decide +kernel
theorem dX9_next_40 : decode cX9_next 40 = .ok (.putfield 22, 3) := by decide +kernel
theorem dX9_next_43 : decode cX9_next 43 = .ok (.goto (-35), 3) := by decide +kernel
theorem dX9_next_46 : decode cX9_next 46 = .ok (.aload_n 0, 1) := by decide +kernel
theorem dX9_next_47 : decode cX9_next 47 = .ok (.aload_n 0, 1) := by decide +kernel
theorem dX9_next_48 : decode cX9_next 48 = .ok (.getfield 22, 3) := by decide +kernel
theorem dX9_next_51 : decode cX9_next 51 = .ok (.putfield 19, 3) := by decide +kernel
theorem dX9_next_54 : decode cX9_next 54 = .ok (.aload_n 0, 1) := by decide +kernel
theorem dX9_next_55 : decode cX9_next 55 = .ok (.iconst 0, 1) := by decide +kernel
theorem dX9_next_56 : decode cX9_next 56 = .ok (.putfield 33, 3) := by decide +kernel
theorem dX9_next_59 : decode cX9_next 59 = .ok (.aload_n 0, 1) := by decide +kernel
theorem dX9_next_60 : decode cX9_next 60 = .ok (.getfield 22, 3) := by decide +kernel
theorem dX9_next_63 : decode cX9_next 63 = .ok (.aload_n 0, 1) := by decide +kernel
theorem dX9_next_64 : decode cX9_next 64 = .ok (.getfield 15, 3) := by decide +kernel
theorem dX9_next_67 : decode cX9_next 67 = .ok (.if_icmp .lt 9, 3) := by decide +kernel
theorem dX9_next_70 : decode cX9_next 70 = .ok (.aload_n 0, 1) := by decide +kernel
theorem dX9_next_71 : decode cX9_next 71 = .ok (.iconst 0, 1) := by decide +kernel
theorem dX9_next_72 : decode cX9_next 72 = .ok (.putfield 36, 3) := by decide +kernel
theorem dX9_next_75 : decode cX9_next 75 = .ok (.return_, 1) := by decide +kernel
theorem dX9_next_76 : decode cX9_next 76 = .ok (.aload_n 0, 1) := by decide +kernel
theorem dX9_next_77 : decode cX9_next 77 = .ok (.aload_n 0, 1) := by decide +kernel
theorem dX9_next_78 : decode cX9_next 78 = .ok (.aload_n 0, 1) := by decide +kernel
theorem dX9_next_79 : decode cX9_next 79 = .ok (.getfield 22, 3) := by decide +kernel
theorem dX9_next_82 : decode cX9_next 82 = .ok (.invokevirtual 25, 3) := by decide +kernel
theorem dX9_next_85 : decode cX9_next 85 = .ok (.invokestatic 39, 3) := by decide +kernel
theorem dX9_next_88 : decode cX9_next 88 = .ok (.putfield 36, 3) := by decide +kernel
theorem dX9_next_91 : decode cX9_next 91 = .ok (.aload_n 0, 1) := by decide +kernel
theorem dX9_next_92 : decode cX9_next 92 = .ok (.getfield 36, 3) := by decide +kernel
theorem dX9_next_95 : decode cX9_next 95 = .ok (.iconst 1, 1) := by decide +kernel
theorem dX9_next_96 : decode cX9_next 96 = .ok (.if_icmp .eq 11, 3) := by decide +kernel
theorem dX9_next_99 : decode cX9_next 99 = .ok (.aload_n 0, 1) := by decide +kernel
theorem dX9_next_100 : decode cX9_next 100 = .ok (.getfield 36, 3) := by decide +kernel
theorem dX9_next_103 : decode cX9_next 103 = .ok (.iconst 2, 1) := by decide +kernel
theorem dX9_next_104 : decode cX9_next 104 = .ok (.if_icmp .ne 7, 3) := by decide +kernel
theorem dX9_next_107 : decode cX9_next 107 = .ok (.iconst 1, 1) := by decide +kernel
theorem dX9_next_108 : decode cX9_next 108 = .ok (.goto 4, 3) := by decide +kernel
theorem dX9_next_111 : decode cX9_next 111 = .ok (.iconst 0, 1) := by decide +kernel
theorem dX9_next_112 : decode cX9_next 112 = .ok (.istore_n 1, 1) := by decide +kernel
theorem dX9_next_113 : decode cX9_next 113 = .ok (.aload_n 0, 1) := by decide +kernel
theorem dX9_next_114 : decode cX9_next 114 = .ok (.getfield 36, 3) := by decide +kernel
theorem dX9_next_117 : decode cX9_next 117 = .ok (.iconst 2, 1) := by decide +kernel
theorem dX9_next_118 : decode cX9_next 118 = .ok (.if_icmp .ne 32, 3) := by decide +kernel
theorem dX9_next_121 : decode cX9_next 121 = .ok (.aload_n 0, 1) := by decide +kernel
theorem dX9_next_122 : decode cX9_next 122 = .ok (.sipush 1000, 3) := by decide +kernel
theorem dX9_next_125 : decode cX9_next 125 = .ok (.aload_n 0, 1) := by decide +kernel
theorem dX9_next_126 : decode cX9_next 126 = .ok (.getfield 33, 3) := by decide +kernel
theorem dX9_next_129 : decode cX9_next 129 = .ok (.bipush 10, 2) := by decide +kernel
theorem dX9_next_131 : decode cX9_next 131 = .ok (.imul, 1) := by decide +kernel
theorem dX9_next_132 : decode cX9_next 132 = .ok (.aload_n 0, 1) := by decide +kernel
theorem dX9_next_133 : decode cX9_next 133 = .ok (.aload_n 0, 1) := by decide +kernel
theorem dX9_next_134 : decode cX9_next 134 = .ok (.getfield 19, 3) := by decide +kernel
theorem dX9_next_137 : decode cX9_next 137 = .ok (.invokevirtual 25, 3) := by decide +kernel
theorem dX9_next_140 : decode cX9_next 140 = .ok (.iadd, 1) := by decide +kernel
theorem dX9_next_141 : decode cX9_next 141 = .ok (.bipush 48, 2) := by decide +kernel
theorem dX9_next_143 : decode cX9_next 143 = .ok (.isub, 1) := by decide +kernel
theorem dX9_next_144 : decode cX9_next 144 = .ok (.invokestatic 42, 3) := by decide +kernel
theorem dX9_next_147 : decode cX9_next 147 = .ok (.putfield 33, 3) := by decide +kernel
theorem dX9_next_150 : decode cX9_next 150 = .ok (.aload_n 0, 1) := by decide +kernel
theorem dX9_next_151 : decode cX9_next 151 = .ok (.dup, 1) := by decide +kernel
theorem dX9_next_152 : decode cX9_next 152 = .ok (.getfield 19, 3) := by decide +kernel
theorem dX9_next_155 : decode cX9_next 155 = .ok (.iconst 1, 1) := by decide +kernel
theorem dX9_next_156 : decode cX9_next 156 = .ok (.iadd, 1) := by decide +kernel
theorem dX9_next_157 : decode cX9_next 157 = .ok (.putfield 19, 3) := by decide +kernel
theorem dX9_next_160 : decode cX9_next 160 = .ok (.iload_n 1, 1) := by decide +kernel
theorem dX9_next_161 : decode cX9_next 161 = .ok (.ifCond .eq 32, 3) := by decide +kernel
theorem dX9_next_164 : decode cX9_next 164 = .ok (.aload_n 0, 1) := by decide +kernel
theorem dX9_next_165 : decode cX9_next 165 = .ok (.getfield 19, 3) := by decide +kernel
theorem dX9_next_168 : decode cX9_next 168 = .ok (.aload_n 0, 1) := by decide +kernel
theorem dX9_next_169 : decode cX9_next 169 = .ok (.getfield 15, 3) := by decide +kernel
theorem dX9_next_172 : decode cX9_next 172 = .ok (.if_icmp .ge 21, 3) := by decide +kernel
theorem dX9_next_175 : decode cX9_next 175 = .ok (.aload_n 0, 1) := by decide +kernel
theorem dX9_next_176 : decode cX9_next 176 = .ok (.aload_n 0, 1) := by decide +kernel
theorem dX9_next_177 : decode cX9_next 177 = .ok (.getfield 19, 3) := by decide +kernel
theorem dX9_next_180 : decode cX9_next 180 = .ok (.invokevirtual 25, 3) := by decide +kernel
theorem dX9_next_183 : decode cX9_next 183 = .ok (.invokestatic 39, 3) := by decide +kernel
theorem dX9_next_186 : decode cX9_next 186 = .ok (.aload_n 0, 1) := by decide +kernel
theorem dX9_next_187 : decode cX9_next 187 = .ok (.getfield 36, 3) := by decide +kernel
theorem dX9_next_190 : decode cX9_next 190 = .ok (.if_icmp .eq (-77), 3) := by decide +kernel
theorem dX9_next_193 : decode cX9_next 193 = .ok (.return_, 1) := by decide +kernel
theorem mokX9_next : MOK yX9_next cX9_next 2 none 0 := ⟨w5_109, w1_2, ⟨by decide, by decide⟩, by decide +kernel, by decide⟩
abbrev miX9_next : MI := (yX9_next.cls, cX9_next, 2, 2, false)
noncomputable def LX9_next_1 : Sm Unit := dLoop (fun f => (sR fr0 0 (gR f 0))) (dAnd (dCI r_lt (dGI 9 3 (vR 0)) (dGI 9 1 (vR 0))) (dCZ q_ne (dCall DX9_isBlank (aI aN 0 (dCallV 9 DX9_byteAt (aI (aR aN 0 (vR 0)) 1 (dGI 9 3 (vR 0)))))))) (dUF 9 3 o_iadd (vR 0) (cI 1)) dSkip
theorem sLX9_next_1 {ΓL : Gm} {PB PK : List Nat} : SS (cvoV, .return_) miX9_next ΓL PB PK [(0, 2)] [(0, 2)] 8 [46] LX9_next_1 := t_loop (pT := 33) (pF := 46) (pu := 8) (PB' := []) (PK' := []) (XB := [43]) (XU := [8]) (fun _ _ => rfl) rfl (c_and (p1 := 19) (pT := 33) (pF := 46) (c_lt_F (pF := 46) (s_getI ck9 3 (by decide) rfl (s_aload_n dX9_next_8 rfl rfl) dX9_next_9 w1_40) (s_getI ck9 1 (by decide) rfl (s_aload_n dX9_next_12 rfl rfl) dX9_next_13 w1_37) dX9_next_16 rfl) (c_ne_ZF (pF := 46) (s_of_xI (x_call (ts := [(0, 0)]) kX9_isBlank mokX9_isBlank w5_115 rfl rfl rfl (a_I (ts := []) 0 a_nil (s_of_xI (x_callV (ts := [(0, 2), (1, 0)]) ck9 rfl kX9_byteAt mokX9_byteAt w5_112 ps2_3 rfl rfl rfl rfl (a_I (ts := [(0, 2)]) 1 (a_R (ts := []) 0 a_nil (s_aload_n dX9_next_19 rfl rfl) rfl) (s_getI ck9 3 (by decide) rfl (s_aload_n dX9_next_20 rfl rfl) dX9_next_21 w1_40) rfl) dX9_next_24 w5_110)) rfl) dX9_next_27 w5_114)) dX9_next_30 rfl)) (t_UF ck9 3 (by decide) rfl (Or.inl rfl) (s_aload_n dX9_next_33 rfl rfl) dX9_next_34 dX9_next_35 w1_40 (s_iconst dX9_next_38 rfl) (fun _ _ _ _ => rulI fun a b K => lv_iadd a b dX9_next_39 K) dX9_next_40 w1_40 rfl) (t_skip (ld_in rfl) rfl) (lda_cons (ld_goto (y := 8) dX9_next_43 rfl (ld_in rfl)) lda_nil) lda_nil (lda_cons (ld_in rfl) lda_nil) (ld_in rfl) lda_nil
noncomputable def LX9_next_2 : Sm Unit := dDoW (fun f => (sI (sR fr0 0 (gR f 0)) 1 (gI f 1))) (dSeq (dIf (dCI r_eq (dGI 9 2 (vR 0)) (cI 2)) (dP (fI 9 4) (vR 0) (d2 o_imin (cI 1000) (d2 o_isub (d2 o_iadd (d2 o_imul (dGI 9 4 (vR 0)) (cI 10)) (dCallV 9 DX9_byteAt (aI (aR aN 0 (vR 0)) 1 (dGI 9 5 (vR 0))))) (cI 48)))) dSkip) (dUF 9 5 o_iadd (vR 0) (cI 1))) (dAnd (dAnd (dCZ q_ne (vI 1)) (dCI r_lt (dGI 9 5 (vR 0)) (dGI 9 1 (vR 0)))) (dCI r_eq (dCall DX9_kindOf (aI aN 0 (dCallV 9 DX9_byteAt (aI (aR aN 0 (vR 0)) 1 (dGI 9 5 (vR 0)))))) (dGI 9 2 (vR 0))))
theorem sLX9_next_2 {ΓL : Gm} {PB PK : List Nat} : SS (cvoV, .return_) miX9_next ΓL PB PK [(0, 2), (1, 0)] [(0, 2), (1, 0)] 113 [193] LX9_next_2 := t_dow (pF := 193) (pu := 160) (PB' := []) (PK' := []) (XB := [160]) (fun _ _ => rfl) rfl (t_sq (p1 := 150) (Γ' := [(0, 2), (1, 0)]) (t_if (pT := 121) (pF := 150) (X := [150]) (XA := [150]) (XB := [150]) (c_eq_F (pF := 150) (s_getI ck9 2 (by decide) rfl (s_aload_n dX9_next_113 rfl rfl) dX9_next_114 w1_39) (s_iconst dX9_next_117 rfl) dX9_next_118 rfl) (t_pI ck9 4 (by decide) rfl (Or.inl rfl) (s_aload_n dX9_next_121 rfl rfl) (s_mmin (s_sipush dX9_next_122 rfl) (s_isub (s_iadd (s_imul (s_getI ck9 4 (by decide) rfl (s_aload_n dX9_next_125 rfl rfl) dX9_next_126 w1_42) (s_bipush dX9_next_129 rfl) dX9_next_131) (s_of_xI (x_callV (ts := [(0, 2), (1, 0)]) ck9 rfl kX9_byteAt mokX9_byteAt w5_112 ps2_3 rfl rfl rfl rfl (a_I (ts := [(0, 2)]) 1 (a_R (ts := []) 0 a_nil (s_aload_n dX9_next_132 rfl rfl) rfl) (s_getI ck9 5 (by decide) rfl (s_aload_n dX9_next_133 rfl rfl) dX9_next_134 w1_44) rfl) dX9_next_137 w5_110)) dX9_next_140) (s_bipush dX9_next_141 rfl) dX9_next_143) rfl rfl dX9_next_144 w5_120) dX9_next_147 w1_42 rfl) (t_skip (ld_in rfl) rfl) (lda_cons (ld_in rfl) lda_nil) (lda_cons (ld_in rfl) lda_nil)) (t_UF ck9 5 (by decide) rfl (Or.inl rfl) (s_aload_n dX9_next_150 rfl rfl) dX9_next_151 dX9_next_152 w1_44 (s_iconst dX9_next_155 rfl) (fun _ _ _ _ => rulI fun a b K => lv_iadd a b dX9_next_156 K) dX9_next_157 w1_44 rfl)) (c_and (p1 := 175) (pT := 113) (pF := 193) (c_and (p1 := 164) (pT := 175) (pF := 193) (c_ne_ZF (pF := 193) (s_iload_n dX9_next_160 rfl rfl) dX9_next_161 rfl) (c_lt_F (pF := 193) (s_getI ck9 5 (by decide) rfl (s_aload_n dX9_next_164 rfl rfl) dX9_next_165 w1_44) (s_getI ck9 1 (by decide) rfl (s_aload_n dX9_next_168 rfl rfl) dX9_next_169 w1_37) dX9_next_172 rfl)) (c_eq_J (pT := 113) (s_of_xI (x_call (ts := [(0, 0)]) kX9_kindOf mokX9_kindOf w5_118 rfl rfl rfl (a_I (ts := []) 0 a_nil (s_of_xI (x_callV (ts := [(0, 2), (1, 0)]) ck9 rfl kX9_byteAt mokX9_byteAt w5_112 ps2_3 rfl rfl rfl rfl (a_I (ts := [(0, 2)]) 1 (a_R (ts := []) 0 a_nil (s_aload_n dX9_next_175 rfl rfl) rfl) (s_getI ck9 5 (by decide) rfl (s_aload_n dX9_next_176 rfl rfl) dX9_next_177 w1_44) rfl) dX9_next_180 w5_110)) rfl) dX9_next_183 w5_117)) (s_getI ck9 2 (by decide) rfl (s_aload_n dX9_next_186 rfl rfl) dX9_next_187 w1_39) dX9_next_190 rfl)) (lda_cons (ld_in rfl) lda_nil) lda_nil (ld_in rfl) lda_nil
noncomputable def BX9_next : Sm Unit := (dSeq (dP (fI 9 3) (vR 0) (dGI 9 5 (vR 0))) (dSeq LX9_next_1 (dSeq (dP (fI 9 5) (vR 0) (dGI 9 3 (vR 0))) (dSeq (dP (fI 9 4) (vR 0) (cI 0)) (dSeq (dIf (dCI r_ge (dGI 9 3 (vR 0)) (dGI 9 1 (vR 0))) (dSeq (dP (fI 9 2) (vR 0) (cI 0)) dRet0) dSkip) (dSeq (dP (fI 9 2) (vR 0) (dCall DX9_kindOf (aI aN 0 (dCallV 9 DX9_byteAt (aI (aR aN 0 (vR 0)) 1 (dGI 9 3 (vR 0))))))) (dSeq (dSetI 1 (dB (dOr (dCI r_eq (dGI 9 2 (vR 0)) (cI 1)) (dCI r_eq (dGI 9 2 (vR 0)) (cI 2))))) (dSeq LX9_next_2 dRet0))))))))
theorem sBX9_next : SS (cvoV, .return_) miX9_next [] [] [] [(0, 2)] [(0, 2)] 0 [] BX9_next := (t_sq (p1 := 8) (Γ' := [(0, 2)]) (t_pI ck9 3 (by decide) rfl (Or.inl rfl) (s_aload_n dX9_next_0 rfl rfl) (s_getI ck9 5 (by decide) rfl (s_aload_n dX9_next_1 rfl rfl) dX9_next_2 w1_44) dX9_next_5 w1_40 rfl) (t_sq (p1 := 46) (Γ' := [(0, 2)]) (tn_to (Γ' := [(0, 2)]) (XA := [46]) sLX9_next_1 (lda_cons (ld_in rfl) lda_nil) rfl) (t_sq (p1 := 54) (Γ' := [(0, 2)]) (t_pI ck9 5 (by decide) rfl (Or.inl rfl) (s_aload_n dX9_next_46 rfl rfl) (s_getI ck9 3 (by decide) rfl (s_aload_n dX9_next_47 rfl rfl) dX9_next_48 w1_40) dX9_next_51 w1_44 rfl) (t_sq (p1 := 59) (Γ' := [(0, 2)]) (t_pI ck9 4 (by decide) rfl (Or.inl rfl) (s_aload_n dX9_next_54 rfl rfl) (s_iconst dX9_next_55 rfl) dX9_next_56 w1_42 rfl) (t_sq (p1 := 76) (Γ' := [(0, 2)]) (t_if (pT := 70) (pF := 76) (X := [76]) (XA := []) (XB := [76]) (c_ge_F (pF := 76) (s_getI ck9 3 (by decide) rfl (s_aload_n dX9_next_59 rfl rfl) dX9_next_60 w1_40) (s_getI ck9 1 (by decide) rfl (s_aload_n dX9_next_63 rfl rfl) dX9_next_64 w1_37) dX9_next_67 rfl) (t_sq (p1 := 75) (Γ' := [(0, 2)]) (t_pI ck9 2 (by decide) rfl (Or.inl rfl) (s_aload_n dX9_next_70 rfl rfl) (s_iconst dX9_next_71 rfl) dX9_next_72 w1_39 rfl) (t_ret0 (fun _ _ => rfl) dX9_next_75)) (t_skip (ld_in rfl) rfl) lda_nil (lda_cons (ld_in rfl) lda_nil)) (t_sq (p1 := 91) (Γ' := [(0, 2)]) (t_pI ck9 2 (by decide) rfl (Or.inl rfl) (s_aload_n dX9_next_76 rfl rfl) (s_of_xI (x_call (ts := [(0, 0)]) kX9_kindOf mokX9_kindOf w5_118 rfl rfl rfl (a_I (ts := []) 0 a_nil (s_of_xI (x_callV (ts := [(0, 2), (1, 0)]) ck9 rfl kX9_byteAt mokX9_byteAt w5_112 ps2_3 rfl rfl rfl rfl (a_I (ts := [(0, 2)]) 1 (a_R (ts := []) 0 a_nil (s_aload_n dX9_next_77 rfl rfl) rfl) (s_getI ck9 3 (by decide) rfl (s_aload_n dX9_next_78 rfl rfl) dX9_next_79 w1_40) rfl) dX9_next_82 w5_110)) rfl) dX9_next_85 w5_117)) dX9_next_88 w1_39 rfl) (t_sq (p1 := 113) (Γ' := [(0, 2), (1, 0)]) (t_istore_n (s_B (pT := 107) (pF := 111) (pe := 112) (c_or (p1 := 99) (pT := 107) (pF := 111) (c_eq_J (pT := 107) (s_getI ck9 2 (by decide) rfl (s_aload_n dX9_next_91 rfl rfl) dX9_next_92 w1_39) (s_iconst dX9_next_95 rfl) dX9_next_96 rfl) (c_eq_F (pF := 111) (s_getI ck9 2 (by decide) rfl (s_aload_n dX9_next_99 rfl rfl) dX9_next_100 w1_39) (s_iconst dX9_next_103 rfl) dX9_next_104 rfl)) dX9_next_107 dX9_next_108 rfl dX9_next_111 rfl) dX9_next_112 rfl rfl rfl) (t_sq (p1 := 193) (Γ' := [(0, 2), (1, 0)]) (tn_to (Γ' := [(0, 2), (1, 0)]) (XA := [193]) sLX9_next_2 (lda_cons (ld_in rfl) lda_nil) rfl) (t_ret0 (fun _ _ => rfl) dX9_next_193)))))))))
noncomputable def DX9_next : Fr → St → Option (Unit × St) := M1 (fun f => (sR fr0 0 (gR f 0))) BX9_next
theorem kX9_next : SND yX9_next cX9_next 2 none 2 [(0, 2)] cvoV DX9_next := snd_V (nw := 1) (by decide) (fun z => by cases z) rfl rfl (fun _ _ => rfl) sBX9_next
theorem dX6_readNumber_0 : decode cX6_readNumber 0 = .ok (.aload_n 1, 1) := by decide +kernel
theorem dX6_readNumber_1 : decode cX6_readNumber 1 = .ok (.getfield 144, 3) := by decide +kernel
theorem dX6_readNumber_4 : decode cX6_readNumber 4 = .ok (.istore 4, 2) := by decide +kernel
theorem dX6_readNumber_6 : decode cX6_readNumber 6 = .ok (.aload_n 1, 1) := by decide +kernel
theorem dX6_readNumber_7 : decode cX6_readNumber 7 = .ok (.getfield 31, 3) := by decide +kernel
theorem dX6_readNumber_10 : decode cX6_readNumber 10 = .ok (.iconst 2, 1) := by decide +kernel
theorem dX6_readNumber_11 : decode cX6_readNumber 11 = .ok (.if_icmp .eq 12, 3) := by decide +kernel
theorem dX6_readNumber_14 : decode cX6_readNumber 14 = .ok (.aload_n 0, 1) := by decide +kernel
theorem dX6_readNumber_15 : decode cX6_readNumber 15 = .ok (.aload_n 1, 1) := by decide +kernel
theorem dX6_readNumber_16 : decode cX6_readNumber 16 = .ok (.iconst 1, 1) := by decide +kernel
theorem dX6_readNumber_17 : decode cX6_readNumber 17 = .ok (.invokevirtual 105, 3) := by decide +kernel
theorem dX6_readNumber_20 : decode cX6_readNumber 20 = .ok (.pop, 1) := by decide +kernel
theorem dX6_readNumber_21 : decode cX6_readNumber 21 = .ok (.iconst (-1), 1) := by decide +kernel
theorem dX6_readNumber_22 : decode cX6_readNumber 22 = .ok (.ireturn, 1) := by decide +kernel
theorem dX6_readNumber_23 : decode cX6_readNumber 23 = .ok (.iload 4, 2) := by decide +kernel
theorem dX6_readNumber_25 : decode cX6_readNumber 25 = .ok (.iload_n 2, 1) := by decide +kernel
theorem dX6_readNumber_26 : decode cX6_readNumber 26 = .ok (.if_icmp .lt 9, 3) := by decide +kernel
theorem dX6_readNumber_29 : decode cX6_readNumber 29 = .ok (.iload 4, 2) := by decide +kernel
theorem dX6_readNumber_31 : decode cX6_readNumber 31 = .ok (.iload_n 3, 1) := by decide +kernel
theorem dX6_readNumber_32 : decode cX6_readNumber 32 = .ok (.if_icmp .le 12, 3) := by decide +kernel
theorem dX6_readNumber_35 : decode cX6_readNumber 35 = .ok (.aload_n 0, 1) := by decide +kernel
theorem dX6_readNumber_36 : decode cX6_readNumber 36 = .ok (.aload_n 1, 1) := by decide +kernel
theorem dX6_readNumber_37 : decode cX6_readNumber 37 = .ok (.iconst 2, 1) := by decide +kernel
theorem dX6_readNumber_38 : decode cX6_readNumber 38 = .ok (.invokevirtual 105, 3) := by decide +kernel
theorem dX6_readNumber_41 : decode cX6_readNumber 41 = .ok (.pop, 1) := by decide +kernel
theorem dX6_readNumber_42 : decode cX6_readNumber 42 = .ok (.iconst (-1), 1) := by decide +kernel
theorem dX6_readNumber_43 : decode cX6_readNumber 43 = .ok (.ireturn, 1) := by decide +kernel
theorem dX6_readNumber_44 : decode cX6_readNumber 44 = .ok (.aload_n 1, 1) := by decide +kernel
theorem dX6_readNumber_45 : decode cX6_readNumber 45 = .ok (.invokevirtual 28, 3) := by decide +kernel
theorem dX6_readNumber_48 : decode cX6_readNumber 48 = .ok (.iload 4, 2) := by decide +kernel
theorem dX6_readNumber_50 : decode cX6_readNumber 50 = .ok (.ireturn, 1) := by decide +kernel
theorem mokX6_readNumber : MOK yX6_readNumber cX6_readNumber 5 (some .int) 3 := ⟨w5_200, w1_3, ⟨by decide, by decide⟩, by decide +kernel, by decide⟩
abbrev miX6_readNumber : MI := (yX6_readNumber.cls, cX6_readNumber, 5, 3, false)
noncomputable def BX6_readNumber : Sm Int32 := (dSeq (dSetI 4 (dGI 9 4 (vR 1))) (dSeq (dIf (dCI r_ne (dGI 9 2 (vR 1)) (cI 2)) (dSeq (dDo (dCallV 6 DX6_fail (aI (aR (aR aN 0 (vR 0)) 1 (vR 1)) 2 (cI 1)))) (dRet (cI (-1)))) dSkip) (dSeq (dIf (dOr (dCI r_lt (vI 4) (vI 2)) (dCI r_gt (vI 4) (vI 3))) (dSeq (dDo (dCallV 6 DX6_fail (aI (aR (aR aN 0 (vR 0)) 1 (vR 1)) 2 (cI 2)))) (dRet (cI (-1)))) dSkip) (dSeq (dDo (dCallV 9 DX9_next (aR aN 0 (vR 1)))) (dRet (vI 4))))))
theorem sBX6_readNumber : SS (cvoI, .ireturn) miX6_readNumber [] [] [] [(0, 2), (1, 2), (2, 0), (3, 0)] [(0, 2), (1, 2), (2, 0), (3, 0)] 0 [] BX6_readNumber := (t_sq (p1 := 6) (Γ' := [(0, 2), (1, 2), (2, 0), (3, 0), (4, 0)]) (t_istore (s_getI ck9 4 (by decide) rfl (s_aload_n dX6_readNumber_0 rfl rfl) dX6_readNumber_1 w1_43) dX6_readNumber_4 rfl rfl) (t_sq (p1 := 23) (Γ' := [(0, 2), (1, 2), (2, 0), (3, 0), (4, 0)]) (t_if (pT := 14) (pF := 23) (X := [23]) (XA := []) (XB := [23]) (c_ne_F (pF := 23) (s_getI ck9 2 (by decide) rfl (s_aload_n dX6_readNumber_6 rfl rfl) dX6_readNumber_7 w1_38) (s_iconst dX6_readNumber_10 rfl) dX6_readNumber_11 rfl) (t_sq (p1 := 21) (Γ' := [(0, 2), (1, 2), (2, 0), (3, 0), (4, 0)]) (t_pop (s_of_xI (x_callV (ts := [(0, 2), (1, 2), (2, 0)]) ck6 rfl kX6_fail mokX6_fail w5_190 ps2_7 rfl rfl rfl rfl (a_I (ts := [(0, 2), (1, 2)]) 2 (a_R (ts := [(0, 2)]) 1 (a_R (ts := []) 0 a_nil (s_aload_n dX6_readNumber_14 rfl rfl) rfl) (s_aload_n dX6_readNumber_15 rfl rfl) rfl) (s_iconst dX6_readNumber_16 rfl) rfl) dX6_readNumber_17 w5_188)) dX6_readNumber_20 rfl) (t_ret (cv := cvI) (fun _ _ => rfl) (s_iconst dX6_readNumber_21 rfl) dX6_readNumber_22)) (t_skip (ld_in rfl) rfl) lda_nil (lda_cons (ld_in rfl) lda_nil)) (t_sq (p1 := 44) (Γ' := [(0, 2), (1, 2), (2, 0), (3, 0), (4, 0)]) (t_if (pT := 35) (pF := 44) (X := [44]) (XA := []) (XB := [44]) (c_or (p1 := 29) (pT := 35) (pF := 44) (c_lt_J (pT := 35) (s_iload dX6_readNumber_23 rfl) (s_iload_n dX6_readNumber_25 rfl rfl) dX6_readNumber_26 rfl) (c_gt_F (pF := 44) (s_iload dX6_readNumber_29 rfl) (s_iload_n dX6_readNumber_31 rfl rfl) dX6_readNumber_32 rfl)) (t_sq (p1 := 42) (Γ' := [(0, 2), (1, 2), (2, 0), (3, 0), (4, 0)]) (t_pop (s_of_xI (x_callV (ts := [(0, 2), (1, 2), (2, 0)]) ck6 rfl kX6_fail mokX6_fail w5_190 ps2_7 rfl rfl rfl rfl (a_I (ts := [(0, 2), (1, 2)]) 2 (a_R (ts := [(0, 2)]) 1 (a_R (ts := []) 0 a_nil (s_aload_n dX6_readNumber_35 rfl rfl) rfl) (s_aload_n dX6_readNumber_36 rfl rfl) rfl) (s_iconst dX6_readNumber_37 rfl) rfl) dX6_readNumber_38 w5_188)) dX6_readNumber_41 rfl) (t_ret (cv := cvI) (fun _ _ => rfl) (s_iconst dX6_readNumber_42 rfl) dX6_readNumber_43)) (t_skip (ld_in rfl) rfl) lda_nil (lda_cons (ld_in rfl) lda_nil)) (t_sq (p1 := 48) (Γ' := [(0, 2), (1, 2), (2, 0), (3, 0), (4, 0)]) (t_do (x_callV (ts := [(0, 2)]) ck9 rfl kX9_next mokX9_next w5_107 w5_108 rfl rfl rfl rfl (a_R (ts := []) 0 a_nil (s_aload_n dX6_readNumber_44 rfl rfl) rfl) dX6_readNumber_45 w5_106) rfl) (t_ret (cv := cvI) (fun _ _ => rfl) (s_iload dX6_readNumber_48 rfl) dX6_readNumber_50)))))
noncomputable def DX6_readNumber : Fr → St → Option (Int32 × St) := M1 (fun f => (sI (sI (sR (sR fr0 0 (gR f 0)) 1 (gR f 1)) 2 (gI f 2)) 3 (gI f 3))) BX6_readNumber
theorem kX6_readNumber : SND yX6_readNumber cX6_readNumber 5 (some .int) 3 [(0, 2), (1, 2), (2, 0), (3, 0)] cvoI DX6_readNumber := snd_I (nw := 4) (by decide) rfl rfl (fun _ _ => rfl) sBX6_readNumber
theorem dJ0_isLatin1_aae02_0 : decode cJ0_isLatin1_aae02 0 = .ok (.getstatic 38, 3) := by decide +kernel
theorem dJ0_isLatin1_aae02_3 : decode cJ0_isLatin1_aae02 3 = .ok (.ifCond .eq 14, 3) := by decide +kernel
theorem dJ0_isLatin1_aae02_6 : decode cJ0_isLatin1_aae02 6 = .ok (.aload_n 0, 1) := by decide +kernel
theorem dJ0_isLatin1_aae02_7 : decode cJ0_isLatin1_aae02 7 = .ok (.getfield 15, 3) := by decide +kernel
theorem dJ0_isLatin1_aae02_10 : decode cJ0_isLatin1_aae02 10 = .ok (.ifCond .ne 7, 3) := by decide +kernel
theorem dJ0_isLatin1_aae02_13 : decode cJ0_isLatin1_aae02 13 = .ok (.iconst 1, 1) := by decide +kernel
theorem dJ0_isLatin1_aae02_14 : decode cJ0_isLatin1_aae02 14 = .ok (.goto 4, 3) := by decide +kernel
theorem dJ0_isLatin1_aae02_17 : decode cJ0_isLatin1_aae02 17 = .ok (.iconst 0, 1) := by decide +kernel
theorem dJ0_isLatin1_aae02_18 : decode cJ0_isLatin1_aae02 18 = .ok (.ireturn, 1) := by decide +kernel
theorem mokJ0_isLatin1_aae02 : MOK yJ0_isLatin1_aae02 cJ0_isLatin1_aae02 1 (some .boolean) 0 := ⟨w5_157, w1_14, ⟨by decide, by decide⟩, by decide +kernel, by decide⟩
abbrev miJ0_isLatin1_aae02 : MI := (yJ0_isLatin1_aae02.cls, cJ0_isLatin1_aae02, 1, 1, false)
noncomputable def BJ0_isLatin1_aae02 : Sm Int32 := (dRet (dB (dAnd (dCZ q_ne (cI 1)) (dCZ q_eq (dTc (vR 0))))))
theorem sBJ0_isLatin1_aae02 : SS (cvoI, .ireturn) miJ0_isLatin1_aae02 [] [] [] [(0, 2)] [(0, 2)] 0 [] BJ0_isLatin1_aae02 := (t_ret (cv := cvI) (fun _ _ => rfl) (s_B (pT := 13) (pF := 17) (pe := 18) (c_and (p1 := 6) (pT := 13) (pF := 17) (c_ne_ZF (pF := 17) (s_cstr dJ0_isLatin1_aae02_0 w5_148) dJ0_isLatin1_aae02_3 rfl) (c_eq_ZF (pF := 17) (s_tcod (s_aload_n dJ0_isLatin1_aae02_6 rfl rfl) dJ0_isLatin1_aae02_7 w6_10) dJ0_isLatin1_aae02_10 rfl)) dJ0_isLatin1_aae02_13 dJ0_isLatin1_aae02_14 rfl dJ0_isLatin1_aae02_17 rfl) dJ0_isLatin1_aae02_18)
noncomputable def DJ0_isLatin1_aae02 : Fr → St → Option (Int32 × St) := MZ (fun f => (sR fr0 0 (gR f 0))) BJ0_isLatin1_aae02
theorem kJ0_isLatin1_aae02 : SND yJ0_isLatin1_aae02 cJ0_isLatin1_aae02 1 (some .boolean) 1 [(0, 2)] cvoI DJ0_isLatin1_aae02 := snd_Z (nw := 1) (by decide) rfl rfl (fun _ _ => rfl) sBJ0_isLatin1_aae02
theorem dJ1_charAt_3b067_0 : decode cJ1_charAt_3b067 0 = .ok (.iload_n 1, 1) := by decide +kernel
theorem dJ1_charAt_3b067_1 : decode cJ1_charAt_3b067 1 = .ok (.aload_n 0, 1) := by decide +kernel
theorem dJ1_charAt_3b067_2 : decode cJ1_charAt_3b067 2 = .ok (.arraylength, 1) := by decide +kernel
theorem dJ1_charAt_3b067_3 : decode cJ1_charAt_3b067 3 = .ok (.invokestatic 9, 3) := by decide +kernel
theorem dJ1_charAt_3b067_6 : decode cJ1_charAt_3b067 6 = .ok (.aload_n 0, 1) := by decide +kernel
theorem dJ1_charAt_3b067_7 : decode cJ1_charAt_3b067 7 = .ok (.iload_n 1, 1) := by decide +kernel
theorem dJ1_charAt_3b067_8 : decode cJ1_charAt_3b067 8 = .ok (.baload, 1) := by decide +kernel
theorem dJ1_charAt_3b067_9 : decode cJ1_charAt_3b067 9 = .ok (.sipush 255, 3) := by decide +kernel
theorem dJ1_charAt_3b067_12 : decode cJ1_charAt_3b067 12 = .ok (.iand, 1) := by decide +kernel
theorem dJ1_charAt_3b067_13 : decode cJ1_charAt_3b067 13 = .ok (.i2c, 1) := by decide +kernel
theorem dJ1_charAt_3b067_14 : decode cJ1_charAt_3b067 14 = .ok (.ireturn, 1) := by decide +kernel
theorem mokJ1_charAt_3b067 : MOK yJ1_charAt_3b067 cJ1_charAt_3b067 2 (some .char) 2 := ⟨w5_160, w1_15, ⟨by decide, by decide⟩, by decide +kernel, by decide⟩
abbrev miJ1_charAt_3b067 : MI := (yJ1_charAt_3b067.cls, cJ1_charAt_3b067, 2, 2, false)
noncomputable def BJ1_charAt_3b067 : Sm Int32 := (dSeq (dDo (dCall DJ0_checkIndex_df160 (aI (aI aN 0 (vI 1)) 1 (dLen (vR 0))))) (dRet (d1 o_i2c (d2 o_iand (dAB (vR 0) (vI 1)) (cI 255)))))
theorem sBJ1_charAt_3b067 : SS (cvoI, .ireturn) miJ1_charAt_3b067 [] [] [] [(0, 2), (1, 0)] [(0, 2), (1, 0)] 0 [] BJ1_charAt_3b067 := (t_sq (p1 := 6) (Γ' := [(0, 2), (1, 0)]) (t_do (x_call (ts := [(0, 0), (1, 0)]) kJ0_checkIndex_df160 mokJ0_checkIndex_df160 w5_162 rfl rfl rfl (a_I (ts := [(0, 0)]) 1 (a_I (ts := []) 0 a_nil (s_iload_n dJ1_charAt_3b067_0 rfl rfl) rfl) (s_len (s_aload_n dJ1_charAt_3b067_1 rfl rfl) dJ1_charAt_3b067_2) rfl) dJ1_charAt_3b067_3 w5_161) rfl) (t_ret (cv := cvI) (fun _ _ => rfl) (s_i2c (s_iand (s_dAB (s_aload_n dJ1_charAt_3b067_6 rfl rfl) (s_iload_n dJ1_charAt_3b067_7 rfl rfl) dJ1_charAt_3b067_8) (s_sipush dJ1_charAt_3b067_9 rfl) dJ1_charAt_3b067_12) dJ1_charAt_3b067_13) dJ1_charAt_3b067_14))
noncomputable def DJ1_charAt_3b067 : Fr → St → Option (Int32 × St) := MN .char (fun f => (sI (sR fr0 0 (gR f 0)) 1 (gI f 1))) BJ1_charAt_3b067
theorem kJ1_charAt_3b067 : SND yJ1_charAt_3b067 cJ1_charAt_3b067 2 (some .char) 2 [(0, 2), (1, 0)] cvoI DJ1_charAt_3b067 := snd_core (nw := 2) (cn := (fun f => (sI (sR fr0 0 (gR f 0)) 1 (gI f 1)))) ends_C (by decide) (fun z => by cases z) rfl rfl (fun _ _ => rfl) rfl sBJ1_charAt_3b067 rfl _ (fun g h v h' q => mN_D q)
theorem dJ0_charAt_5068e_0 : decode cJ0_charAt_5068e 0 = .ok (.aload_n 0, 1) := by decide +kernel
theorem dJ0_charAt_5068e_1 : decode cJ0_charAt_5068e 1 = .ok (.invokevirtual 492, 3) := by decide +kernel
theorem dJ0_charAt_5068e_4 : decode cJ0_charAt_5068e 4 = .ok (.ifCond .eq 12, 3) := by decide +kernel
theorem dJ0_charAt_5068e_7 : decode cJ0_charAt_5068e 7 = .ok (.aload_n 0, 1) := by decide +kernel
theorem dJ0_charAt_5068e_8 : decode cJ0_charAt_5068e 8 = .ok (.getfield 9, 3) := by decide +kernel
theorem dJ0_charAt_5068e_11 : decode cJ0_charAt_5068e 11 = .ok (.iload_n 1, 1) := by decide +kernel
theorem dJ0_charAt_5068e_12 : decode cJ0_charAt_5068e 12 = .ok (.invokestatic 495, 3) := by decide +kernel
theorem dJ0_charAt_5068e_15 : decode cJ0_charAt_5068e 15 = .ok (.ireturn, 1) := by decide +kernel
theorem dJ0_charAt_5068e_16 : decode cJ0_charAt_5068e 16 = .ok (.aload_n 0, 1) := by decide +kernel
theorem dJ0_charAt_5068e_17 : decode cJ0_charAt_5068e 17 = .ok (.getfield 9, 3) := by decide +kernel
theorem dJ0_charAt_5068e_20 : decode cJ0_charAt_5068e 20 = .ok (.iload_n 1, 1) := by decide +kernel
theorem dJ0_charAt_5068e_21 : decode cJ0_charAt_5068e 21 = .ok (.invokestatic 498, 3) := by decide +kernel
theorem dJ0_charAt_5068e_24 : decode cJ0_charAt_5068e 24 = .ok (.ireturn, 1) := by decide +kernel
theorem mokJ0_charAt_5068e : MOK yJ0_charAt_5068e cJ0_charAt_5068e 2 (some .char) 1 := ⟨w5_153, w1_14, ⟨by decide, by decide⟩, by decide +kernel, by decide⟩
abbrev miJ0_charAt_5068e : MI := (yJ0_charAt_5068e.cls, cJ0_charAt_5068e, 2, 3, false)
noncomputable def BJ0_charAt_5068e : Sm Int32 := (dIf (dCZ q_ne (dCallV 19 DJ0_isLatin1_aae02 (aR aN 0 (vR 0)))) (dRet (dCall DJ1_charAt_3b067 (aI (aR aN 0 (dTv (vR 0))) 1 (vI 1)))) (dRet (dCall DJ2_charAt_3b067 (aI (aR aN 0 (dTv (vR 0))) 1 (vI 1)))))
theorem sBJ0_charAt_5068e : SS (cvoI, .ireturn) miJ0_charAt_5068e [] [] [] [(0, 2), (1, 0)] [(0, 2), (1, 0)] 0 [] BJ0_charAt_5068e := (t_if (pT := 7) (pF := 16) (X := []) (XA := []) (XB := []) (c_ne_ZF (pF := 16) (s_of_xI (x_callT (ts := [(0, 2)]) rfl kJ0_isLatin1_aae02 mokJ0_isLatin1_aae02 w5_155 w5_156 rfl rfl rfl rfl (a_R (ts := []) 0 a_nil (s_aload_n dJ0_charAt_5068e_0 rfl rfl) rfl) dJ0_charAt_5068e_1 w5_154)) dJ0_charAt_5068e_4 rfl) (t_ret (cv := cvI) (fun _ _ => rfl) (s_of_xI (x_call (ts := [(0, 2), (1, 0)]) kJ1_charAt_3b067 mokJ1_charAt_3b067 w5_159 rfl rfl rfl (a_I (ts := [(0, 2)]) 1 (a_R (ts := []) 0 a_nil (s_tval (s_aload_n dJ0_charAt_5068e_7 rfl rfl) dJ0_charAt_5068e_8 w6_9) rfl) (s_iload_n dJ0_charAt_5068e_11 rfl rfl) rfl) dJ0_charAt_5068e_12 w5_158)) dJ0_charAt_5068e_15) (t_ret (cv := cvI) (fun _ _ => rfl) (s_of_xI (x_call (ts := [(0, 2), (1, 0)]) kJ2_charAt_3b067 mokJ2_charAt_3b067 w5_170 rfl rfl rfl (a_I (ts := [(0, 2)]) 1 (a_R (ts := []) 0 a_nil (s_tval (s_aload_n dJ0_charAt_5068e_16 rfl rfl) dJ0_charAt_5068e_17 w6_9) rfl) (s_iload_n dJ0_charAt_5068e_20 rfl rfl) rfl) dJ0_charAt_5068e_21 w5_169)) dJ0_charAt_5068e_24) lda_nil lda_nil)
noncomputable def DJ0_charAt_5068e : Fr → St → Option (Int32 × St) := MN .char (fun f => (sI (sR fr0 0 (gR f 0)) 1 (gI f 1))) BJ0_charAt_5068e
theorem kJ0_charAt_5068e : SND yJ0_charAt_5068e cJ0_charAt_5068e 2 (some .char) 3 [(0, 2), (1, 0)] cvoI DJ0_charAt_5068e := snd_core (nw := 2) (cn := (fun f => (sI (sR fr0 0 (gR f 0)) 1 (gI f 1)))) ends_C (by decide) (fun z => by cases z) rfl rfl (fun _ _ => rfl) rfl sBJ0_charAt_5068e rfl _ (fun g h v h' q => mN_D q)
theorem dJ0_coder_7d493_0 : decode cJ0_coder_7d493 0 = .ok (.getstatic 38, 3) := by decide +kernel
theorem dJ0_coder_7d493_3 : decode cJ0_coder_7d493 3 = .ok (.ifCond .eq 10, 3) := by decide +kernel
theorem dJ0_coder_7d493_6 : decode cJ0_coder_7d493 6 = .ok (.aload_n 0, 1) := by decide +kernel
theorem dJ0_coder_7d493_7 : decode cJ0_coder_7d493 7 = .ok (.getfield 15, 3) := by decide +kernel
theorem dJ0_coder_7d493_10 : decode cJ0_coder_7d493 10 = .ok (.goto 4, 3) := by decide +kernel
theorem dJ0_coder_7d493_13 : decode cJ0_coder_7d493 13 = .ok (.iconst 1, 1) := by decide +kernel
theorem dJ0_coder_7d493_14 : decode cJ0_coder_7d493 14 = .ok (.ireturn, 1) := by decide +kernel
theorem mokJ0_coder_7d493 : MOK yJ0_coder_7d493 cJ0_coder_7d493 1 (some .byte) 0 := ⟨w5_147, w1_14, ⟨by decide, by decide⟩, by decide +kernel, by decide⟩
abbrev miJ0_coder_7d493 : MI := (yJ0_coder_7d493.cls, cJ0_coder_7d493, 1, 1, false)
noncomputable def BJ0_coder_7d493 : Sm Int32 := (dRet (dT (dCZ q_ne (cI 1)) (dTc (vR 0)) (cI 1)))
theorem sBJ0_coder_7d493 : SS (cvoI, .ireturn) miJ0_coder_7d493 [] [] [] [(0, 2)] [(0, 2)] 0 [] BJ0_coder_7d493 := (t_ret (cv := cvI) (fun _ _ => rfl) (s_T (pT := 6) (pF := 13) (p1 := 10) (pe := 14) (c_ne_ZF (pF := 13) (s_cstr dJ0_coder_7d493_0 w5_148) dJ0_coder_7d493_3 rfl) (s_tcod (s_aload_n dJ0_coder_7d493_6 rfl rfl) dJ0_coder_7d493_7 w6_10) (s_iconst dJ0_coder_7d493_13 rfl) (ld_goto (y := 14) dJ0_coder_7d493_10 rfl (ld_in rfl))) dJ0_coder_7d493_14)
noncomputable def DJ0_coder_7d493 : Fr → St → Option (Int32 × St) := MN .byte (fun f => (sR fr0 0 (gR f 0))) BJ0_coder_7d493
theorem kJ0_coder_7d493 : SND yJ0_coder_7d493 cJ0_coder_7d493 1 (some .byte) 1 [(0, 2)] cvoI DJ0_coder_7d493 := snd_core (nw := 1) (cn := (fun f => (sR fr0 0 (gR f 0)))) ends_B (by decide) (fun z => by cases z) rfl rfl (fun _ _ => rfl) rfl sBJ0_coder_7d493 rfl _ (fun g h v h' q => mN_D q)
theorem dJ0_length_8abf5_0 : decode cJ0_length_8abf5 0 = .ok (.aload_n 0, 1) := by decide +kernel
theorem dJ0_length_8abf5_1 : decode cJ0_length_8abf5 1 = .ok (.getfield 9, 3) := by decide +kernel
theorem dJ0_length_8abf5_4 : decode cJ0_length_8abf5 4 = .ok (.arraylength, 1) := by decide +kernel
theorem dJ0_length_8abf5_5 : decode cJ0_length_8abf5 5 = .ok (.aload_n 0, 1) := by decide +kernel
theorem dJ0_length_8abf5_6 : decode cJ0_length_8abf5 6 = .ok (.invokevirtual 335, 3) := by decide +kernel
theorem dJ0_length_8abf5_9 : decode cJ0_length_8abf5 9 = .ok (.ishr, 1) := by decide +kernel
theorem dJ0_length_8abf5_10 : decode cJ0_length_8abf5 10 = .ok (.ireturn, 1) := by decide +kernel
theorem mokJ0_length_8abf5 : MOK yJ0_length_8abf5 cJ0_length_8abf5 1 (some .int) 0 := ⟨w5_143, w1_14, ⟨by decide, by decide⟩, by decide +kernel, by decide⟩
abbrev miJ0_length_8abf5 : MI := (yJ0_length_8abf5.cls, cJ0_length_8abf5, 1, 2, false)
noncomputable def BJ0_length_8abf5 : Sm Int32 := (dRet (d2 o_ishr (dLen (dTv (vR 0))) (dCallV 19 DJ0_coder_7d493 (aR aN 0 (vR 0)))))
theorem sBJ0_length_8abf5 : SS (cvoI, .ireturn) miJ0_length_8abf5 [] [] [] [(0, 2)] [(0, 2)] 0 [] BJ0_length_8abf5 := (t_ret (cv := cvI) (fun _ _ => rfl) (s_ishr (s_len (s_tval (s_aload_n dJ0_length_8abf5_0 rfl rfl) dJ0_length_8abf5_1 w6_9) dJ0_length_8abf5_4) (s_of_xI (x_callT (ts := [(0, 2)]) rfl kJ0_coder_7d493 mokJ0_coder_7d493 w5_145 w5_146 rfl rfl rfl rfl (a_R (ts := []) 0 a_nil (s_aload_n dJ0_length_8abf5_5 rfl rfl) rfl) dJ0_length_8abf5_6 w5_144)) dJ0_length_8abf5_9) dJ0_length_8abf5_10)
noncomputable def DJ0_length_8abf5 : Fr → St → Option (Int32 × St) := M1 (fun f => (sR fr0 0 (gR f 0))) BJ0_length_8abf5
theorem kJ0_length_8abf5 : SND yJ0_length_8abf5 cJ0_length_8abf5 1 (some .int) 2 [(0, 2)] cvoI DJ0_length_8abf5 := snd_I (nw := 1) (by decide) rfl rfl (fun _ _ => rfl) sBJ0_length_8abf5
theorem dX9_isAt_0 : decode cX9_isAt 0 = .ok (.aload_n 0, 1) := by decide +kernel
theorem dX9_isAt_1 : decode cX9_isAt 1 = .ok (.getfield 36, 3) := by decide +kernel
theorem dX9_isAt_4 : decode cX9_isAt 4 = .ok (.iconst 1, 1) := by decide +kernel
theorem dX9_isAt_5 : decode cX9_isAt 5 = .ok (.if_icmp .ne 19, 3) := by decide +kernel
theorem dX9_isAt_8 : decode cX9_isAt 8 = .ok (.aload_n 0, 1) := by decide +kernel
theorem dX9_isAt_9 : decode cX9_isAt 9 = .ok (.getfield 19, 3) := by decide +kernel
theorem dX9_isAt_12 : decode cX9_isAt 12 = .ok (.aload_n 0, 1) := by decide +kernel
theorem dX9_isAt_13 : decode cX9_isAt 13 = .ok (.getfield 22, 3) := by decide +kernel
theorem dX9_isAt_16 : decode cX9_isAt 16 = .ok (.isub, 1) := by decide +kernel
theorem dX9_isAt_17 : decode cX9_isAt 17 = .ok (.aload_n 1, 1) := by decide +kernel
theorem dX9_isAt_18 : decode cX9_isAt 18 = .ok (.invokevirtual 48, 3) := by decide +kernel
theorem dX9_isAt_21 : decode cX9_isAt 21 = .ok (.if_icmp .eq 5, 3) := by decide +kernel
theorem dX9_isAt_24 : decode cX9_isAt 24 = .ok (.iconst 0, 1) := by decide +kernel
theorem dX9_isAt_25 : decode cX9_isAt 25 = .ok (.ireturn, 1) := by decide +kernel
theorem dX9_isAt_26 : decode cX9_isAt 26 = .ok (.iconst 0, 1) := by decide +kernel
theorem dX9_isAt_27 : decode cX9_isAt 27 = .ok (.istore_n 2, 1) := by decide +kernel
theorem dX9_isAt_28 : decode cX9_isAt 28 = .ok (.iload_n 2, 1) := by decide +kernel
theorem dX9_isAt_29 : decode cX9_isAt 29 = .ok (.aload_n 1, 1) := by decide +kernel
theorem dX9_isAt_30 : decode cX9_isAt 30 = .ok (.invokevirtual 48, 3) := by decide +kernel
theorem dX9_isAt_33 : decode cX9_isAt 33 = .ok (.if_icmp .ge 29, 3) := by decide +kernel
theorem dX9_isAt_36 : decode cX9_isAt 36 = .ok (.aload_n 0, 1) := by decide +kernel
theorem dX9_isAt_37 : decode cX9_isAt 37 = .ok (.aload_n 0, 1) := by decide +kernel
theorem dX9_isAt_38 : decode cX9_isAt 38 = .ok (.getfield 22, 3) := by decide +kernel
theorem dX9_isAt_41 : decode cX9_isAt 41 = .ok (.iload_n 2, 1) := by decide +kernel
theorem dX9_isAt_42 : decode cX9_isAt 42 = .ok (.iadd, 1) := by decide +kernel
theorem dX9_isAt_43 : decode cX9_isAt 43 = .ok (.invokevirtual 25, 3) := by decide +kernel
theorem dX9_isAt_46 : decode cX9_isAt 46 = .ok (.aload_n 1, 1) := by decide +kernel
theorem dX9_isAt_47 : decode cX9_isAt 47 = .ok (.iload_n 2, 1) := by decide +kernel
theorem dX9_isAt_48 : decode cX9_isAt 48 = .ok (.invokevirtual 54, 3) := by decide +kernel
theorem dX9_isAt_51 : decode cX9_isAt 51 = .ok (.if_icmp .eq 5, 3) := by decide +kernel
theorem dX9_isAt_54 : decode cX9_isAt 54 = .ok (.iconst 0, 1) := by decide +kernel
theorem dX9_isAt_55 : decode cX9_isAt 55 = .ok (.ireturn, 1) := by decide +kernel
theorem dX9_isAt_56 : decode cX9_isAt 56 = .ok (.iinc 2 1, 3) := by decide +kernel
theorem dX9_isAt_59 : decode cX9_isAt 59 = .ok (.goto (-31), 3) := by decide +kernel
theorem dX9_isAt_62 : decode cX9_isAt 62 = .ok (.iconst 1, 1) := by decide +kernel
theorem dX9_isAt_63 : decode cX9_isAt 63 = .ok (.ireturn, 1) := by decide +kernel
theorem mokX9_isAt : MOK yX9_isAt cX9_isAt 3 (some .boolean) 1 := ⟨w5_139, w1_2, ⟨by decide, by decide⟩, by decide +kernel, by decide⟩
abbrev miX9_isAt : MI := (yX9_isAt.cls, cX9_isAt, 3, 4, false)
noncomputable def LX9_isAt_1 : Sm Int32 := dLoop (fun f => (sI (sR (sR fr0 0 (gR f 0)) 1 (gR f 1)) 2 (gI f 2))) (dCI r_lt (vI 2) (dCallV 19 DJ0_length_8abf5 (aR aN 0 (vR 1)))) (dIf (dCI r_ne (dCallV 9 DX9_byteAt (aI (aR aN 0 (vR 0)) 1 (d2 o_iadd (dGI 9 3 (vR 0)) (vI 2)))) (dCallV 19 DJ0_charAt_5068e (aI (aR aN 0 (vR 1)) 1 (vI 2)))) (dRet (cI 0)) dSkip) (dInc 2 1)
theorem sLX9_isAt_1 {ΓL : Gm} {PB PK : List Nat} : SS (cvoI, .ireturn) miX9_isAt ΓL PB PK [(0, 2), (1, 2), (2, 0)] [(0, 2), (1, 2), (2, 0)] 28 [62] LX9_isAt_1 := t_loop (pT := 36) (pF := 62) (pu := 56) (PB' := []) (PK' := []) (XB := [56]) (XU := [59]) (fun _ _ => rfl) rfl (c_lt_F (pF := 62) (s_iload_n dX9_isAt_28 rfl rfl) (s_of_xI (x_callT (ts := [(0, 2)]) rfl kJ0_length_8abf5 mokJ0_length_8abf5 w5_141 w5_142 rfl rfl rfl rfl (a_R (ts := []) 0 a_nil (s_aload_n dX9_isAt_29 rfl rfl) rfl) dX9_isAt_30 w5_140)) dX9_isAt_33 rfl) (t_if (pT := 54) (pF := 56) (X := [56]) (XA := []) (XB := [56]) (c_ne_F (pF := 56) (s_of_xI (x_callV (ts := [(0, 2), (1, 0)]) ck9 rfl kX9_byteAt mokX9_byteAt w5_112 ps2_3 rfl rfl rfl rfl (a_I (ts := [(0, 2)]) 1 (a_R (ts := []) 0 a_nil (s_aload_n dX9_isAt_36 rfl rfl) rfl) (s_iadd (s_getI ck9 3 (by decide) rfl (s_aload_n dX9_isAt_37 rfl rfl) dX9_isAt_38 w1_40) (s_iload_n dX9_isAt_41 rfl rfl) dX9_isAt_42) rfl) dX9_isAt_43 w5_110)) (s_of_xI (x_callT (ts := [(0, 2), (1, 0)]) rfl kJ0_charAt_5068e mokJ0_charAt_5068e w5_151 w5_152 rfl rfl rfl rfl (a_I (ts := [(0, 2)]) 1 (a_R (ts := []) 0 a_nil (s_aload_n dX9_isAt_46 rfl rfl) rfl) (s_iload_n dX9_isAt_47 rfl rfl) rfl) dX9_isAt_48 w5_150)) dX9_isAt_51 rfl) (t_ret (cv := cvI) (fun _ _ => rfl) (s_iconst dX9_isAt_54 rfl) dX9_isAt_55) (t_skip (ld_in rfl) rfl) lda_nil (lda_cons (ld_in rfl) lda_nil)) (t_iinc dX9_isAt_56 rfl rfl rfl rfl) (lda_cons (ld_in rfl) lda_nil) lda_nil (lda_cons (ld_goto (y := 28) dX9_isAt_59 rfl (ld_in rfl)) lda_nil) (ld_in rfl) lda_nil
noncomputable def BX9_isAt : Sm Int32 := (dSeq (dIf (dOr (dCI r_ne (dGI 9 2 (vR 0)) (cI 1)) (dCI r_ne (d2 o_isub (dGI 9 5 (vR 0)) (dGI 9 3 (vR 0))) (dCallV 19 DJ0_length_8abf5 (aR aN 0 (vR 1))))) (dRet (cI 0)) dSkip) (dSeq (dSeq (dSetI 2 (cI 0)) LX9_isAt_1) (dRet (cI 1))))
theorem sBX9_isAt : SS (cvoI, .ireturn) miX9_isAt [] [] [] [(0, 2), (1, 2)] [(0, 2), (1, 2)] 0 [] BX9_isAt := (t_sq (p1 := 26) (Γ' := [(0, 2), (1, 2)]) (t_if (pT := 24) (pF := 26) (X := [26]) (XA := []) (XB := [26]) (c_or (p1 := 8) (pT := 24) (pF := 26) (c_ne_J (pT := 24) (s_getI ck9 2 (by decide) rfl (s_aload_n dX9_isAt_0 rfl rfl) dX9_isAt_1 w1_39) (s_iconst dX9_isAt_4 rfl) dX9_isAt_5 rfl) (c_ne_F (pF := 26) (s_isub (s_getI ck9 5 (by decide) rfl (s_aload_n dX9_isAt_8 rfl rfl) dX9_isAt_9 w1_44) (s_getI ck9 3 (by decide) rfl (s_aload_n dX9_isAt_12 rfl rfl) dX9_isAt_13 w1_40) dX9_isAt_16) (s_of_xI (x_callT (ts := [(0, 2)]) rfl kJ0_length_8abf5 mokJ0_length_8abf5 w5_141 w5_142 rfl rfl rfl rfl (a_R (ts := []) 0 a_nil (s_aload_n dX9_isAt_17 rfl rfl) rfl) dX9_isAt_18 w5_140)) dX9_isAt_21 rfl)) (t_ret (cv := cvI) (fun _ _ => rfl) (s_iconst dX9_isAt_24 rfl) dX9_isAt_25) (t_skip (ld_in rfl) rfl) lda_nil (lda_cons (ld_in rfl) lda_nil)) (t_sq (p1 := 62) (Γ' := [(0, 2), (1, 2)]) (t_sq (p1 := 28) (Γ' := [(0, 2), (1, 2), (2, 0)]) (t_istore_n (s_iconst dX9_isAt_26 rfl) dX9_isAt_27 rfl rfl rfl) (tn_to (Γ' := [(0, 2), (1, 2), (2, 0)]) (XA := [62]) sLX9_isAt_1 (lda_cons (ld_in rfl) lda_nil) rfl)) (t_ret (cv := cvI) (fun _ _ => rfl) (s_iconst dX9_isAt_62 rfl) dX9_isAt_63)))
noncomputable def DX9_isAt : Fr → St → Option (Int32 × St) := MZ (fun f => (sR (sR fr0 0 (gR f 0)) 1 (gR f 1))) BX9_isAt
theorem kX9_isAt : SND yX9_isAt cX9_isAt 3 (some .boolean) 4 [(0, 2), (1, 2)] cvoI DX9_isAt := snd_Z (nw := 2) (by decide) rfl rfl (fun _ _ => rfl) sBX9_isAt
theorem dX6_readWord_0 : decode cX6_readWord 0 = .ok (.aload_n 1, 1) := by decide +kernel
theorem dX6_readWord_1 : decode cX6_readWord 1 = .ok (.aload_n 2, 1) := by decide +kernel
theorem dX6_readWord_2 : decode cX6_readWord 2 = .ok (.invokevirtual 62, 3) := by decide +kernel
theorem dX6_readWord_5 : decode cX6_readWord 5 = .ok (.ifCond .ne 10, 3) := by decide +kernel
theorem dX6_readWord_8 : decode cX6_readWord 8 = .ok (.aload_n 0, 1) := by decide +kernel
theorem dX6_readWord_9 : decode cX6_readWord 9 = .ok (.aload_n 1, 1) := by decide +kernel
theorem dX6_readWord_10 : decode cX6_readWord 10 = .ok (.iconst 1, 1) := by decide +kernel
theorem dX6_readWord_11 : decode cX6_readWord 11 = .ok (.invokevirtual 105, 3) := by decide +kernel
theorem dX6_readWord_14 : decode cX6_readWord 14 = .ok (.ireturn, 1) := by decide +kernel
theorem dX6_readWord_15 : decode cX6_readWord 15 = .ok (.aload_n 1, 1) := by decide +kernel
theorem dX6_readWord_16 : decode cX6_readWord 16 = .ok (.invokevirtual 28, 3) := by decide +kernel
theorem dX6_readWord_19 : decode cX6_readWord 19 = .ok (.iconst 1, 1) := by decide +kernel
theorem dX6_readWord_20 : decode cX6_readWord 20 = .ok (.ireturn, 1) := by decide +kernel
theorem mokX6_readWord : MOK yX6_readWord cX6_readWord 3 (some .boolean) 2 := ⟨w5_135, w1_3, ⟨by decide, by decide⟩, by decide +kernel, by decide⟩
abbrev miX6_readWord : MI := (yX6_readWord.cls, cX6_readWord, 3, 5, false)
noncomputable def BX6_readWord : Sm Int32 := (dSeq (dIf (dNot (dCZ q_ne (dCallV 9 DX9_isAt (aR (aR aN 0 (vR 1)) 1 (vR 2))))) (dRet (dCallV 6 DX6_fail (aI (aR (aR aN 0 (vR 0)) 1 (vR 1)) 2 (cI 1)))) dSkip) (dSeq (dDo (dCallV 9 DX9_next (aR aN 0 (vR 1)))) (dRet (cI 1))))
theorem sBX6_readWord : SS (cvoI, .ireturn) miX6_readWord [] [] [] [(0, 2), (1, 2), (2, 2)] [(0, 2), (1, 2), (2, 2)] 0 [] BX6_readWord := (t_sq (p1 := 15) (Γ' := [(0, 2), (1, 2), (2, 2)]) (t_if (pT := 8) (pF := 15) (X := [15]) (XA := []) (XB := [15]) (c_not (pT := 8) (pF := 15) (c_ne_ZJ (pT := 15) (s_of_xI (x_callV (ts := [(0, 2), (1, 2)]) ck9 rfl kX9_isAt mokX9_isAt w5_137 w5_138 rfl rfl rfl rfl (a_R (ts := [(0, 2)]) 1 (a_R (ts := []) 0 a_nil (s_aload_n dX6_readWord_0 rfl rfl) rfl) (s_aload_n dX6_readWord_1 rfl rfl) rfl) dX6_readWord_2 w5_136)) dX6_readWord_5 rfl)) (t_ret (cv := cvI) (fun _ _ => rfl) (s_of_xI (x_callV (ts := [(0, 2), (1, 2), (2, 0)]) ck6 rfl kX6_fail mokX6_fail w5_190 ps2_7 rfl rfl rfl rfl (a_I (ts := [(0, 2), (1, 2)]) 2 (a_R (ts := [(0, 2)]) 1 (a_R (ts := []) 0 a_nil (s_aload_n dX6_readWord_8 rfl rfl) rfl) (s_aload_n dX6_readWord_9 rfl rfl) rfl) (s_iconst dX6_readWord_10 rfl) rfl) dX6_readWord_11 w5_188)) dX6_readWord_14) (t_skip (ld_in rfl) rfl) lda_nil (lda_cons (ld_in rfl) lda_nil)) (t_sq (p1 := 19) (Γ' := [(0, 2), (1, 2), (2, 2)]) (t_do (x_callV (ts := [(0, 2)]) ck9 rfl kX9_next mokX9_next w5_107 w5_108 rfl rfl rfl rfl (a_R (ts := []) 0 a_nil (s_aload_n dX6_readWord_15 rfl rfl) rfl) dX6_readWord_16 w5_106) rfl) (t_ret (cv := cvI) (fun _ _ => rfl) (s_iconst dX6_readWord_19 rfl) dX6_readWord_20)))
noncomputable def DX6_readWord : Fr → St → Option (Int32 × St) := MZ (fun f => (sR (sR (sR fr0 0 (gR f 0)) 1 (gR f 1)) 2 (gR f 2))) BX6_readWord
theorem kX6_readWord : SND yX6_readWord cX6_readWord 3 (some .boolean) 5 [(0, 2), (1, 2), (2, 2)] cvoI DX6_readWord := snd_Z (nw := 3) (by decide) rfl rfl (fun _ _ => rfl) sBX6_readWord
theorem dX6_readAmount_0 : decode cX6_readAmount 0 = .ok (.aload_n 0, 1) := by decide +kernel
theorem dX6_readAmount_1 : decode cX6_readAmount 1 = .ok (.aload_n 1, 1) := by decide +kernel
theorem dX6_readAmount_2 : decode cX6_readAmount 2 = .ok (.aload_n 2, 1) := by decide +kernel
theorem dX6_readAmount_3 : decode cX6_readAmount 3 = .ok (.invokevirtual 111, 3) := by decide +kernel
theorem dX6_readAmount_6 : decode cX6_readAmount 6 = .ok (.ifCond .eq 14, 3) := by decide +kernel
theorem dX6_readAmount_9 : decode cX6_readAmount 9 = .ok (.aload_n 0, 1) := by decide +kernel
theorem dX6_readAmount_10 : decode cX6_readAmount 10 = .ok (.aload_n 1, 1) := by decide +kernel
theorem dX6_readAmount_11 : decode cX6_readAmount 11 = .ok (.iload_n 3, 1) := by decide +kernel
theorem dX6_readAmount_12 : decode cX6_readAmount 12 = .ok (.iload 4, 2) := by decide +kernel
theorem dX6_readAmount_14 : decode cX6_readAmount 14 = .ok (.invokevirtual 140, 3) := by decide +kernel
theorem dX6_readAmount_17 : decode cX6_readAmount 17 = .ok (.goto 4, 3) := by decide +kernel
theorem dX6_readAmount_20 : decode cX6_readAmount 20 = .ok (.iconst (-1), 1) := by decide +kernel
theorem dX6_readAmount_21 : decode cX6_readAmount 21 = .ok (.ireturn, 1) := by decide +kernel
theorem mokX6_readAmount : MOK yX6_readAmount cX6_readAmount 5 (some .int) 4 := ⟨w5_196, w1_3, ⟨by decide, by decide⟩, by decide +kernel, by decide⟩
abbrev miX6_readAmount : MI := (yX6_readAmount.cls, cX6_readAmount, 5, 6, false)
noncomputable def BX6_readAmount : Sm Int32 := (dRet (dT (dCZ q_ne (dCallV 6 DX6_readWord (aR (aR (aR aN 0 (vR 0)) 1 (vR 1)) 2 (vR 2)))) (dCallV 6 DX6_readNumber (aI (aI (aR (aR aN 0 (vR 0)) 1 (vR 1)) 2 (vI 3)) 3 (vI 4))) (cI (-1))))
theorem sBX6_readAmount : SS (cvoI, .ireturn) miX6_readAmount [] [] [] [(0, 2), (1, 2), (2, 2), (3, 0), (4, 0)] [(0, 2), (1, 2), (2, 2), (3, 0), (4, 0)] 0 [] BX6_readAmount := (t_ret (cv := cvI) (fun _ _ => rfl) (s_T (pT := 9) (pF := 20) (p1 := 17) (pe := 21) (c_ne_ZF (pF := 20) (s_of_xI (x_callV (ts := [(0, 2), (1, 2), (2, 2)]) ck6 rfl kX6_readWord mokX6_readWord w5_134 ps2_6 rfl rfl rfl rfl (a_R (ts := [(0, 2), (1, 2)]) 2 (a_R (ts := [(0, 2)]) 1 (a_R (ts := []) 0 a_nil (s_aload_n dX6_readAmount_0 rfl rfl) rfl) (s_aload_n dX6_readAmount_1 rfl rfl) rfl) (s_aload_n dX6_readAmount_2 rfl rfl) rfl) dX6_readAmount_3 w5_132)) dX6_readAmount_6 rfl) (s_of_xI (x_callV (ts := [(0, 2), (1, 2), (2, 0), (3, 0)]) ck6 rfl kX6_readNumber mokX6_readNumber w5_199 ps2_9 rfl rfl rfl rfl (a_I (ts := [(0, 2), (1, 2), (2, 0)]) 3 (a_I (ts := [(0, 2), (1, 2)]) 2 (a_R (ts := [(0, 2)]) 1 (a_R (ts := []) 0 a_nil (s_aload_n dX6_readAmount_9 rfl rfl) rfl) (s_aload_n dX6_readAmount_10 rfl rfl) rfl) (s_iload_n dX6_readAmount_11 rfl rfl) rfl) (s_iload dX6_readAmount_12 rfl) rfl) dX6_readAmount_14 w5_197)) (s_iconst dX6_readAmount_20 rfl) (ld_goto (y := 21) dX6_readAmount_17 rfl (ld_in rfl))) dX6_readAmount_21)
noncomputable def DX6_readAmount : Fr → St → Option (Int32 × St) := M1 (fun f => (sI (sI (sR (sR (sR fr0 0 (gR f 0)) 1 (gR f 1)) 2 (gR f 2)) 3 (gI f 3)) 4 (gI f 4))) BX6_readAmount
theorem kX6_readAmount : SND yX6_readAmount cX6_readAmount 5 (some .int) 6 [(0, 2), (1, 2), (2, 2), (3, 0), (4, 0)] cvoI DX6_readAmount := snd_I (nw := 5) (by decide) rfl rfl (fun _ _ => rfl) sBX6_readAmount
theorem dX6_readCarrier_0 : decode cX6_readCarrier 0 = .ok (.aload_n 1, 1) := by decide +kernel
theorem dX6_readCarrier_1 : decode cX6_readCarrier 1 = .ok (.invokevirtual 28, 3) := by decide +kernel
theorem dX6_readCarrier_4 : decode cX6_readCarrier 4 = .ok (.aload_n 2, 1) := by decide +kernel
theorem dX6_readCarrier_5 : decode cX6_readCarrier 5 = .ok (.getfield 153, 3) := by decide +kernel
theorem dX6_readCarrier_8 : decode cX6_readCarrier 8 = .ok (.aload_n 2, 1) := by decide +kernel
theorem dX6_readCarrier_9 : decode cX6_readCarrier 9 = .ok (.getfield 86, 3) := by decide +kernel
theorem dX6_readCarrier_12 : decode cX6_readCarrier 12 = .ok (.aload_n 0, 1) := by decide +kernel
theorem dX6_readCarrier_13 : decode cX6_readCarrier 13 = .ok (.aload_n 1, 1) := by decide +kernel
theorem dX6_readCarrier_14 : decode cX6_readCarrier 14 = .ok (.ldc 156, 2) := by decide +kernel
theorem dX6_readCarrier_16 : decode cX6_readCarrier 16 = .ok (.iconst 0, 1) := by decide +kernel
theorem dX6_readCarrier_17 : decode cX6_readCarrier 17 = .ok (.aload_n 2, 1) := by decide +kernel
theorem dX6_readCarrier_18 : decode cX6_readCarrier 18 = .ok (.getfield 66, 3) := by decide +kernel
theorem dX6_readCarrier_21 : decode cX6_readCarrier 21 = .ok (.iconst 1, 1) := by decide +kernel
theorem dX6_readCarrier_22 : decode cX6_readCarrier 22 = .ok (.isub, 1) := by decide +kernel
theorem dX6_readCarrier_23 : decode cX6_readCarrier 23 = .ok (.invokevirtual 117, 3) := by decide +kernel
theorem dX6_readCarrier_26 : decode cX6_readCarrier 26 = .ok (.invokestatic 136, 3) := by decide +kernel
theorem dX6_readCarrier_29 : decode cX6_readCarrier 29 = .ok (.aload_n 0, 1) := by decide +kernel
theorem dX6_readCarrier_30 : decode cX6_readCarrier 30 = .ok (.getfield 15, 3) := by decide +kernel
theorem dX6_readCarrier_33 : decode cX6_readCarrier 33 = .ok (.ifCond .eq 5, 3) := by decide +kernel
theorem dX6_readCarrier_36 : decode cX6_readCarrier 36 = .ok (.iconst 0, 1) := by decide +kernel
theorem dX6_readCarrier_37 : decode cX6_readCarrier 37 = .ok (.ireturn, 1) := by decide +kernel
theorem dX6_readCarrier_38 : decode cX6_readCarrier 38 = .ok (.aload_n 2, 1) := by decide +kernel
theorem dX6_readCarrier_39 : decode cX6_readCarrier 39 = .ok (.getfield 158, 3) := by decide +kernel
theorem dX6_readCarrier_42 : decode cX6_readCarrier 42 = .ok (.aload_n 2, 1) := by decide +kernel
theorem dX6_readCarrier_43 : decode cX6_readCarrier 43 = .ok (.getfield 86, 3) := by decide +kernel
theorem dX6_readCarrier_46 : decode cX6_readCarrier 46 = .ok (.aload_n 0, 1) := by decide +kernel
theorem dX6_readCarrier_47 : decode cX6_readCarrier 47 = .ok (.aload_n 1, 1) := by decide +kernel
theorem dX6_readCarrier_48 : decode cX6_readCarrier 48 = .ok (.ldc 161, 2) := by decide +kernel
theorem dX6_readCarrier_50 : decode cX6_readCarrier 50 = .ok (.iconst 0, 1) := by decide +kernel
theorem dX6_readCarrier_51 : decode cX6_readCarrier 51 = .ok (.bipush 99, 2) := by decide +kernel
theorem dX6_readCarrier_53 : decode cX6_readCarrier 53 = .ok (.invokevirtual 117, 3) := by decide +kernel
theorem dX6_readCarrier_56 : decode cX6_readCarrier 56 = .ok (.invokestatic 136, 3) := by decide +kernel
theorem dX6_readCarrier_59 : decode cX6_readCarrier 59 = .ok (.aload_n 2, 1) := by decide +kernel
theorem dX6_readCarrier_60 : decode cX6_readCarrier 60 = .ok (.dup, 1) := by decide +kernel
theorem dX6_readCarrier_61 : decode cX6_readCarrier 61 = .ok (.getfield 86, 3) := by decide +kernel
theorem dX6_readCarrier_64 : decode cX6_readCarrier 64 = .ok (.iconst 1, 1) := by decide +kernel
theorem dX6_readCarrier_65 : decode cX6_readCarrier 65 = .ok (.iadd, 1) := by decide +kernel
theorem dX6_readCarrier_66 : decode cX6_readCarrier 66 = .ok (.putfield 86, 3) := by decide +kernel
theorem dX6_readCarrier_69 : decode cX6_readCarrier 69 = .ok (.aload_n 0, 1) := by decide +kernel
theorem dX6_readCarrier_70 : decode cX6_readCarrier 70 = .ok (.getfield 15, 3) := by decide +kernel
theorem dX6_readCarrier_73 : decode cX6_readCarrier 73 = .ok (.ifCond .ne 7, 3) := by decide +kernel
theorem dX6_readCarrier_76 : decode cX6_readCarrier 76 = .ok (.iconst 1, 1) := by decide +kernel
theorem dX6_readCarrier_77 : decode cX6_readCarrier 77 = .ok (.goto 4, 3) := by decide +kernel
theorem dX6_readCarrier_80 : decode cX6_readCarrier 80 = .ok (.iconst 0, 1) := by decide +kernel
theorem dX6_readCarrier_81 : decode cX6_readCarrier 81 = .ok (.ireturn, 1) := by decide +kernel
theorem mokX6_readCarrier : MOK yX6_readCarrier cX6_readCarrier 3 (some .boolean) 2 := ⟨w5_223, w1_3, ⟨by decide, by decide⟩, by decide +kernel, by decide⟩
abbrev miX6_readCarrier : MI := (yX6_readCarrier.cls, cX6_readCarrier, 3, 7, false)
noncomputable def BX6_readCarrier : Sm Int32 := (dSeq (dDo (dCallV 9 DX9_next (aR aN 0 (vR 1)))) (dSeq (dDo (dCall DX11_put (aI (aI (aR aN 0 (dGR 5 11 (vR 2))) 1 (dGI 5 6 (vR 2))) 2 (dCallV 6 DX6_readAmount (aI (aI (aR (aR (aR aN 0 (vR 0)) 1 (vR 1)) 2 (cR 11)) 3 (cI 0)) 4 (d2 o_isub (dGI 5 4 (vR 2)) (cI 1))))))) (dSeq (dIf (dCZ q_ne (dGI 6 0 (vR 0))) (dRet (cI 0)) dSkip) (dSeq (dDo (dCall DX11_put (aI (aI (aR aN 0 (dGR 5 12 (vR 2))) 1 (dGI 5 6 (vR 2))) 2 (dCallV 6 DX6_readAmount (aI (aI (aR (aR (aR aN 0 (vR 0)) 1 (vR 1)) 2 (cR 12)) 3 (cI 0)) 4 (cI 99)))))) (dSeq (dUF 5 6 o_iadd (vR 2) (cI 1)) (dRet (dB (dCZ q_eq (dGI 6 0 (vR 0))))))))))
theorem sBX6_readCarrier : SS (cvoI, .ireturn) miX6_readCarrier [] [] [] [(0, 2), (1, 2), (2, 2)] [(0, 2), (1, 2), (2, 2)] 0 [] BX6_readCarrier := (t_sq (p1 := 4) (Γ' := [(0, 2), (1, 2), (2, 2)]) (t_do (x_callV (ts := [(0, 2)]) ck9 rfl kX9_next mokX9_next w5_107 w5_108 rfl rfl rfl rfl (a_R (ts := []) 0 a_nil (s_aload_n dX6_readCarrier_0 rfl rfl) rfl) dX6_readCarrier_1 w5_106) rfl) (t_sq (p1 := 29) (Γ' := [(0, 2), (1, 2), (2, 2)]) (t_do (x_callN (ts := [(0, 2), (1, 0), (2, 0)]) kX11_put mokX11_put w3_65 rfl rfl rfl (a_I (ts := [(0, 2), (1, 0)]) 2 (a_I (ts := [(0, 2)]) 1 (a_R (ts := []) 0 a_nil (s_getR ck5 11 (by decide) rfl (s_aload_n dX6_readCarrier_4 rfl rfl) dX6_readCarrier_5 w1_169) rfl) (s_getI ck5 6 (by decide) rfl (s_aload_n dX6_readCarrier_8 rfl rfl) dX6_readCarrier_9 w1_155) rfl) (s_of_xI (x_callV (ts := [(0, 2), (1, 2), (2, 2), (3, 0), (4, 0)]) ck6 rfl kX6_readAmount mokX6_readAmount w5_195 ps2_8 rfl rfl rfl rfl (a_I (ts := [(0, 2), (1, 2), (2, 2), (3, 0)]) 4 (a_I (ts := [(0, 2), (1, 2), (2, 2)]) 3 (a_R (ts := [(0, 2), (1, 2)]) 2 (a_R (ts := [(0, 2)]) 1 (a_R (ts := []) 0 a_nil (s_aload_n dX6_readCarrier_12 rfl rfl) rfl) (s_aload_n dX6_readCarrier_13 rfl rfl) rfl) (s_ldcS 8 dX6_readCarrier_14 (by decide) rfl rfl) rfl) (s_iconst dX6_readCarrier_16 rfl) rfl) (s_isub (s_getI ck5 4 (by decide) rfl (s_aload_n dX6_readCarrier_17 rfl rfl) dX6_readCarrier_18 w1_145) (s_iconst dX6_readCarrier_21 rfl) dX6_readCarrier_22) rfl) dX6_readCarrier_23 w5_193)) rfl) dX6_readCarrier_26 nb27) rfl) (t_sq (p1 := 38) (Γ' := [(0, 2), (1, 2), (2, 2)]) (t_if (pT := 36) (pF := 38) (X := [38]) (XA := []) (XB := [38]) (c_ne_ZF (pF := 38) (s_getI ck6 0 (by decide) rfl (s_aload_n dX6_readCarrier_29 rfl rfl) dX6_readCarrier_30 w1_65) dX6_readCarrier_33 rfl) (t_ret (cv := cvI) (fun _ _ => rfl) (s_iconst dX6_readCarrier_36 rfl) dX6_readCarrier_37) (t_skip (ld_in rfl) rfl) lda_nil (lda_cons (ld_in rfl) lda_nil)) (t_sq (p1 := 59) (Γ' := [(0, 2), (1, 2), (2, 2)]) (t_do (x_callN (ts := [(0, 2), (1, 0), (2, 0)]) kX11_put mokX11_put w3_65 rfl rfl rfl (a_I (ts := [(0, 2), (1, 0)]) 2 (a_I (ts := [(0, 2)]) 1 (a_R (ts := []) 0 a_nil (s_getR ck5 12 (by decide) rfl (s_aload_n dX6_readCarrier_38 rfl rfl) dX6_readCarrier_39 w1_171) rfl) (s_getI ck5 6 (by decide) rfl (s_aload_n dX6_readCarrier_42 rfl rfl) dX6_readCarrier_43 w1_155) rfl) (s_of_xI (x_callV (ts := [(0, 2), (1, 2), (2, 2), (3, 0), (4, 0)]) ck6 rfl kX6_readAmount mokX6_readAmount w5_195 ps2_8 rfl rfl rfl rfl (a_I (ts := [(0, 2), (1, 2), (2, 2), (3, 0)]) 4 (a_I (ts := [(0, 2), (1, 2), (2, 2)]) 3 (a_R (ts := [(0, 2), (1, 2)]) 2 (a_R (ts := [(0, 2)]) 1 (a_R (ts := []) 0 a_nil (s_aload_n dX6_readCarrier_46 rfl rfl) rfl) (s_aload_n dX6_readCarrier_47 rfl rfl) rfl) (s_ldcS 9 dX6_readCarrier_48 (by decide) rfl rfl) rfl) (s_iconst dX6_readCarrier_50 rfl) rfl) (s_bipush dX6_readCarrier_51 rfl) rfl) dX6_readCarrier_53 w5_193)) rfl) dX6_readCarrier_56 nb27) rfl) (t_sq (p1 := 69) (Γ' := [(0, 2), (1, 2), (2, 2)]) (t_UF ck5 6 (by decide) rfl (Or.inl rfl) (s_aload_n dX6_readCarrier_59 rfl rfl) dX6_readCarrier_60 dX6_readCarrier_61 w1_155 (s_iconst dX6_readCarrier_64 rfl) (fun _ _ _ _ => rulI fun a b K => lv_iadd a b dX6_readCarrier_65 K) dX6_readCarrier_66 w1_155 rfl) (t_ret (cv := cvI) (fun _ _ => rfl) (s_B (pT := 76) (pF := 80) (pe := 81) (c_eq_ZF (pF := 80) (s_getI ck6 0 (by decide) rfl (s_aload_n dX6_readCarrier_69 rfl rfl) dX6_readCarrier_70 w1_65) dX6_readCarrier_73 rfl) dX6_readCarrier_76 dX6_readCarrier_77 rfl dX6_readCarrier_80 rfl) dX6_readCarrier_81))))))
noncomputable def DX6_readCarrier : Fr → St → Option (Int32 × St) := MZ (fun f => (sR (sR (sR fr0 0 (gR f 0)) 1 (gR f 1)) 2 (gR f 2))) BX6_readCarrier
theorem kX6_readCarrier : SND yX6_readCarrier cX6_readCarrier 3 (some .boolean) 7 [(0, 2), (1, 2), (2, 2)] cvoI DX6_readCarrier := snd_Z (nw := 3) (by decide) rfl rfl (fun _ _ => rfl) sBX6_readCarrier
theorem dX1_add_0 : decode cX1_add 0 = .ok (.aload_n 0, 1) := by decide +kernel
theorem dX1_add_1 : decode cX1_add 1 = .ok (.getfield 34, 3) := by decide +kernel
theorem dX1_add_4 : decode cX1_add 4 = .ok (.bipush 32, 2) := by decide +kernel
theorem dX1_add_6 : decode cX1_add 6 = .ok (.if_icmp .lt 4, 3) := by decide +kernel
theorem dX1_add_9 : decode cX1_add 9 = .ok (.return_, 1) := by decide +kernel
theorem dX1_add_10 : decode cX1_add 10 = .ok (.aload_n 0, 1) := by decide +kernel
theorem dX1_add_11 : decode cX1_add 11 = .ok (.getfield 9, 3) := by decide +kernel
theorem dX1_add_14 : decode cX1_add 14 = .ok (.aload_n 0, 1) := by decide +kernel
theorem dX1_add_15 : decode cX1_add 15 = .ok (.getfield 34, 3) := by decide +kernel
theorem dX1_add_18 : decode cX1_add 18 = .ok (.iload_n 1, 1) := by decide +kernel
theorem dX1_add_19 : decode cX1_add 19 = .ok (.invokestatic 46, 3) := by decide +kernel
theorem dX1_add_22 : decode cX1_add 22 = .ok (.aload_n 0, 1) := by decide +kernel
theorem dX1_add_23 : decode cX1_add 23 = .ok (.getfield 15, 3) := by decide +kernel
theorem dX1_add_26 : decode cX1_add 26 = .ok (.aload_n 0, 1) := by decide +kernel
theorem dX1_add_27 : decode cX1_add 27 = .ok (.getfield 34, 3) := by decide +kernel
theorem dX1_add_30 : decode cX1_add 30 = .ok (.iload_n 2, 1) := by decide +kernel
theorem dX1_add_31 : decode cX1_add 31 = .ok (.invokestatic 46, 3) := by decide +kernel
theorem dX1_add_34 : decode cX1_add 34 = .ok (.aload_n 0, 1) := by decide +kernel
theorem dX1_add_35 : decode cX1_add 35 = .ok (.getfield 18, 3) := by decide +kernel
theorem dX1_add_38 : decode cX1_add 38 = .ok (.aload_n 0, 1) := by decide +kernel
theorem dX1_add_39 : decode cX1_add 39 = .ok (.getfield 34, 3) := by decide +kernel
theorem dX1_add_42 : decode cX1_add 42 = .ok (.iload_n 3, 1) := by decide +kernel
theorem dX1_add_43 : decode cX1_add 43 = .ok (.invokestatic 46, 3) := by decide +kernel
theorem dX1_add_46 : decode cX1_add 46 = .ok (.aload_n 0, 1) := by decide +kernel
theorem dX1_add_47 : decode cX1_add 47 = .ok (.getfield 21, 3) := by decide +kernel
theorem dX1_add_50 : decode cX1_add 50 = .ok (.aload_n 0, 1) := by decide +kernel
theorem dX1_add_51 : decode cX1_add 51 = .ok (.getfield 34, 3) := by decide +kernel
theorem dX1_add_54 : decode cX1_add 54 = .ok (.iload 4, 2) := by decide +kernel
theorem dX1_add_56 : decode cX1_add 56 = .ok (.invokestatic 46, 3) := by decide +kernel
theorem dX1_add_59 : decode cX1_add 59 = .ok (.aload_n 0, 1) := by decide +kernel
theorem dX1_add_60 : decode cX1_add 60 = .ok (.dup, 1) := by decide +kernel
theorem dX1_add_61 : decode cX1_add 61 = .ok (.getfield 34, 3) := by decide +kernel
theorem dX1_add_64 : decode cX1_add 64 = .ok (.iconst 1, 1) := by decide +kernel
theorem dX1_add_65 : decode cX1_add 65 = .ok (.iadd, 1) := by decide +kernel
theorem dX1_add_66 : decode cX1_add 66 = .ok (.putfield 34, 3) := by decide +kernel
theorem dX1_add_69 : decode cX1_add 69 = .ok (.return_, 1) := by decide +kernel
theorem mokX1_add : MOK yX1_add cX1_add 5 none 4 := ⟨w4_129, w1_5, ⟨by decide, by decide⟩, by decide +kernel, by decide⟩
abbrev miX1_add : MI := (yX1_add.cls, cX1_add, 5, 2, false)
noncomputable def BX1_add : Sm Unit := (dSeq (dIf (dCI r_ge (dGI 1 1 (vR 0)) (cI 32)) dRet0 dSkip) (dSeq (dDo (dCall DX11_put (aI (aI (aR aN 0 (dGR 1 3 (vR 0))) 1 (dGI 1 1 (vR 0))) 2 (vI 1)))) (dSeq (dDo (dCall DX11_put (aI (aI (aR aN 0 (dGR 1 4 (vR 0))) 1 (dGI 1 1 (vR 0))) 2 (vI 2)))) (dSeq (dDo (dCall DX11_put (aI (aI (aR aN 0 (dGR 1 5 (vR 0))) 1 (dGI 1 1 (vR 0))) 2 (vI 3)))) (dSeq (dDo (dCall DX11_put (aI (aI (aR aN 0 (dGR 1 6 (vR 0))) 1 (dGI 1 1 (vR 0))) 2 (vI 4)))) (dSeq (dUF 1 1 o_iadd (vR 0) (cI 1)) dRet0))))))
theorem sBX1_add : SS (cvoV, .return_) miX1_add [] [] [] [(0, 2), (1, 0), (2, 0), (3, 0), (4, 0)] [(0, 2), (1, 0), (2, 0), (3, 0), (4, 0)] 0 [] BX1_add := (t_sq (p1 := 10) (Γ' := [(0, 2), (1, 0), (2, 0), (3, 0), (4, 0)]) (t_if (pT := 9) (pF := 10) (X := [10]) (XA := []) (XB := [10]) (c_ge_F (pF := 10) (s_getI ck1 1 (by decide) rfl (s_aload_n dX1_add_0 rfl rfl) dX1_add_1 w1_87) (s_bipush dX1_add_4 rfl) dX1_add_6 rfl) (t_ret0 (fun _ _ => rfl) dX1_add_9) (t_skip (ld_in rfl) rfl) lda_nil (lda_cons (ld_in rfl) lda_nil)) (t_sq (p1 := 22) (Γ' := [(0, 2), (1, 0), (2, 0), (3, 0), (4, 0)]) (t_do (x_callN (ts := [(0, 2), (1, 0), (2, 0)]) kX11_put mokX11_put w3_65 rfl rfl rfl (a_I (ts := [(0, 2), (1, 0)]) 2 (a_I (ts := [(0, 2)]) 1 (a_R (ts := []) 0 a_nil (s_getR ck1 3 (by decide) rfl (s_aload_n dX1_add_10 rfl rfl) dX1_add_11 w1_94) rfl) (s_getI ck1 1 (by decide) rfl (s_aload_n dX1_add_14 rfl rfl) dX1_add_15 w1_87) rfl) (s_iload_n dX1_add_18 rfl rfl) rfl) dX1_add_19 nb25) rfl) (t_sq (p1 := 34) (Γ' := [(0, 2), (1, 0), (2, 0), (3, 0), (4, 0)]) (t_do (x_callN (ts := [(0, 2), (1, 0), (2, 0)]) kX11_put mokX11_put w3_65 rfl rfl rfl (a_I (ts := [(0, 2), (1, 0)]) 2 (a_I (ts := [(0, 2)]) 1 (a_R (ts := []) 0 a_nil (s_getR ck1 4 (by decide) rfl (s_aload_n dX1_add_22 rfl rfl) dX1_add_23 w1_96) rfl) (s_getI ck1 1 (by decide) rfl (s_aload_n dX1_add_26 rfl rfl) dX1_add_27 w1_87) rfl) (s_iload_n dX1_add_30 rfl rfl) rfl) dX1_add_31 nb25) rfl) (t_sq (p1 := 46) (Γ' := [(0, 2), (1, 0), (2, 0), (3, 0), (4, 0)]) (t_do (x_callN (ts := [(0, 2), (1, 0), (2, 0)]) kX11_put mokX11_put w3_65 rfl rfl rfl (a_I (ts := [(0, 2), (1, 0)]) 2 (a_I (ts := [(0, 2)]) 1 (a_R (ts := []) 0 a_nil (s_getR ck1 5 (by decide) rfl (s_aload_n dX1_add_34 rfl rfl) dX1_add_35 w1_98) rfl) (s_getI ck1 1 (by decide) rfl (s_aload_n dX1_add_38 rfl rfl) dX1_add_39 w1_87) rfl) (s_iload_n dX1_add_42 rfl rfl) rfl) dX1_add_43 nb25) rfl) (t_sq (p1 := 59) (Γ' := [(0, 2), (1, 0), (2, 0), (3, 0), (4, 0)]) (t_do (x_callN (ts := [(0, 2), (1, 0), (2, 0)]) kX11_put mokX11_put w3_65 rfl rfl rfl (a_I (ts := [(0, 2), (1, 0)]) 2 (a_I (ts := [(0, 2)]) 1 (a_R (ts := []) 0 a_nil (s_getR ck1 6 (by decide) rfl (s_aload_n dX1_add_46 rfl rfl) dX1_add_47 w1_100) rfl) (s_getI ck1 1 (by decide) rfl (s_aload_n dX1_add_50 rfl rfl) dX1_add_51 w1_87) rfl) (s_iload dX1_add_54 rfl) rfl) dX1_add_56 nb25) rfl) (t_sq (p1 := 69) (Γ' := [(0, 2), (1, 0), (2, 0), (3, 0), (4, 0)]) (t_UF ck1 1 (by decide) rfl (Or.inl rfl) (s_aload_n dX1_add_59 rfl rfl) dX1_add_60 dX1_add_61 w1_87 (s_iconst dX1_add_64 rfl) (fun _ _ _ _ => rulI fun a b K => lv_iadd a b dX1_add_65 K) dX1_add_66 w1_87 rfl) (t_ret0 (fun _ _ => rfl) dX1_add_69)))))))
noncomputable def DX1_add : Fr → St → Option (Unit × St) := M1 (fun f => (sI (sI (sI (sI (sR fr0 0 (gR f 0)) 1 (gI f 1)) 2 (gI f 2)) 3 (gI f 3)) 4 (gI f 4))) BX1_add
theorem kX1_add : SND yX1_add cX1_add 5 none 2 [(0, 2), (1, 0), (2, 0), (3, 0), (4, 0)] cvoV DX1_add := snd_V (nw := 5) (by decide) (fun z => by cases z) rfl rfl (fun _ _ => rfl) sBX1_add
theorem dX6_readCarry_0 : decode cX6_readCarry 0 = .ok (.aload_n 1, 1) := by decide +kernel
theorem dX6_readCarry_1 : decode cX6_readCarry 1 = .ok (.invokevirtual 28, 3) := by decide +kernel
theorem dX6_readCarry_4 : decode cX6_readCarry 4 = .ok (.aload_n 0, 1) := by decide +kernel
theorem dX6_readCarry_5 : decode cX6_readCarry 5 = .ok (.aload_n 1, 1) := by decide +kernel
theorem dX6_readCarry_6 : decode cX6_readCarry 6 = .ok (.iconst 0, 1) := by decide +kernel
theorem dX6_readCarry_7 : decode cX6_readCarry 7 = .ok (.aload_n 2, 1) := by decide +kernel
theorem dX6_readCarry_8 : decode cX6_readCarry 8 = .ok (.getfield 86, 3) := by decide +kernel
theorem dX6_readCarry_11 : decode cX6_readCarry 11 = .ok (.iconst 1, 1) := by decide +kernel
theorem dX6_readCarry_12 : decode cX6_readCarry 12 = .ok (.isub, 1) := by decide +kernel
theorem dX6_readCarry_13 : decode cX6_readCarry 13 = .ok (.invokevirtual 140, 3) := by decide +kernel
theorem dX6_readCarry_16 : decode cX6_readCarry 16 = .ok (.istore_n 3, 1) := by decide +kernel
theorem dX6_readCarry_17 : decode cX6_readCarry 17 = .ok (.aload_n 0, 1) := by decide +kernel
theorem dX6_readCarry_18 : decode cX6_readCarry 18 = .ok (.getfield 15, 3) := by decide +kernel
theorem dX6_readCarry_21 : decode cX6_readCarry 21 = .ok (.ifCond .ne 18, 3) := by decide +kernel
theorem dX6_readCarry_24 : decode cX6_readCarry 24 = .ok (.aload_n 0, 1) := by decide +kernel
theorem dX6_readCarry_25 : decode cX6_readCarry 25 = .ok (.aload_n 1, 1) := by decide +kernel
theorem dX6_readCarry_26 : decode cX6_readCarry 26 = .ok (.iconst 0, 1) := by decide +kernel
theorem dX6_readCarry_27 : decode cX6_readCarry 27 = .ok (.aload_n 2, 1) := by decide +kernel
theorem dX6_readCarry_28 : decode cX6_readCarry 28 = .ok (.getfield 94, 3) := by decide +kernel
theorem dX6_readCarry_31 : decode cX6_readCarry 31 = .ok (.iconst 1, 1) := by decide +kernel
theorem dX6_readCarry_32 : decode cX6_readCarry 32 = .ok (.isub, 1) := by decide +kernel
theorem dX6_readCarry_33 : decode cX6_readCarry 33 = .ok (.invokevirtual 140, 3) := by decide +kernel
theorem dX6_readCarry_36 : decode cX6_readCarry 36 = .ok (.goto 4, 3) := by decide +kernel
theorem dX6_readCarry_39 : decode cX6_readCarry 39 = .ok (.iconst (-1), 1) := by decide +kernel
theorem dX6_readCarry_40 : decode cX6_readCarry 40 = .ok (.istore 4, 2) := by decide +kernel
theorem dX6_readCarry_42 : decode cX6_readCarry 42 = .ok (.aload_n 0, 1) := by decide +kernel
theorem dX6_readCarry_43 : decode cX6_readCarry 43 = .ok (.getfield 15, 3) := by decide +kernel
theorem dX6_readCarry_46 : decode cX6_readCarry 46 = .ok (.ifCond .ne 20, 3) := by decide +kernel
theorem dX6_readCarry_49 : decode cX6_readCarry 49 = .ok (.aload_n 0, 1) := by decide +kernel
theorem dX6_readCarry_50 : decode cX6_readCarry 50 = .ok (.aload_n 1, 1) := by decide +kernel
theorem dX6_readCarry_51 : decode cX6_readCarry 51 = .ok (.ldc 173, 2) := by decide +kernel
theorem dX6_readCarry_53 : decode cX6_readCarry 53 = .ok (.iconst 0, 1) := by decide +kernel
theorem dX6_readCarry_54 : decode cX6_readCarry 54 = .ok (.aload_n 2, 1) := by decide +kernel
theorem dX6_readCarry_55 : decode cX6_readCarry 55 = .ok (.getfield 66, 3) := by decide +kernel
theorem dX6_readCarry_58 : decode cX6_readCarry 58 = .ok (.iconst 1, 1) := by decide +kernel
theorem dX6_readCarry_59 : decode cX6_readCarry 59 = .ok (.isub, 1) := by decide +kernel
theorem dX6_readCarry_60 : decode cX6_readCarry 60 = .ok (.invokevirtual 117, 3) := by decide +kernel
theorem dX6_readCarry_63 : decode cX6_readCarry 63 = .ok (.goto 4, 3) := by decide +kernel
theorem dX6_readCarry_66 : decode cX6_readCarry 66 = .ok (.iconst (-1), 1) := by decide +kernel
theorem dX6_readCarry_67 : decode cX6_readCarry 67 = .ok (.istore 5, 2) := by decide +kernel
theorem dX6_readCarry_69 : decode cX6_readCarry 69 = .ok (.aload_n 0, 1) := by decide +kernel
theorem dX6_readCarry_70 : decode cX6_readCarry 70 = .ok (.getfield 15, 3) := by decide +kernel
theorem dX6_readCarry_73 : decode cX6_readCarry 73 = .ok (.ifCond .ne 16, 3) := by decide +kernel
theorem dX6_readCarry_76 : decode cX6_readCarry 76 = .ok (.aload_n 0, 1) := by decide +kernel
theorem dX6_readCarry_77 : decode cX6_readCarry 77 = .ok (.aload_n 1, 1) := by decide +kernel
theorem dX6_readCarry_78 : decode cX6_readCarry 78 = .ok (.ldc 156, 2) := by decide +kernel
theorem dX6_readCarry_80 : decode cX6_readCarry 80 = .ok (.iconst 0, 1) := by decide +kernel
theorem dX6_readCarry_81 : decode cX6_readCarry 81 = .ok (.bipush 11, 2) := by decide +kernel
theorem dX6_readCarry_83 : decode cX6_readCarry 83 = .ok (.invokevirtual 117, 3) := by decide +kernel
theorem dX6_readCarry_86 : decode cX6_readCarry 86 = .ok (.goto 4, 3) := by decide +kernel
theorem dX6_readCarry_89 : decode cX6_readCarry 89 = .ok (.iconst (-1), 1) := by decide +kernel
theorem dX6_readCarry_90 : decode cX6_readCarry 90 = .ok (.istore 6, 2) := by decide +kernel
theorem dX6_readCarry_92 : decode cX6_readCarry 92 = .ok (.aload_n 0, 1) := by decide +kernel
theorem dX6_readCarry_93 : decode cX6_readCarry 93 = .ok (.getfield 15, 3) := by decide +kernel
theorem dX6_readCarry_96 : decode cX6_readCarry 96 = .ok (.ifCond .eq 5, 3) := by decide +kernel
theorem dX6_readCarry_99 : decode cX6_readCarry 99 = .ok (.iconst 0, 1) := by decide +kernel
theorem dX6_readCarry_100 : decode cX6_readCarry 100 = .ok (.ireturn, 1) := by decide +kernel
theorem dX6_readCarry_101 : decode cX6_readCarry 101 = .ok (.aload_n 2, 1) := by decide +kernel
theorem dX6_readCarry_102 : decode cX6_readCarry 102 = .ok (.getfield 45, 3) := by decide +kernel
theorem dX6_readCarry_105 : decode cX6_readCarry 105 = .ok (.iload_n 3, 1) := by decide +kernel
theorem dX6_readCarry_106 : decode cX6_readCarry 106 = .ok (.iload 4, 2) := by decide +kernel
theorem dX6_readCarry_108 : decode cX6_readCarry 108 = .ok (.iload 5, 2) := by decide +kernel
theorem dX6_readCarry_110 : decode cX6_readCarry 110 = .ok (.iload 6, 2) := by decide +kernel
theorem dX6_readCarry_112 : decode cX6_readCarry 112 = .ok (.invokevirtual 175, 3) := by decide +kernel
theorem dX6_readCarry_115 : decode cX6_readCarry 115 = .ok (.iconst 1, 1) := by decide +kernel
theorem dX6_readCarry_116 : decode cX6_readCarry 116 = .ok (.ireturn, 1) := by decide +kernel
theorem mokX6_readCarry : MOK yX6_readCarry cX6_readCarry 7 (some .boolean) 2 := ⟨w5_236, w1_3, ⟨by decide, by decide⟩, by decide +kernel, by decide⟩
abbrev miX6_readCarry : MI := (yX6_readCarry.cls, cX6_readCarry, 7, 7, false)
noncomputable def BX6_readCarry : Sm Int32 := (dSeq (dDo (dCallV 9 DX9_next (aR aN 0 (vR 1)))) (dSeq (dSetI 3 (dCallV 6 DX6_readNumber (aI (aI (aR (aR aN 0 (vR 0)) 1 (vR 1)) 2 (cI 0)) 3 (d2 o_isub (dGI 5 6 (vR 2)) (cI 1))))) (dSeq (dSetI 4 (dT (dCZ q_eq (dGI 6 0 (vR 0))) (dCallV 6 DX6_readNumber (aI (aI (aR (aR aN 0 (vR 0)) 1 (vR 1)) 2 (cI 0)) 3 (d2 o_isub (dGI 5 7 (vR 2)) (cI 1)))) (cI (-1)))) (dSeq (dSetI 5 (dT (dCZ q_eq (dGI 6 0 (vR 0))) (dCallV 6 DX6_readAmount (aI (aI (aR (aR (aR aN 0 (vR 0)) 1 (vR 1)) 2 (cR 16)) 3 (cI 0)) 4 (d2 o_isub (dGI 5 4 (vR 2)) (cI 1)))) (cI (-1)))) (dSeq (dSetI 6 (dT (dCZ q_eq (dGI 6 0 (vR 0))) (dCallV 6 DX6_readAmount (aI (aI (aR (aR (aR aN 0 (vR 0)) 1 (vR 1)) 2 (cR 11)) 3 (cI 0)) 4 (cI 11))) (cI (-1)))) (dSeq (dIf (dCZ q_ne (dGI 6 0 (vR 0))) (dRet (cI 0)) dSkip) (dSeq (dDo (dCallV 1 DX1_add (aI (aI (aI (aI (aR aN 0 (dGR 5 16 (vR 2))) 1 (vI 3)) 2 (vI 4)) 3 (vI 5)) 4 (vI 6)))) (dRet (cI 1)))))))))
theorem sBX6_readCarry : SS (cvoI, .ireturn) miX6_readCarry [] [] [] [(0, 2), (1, 2), (2, 2)] [(0, 2), (1, 2), (2, 2)] 0 [] BX6_readCarry := (t_sq (p1 := 4) (Γ' := [(0, 2), (1, 2), (2, 2)]) (t_do (x_callV (ts := [(0, 2)]) ck9 rfl kX9_next mokX9_next w5_107 w5_108 rfl rfl rfl rfl (a_R (ts := []) 0 a_nil (s_aload_n dX6_readCarry_0 rfl rfl) rfl) dX6_readCarry_1 w5_106) rfl) (t_sq (p1 := 17) (Γ' := [(0, 2), (1, 2), (2, 2), (3, 0)]) (t_istore_n (s_of_xI (x_callV (ts := [(0, 2), (1, 2), (2, 0), (3, 0)]) ck6 rfl kX6_readNumber mokX6_readNumber w5_199 ps2_9 rfl rfl rfl rfl (a_I (ts := [(0, 2), (1, 2), (2, 0)]) 3 (a_I (ts := [(0, 2), (1, 2)]) 2 (a_R (ts := [(0, 2)]) 1 (a_R (ts := []) 0 a_nil (s_aload_n dX6_readCarry_4 rfl rfl) rfl) (s_aload_n dX6_readCarry_5 rfl rfl) rfl) (s_iconst dX6_readCarry_6 rfl) rfl) (s_isub (s_getI ck5 6 (by decide) rfl (s_aload_n dX6_readCarry_7 rfl rfl) dX6_readCarry_8 w1_155) (s_iconst dX6_readCarry_11 rfl) dX6_readCarry_12) rfl) dX6_readCarry_13 w5_197)) dX6_readCarry_16 rfl rfl rfl) (t_sq (p1 := 42) (Γ' := [(0, 2), (1, 2), (2, 2), (3, 0), (4, 0)]) (t_istore (s_T (pT := 24) (pF := 39) (p1 := 36) (pe := 40) (c_eq_ZF (pF := 39) (s_getI ck6 0 (by decide) rfl (s_aload_n dX6_readCarry_17 rfl rfl) dX6_readCarry_18 w1_65) dX6_readCarry_21 rfl) (s_of_xI (x_callV (ts := [(0, 2), (1, 2), (2, 0), (3, 0)]) ck6 rfl kX6_readNumber mokX6_readNumber w5_199 ps2_9 rfl rfl rfl rfl (a_I (ts := [(0, 2), (1, 2), (2, 0)]) 3 (a_I (ts := [(0, 2), (1, 2)]) 2 (a_R (ts := [(0, 2)]) 1 (a_R (ts := []) 0 a_nil (s_aload_n dX6_readCarry_24 rfl rfl) rfl) (s_aload_n dX6_readCarry_25 rfl rfl) rfl) (s_iconst dX6_readCarry_26 rfl) rfl) (s_isub (s_getI ck5 7 (by decide) rfl (s_aload_n dX6_readCarry_27 rfl rfl) dX6_readCarry_28 w1_159) (s_iconst dX6_readCarry_31 rfl) dX6_readCarry_32) rfl) dX6_readCarry_33 w5_197)) (s_iconst dX6_readCarry_39 rfl) (ld_goto (y := 40) dX6_readCarry_36 rfl (ld_in rfl))) dX6_readCarry_40 rfl rfl) (t_sq (p1 := 69) (Γ' := [(0, 2), (1, 2), (2, 2), (3, 0), (4, 0), (5, 0)]) (t_istore (s_T (pT := 49) (pF := 66) (p1 := 63) (pe := 67) (c_eq_ZF (pF := 66) (s_getI ck6 0 (by decide) rfl (s_aload_n dX6_readCarry_42 rfl rfl) dX6_readCarry_43 w1_65) dX6_readCarry_46 rfl) (s_of_xI (x_callV (ts := [(0, 2), (1, 2), (2, 2), (3, 0), (4, 0)]) ck6 rfl kX6_readAmount mokX6_readAmount w5_195 ps2_8 rfl rfl rfl rfl (a_I (ts := [(0, 2), (1, 2), (2, 2), (3, 0)]) 4 (a_I (ts := [(0, 2), (1, 2), (2, 2)]) 3 (a_R (ts := [(0, 2), (1, 2)]) 2 (a_R (ts := [(0, 2)]) 1 (a_R (ts := []) 0 a_nil (s_aload_n dX6_readCarry_49 rfl rfl) rfl) (s_aload_n dX6_readCarry_50 rfl rfl) rfl) (s_ldcS 13 dX6_readCarry_51 (by decide) rfl rfl) rfl) (s_iconst dX6_readCarry_53 rfl) rfl) (s_isub (s_getI ck5 4 (by decide) rfl (s_aload_n dX6_readCarry_54 rfl rfl) dX6_readCarry_55 w1_145) (s_iconst dX6_readCarry_58 rfl) dX6_readCarry_59) rfl) dX6_readCarry_60 w5_193)) (s_iconst dX6_readCarry_66 rfl) (ld_goto (y := 67) dX6_readCarry_63 rfl (ld_in rfl))) dX6_readCarry_67 rfl rfl) (t_sq (p1 := 92) (Γ' := [(0, 2), (1, 2), (2, 2), (3, 0), (4, 0), (5, 0), (6, 0)]) (t_istore (s_T (pT := 76) (pF := 89) (p1 := 86) (pe := 90) (c_eq_ZF (pF := 89) (s_getI ck6 0 (by decide) rfl (s_aload_n dX6_readCarry_69 rfl rfl) dX6_readCarry_70 w1_65) dX6_readCarry_73 rfl) (s_of_xI (x_callV (ts := [(0, 2), (1, 2), (2, 2), (3, 0), (4, 0)]) ck6 rfl kX6_readAmount mokX6_readAmount w5_195 ps2_8 rfl rfl rfl rfl (a_I (ts := [(0, 2), (1, 2), (2, 2), (3, 0)]) 4 (a_I (ts := [(0, 2), (1, 2), (2, 2)]) 3 (a_R (ts := [(0, 2), (1, 2)]) 2 (a_R (ts := [(0, 2)]) 1 (a_R (ts := []) 0 a_nil (s_aload_n dX6_readCarry_76 rfl rfl) rfl) (s_aload_n dX6_readCarry_77 rfl rfl) rfl) (s_ldcS 8 dX6_readCarry_78 (by decide) rfl rfl) rfl) (s_iconst dX6_readCarry_80 rfl) rfl) (s_bipush dX6_readCarry_81 rfl) rfl) dX6_readCarry_83 w5_193)) (s_iconst dX6_readCarry_89 rfl) (ld_goto (y := 90) dX6_readCarry_86 rfl (ld_in rfl))) dX6_readCarry_90 rfl rfl) (t_sq (p1 := 101) (Γ' := [(0, 2), (1, 2), (2, 2), (3, 0), (4, 0), (5, 0), (6, 0)]) (t_if (pT := 99) (pF := 101) (X := [101]) (XA := []) (XB := [101]) (c_ne_ZF (pF := 101) (s_getI ck6 0 (by decide) rfl (s_aload_n dX6_readCarry_92 rfl rfl) dX6_readCarry_93 w1_65) dX6_readCarry_96 rfl) (t_ret (cv := cvI) (fun _ _ => rfl) (s_iconst dX6_readCarry_99 rfl) dX6_readCarry_100) (t_skip (ld_in rfl) rfl) lda_nil (lda_cons (ld_in rfl) lda_nil)) (t_sq (p1 := 115) (Γ' := [(0, 2), (1, 2), (2, 2), (3, 0), (4, 0), (5, 0), (6, 0)]) (t_do (x_callV (ts := [(0, 2), (1, 0), (2, 0), (3, 0), (4, 0)]) ck1 rfl kX1_add mokX1_add w4_127 w4_128 rfl rfl rfl rfl (a_I (ts := [(0, 2), (1, 0), (2, 0), (3, 0)]) 4 (a_I (ts := [(0, 2), (1, 0), (2, 0)]) 3 (a_I (ts := [(0, 2), (1, 0)]) 2 (a_I (ts := [(0, 2)]) 1 (a_R (ts := []) 0 a_nil (s_getR ck5 16 (by decide) rfl (s_aload_n dX6_readCarry_101 rfl rfl) dX6_readCarry_102 w1_183) rfl) (s_iload_n dX6_readCarry_105 rfl rfl) rfl) (s_iload dX6_readCarry_106 rfl) rfl) (s_iload dX6_readCarry_108 rfl) rfl) (s_iload dX6_readCarry_110 rfl) rfl) dX6_readCarry_112 w5_238) rfl) (t_ret (cv := cvI) (fun _ _ => rfl) (s_iconst dX6_readCarry_115 rfl) dX6_readCarry_116))))))))
noncomputable def DX6_readCarry : Fr → St → Option (Int32 × St) := MZ (fun f => (sR (sR (sR fr0 0 (gR f 0)) 1 (gR f 1)) 2 (gR f 2))) BX6_readCarry
theorem kX6_readCarry : SND yX6_readCarry cX6_readCarry 7 (some .boolean) 7 [(0, 2), (1, 2), (2, 2)] cvoI DX6_readCarry := snd_Z (nw := 3) (by decide) rfl rfl (fun _ _ => rfl) sBX6_readCarry
theorem dX6_readHouse_0 : decode cX6_readHouse 0 = .ok (.aload_n 1, 1) := by decide +kernel
theorem dX6_readHouse_1 : decode cX6_readHouse 1 = .ok (.invokevirtual 28, 3) := by decide +kernel
theorem dX6_readHouse_4 : decode cX6_readHouse 4 = .ok (.aload_n 2, 1) := by decide +kernel
theorem dX6_readHouse_5 : decode cX6_readHouse 5 = .ok (.getfield 131, 3) := by decide +kernel
theorem dX6_readHouse_8 : decode cX6_readHouse 8 = .ok (.aload_n 2, 1) := by decide +kernel
theorem dX6_readHouse_9 : decode cX6_readHouse 9 = .ok (.getfield 66, 3) := by decide +kernel
theorem dX6_readHouse_12 : decode cX6_readHouse 12 = .ok (.aload_n 0, 1) := by decide +kernel
theorem dX6_readHouse_13 : decode cX6_readHouse 13 = .ok (.aload_n 1, 1) := by decide +kernel
theorem dX6_readHouse_14 : decode cX6_readHouse 14 = .ok (.ldc 135, 2) := by decide +kernel
theorem dX6_readHouse_16 : decode cX6_readHouse 16 = .ok (.iconst 0, 1) := by decide +kernel
theorem dX6_readHouse_17 : decode cX6_readHouse 17 = .ok (.bipush 20, 2) := by decide +kernel
theorem dX6_readHouse_19 : decode cX6_readHouse 19 = .ok (.invokevirtual 117, 3) := by decide +kernel
theorem dX6_readHouse_22 : decode cX6_readHouse 22 = .ok (.invokestatic 136, 3) := by decide +kernel
theorem dX6_readHouse_25 : decode cX6_readHouse 25 = .ok (.aload_n 2, 1) := by decide +kernel
theorem dX6_readHouse_26 : decode cX6_readHouse 26 = .ok (.dup, 1) := by decide +kernel
theorem dX6_readHouse_27 : decode cX6_readHouse 27 = .ok (.getfield 66, 3) := by decide +kernel
theorem dX6_readHouse_30 : decode cX6_readHouse 30 = .ok (.iconst 1, 1) := by decide +kernel
theorem dX6_readHouse_31 : decode cX6_readHouse 31 = .ok (.iadd, 1) := by decide +kernel
theorem dX6_readHouse_32 : decode cX6_readHouse 32 = .ok (.putfield 66, 3) := by decide +kernel
theorem dX6_readHouse_35 : decode cX6_readHouse 35 = .ok (.aload_n 0, 1) := by decide +kernel
theorem dX6_readHouse_36 : decode cX6_readHouse 36 = .ok (.getfield 15, 3) := by decide +kernel
theorem dX6_readHouse_39 : decode cX6_readHouse 39 = .ok (.ifCond .ne 7, 3) := by decide +kernel
theorem dX6_readHouse_42 : decode cX6_readHouse 42 = .ok (.iconst 1, 1) := by decide +kernel
theorem dX6_readHouse_43 : decode cX6_readHouse 43 = .ok (.goto 4, 3) := by decide +kernel
theorem dX6_readHouse_46 : decode cX6_readHouse 46 = .ok (.iconst 0, 1) := by decide +kernel
theorem dX6_readHouse_47 : decode cX6_readHouse 47 = .ok (.ireturn, 1) := by decide +kernel
theorem mokX6_readHouse : MOK yX6_readHouse cX6_readHouse 3 (some .boolean) 2 := ⟨w5_211, w1_3, ⟨by decide, by decide⟩, by decide +kernel, by decide⟩
abbrev miX6_readHouse : MI := (yX6_readHouse.cls, cX6_readHouse, 3, 7, false)
noncomputable def BX6_readHouse : Sm Int32 := (dSeq (dDo (dCallV 9 DX9_next (aR aN 0 (vR 1)))) (dSeq (dDo (dCall DX11_put (aI (aI (aR aN 0 (dGR 5 8 (vR 2))) 1 (dGI 5 4 (vR 2))) 2 (dCallV 6 DX6_readAmount (aI (aI (aR (aR (aR aN 0 (vR 0)) 1 (vR 1)) 2 (cR 8)) 3 (cI 0)) 4 (cI 20)))))) (dSeq (dUF 5 4 o_iadd (vR 2) (cI 1)) (dRet (dB (dCZ q_eq (dGI 6 0 (vR 0))))))))
theorem sBX6_readHouse : SS (cvoI, .ireturn) miX6_readHouse [] [] [] [(0, 2), (1, 2), (2, 2)] [(0, 2), (1, 2), (2, 2)] 0 [] BX6_readHouse := (t_sq (p1 := 4) (Γ' := [(0, 2), (1, 2), (2, 2)]) (t_do (x_callV (ts := [(0, 2)]) ck9 rfl kX9_next mokX9_next w5_107 w5_108 rfl rfl rfl rfl (a_R (ts := []) 0 a_nil (s_aload_n dX6_readHouse_0 rfl rfl) rfl) dX6_readHouse_1 w5_106) rfl) (t_sq (p1 := 25) (Γ' := [(0, 2), (1, 2), (2, 2)]) (t_do (x_callN (ts := [(0, 2), (1, 0), (2, 0)]) kX11_put mokX11_put w3_65 rfl rfl rfl (a_I (ts := [(0, 2), (1, 0)]) 2 (a_I (ts := [(0, 2)]) 1 (a_R (ts := []) 0 a_nil (s_getR ck5 8 (by decide) rfl (s_aload_n dX6_readHouse_4 rfl rfl) dX6_readHouse_5 w1_162) rfl) (s_getI ck5 4 (by decide) rfl (s_aload_n dX6_readHouse_8 rfl rfl) dX6_readHouse_9 w1_145) rfl) (s_of_xI (x_callV (ts := [(0, 2), (1, 2), (2, 2), (3, 0), (4, 0)]) ck6 rfl kX6_readAmount mokX6_readAmount w5_195 ps2_8 rfl rfl rfl rfl (a_I (ts := [(0, 2), (1, 2), (2, 2), (3, 0)]) 4 (a_I (ts := [(0, 2), (1, 2), (2, 2)]) 3 (a_R (ts := [(0, 2), (1, 2)]) 2 (a_R (ts := [(0, 2)]) 1 (a_R (ts := []) 0 a_nil (s_aload_n dX6_readHouse_12 rfl rfl) rfl) (s_aload_n dX6_readHouse_13 rfl rfl) rfl) (s_ldcS 5 dX6_readHouse_14 (by decide) rfl rfl) rfl) (s_iconst dX6_readHouse_16 rfl) rfl) (s_bipush dX6_readHouse_17 rfl) rfl) dX6_readHouse_19 w5_193)) rfl) dX6_readHouse_22 nb27) rfl) (t_sq (p1 := 35) (Γ' := [(0, 2), (1, 2), (2, 2)]) (t_UF ck5 4 (by decide) rfl (Or.inl rfl) (s_aload_n dX6_readHouse_25 rfl rfl) dX6_readHouse_26 dX6_readHouse_27 w1_145 (s_iconst dX6_readHouse_30 rfl) (fun _ _ _ _ => rulI fun a b K => lv_iadd a b dX6_readHouse_31 K) dX6_readHouse_32 w1_145 rfl) (t_ret (cv := cvI) (fun _ _ => rfl) (s_B (pT := 42) (pF := 46) (pe := 47) (c_eq_ZF (pF := 46) (s_getI ck6 0 (by decide) rfl (s_aload_n dX6_readHouse_35 rfl rfl) dX6_readHouse_36 w1_65) dX6_readHouse_39 rfl) dX6_readHouse_42 dX6_readHouse_43 rfl dX6_readHouse_46 rfl) dX6_readHouse_47))))
noncomputable def DX6_readHouse : Fr → St → Option (Int32 × St) := MZ (fun f => (sR (sR (sR fr0 0 (gR f 0)) 1 (gR f 1)) 2 (gR f 2))) BX6_readHouse
theorem kX6_readHouse : SND yX6_readHouse cX6_readHouse 3 (some .boolean) 7 [(0, 2), (1, 2), (2, 2)] cvoI DX6_readHouse := snd_Z (nw := 3) (by decide) rfl rfl (fun _ _ => rfl) sBX6_readHouse
