theorem dX3_note_0 : decode cX3_note 0 = .ok (.iload_n 1, 1) := by decide +kernel
theorem dX3_note_1 : decode cX3_note 1 = .ok (.ifCond .lt 9, 3) := by decide +kernel
theorem dX3_note_4 : decode cX3_note 4 = .ok (.iload_n 1, 1) := by decide +kernel
theorem dX3_note_5 : decode cX3_note 5 = .ok (.bipush 13, 2) := by decide +kernel
theorem dX3_note_7 : decode cX3_note 7 = .ok (.if_icmp .lt 4, 3) := by decide +kernel
theorem dX3_note_10 : decode cX3_note 10 = .ok (.return_, 1) := by decide +kernel
theorem dX3_note_11 : decode cX3_note 11 = .ok (.aload_n 0, 1) := by decide +kernel
theorem dX3_note_12 : decode cX3_note 12 = .ok (.getfield 12, 3) := by decide +kernel
theorem dX3_note_15 : decode cX3_note 15 = .ok (.getfield 79, 3) := by decide +kernel
theorem dX3_note_18 : decode cX3_note 18 = .ok (.iconst 0, 1) := by decide +kernel
theorem dX3_note_19 : decode cX3_note 19 = .ok (.aload_n 0, 1) := by decide +kernel
theorem dX3_note_20 : decode cX3_note 20 = .ok (.getfield 18, 3) := by decide +kernel
theorem dX3_note_23 : decode cX3_note 23 = .ok (.iload_n 1, 1) := by decide +kernel
theorem dX3_note_24 : decode cX3_note 24 = .ok (.iconst 5, 1) := by decide +kernel
theorem dX3_note_25 : decode cX3_note 25 = .ok (.imul, 1) := by decide +kernel
theorem dX3_note_26 : decode cX3_note 26 = .ok (.iconst 5, 1) := by decide +kernel
theorem dX3_note_27 : decode cX3_note 27 = .ok (.invokestatic 80, 3) := by decide +kernel
theorem dX3_note_30 : decode cX3_note 30 = .ok (.aload_n 0, 1) := by decide +kernel
theorem dX3_note_31 : decode cX3_note 31 = .ok (.getfield 12, 3) := by decide +kernel
theorem dX3_note_34 : decode cX3_note 34 = .ok (.getfield 86, 3) := by decide +kernel
theorem dX3_note_37 : decode cX3_note 37 = .ok (.iconst 0, 1) := by decide +kernel
theorem dX3_note_38 : decode cX3_note 38 = .ok (.aload_n 0, 1) := by decide +kernel
theorem dX3_note_39 : decode cX3_note 39 = .ok (.getfield 22, 3) := by decide +kernel
theorem dX3_note_42 : decode cX3_note 42 = .ok (.iload_n 1, 1) := by decide +kernel
theorem dX3_note_43 : decode cX3_note 43 = .ok (.iconst 3, 1) := by decide +kernel
theorem dX3_note_44 : decode cX3_note 44 = .ok (.imul, 1) := by decide +kernel
theorem dX3_note_45 : decode cX3_note 45 = .ok (.iconst 3, 1) := by decide +kernel
theorem dX3_note_46 : decode cX3_note 46 = .ok (.invokestatic 80, 3) := by decide +kernel
theorem dX3_note_49 : decode cX3_note 49 = .ok (.aload_n 0, 1) := by decide +kernel
theorem dX3_note_50 : decode cX3_note 50 = .ok (.getfield 12, 3) := by decide +kernel
theorem dX3_note_53 : decode cX3_note 53 = .ok (.getfield 87, 3) := by decide +kernel
theorem dX3_note_56 : decode cX3_note 56 = .ok (.iconst 0, 1) := by decide +kernel
theorem dX3_note_57 : decode cX3_note 57 = .ok (.aload_n 0, 1) := by decide +kernel
theorem dX3_note_58 : decode cX3_note 58 = .ok (.getfield 25, 3) := by decide +kernel
theorem dX3_note_61 : decode cX3_note 61 = .ok (.iload_n 1, 1) := by decide +kernel
theorem dX3_note_62 : decode cX3_note 62 = .ok (.iconst 3, 1) := by decide +kernel
theorem dX3_note_63 : decode cX3_note 63 = .ok (.imul, 1) := by decide +kernel
theorem dX3_note_64 : decode cX3_note 64 = .ok (.iconst 3, 1) := by decide +kernel
theorem dX3_note_65 : decode cX3_note 65 = .ok (.invokestatic 80, 3) := by decide +kernel
theorem dX3_note_68 : decode cX3_note 68 = .ok (.aload_n 0, 1) := by decide +kernel
theorem dX3_note_69 : decode cX3_note 69 = .ok (.getfield 12, 3) := by decide +kernel
theorem dX3_note_72 : decode cX3_note 72 = .ok (.getfield 88, 3) := by decide +kernel
theorem dX3_note_75 : decode cX3_note 75 = .ok (.iconst 0, 1) := by decide +kernel
theorem dX3_note_76 : decode cX3_note 76 = .ok (.aload_n 0, 1) := by decide +kernel
theorem dX3_note_77 : decode cX3_note 77 = .ok (.getfield 28, 3) := by decide +kernel
theorem dX3_note_80 : decode cX3_note 80 = .ok (.iload_n 1, 1) := by decide +kernel
theorem dX3_note_81 : decode cX3_note 81 = .ok (.iconst 3, 1) := by decide +kernel
theorem dX3_note_82 : decode cX3_note 82 = .ok (.imul, 1) := by decide +kernel
theorem dX3_note_83 : decode cX3_note 83 = .ok (.bipush 8, 2) := by decide +kernel
theorem dX3_note_85 : decode cX3_note 85 = .ok (.imul, 1) := by decide +kernel
theorem dX3_note_86 : decode cX3_note 86 = .ok (.bipush 24, 2) := by decide +kernel
theorem dX3_note_88 : decode cX3_note 88 = .ok (.invokestatic 80, 3) := by decide +kernel
theorem dX3_note_91 : decode cX3_note 91 = .ok (.return_, 1) := by decide +kernel
theorem mokX3_note : MOK yX3_note cX3_note 2 none 1 := ⟨w3_83, w1_7, ⟨by decide, by decide⟩, by decide +kernel, by decide⟩
abbrev miX3_note : MI := (yX3_note.cls, cX3_note, 2, 1, false)
noncomputable def BX3_note : Sm Unit := (dSeq (dIf (dOr (dCZ q_lt (vI 1)) (dCI r_ge (vI 1) (cI 13))) dRet0 dSkip) (dSeq (dCp 13 (aI (aI (aR (aI (aR aN 0 (dGR 2 8 (dGR 3 1 (vR 0)))) 1 (cI 0)) 2 (dGR 3 2 (vR 0))) 3 (d2 o_imul (vI 1) (cI 5))) 4 (cI 5))) (dSeq (dCp 13 (aI (aI (aR (aI (aR aN 0 (dGR 2 9 (dGR 3 1 (vR 0)))) 1 (cI 0)) 2 (dGR 3 3 (vR 0))) 3 (d2 o_imul (vI 1) (cI 3))) 4 (cI 3))) (dSeq (dCp 13 (aI (aI (aR (aI (aR aN 0 (dGR 2 10 (dGR 3 1 (vR 0)))) 1 (cI 0)) 2 (dGR 3 4 (vR 0))) 3 (d2 o_imul (vI 1) (cI 3))) 4 (cI 3))) (dSeq (dCp 13 (aI (aI (aR (aI (aR aN 0 (dGR 2 11 (dGR 3 1 (vR 0)))) 1 (cI 0)) 2 (dGR 3 5 (vR 0))) 3 (d2 o_imul (d2 o_imul (vI 1) (cI 3)) (cI 8))) 4 (cI 24))) dRet0)))))
theorem sBX3_note : SS (cvoV, .return_) miX3_note [] [] [] [(0, 2), (1, 0)] [(0, 2), (1, 0)] 0 [] BX3_note := (t_sq (p1 := 11) (Γ' := [(0, 2), (1, 0)]) (t_if (pT := 10) (pF := 11) (X := [11]) (XA := []) (XB := [11]) (c_or (p1 := 4) (pT := 10) (pF := 11) (c_lt_ZJ (pT := 10) (s_iload_n dX3_note_0 rfl rfl) dX3_note_1 rfl) (c_ge_F (pF := 11) (s_iload_n dX3_note_4 rfl rfl) (s_bipush dX3_note_5 rfl) dX3_note_7 rfl)) (t_ret0 (fun _ _ => rfl) dX3_note_10) (t_skip (ld_in rfl) rfl) lda_nil (lda_cons (ld_in rfl) lda_nil)) (t_sq (p1 := 30) (Γ' := [(0, 2), (1, 0)]) (t_cp (Or.inl rfl) (a_I (ts := [(0, 2), (1, 0), (2, 2), (3, 0)]) 4 (a_I (ts := [(0, 2), (1, 0), (2, 2)]) 3 (a_R (ts := [(0, 2), (1, 0)]) 2 (a_I (ts := [(0, 2)]) 1 (a_R (ts := []) 0 a_nil (s_getR ck2 8 (by decide) rfl (s_getR ck3 1 (by decide) rfl (s_aload_n dX3_note_11 rfl rfl) dX3_note_12 w2_70) dX3_note_15 w2_26) rfl) (s_iconst dX3_note_18 rfl) rfl) (s_getR ck3 2 (by decide) rfl (s_aload_n dX3_note_19 rfl rfl) dX3_note_20 w2_73) rfl) (s_imul (s_iload_n dX3_note_23 rfl rfl) (s_iconst dX3_note_24 rfl) dX3_note_25) rfl) (s_iconst dX3_note_26 rfl) rfl) rfl dX3_note_27 w3_84 w3_86 w3_85 w1_18 rfl) (t_sq (p1 := 49) (Γ' := [(0, 2), (1, 0)]) (t_cp (Or.inl rfl) (a_I (ts := [(0, 2), (1, 0), (2, 2), (3, 0)]) 4 (a_I (ts := [(0, 2), (1, 0), (2, 2)]) 3 (a_R (ts := [(0, 2), (1, 0)]) 2 (a_I (ts := [(0, 2)]) 1 (a_R (ts := []) 0 a_nil (s_getR ck2 9 (by decide) rfl (s_getR ck3 1 (by decide) rfl (s_aload_n dX3_note_30 rfl rfl) dX3_note_31 w2_70) dX3_note_34 w2_28) rfl) (s_iconst dX3_note_37 rfl) rfl) (s_getR ck3 3 (by decide) rfl (s_aload_n dX3_note_38 rfl rfl) dX3_note_39 w2_74) rfl) (s_imul (s_iload_n dX3_note_42 rfl rfl) (s_iconst dX3_note_43 rfl) dX3_note_44) rfl) (s_iconst dX3_note_45 rfl) rfl) rfl dX3_note_46 w3_84 w3_86 w3_85 w1_18 rfl) (t_sq (p1 := 68) (Γ' := [(0, 2), (1, 0)]) (t_cp (Or.inl rfl) (a_I (ts := [(0, 2), (1, 0), (2, 2), (3, 0)]) 4 (a_I (ts := [(0, 2), (1, 0), (2, 2)]) 3 (a_R (ts := [(0, 2), (1, 0)]) 2 (a_I (ts := [(0, 2)]) 1 (a_R (ts := []) 0 a_nil (s_getR ck2 10 (by decide) rfl (s_getR ck3 1 (by decide) rfl (s_aload_n dX3_note_49 rfl rfl) dX3_note_50 w2_70) dX3_note_53 w2_30) rfl) (s_iconst dX3_note_56 rfl) rfl) (s_getR ck3 4 (by decide) rfl (s_aload_n dX3_note_57 rfl rfl) dX3_note_58 w2_75) rfl) (s_imul (s_iload_n dX3_note_61 rfl rfl) (s_iconst dX3_note_62 rfl) dX3_note_63) rfl) (s_iconst dX3_note_64 rfl) rfl) rfl dX3_note_65 w3_84 w3_86 w3_85 w1_18 rfl) (t_sq (p1 := 91) (Γ' := [(0, 2), (1, 0)]) (t_cp (Or.inl rfl) (a_I (ts := [(0, 2), (1, 0), (2, 2), (3, 0)]) 4 (a_I (ts := [(0, 2), (1, 0), (2, 2)]) 3 (a_R (ts := [(0, 2), (1, 0)]) 2 (a_I (ts := [(0, 2)]) 1 (a_R (ts := []) 0 a_nil (s_getR ck2 11 (by decide) rfl (s_getR ck3 1 (by decide) rfl (s_aload_n dX3_note_68 rfl rfl) dX3_note_69 w2_70) dX3_note_72 w2_33) rfl) (s_iconst dX3_note_75 rfl) rfl) (s_getR ck3 5 (by decide) rfl (s_aload_n dX3_note_76 rfl rfl) dX3_note_77 w2_76) rfl) (s_imul (s_imul (s_iload_n dX3_note_80 rfl rfl) (s_iconst dX3_note_81 rfl) dX3_note_82) (s_bipush dX3_note_83 rfl) dX3_note_85) rfl) (s_bipush dX3_note_86 rfl) rfl) rfl dX3_note_88 w3_84 w3_86 w3_85 w1_18 rfl) (t_ret0 (fun _ _ => rfl) dX3_note_91))))))
noncomputable def DX3_note : Fr → St → Option (Unit × St) := M1 (fun f => (sI (sR fr0 0 (gR f 0)) 1 (gI f 1))) BX3_note
theorem kX3_note : SND yX3_note cX3_note 2 none 1 [(0, 2), (1, 0)] cvoV DX3_note := snd_V (nw := 2) (by decide) (fun z => by cases z) rfl rfl (fun _ _ => rfl) sBX3_note
theorem dX3_fill_0 : decode cX3_fill 0 = .ok (.aload_n 0, 1) := by decide +kernel
theorem dX3_fill_1 : decode cX3_fill 1 = .ok (.getfield 12, 3) := by decide +kernel
theorem dX3_fill_4 : decode cX3_fill 4 = .ok (.aload_n 1, 1) := by decide +kernel
theorem dX3_fill_5 : decode cX3_fill 5 = .ok (.invokevirtual 34, 3) := by decide +kernel
theorem dX3_fill_8 : decode cX3_fill 8 = .ok (.iconst 0, 1) := by decide +kernel
theorem dX3_fill_9 : decode cX3_fill 9 = .ok (.istore_n 2, 1) := by decide +kernel
theorem dX3_fill_10 : decode cX3_fill 10 = .ok (.iload_n 2, 1) := by decide +kernel
theorem dX3_fill_11 : decode cX3_fill 11 = .ok (.aload_n 1, 1) := by decide +kernel
theorem dX3_fill_12 : decode cX3_fill 12 = .ok (.getfield 38, 3) := by decide +kernel
theorem dX3_fill_15 : decode cX3_fill 15 = .ok (.if_icmp .gt 52, 3) := by decide +kernel
theorem dX3_fill_18 : decode cX3_fill 18 = .ok (.iload_n 2, 1) := by decide +kernel
theorem dX3_fill_19 : decode cX3_fill 19 = .ok (.bipush 13, 2) := by decide +kernel
theorem dX3_fill_21 : decode cX3_fill 21 = .ok (.if_icmp .ge 46, 3) := by decide +kernel
theorem dX3_fill_24 : decode cX3_fill 24 = .ok (.aload_n 0, 1) := by decide +kernel
theorem dX3_fill_25 : decode cX3_fill 25 = .ok (.iload_n 2, 1) := by decide +kernel
theorem dX3_fill_26 : decode cX3_fill 26 = .ok (.invokevirtual 44, 3) := by decide +kernel
theorem dX3_fill_29 : decode cX3_fill 29 = .ok (.iload_n 2, 1) := by decide +kernel
theorem dX3_fill_30 : decode cX3_fill 30 = .ok (.aload_n 1, 1) := by decide +kernel
theorem dX3_fill_31 : decode cX3_fill 31 = .ok (.getfield 38, 3) := by decide +kernel
theorem dX3_fill_34 : decode cX3_fill 34 = .ok (.if_icmp .ge 27, 3) := by decide +kernel
theorem dX3_fill_37 : decode cX3_fill 37 = .ok (.aload_n 0, 1) := by decide +kernel
theorem dX3_fill_38 : decode cX3_fill 38 = .ok (.getfield 12, 3) := by decide +kernel
theorem dX3_fill_41 : decode cX3_fill 41 = .ok (.aload_n 1, 1) := by decide +kernel
theorem dX3_fill_42 : decode cX3_fill 42 = .ok (.iload_n 2, 1) := by decide +kernel
theorem dX3_fill_43 : decode cX3_fill 43 = .ok (.invokevirtual 48, 3) := by decide +kernel
theorem dX3_fill_46 : decode cX3_fill 46 = .ok (.aload_n 0, 1) := by decide +kernel
theorem dX3_fill_47 : decode cX3_fill 47 = .ok (.getfield 31, 3) := by decide +kernel
theorem dX3_fill_50 : decode cX3_fill 50 = .ok (.iload_n 2, 1) := by decide +kernel
theorem dX3_fill_51 : decode cX3_fill 51 = .ok (.aload_n 0, 1) := by decide +kernel
theorem dX3_fill_52 : decode cX3_fill 52 = .ok (.getfield 12, 3) := by decide +kernel
theorem dX3_fill_55 : decode cX3_fill 55 = .ok (.getfield 52, 3) := by decide +kernel
theorem dX3_fill_58 : decode cX3_fill 58 = .ok (.invokestatic 54, 3) := by decide +kernel
theorem dX3_fill_61 : decode cX3_fill 61 = .ok (.iinc 2 1, 3) := by decide +kernel
theorem dX3_fill_64 : decode cX3_fill 64 = .ok (.goto (-54), 3) := by decide +kernel
theorem dX3_fill_67 : decode cX3_fill 67 = .ok (.return_, 1) := by decide +kernel
theorem mokX3_fill : MOK yX3_fill cX3_fill 3 none 1 := ⟨w3_55, w1_7, ⟨by decide, by decide⟩, by decide +kernel, by decide⟩
abbrev miX3_fill : MI := (yX3_fill.cls, cX3_fill, 3, 6, false)
noncomputable def LX3_fill_1 : Sm Unit := dLoop (fun f => (sI (sR (sR fr0 0 (gR f 0)) 1 (gR f 1)) 2 (gI f 2))) (dAnd (dCI r_le (vI 2) (dGI 5 1 (vR 1))) (dCI r_lt (vI 2) (cI 13))) (dSeq (dDo (dCallV 3 DX3_note (aI (aR aN 0 (vR 0)) 1 (vI 2)))) (dIf (dCI r_lt (vI 2) (dGI 5 1 (vR 1))) (dSeq (dDo (dCallV 2 DX2_passDay (aI (aR (aR aN 0 (dGR 3 1 (vR 0))) 1 (vR 1)) 2 (vI 2)))) (dDo (dCall DX11_put (aI (aI (aR aN 0 (dGR 3 6 (vR 0))) 1 (vI 2)) 2 (dGI 2 6 (dGR 3 1 (vR 0))))))) dSkip)) (dInc 2 1)
theorem sLX3_fill_1 {ΓL : Gm} {PB PK : List Nat} : SS (cvoV, .return_) miX3_fill ΓL PB PK [(0, 2), (1, 2), (2, 0)] [(0, 2), (1, 2), (2, 0)] 10 [67] LX3_fill_1 := t_loop (pT := 24) (pF := 67) (pu := 61) (PB' := []) (PK' := []) (XB := [61]) (XU := [64]) (fun _ _ => rfl) rfl (c_and (p1 := 18) (pT := 24) (pF := 67) (c_le_F (pF := 67) (s_iload_n dX3_fill_10 rfl rfl) (s_getI ck5 1 (by decide) rfl (s_aload_n dX3_fill_11 rfl rfl) dX3_fill_12 w1_128) dX3_fill_15 rfl) (c_lt_F (pF := 67) (s_iload_n dX3_fill_18 rfl rfl) (s_bipush dX3_fill_19 rfl) dX3_fill_21 rfl)) (t_sq (p1 := 29) (Γ' := [(0, 2), (1, 2), (2, 0)]) (t_do (x_callV (ts := [(0, 2), (1, 0)]) ck3 rfl kX3_note mokX3_note w3_82 ps1_1 rfl rfl rfl rfl (a_I (ts := [(0, 2)]) 1 (a_R (ts := []) 0 a_nil (s_aload_n dX3_fill_24 rfl rfl) rfl) (s_iload_n dX3_fill_25 rfl rfl) rfl) dX3_fill_26 w3_80) rfl) (t_if (pT := 37) (pF := 61) (X := [61]) (XA := [61]) (XB := [61]) (c_lt_F (pF := 61) (s_iload_n dX3_fill_29 rfl rfl) (s_getI ck5 1 (by decide) rfl (s_aload_n dX3_fill_30 rfl rfl) dX3_fill_31 w1_128) dX3_fill_34 rfl) (t_sq (p1 := 46) (Γ' := [(0, 2), (1, 2), (2, 0)]) (t_do (x_callV (ts := [(0, 2), (1, 2), (2, 0)]) ck2 rfl kX2_passDay mokX2_passDay w3_88 w3_89 rfl rfl rfl rfl (a_I (ts := [(0, 2), (1, 2)]) 2 (a_R (ts := [(0, 2)]) 1 (a_R (ts := []) 0 a_nil (s_getR ck3 1 (by decide) rfl (s_aload_n dX3_fill_37 rfl rfl) dX3_fill_38 w2_70) rfl) (s_aload_n dX3_fill_41 rfl rfl) rfl) (s_iload_n dX3_fill_42 rfl rfl) rfl) dX3_fill_43 w3_87) rfl) (t_do (x_callN (ts := [(0, 2), (1, 0), (2, 0)]) kX11_put mokX11_put w3_65 rfl rfl rfl (a_I (ts := [(0, 2), (1, 0)]) 2 (a_I (ts := [(0, 2)]) 1 (a_R (ts := []) 0 a_nil (s_getR ck3 6 (by decide) rfl (s_aload_n dX3_fill_46 rfl rfl) dX3_fill_47 w2_77) rfl) (s_iload_n dX3_fill_50 rfl rfl) rfl) (s_getI ck2 6 (by decide) rfl (s_getR ck3 1 (by decide) rfl (s_aload_n dX3_fill_51 rfl rfl) dX3_fill_52 w2_70) dX3_fill_55 w2_22) rfl) dX3_fill_58 nb18) rfl)) (t_skip (ld_in rfl) rfl) (lda_cons (ld_in rfl) lda_nil) (lda_cons (ld_in rfl) lda_nil))) (t_iinc dX3_fill_61 rfl rfl rfl rfl) (lda_cons (ld_in rfl) lda_nil) lda_nil (lda_cons (ld_goto (y := 10) dX3_fill_64 rfl (ld_in rfl)) lda_nil) (ld_in rfl) lda_nil
noncomputable def BX3_fill : Sm Unit := (dSeq (dDo (dCallV 2 DX2_begin (aR (aR aN 0 (dGR 3 1 (vR 0))) 1 (vR 1)))) (dSeq (dSeq (dSetI 2 (cI 0)) LX3_fill_1) dRet0))
theorem sBX3_fill : SS (cvoV, .return_) miX3_fill [] [] [] [(0, 2), (1, 2)] [(0, 2), (1, 2)] 0 [] BX3_fill := (t_sq (p1 := 8) (Γ' := [(0, 2), (1, 2)]) (t_do (x_callV (ts := [(0, 2), (1, 2)]) ck2 rfl kX2_begin mokX2_begin w3_57 w3_58 rfl rfl rfl rfl (a_R (ts := [(0, 2)]) 1 (a_R (ts := []) 0 a_nil (s_getR ck3 1 (by decide) rfl (s_aload_n dX3_fill_0 rfl rfl) dX3_fill_1 w2_70) rfl) (s_aload_n dX3_fill_4 rfl rfl) rfl) dX3_fill_5 w3_56) rfl) (t_sq (p1 := 67) (Γ' := [(0, 2), (1, 2)]) (t_sq (p1 := 10) (Γ' := [(0, 2), (1, 2), (2, 0)]) (t_istore_n (s_iconst dX3_fill_8 rfl) dX3_fill_9 rfl rfl rfl) (tn_to (Γ' := [(0, 2), (1, 2), (2, 0)]) (XA := [67]) sLX3_fill_1 (lda_cons (ld_in rfl) lda_nil) rfl)) (t_ret0 (fun _ _ => rfl) dX3_fill_67)))
noncomputable def DX3_fill : Fr → St → Option (Unit × St) := M1 (fun f => (sR (sR fr0 0 (gR f 0)) 1 (gR f 1))) BX3_fill
theorem kX3_fill : SND yX3_fill cX3_fill 3 none 6 [(0, 2), (1, 2)] cvoV DX3_fill := snd_V (nw := 2) (by decide) (fun z => by cases z) rfl rfl (fun _ _ => rfl) sBX3_fill
theorem dX11_today_0 : decode cX11_today 0 = .ok (.aload_n 0, 1) := by decide +kernel
theorem dX11_today_1 : decode cX11_today 1 = .ok (.getfield 47, 3) := by decide +kernel
theorem dX11_today_4 : decode cX11_today 4 = .ok (.getfield 441, 3) := by decide +kernel
theorem dX11_today_7 : decode cX11_today 7 = .ok (.ifCond .ne 36, 3) := by decide +kernel
theorem dX11_today_10 : decode cX11_today 10 = .ok (.aload_n 0, 1) := by decide +kernel
theorem dX11_today_11 : decode cX11_today 11 = .ok (.getfield 47, 3) := by decide +kernel
theorem dX11_today_14 : decode cX11_today 14 = .ok (.getfield 332, 3) := by decide +kernel
theorem dX11_today_17 : decode cX11_today 17 = .ok (.aload_n 0, 1) := by decide +kernel
theorem dX11_today_18 : decode cX11_today 18 = .ok (.getfield 26, 3) := by decide +kernel
theorem dX11_today_21 : decode cX11_today 21 = .ok (.invokevirtual 336, 3) := by decide +kernel
theorem dX11_today_24 : decode cX11_today 24 = .ok (.aload_n 0, 1) := by decide +kernel
theorem dX11_today_25 : decode cX11_today 25 = .ok (.getfield 47, 3) := by decide +kernel
theorem dX11_today_28 : decode cX11_today 28 = .ok (.aload_n 0, 1) := by decide +kernel
theorem dX11_today_29 : decode cX11_today 29 = .ok (.getfield 26, 3) := by decide +kernel
theorem dX11_today_32 : decode cX11_today 32 = .ok (.invokevirtual 344, 3) := by decide +kernel
theorem dX11_today_35 : decode cX11_today 35 = .ok (.aload_n 0, 1) := by decide +kernel
theorem dX11_today_36 : decode cX11_today 36 = .ok (.getfield 47, 3) := by decide +kernel
theorem dX11_today_39 : decode cX11_today 39 = .ok (.iconst 1, 1) := by decide +kernel
theorem dX11_today_40 : decode cX11_today 40 = .ok (.putfield 441, 3) := by decide +kernel
theorem dX11_today_43 : decode cX11_today 43 = .ok (.aload_n 0, 1) := by decide +kernel
theorem dX11_today_44 : decode cX11_today 44 = .ok (.getfield 47, 3) := by decide +kernel
theorem dX11_today_47 : decode cX11_today 47 = .ok (.areturn, 1) := by decide +kernel
theorem mokX11_today : MOK yX11_today cX11_today 1 (some (.object "SlateHands$Diary")) 0 := ⟨w3_47, w1_1, ⟨by decide, by decide⟩, by decide +kernel, by decide⟩
abbrev miX11_today : MI := (yX11_today.cls, cX11_today, 1, 7, false)
noncomputable def BX11_today : Sm Nat := (dSeq (dIf (dNot (dCZ q_ne (dGI 3 0 (dGR 11 6 (vR 0))))) (dSeq (dDo (dCallV 2 DX2_setAsTold (aR (aR aN 0 (dGR 3 1 (dGR 11 6 (vR 0)))) 1 (dGR 11 2 (vR 0))))) (dSeq (dDo (dCallV 3 DX3_fill (aR (aR aN 0 (dGR 11 6 (vR 0))) 1 (dGR 11 2 (vR 0))))) (dP (fZ 3 0) (dGR 11 6 (vR 0)) (cI 1)))) dSkip) (dRet (dGR 11 6 (vR 0))))
theorem sBX11_today : SS (cvoR, .areturn) miX11_today [] [] [] [(0, 2)] [(0, 2)] 0 [] BX11_today := (t_sq (p1 := 43) (Γ' := [(0, 2)]) (t_if (pT := 10) (pF := 43) (X := [43]) (XA := [43]) (XB := [43]) (c_not (pT := 10) (pF := 43) (c_ne_ZJ (pT := 43) (s_getI ck3 0 (by decide) rfl (s_getR ck11 6 (by decide) rfl (s_aload_n dX11_today_0 rfl rfl) dX11_today_1 w2_202) dX11_today_4 w2_69) dX11_today_7 rfl)) (t_sq (p1 := 24) (Γ' := [(0, 2)]) (t_do (x_callV (ts := [(0, 2), (1, 2)]) ck2 rfl kX2_setAsTold mokX2_setAsTold w3_49 w3_50 rfl rfl rfl rfl (a_R (ts := [(0, 2)]) 1 (a_R (ts := []) 0 a_nil (s_getR ck3 1 (by decide) rfl (s_getR ck11 6 (by decide) rfl (s_aload_n dX11_today_10 rfl rfl) dX11_today_11 w2_202) dX11_today_14 w2_72) rfl) (s_getR ck11 2 (by decide) rfl (s_aload_n dX11_today_17 rfl rfl) dX11_today_18 w2_198) rfl) dX11_today_21 w3_48) rfl) (t_sq (p1 := 35) (Γ' := [(0, 2)]) (t_do (x_callV (ts := [(0, 2), (1, 2)]) ck3 rfl kX3_fill mokX3_fill w3_53 w3_54 rfl rfl rfl rfl (a_R (ts := [(0, 2)]) 1 (a_R (ts := []) 0 a_nil (s_getR ck11 6 (by decide) rfl (s_aload_n dX11_today_24 rfl rfl) dX11_today_25 w2_202) rfl) (s_getR ck11 2 (by decide) rfl (s_aload_n dX11_today_28 rfl rfl) dX11_today_29 w2_198) rfl) dX11_today_32 w3_52) rfl) (t_pZ ck3 0 (by decide) rfl (Or.inl rfl) (s_getR ck11 6 (by decide) rfl (s_aload_n dX11_today_35 rfl rfl) dX11_today_36 w2_202) (s_iconst dX11_today_39 rfl) dX11_today_40 w2_69 rfl))) (t_skip (ld_in rfl) rfl) (lda_cons (ld_in rfl) lda_nil) (lda_cons (ld_in rfl) lda_nil)) (t_ret (cv := cvR) (fun _ _ => rfl) (s_getR ck11 6 (by decide) rfl (s_aload_n dX11_today_43 rfl rfl) dX11_today_44 w2_202) dX11_today_47))
noncomputable def DX11_today : Fr → St → Option (Nat × St) := M1 (fun f => (sR fr0 0 (gR f 0))) BX11_today
theorem kX11_today : SND yX11_today cX11_today 1 (some (.object "SlateHands$Diary")) 7 [(0, 2)] cvoR DX11_today := snd_R "SlateHands$Diary" (nw := 1) (by decide) rfl rfl (fun _ _ => rfl) sBX11_today
theorem dX3_carrierOn_0 : decode cX3_carrierOn 0 = .ok (.aload_n 0, 1) := by decide +kernel
theorem dX3_carrierOn_1 : decode cX3_carrierOn 1 = .ok (.getfield 18, 3) := by decide +kernel
theorem dX3_carrierOn_4 : decode cX3_carrierOn 4 = .ok (.iload_n 2, 1) := by decide +kernel
theorem dX3_carrierOn_5 : decode cX3_carrierOn 5 = .ok (.iconst 5, 1) := by decide +kernel
theorem dX3_carrierOn_6 : decode cX3_carrierOn 6 = .ok (.imul, 1) := by decide +kernel
theorem dX3_carrierOn_7 : decode cX3_carrierOn 7 = .ok (.iload_n 1, 1) := by decide +kernel
theorem dX3_carrierOn_8 : decode cX3_carrierOn 8 = .ok (.iadd, 1) := by decide +kernel
theorem dX3_carrierOn_9 : decode cX3_carrierOn 9 = .ok (.invokestatic 58, 3) := by decide +kernel
theorem dX3_carrierOn_12 : decode cX3_carrierOn 12 = .ok (.ireturn, 1) := by decide +kernel
theorem mokX3_carrierOn : MOK yX3_carrierOn cX3_carrierOn 3 (some .int) 2 := ⟨w3_125, w1_7, ⟨by decide, by decide⟩, by decide +kernel, by decide⟩
abbrev miX3_carrierOn : MI := (yX3_carrierOn.cls, cX3_carrierOn, 3, 2, false)
noncomputable def BX3_carrierOn : Sm Int32 := (dRet (dCall DX11_cell (aI (aR aN 0 (dGR 3 2 (vR 0))) 1 (d2 o_iadd (d2 o_imul (vI 2) (cI 5)) (vI 1)))))
theorem sBX3_carrierOn : SS (cvoI, .ireturn) miX3_carrierOn [] [] [] [(0, 2), (1, 0), (2, 0)] [(0, 2), (1, 0), (2, 0)] 0 [] BX3_carrierOn := (t_ret (cv := cvI) (fun _ _ => rfl) (s_of_xI (x_callN (ts := [(0, 2), (1, 0)]) kX11_cell mokX11_cell w3_26 rfl rfl rfl (a_I (ts := [(0, 2)]) 1 (a_R (ts := []) 0 a_nil (s_getR ck3 2 (by decide) rfl (s_aload_n dX3_carrierOn_0 rfl rfl) dX3_carrierOn_1 w2_73) rfl) (s_iadd (s_imul (s_iload_n dX3_carrierOn_4 rfl rfl) (s_iconst dX3_carrierOn_5 rfl) dX3_carrierOn_6) (s_iload_n dX3_carrierOn_7 rfl rfl) dX3_carrierOn_8) rfl) dX3_carrierOn_9 nb19)) dX3_carrierOn_12)
noncomputable def DX3_carrierOn : Fr → St → Option (Int32 × St) := M1 (fun f => (sI (sI (sR fr0 0 (gR f 0)) 1 (gI f 1)) 2 (gI f 2))) BX3_carrierOn
theorem kX3_carrierOn : SND yX3_carrierOn cX3_carrierOn 3 (some .int) 2 [(0, 2), (1, 0), (2, 0)] cvoI DX3_carrierOn := snd_I (nw := 3) (by decide) rfl rfl (fun _ _ => rfl) sBX3_carrierOn
theorem dX5_isCarrier_0 : decode cX5_isCarrier 0 = .ok (.iload_n 1, 1) := by decide +kernel
theorem dX5_isCarrier_1 : decode cX5_isCarrier 1 = .ok (.ifCond .lt 15, 3) := by decide +kernel
theorem dX5_isCarrier_4 : decode cX5_isCarrier 4 = .ok (.iload_n 1, 1) := by decide +kernel
theorem dX5_isCarrier_5 : decode cX5_isCarrier 5 = .ok (.aload_n 0, 1) := by decide +kernel
theorem dX5_isCarrier_6 : decode cX5_isCarrier 6 = .ok (.getfield 62, 3) := by decide +kernel
theorem dX5_isCarrier_9 : decode cX5_isCarrier 9 = .ok (.if_icmp .ge 7, 3) := by decide +kernel
theorem dX5_isCarrier_12 : decode cX5_isCarrier 12 = .ok (.iconst 1, 1) := by decide +kernel
theorem dX5_isCarrier_13 : decode cX5_isCarrier 13 = .ok (.goto 4, 3) := by decide +kernel
theorem dX5_isCarrier_16 : decode cX5_isCarrier 16 = .ok (.iconst 0, 1) := by decide +kernel
theorem dX5_isCarrier_17 : decode cX5_isCarrier 17 = .ok (.ireturn, 1) := by decide +kernel
theorem mokX5_isCarrier : MOK yX5_isCarrier cX5_isCarrier 2 (some .boolean) 1 := ⟨w3_35, w1_4, ⟨by decide, by decide⟩, by decide +kernel, by decide⟩
abbrev miX5_isCarrier : MI := (yX5_isCarrier.cls, cX5_isCarrier, 2, 1, false)
noncomputable def BX5_isCarrier : Sm Int32 := (dRet (dB (dAnd (dCZ q_ge (vI 1)) (dCI r_lt (vI 1) (dGI 5 6 (vR 0))))))
theorem sBX5_isCarrier : SS (cvoI, .ireturn) miX5_isCarrier [] [] [] [(0, 2), (1, 0)] [(0, 2), (1, 0)] 0 [] BX5_isCarrier := (t_ret (cv := cvI) (fun _ _ => rfl) (s_B (pT := 12) (pF := 16) (pe := 17) (c_and (p1 := 4) (pT := 12) (pF := 16) (c_ge_ZF (pF := 16) (s_iload_n dX5_isCarrier_0 rfl rfl) dX5_isCarrier_1 rfl) (c_lt_F (pF := 16) (s_iload_n dX5_isCarrier_4 rfl rfl) (s_getI ck5 6 (by decide) rfl (s_aload_n dX5_isCarrier_5 rfl rfl) dX5_isCarrier_6 w1_153) dX5_isCarrier_9 rfl)) dX5_isCarrier_12 dX5_isCarrier_13 rfl dX5_isCarrier_16 rfl) dX5_isCarrier_17)
noncomputable def DX5_isCarrier : Fr → St → Option (Int32 × St) := MZ (fun f => (sI (sR fr0 0 (gR f 0)) 1 (gI f 1))) BX5_isCarrier
theorem kX5_isCarrier : SND yX5_isCarrier cX5_isCarrier 2 (some .boolean) 1 [(0, 2), (1, 0)] cvoI DX5_isCarrier := snd_Z (nw := 2) (by decide) rfl rfl (fun _ _ => rfl) sBX5_isCarrier
theorem dX5_isTold_0 : decode cX5_isTold 0 = .ok (.aload_n 0, 1) := by decide +kernel
theorem dX5_isTold_1 : decode cX5_isTold 1 = .ok (.getfield 43, 3) := by decide +kernel
theorem dX5_isTold_4 : decode cX5_isTold 4 = .ok (.ifCond .le 7, 3) := by decide +kernel
theorem dX5_isTold_7 : decode cX5_isTold 7 = .ok (.iconst 1, 1) := by decide +kernel
theorem dX5_isTold_8 : decode cX5_isTold 8 = .ok (.goto 4, 3) := by decide +kernel
theorem dX5_isTold_11 : decode cX5_isTold 11 = .ok (.iconst 0, 1) := by decide +kernel
theorem dX5_isTold_12 : decode cX5_isTold 12 = .ok (.ireturn, 1) := by decide +kernel
theorem mokX5_isTold : MOK yX5_isTold cX5_isTold 1 (some .boolean) 0 := ⟨w3_43, w1_4, ⟨by decide, by decide⟩, by decide +kernel, by decide⟩
abbrev miX5_isTold : MI := (yX5_isTold.cls, cX5_isTold, 1, 1, false)
noncomputable def BX5_isTold : Sm Int32 := (dRet (dB (dCZ q_gt (dGI 5 0 (vR 0)))))
theorem sBX5_isTold : SS (cvoI, .ireturn) miX5_isTold [] [] [] [(0, 2)] [(0, 2)] 0 [] BX5_isTold := (t_ret (cv := cvI) (fun _ _ => rfl) (s_B (pT := 7) (pF := 11) (pe := 12) (c_gt_ZF (pF := 11) (s_getI ck5 0 (by decide) rfl (s_aload_n dX5_isTold_0 rfl rfl) dX5_isTold_1 w1_124) dX5_isTold_4 rfl) dX5_isTold_7 dX5_isTold_8 rfl dX5_isTold_11 rfl) dX5_isTold_12)
noncomputable def DX5_isTold : Fr → St → Option (Int32 × St) := MZ (fun f => (sR fr0 0 (gR f 0))) BX5_isTold
theorem kX5_isTold : SND yX5_isTold cX5_isTold 1 (some .boolean) 1 [(0, 2)] cvoI DX5_isTold := snd_Z (nw := 1) (by decide) rfl rfl (fun _ _ => rfl) sBX5_isTold
theorem dX5_isDay_0 : decode cX5_isDay 0 = .ok (.aload_n 0, 1) := by decide +kernel
theorem dX5_isDay_1 : decode cX5_isDay 1 = .ok (.invokevirtual 92, 3) := by decide +kernel
theorem dX5_isDay_4 : decode cX5_isDay 4 = .ok (.ifCond .eq 19, 3) := by decide +kernel
theorem dX5_isDay_7 : decode cX5_isDay 7 = .ok (.iload_n 1, 1) := by decide +kernel
theorem dX5_isDay_8 : decode cX5_isDay 8 = .ok (.ifCond .lt 15, 3) := by decide +kernel
theorem dX5_isDay_11 : decode cX5_isDay 11 = .ok (.iload_n 1, 1) := by decide +kernel
theorem dX5_isDay_12 : decode cX5_isDay 12 = .ok (.aload_n 0, 1) := by decide +kernel
theorem dX5_isDay_13 : decode cX5_isDay 13 = .ok (.getfield 47, 3) := by decide +kernel
theorem dX5_isDay_16 : decode cX5_isDay 16 = .ok (.if_icmp .gt 7, 3) := by decide +kernel
theorem dX5_isDay_19 : decode cX5_isDay 19 = .ok (.iconst 1, 1) := by decide +kernel
theorem dX5_isDay_20 : decode cX5_isDay 20 = .ok (.goto 4, 3) := by decide +kernel
theorem dX5_isDay_23 : decode cX5_isDay 23 = .ok (.iconst 0, 1) := by decide +kernel
theorem dX5_isDay_24 : decode cX5_isDay 24 = .ok (.ireturn, 1) := by decide +kernel
theorem mokX5_isDay : MOK yX5_isDay cX5_isDay 2 (some .boolean) 1 := ⟨w3_39, w1_4, ⟨by decide, by decide⟩, by decide +kernel, by decide⟩
abbrev miX5_isDay : MI := (yX5_isDay.cls, cX5_isDay, 2, 2, false)
noncomputable def BX5_isDay : Sm Int32 := (dRet (dB (dAnd (dAnd (dCZ q_ne (dCallV 5 DX5_isTold (aR aN 0 (vR 0)))) (dCZ q_ge (vI 1))) (dCI r_le (vI 1) (dGI 5 1 (vR 0))))))
theorem sBX5_isDay : SS (cvoI, .ireturn) miX5_isDay [] [] [] [(0, 2), (1, 0)] [(0, 2), (1, 0)] 0 [] BX5_isDay := (t_ret (cv := cvI) (fun _ _ => rfl) (s_B (pT := 19) (pF := 23) (pe := 24) (c_and (p1 := 11) (pT := 19) (pF := 23) (c_and (p1 := 7) (pT := 11) (pF := 23) (c_ne_ZF (pF := 23) (s_of_xI (x_callV (ts := [(0, 2)]) ck5 rfl kX5_isTold mokX5_isTold w3_41 w3_42 rfl rfl rfl rfl (a_R (ts := []) 0 a_nil (s_aload_n dX5_isDay_0 rfl rfl) rfl) dX5_isDay_1 w3_40)) dX5_isDay_4 rfl) (c_ge_ZF (pF := 23) (s_iload_n dX5_isDay_7 rfl rfl) dX5_isDay_8 rfl)) (c_le_F (pF := 23) (s_iload_n dX5_isDay_11 rfl rfl) (s_getI ck5 1 (by decide) rfl (s_aload_n dX5_isDay_12 rfl rfl) dX5_isDay_13 w1_127) dX5_isDay_16 rfl)) dX5_isDay_19 dX5_isDay_20 rfl dX5_isDay_23 rfl) dX5_isDay_24)
noncomputable def DX5_isDay : Fr → St → Option (Int32 × St) := MZ (fun f => (sI (sR fr0 0 (gR f 0)) 1 (gI f 1))) BX5_isDay
theorem kX5_isDay : SND yX5_isDay cX5_isDay 2 (some .boolean) 2 [(0, 2), (1, 0)] cvoI DX5_isDay := snd_Z (nw := 2) (by decide) rfl rfl (fun _ _ => rfl) sBX5_isDay
theorem dX11_at_0 : decode cX11_at 0 = .ok (.aload_n 0, 1) := by decide +kernel
theorem dX11_at_1 : decode cX11_at 1 = .ok (.getfield 26, 3) := by decide +kernel
theorem dX11_at_4 : decode cX11_at 4 = .ok (.iload_n 1, 1) := by decide +kernel
theorem dX11_at_5 : decode cX11_at 5 = .ok (.invokevirtual 128, 3) := by decide +kernel
theorem dX11_at_8 : decode cX11_at 8 = .ok (.ifCond .eq 14, 3) := by decide +kernel
theorem dX11_at_11 : decode cX11_at 11 = .ok (.aload_n 0, 1) := by decide +kernel
theorem dX11_at_12 : decode cX11_at 12 = .ok (.getfield 26, 3) := by decide +kernel
theorem dX11_at_15 : decode cX11_at 15 = .ok (.iload_n 2, 1) := by decide +kernel
theorem dX11_at_16 : decode cX11_at 16 = .ok (.invokevirtual 164, 3) := by decide +kernel
theorem dX11_at_19 : decode cX11_at 19 = .ok (.ifCond .ne 6, 3) := by decide +kernel
theorem dX11_at_22 : decode cX11_at 22 = .ok (.bipush (-2), 2) := by decide +kernel
theorem dX11_at_24 : decode cX11_at 24 = .ok (.ireturn, 1) := by decide +kernel
theorem dX11_at_25 : decode cX11_at 25 = .ok (.aload_n 0, 1) := by decide +kernel
theorem dX11_at_26 : decode cX11_at 26 = .ok (.invokevirtual 167, 3) := by decide +kernel
theorem dX11_at_29 : decode cX11_at 29 = .ok (.iload_n 1, 1) := by decide +kernel
theorem dX11_at_30 : decode cX11_at 30 = .ok (.iload_n 2, 1) := by decide +kernel
theorem dX11_at_31 : decode cX11_at 31 = .ok (.invokevirtual 171, 3) := by decide +kernel
theorem dX11_at_34 : decode cX11_at 34 = .ok (.ireturn, 1) := by decide +kernel
theorem mokX11_at : MOK yX11_at cX11_at 3 (some .int) 2 := ⟨w3_31, w1_1, ⟨by decide, by decide⟩, by decide +kernel, by decide⟩
abbrev miX11_at : MI := (yX11_at.cls, cX11_at, 3, 8, false)
noncomputable def BX11_at : Sm Int32 := (dSeq (dIf (dOr (dNot (dCZ q_ne (dCallV 5 DX5_isCarrier (aI (aR aN 0 (dGR 11 2 (vR 0))) 1 (vI 1))))) (dNot (dCZ q_ne (dCallV 5 DX5_isDay (aI (aR aN 0 (dGR 11 2 (vR 0))) 1 (vI 2)))))) (dRet (cI (-2))) dSkip) (dRet (dCallV 3 DX3_carrierOn (aI (aI (aR aN 0 (dCallV 11 DX11_today (aR aN 0 (vR 0)))) 1 (vI 1)) 2 (vI 2)))))
theorem sBX11_at : SS (cvoI, .ireturn) miX11_at [] [] [] [(0, 2), (1, 0), (2, 0)] [(0, 2), (1, 0), (2, 0)] 0 [] BX11_at := (t_sq (p1 := 25) (Γ' := [(0, 2), (1, 0), (2, 0)]) (t_if (pT := 22) (pF := 25) (X := [25]) (XA := []) (XB := [25]) (c_or (p1 := 11) (pT := 22) (pF := 25) (c_not (pT := 22) (pF := 11) (c_ne_ZF (pF := 22) (s_of_xI (x_callV (ts := [(0, 2), (1, 0)]) ck5 rfl kX5_isCarrier mokX5_isCarrier w3_33 w3_34 rfl rfl rfl rfl (a_I (ts := [(0, 2)]) 1 (a_R (ts := []) 0 a_nil (s_getR ck11 2 (by decide) rfl (s_aload_n dX11_at_0 rfl rfl) dX11_at_1 w2_198) rfl) (s_iload_n dX11_at_4 rfl rfl) rfl) dX11_at_5 w3_32)) dX11_at_8 rfl)) (c_not (pT := 22) (pF := 25) (c_ne_ZJ (pT := 25) (s_of_xI (x_callV (ts := [(0, 2), (1, 0)]) ck5 rfl kX5_isDay mokX5_isDay w3_37 w3_38 rfl rfl rfl rfl (a_I (ts := [(0, 2)]) 1 (a_R (ts := []) 0 a_nil (s_getR ck11 2 (by decide) rfl (s_aload_n dX11_at_11 rfl rfl) dX11_at_12 w2_198) rfl) (s_iload_n dX11_at_15 rfl rfl) rfl) dX11_at_16 w3_36)) dX11_at_19 rfl))) (t_ret (cv := cvI) (fun _ _ => rfl) (s_bipush dX11_at_22 rfl) dX11_at_24) (t_skip (ld_in rfl) rfl) lda_nil (lda_cons (ld_in rfl) lda_nil)) (t_ret (cv := cvI) (fun _ _ => rfl) (s_of_xI (x_callV (ts := [(0, 2), (1, 0), (2, 0)]) ck3 rfl kX3_carrierOn mokX3_carrierOn w3_123 w3_124 rfl rfl rfl rfl (a_I (ts := [(0, 2), (1, 0)]) 2 (a_I (ts := [(0, 2)]) 1 (a_R (ts := []) 0 a_nil (s_of_xR (x_callV (ts := [(0, 2)]) ck11 rfl kX11_today mokX11_today w3_46 ps1_0 rfl rfl rfl rfl (a_R (ts := []) 0 a_nil (s_aload_n dX11_at_25 rfl rfl) rfl) dX11_at_26 w3_44)) rfl) (s_iload_n dX11_at_29 rfl rfl) rfl) (s_iload_n dX11_at_30 rfl rfl) rfl) dX11_at_31 w3_122)) dX11_at_34))
noncomputable def DX11_at : Fr → St → Option (Int32 × St) := M1 (fun f => (sI (sI (sR fr0 0 (gR f 0)) 1 (gI f 1)) 2 (gI f 2))) BX11_at
theorem kX11_at : SND yX11_at cX11_at 3 (some .int) 8 [(0, 2), (1, 0), (2, 0)] cvoI DX11_at := snd_I (nw := 3) (by decide) rfl rfl (fun _ _ => rfl) sBX11_at
theorem dX5_isSlate_0 : decode cX5_isSlate 0 = .ok (.iload_n 1, 1) := by decide +kernel
theorem dX5_isSlate_1 : decode cX5_isSlate 1 = .ok (.ifCond .lt 15, 3) := by decide +kernel
theorem dX5_isSlate_4 : decode cX5_isSlate 4 = .ok (.iload_n 1, 1) := by decide +kernel
theorem dX5_isSlate_5 : decode cX5_isSlate 5 = .ok (.aload_n 0, 1) := by decide +kernel
theorem dX5_isSlate_6 : decode cX5_isSlate 6 = .ok (.getfield 65, 3) := by decide +kernel
theorem dX5_isSlate_9 : decode cX5_isSlate 9 = .ok (.if_icmp .ge 7, 3) := by decide +kernel
theorem dX5_isSlate_12 : decode cX5_isSlate 12 = .ok (.iconst 1, 1) := by decide +kernel
theorem dX5_isSlate_13 : decode cX5_isSlate 13 = .ok (.goto 4, 3) := by decide +kernel
theorem dX5_isSlate_16 : decode cX5_isSlate 16 = .ok (.iconst 0, 1) := by decide +kernel
theorem dX5_isSlate_17 : decode cX5_isSlate 17 = .ok (.ireturn, 1) := by decide +kernel
theorem mokX5_isSlate : MOK yX5_isSlate cX5_isSlate 2 (some .boolean) 1 := ⟨w3_138, w1_4, ⟨by decide, by decide⟩, by decide +kernel, by decide⟩
abbrev miX5_isSlate : MI := (yX5_isSlate.cls, cX5_isSlate, 2, 1, false)
noncomputable def BX5_isSlate : Sm Int32 := (dRet (dB (dAnd (dCZ q_ge (vI 1)) (dCI r_lt (vI 1) (dGI 5 7 (vR 0))))))
theorem sBX5_isSlate : SS (cvoI, .ireturn) miX5_isSlate [] [] [] [(0, 2), (1, 0)] [(0, 2), (1, 0)] 0 [] BX5_isSlate := (t_ret (cv := cvI) (fun _ _ => rfl) (s_B (pT := 12) (pF := 16) (pe := 17) (c_and (p1 := 4) (pT := 12) (pF := 16) (c_ge_ZF (pF := 16) (s_iload_n dX5_isSlate_0 rfl rfl) dX5_isSlate_1 rfl) (c_lt_F (pF := 16) (s_iload_n dX5_isSlate_4 rfl rfl) (s_getI ck5 7 (by decide) rfl (s_aload_n dX5_isSlate_5 rfl rfl) dX5_isSlate_6 w1_157) dX5_isSlate_9 rfl)) dX5_isSlate_12 dX5_isSlate_13 rfl dX5_isSlate_16 rfl) dX5_isSlate_17)
noncomputable def DX5_isSlate : Fr → St → Option (Int32 × St) := MZ (fun f => (sI (sR fr0 0 (gR f 0)) 1 (gI f 1))) BX5_isSlate
theorem kX5_isSlate : SND yX5_isSlate cX5_isSlate 2 (some .boolean) 1 [(0, 2), (1, 0)] cvoI DX5_isSlate := snd_Z (nw := 2) (by decide) rfl rfl (fun _ _ => rfl) sBX5_isSlate
theorem dX11_isSlateOn_0 : decode cX11_isSlateOn 0 = .ok (.aload_n 0, 1) := by decide +kernel
theorem dX11_isSlateOn_1 : decode cX11_isSlateOn 1 = .ok (.getfield 26, 3) := by decide +kernel
theorem dX11_isSlateOn_4 : decode cX11_isSlateOn 4 = .ok (.iload_n 1, 1) := by decide +kernel
theorem dX11_isSlateOn_5 : decode cX11_isSlateOn 5 = .ok (.invokevirtual 140, 3) := by decide +kernel
theorem dX11_isSlateOn_8 : decode cX11_isSlateOn 8 = .ok (.ifCond .eq 18, 3) := by decide +kernel
theorem dX11_isSlateOn_11 : decode cX11_isSlateOn 11 = .ok (.aload_n 0, 1) := by decide +kernel
theorem dX11_isSlateOn_12 : decode cX11_isSlateOn 12 = .ok (.getfield 26, 3) := by decide +kernel
theorem dX11_isSlateOn_15 : decode cX11_isSlateOn 15 = .ok (.iload_n 2, 1) := by decide +kernel
theorem dX11_isSlateOn_16 : decode cX11_isSlateOn 16 = .ok (.invokevirtual 164, 3) := by decide +kernel
theorem dX11_isSlateOn_19 : decode cX11_isSlateOn 19 = .ok (.ifCond .eq 7, 3) := by decide +kernel
theorem dX11_isSlateOn_22 : decode cX11_isSlateOn 22 = .ok (.iconst 1, 1) := by decide +kernel
theorem dX11_isSlateOn_23 : decode cX11_isSlateOn 23 = .ok (.goto 4, 3) := by decide +kernel
theorem dX11_isSlateOn_26 : decode cX11_isSlateOn 26 = .ok (.iconst 0, 1) := by decide +kernel
theorem dX11_isSlateOn_27 : decode cX11_isSlateOn 27 = .ok (.ireturn, 1) := by decide +kernel
theorem mokX11_isSlateOn : MOK yX11_isSlateOn cX11_isSlateOn 3 (some .boolean) 2 := ⟨w3_134, w1_1, ⟨by decide, by decide⟩, by decide +kernel, by decide⟩
abbrev miX11_isSlateOn : MI := (yX11_isSlateOn.cls, cX11_isSlateOn, 3, 3, false)
noncomputable def BX11_isSlateOn : Sm Int32 := (dRet (dB (dAnd (dCZ q_ne (dCallV 5 DX5_isSlate (aI (aR aN 0 (dGR 11 2 (vR 0))) 1 (vI 1)))) (dCZ q_ne (dCallV 5 DX5_isDay (aI (aR aN 0 (dGR 11 2 (vR 0))) 1 (vI 2)))))))
theorem sBX11_isSlateOn : SS (cvoI, .ireturn) miX11_isSlateOn [] [] [] [(0, 2), (1, 0), (2, 0)] [(0, 2), (1, 0), (2, 0)] 0 [] BX11_isSlateOn := (t_ret (cv := cvI) (fun _ _ => rfl) (s_B (pT := 22) (pF := 26) (pe := 27) (c_and (p1 := 11) (pT := 22) (pF := 26) (c_ne_ZF (pF := 26) (s_of_xI (x_callV (ts := [(0, 2), (1, 0)]) ck5 rfl kX5_isSlate mokX5_isSlate w3_136 w3_137 rfl rfl rfl rfl (a_I (ts := [(0, 2)]) 1 (a_R (ts := []) 0 a_nil (s_getR ck11 2 (by decide) rfl (s_aload_n dX11_isSlateOn_0 rfl rfl) dX11_isSlateOn_1 w2_198) rfl) (s_iload_n dX11_isSlateOn_4 rfl rfl) rfl) dX11_isSlateOn_5 w3_135)) dX11_isSlateOn_8 rfl) (c_ne_ZF (pF := 26) (s_of_xI (x_callV (ts := [(0, 2), (1, 0)]) ck5 rfl kX5_isDay mokX5_isDay w3_37 w3_38 rfl rfl rfl rfl (a_I (ts := [(0, 2)]) 1 (a_R (ts := []) 0 a_nil (s_getR ck11 2 (by decide) rfl (s_aload_n dX11_isSlateOn_11 rfl rfl) dX11_isSlateOn_12 w2_198) rfl) (s_iload_n dX11_isSlateOn_15 rfl rfl) rfl) dX11_isSlateOn_16 w3_36)) dX11_isSlateOn_19 rfl)) dX11_isSlateOn_22 dX11_isSlateOn_23 rfl dX11_isSlateOn_26 rfl) dX11_isSlateOn_27)
noncomputable def DX11_isSlateOn : Fr → St → Option (Int32 × St) := MZ (fun f => (sI (sI (sR fr0 0 (gR f 0)) 1 (gI f 1)) 2 (gI f 2))) BX11_isSlateOn
theorem kX11_isSlateOn : SND yX11_isSlateOn cX11_isSlateOn 3 (some .boolean) 3 [(0, 2), (1, 0), (2, 0)] cvoI DX11_isSlateOn := snd_Z (nw := 3) (by decide) rfl rfl (fun _ _ => rfl) sBX11_isSlateOn
theorem dX3_slateOn_0 : decode cX3_slateOn 0 = .ok (.aload_n 0, 1) := by decide +kernel
theorem dX3_slateOn_1 : decode cX3_slateOn 1 = .ok (.getfield 22, 3) := by decide +kernel
theorem dX3_slateOn_4 : decode cX3_slateOn 4 = .ok (.iload_n 2, 1) := by decide +kernel
theorem dX3_slateOn_5 : decode cX3_slateOn 5 = .ok (.iconst 3, 1) := by decide +kernel
theorem dX3_slateOn_6 : decode cX3_slateOn 6 = .ok (.imul, 1) := by decide +kernel
theorem dX3_slateOn_7 : decode cX3_slateOn 7 = .ok (.iload_n 1, 1) := by decide +kernel
theorem dX3_slateOn_8 : decode cX3_slateOn 8 = .ok (.iadd, 1) := by decide +kernel
theorem dX3_slateOn_9 : decode cX3_slateOn 9 = .ok (.invokestatic 58, 3) := by decide +kernel
theorem dX3_slateOn_12 : decode cX3_slateOn 12 = .ok (.ireturn, 1) := by decide +kernel
theorem mokX3_slateOn : MOK yX3_slateOn cX3_slateOn 3 (some .int) 2 := ⟨w3_142, w1_7, ⟨by decide, by decide⟩, by decide +kernel, by decide⟩
abbrev miX3_slateOn : MI := (yX3_slateOn.cls, cX3_slateOn, 3, 2, false)
noncomputable def BX3_slateOn : Sm Int32 := (dRet (dCall DX11_cell (aI (aR aN 0 (dGR 3 3 (vR 0))) 1 (d2 o_iadd (d2 o_imul (vI 2) (cI 3)) (vI 1)))))
theorem sBX3_slateOn : SS (cvoI, .ireturn) miX3_slateOn [] [] [] [(0, 2), (1, 0), (2, 0)] [(0, 2), (1, 0), (2, 0)] 0 [] BX3_slateOn := (t_ret (cv := cvI) (fun _ _ => rfl) (s_of_xI (x_callN (ts := [(0, 2), (1, 0)]) kX11_cell mokX11_cell w3_26 rfl rfl rfl (a_I (ts := [(0, 2)]) 1 (a_R (ts := []) 0 a_nil (s_getR ck3 3 (by decide) rfl (s_aload_n dX3_slateOn_0 rfl rfl) dX3_slateOn_1 w2_74) rfl) (s_iadd (s_imul (s_iload_n dX3_slateOn_4 rfl rfl) (s_iconst dX3_slateOn_5 rfl) dX3_slateOn_6) (s_iload_n dX3_slateOn_7 rfl rfl) dX3_slateOn_8) rfl) dX3_slateOn_9 nb19)) dX3_slateOn_12)
noncomputable def DX3_slateOn : Fr → St → Option (Int32 × St) := M1 (fun f => (sI (sI (sR fr0 0 (gR f 0)) 1 (gI f 1)) 2 (gI f 2))) BX3_slateOn
theorem kX3_slateOn : SND yX3_slateOn cX3_slateOn 3 (some .int) 2 [(0, 2), (1, 0), (2, 0)] cvoI DX3_slateOn := snd_I (nw := 3) (by decide) rfl rfl (fun _ _ => rfl) sBX3_slateOn
theorem dX11_lies_0 : decode cX11_lies 0 = .ok (.aload_n 0, 1) := by decide +kernel
theorem dX11_lies_1 : decode cX11_lies 1 = .ok (.iload_n 1, 1) := by decide +kernel
theorem dX11_lies_2 : decode cX11_lies 2 = .ok (.iload_n 2, 1) := by decide +kernel
theorem dX11_lies_3 : decode cX11_lies 3 = .ok (.invokevirtual 174, 3) := by decide +kernel
theorem dX11_lies_6 : decode cX11_lies 6 = .ok (.ifCond .eq 15, 3) := by decide +kernel
theorem dX11_lies_9 : decode cX11_lies 9 = .ok (.aload_n 0, 1) := by decide +kernel
theorem dX11_lies_10 : decode cX11_lies 10 = .ok (.invokevirtual 167, 3) := by decide +kernel
theorem dX11_lies_13 : decode cX11_lies 13 = .ok (.iload_n 1, 1) := by decide +kernel
theorem dX11_lies_14 : decode cX11_lies 14 = .ok (.iload_n 2, 1) := by decide +kernel
theorem dX11_lies_15 : decode cX11_lies 15 = .ok (.invokevirtual 177, 3) := by decide +kernel
theorem dX11_lies_18 : decode cX11_lies 18 = .ok (.goto 5, 3) := by decide +kernel
theorem dX11_lies_21 : decode cX11_lies 21 = .ok (.bipush (-2), 2) := by decide +kernel
theorem dX11_lies_23 : decode cX11_lies 23 = .ok (.ireturn, 1) := by decide +kernel
theorem mokX11_lies : MOK yX11_lies cX11_lies 3 (some .int) 2 := ⟨w3_130, w1_1, ⟨by decide, by decide⟩, by decide +kernel, by decide⟩
abbrev miX11_lies : MI := (yX11_lies.cls, cX11_lies, 3, 8, false)
noncomputable def BX11_lies : Sm Int32 := (dRet (dT (dCZ q_ne (dCallV 11 DX11_isSlateOn (aI (aI (aR aN 0 (vR 0)) 1 (vI 1)) 2 (vI 2)))) (dCallV 3 DX3_slateOn (aI (aI (aR aN 0 (dCallV 11 DX11_today (aR aN 0 (vR 0)))) 1 (vI 1)) 2 (vI 2))) (cI (-2))))
theorem sBX11_lies : SS (cvoI, .ireturn) miX11_lies [] [] [] [(0, 2), (1, 0), (2, 0)] [(0, 2), (1, 0), (2, 0)] 0 [] BX11_lies := (t_ret (cv := cvI) (fun _ _ => rfl) (s_T (pT := 9) (pF := 21) (p1 := 18) (pe := 23) (c_ne_ZF (pF := 21) (s_of_xI (x_callV (ts := [(0, 2), (1, 0), (2, 0)]) ck11 rfl kX11_isSlateOn mokX11_isSlateOn w3_133 ps1_5 rfl rfl rfl rfl (a_I (ts := [(0, 2), (1, 0)]) 2 (a_I (ts := [(0, 2)]) 1 (a_R (ts := []) 0 a_nil (s_aload_n dX11_lies_0 rfl rfl) rfl) (s_iload_n dX11_lies_1 rfl rfl) rfl) (s_iload_n dX11_lies_2 rfl rfl) rfl) dX11_lies_3 w3_131)) dX11_lies_6 rfl) (s_of_xI (x_callV (ts := [(0, 2), (1, 0), (2, 0)]) ck3 rfl kX3_slateOn mokX3_slateOn w3_140 w3_141 rfl rfl rfl rfl (a_I (ts := [(0, 2), (1, 0)]) 2 (a_I (ts := [(0, 2)]) 1 (a_R (ts := []) 0 a_nil (s_of_xR (x_callV (ts := [(0, 2)]) ck11 rfl kX11_today mokX11_today w3_46 ps1_0 rfl rfl rfl rfl (a_R (ts := []) 0 a_nil (s_aload_n dX11_lies_9 rfl rfl) rfl) dX11_lies_10 w3_44)) rfl) (s_iload_n dX11_lies_13 rfl rfl) rfl) (s_iload_n dX11_lies_14 rfl rfl) rfl) dX11_lies_15 w3_139)) (s_bipush dX11_lies_21 rfl) (ld_goto (y := 23) dX11_lies_18 rfl (ld_in rfl))) dX11_lies_23)
noncomputable def DX11_lies : Fr → St → Option (Int32 × St) := M1 (fun f => (sI (sI (sR fr0 0 (gR f 0)) 1 (gI f 1)) 2 (gI f 2))) BX11_lies
theorem kX11_lies : SND yX11_lies cX11_lies 3 (some .int) 8 [(0, 2), (1, 0), (2, 0)] cvoI DX11_lies := snd_I (nw := 3) (by decide) rfl rfl (fun _ _ => rfl) sBX11_lies
theorem dX3_leftOn_0 : decode cX3_leftOn 0 = .ok (.aload_n 0, 1) := by decide +kernel
theorem dX3_leftOn_1 : decode cX3_leftOn 1 = .ok (.getfield 25, 3) := by decide +kernel
theorem dX3_leftOn_4 : decode cX3_leftOn 4 = .ok (.iload_n 2, 1) := by decide +kernel
theorem dX3_leftOn_5 : decode cX3_leftOn 5 = .ok (.iconst 3, 1) := by decide +kernel
theorem dX3_leftOn_6 : decode cX3_leftOn 6 = .ok (.imul, 1) := by decide +kernel
theorem dX3_leftOn_7 : decode cX3_leftOn 7 = .ok (.iload_n 1, 1) := by decide +kernel
theorem dX3_leftOn_8 : decode cX3_leftOn 8 = .ok (.iadd, 1) := by decide +kernel
theorem dX3_leftOn_9 : decode cX3_leftOn 9 = .ok (.invokestatic 58, 3) := by decide +kernel
theorem dX3_leftOn_12 : decode cX3_leftOn 12 = .ok (.ireturn, 1) := by decide +kernel
theorem mokX3_leftOn : MOK yX3_leftOn cX3_leftOn 3 (some .int) 2 := ⟨w3_150, w1_7, ⟨by decide, by decide⟩, by decide +kernel, by decide⟩
abbrev miX3_leftOn : MI := (yX3_leftOn.cls, cX3_leftOn, 3, 2, false)
noncomputable def BX3_leftOn : Sm Int32 := (dRet (dCall DX11_cell (aI (aR aN 0 (dGR 3 4 (vR 0))) 1 (d2 o_iadd (d2 o_imul (vI 2) (cI 3)) (vI 1)))))
theorem sBX3_leftOn : SS (cvoI, .ireturn) miX3_leftOn [] [] [] [(0, 2), (1, 0), (2, 0)] [(0, 2), (1, 0), (2, 0)] 0 [] BX3_leftOn := (t_ret (cv := cvI) (fun _ _ => rfl) (s_of_xI (x_callN (ts := [(0, 2), (1, 0)]) kX11_cell mokX11_cell w3_26 rfl rfl rfl (a_I (ts := [(0, 2)]) 1 (a_R (ts := []) 0 a_nil (s_getR ck3 4 (by decide) rfl (s_aload_n dX3_leftOn_0 rfl rfl) dX3_leftOn_1 w2_75) rfl) (s_iadd (s_imul (s_iload_n dX3_leftOn_4 rfl rfl) (s_iconst dX3_leftOn_5 rfl) dX3_leftOn_6) (s_iload_n dX3_leftOn_7 rfl rfl) dX3_leftOn_8) rfl) dX3_leftOn_9 nb19)) dX3_leftOn_12)
noncomputable def DX3_leftOn : Fr → St → Option (Int32 × St) := M1 (fun f => (sI (sI (sR fr0 0 (gR f 0)) 1 (gI f 1)) 2 (gI f 2))) BX3_leftOn
theorem kX3_leftOn : SND yX3_leftOn cX3_leftOn 3 (some .int) 2 [(0, 2), (1, 0), (2, 0)] cvoI DX3_leftOn := snd_I (nw := 3) (by decide) rfl rfl (fun _ _ => rfl) sBX3_leftOn
theorem dX11_left_0 : decode cX11_left 0 = .ok (.aload_n 0, 1) := by decide +kernel
theorem dX11_left_1 : decode cX11_left 1 = .ok (.iload_n 1, 1) := by decide +kernel
theorem dX11_left_2 : decode cX11_left 2 = .ok (.iload_n 2, 1) := by decide +kernel
theorem dX11_left_3 : decode cX11_left 3 = .ok (.invokevirtual 174, 3) := by decide +kernel
theorem dX11_left_6 : decode cX11_left 6 = .ok (.ifCond .eq 15, 3) := by decide +kernel
theorem dX11_left_9 : decode cX11_left 9 = .ok (.aload_n 0, 1) := by decide +kernel
theorem dX11_left_10 : decode cX11_left 10 = .ok (.invokevirtual 167, 3) := by decide +kernel
theorem dX11_left_13 : decode cX11_left 13 = .ok (.iload_n 1, 1) := by decide +kernel
theorem dX11_left_14 : decode cX11_left 14 = .ok (.iload_n 2, 1) := by decide +kernel
theorem dX11_left_15 : decode cX11_left 15 = .ok (.invokevirtual 180, 3) := by decide +kernel
theorem dX11_left_18 : decode cX11_left 18 = .ok (.goto 5, 3) := by decide +kernel
theorem dX11_left_21 : decode cX11_left 21 = .ok (.bipush (-2), 2) := by decide +kernel
theorem dX11_left_23 : decode cX11_left 23 = .ok (.ireturn, 1) := by decide +kernel
theorem mokX11_left : MOK yX11_left cX11_left 3 (some .int) 2 := ⟨w3_146, w1_1, ⟨by decide, by decide⟩, by decide +kernel, by decide⟩
abbrev miX11_left : MI := (yX11_left.cls, cX11_left, 3, 8, false)
noncomputable def BX11_left : Sm Int32 := (dRet (dT (dCZ q_ne (dCallV 11 DX11_isSlateOn (aI (aI (aR aN 0 (vR 0)) 1 (vI 1)) 2 (vI 2)))) (dCallV 3 DX3_leftOn (aI (aI (aR aN 0 (dCallV 11 DX11_today (aR aN 0 (vR 0)))) 1 (vI 1)) 2 (vI 2))) (cI (-2))))
theorem sBX11_left : SS (cvoI, .ireturn) miX11_left [] [] [] [(0, 2), (1, 0), (2, 0)] [(0, 2), (1, 0), (2, 0)] 0 [] BX11_left := (t_ret (cv := cvI) (fun _ _ => rfl) (s_T (pT := 9) (pF := 21) (p1 := 18) (pe := 23) (c_ne_ZF (pF := 21) (s_of_xI (x_callV (ts := [(0, 2), (1, 0), (2, 0)]) ck11 rfl kX11_isSlateOn mokX11_isSlateOn w3_133 ps1_5 rfl rfl rfl rfl (a_I (ts := [(0, 2), (1, 0)]) 2 (a_I (ts := [(0, 2)]) 1 (a_R (ts := []) 0 a_nil (s_aload_n dX11_left_0 rfl rfl) rfl) (s_iload_n dX11_left_1 rfl rfl) rfl) (s_iload_n dX11_left_2 rfl rfl) rfl) dX11_left_3 w3_131)) dX11_left_6 rfl) (s_of_xI (x_callV (ts := [(0, 2), (1, 0), (2, 0)]) ck3 rfl kX3_leftOn mokX3_leftOn w3_148 w3_149 rfl rfl rfl rfl (a_I (ts := [(0, 2), (1, 0)]) 2 (a_I (ts := [(0, 2)]) 1 (a_R (ts := []) 0 a_nil (s_of_xR (x_callV (ts := [(0, 2)]) ck11 rfl kX11_today mokX11_today w3_46 ps1_0 rfl rfl rfl rfl (a_R (ts := []) 0 a_nil (s_aload_n dX11_left_9 rfl rfl) rfl) dX11_left_10 w3_44)) rfl) (s_iload_n dX11_left_13 rfl rfl) rfl) (s_iload_n dX11_left_14 rfl rfl) rfl) dX11_left_15 w3_147)) (s_bipush dX11_left_21 rfl) (ld_goto (y := 23) dX11_left_18 rfl (ld_in rfl))) dX11_left_23)
noncomputable def DX11_left : Fr → St → Option (Int32 × St) := M1 (fun f => (sI (sI (sR fr0 0 (gR f 0)) 1 (gI f 1)) 2 (gI f 2))) BX11_left
theorem kX11_left : SND yX11_left cX11_left 3 (some .int) 8 [(0, 2), (1, 0), (2, 0)] cvoI DX11_left := snd_I (nw := 3) (by decide) rfl rfl (fun _ _ => rfl) sBX11_left
theorem dX3_knownOn_0 : decode cX3_knownOn 0 = .ok (.aload_n 0, 1) := by decide +kernel
theorem dX3_knownOn_1 : decode cX3_knownOn 1 = .ok (.getfield 28, 3) := by decide +kernel
theorem dX3_knownOn_4 : decode cX3_knownOn 4 = .ok (.iload_n 3, 1) := by decide +kernel
theorem dX3_knownOn_5 : decode cX3_knownOn 5 = .ok (.iconst 3, 1) := by decide +kernel
theorem dX3_knownOn_6 : decode cX3_knownOn 6 = .ok (.imul, 1) := by decide +kernel
theorem dX3_knownOn_7 : decode cX3_knownOn 7 = .ok (.iload_n 2, 1) := by decide +kernel
theorem dX3_knownOn_8 : decode cX3_knownOn 8 = .ok (.iadd, 1) := by decide +kernel
theorem dX3_knownOn_9 : decode cX3_knownOn 9 = .ok (.bipush 8, 2) := by decide +kernel
theorem dX3_knownOn_11 : decode cX3_knownOn 11 = .ok (.imul, 1) := by decide +kernel
theorem dX3_knownOn_12 : decode cX3_knownOn 12 = .ok (.iload_n 1, 1) := by decide +kernel
theorem dX3_knownOn_13 : decode cX3_knownOn 13 = .ok (.iadd, 1) := by decide +kernel
theorem dX3_knownOn_14 : decode cX3_knownOn 14 = .ok (.invokestatic 58, 3) := by decide +kernel
theorem dX3_knownOn_17 : decode cX3_knownOn 17 = .ok (.ireturn, 1) := by decide +kernel
theorem mokX3_knownOn : MOK yX3_knownOn cX3_knownOn 4 (some .int) 3 := ⟨w3_159, w1_7, ⟨by decide, by decide⟩, by decide +kernel, by decide⟩
abbrev miX3_knownOn : MI := (yX3_knownOn.cls, cX3_knownOn, 4, 2, false)
noncomputable def BX3_knownOn : Sm Int32 := (dRet (dCall DX11_cell (aI (aR aN 0 (dGR 3 5 (vR 0))) 1 (d2 o_iadd (d2 o_imul (d2 o_iadd (d2 o_imul (vI 3) (cI 3)) (vI 2)) (cI 8)) (vI 1)))))
theorem sBX3_knownOn : SS (cvoI, .ireturn) miX3_knownOn [] [] [] [(0, 2), (1, 0), (2, 0), (3, 0)] [(0, 2), (1, 0), (2, 0), (3, 0)] 0 [] BX3_knownOn := (t_ret (cv := cvI) (fun _ _ => rfl) (s_of_xI (x_callN (ts := [(0, 2), (1, 0)]) kX11_cell mokX11_cell w3_26 rfl rfl rfl (a_I (ts := [(0, 2)]) 1 (a_R (ts := []) 0 a_nil (s_getR ck3 5 (by decide) rfl (s_aload_n dX3_knownOn_0 rfl rfl) dX3_knownOn_1 w2_76) rfl) (s_iadd (s_imul (s_iadd (s_imul (s_iload_n dX3_knownOn_4 rfl rfl) (s_iconst dX3_knownOn_5 rfl) dX3_knownOn_6) (s_iload_n dX3_knownOn_7 rfl rfl) dX3_knownOn_8) (s_bipush dX3_knownOn_9 rfl) dX3_knownOn_11) (s_iload_n dX3_knownOn_12 rfl rfl) dX3_knownOn_13) rfl) dX3_knownOn_14 nb19)) dX3_knownOn_17)
noncomputable def DX3_knownOn : Fr → St → Option (Int32 × St) := M1 (fun f => (sI (sI (sI (sR fr0 0 (gR f 0)) 1 (gI f 1)) 2 (gI f 2)) 3 (gI f 3))) BX3_knownOn
theorem kX3_knownOn : SND yX3_knownOn cX3_knownOn 4 (some .int) 2 [(0, 2), (1, 0), (2, 0), (3, 0)] cvoI DX3_knownOn := snd_I (nw := 4) (by decide) rfl rfl (fun _ _ => rfl) sBX3_knownOn
theorem dX11_knows_0 : decode cX11_knows 0 = .ok (.aload_n 0, 1) := by decide +kernel
theorem dX11_knows_1 : decode cX11_knows 1 = .ok (.getfield 26, 3) := by decide +kernel
theorem dX11_knows_4 : decode cX11_knows 4 = .ok (.iload_n 1, 1) := by decide +kernel
theorem dX11_knows_5 : decode cX11_knows 5 = .ok (.invokevirtual 117, 3) := by decide +kernel
theorem dX11_knows_8 : decode cX11_knows 8 = .ok (.ifCond .eq 12, 3) := by decide +kernel
theorem dX11_knows_11 : decode cX11_knows 11 = .ok (.aload_n 0, 1) := by decide +kernel
theorem dX11_knows_12 : decode cX11_knows 12 = .ok (.iload_n 2, 1) := by decide +kernel
theorem dX11_knows_13 : decode cX11_knows 13 = .ok (.iload_n 3, 1) := by decide +kernel
theorem dX11_knows_14 : decode cX11_knows 14 = .ok (.invokevirtual 174, 3) := by decide +kernel
theorem dX11_knows_17 : decode cX11_knows 17 = .ok (.ifCond .ne 6, 3) := by decide +kernel
theorem dX11_knows_20 : decode cX11_knows 20 = .ok (.bipush (-2), 2) := by decide +kernel
theorem dX11_knows_22 : decode cX11_knows 22 = .ok (.ireturn, 1) := by decide +kernel
theorem dX11_knows_23 : decode cX11_knows 23 = .ok (.aload_n 0, 1) := by decide +kernel
theorem dX11_knows_24 : decode cX11_knows 24 = .ok (.invokevirtual 167, 3) := by decide +kernel
theorem dX11_knows_27 : decode cX11_knows 27 = .ok (.iload_n 1, 1) := by decide +kernel
theorem dX11_knows_28 : decode cX11_knows 28 = .ok (.iload_n 2, 1) := by decide +kernel
theorem dX11_knows_29 : decode cX11_knows 29 = .ok (.iload_n 3, 1) := by decide +kernel
theorem dX11_knows_30 : decode cX11_knows 30 = .ok (.invokevirtual 186, 3) := by decide +kernel
theorem dX11_knows_33 : decode cX11_knows 33 = .ok (.ireturn, 1) := by decide +kernel
theorem mokX11_knows : MOK yX11_knows cX11_knows 4 (some .int) 3 := ⟨w3_154, w1_1, ⟨by decide, by decide⟩, by decide +kernel, by decide⟩
abbrev miX11_knows : MI := (yX11_knows.cls, cX11_knows, 4, 8, false)
noncomputable def BX11_knows : Sm Int32 := (dSeq (dIf (dOr (dNot (dCZ q_ne (dCallV 5 DX5_isHouse (aI (aR aN 0 (dGR 11 2 (vR 0))) 1 (vI 1))))) (dNot (dCZ q_ne (dCallV 11 DX11_isSlateOn (aI (aI (aR aN 0 (vR 0)) 1 (vI 2)) 2 (vI 3)))))) (dRet (cI (-2))) dSkip) (dRet (dCallV 3 DX3_knownOn (aI (aI (aI (aR aN 0 (dCallV 11 DX11_today (aR aN 0 (vR 0)))) 1 (vI 1)) 2 (vI 2)) 3 (vI 3)))))
theorem sBX11_knows : SS (cvoI, .ireturn) miX11_knows [] [] [] [(0, 2), (1, 0), (2, 0), (3, 0)] [(0, 2), (1, 0), (2, 0), (3, 0)] 0 [] BX11_knows := (t_sq (p1 := 23) (Γ' := [(0, 2), (1, 0), (2, 0), (3, 0)]) (t_if (pT := 20) (pF := 23) (X := [23]) (XA := []) (XB := [23]) (c_or (p1 := 11) (pT := 20) (pF := 23) (c_not (pT := 20) (pF := 11) (c_ne_ZF (pF := 20) (s_of_xI (x_callV (ts := [(0, 2), (1, 0)]) ck5 rfl kX5_isHouse mokX5_isHouse w3_8 w3_9 rfl rfl rfl rfl (a_I (ts := [(0, 2)]) 1 (a_R (ts := []) 0 a_nil (s_getR ck11 2 (by decide) rfl (s_aload_n dX11_knows_0 rfl rfl) dX11_knows_1 w2_198) rfl) (s_iload_n dX11_knows_4 rfl rfl) rfl) dX11_knows_5 w3_155)) dX11_knows_8 rfl)) (c_not (pT := 20) (pF := 23) (c_ne_ZJ (pT := 23) (s_of_xI (x_callV (ts := [(0, 2), (1, 0), (2, 0)]) ck11 rfl kX11_isSlateOn mokX11_isSlateOn w3_133 ps1_5 rfl rfl rfl rfl (a_I (ts := [(0, 2), (1, 0)]) 2 (a_I (ts := [(0, 2)]) 1 (a_R (ts := []) 0 a_nil (s_aload_n dX11_knows_11 rfl rfl) rfl) (s_iload_n dX11_knows_12 rfl rfl) rfl) (s_iload_n dX11_knows_13 rfl rfl) rfl) dX11_knows_14 w3_131)) dX11_knows_17 rfl))) (t_ret (cv := cvI) (fun _ _ => rfl) (s_bipush dX11_knows_20 rfl) dX11_knows_22) (t_skip (ld_in rfl) rfl) lda_nil (lda_cons (ld_in rfl) lda_nil)) (t_ret (cv := cvI) (fun _ _ => rfl) (s_of_xI (x_callV (ts := [(0, 2), (1, 0), (2, 0), (3, 0)]) ck3 rfl kX3_knownOn mokX3_knownOn w3_157 w3_158 rfl rfl rfl rfl (a_I (ts := [(0, 2), (1, 0), (2, 0)]) 3 (a_I (ts := [(0, 2), (1, 0)]) 2 (a_I (ts := [(0, 2)]) 1 (a_R (ts := []) 0 a_nil (s_of_xR (x_callV (ts := [(0, 2)]) ck11 rfl kX11_today mokX11_today w3_46 ps1_0 rfl rfl rfl rfl (a_R (ts := []) 0 a_nil (s_aload_n dX11_knows_23 rfl rfl) rfl) dX11_knows_24 w3_44)) rfl) (s_iload_n dX11_knows_27 rfl rfl) rfl) (s_iload_n dX11_knows_28 rfl rfl) rfl) (s_iload_n dX11_knows_29 rfl rfl) rfl) dX11_knows_30 w3_156)) dX11_knows_33))
noncomputable def DX11_knows : Fr → St → Option (Int32 × St) := M1 (fun f => (sI (sI (sI (sR fr0 0 (gR f 0)) 1 (gI f 1)) 2 (gI f 2)) 3 (gI f 3))) BX11_knows
theorem kX11_knows : SND yX11_knows cX11_knows 4 (some .int) 8 [(0, 2), (1, 0), (2, 0), (3, 0)] cvoI DX11_knows := snd_I (nw := 4) (by decide) rfl rfl (fun _ _ => rfl) sBX11_knows
theorem dX3_hearersOn_0 : decode cX3_hearersOn 0 = .ok (.iconst 0, 1) := by decide +kernel
theorem dX3_hearersOn_1 : decode cX3_hearersOn 1 = .ok (.istore 4, 2) := by decide +kernel
theorem dX3_hearersOn_3 : decode cX3_hearersOn 3 = .ok (.iconst 0, 1) := by decide +kernel
theorem dX3_hearersOn_4 : decode cX3_hearersOn 4 = .ok (.istore 5, 2) := by decide +kernel
theorem dX3_hearersOn_6 : decode cX3_hearersOn 6 = .ok (.iload 5, 2) := by decide +kernel
theorem dX3_hearersOn_8 : decode cX3_hearersOn 8 = .ok (.aload_n 1, 1) := by decide +kernel
theorem dX3_hearersOn_9 : decode cX3_hearersOn 9 = .ok (.getfield 62, 3) := by decide +kernel
theorem dX3_hearersOn_12 : decode cX3_hearersOn 12 = .ok (.if_icmp .ge 29, 3) := by decide +kernel
theorem dX3_hearersOn_15 : decode cX3_hearersOn 15 = .ok (.aload_n 0, 1) := by decide +kernel
theorem dX3_hearersOn_16 : decode cX3_hearersOn 16 = .ok (.iload 5, 2) := by decide +kernel
theorem dX3_hearersOn_18 : decode cX3_hearersOn 18 = .ok (.iload_n 2, 1) := by decide +kernel
theorem dX3_hearersOn_19 : decode cX3_hearersOn 19 = .ok (.iload_n 3, 1) := by decide +kernel
theorem dX3_hearersOn_20 : decode cX3_hearersOn 20 = .ok (.invokevirtual 65, 3) := by decide +kernel
theorem dX3_hearersOn_23 : decode cX3_hearersOn 23 = .ok (.ifCond .eq 12, 3) := by decide +kernel
theorem dX3_hearersOn_26 : decode cX3_hearersOn 26 = .ok (.iload 4, 2) := by decide +kernel
theorem dX3_hearersOn_28 : decode cX3_hearersOn 28 = .ok (.iconst 1, 1) := by decide +kernel
theorem dX3_hearersOn_29 : decode cX3_hearersOn 29 = .ok (.iload 5, 2) := by decide +kernel
theorem dX3_hearersOn_31 : decode cX3_hearersOn 31 = .ok (.ishl, 1) := by decide +kernel
theorem dX3_hearersOn_32 : decode cX3_hearersOn 32 = .ok (.ior, 1) := by decide +kernel
theorem dX3_hearersOn_33 : decode cX3_hearersOn 33 = .ok (.istore 4, 2) := by decide +kernel
theorem dX3_hearersOn_35 : decode cX3_hearersOn 35 = .ok (.iinc 5 1, 3) := by decide +kernel
theorem dX3_hearersOn_38 : decode cX3_hearersOn 38 = .ok (.goto (-32), 3) := by decide +kernel
theorem dX3_hearersOn_41 : decode cX3_hearersOn 41 = .ok (.iload 4, 2) := by decide +kernel
theorem dX3_hearersOn_43 : decode cX3_hearersOn 43 = .ok (.ireturn, 1) := by decide +kernel
theorem mokX3_hearersOn : MOK yX3_hearersOn cX3_hearersOn 6 (some .int) 3 := ⟨w3_167, w1_7, ⟨by decide, by decide⟩, by decide +kernel, by decide⟩
abbrev miX3_hearersOn : MI := (yX3_hearersOn.cls, cX3_hearersOn, 6, 3, false)
noncomputable def LX3_hearersOn_1 : Sm Int32 := dLoop (fun f => (sI (sI (sI (sI (sR (sR fr0 0 (gR f 0)) 1 (gR f 1)) 2 (gI f 2)) 3 (gI f 3)) 4 (gI f 4)) 5 (gI f 5))) (dCI r_lt (vI 5) (dGI 5 4 (vR 1))) (dIf (dCZ q_ne (dCallV 3 DX3_knownOn (aI (aI (aI (aR aN 0 (vR 0)) 1 (vI 5)) 2 (vI 2)) 3 (vI 3)))) (dSetI 4 (d2 o_ior (vI 4) (d2 o_ishl (cI 1) (vI 5)))) dSkip) (dInc 5 1)
theorem sLX3_hearersOn_1 {ΓL : Gm} {PB PK : List Nat} : SS (cvoI, .ireturn) miX3_hearersOn ΓL PB PK [(0, 2), (1, 2), (2, 0), (3, 0), (4, 0), (5, 0)] [(0, 2), (1, 2), (2, 0), (3, 0), (4, 0), (5, 0)] 6 [41] LX3_hearersOn_1 := t_loop (pT := 15) (pF := 41) (pu := 35) (PB' := []) (PK' := []) (XB := [35]) (XU := [38]) (fun _ _ => rfl) rfl (c_lt_F (pF := 41) (s_iload dX3_hearersOn_6 rfl) (s_getI ck5 4 (by decide) rfl (s_aload_n dX3_hearersOn_8 rfl rfl) dX3_hearersOn_9 w1_147) dX3_hearersOn_12 rfl) (t_if (pT := 26) (pF := 35) (X := [35]) (XA := [35]) (XB := [35]) (c_ne_ZF (pF := 35) (s_of_xI (x_callV (ts := [(0, 2), (1, 0), (2, 0), (3, 0)]) ck3 rfl kX3_knownOn mokX3_knownOn w3_157 w3_158 rfl rfl rfl rfl (a_I (ts := [(0, 2), (1, 0), (2, 0)]) 3 (a_I (ts := [(0, 2), (1, 0)]) 2 (a_I (ts := [(0, 2)]) 1 (a_R (ts := []) 0 a_nil (s_aload_n dX3_hearersOn_15 rfl rfl) rfl) (s_iload dX3_hearersOn_16 rfl) rfl) (s_iload_n dX3_hearersOn_18 rfl rfl) rfl) (s_iload_n dX3_hearersOn_19 rfl rfl) rfl) dX3_hearersOn_20 w3_168)) dX3_hearersOn_23 rfl) (t_istore (s_ior (s_iload dX3_hearersOn_26 rfl) (s_ishl (s_iconst dX3_hearersOn_28 rfl) (s_iload dX3_hearersOn_29 rfl) dX3_hearersOn_31) dX3_hearersOn_32) dX3_hearersOn_33 rfl rfl) (t_skip (ld_in rfl) rfl) (lda_cons (ld_in rfl) lda_nil) (lda_cons (ld_in rfl) lda_nil)) (t_iinc dX3_hearersOn_35 rfl rfl rfl rfl) (lda_cons (ld_in rfl) lda_nil) lda_nil (lda_cons (ld_goto (y := 6) dX3_hearersOn_38 rfl (ld_in rfl)) lda_nil) (ld_in rfl) lda_nil
noncomputable def BX3_hearersOn : Sm Int32 := (dSeq (dSetI 4 (cI 0)) (dSeq (dSeq (dSetI 5 (cI 0)) LX3_hearersOn_1) (dRet (vI 4))))
theorem sBX3_hearersOn : SS (cvoI, .ireturn) miX3_hearersOn [] [] [] [(0, 2), (1, 2), (2, 0), (3, 0)] [(0, 2), (1, 2), (2, 0), (3, 0)] 0 [] BX3_hearersOn := (t_sq (p1 := 3) (Γ' := [(0, 2), (1, 2), (2, 0), (3, 0), (4, 0)]) (t_istore (s_iconst dX3_hearersOn_0 rfl) dX3_hearersOn_1 rfl rfl) (t_sq (p1 := 41) (Γ' := [(0, 2), (1, 2), (2, 0), (3, 0), (4, 0)]) (t_sq (p1 := 6) (Γ' := [(0, 2), (1, 2), (2, 0), (3, 0), (4, 0), (5, 0)]) (t_istore (s_iconst dX3_hearersOn_3 rfl) dX3_hearersOn_4 rfl rfl) (tn_to (Γ' := [(0, 2), (1, 2), (2, 0), (3, 0), (4, 0), (5, 0)]) (XA := [41]) sLX3_hearersOn_1 (lda_cons (ld_in rfl) lda_nil) rfl)) (t_ret (cv := cvI) (fun _ _ => rfl) (s_iload dX3_hearersOn_41 rfl) dX3_hearersOn_43)))
noncomputable def DX3_hearersOn : Fr → St → Option (Int32 × St) := M1 (fun f => (sI (sI (sR (sR fr0 0 (gR f 0)) 1 (gR f 1)) 2 (gI f 2)) 3 (gI f 3))) BX3_hearersOn
theorem kX3_hearersOn : SND yX3_hearersOn cX3_hearersOn 6 (some .int) 3 [(0, 2), (1, 2), (2, 0), (3, 0)] cvoI DX3_hearersOn := snd_I (nw := 4) (by decide) rfl rfl (fun _ _ => rfl) sBX3_hearersOn
theorem dX11_heard_0 : decode cX11_heard 0 = .ok (.aload_n 0, 1) := by decide +kernel
theorem dX11_heard_1 : decode cX11_heard 1 = .ok (.iload_n 1, 1) := by decide +kernel
theorem dX11_heard_2 : decode cX11_heard 2 = .ok (.iload_n 2, 1) := by decide +kernel
theorem dX11_heard_3 : decode cX11_heard 3 = .ok (.invokevirtual 174, 3) := by decide +kernel
theorem dX11_heard_6 : decode cX11_heard 6 = .ok (.ifCond .eq 19, 3) := by decide +kernel
theorem dX11_heard_9 : decode cX11_heard 9 = .ok (.aload_n 0, 1) := by decide +kernel
theorem dX11_heard_10 : decode cX11_heard 10 = .ok (.invokevirtual 167, 3) := by decide +kernel
theorem dX11_heard_13 : decode cX11_heard 13 = .ok (.aload_n 0, 1) := by decide +kernel
theorem dX11_heard_14 : decode cX11_heard 14 = .ok (.getfield 26, 3) := by decide +kernel
theorem dX11_heard_17 : decode cX11_heard 17 = .ok (.iload_n 1, 1) := by decide +kernel
theorem dX11_heard_18 : decode cX11_heard 18 = .ok (.iload_n 2, 1) := by decide +kernel
theorem dX11_heard_19 : decode cX11_heard 19 = .ok (.invokevirtual 190, 3) := by decide +kernel
theorem dX11_heard_22 : decode cX11_heard 22 = .ok (.goto 5, 3) := by decide +kernel
theorem dX11_heard_25 : decode cX11_heard 25 = .ok (.bipush (-2), 2) := by decide +kernel
theorem dX11_heard_27 : decode cX11_heard 27 = .ok (.ireturn, 1) := by decide +kernel
theorem mokX11_heard : MOK yX11_heard cX11_heard 3 (some .int) 2 := ⟨w3_163, w1_1, ⟨by decide, by decide⟩, by decide +kernel, by decide⟩
abbrev miX11_heard : MI := (yX11_heard.cls, cX11_heard, 3, 8, false)
noncomputable def BX11_heard : Sm Int32 := (dRet (dT (dCZ q_ne (dCallV 11 DX11_isSlateOn (aI (aI (aR aN 0 (vR 0)) 1 (vI 1)) 2 (vI 2)))) (dCallV 3 DX3_hearersOn (aI (aI (aR (aR aN 0 (dCallV 11 DX11_today (aR aN 0 (vR 0)))) 1 (dGR 11 2 (vR 0))) 2 (vI 1)) 3 (vI 2))) (cI (-2))))
theorem sBX11_heard : SS (cvoI, .ireturn) miX11_heard [] [] [] [(0, 2), (1, 0), (2, 0)] [(0, 2), (1, 0), (2, 0)] 0 [] BX11_heard := (t_ret (cv := cvI) (fun _ _ => rfl) (s_T (pT := 9) (pF := 25) (p1 := 22) (pe := 27) (c_ne_ZF (pF := 25) (s_of_xI (x_callV (ts := [(0, 2), (1, 0), (2, 0)]) ck11 rfl kX11_isSlateOn mokX11_isSlateOn w3_133 ps1_5 rfl rfl rfl rfl (a_I (ts := [(0, 2), (1, 0)]) 2 (a_I (ts := [(0, 2)]) 1 (a_R (ts := []) 0 a_nil (s_aload_n dX11_heard_0 rfl rfl) rfl) (s_iload_n dX11_heard_1 rfl rfl) rfl) (s_iload_n dX11_heard_2 rfl rfl) rfl) dX11_heard_3 w3_131)) dX11_heard_6 rfl) (s_of_xI (x_callV (ts := [(0, 2), (1, 2), (2, 0), (3, 0)]) ck3 rfl kX3_hearersOn mokX3_hearersOn w3_165 w3_166 rfl rfl rfl rfl (a_I (ts := [(0, 2), (1, 2), (2, 0)]) 3 (a_I (ts := [(0, 2), (1, 2)]) 2 (a_R (ts := [(0, 2)]) 1 (a_R (ts := []) 0 a_nil (s_of_xR (x_callV (ts := [(0, 2)]) ck11 rfl kX11_today mokX11_today w3_46 ps1_0 rfl rfl rfl rfl (a_R (ts := []) 0 a_nil (s_aload_n dX11_heard_9 rfl rfl) rfl) dX11_heard_10 w3_44)) rfl) (s_getR ck11 2 (by decide) rfl (s_aload_n dX11_heard_13 rfl rfl) dX11_heard_14 w2_198) rfl) (s_iload_n dX11_heard_17 rfl rfl) rfl) (s_iload_n dX11_heard_18 rfl rfl) rfl) dX11_heard_19 w3_164)) (s_bipush dX11_heard_25 rfl) (ld_goto (y := 27) dX11_heard_22 rfl (ld_in rfl))) dX11_heard_27)
noncomputable def DX11_heard : Fr → St → Option (Int32 × St) := M1 (fun f => (sI (sI (sR fr0 0 (gR f 0)) 1 (gI f 1)) 2 (gI f 2))) BX11_heard
theorem kX11_heard : SND yX11_heard cX11_heard 3 (some .int) 8 [(0, 2), (1, 0), (2, 0)] cvoI DX11_heard := snd_I (nw := 3) (by decide) rfl rfl (fun _ _ => rfl) sBX11_heard
theorem dX3_reasonOf_0 : decode cX3_reasonOf 0 = .ok (.aload_n 0, 1) := by decide +kernel
theorem dX3_reasonOf_1 : decode cX3_reasonOf 1 = .ok (.getfield 12, 3) := by decide +kernel
theorem dX3_reasonOf_4 : decode cX3_reasonOf 4 = .ok (.getfield 69, 3) := by decide +kernel
theorem dX3_reasonOf_7 : decode cX3_reasonOf 7 = .ok (.iload_n 1, 1) := by decide +kernel
theorem dX3_reasonOf_8 : decode cX3_reasonOf 8 = .ok (.invokestatic 58, 3) := by decide +kernel
theorem dX3_reasonOf_11 : decode cX3_reasonOf 11 = .ok (.ireturn, 1) := by decide +kernel
theorem mokX3_reasonOf : MOK yX3_reasonOf cX3_reasonOf 2 (some .int) 1 := ⟨w3_177, w1_7, ⟨by decide, by decide⟩, by decide +kernel, by decide⟩
abbrev miX3_reasonOf : MI := (yX3_reasonOf.cls, cX3_reasonOf, 2, 2, false)
noncomputable def BX3_reasonOf : Sm Int32 := (dRet (dCall DX11_cell (aI (aR aN 0 (dGR 2 13 (dGR 3 1 (vR 0)))) 1 (vI 1))))
theorem sBX3_reasonOf : SS (cvoI, .ireturn) miX3_reasonOf [] [] [] [(0, 2), (1, 0)] [(0, 2), (1, 0)] 0 [] BX3_reasonOf := (t_ret (cv := cvI) (fun _ _ => rfl) (s_of_xI (x_callN (ts := [(0, 2), (1, 0)]) kX11_cell mokX11_cell w3_26 rfl rfl rfl (a_I (ts := [(0, 2)]) 1 (a_R (ts := []) 0 a_nil (s_getR ck2 13 (by decide) rfl (s_getR ck3 1 (by decide) rfl (s_aload_n dX3_reasonOf_0 rfl rfl) dX3_reasonOf_1 w2_70) dX3_reasonOf_4 w2_36) rfl) (s_iload_n dX3_reasonOf_7 rfl rfl) rfl) dX3_reasonOf_8 nb19)) dX3_reasonOf_11)
noncomputable def DX3_reasonOf : Fr → St → Option (Int32 × St) := M1 (fun f => (sI (sR fr0 0 (gR f 0)) 1 (gI f 1))) BX3_reasonOf
theorem kX3_reasonOf : SND yX3_reasonOf cX3_reasonOf 2 (some .int) 2 [(0, 2), (1, 0)] cvoI DX3_reasonOf := snd_I (nw := 2) (by decide) rfl rfl (fun _ _ => rfl) sBX3_reasonOf
theorem dX11_dones_0 : decode cX11_dones 0 = .ok (.aload_n 0, 1) := by decide +kernel
theorem dX11_dones_1 : decode cX11_dones 1 = .ok (.getfield 26, 3) := by decide +kernel
theorem dX11_dones_4 : decode cX11_dones 4 = .ok (.invokevirtual 209, 3) := by decide +kernel
theorem dX11_dones_7 : decode cX11_dones 7 = .ok (.ifCond .ne 6, 3) := by decide +kernel
theorem dX11_dones_10 : decode cX11_dones 10 = .ok (.bipush (-2), 2) := by decide +kernel
theorem dX11_dones_12 : decode cX11_dones 12 = .ok (.ireturn, 1) := by decide +kernel
theorem dX11_dones_13 : decode cX11_dones 13 = .ok (.iconst 0, 1) := by decide +kernel
theorem dX11_dones_14 : decode cX11_dones 14 = .ok (.istore_n 1, 1) := by decide +kernel
theorem dX11_dones_15 : decode cX11_dones 15 = .ok (.iconst 0, 1) := by decide +kernel
theorem dX11_dones_16 : decode cX11_dones 16 = .ok (.istore_n 2, 1) := by decide +kernel
theorem dX11_dones_17 : decode cX11_dones 17 = .ok (.iload_n 2, 1) := by decide +kernel
theorem dX11_dones_18 : decode cX11_dones 18 = .ok (.aload_n 0, 1) := by decide +kernel
theorem dX11_dones_19 : decode cX11_dones 19 = .ok (.getfield 26, 3) := by decide +kernel
theorem dX11_dones_22 : decode cX11_dones 22 = .ok (.getfield 213, 3) := by decide +kernel
theorem dX11_dones_25 : decode cX11_dones 25 = .ok (.getfield 217, 3) := by decide +kernel
theorem dX11_dones_28 : decode cX11_dones 28 = .ok (.if_icmp .ge 26, 3) := by decide +kernel
theorem dX11_dones_31 : decode cX11_dones 31 = .ok (.aload_n 0, 1) := by decide +kernel
theorem dX11_dones_32 : decode cX11_dones 32 = .ok (.invokevirtual 167, 3) := by decide +kernel
theorem dX11_dones_35 : decode cX11_dones 35 = .ok (.iload_n 2, 1) := by decide +kernel
theorem dX11_dones_36 : decode cX11_dones 36 = .ok (.invokevirtual 206, 3) := by decide +kernel
theorem dX11_dones_39 : decode cX11_dones 39 = .ok (.ifCond .ne 9, 3) := by decide +kernel
theorem dX11_dones_42 : decode cX11_dones 42 = .ok (.iload_n 1, 1) := by decide +kernel
theorem dX11_dones_43 : decode cX11_dones 43 = .ok (.iconst 1, 1) := by decide +kernel
theorem dX11_dones_44 : decode cX11_dones 44 = .ok (.iload_n 2, 1) := by decide +kernel
theorem dX11_dones_45 : decode cX11_dones 45 = .ok (.ishl, 1) := by decide +kernel
theorem dX11_dones_46 : decode cX11_dones 46 = .ok (.ior, 1) := by decide +kernel
theorem dX11_dones_47 : decode cX11_dones 47 = .ok (.istore_n 1, 1) := by decide +kernel
theorem dX11_dones_48 : decode cX11_dones 48 = .ok (.iinc 2 1, 3) := by decide +kernel
theorem dX11_dones_51 : decode cX11_dones 51 = .ok (.goto (-34), 3) := by decide +kernel
theorem dX11_dones_54 : decode cX11_dones 54 = .ok (.iload_n 1, 1) := by decide +kernel
theorem dX11_dones_55 : decode cX11_dones 55 = .ok (.ireturn, 1) := by decide +kernel
theorem mokX11_dones : MOK yX11_dones cX11_dones 3 (some .int) 0 := ⟨w3_172, w1_1, ⟨by decide, by decide⟩, by decide +kernel, by decide⟩
abbrev miX11_dones : MI := (yX11_dones.cls, cX11_dones, 3, 8, false)
noncomputable def LX11_dones_1 : Sm Int32 := dLoop (fun f => (sI (sI (sR fr0 0 (gR f 0)) 1 (gI f 1)) 2 (gI f 2))) (dCI r_lt (vI 2) (dGI 1 1 (dGR 5 16 (dGR 11 2 (vR 0))))) (dIf (dCZ q_eq (dCallV 3 DX3_reasonOf (aI (aR aN 0 (dCallV 11 DX11_today (aR aN 0 (vR 0)))) 1 (vI 2)))) (dSetI 1 (d2 o_ior (vI 1) (d2 o_ishl (cI 1) (vI 2)))) dSkip) (dInc 2 1)
theorem sLX11_dones_1 {ΓL : Gm} {PB PK : List Nat} : SS (cvoI, .ireturn) miX11_dones ΓL PB PK [(0, 2), (1, 0), (2, 0)] [(0, 2), (1, 0), (2, 0)] 17 [54] LX11_dones_1 := t_loop (pT := 31) (pF := 54) (pu := 48) (PB' := []) (PK' := []) (XB := [48]) (XU := [51]) (fun _ _ => rfl) rfl (c_lt_F (pF := 54) (s_iload_n dX11_dones_17 rfl rfl) (s_getI ck1 1 (by decide) rfl (s_getR ck5 16 (by decide) rfl (s_getR ck11 2 (by decide) rfl (s_aload_n dX11_dones_18 rfl rfl) dX11_dones_19 w2_198) dX11_dones_22 w1_185) dX11_dones_25 w1_91) dX11_dones_28 rfl) (t_if (pT := 42) (pF := 48) (X := [48]) (XA := [48]) (XB := [48]) (c_eq_ZF (pF := 48) (s_of_xI (x_callV (ts := [(0, 2), (1, 0)]) ck3 rfl kX3_reasonOf mokX3_reasonOf w3_175 w3_176 rfl rfl rfl rfl (a_I (ts := [(0, 2)]) 1 (a_R (ts := []) 0 a_nil (s_of_xR (x_callV (ts := [(0, 2)]) ck11 rfl kX11_today mokX11_today w3_46 ps1_0 rfl rfl rfl rfl (a_R (ts := []) 0 a_nil (s_aload_n dX11_dones_31 rfl rfl) rfl) dX11_dones_32 w3_44)) rfl) (s_iload_n dX11_dones_35 rfl rfl) rfl) dX11_dones_36 w3_174)) dX11_dones_39 rfl) (t_istore_n (s_ior (s_iload_n dX11_dones_42 rfl rfl) (s_ishl (s_iconst dX11_dones_43 rfl) (s_iload_n dX11_dones_44 rfl rfl) dX11_dones_45) dX11_dones_46) dX11_dones_47 rfl rfl rfl) (t_skip (ld_in rfl) rfl) (lda_cons (ld_in rfl) lda_nil) (lda_cons (ld_in rfl) lda_nil)) (t_iinc dX11_dones_48 rfl rfl rfl rfl) (lda_cons (ld_in rfl) lda_nil) lda_nil (lda_cons (ld_goto (y := 17) dX11_dones_51 rfl (ld_in rfl)) lda_nil) (ld_in rfl) lda_nil
noncomputable def BX11_dones : Sm Int32 := (dSeq (dIf (dNot (dCZ q_ne (dCallV 5 DX5_isTold (aR aN 0 (dGR 11 2 (vR 0)))))) (dRet (cI (-2))) dSkip) (dSeq (dSetI 1 (cI 0)) (dSeq (dSeq (dSetI 2 (cI 0)) LX11_dones_1) (dRet (vI 1)))))
theorem sBX11_dones : SS (cvoI, .ireturn) miX11_dones [] [] [] [(0, 2)] [(0, 2)] 0 [] BX11_dones := (t_sq (p1 := 13) (Γ' := [(0, 2)]) (t_if (pT := 10) (pF := 13) (X := [13]) (XA := []) (XB := [13]) (c_not (pT := 10) (pF := 13) (c_ne_ZJ (pT := 13) (s_of_xI (x_callV (ts := [(0, 2)]) ck5 rfl kX5_isTold mokX5_isTold w3_41 w3_42 rfl rfl rfl rfl (a_R (ts := []) 0 a_nil (s_getR ck11 2 (by decide) rfl (s_aload_n dX11_dones_0 rfl rfl) dX11_dones_1 w2_198) rfl) dX11_dones_4 w3_173)) dX11_dones_7 rfl)) (t_ret (cv := cvI) (fun _ _ => rfl) (s_bipush dX11_dones_10 rfl) dX11_dones_12) (t_skip (ld_in rfl) rfl) lda_nil (lda_cons (ld_in rfl) lda_nil)) (t_sq (p1 := 15) (Γ' := [(0, 2), (1, 0)]) (t_istore_n (s_iconst dX11_dones_13 rfl) dX11_dones_14 rfl rfl rfl) (t_sq (p1 := 54) (Γ' := [(0, 2), (1, 0)]) (t_sq (p1 := 17) (Γ' := [(0, 2), (1, 0), (2, 0)]) (t_istore_n (s_iconst dX11_dones_15 rfl) dX11_dones_16 rfl rfl rfl) (tn_to (Γ' := [(0, 2), (1, 0), (2, 0)]) (XA := [54]) sLX11_dones_1 (lda_cons (ld_in rfl) lda_nil) rfl)) (t_ret (cv := cvI) (fun _ _ => rfl) (s_iload_n dX11_dones_54 rfl rfl) dX11_dones_55))))
noncomputable def DX11_dones : Fr → St → Option (Int32 × St) := M1 (fun f => (sR fr0 0 (gR f 0))) BX11_dones
theorem kX11_dones : SND yX11_dones cX11_dones 3 (some .int) 8 [(0, 2)] cvoI DX11_dones := snd_I (nw := 1) (by decide) rfl rfl (fun _ _ => rfl) sBX11_dones
theorem dX5_isCarry_0 : decode cX5_isCarry 0 = .ok (.iload_n 1, 1) := by decide +kernel
theorem dX5_isCarry_1 : decode cX5_isCarry 1 = .ok (.ifCond .lt 18, 3) := by decide +kernel
theorem dX5_isCarry_4 : decode cX5_isCarry 4 = .ok (.iload_n 1, 1) := by decide +kernel
theorem dX5_isCarry_5 : decode cX5_isCarry 5 = .ok (.aload_n 0, 1) := by decide +kernel
theorem dX5_isCarry_6 : decode cX5_isCarry 6 = .ok (.getfield 39, 3) := by decide +kernel
theorem dX5_isCarry_9 : decode cX5_isCarry 9 = .ok (.getfield 89, 3) := by decide +kernel
theorem dX5_isCarry_12 : decode cX5_isCarry 12 = .ok (.if_icmp .ge 7, 3) := by decide +kernel
theorem dX5_isCarry_15 : decode cX5_isCarry 15 = .ok (.iconst 1, 1) := by decide +kernel
theorem dX5_isCarry_16 : decode cX5_isCarry 16 = .ok (.goto 4, 3) := by decide +kernel
theorem dX5_isCarry_19 : decode cX5_isCarry 19 = .ok (.iconst 0, 1) := by decide +kernel
theorem dX5_isCarry_20 : decode cX5_isCarry 20 = .ok (.ireturn, 1) := by decide +kernel
theorem mokX5_isCarry : MOK yX5_isCarry cX5_isCarry 2 (some .boolean) 1 := ⟨w3_185, w1_4, ⟨by decide, by decide⟩, by decide +kernel, by decide⟩
abbrev miX5_isCarry : MI := (yX5_isCarry.cls, cX5_isCarry, 2, 1, false)
noncomputable def BX5_isCarry : Sm Int32 := (dRet (dB (dAnd (dCZ q_ge (vI 1)) (dCI r_lt (vI 1) (dGI 1 1 (dGR 5 16 (vR 0)))))))
theorem sBX5_isCarry : SS (cvoI, .ireturn) miX5_isCarry [] [] [] [(0, 2), (1, 0)] [(0, 2), (1, 0)] 0 [] BX5_isCarry := (t_ret (cv := cvI) (fun _ _ => rfl) (s_B (pT := 15) (pF := 19) (pe := 20) (c_and (p1 := 4) (pT := 15) (pF := 19) (c_ge_ZF (pF := 19) (s_iload_n dX5_isCarry_0 rfl rfl) dX5_isCarry_1 rfl) (c_lt_F (pF := 19) (s_iload_n dX5_isCarry_4 rfl rfl) (s_getI ck1 1 (by decide) rfl (s_getR ck5 16 (by decide) rfl (s_aload_n dX5_isCarry_5 rfl rfl) dX5_isCarry_6 w1_182) dX5_isCarry_9 w1_90) dX5_isCarry_12 rfl)) dX5_isCarry_15 dX5_isCarry_16 rfl dX5_isCarry_19 rfl) dX5_isCarry_20)
noncomputable def DX5_isCarry : Fr → St → Option (Int32 × St) := MZ (fun f => (sI (sR fr0 0 (gR f 0)) 1 (gI f 1))) BX5_isCarry
theorem kX5_isCarry : SND yX5_isCarry cX5_isCarry 2 (some .boolean) 1 [(0, 2), (1, 0)] cvoI DX5_isCarry := snd_Z (nw := 2) (by decide) rfl rfl (fun _ _ => rfl) sBX5_isCarry
theorem dX11_why_0 : decode cX11_why 0 = .ok (.aload_n 0, 1) := by decide +kernel
theorem dX11_why_1 : decode cX11_why 1 = .ok (.getfield 26, 3) := by decide +kernel
theorem dX11_why_4 : decode cX11_why 4 = .ok (.iload_n 1, 1) := by decide +kernel
theorem dX11_why_5 : decode cX11_why 5 = .ok (.invokevirtual 203, 3) := by decide +kernel
theorem dX11_why_8 : decode cX11_why 8 = .ok (.ifCond .eq 14, 3) := by decide +kernel
theorem dX11_why_11 : decode cX11_why 11 = .ok (.aload_n 0, 1) := by decide +kernel
theorem dX11_why_12 : decode cX11_why 12 = .ok (.invokevirtual 167, 3) := by decide +kernel
theorem dX11_why_15 : decode cX11_why 15 = .ok (.iload_n 1, 1) := by decide +kernel
theorem dX11_why_16 : decode cX11_why 16 = .ok (.invokevirtual 206, 3) := by decide +kernel
theorem dX11_why_19 : decode cX11_why 19 = .ok (.goto 5, 3) := by decide +kernel
theorem dX11_why_22 : decode cX11_why 22 = .ok (.bipush (-2), 2) := by decide +kernel
theorem dX11_why_24 : decode cX11_why 24 = .ok (.ireturn, 1) := by decide +kernel
theorem mokX11_why : MOK yX11_why cX11_why 2 (some .int) 1 := ⟨w3_181, w1_1, ⟨by decide, by decide⟩, by decide +kernel, by decide⟩
abbrev miX11_why : MI := (yX11_why.cls, cX11_why, 2, 8, false)
noncomputable def BX11_why : Sm Int32 := (dRet (dT (dCZ q_ne (dCallV 5 DX5_isCarry (aI (aR aN 0 (dGR 11 2 (vR 0))) 1 (vI 1)))) (dCallV 3 DX3_reasonOf (aI (aR aN 0 (dCallV 11 DX11_today (aR aN 0 (vR 0)))) 1 (vI 1))) (cI (-2))))
theorem sBX11_why : SS (cvoI, .ireturn) miX11_why [] [] [] [(0, 2), (1, 0)] [(0, 2), (1, 0)] 0 [] BX11_why := (t_ret (cv := cvI) (fun _ _ => rfl) (s_T (pT := 11) (pF := 22) (p1 := 19) (pe := 24) (c_ne_ZF (pF := 22) (s_of_xI (x_callV (ts := [(0, 2), (1, 0)]) ck5 rfl kX5_isCarry mokX5_isCarry w3_183 w3_184 rfl rfl rfl rfl (a_I (ts := [(0, 2)]) 1 (a_R (ts := []) 0 a_nil (s_getR ck11 2 (by decide) rfl (s_aload_n dX11_why_0 rfl rfl) dX11_why_1 w2_198) rfl) (s_iload_n dX11_why_4 rfl rfl) rfl) dX11_why_5 w3_182)) dX11_why_8 rfl) (s_of_xI (x_callV (ts := [(0, 2), (1, 0)]) ck3 rfl kX3_reasonOf mokX3_reasonOf w3_175 w3_176 rfl rfl rfl rfl (a_I (ts := [(0, 2)]) 1 (a_R (ts := []) 0 a_nil (s_of_xR (x_callV (ts := [(0, 2)]) ck11 rfl kX11_today mokX11_today w3_46 ps1_0 rfl rfl rfl rfl (a_R (ts := []) 0 a_nil (s_aload_n dX11_why_11 rfl rfl) rfl) dX11_why_12 w3_44)) rfl) (s_iload_n dX11_why_15 rfl rfl) rfl) dX11_why_16 w3_174)) (s_bipush dX11_why_22 rfl) (ld_goto (y := 24) dX11_why_19 rfl (ld_in rfl))) dX11_why_24)
noncomputable def DX11_why : Fr → St → Option (Int32 × St) := M1 (fun f => (sI (sR fr0 0 (gR f 0)) 1 (gI f 1))) BX11_why
theorem kX11_why : SND yX11_why cX11_why 2 (some .int) 8 [(0, 2), (1, 0)] cvoI DX11_why := snd_I (nw := 2) (by decide) rfl rfl (fun _ _ => rfl) sBX11_why
theorem dJ6_bitCount_0f7a4_0 : decode cJ6_bitCount_0f7a4 0 = .ok (.iload_n 0, 1) := by decide +kernel
theorem dJ6_bitCount_0f7a4_1 : decode cJ6_bitCount_0f7a4 1 = .ok (.iload_n 0, 1) := by decide +kernel
theorem dJ6_bitCount_0f7a4_2 : decode cJ6_bitCount_0f7a4 2 = .ok (.iconst 1, 1) := by decide +kernel
theorem dJ6_bitCount_0f7a4_3 : decode cJ6_bitCount_0f7a4 3 = .ok (.iushr, 1) := by decide +kernel
theorem dJ6_bitCount_0f7a4_4 : decode cJ6_bitCount_0f7a4 4 = .ok (.ldc_w 265, 3) := by decide +kernel
theorem dJ6_bitCount_0f7a4_7 : decode cJ6_bitCount_0f7a4 7 = .ok (.iand, 1) := by decide +kernel
theorem dJ6_bitCount_0f7a4_8 : decode cJ6_bitCount_0f7a4 8 = .ok (.isub, 1) := by decide +kernel
theorem dJ6_bitCount_0f7a4_9 : decode cJ6_bitCount_0f7a4 9 = .ok (.istore_n 0, 1) := by decide +kernel
theorem dJ6_bitCount_0f7a4_10 : decode cJ6_bitCount_0f7a4 10 = .ok (.iload_n 0, 1) := by decide +kernel
theorem dJ6_bitCount_0f7a4_11 : decode cJ6_bitCount_0f7a4 11 = .ok (.ldc_w 266, 3) := by decide +kernel
theorem dJ6_bitCount_0f7a4_14 : decode cJ6_bitCount_0f7a4 14 = .ok (.iand, 1) := by decide +kernel
theorem dJ6_bitCount_0f7a4_15 : decode cJ6_bitCount_0f7a4 15 = .ok (.iload_n 0, 1) := by decide +kernel
theorem dJ6_bitCount_0f7a4_16 : decode cJ6_bitCount_0f7a4 16 = .ok (.iconst 2, 1) := by decide +kernel
theorem dJ6_bitCount_0f7a4_17 : decode cJ6_bitCount_0f7a4 17 = .ok (.iushr, 1) := by decide +kernel
theorem dJ6_bitCount_0f7a4_18 : decode cJ6_bitCount_0f7a4 18 = .ok (.ldc_w 266, 3) := by decide +kernel
theorem dJ6_bitCount_0f7a4_21 : decode cJ6_bitCount_0f7a4 21 = .ok (.iand, 1) := by decide +kernel
theorem dJ6_bitCount_0f7a4_22 : decode cJ6_bitCount_0f7a4 22 = .ok (.iadd, 1) := by decide +kernel
theorem dJ6_bitCount_0f7a4_23 : decode cJ6_bitCount_0f7a4 23 = .ok (.istore_n 0, 1) := by decide +kernel
theorem dJ6_bitCount_0f7a4_24 : decode cJ6_bitCount_0f7a4 24 = .ok (.iload_n 0, 1) := by decide +kernel
theorem dJ6_bitCount_0f7a4_25 : decode cJ6_bitCount_0f7a4 25 = .ok (.iload_n 0, 1) := by decide +kernel
theorem dJ6_bitCount_0f7a4_26 : decode cJ6_bitCount_0f7a4 26 = .ok (.iconst 4, 1) := by decide +kernel
theorem dJ6_bitCount_0f7a4_27 : decode cJ6_bitCount_0f7a4 27 = .ok (.iushr, 1) := by decide +kernel
theorem dJ6_bitCount_0f7a4_28 : decode cJ6_bitCount_0f7a4 28 = .ok (.iadd, 1) := by decide +kernel
theorem dJ6_bitCount_0f7a4_29 : decode cJ6_bitCount_0f7a4 29 = .ok (.ldc_w 267, 3) := by decide +kernel
theorem dJ6_bitCount_0f7a4_32 : decode cJ6_bitCount_0f7a4 32 = .ok (.iand, 1) := by decide +kernel
theorem dJ6_bitCount_0f7a4_33 : decode cJ6_bitCount_0f7a4 33 = .ok (.istore_n 0, 1) := by decide +kernel
theorem dJ6_bitCount_0f7a4_34 : decode cJ6_bitCount_0f7a4 34 = .ok (.iload_n 0, 1) := by decide +kernel
theorem dJ6_bitCount_0f7a4_35 : decode cJ6_bitCount_0f7a4 35 = .ok (.iload_n 0, 1) := by decide +kernel
theorem dJ6_bitCount_0f7a4_36 : decode cJ6_bitCount_0f7a4 36 = .ok (.bipush 8, 2) := by decide +kernel
theorem dJ6_bitCount_0f7a4_38 : decode cJ6_bitCount_0f7a4 38 = .ok (.iushr, 1) := by decide +kernel
theorem dJ6_bitCount_0f7a4_39 : decode cJ6_bitCount_0f7a4 39 = .ok (.iadd, 1) := by decide +kernel
theorem dJ6_bitCount_0f7a4_40 : decode cJ6_bitCount_0f7a4 40 = .ok (.istore_n 0, 1) := by decide +kernel
theorem dJ6_bitCount_0f7a4_41 : decode cJ6_bitCount_0f7a4 41 = .ok (.iload_n 0, 1) := by decide +kernel
theorem dJ6_bitCount_0f7a4_42 : decode cJ6_bitCount_0f7a4 42 = .ok (.iload_n 0, 1) := by decide +kernel
theorem dJ6_bitCount_0f7a4_43 : decode cJ6_bitCount_0f7a4 43 = .ok (.bipush 16, 2) := by decide +kernel
theorem dJ6_bitCount_0f7a4_45 : decode cJ6_bitCount_0f7a4 45 = .ok (.iushr, 1) := by decide +kernel
theorem dJ6_bitCount_0f7a4_46 : decode cJ6_bitCount_0f7a4 46 = .ok (.iadd, 1) := by decide +kernel
theorem dJ6_bitCount_0f7a4_47 : decode cJ6_bitCount_0f7a4 47 = .ok (.istore_n 0, 1) := by decide +kernel
theorem dJ6_bitCount_0f7a4_48 : decode cJ6_bitCount_0f7a4 48 = .ok (.iload_n 0, 1) := by decide +kernel
theorem dJ6_bitCount_0f7a4_49 : decode cJ6_bitCount_0f7a4 49 = .ok (.bipush 63, 2) := by decide +kernel
theorem dJ6_bitCount_0f7a4_51 : decode cJ6_bitCount_0f7a4 51 = .ok (.iand, 1) := by decide +kernel
theorem dJ6_bitCount_0f7a4_52 : decode cJ6_bitCount_0f7a4 52 = .ok (.ireturn, 1) := by decide +kernel
theorem mokJ6_bitCount_0f7a4 : MOK yJ6_bitCount_0f7a4 cJ6_bitCount_0f7a4 1 (some .int) 1 := ⟨w3_209, w1_20, ⟨by decide, by decide⟩, by decide +kernel, by decide⟩
abbrev miJ6_bitCount_0f7a4 : MI := (yJ6_bitCount_0f7a4.cls, cJ6_bitCount_0f7a4, 1, 1, false)
noncomputable def BJ6_bitCount_0f7a4 : Sm Int32 := (dSeq (dSetI 0 (d2 o_isub (vI 0) (d2 o_iand (d2 o_iushr (vI 0) (cI 1)) (cI 1431655765)))) (dSeq (dSetI 0 (d2 o_iadd (d2 o_iand (vI 0) (cI 858993459)) (d2 o_iand (d2 o_iushr (vI 0) (cI 2)) (cI 858993459)))) (dSeq (dSetI 0 (d2 o_iand (d2 o_iadd (vI 0) (d2 o_iushr (vI 0) (cI 4))) (cI 252645135))) (dSeq (dSetI 0 (d2 o_iadd (vI 0) (d2 o_iushr (vI 0) (cI 8)))) (dSeq (dSetI 0 (d2 o_iadd (vI 0) (d2 o_iushr (vI 0) (cI 16)))) (dRet (d2 o_iand (vI 0) (cI 63))))))))
theorem sBJ6_bitCount_0f7a4 : SS (cvoI, .ireturn) miJ6_bitCount_0f7a4 [] [] [] [(0, 0)] [(0, 0)] 0 [] BJ6_bitCount_0f7a4 := (t_sq (p1 := 10) (Γ' := [(0, 0)]) (t_istore_n (s_isub (s_iload_n dJ6_bitCount_0f7a4_0 rfl rfl) (s_iand (s_iushr (s_iload_n dJ6_bitCount_0f7a4_1 rfl rfl) (s_iconst dJ6_bitCount_0f7a4_2 rfl) dJ6_bitCount_0f7a4_3) (s_ldcw dJ6_bitCount_0f7a4_4 w3_210) dJ6_bitCount_0f7a4_7) dJ6_bitCount_0f7a4_8) dJ6_bitCount_0f7a4_9 rfl rfl rfl) (t_sq (p1 := 24) (Γ' := [(0, 0)]) (t_istore_n (s_iadd (s_iand (s_iload_n dJ6_bitCount_0f7a4_10 rfl rfl) (s_ldcw dJ6_bitCount_0f7a4_11 w3_211) dJ6_bitCount_0f7a4_14) (s_iand (s_iushr (s_iload_n dJ6_bitCount_0f7a4_15 rfl rfl) (s_iconst dJ6_bitCount_0f7a4_16 rfl) dJ6_bitCount_0f7a4_17) (s_ldcw dJ6_bitCount_0f7a4_18 w3_211) dJ6_bitCount_0f7a4_21) dJ6_bitCount_0f7a4_22) dJ6_bitCount_0f7a4_23 rfl rfl rfl) (t_sq (p1 := 34) (Γ' := [(0, 0)]) (t_istore_n (s_iand (s_iadd (s_iload_n dJ6_bitCount_0f7a4_24 rfl rfl) (s_iushr (s_iload_n dJ6_bitCount_0f7a4_25 rfl rfl) (s_iconst dJ6_bitCount_0f7a4_26 rfl) dJ6_bitCount_0f7a4_27) dJ6_bitCount_0f7a4_28) (s_ldcw dJ6_bitCount_0f7a4_29 w3_212) dJ6_bitCount_0f7a4_32) dJ6_bitCount_0f7a4_33 rfl rfl rfl) (t_sq (p1 := 41) (Γ' := [(0, 0)]) (t_istore_n (s_iadd (s_iload_n dJ6_bitCount_0f7a4_34 rfl rfl) (s_iushr (s_iload_n dJ6_bitCount_0f7a4_35 rfl rfl) (s_bipush dJ6_bitCount_0f7a4_36 rfl) dJ6_bitCount_0f7a4_38) dJ6_bitCount_0f7a4_39) dJ6_bitCount_0f7a4_40 rfl rfl rfl) (t_sq (p1 := 48) (Γ' := [(0, 0)]) (t_istore_n (s_iadd (s_iload_n dJ6_bitCount_0f7a4_41 rfl rfl) (s_iushr (s_iload_n dJ6_bitCount_0f7a4_42 rfl rfl) (s_bipush dJ6_bitCount_0f7a4_43 rfl) dJ6_bitCount_0f7a4_45) dJ6_bitCount_0f7a4_46) dJ6_bitCount_0f7a4_47 rfl rfl rfl) (t_ret (cv := cvI) (fun _ _ => rfl) (s_iand (s_iload_n dJ6_bitCount_0f7a4_48 rfl rfl) (s_bipush dJ6_bitCount_0f7a4_49 rfl) dJ6_bitCount_0f7a4_51) dJ6_bitCount_0f7a4_52))))))
noncomputable def DJ6_bitCount_0f7a4 : Fr → St → Option (Int32 × St) := M1 (fun f => (sI fr0 0 (gI f 0))) BJ6_bitCount_0f7a4
theorem kJ6_bitCount_0f7a4 : SND yJ6_bitCount_0f7a4 cJ6_bitCount_0f7a4 1 (some .int) 1 [(0, 0)] cvoI DJ6_bitCount_0f7a4 := snd_I (nw := 1) (by decide) rfl rfl (fun _ _ => rfl) sBJ6_bitCount_0f7a4
theorem dX0_markSeen_0 : decode cX0_markSeen 0 = .ok (.aload_n 0, 1) := by decide +kernel
theorem dX0_markSeen_1 : decode cX0_markSeen 1 = .ok (.getfield 33, 3) := by decide +kernel
theorem dX0_markSeen_4 : decode cX0_markSeen 4 = .ok (.iload_n 2, 1) := by decide +kernel
theorem dX0_markSeen_5 : decode cX0_markSeen 5 = .ok (.invokestatic 76, 3) := by decide +kernel
theorem dX0_markSeen_8 : decode cX0_markSeen 8 = .ok (.istore_n 3, 1) := by decide +kernel
theorem dX0_markSeen_9 : decode cX0_markSeen 9 = .ok (.aload_n 0, 1) := by decide +kernel
theorem dX0_markSeen_10 : decode cX0_markSeen 10 = .ok (.getfield 33, 3) := by decide +kernel
theorem dX0_markSeen_13 : decode cX0_markSeen 13 = .ok (.iload_n 2, 1) := by decide +kernel
theorem dX0_markSeen_14 : decode cX0_markSeen 14 = .ok (.iload_n 3, 1) := by decide +kernel
theorem dX0_markSeen_15 : decode cX0_markSeen 15 = .ok (.iconst 1, 1) := by decide +kernel
theorem dX0_markSeen_16 : decode cX0_markSeen 16 = .ok (.iload_n 1, 1) := by decide +kernel
theorem dX0_markSeen_17 : decode cX0_markSeen 17 = .ok (.ishl, 1) := by decide +kernel
theorem dX0_markSeen_18 : decode cX0_markSeen 18 = .ok (.ior, 1) := by decide +kernel
theorem dX0_markSeen_19 : decode cX0_markSeen 19 = .ok (.invokestatic 80, 3) := by decide +kernel
theorem dX0_markSeen_22 : decode cX0_markSeen 22 = .ok (.iload_n 3, 1) := by decide +kernel
theorem dX0_markSeen_23 : decode cX0_markSeen 23 = .ok (.iload_n 1, 1) := by decide +kernel
theorem dX0_markSeen_24 : decode cX0_markSeen 24 = .ok (.invokestatic 136, 3) := by decide +kernel
theorem dX0_markSeen_27 : decode cX0_markSeen 27 = .ok (.ifCond .ne 7, 3) := by decide +kernel
theorem dX0_markSeen_30 : decode cX0_markSeen 30 = .ok (.iconst 1, 1) := by decide +kernel
theorem dX0_markSeen_31 : decode cX0_markSeen 31 = .ok (.goto 4, 3) := by decide +kernel
theorem dX0_markSeen_34 : decode cX0_markSeen 34 = .ok (.iconst 0, 1) := by decide +kernel
theorem dX0_markSeen_35 : decode cX0_markSeen 35 = .ok (.ireturn, 1) := by decide +kernel
theorem mokX0_markSeen : MOK yX0_markSeen cX0_markSeen 4 (some .boolean) 2 := ⟨w3_223, w1_10, ⟨by decide, by decide⟩, by decide +kernel, by decide⟩
abbrev miX0_markSeen : MI := (yX0_markSeen.cls, cX0_markSeen, 4, 2, false)
noncomputable def BX0_markSeen : Sm Int32 := (dSeq (dSetI 3 (dCall DX11_cell (aI (aR aN 0 (dGR 0 7 (vR 0))) 1 (vI 2)))) (dSeq (dDo (dCall DX11_put (aI (aI (aR aN 0 (dGR 0 7 (vR 0))) 1 (vI 2)) 2 (d2 o_ior (vI 3) (d2 o_ishl (cI 1) (vI 1)))))) (dRet (dB (dNot (dCZ q_ne (dCall DX11_hasBit (aI (aI aN 0 (vI 3)) 1 (vI 1)))))))))
theorem sBX0_markSeen : SS (cvoI, .ireturn) miX0_markSeen [] [] [] [(0, 2), (1, 0), (2, 0)] [(0, 2), (1, 0), (2, 0)] 0 [] BX0_markSeen := (t_sq (p1 := 9) (Γ' := [(0, 2), (1, 0), (2, 0), (3, 0)]) (t_istore_n (s_of_xI (x_callN (ts := [(0, 2), (1, 0)]) kX11_cell mokX11_cell w3_26 rfl rfl rfl (a_I (ts := [(0, 2)]) 1 (a_R (ts := []) 0 a_nil (s_getR ck0 7 (by decide) rfl (s_aload_n dX0_markSeen_0 rfl rfl) dX0_markSeen_1 w2_119) rfl) (s_iload_n dX0_markSeen_4 rfl rfl) rfl) dX0_markSeen_5 nb21)) dX0_markSeen_8 rfl rfl rfl) (t_sq (p1 := 22) (Γ' := [(0, 2), (1, 0), (2, 0), (3, 0)]) (t_do (x_callN (ts := [(0, 2), (1, 0), (2, 0)]) kX11_put mokX11_put w3_65 rfl rfl rfl (a_I (ts := [(0, 2), (1, 0)]) 2 (a_I (ts := [(0, 2)]) 1 (a_R (ts := []) 0 a_nil (s_getR ck0 7 (by decide) rfl (s_aload_n dX0_markSeen_9 rfl rfl) dX0_markSeen_10 w2_119) rfl) (s_iload_n dX0_markSeen_13 rfl rfl) rfl) (s_ior (s_iload_n dX0_markSeen_14 rfl rfl) (s_ishl (s_iconst dX0_markSeen_15 rfl) (s_iload_n dX0_markSeen_16 rfl rfl) dX0_markSeen_17) dX0_markSeen_18) rfl) dX0_markSeen_19 nb20) rfl) (t_ret (cv := cvI) (fun _ _ => rfl) (s_B (pT := 30) (pF := 34) (pe := 35) (c_not (pT := 30) (pF := 34) (c_ne_ZJ (pT := 34) (s_of_xI (x_callN (ts := [(0, 0), (1, 0)]) kX11_hasBit mokX11_hasBit w3_16 rfl rfl rfl (a_I (ts := [(0, 0)]) 1 (a_I (ts := []) 0 a_nil (s_iload_n dX0_markSeen_22 rfl rfl) rfl) (s_iload_n dX0_markSeen_23 rfl rfl) rfl) dX0_markSeen_24 nb22)) dX0_markSeen_27 rfl)) dX0_markSeen_30 dX0_markSeen_31 rfl dX0_markSeen_34 rfl) dX0_markSeen_35)))
noncomputable def DX0_markSeen : Fr → St → Option (Int32 × St) := MZ (fun f => (sI (sI (sR fr0 0 (gR f 0)) 1 (gI f 1)) 2 (gI f 2))) BX0_markSeen
theorem kX0_markSeen : SND yX0_markSeen cX0_markSeen 4 (some .boolean) 2 [(0, 2), (1, 0), (2, 0)] cvoI DX0_markSeen := snd_Z (nw := 3) (by decide) rfl rfl (fun _ _ => rfl) sBX0_markSeen
theorem dX0_enter_0 : decode cX0_enter 0 = .ok (.aload_n 0, 1) := by decide +kernel
theorem dX0_enter_1 : decode cX0_enter 1 = .ok (.iload_n 1, 1) := by decide +kernel
theorem dX0_enter_2 : decode cX0_enter 2 = .ok (.iload_n 2, 1) := by decide +kernel
theorem dX0_enter_3 : decode cX0_enter 3 = .ok (.invokevirtual 140, 3) := by decide +kernel
theorem dX0_enter_6 : decode cX0_enter 6 = .ok (.ifCond .eq 15, 3) := by decide +kernel
theorem dX0_enter_9 : decode cX0_enter 9 = .ok (.aload_n 0, 1) := by decide +kernel
theorem dX0_enter_10 : decode cX0_enter 10 = .ok (.getfield 68, 3) := by decide +kernel
theorem dX0_enter_13 : decode cX0_enter 13 = .ok (.aload_n 0, 1) := by decide +kernel
theorem dX0_enter_14 : decode cX0_enter 14 = .ok (.getfield 36, 3) := by decide +kernel
theorem dX0_enter_17 : decode cX0_enter 17 = .ok (.arraylength, 1) := by decide +kernel
theorem dX0_enter_18 : decode cX0_enter 18 = .ok (.if_icmp .lt 4, 3) := by decide +kernel
theorem dX0_enter_21 : decode cX0_enter 21 = .ok (.return_, 1) := by decide +kernel
theorem dX0_enter_22 : decode cX0_enter 22 = .ok (.aload_n 0, 1) := by decide +kernel
theorem dX0_enter_23 : decode cX0_enter 23 = .ok (.getfield 36, 3) := by decide +kernel
theorem dX0_enter_26 : decode cX0_enter 26 = .ok (.aload_n 0, 1) := by decide +kernel
theorem dX0_enter_27 : decode cX0_enter 27 = .ok (.getfield 68, 3) := by decide +kernel
theorem dX0_enter_30 : decode cX0_enter 30 = .ok (.iload_n 1, 1) := by decide +kernel
theorem dX0_enter_31 : decode cX0_enter 31 = .ok (.iload_n 2, 1) := by decide +kernel
theorem dX0_enter_32 : decode cX0_enter 32 = .ok (.iconst 3, 1) := by decide +kernel
theorem dX0_enter_33 : decode cX0_enter 33 = .ok (.ishl, 1) := by decide +kernel
theorem dX0_enter_34 : decode cX0_enter 34 = .ok (.ior, 1) := by decide +kernel
theorem dX0_enter_35 : decode cX0_enter 35 = .ok (.iload_n 3, 1) := by decide +kernel
theorem dX0_enter_36 : decode cX0_enter 36 = .ok (.bipush 11, 2) := by decide +kernel
theorem dX0_enter_38 : decode cX0_enter 38 = .ok (.ishl, 1) := by decide +kernel
theorem dX0_enter_39 : decode cX0_enter 39 = .ok (.ior, 1) := by decide +kernel
theorem dX0_enter_40 : decode cX0_enter 40 = .ok (.invokestatic 80, 3) := by decide +kernel
theorem dX0_enter_43 : decode cX0_enter 43 = .ok (.aload_n 0, 1) := by decide +kernel
theorem dX0_enter_44 : decode cX0_enter 44 = .ok (.dup, 1) := by decide +kernel
theorem dX0_enter_45 : decode cX0_enter 45 = .ok (.getfield 68, 3) := by decide +kernel
theorem dX0_enter_48 : decode cX0_enter 48 = .ok (.iconst 1, 1) := by decide +kernel
theorem dX0_enter_49 : decode cX0_enter 49 = .ok (.iadd, 1) := by decide +kernel
theorem dX0_enter_50 : decode cX0_enter 50 = .ok (.putfield 68, 3) := by decide +kernel
theorem dX0_enter_53 : decode cX0_enter 53 = .ok (.iload_n 3, 1) := by decide +kernel
theorem dX0_enter_54 : decode cX0_enter 54 = .ok (.bipush 8, 2) := by decide +kernel
theorem dX0_enter_56 : decode cX0_enter 56 = .ok (.if_icmp .ge 26, 3) := by decide +kernel
theorem dX0_enter_59 : decode cX0_enter 59 = .ok (.aload_n 0, 1) := by decide +kernel
theorem dX0_enter_60 : decode cX0_enter 60 = .ok (.getfield 21, 3) := by decide +kernel
theorem dX0_enter_63 : decode cX0_enter 63 = .ok (.iload_n 3, 1) := by decide +kernel
theorem dX0_enter_64 : decode cX0_enter 64 = .ok (.aload_n 0, 1) := by decide +kernel
theorem dX0_enter_65 : decode cX0_enter 65 = .ok (.getfield 21, 3) := by decide +kernel
theorem dX0_enter_68 : decode cX0_enter 68 = .ok (.iload_n 3, 1) := by decide +kernel
theorem dX0_enter_69 : decode cX0_enter 69 = .ok (.invokestatic 76, 3) := by decide +kernel
theorem dX0_enter_72 : decode cX0_enter 72 = .ok (.iload_n 2, 1) := by decide +kernel
theorem dX0_enter_73 : decode cX0_enter 73 = .ok (.invokestatic 106, 3) := by decide +kernel
theorem dX0_enter_76 : decode cX0_enter 76 = .ok (.invokestatic 111, 3) := by decide +kernel
theorem dX0_enter_79 : decode cX0_enter 79 = .ok (.invokestatic 80, 3) := by decide +kernel
theorem dX0_enter_82 : decode cX0_enter 82 = .ok (.return_, 1) := by decide +kernel
theorem mokX0_enter : MOK yX0_enter cX0_enter 4 none 3 := ⟨w3_219, w1_10, ⟨by decide, by decide⟩, by decide +kernel, by decide⟩
abbrev miX0_enter : MI := (yX0_enter.cls, cX0_enter, 4, 3, false)
noncomputable def BX0_enter : Sm Unit := (dSeq (dIf (dOr (dNot (dCZ q_ne (dCallV 0 DX0_markSeen (aI (aI (aR aN 0 (vR 0)) 1 (vI 1)) 2 (vI 2))))) (dCI r_ge (dGI 0 9 (vR 0)) (dLen (dGR 0 8 (vR 0))))) dRet0 dSkip) (dSeq (dDo (dCall DX11_put (aI (aI (aR aN 0 (dGR 0 8 (vR 0))) 1 (dGI 0 9 (vR 0))) 2 (d2 o_ior (d2 o_ior (vI 1) (d2 o_ishl (vI 2) (cI 3))) (d2 o_ishl (vI 3) (cI 11)))))) (dSeq (dUF 0 9 o_iadd (vR 0) (cI 1)) (dSeq (dIf (dCI r_lt (vI 3) (cI 8)) (dDo (dCall DX11_put (aI (aI (aR aN 0 (dGR 0 3 (vR 0))) 1 (vI 3)) 2 (d2 o_imax (dCall DX11_cell (aI (aR aN 0 (dGR 0 3 (vR 0))) 1 (vI 3))) (dCall DJ6_bitCount_0f7a4 (aI aN 0 (vI 2))))))) dSkip) dRet0))))
theorem sBX0_enter : SS (cvoV, .return_) miX0_enter [] [] [] [(0, 2), (1, 0), (2, 0), (3, 0)] [(0, 2), (1, 0), (2, 0), (3, 0)] 0 [] BX0_enter := (t_sq (p1 := 22) (Γ' := [(0, 2), (1, 0), (2, 0), (3, 0)]) (t_if (pT := 21) (pF := 22) (X := [22]) (XA := []) (XB := [22]) (c_or (p1 := 9) (pT := 21) (pF := 22) (c_not (pT := 21) (pF := 9) (c_ne_ZF (pF := 21) (s_of_xI (x_callV (ts := [(0, 2), (1, 0), (2, 0)]) ck0 rfl kX0_markSeen mokX0_markSeen w3_222 ps1_9 rfl rfl rfl rfl (a_I (ts := [(0, 2), (1, 0)]) 2 (a_I (ts := [(0, 2)]) 1 (a_R (ts := []) 0 a_nil (s_aload_n dX0_enter_0 rfl rfl) rfl) (s_iload_n dX0_enter_1 rfl rfl) rfl) (s_iload_n dX0_enter_2 rfl rfl) rfl) dX0_enter_3 w3_220)) dX0_enter_6 rfl)) (c_ge_F (pF := 22) (s_getI ck0 9 (by decide) rfl (s_aload_n dX0_enter_9 rfl rfl) dX0_enter_10 w2_121) (s_len (s_getR ck0 8 (by decide) rfl (s_aload_n dX0_enter_13 rfl rfl) dX0_enter_14 w2_120) dX0_enter_17) dX0_enter_18 rfl)) (t_ret0 (fun _ _ => rfl) dX0_enter_21) (t_skip (ld_in rfl) rfl) lda_nil (lda_cons (ld_in rfl) lda_nil)) (t_sq (p1 := 43) (Γ' := [(0, 2), (1, 0), (2, 0), (3, 0)]) (t_do (x_callN (ts := [(0, 2), (1, 0), (2, 0)]) kX11_put mokX11_put w3_65 rfl rfl rfl (a_I (ts := [(0, 2), (1, 0)]) 2 (a_I (ts := [(0, 2)]) 1 (a_R (ts := []) 0 a_nil (s_getR ck0 8 (by decide) rfl (s_aload_n dX0_enter_22 rfl rfl) dX0_enter_23 w2_120) rfl) (s_getI ck0 9 (by decide) rfl (s_aload_n dX0_enter_26 rfl rfl) dX0_enter_27 w2_121) rfl) (s_ior (s_ior (s_iload_n dX0_enter_30 rfl rfl) (s_ishl (s_iload_n dX0_enter_31 rfl rfl) (s_iconst dX0_enter_32 rfl) dX0_enter_33) dX0_enter_34) (s_ishl (s_iload_n dX0_enter_35 rfl rfl) (s_bipush dX0_enter_36 rfl) dX0_enter_38) dX0_enter_39) rfl) dX0_enter_40 nb20) rfl) (t_sq (p1 := 53) (Γ' := [(0, 2), (1, 0), (2, 0), (3, 0)]) (t_UF ck0 9 (by decide) rfl (Or.inl rfl) (s_aload_n dX0_enter_43 rfl rfl) dX0_enter_44 dX0_enter_45 w2_121 (s_iconst dX0_enter_48 rfl) (fun _ _ _ _ => rulI fun a b K => lv_iadd a b dX0_enter_49 K) dX0_enter_50 w2_121 rfl) (t_sq (p1 := 82) (Γ' := [(0, 2), (1, 0), (2, 0), (3, 0)]) (t_if (pT := 59) (pF := 82) (X := [82]) (XA := [82]) (XB := [82]) (c_lt_F (pF := 82) (s_iload_n dX0_enter_53 rfl rfl) (s_bipush dX0_enter_54 rfl) dX0_enter_56 rfl) (t_do (x_callN (ts := [(0, 2), (1, 0), (2, 0)]) kX11_put mokX11_put w3_65 rfl rfl rfl (a_I (ts := [(0, 2), (1, 0)]) 2 (a_I (ts := [(0, 2)]) 1 (a_R (ts := []) 0 a_nil (s_getR ck0 3 (by decide) rfl (s_aload_n dX0_enter_59 rfl rfl) dX0_enter_60 w2_115) rfl) (s_iload_n dX0_enter_63 rfl rfl) rfl) (s_mmax (s_of_xI (x_callN (ts := [(0, 2), (1, 0)]) kX11_cell mokX11_cell w3_26 rfl rfl rfl (a_I (ts := [(0, 2)]) 1 (a_R (ts := []) 0 a_nil (s_getR ck0 3 (by decide) rfl (s_aload_n dX0_enter_64 rfl rfl) dX0_enter_65 w2_115) rfl) (s_iload_n dX0_enter_68 rfl rfl) rfl) dX0_enter_69 nb21)) (s_of_xI (x_call (ts := [(0, 0)]) kJ6_bitCount_0f7a4 mokJ6_bitCount_0f7a4 w3_208 rfl rfl rfl (a_I (ts := []) 0 a_nil (s_iload_n dX0_enter_72 rfl rfl) rfl) dX0_enter_73 w3_207)) rfl rfl dX0_enter_76 w3_225) rfl) dX0_enter_79 nb20) rfl) (t_skip (ld_in rfl) rfl) (lda_cons (ld_in rfl) lda_nil) (lda_cons (ld_in rfl) lda_nil)) (t_ret0 (fun _ _ => rfl) dX0_enter_82)))))
noncomputable def DX0_enter : Fr → St → Option (Unit × St) := M1 (fun f => (sI (sI (sI (sR fr0 0 (gR f 0)) 1 (gI f 1)) 2 (gI f 2)) 3 (gI f 3))) BX0_enter
theorem kX0_enter : SND yX0_enter cX0_enter 4 none 3 [(0, 2), (1, 0), (2, 0), (3, 0)] cvoV DX0_enter := snd_V (nw := 4) (by decide) (fun z => by cases z) rfl rfl (fun _ _ => rfl) sBX0_enter
theorem dX0_houseOf_0 : decode cX0_houseOf 0 = .ok (.iload_n 0, 1) := by decide +kernel
theorem dX0_houseOf_1 : decode cX0_houseOf 1 = .ok (.bipush 7, 2) := by decide +kernel
theorem dX0_houseOf_3 : decode cX0_houseOf 3 = .ok (.iand, 1) := by decide +kernel
theorem dX0_houseOf_4 : decode cX0_houseOf 4 = .ok (.ireturn, 1) := by decide +kernel
theorem mokX0_houseOf : MOK yX0_houseOf cX0_houseOf 1 (some .int) 1 := ⟨w3_232, w1_10, ⟨by decide, by decide⟩, by decide +kernel, by decide⟩
abbrev miX0_houseOf : MI := (yX0_houseOf.cls, cX0_houseOf, 1, 1, false)
noncomputable def BX0_houseOf : Sm Int32 := (dRet (d2 o_iand (vI 0) (cI 7)))
theorem sBX0_houseOf : SS (cvoI, .ireturn) miX0_houseOf [] [] [] [(0, 0)] [(0, 0)] 0 [] BX0_houseOf := (t_ret (cv := cvI) (fun _ _ => rfl) (s_iand (s_iload_n dX0_houseOf_0 rfl rfl) (s_bipush dX0_houseOf_1 rfl) dX0_houseOf_3) dX0_houseOf_4)
noncomputable def DX0_houseOf : Fr → St → Option (Int32 × St) := M1 (fun f => (sI fr0 0 (gI f 0))) BX0_houseOf
theorem kX0_houseOf : SND yX0_houseOf cX0_houseOf 1 (some .int) 1 [(0, 0)] cvoI DX0_houseOf := snd_I (nw := 1) (by decide) rfl rfl (fun _ _ => rfl) sBX0_houseOf
theorem dX0_setOf_0 : decode cX0_setOf 0 = .ok (.iload_n 0, 1) := by decide +kernel
theorem dX0_setOf_1 : decode cX0_setOf 1 = .ok (.iconst 3, 1) := by decide +kernel
theorem dX0_setOf_2 : decode cX0_setOf 2 = .ok (.ishr, 1) := by decide +kernel
theorem dX0_setOf_3 : decode cX0_setOf 3 = .ok (.sipush 255, 3) := by decide +kernel
theorem dX0_setOf_6 : decode cX0_setOf 6 = .ok (.iand, 1) := by decide +kernel
theorem dX0_setOf_7 : decode cX0_setOf 7 = .ok (.ireturn, 1) := by decide +kernel
theorem mokX0_setOf : MOK yX0_setOf cX0_setOf 1 (some .int) 1 := ⟨w3_235, w1_10, ⟨by decide, by decide⟩, by decide +kernel, by decide⟩
abbrev miX0_setOf : MI := (yX0_setOf.cls, cX0_setOf, 1, 1, false)
noncomputable def BX0_setOf : Sm Int32 := (dRet (d2 o_iand (d2 o_ishr (vI 0) (cI 3)) (cI 255)))
theorem sBX0_setOf : SS (cvoI, .ireturn) miX0_setOf [] [] [] [(0, 0)] [(0, 0)] 0 [] BX0_setOf := (t_ret (cv := cvI) (fun _ _ => rfl) (s_iand (s_ishr (s_iload_n dX0_setOf_0 rfl rfl) (s_iconst dX0_setOf_1 rfl) dX0_setOf_2) (s_sipush dX0_setOf_3 rfl) dX0_setOf_6) dX0_setOf_7)
noncomputable def DX0_setOf : Fr → St → Option (Int32 × St) := M1 (fun f => (sI fr0 0 (gI f 0))) BX0_setOf
theorem kX0_setOf : SND yX0_setOf cX0_setOf 1 (some .int) 1 [(0, 0)] cvoI DX0_setOf := snd_I (nw := 1) (by decide) rfl rfl (fun _ _ => rfl) sBX0_setOf
theorem dX0_leave_0 : decode cX0_leave 0 = .ok (.iload_n 2, 1) := by decide +kernel
theorem dX0_leave_1 : decode cX0_leave 1 = .ok (.invokestatic 143, 3) := by decide +kernel
theorem dX0_leave_4 : decode cX0_leave 4 = .ok (.istore 4, 2) := by decide +kernel
theorem dX0_leave_6 : decode cX0_leave 6 = .ok (.iload_n 2, 1) := by decide +kernel
theorem dX0_leave_7 : decode cX0_leave 7 = .ok (.invokestatic 146, 3) := by decide +kernel
theorem dX0_leave_10 : decode cX0_leave 10 = .ok (.istore 5, 2) := by decide +kernel
theorem dX0_leave_12 : decode cX0_leave 12 = .ok (.iload_n 2, 1) := by decide +kernel
theorem dX0_leave_13 : decode cX0_leave 13 = .ok (.bipush 11, 2) := by decide +kernel
theorem dX0_leave_15 : decode cX0_leave 15 = .ok (.ishr, 1) := by decide +kernel
theorem dX0_leave_16 : decode cX0_leave 16 = .ok (.iconst 1, 1) := by decide +kernel
theorem dX0_leave_17 : decode cX0_leave 17 = .ok (.iadd, 1) := by decide +kernel
theorem dX0_leave_18 : decode cX0_leave 18 = .ok (.istore 6, 2) := by decide +kernel
theorem dX0_leave_20 : decode cX0_leave 20 = .ok (.iload 5, 2) := by decide +kernel
theorem dX0_leave_22 : decode cX0_leave 22 = .ok (.invokestatic 106, 3) := by decide +kernel
theorem dX0_leave_25 : decode cX0_leave 25 = .ok (.istore 7, 2) := by decide +kernel
theorem dX0_leave_27 : decode cX0_leave 27 = .ok (.iconst 0, 1) := by decide +kernel
theorem dX0_leave_28 : decode cX0_leave 28 = .ok (.istore 8, 2) := by decide +kernel
theorem dX0_leave_30 : decode cX0_leave 30 = .ok (.iload 8, 2) := by decide +kernel
theorem dX0_leave_32 : decode cX0_leave 32 = .ok (.aload_n 1, 1) := by decide +kernel
theorem dX0_leave_33 : decode cX0_leave 33 = .ok (.getfield 130, 3) := by decide +kernel
theorem dX0_leave_36 : decode cX0_leave 36 = .ok (.if_icmp .ge 134, 3) := by decide +kernel
theorem dX0_leave_39 : decode cX0_leave 39 = .ok (.aload_n 0, 1) := by decide +kernel
theorem dX0_leave_40 : decode cX0_leave 40 = .ok (.getfield 30, 3) := by decide +kernel
theorem dX0_leave_43 : decode cX0_leave 43 = .ok (.iload 4, 2) := by decide +kernel
theorem dX0_leave_45 : decode cX0_leave 45 = .ok (.invokestatic 76, 3) := by decide +kernel
theorem dX0_leave_48 : decode cX0_leave 48 = .ok (.iload 8, 2) := by decide +kernel
theorem dX0_leave_50 : decode cX0_leave 50 = .ok (.invokestatic 136, 3) := by decide +kernel
theorem dX0_leave_53 : decode cX0_leave 53 = .ok (.istore 9, 2) := by decide +kernel
theorem dX0_leave_55 : decode cX0_leave 55 = .ok (.iload 9, 2) := by decide +kernel
theorem dX0_leave_57 : decode cX0_leave 57 = .ok (.ifCond .eq 107, 3) := by decide +kernel
theorem dX0_leave_60 : decode cX0_leave 60 = .ok (.aload_n 0, 1) := by decide +kernel
theorem dX0_leave_61 : decode cX0_leave 61 = .ok (.getfield 24, 3) := by decide +kernel
theorem dX0_leave_64 : decode cX0_leave 64 = .ok (.iload 7, 2) := by decide +kernel
theorem dX0_leave_66 : decode cX0_leave 66 = .ok (.invokestatic 76, 3) := by decide +kernel
theorem dX0_leave_69 : decode cX0_leave 69 = .ok (.aload_n 1, 1) := by decide +kernel
theorem dX0_leave_70 : decode cX0_leave 70 = .ok (.iload 4, 2) := by decide +kernel
theorem dX0_leave_72 : decode cX0_leave 72 = .ok (.iload 8, 2) := by decide +kernel
theorem dX0_leave_74 : decode cX0_leave 74 = .ok (.invokevirtual 149, 3) := by decide +kernel
theorem dX0_leave_77 : decode cX0_leave 77 = .ok (.iadd, 1) := by decide +kernel
theorem dX0_leave_78 : decode cX0_leave 78 = .ok (.iload_n 3, 1) := by decide +kernel
theorem dX0_leave_79 : decode cX0_leave 79 = .ok (.if_icmp .le 6, 3) := by decide +kernel
theorem dX0_leave_82 : decode cX0_leave 82 = .ok (.goto 82, 3) := by decide +kernel
theorem dX0_leave_85 : decode cX0_leave 85 = .ok (.aload_n 0, 1) := by decide +kernel
theorem dX0_leave_86 : decode cX0_leave 86 = .ok (.getfield 11, 3) := by decide +kernel
theorem dX0_leave_89 : decode cX0_leave 89 = .ok (.iload 8, 2) := by decide +kernel
theorem dX0_leave_91 : decode cX0_leave 91 = .ok (.invokestatic 76, 3) := by decide +kernel
theorem dX0_leave_94 : decode cX0_leave 94 = .ok (.iconst (-1), 1) := by decide +kernel
theorem dX0_leave_95 : decode cX0_leave 95 = .ok (.if_icmp .ne 14, 3) := by decide +kernel
theorem dX0_leave_98 : decode cX0_leave 98 = .ok (.aload_n 0, 1) := by decide +kernel
theorem dX0_leave_99 : decode cX0_leave 99 = .ok (.getfield 11, 3) := by decide +kernel
theorem dX0_leave_102 : decode cX0_leave 102 = .ok (.iload 8, 2) := by decide +kernel
theorem dX0_leave_104 : decode cX0_leave 104 = .ok (.iload 6, 2) := by decide +kernel
theorem dX0_leave_106 : decode cX0_leave 106 = .ok (.invokestatic 80, 3) := by decide +kernel
theorem dX0_leave_109 : decode cX0_leave 109 = .ok (.iload 5, 2) := by decide +kernel
theorem dX0_leave_111 : decode cX0_leave 111 = .ok (.iload 8, 2) := by decide +kernel
theorem dX0_leave_113 : decode cX0_leave 113 = .ok (.invokestatic 136, 3) := by decide +kernel
theorem dX0_leave_116 : decode cX0_leave 116 = .ok (.ifCond .ne 33, 3) := by decide +kernel
theorem dX0_leave_119 : decode cX0_leave 119 = .ok (.aload_n 0, 1) := by decide +kernel
theorem dX0_leave_120 : decode cX0_leave 120 = .ok (.getfield 15, 3) := by decide +kernel
theorem dX0_leave_123 : decode cX0_leave 123 = .ok (.iload 8, 2) := by decide +kernel
theorem dX0_leave_125 : decode cX0_leave 125 = .ok (.aload_n 0, 1) := by decide +kernel
theorem dX0_leave_126 : decode cX0_leave 126 = .ok (.getfield 15, 3) := by decide +kernel
theorem dX0_leave_129 : decode cX0_leave 129 = .ok (.iload 8, 2) := by decide +kernel
theorem dX0_leave_131 : decode cX0_leave 131 = .ok (.invokestatic 76, 3) := by decide +kernel
theorem dX0_leave_134 : decode cX0_leave 134 = .ok (.aload_n 0, 1) := by decide +kernel
theorem dX0_leave_135 : decode cX0_leave 135 = .ok (.getfield 27, 3) := by decide +kernel
theorem dX0_leave_138 : decode cX0_leave 138 = .ok (.iload 7, 2) := by decide +kernel
theorem dX0_leave_140 : decode cX0_leave 140 = .ok (.invokestatic 76, 3) := by decide +kernel
theorem dX0_leave_143 : decode cX0_leave 143 = .ok (.invokestatic 111, 3) := by decide +kernel
theorem dX0_leave_146 : decode cX0_leave 146 = .ok (.invokestatic 80, 3) := by decide +kernel
theorem dX0_leave_149 : decode cX0_leave 149 = .ok (.aload_n 0, 1) := by decide +kernel
theorem dX0_leave_150 : decode cX0_leave 150 = .ok (.iload 8, 2) := by decide +kernel
theorem dX0_leave_152 : decode cX0_leave 152 = .ok (.iload 5, 2) := by decide +kernel
theorem dX0_leave_154 : decode cX0_leave 154 = .ok (.iconst 1, 1) := by decide +kernel
theorem dX0_leave_155 : decode cX0_leave 155 = .ok (.iload 8, 2) := by decide +kernel
theorem dX0_leave_157 : decode cX0_leave 157 = .ok (.ishl, 1) := by decide +kernel
theorem dX0_leave_158 : decode cX0_leave 158 = .ok (.ior, 1) := by decide +kernel
theorem dX0_leave_159 : decode cX0_leave 159 = .ok (.iload 6, 2) := by decide +kernel
theorem dX0_leave_161 : decode cX0_leave 161 = .ok (.invokevirtual 84, 3) := by decide +kernel
theorem dX0_leave_164 : decode cX0_leave 164 = .ok (.iinc 8 1, 3) := by decide +kernel
theorem dX0_leave_167 : decode cX0_leave 167 = .ok (.goto (-137), 3) := by decide +kernel
theorem dX0_leave_170 : decode cX0_leave 170 = .ok (.return_, 1) := by decide +kernel
theorem mokX0_leave : MOK yX0_leave cX0_leave 10 none 3 := ⟨w3_229, w1_10, ⟨by decide, by decide⟩, by decide +kernel, by decide⟩
abbrev miX0_leave : MI := (yX0_leave.cls, cX0_leave, 10, 4, false)
noncomputable def LX0_leave_1 : Sm Unit := dLoop (fun f => (sI (sI (sI (sI (sI (sI (sI (sR (sR fr0 0 (gR f 0)) 1 (gR f 1)) 2 (gI f 2)) 3 (gI f 3)) 4 (gI f 4)) 5 (gI f 5)) 6 (gI f 6)) 7 (gI f 7)) 8 (gI f 8))) (dCI r_lt (vI 8) (dGI 5 4 (vR 1))) (dSeq (dSetI 9 (dCall DX11_hasBit (aI (aI aN 0 (dCall DX11_cell (aI (aR aN 0 (dGR 0 6 (vR 0))) 1 (vI 4)))) 1 (vI 8)))) (dSeq (dIf (dOr (dNot (dCZ q_ne (vI 9))) (dCI r_gt (d2 o_iadd (dCall DX11_cell (aI (aR aN 0 (dGR 0 4 (vR 0))) 1 (vI 7))) (dCallV 5 DX5_climbTo (aI (aI (aR aN 0 (vR 1)) 1 (vI 4)) 2 (vI 8)))) (vI 3))) dCnt dSkip) (dSeq (dIf (dCI r_eq (dCall DX11_cell (aI (aR aN 0 (dGR 0 0 (vR 0))) 1 (vI 8))) (cI (-1))) (dDo (dCall DX11_put (aI (aI (aR aN 0 (dGR 0 0 (vR 0))) 1 (vI 8)) 2 (vI 6)))) dSkip) (dSeq (dIf (dNot (dCZ q_ne (dCall DX11_hasBit (aI (aI aN 0 (vI 5)) 1 (vI 8))))) (dDo (dCall DX11_put (aI (aI (aR aN 0 (dGR 0 1 (vR 0))) 1 (vI 8)) 2 (d2 o_imax (dCall DX11_cell (aI (aR aN 0 (dGR 0 1 (vR 0))) 1 (vI 8))) (dCall DX11_cell (aI (aR aN 0 (dGR 0 5 (vR 0))) 1 (vI 7))))))) dSkip) (dDo (dCallV 0 DX0_enter (aI (aI (aI (aR aN 0 (vR 0)) 1 (vI 8)) 2 (d2 o_ior (vI 5) (d2 o_ishl (cI 1) (vI 8)))) 3 (vI 6)))))))) (dInc 8 1)
theorem sLX0_leave_1 {ΓL : Gm} {PB PK : List Nat} : SS (cvoV, .return_) miX0_leave ΓL PB PK [(0, 2), (1, 2), (2, 0), (3, 0), (4, 0), (5, 0), (6, 0), (7, 0), (8, 0)] [(0, 2), (1, 2), (2, 0), (3, 0), (4, 0), (5, 0), (6, 0), (7, 0), (8, 0)] 30 [170] LX0_leave_1 := t_loop (pT := 39) (pF := 170) (pu := 164) (PB' := []) (PK' := [164]) (XB := [164]) (XU := [167]) (fun _ _ => rfl) rfl (c_lt_F (pF := 170) (s_iload dX0_leave_30 rfl) (s_getI ck5 4 (by decide) rfl (s_aload_n dX0_leave_32 rfl rfl) dX0_leave_33 w1_148) dX0_leave_36 rfl) (t_sq (p1 := 55) (Γ' := [(0, 2), (1, 2), (2, 0), (3, 0), (4, 0), (5, 0), (6, 0), (7, 0), (8, 0), (9, 0)]) (t_istore (s_of_xI (x_callN (ts := [(0, 0), (1, 0)]) kX11_hasBit mokX11_hasBit w3_16 rfl rfl rfl (a_I (ts := [(0, 0)]) 1 (a_I (ts := []) 0 a_nil (s_of_xI (x_callN (ts := [(0, 2), (1, 0)]) kX11_cell mokX11_cell w3_26 rfl rfl rfl (a_I (ts := [(0, 2)]) 1 (a_R (ts := []) 0 a_nil (s_getR ck0 6 (by decide) rfl (s_aload_n dX0_leave_39 rfl rfl) dX0_leave_40 w2_118) rfl) (s_iload dX0_leave_43 rfl) rfl) dX0_leave_45 nb21)) rfl) (s_iload dX0_leave_48 rfl) rfl) dX0_leave_50 nb22)) dX0_leave_53 rfl rfl) (t_sq (p1 := 85) (Γ' := [(0, 2), (1, 2), (2, 0), (3, 0), (4, 0), (5, 0), (6, 0), (7, 0), (8, 0), (9, 0)]) (t_if (pT := 164) (pF := 85) (X := [85]) (XA := []) (XB := [85]) (c_or (p1 := 60) (pT := 164) (pF := 85) (c_not (pT := 164) (pF := 60) (c_ne_ZF (pF := 164) (s_iload dX0_leave_55 rfl) dX0_leave_57 rfl)) (c_ldT (p1 := 82) (c_gt_F (pF := 85) (s_iadd (s_of_xI (x_callN (ts := [(0, 2), (1, 0)]) kX11_cell mokX11_cell w3_26 rfl rfl rfl (a_I (ts := [(0, 2)]) 1 (a_R (ts := []) 0 a_nil (s_getR ck0 4 (by decide) rfl (s_aload_n dX0_leave_60 rfl rfl) dX0_leave_61 w2_116) rfl) (s_iload dX0_leave_64 rfl) rfl) dX0_leave_66 nb21)) (s_of_xI (x_callV (ts := [(0, 2), (1, 0), (2, 0)]) ck5 rfl kX5_climbTo mokX5_climbTo w3_107 w3_108 rfl rfl rfl rfl (a_I (ts := [(0, 2), (1, 0)]) 2 (a_I (ts := [(0, 2)]) 1 (a_R (ts := []) 0 a_nil (s_aload_n dX0_leave_69 rfl rfl) rfl) (s_iload dX0_leave_70 rfl) rfl) (s_iload dX0_leave_72 rfl) rfl) dX0_leave_74 w3_236)) dX0_leave_77) (s_iload_n dX0_leave_78 rfl rfl) dX0_leave_79 rfl) (ld_goto (y := 164) dX0_leave_82 rfl (ld_in rfl)))) (t_cnt (ld_in rfl) rfl) (t_skip (ld_in rfl) rfl) lda_nil (lda_cons (ld_in rfl) lda_nil)) (t_sq (p1 := 109) (Γ' := [(0, 2), (1, 2), (2, 0), (3, 0), (4, 0), (5, 0), (6, 0), (7, 0), (8, 0), (9, 0)]) (t_if (pT := 98) (pF := 109) (X := [109]) (XA := [109]) (XB := [109]) (c_eq_F (pF := 109) (s_of_xI (x_callN (ts := [(0, 2), (1, 0)]) kX11_cell mokX11_cell w3_26 rfl rfl rfl (a_I (ts := [(0, 2)]) 1 (a_R (ts := []) 0 a_nil (s_getR ck0 0 (by decide) rfl (s_aload_n dX0_leave_85 rfl rfl) dX0_leave_86 w2_109) rfl) (s_iload dX0_leave_89 rfl) rfl) dX0_leave_91 nb21)) (s_iconst dX0_leave_94 rfl) dX0_leave_95 rfl) (t_do (x_callN (ts := [(0, 2), (1, 0), (2, 0)]) kX11_put mokX11_put w3_65 rfl rfl rfl (a_I (ts := [(0, 2), (1, 0)]) 2 (a_I (ts := [(0, 2)]) 1 (a_R (ts := []) 0 a_nil (s_getR ck0 0 (by decide) rfl (s_aload_n dX0_leave_98 rfl rfl) dX0_leave_99 w2_109) rfl) (s_iload dX0_leave_102 rfl) rfl) (s_iload dX0_leave_104 rfl) rfl) dX0_leave_106 nb20) rfl) (t_skip (ld_in rfl) rfl) (lda_cons (ld_in rfl) lda_nil) (lda_cons (ld_in rfl) lda_nil)) (t_sq (p1 := 149) (Γ' := [(0, 2), (1, 2), (2, 0), (3, 0), (4, 0), (5, 0), (6, 0), (7, 0), (8, 0), (9, 0)]) (t_if (pT := 119) (pF := 149) (X := [149]) (XA := [149]) (XB := [149]) (c_not (pT := 119) (pF := 149) (c_ne_ZJ (pT := 149) (s_of_xI (x_callN (ts := [(0, 0), (1, 0)]) kX11_hasBit mokX11_hasBit w3_16 rfl rfl rfl (a_I (ts := [(0, 0)]) 1 (a_I (ts := []) 0 a_nil (s_iload dX0_leave_109 rfl) rfl) (s_iload dX0_leave_111 rfl) rfl) dX0_leave_113 nb22)) dX0_leave_116 rfl)) (t_do (x_callN (ts := [(0, 2), (1, 0), (2, 0)]) kX11_put mokX11_put w3_65 rfl rfl rfl (a_I (ts := [(0, 2), (1, 0)]) 2 (a_I (ts := [(0, 2)]) 1 (a_R (ts := []) 0 a_nil (s_getR ck0 1 (by decide) rfl (s_aload_n dX0_leave_119 rfl rfl) dX0_leave_120 w2_111) rfl) (s_iload dX0_leave_123 rfl) rfl) (s_mmax (s_of_xI (x_callN (ts := [(0, 2), (1, 0)]) kX11_cell mokX11_cell w3_26 rfl rfl rfl (a_I (ts := [(0, 2)]) 1 (a_R (ts := []) 0 a_nil (s_getR ck0 1 (by decide) rfl (s_aload_n dX0_leave_125 rfl rfl) dX0_leave_126 w2_111) rfl) (s_iload dX0_leave_129 rfl) rfl) dX0_leave_131 nb21)) (s_of_xI (x_callN (ts := [(0, 2), (1, 0)]) kX11_cell mokX11_cell w3_26 rfl rfl rfl (a_I (ts := [(0, 2)]) 1 (a_R (ts := []) 0 a_nil (s_getR ck0 5 (by decide) rfl (s_aload_n dX0_leave_134 rfl rfl) dX0_leave_135 w2_117) rfl) (s_iload dX0_leave_138 rfl) rfl) dX0_leave_140 nb21)) rfl rfl dX0_leave_143 w3_225) rfl) dX0_leave_146 nb20) rfl) (t_skip (ld_in rfl) rfl) (lda_cons (ld_in rfl) lda_nil) (lda_cons (ld_in rfl) lda_nil)) (t_do (x_callV (ts := [(0, 2), (1, 0), (2, 0), (3, 0)]) ck0 rfl kX0_enter mokX0_enter w3_218 ps1_8 rfl rfl rfl rfl (a_I (ts := [(0, 2), (1, 0), (2, 0)]) 3 (a_I (ts := [(0, 2), (1, 0)]) 2 (a_I (ts := [(0, 2)]) 1 (a_R (ts := []) 0 a_nil (s_aload_n dX0_leave_149 rfl rfl) rfl) (s_iload dX0_leave_150 rfl) rfl) (s_ior (s_iload dX0_leave_152 rfl) (s_ishl (s_iconst dX0_leave_154 rfl) (s_iload dX0_leave_155 rfl) dX0_leave_157) dX0_leave_158) rfl) (s_iload dX0_leave_159 rfl) rfl) dX0_leave_161 w3_216) rfl))))) (t_iinc dX0_leave_164 rfl rfl rfl rfl) (lda_cons (ld_in rfl) lda_nil) (lda_cons (ld_in rfl) lda_nil) (lda_cons (ld_goto (y := 30) dX0_leave_167 rfl (ld_in rfl)) lda_nil) (ld_in rfl) lda_nil
noncomputable def BX0_leave : Sm Unit := (dSeq (dSetI 4 (dCall DX0_houseOf (aI aN 0 (vI 2)))) (dSeq (dSetI 5 (dCall DX0_setOf (aI aN 0 (vI 2)))) (dSeq (dSetI 6 (d2 o_iadd (d2 o_ishr (vI 2) (cI 11)) (cI 1))) (dSeq (dSetI 7 (dCall DJ6_bitCount_0f7a4 (aI aN 0 (vI 5)))) (dSeq (dSeq (dSetI 8 (cI 0)) LX0_leave_1) dRet0)))))
theorem sBX0_leave : SS (cvoV, .return_) miX0_leave [] [] [] [(0, 2), (1, 2), (2, 0), (3, 0)] [(0, 2), (1, 2), (2, 0), (3, 0)] 0 [] BX0_leave := (t_sq (p1 := 6) (Γ' := [(0, 2), (1, 2), (2, 0), (3, 0), (4, 0)]) (t_istore (s_of_xI (x_call (ts := [(0, 0)]) kX0_houseOf mokX0_houseOf w3_231 rfl rfl rfl (a_I (ts := []) 0 a_nil (s_iload_n dX0_leave_0 rfl rfl) rfl) dX0_leave_1 w3_230)) dX0_leave_4 rfl rfl) (t_sq (p1 := 12) (Γ' := [(0, 2), (1, 2), (2, 0), (3, 0), (4, 0), (5, 0)]) (t_istore (s_of_xI (x_call (ts := [(0, 0)]) kX0_setOf mokX0_setOf w3_234 rfl rfl rfl (a_I (ts := []) 0 a_nil (s_iload_n dX0_leave_6 rfl rfl) rfl) dX0_leave_7 w3_233)) dX0_leave_10 rfl rfl) (t_sq (p1 := 20) (Γ' := [(0, 2), (1, 2), (2, 0), (3, 0), (4, 0), (5, 0), (6, 0)]) (t_istore (s_iadd (s_ishr (s_iload_n dX0_leave_12 rfl rfl) (s_bipush dX0_leave_13 rfl) dX0_leave_15) (s_iconst dX0_leave_16 rfl) dX0_leave_17) dX0_leave_18 rfl rfl) (t_sq (p1 := 27) (Γ' := [(0, 2), (1, 2), (2, 0), (3, 0), (4, 0), (5, 0), (6, 0), (7, 0)]) (t_istore (s_of_xI (x_call (ts := [(0, 0)]) kJ6_bitCount_0f7a4 mokJ6_bitCount_0f7a4 w3_208 rfl rfl rfl (a_I (ts := []) 0 a_nil (s_iload dX0_leave_20 rfl) rfl) dX0_leave_22 w3_207)) dX0_leave_25 rfl rfl) (t_sq (p1 := 170) (Γ' := [(0, 2), (1, 2), (2, 0), (3, 0), (4, 0), (5, 0), (6, 0), (7, 0)]) (t_sq (p1 := 30) (Γ' := [(0, 2), (1, 2), (2, 0), (3, 0), (4, 0), (5, 0), (6, 0), (7, 0), (8, 0)]) (t_istore (s_iconst dX0_leave_27 rfl) dX0_leave_28 rfl rfl) (tn_to (Γ' := [(0, 2), (1, 2), (2, 0), (3, 0), (4, 0), (5, 0), (6, 0), (7, 0), (8, 0)]) (XA := [170]) sLX0_leave_1 (lda_cons (ld_in rfl) lda_nil) rfl)) (t_ret0 (fun _ _ => rfl) dX0_leave_170))))))
noncomputable def DX0_leave : Fr → St → Option (Unit × St) := M1 (fun f => (sI (sI (sR (sR fr0 0 (gR f 0)) 1 (gR f 1)) 2 (gI f 2)) 3 (gI f 3))) BX0_leave
theorem kX0_leave : SND yX0_leave cX0_leave 10 none 4 [(0, 2), (1, 2), (2, 0), (3, 0)] cvoV DX0_leave := snd_V (nw := 4) (by decide) (fun z => by cases z) rfl rfl (fun _ _ => rfl) sBX0_leave
theorem dX0_prepare_0 : decode cX0_prepare 0 = .ok (.aload_n 0, 1) := by decide +kernel
theorem dX0_prepare_1 : decode cX0_prepare 1 = .ok (.getfield 33, 3) := by decide +kernel
theorem dX0_prepare_4 : decode cX0_prepare 4 = .ok (.iconst 0, 1) := by decide +kernel
theorem dX0_prepare_5 : decode cX0_prepare 5 = .ok (.invokestatic 62, 3) := by decide +kernel
theorem dX0_prepare_8 : decode cX0_prepare 8 = .ok (.aload_n 1, 1) := by decide +kernel
theorem dX0_prepare_9 : decode cX0_prepare 9 = .ok (.iload_n 2, 1) := by decide +kernel
theorem dX0_prepare_10 : decode cX0_prepare 10 = .ok (.invokevirtual 102, 3) := by decide +kernel
theorem dX0_prepare_13 : decode cX0_prepare 13 = .ok (.istore_n 3, 1) := by decide +kernel
theorem dX0_prepare_14 : decode cX0_prepare 14 = .ok (.iconst 1, 1) := by decide +kernel
theorem dX0_prepare_15 : decode cX0_prepare 15 = .ok (.istore 4, 2) := by decide +kernel
theorem dX0_prepare_17 : decode cX0_prepare 17 = .ok (.iload 4, 2) := by decide +kernel
theorem dX0_prepare_19 : decode cX0_prepare 19 = .ok (.bipush 8, 2) := by decide +kernel
theorem dX0_prepare_21 : decode cX0_prepare 21 = .ok (.if_icmp .gt 48, 3) := by decide +kernel
theorem dX0_prepare_24 : decode cX0_prepare 24 = .ok (.aload_n 0, 1) := by decide +kernel
theorem dX0_prepare_25 : decode cX0_prepare 25 = .ok (.getfield 24, 3) := by decide +kernel
theorem dX0_prepare_28 : decode cX0_prepare 28 = .ok (.iload 4, 2) := by decide +kernel
theorem dX0_prepare_30 : decode cX0_prepare 30 = .ok (.aload_n 1, 1) := by decide +kernel
theorem dX0_prepare_31 : decode cX0_prepare 31 = .ok (.iload_n 2, 1) := by decide +kernel
theorem dX0_prepare_32 : decode cX0_prepare 32 = .ok (.iload_n 3, 1) := by decide +kernel
theorem dX0_prepare_33 : decode cX0_prepare 33 = .ok (.invokevirtual 123, 3) := by decide +kernel
theorem dX0_prepare_36 : decode cX0_prepare 36 = .ok (.invokestatic 80, 3) := by decide +kernel
theorem dX0_prepare_39 : decode cX0_prepare 39 = .ok (.aload_n 0, 1) := by decide +kernel
theorem dX0_prepare_40 : decode cX0_prepare 40 = .ok (.getfield 27, 3) := by decide +kernel
theorem dX0_prepare_43 : decode cX0_prepare 43 = .ok (.iload 4, 2) := by decide +kernel
theorem dX0_prepare_45 : decode cX0_prepare 45 = .ok (.iload_n 3, 1) := by decide +kernel
theorem dX0_prepare_46 : decode cX0_prepare 46 = .ok (.invokestatic 106, 3) := by decide +kernel
theorem dX0_prepare_49 : decode cX0_prepare 49 = .ok (.invokestatic 80, 3) := by decide +kernel
theorem dX0_prepare_52 : decode cX0_prepare 52 = .ok (.aload_n 1, 1) := by decide +kernel
theorem dX0_prepare_53 : decode cX0_prepare 53 = .ok (.iload_n 2, 1) := by decide +kernel
theorem dX0_prepare_54 : decode cX0_prepare 54 = .ok (.iload_n 3, 1) := by decide +kernel
theorem dX0_prepare_55 : decode cX0_prepare 55 = .ok (.aload_n 1, 1) := by decide +kernel
theorem dX0_prepare_56 : decode cX0_prepare 56 = .ok (.getfield 117, 3) := by decide +kernel
theorem dX0_prepare_59 : decode cX0_prepare 59 = .ok (.invokevirtual 126, 3) := by decide +kernel
theorem dX0_prepare_62 : decode cX0_prepare 62 = .ok (.istore_n 3, 1) := by decide +kernel
theorem dX0_prepare_63 : decode cX0_prepare 63 = .ok (.iinc 4 1, 3) := by decide +kernel
theorem dX0_prepare_66 : decode cX0_prepare 66 = .ok (.goto (-49), 3) := by decide +kernel
theorem dX0_prepare_69 : decode cX0_prepare 69 = .ok (.iconst 0, 1) := by decide +kernel
theorem dX0_prepare_70 : decode cX0_prepare 70 = .ok (.istore 4, 2) := by decide +kernel
theorem dX0_prepare_72 : decode cX0_prepare 72 = .ok (.iload 4, 2) := by decide +kernel
theorem dX0_prepare_74 : decode cX0_prepare 74 = .ok (.aload_n 1, 1) := by decide +kernel
theorem dX0_prepare_75 : decode cX0_prepare 75 = .ok (.getfield 130, 3) := by decide +kernel
theorem dX0_prepare_78 : decode cX0_prepare 78 = .ok (.if_icmp .ge 25, 3) := by decide +kernel
theorem dX0_prepare_81 : decode cX0_prepare 81 = .ok (.aload_n 0, 1) := by decide +kernel
theorem dX0_prepare_82 : decode cX0_prepare 82 = .ok (.getfield 30, 3) := by decide +kernel
theorem dX0_prepare_85 : decode cX0_prepare 85 = .ok (.iload 4, 2) := by decide +kernel
theorem dX0_prepare_87 : decode cX0_prepare 87 = .ok (.aload_n 1, 1) := by decide +kernel
theorem dX0_prepare_88 : decode cX0_prepare 88 = .ok (.iload 4, 2) := by decide +kernel
theorem dX0_prepare_90 : decode cX0_prepare 90 = .ok (.iconst (-1), 1) := by decide +kernel
theorem dX0_prepare_91 : decode cX0_prepare 91 = .ok (.invokevirtual 133, 3) := by decide +kernel
theorem dX0_prepare_94 : decode cX0_prepare 94 = .ok (.invokestatic 80, 3) := by decide +kernel
theorem dX0_prepare_97 : decode cX0_prepare 97 = .ok (.iinc 4 1, 3) := by decide +kernel
theorem dX0_prepare_100 : decode cX0_prepare 100 = .ok (.goto (-28), 3) := by decide +kernel
theorem dX0_prepare_103 : decode cX0_prepare 103 = .ok (.return_, 1) := by decide +kernel
theorem mokX0_prepare : MOK yX0_prepare cX0_prepare 5 none 2 := ⟨w3_202, w1_10, ⟨by decide, by decide⟩, by decide +kernel, by decide⟩
abbrev miX0_prepare : MI := (yX0_prepare.cls, cX0_prepare, 5, 4, false)
noncomputable def LX0_prepare_1 : Sm Unit := dLoop (fun f => (sI (sI (sI (sR (sR fr0 0 (gR f 0)) 1 (gR f 1)) 2 (gI f 2)) 3 (gI f 3)) 4 (gI f 4))) (dCI r_le (vI 4) (cI 8)) (dSeq (dDo (dCall DX11_put (aI (aI (aR aN 0 (dGR 0 4 (vR 0))) 1 (vI 4)) 2 (dCallV 5 DX5_weightOf (aI (aI (aR aN 0 (vR 1)) 1 (vI 2)) 2 (vI 3)))))) (dSeq (dDo (dCall DX11_put (aI (aI (aR aN 0 (dGR 0 5 (vR 0))) 1 (vI 4)) 2 (dCall DJ6_bitCount_0f7a4 (aI aN 0 (vI 3)))))) (dSetI 3 (dCallV 5 DX5_leftByLaw (aI (aI (aI (aR aN 0 (vR 1)) 1 (vI 2)) 2 (vI 3)) 3 (dGI 5 2 (vR 1))))))) (dInc 4 1)
theorem sLX0_prepare_1 {ΓL : Gm} {PB PK : List Nat} : SS (cvoV, .return_) miX0_prepare ΓL PB PK [(0, 2), (1, 2), (2, 0), (3, 0), (4, 0)] [(0, 2), (1, 2), (2, 0), (3, 0), (4, 0)] 17 [69] LX0_prepare_1 := t_loop (pT := 24) (pF := 69) (pu := 63) (PB' := []) (PK' := []) (XB := [63]) (XU := [66]) (fun _ _ => rfl) rfl (c_le_F (pF := 69) (s_iload dX0_prepare_17 rfl) (s_bipush dX0_prepare_19 rfl) dX0_prepare_21 rfl) (t_sq (p1 := 39) (Γ' := [(0, 2), (1, 2), (2, 0), (3, 0), (4, 0)]) (t_do (x_callN (ts := [(0, 2), (1, 0), (2, 0)]) kX11_put mokX11_put w3_65 rfl rfl rfl (a_I (ts := [(0, 2), (1, 0)]) 2 (a_I (ts := [(0, 2)]) 1 (a_R (ts := []) 0 a_nil (s_getR ck0 4 (by decide) rfl (s_aload_n dX0_prepare_24 rfl rfl) dX0_prepare_25 w2_116) rfl) (s_iload dX0_prepare_28 rfl) rfl) (s_of_xI (x_callV (ts := [(0, 2), (1, 0), (2, 0)]) ck5 rfl kX5_weightOf mokX5_weightOf w3_102 w3_103 rfl rfl rfl rfl (a_I (ts := [(0, 2), (1, 0)]) 2 (a_I (ts := [(0, 2)]) 1 (a_R (ts := []) 0 a_nil (s_aload_n dX0_prepare_30 rfl rfl) rfl) (s_iload_n dX0_prepare_31 rfl rfl) rfl) (s_iload_n dX0_prepare_32 rfl rfl) rfl) dX0_prepare_33 w3_205)) rfl) dX0_prepare_36 nb20) rfl) (t_sq (p1 := 52) (Γ' := [(0, 2), (1, 2), (2, 0), (3, 0), (4, 0)]) (t_do (x_callN (ts := [(0, 2), (1, 0), (2, 0)]) kX11_put mokX11_put w3_65 rfl rfl rfl (a_I (ts := [(0, 2), (1, 0)]) 2 (a_I (ts := [(0, 2)]) 1 (a_R (ts := []) 0 a_nil (s_getR ck0 5 (by decide) rfl (s_aload_n dX0_prepare_39 rfl rfl) dX0_prepare_40 w2_117) rfl) (s_iload dX0_prepare_43 rfl) rfl) (s_of_xI (x_call (ts := [(0, 0)]) kJ6_bitCount_0f7a4 mokJ6_bitCount_0f7a4 w3_208 rfl rfl rfl (a_I (ts := []) 0 a_nil (s_iload_n dX0_prepare_45 rfl rfl) rfl) dX0_prepare_46 w3_207)) rfl) dX0_prepare_49 nb20) rfl) (t_istore_n (s_of_xI (x_callV (ts := [(0, 2), (1, 0), (2, 0), (3, 0)]) ck5 rfl kX5_leftByLaw mokX5_leftByLaw w3_118 w3_119 rfl rfl rfl rfl (a_I (ts := [(0, 2), (1, 0), (2, 0)]) 3 (a_I (ts := [(0, 2), (1, 0)]) 2 (a_I (ts := [(0, 2)]) 1 (a_R (ts := []) 0 a_nil (s_aload_n dX0_prepare_52 rfl rfl) rfl) (s_iload_n dX0_prepare_53 rfl rfl) rfl) (s_iload_n dX0_prepare_54 rfl rfl) rfl) (s_getI ck5 2 (by decide) rfl (s_aload_n dX0_prepare_55 rfl rfl) dX0_prepare_56 w1_137) rfl) dX0_prepare_59 w3_213)) dX0_prepare_62 rfl rfl rfl))) (t_iinc dX0_prepare_63 rfl rfl rfl rfl) (lda_cons (ld_in rfl) lda_nil) lda_nil (lda_cons (ld_goto (y := 17) dX0_prepare_66 rfl (ld_in rfl)) lda_nil) (ld_in rfl) lda_nil
noncomputable def LX0_prepare_2 : Sm Unit := dLoop (fun f => (sI (sI (sI (sR (sR fr0 0 (gR f 0)) 1 (gR f 1)) 2 (gI f 2)) 3 (gI f 3)) 4 (gI f 4))) (dCI r_lt (vI 4) (dGI 5 4 (vR 1))) (dDo (dCall DX11_put (aI (aI (aR aN 0 (dGR 0 6 (vR 0))) 1 (vI 4)) 2 (dCallV 5 DX5_doorsOf (aI (aI (aR aN 0 (vR 1)) 1 (vI 4)) 2 (cI (-1))))))) (dInc 4 1)
theorem sLX0_prepare_2 {ΓL : Gm} {PB PK : List Nat} : SS (cvoV, .return_) miX0_prepare ΓL PB PK [(0, 2), (1, 2), (2, 0), (3, 0), (4, 0)] [(0, 2), (1, 2), (2, 0), (3, 0), (4, 0)] 72 [103] LX0_prepare_2 := t_loop (pT := 81) (pF := 103) (pu := 97) (PB' := []) (PK' := []) (XB := [97]) (XU := [100]) (fun _ _ => rfl) rfl (c_lt_F (pF := 103) (s_iload dX0_prepare_72 rfl) (s_getI ck5 4 (by decide) rfl (s_aload_n dX0_prepare_74 rfl rfl) dX0_prepare_75 w1_148) dX0_prepare_78 rfl) (t_do (x_callN (ts := [(0, 2), (1, 0), (2, 0)]) kX11_put mokX11_put w3_65 rfl rfl rfl (a_I (ts := [(0, 2), (1, 0)]) 2 (a_I (ts := [(0, 2)]) 1 (a_R (ts := []) 0 a_nil (s_getR ck0 6 (by decide) rfl (s_aload_n dX0_prepare_81 rfl rfl) dX0_prepare_82 w2_118) rfl) (s_iload dX0_prepare_85 rfl) rfl) (s_of_xI (x_callV (ts := [(0, 2), (1, 0), (2, 0)]) ck5 rfl kX5_doorsOf mokX5_doorsOf w3_22 w3_23 rfl rfl rfl rfl (a_I (ts := [(0, 2), (1, 0)]) 2 (a_I (ts := [(0, 2)]) 1 (a_R (ts := []) 0 a_nil (s_aload_n dX0_prepare_87 rfl rfl) rfl) (s_iload dX0_prepare_88 rfl) rfl) (s_iconst dX0_prepare_90 rfl) rfl) dX0_prepare_91 w3_214)) rfl) dX0_prepare_94 nb20) rfl) (t_iinc dX0_prepare_97 rfl rfl rfl rfl) (lda_cons (ld_in rfl) lda_nil) lda_nil (lda_cons (ld_goto (y := 72) dX0_prepare_100 rfl (ld_in rfl)) lda_nil) (ld_in rfl) lda_nil
noncomputable def BX0_prepare : Sm Unit := (dSeq (dDo (dCall DJ7_fill_53178 (aI (aR aN 0 (dGR 0 7 (vR 0))) 1 (cI 0)))) (dSeq (dSetI 3 (dCallV 5 DX5_leftAtFirst (aI (aR aN 0 (vR 1)) 1 (vI 2)))) (dSeq (dSeq (dSetI 4 (cI 1)) LX0_prepare_1) (dSeq (dSeq (dSetI 4 (cI 0)) LX0_prepare_2) dRet0))))
theorem sBX0_prepare : SS (cvoV, .return_) miX0_prepare [] [] [] [(0, 2), (1, 2), (2, 0)] [(0, 2), (1, 2), (2, 0)] 0 [] BX0_prepare := (t_sq (p1 := 8) (Γ' := [(0, 2), (1, 2), (2, 0)]) (t_do (x_call (ts := [(0, 2), (1, 0)]) kJ7_fill_53178 mokJ7_fill_53178 w3_61 rfl rfl rfl (a_I (ts := [(0, 2)]) 1 (a_R (ts := []) 0 a_nil (s_getR ck0 7 (by decide) rfl (s_aload_n dX0_prepare_0 rfl rfl) dX0_prepare_1 w2_119) rfl) (s_iconst dX0_prepare_4 rfl) rfl) dX0_prepare_5 w3_203) rfl) (t_sq (p1 := 14) (Γ' := [(0, 2), (1, 2), (2, 0), (3, 0)]) (t_istore_n (s_of_xI (x_callV (ts := [(0, 2), (1, 0)]) ck5 rfl kX5_leftAtFirst mokX5_leftAtFirst w3_68 w3_69 rfl rfl rfl rfl (a_I (ts := [(0, 2)]) 1 (a_R (ts := []) 0 a_nil (s_aload_n dX0_prepare_8 rfl rfl) rfl) (s_iload_n dX0_prepare_9 rfl rfl) rfl) dX0_prepare_10 w3_204)) dX0_prepare_13 rfl rfl rfl) (t_sq (p1 := 69) (Γ' := [(0, 2), (1, 2), (2, 0), (3, 0)]) (t_sq (p1 := 17) (Γ' := [(0, 2), (1, 2), (2, 0), (3, 0), (4, 0)]) (t_istore (s_iconst dX0_prepare_14 rfl) dX0_prepare_15 rfl rfl) (tn_to (Γ' := [(0, 2), (1, 2), (2, 0), (3, 0), (4, 0)]) (XA := [69]) sLX0_prepare_1 (lda_cons (ld_in rfl) lda_nil) rfl)) (t_sq (p1 := 103) (Γ' := [(0, 2), (1, 2), (2, 0), (3, 0)]) (t_sq (p1 := 72) (Γ' := [(0, 2), (1, 2), (2, 0), (3, 0), (4, 0)]) (t_istore (s_iconst dX0_prepare_69 rfl) dX0_prepare_70 rfl rfl) (tn_to (Γ' := [(0, 2), (1, 2), (2, 0), (3, 0), (4, 0)]) (XA := [103]) sLX0_prepare_2 (lda_cons (ld_in rfl) lda_nil) rfl)) (t_ret0 (fun _ _ => rfl) dX0_prepare_103)))))
noncomputable def DX0_prepare : Fr → St → Option (Unit × St) := M1 (fun f => (sI (sR (sR fr0 0 (gR f 0)) 1 (gR f 1)) 2 (gI f 2))) BX0_prepare
theorem kX0_prepare : SND yX0_prepare cX0_prepare 5 none 4 [(0, 2), (1, 2), (2, 0)] cvoV DX0_prepare := snd_V (nw := 3) (by decide) (fun z => by cases z) rfl rfl (fun _ _ => rfl) sBX0_prepare
theorem dX0_search_0 : decode cX0_search 0 = .ok (.aload_n 0, 1) := by decide +kernel
theorem dX0_search_1 : decode cX0_search 1 = .ok (.getfield 48, 3) := by decide +kernel
theorem dX0_search_4 : decode cX0_search 4 = .ok (.iload_n 2, 1) := by decide +kernel
theorem dX0_search_5 : decode cX0_search 5 = .ok (.if_icmp .ne 12, 3) := by decide +kernel
theorem dX0_search_8 : decode cX0_search 8 = .ok (.aload_n 0, 1) := by decide +kernel
theorem dX0_search_9 : decode cX0_search 9 = .ok (.getfield 52, 3) := by decide +kernel
theorem dX0_search_12 : decode cX0_search 12 = .ok (.iload_n 3, 1) := by decide +kernel
theorem dX0_search_13 : decode cX0_search 13 = .ok (.if_icmp .ne 4, 3) := by decide +kernel
theorem dX0_search_16 : decode cX0_search 16 = .ok (.return_, 1) := by decide +kernel
theorem dX0_search_17 : decode cX0_search 17 = .ok (.aload_n 0, 1) := by decide +kernel
theorem dX0_search_18 : decode cX0_search 18 = .ok (.iload_n 2, 1) := by decide +kernel
theorem dX0_search_19 : decode cX0_search 19 = .ok (.putfield 48, 3) := by decide +kernel
theorem dX0_search_22 : decode cX0_search 22 = .ok (.aload_n 0, 1) := by decide +kernel
theorem dX0_search_23 : decode cX0_search 23 = .ok (.iload_n 3, 1) := by decide +kernel
theorem dX0_search_24 : decode cX0_search 24 = .ok (.putfield 52, 3) := by decide +kernel
theorem dX0_search_27 : decode cX0_search 27 = .ok (.aload_n 0, 1) := by decide +kernel
theorem dX0_search_28 : decode cX0_search 28 = .ok (.aload_n 1, 1) := by decide +kernel
theorem dX0_search_29 : decode cX0_search 29 = .ok (.iload_n 2, 1) := by decide +kernel
theorem dX0_search_30 : decode cX0_search 30 = .ok (.invokevirtual 58, 3) := by decide +kernel
theorem dX0_search_33 : decode cX0_search 33 = .ok (.aload_n 0, 1) := by decide +kernel
theorem dX0_search_34 : decode cX0_search 34 = .ok (.getfield 11, 3) := by decide +kernel
theorem dX0_search_37 : decode cX0_search 37 = .ok (.iconst (-1), 1) := by decide +kernel
theorem dX0_search_38 : decode cX0_search 38 = .ok (.invokestatic 62, 3) := by decide +kernel
theorem dX0_search_41 : decode cX0_search 41 = .ok (.aload_n 0, 1) := by decide +kernel
theorem dX0_search_42 : decode cX0_search 42 = .ok (.getfield 15, 3) := by decide +kernel
theorem dX0_search_45 : decode cX0_search 45 = .ok (.iconst (-1), 1) := by decide +kernel
theorem dX0_search_46 : decode cX0_search 46 = .ok (.invokestatic 62, 3) := by decide +kernel
theorem dX0_search_49 : decode cX0_search 49 = .ok (.aload_n 0, 1) := by decide +kernel
theorem dX0_search_50 : decode cX0_search 50 = .ok (.getfield 21, 3) := by decide +kernel
theorem dX0_search_53 : decode cX0_search 53 = .ok (.iconst 0, 1) := by decide +kernel
theorem dX0_search_54 : decode cX0_search 54 = .ok (.invokestatic 62, 3) := by decide +kernel
theorem dX0_search_57 : decode cX0_search 57 = .ok (.aload_n 0, 1) := by decide +kernel
theorem dX0_search_58 : decode cX0_search 58 = .ok (.iconst 0, 1) := by decide +kernel
theorem dX0_search_59 : decode cX0_search 59 = .ok (.putfield 68, 3) := by decide +kernel
theorem dX0_search_62 : decode cX0_search 62 = .ok (.aload_n 1, 1) := by decide +kernel
theorem dX0_search_63 : decode cX0_search 63 = .ok (.getfield 71, 3) := by decide +kernel
theorem dX0_search_66 : decode cX0_search 66 = .ok (.iload_n 2, 1) := by decide +kernel
theorem dX0_search_67 : decode cX0_search 67 = .ok (.invokestatic 76, 3) := by decide +kernel
theorem dX0_search_70 : decode cX0_search 70 = .ok (.istore 4, 2) := by decide +kernel
theorem dX0_search_72 : decode cX0_search 72 = .ok (.aload_n 0, 1) := by decide +kernel
theorem dX0_search_73 : decode cX0_search 73 = .ok (.getfield 11, 3) := by decide +kernel
theorem dX0_search_76 : decode cX0_search 76 = .ok (.iload 4, 2) := by decide +kernel
theorem dX0_search_78 : decode cX0_search 78 = .ok (.iconst 0, 1) := by decide +kernel
theorem dX0_search_79 : decode cX0_search 79 = .ok (.invokestatic 80, 3) := by decide +kernel
theorem dX0_search_82 : decode cX0_search 82 = .ok (.aload_n 0, 1) := by decide +kernel
theorem dX0_search_83 : decode cX0_search 83 = .ok (.getfield 15, 3) := by decide +kernel
theorem dX0_search_86 : decode cX0_search 86 = .ok (.iload 4, 2) := by decide +kernel
theorem dX0_search_88 : decode cX0_search 88 = .ok (.aload_n 0, 1) := by decide +kernel
theorem dX0_search_89 : decode cX0_search 89 = .ok (.getfield 27, 3) := by decide +kernel
theorem dX0_search_92 : decode cX0_search 92 = .ok (.iconst 1, 1) := by decide +kernel
theorem dX0_search_93 : decode cX0_search 93 = .ok (.invokestatic 76, 3) := by decide +kernel
theorem dX0_search_96 : decode cX0_search 96 = .ok (.invokestatic 80, 3) := by decide +kernel
theorem dX0_search_99 : decode cX0_search 99 = .ok (.aload_n 0, 1) := by decide +kernel
theorem dX0_search_100 : decode cX0_search 100 = .ok (.iload 4, 2) := by decide +kernel
theorem dX0_search_102 : decode cX0_search 102 = .ok (.iconst 1, 1) := by decide +kernel
theorem dX0_search_103 : decode cX0_search 103 = .ok (.iload 4, 2) := by decide +kernel
theorem dX0_search_105 : decode cX0_search 105 = .ok (.ishl, 1) := by decide +kernel
theorem dX0_search_106 : decode cX0_search 106 = .ok (.iconst 0, 1) := by decide +kernel
theorem dX0_search_107 : decode cX0_search 107 = .ok (.invokevirtual 84, 3) := by decide +kernel
theorem dX0_search_110 : decode cX0_search 110 = .ok (.iconst 0, 1) := by decide +kernel
theorem dX0_search_111 : decode cX0_search 111 = .ok (.istore 5, 2) := by decide +kernel
theorem dX0_search_113 : decode cX0_search 113 = .ok (.iload 5, 2) := by decide +kernel
theorem dX0_search_115 : decode cX0_search 115 = .ok (.aload_n 0, 1) := by decide +kernel
theorem dX0_search_116 : decode cX0_search 116 = .ok (.getfield 68, 3) := by decide +kernel
theorem dX0_search_119 : decode cX0_search 119 = .ok (.if_icmp .ge 32, 3) := by decide +kernel
theorem dX0_search_122 : decode cX0_search 122 = .ok (.iload 5, 2) := by decide +kernel
theorem dX0_search_124 : decode cX0_search 124 = .ok (.aload_n 0, 1) := by decide +kernel
theorem dX0_search_125 : decode cX0_search 125 = .ok (.getfield 36, 3) := by decide +kernel
theorem dX0_search_128 : decode cX0_search 128 = .ok (.arraylength, 1) := by decide +kernel
theorem dX0_search_129 : decode cX0_search 129 = .ok (.if_icmp .ge 22, 3) := by decide +kernel
theorem dX0_search_132 : decode cX0_search 132 = .ok (.aload_n 0, 1) := by decide +kernel
theorem dX0_search_133 : decode cX0_search 133 = .ok (.aload_n 1, 1) := by decide +kernel
theorem dX0_search_134 : decode cX0_search 134 = .ok (.aload_n 0, 1) := by decide +kernel
theorem dX0_search_135 : decode cX0_search 135 = .ok (.getfield 36, 3) := by decide +kernel
theorem dX0_search_138 : decode cX0_search 138 = .ok (.iload 5, 2) := by decide +kernel
theorem dX0_search_140 : decode cX0_search 140 = .ok (.iaload, 1) := by decide +kernel
theorem dX0_search_141 : decode cX0_search 141 = .ok (.iload_n 3, 1) := by decide +kernel
theorem dX0_search_142 : decode cX0_search 142 = .ok (.invokevirtual 88, 3) := by decide +kernel
theorem dX0_search_145 : decode cX0_search 145 = .ok (.iinc 5 1, 3) := by decide +kernel
theorem dX0_search_148 : decode cX0_search 148 = .ok (.goto (-35), 3) := by decide +kernel
theorem dX0_search_151 : decode cX0_search 151 = .ok (.return_, 1) := by decide +kernel
theorem mokX0_search : MOK yX0_search cX0_search 6 none 3 := ⟨w3_198, w1_10, ⟨by decide, by decide⟩, by decide +kernel, by decide⟩
abbrev miX0_search : MI := (yX0_search.cls, cX0_search, 6, 5, false)
noncomputable def LX0_search_1 : Sm Unit := dLoop (fun f => (sI (sI (sI (sI (sR (sR fr0 0 (gR f 0)) 1 (gR f 1)) 2 (gI f 2)) 3 (gI f 3)) 4 (gI f 4)) 5 (gI f 5))) (dAnd (dCI r_lt (vI 5) (dGI 0 9 (vR 0))) (dCI r_lt (vI 5) (dLen (dGR 0 8 (vR 0))))) (dDo (dCallV 0 DX0_leave (aI (aI (aR (aR aN 0 (vR 0)) 1 (vR 1)) 2 (dAI (dGR 0 8 (vR 0)) (vI 5))) 3 (vI 3)))) (dInc 5 1)
theorem sLX0_search_1 {ΓL : Gm} {PB PK : List Nat} : SS (cvoV, .return_) miX0_search ΓL PB PK [(0, 2), (1, 2), (2, 0), (3, 0), (4, 0), (5, 0)] [(0, 2), (1, 2), (2, 0), (3, 0), (4, 0), (5, 0)] 113 [151] LX0_search_1 := t_loop (pT := 132) (pF := 151) (pu := 145) (PB' := []) (PK' := []) (XB := [145]) (XU := [148]) (fun _ _ => rfl) rfl (c_and (p1 := 122) (pT := 132) (pF := 151) (c_lt_F (pF := 151) (s_iload dX0_search_113 rfl) (s_getI ck0 9 (by decide) rfl (s_aload_n dX0_search_115 rfl rfl) dX0_search_116 w2_121) dX0_search_119 rfl) (c_lt_F (pF := 151) (s_iload dX0_search_122 rfl) (s_len (s_getR ck0 8 (by decide) rfl (s_aload_n dX0_search_124 rfl rfl) dX0_search_125 w2_120) dX0_search_128) dX0_search_129 rfl)) (t_do (x_callV (ts := [(0, 2), (1, 2), (2, 0), (3, 0)]) ck0 rfl kX0_leave mokX0_leave w3_228 ps1_10 rfl rfl rfl rfl (a_I (ts := [(0, 2), (1, 2), (2, 0)]) 3 (a_I (ts := [(0, 2), (1, 2)]) 2 (a_R (ts := [(0, 2)]) 1 (a_R (ts := []) 0 a_nil (s_aload_n dX0_search_132 rfl rfl) rfl) (s_aload_n dX0_search_133 rfl rfl) rfl) (s_dAI (s_getR ck0 8 (by decide) rfl (s_aload_n dX0_search_134 rfl rfl) dX0_search_135 w2_120) (s_iload dX0_search_138 rfl) dX0_search_140) rfl) (s_iload_n dX0_search_141 rfl rfl) rfl) dX0_search_142 w3_226) rfl) (t_iinc dX0_search_145 rfl rfl rfl rfl) (lda_cons (ld_in rfl) lda_nil) lda_nil (lda_cons (ld_goto (y := 113) dX0_search_148 rfl (ld_in rfl)) lda_nil) (ld_in rfl) lda_nil
noncomputable def BX0_search : Sm Unit := (dSeq (dIf (dAnd (dCI r_eq (dGI 0 14 (vR 0)) (vI 2)) (dCI r_eq (dGI 0 15 (vR 0)) (vI 3))) dRet0 dSkip) (dSeq (dP (fI 0 14) (vR 0) (vI 2)) (dSeq (dP (fI 0 15) (vR 0) (vI 3)) (dSeq (dDo (dCallV 0 DX0_prepare (aI (aR (aR aN 0 (vR 0)) 1 (vR 1)) 2 (vI 2)))) (dSeq (dDo (dCall DJ7_fill_53178 (aI (aR aN 0 (dGR 0 0 (vR 0))) 1 (cI (-1))))) (dSeq (dDo (dCall DJ7_fill_53178 (aI (aR aN 0 (dGR 0 1 (vR 0))) 1 (cI (-1))))) (dSeq (dDo (dCall DJ7_fill_53178 (aI (aR aN 0 (dGR 0 3 (vR 0))) 1 (cI 0)))) (dSeq (dP (fI 0 9) (vR 0) (cI 0)) (dSeq (dSetI 4 (dCall DX11_cell (aI (aR aN 0 (dGR 5 13 (vR 1))) 1 (vI 2)))) (dSeq (dDo (dCall DX11_put (aI (aI (aR aN 0 (dGR 0 0 (vR 0))) 1 (vI 4)) 2 (cI 0)))) (dSeq (dDo (dCall DX11_put (aI (aI (aR aN 0 (dGR 0 1 (vR 0))) 1 (vI 4)) 2 (dCall DX11_cell (aI (aR aN 0 (dGR 0 5 (vR 0))) 1 (cI 1)))))) (dSeq (dDo (dCallV 0 DX0_enter (aI (aI (aI (aR aN 0 (vR 0)) 1 (vI 4)) 2 (d2 o_ishl (cI 1) (vI 4))) 3 (cI 0)))) (dSeq (dSeq (dSetI 5 (cI 0)) LX0_search_1) dRet0)))))))))))))
theorem sBX0_search : SS (cvoV, .return_) miX0_search [] [] [] [(0, 2), (1, 2), (2, 0), (3, 0)] [(0, 2), (1, 2), (2, 0), (3, 0)] 0 [] BX0_search := (t_sq (p1 := 17) (Γ' := [(0, 2), (1, 2), (2, 0), (3, 0)]) (t_if (pT := 16) (pF := 17) (X := [17]) (XA := []) (XB := [17]) (c_and (p1 := 8) (pT := 16) (pF := 17) (c_eq_F (pF := 17) (s_getI ck0 14 (by decide) rfl (s_aload_n dX0_search_0 rfl rfl) dX0_search_1 w2_126) (s_iload_n dX0_search_4 rfl rfl) dX0_search_5 rfl) (c_eq_F (pF := 17) (s_getI ck0 15 (by decide) rfl (s_aload_n dX0_search_8 rfl rfl) dX0_search_9 w2_127) (s_iload_n dX0_search_12 rfl rfl) dX0_search_13 rfl)) (t_ret0 (fun _ _ => rfl) dX0_search_16) (t_skip (ld_in rfl) rfl) lda_nil (lda_cons (ld_in rfl) lda_nil)) (t_sq (p1 := 22) (Γ' := [(0, 2), (1, 2), (2, 0), (3, 0)]) (t_pI ck0 14 (by decide) rfl (Or.inl rfl) (s_aload_n dX0_search_17 rfl rfl) (s_iload_n dX0_search_18 rfl rfl) dX0_search_19 w2_126 rfl) (t_sq (p1 := 27) (Γ' := [(0, 2), (1, 2), (2, 0), (3, 0)]) (t_pI ck0 15 (by decide) rfl (Or.inl rfl) (s_aload_n dX0_search_22 rfl rfl) (s_iload_n dX0_search_23 rfl rfl) dX0_search_24 w2_127 rfl) (t_sq (p1 := 33) (Γ' := [(0, 2), (1, 2), (2, 0), (3, 0)]) (t_do (x_callV (ts := [(0, 2), (1, 2), (2, 0)]) ck0 rfl kX0_prepare mokX0_prepare w3_201 ps1_7 rfl rfl rfl rfl (a_I (ts := [(0, 2), (1, 2)]) 2 (a_R (ts := [(0, 2)]) 1 (a_R (ts := []) 0 a_nil (s_aload_n dX0_search_27 rfl rfl) rfl) (s_aload_n dX0_search_28 rfl rfl) rfl) (s_iload_n dX0_search_29 rfl rfl) rfl) dX0_search_30 w3_199) rfl) (t_sq (p1 := 41) (Γ' := [(0, 2), (1, 2), (2, 0), (3, 0)]) (t_do (x_call (ts := [(0, 2), (1, 0)]) kJ7_fill_53178 mokJ7_fill_53178 w3_61 rfl rfl rfl (a_I (ts := [(0, 2)]) 1 (a_R (ts := []) 0 a_nil (s_getR ck0 0 (by decide) rfl (s_aload_n dX0_search_33 rfl rfl) dX0_search_34 w2_109) rfl) (s_iconst dX0_search_37 rfl) rfl) dX0_search_38 w3_203) rfl) (t_sq (p1 := 49) (Γ' := [(0, 2), (1, 2), (2, 0), (3, 0)]) (t_do (x_call (ts := [(0, 2), (1, 0)]) kJ7_fill_53178 mokJ7_fill_53178 w3_61 rfl rfl rfl (a_I (ts := [(0, 2)]) 1 (a_R (ts := []) 0 a_nil (s_getR ck0 1 (by decide) rfl (s_aload_n dX0_search_41 rfl rfl) dX0_search_42 w2_111) rfl) (s_iconst dX0_search_45 rfl) rfl) dX0_search_46 w3_203) rfl) (t_sq (p1 := 57) (Γ' := [(0, 2), (1, 2), (2, 0), (3, 0)]) (t_do (x_call (ts := [(0, 2), (1, 0)]) kJ7_fill_53178 mokJ7_fill_53178 w3_61 rfl rfl rfl (a_I (ts := [(0, 2)]) 1 (a_R (ts := []) 0 a_nil (s_getR ck0 3 (by decide) rfl (s_aload_n dX0_search_49 rfl rfl) dX0_search_50 w2_115) rfl) (s_iconst dX0_search_53 rfl) rfl) dX0_search_54 w3_203) rfl) (t_sq (p1 := 62) (Γ' := [(0, 2), (1, 2), (2, 0), (3, 0)]) (t_pI ck0 9 (by decide) rfl (Or.inl rfl) (s_aload_n dX0_search_57 rfl rfl) (s_iconst dX0_search_58 rfl) dX0_search_59 w2_121 rfl) (t_sq (p1 := 72) (Γ' := [(0, 2), (1, 2), (2, 0), (3, 0), (4, 0)]) (t_istore (s_of_xI (x_callN (ts := [(0, 2), (1, 0)]) kX11_cell mokX11_cell w3_26 rfl rfl rfl (a_I (ts := [(0, 2)]) 1 (a_R (ts := []) 0 a_nil (s_getR ck5 13 (by decide) rfl (s_aload_n dX0_search_62 rfl rfl) dX0_search_63 w1_175) rfl) (s_iload_n dX0_search_66 rfl rfl) rfl) dX0_search_67 nb21)) dX0_search_70 rfl rfl) (t_sq (p1 := 82) (Γ' := [(0, 2), (1, 2), (2, 0), (3, 0), (4, 0)]) (t_do (x_callN (ts := [(0, 2), (1, 0), (2, 0)]) kX11_put mokX11_put w3_65 rfl rfl rfl (a_I (ts := [(0, 2), (1, 0)]) 2 (a_I (ts := [(0, 2)]) 1 (a_R (ts := []) 0 a_nil (s_getR ck0 0 (by decide) rfl (s_aload_n dX0_search_72 rfl rfl) dX0_search_73 w2_109) rfl) (s_iload dX0_search_76 rfl) rfl) (s_iconst dX0_search_78 rfl) rfl) dX0_search_79 nb20) rfl) (t_sq (p1 := 99) (Γ' := [(0, 2), (1, 2), (2, 0), (3, 0), (4, 0)]) (t_do (x_callN (ts := [(0, 2), (1, 0), (2, 0)]) kX11_put mokX11_put w3_65 rfl rfl rfl (a_I (ts := [(0, 2), (1, 0)]) 2 (a_I (ts := [(0, 2)]) 1 (a_R (ts := []) 0 a_nil (s_getR ck0 1 (by decide) rfl (s_aload_n dX0_search_82 rfl rfl) dX0_search_83 w2_111) rfl) (s_iload dX0_search_86 rfl) rfl) (s_of_xI (x_callN (ts := [(0, 2), (1, 0)]) kX11_cell mokX11_cell w3_26 rfl rfl rfl (a_I (ts := [(0, 2)]) 1 (a_R (ts := []) 0 a_nil (s_getR ck0 5 (by decide) rfl (s_aload_n dX0_search_88 rfl rfl) dX0_search_89 w2_117) rfl) (s_iconst dX0_search_92 rfl) rfl) dX0_search_93 nb21)) rfl) dX0_search_96 nb20) rfl) (t_sq (p1 := 110) (Γ' := [(0, 2), (1, 2), (2, 0), (3, 0), (4, 0)]) (t_do (x_callV (ts := [(0, 2), (1, 0), (2, 0), (3, 0)]) ck0 rfl kX0_enter mokX0_enter w3_218 ps1_8 rfl rfl rfl rfl (a_I (ts := [(0, 2), (1, 0), (2, 0)]) 3 (a_I (ts := [(0, 2), (1, 0)]) 2 (a_I (ts := [(0, 2)]) 1 (a_R (ts := []) 0 a_nil (s_aload_n dX0_search_99 rfl rfl) rfl) (s_iload dX0_search_100 rfl) rfl) (s_ishl (s_iconst dX0_search_102 rfl) (s_iload dX0_search_103 rfl) dX0_search_105) rfl) (s_iconst dX0_search_106 rfl) rfl) dX0_search_107 w3_216) rfl) (t_sq (p1 := 151) (Γ' := [(0, 2), (1, 2), (2, 0), (3, 0), (4, 0)]) (t_sq (p1 := 113) (Γ' := [(0, 2), (1, 2), (2, 0), (3, 0), (4, 0), (5, 0)]) (t_istore (s_iconst dX0_search_110 rfl) dX0_search_111 rfl rfl) (tn_to (Γ' := [(0, 2), (1, 2), (2, 0), (3, 0), (4, 0), (5, 0)]) (XA := [151]) sLX0_search_1 (lda_cons (ld_in rfl) lda_nil) rfl)) (t_ret0 (fun _ _ => rfl) dX0_search_151))))))))))))))
noncomputable def DX0_search : Fr → St → Option (Unit × St) := M1 (fun f => (sI (sI (sR (sR fr0 0 (gR f 0)) 1 (gR f 1)) 2 (gI f 2)) 3 (gI f 3))) BX0_search
theorem kX0_search : SND yX0_search cX0_search 6 none 5 [(0, 2), (1, 2), (2, 0), (3, 0)] cvoV DX0_search := snd_V (nw := 4) (by decide) (fun z => by cases z) rfl rfl (fun _ _ => rfl) sBX0_search
theorem dX11_areAlone_0 : decode cX11_areAlone 0 = .ok (.aload_n 0, 1) := by decide +kernel
theorem dX11_areAlone_1 : decode cX11_areAlone 1 = .ok (.getfield 26, 3) := by decide +kernel
theorem dX11_areAlone_4 : decode cX11_areAlone 4 = .ok (.iload_n 1, 1) := by decide +kernel
theorem dX11_areAlone_5 : decode cX11_areAlone 5 = .ok (.invokevirtual 128, 3) := by decide +kernel
theorem dX11_areAlone_8 : decode cX11_areAlone 8 = .ok (.ifCond .eq 18, 3) := by decide +kernel
theorem dX11_areAlone_11 : decode cX11_areAlone 11 = .ok (.aload_n 0, 1) := by decide +kernel
theorem dX11_areAlone_12 : decode cX11_areAlone 12 = .ok (.getfield 26, 3) := by decide +kernel
theorem dX11_areAlone_15 : decode cX11_areAlone 15 = .ok (.iload_n 2, 1) := by decide +kernel
theorem dX11_areAlone_16 : decode cX11_areAlone 16 = .ok (.invokevirtual 140, 3) := by decide +kernel
theorem dX11_areAlone_19 : decode cX11_areAlone 19 = .ok (.ifCond .eq 7, 3) := by decide +kernel
theorem dX11_areAlone_22 : decode cX11_areAlone 22 = .ok (.iconst 1, 1) := by decide +kernel
theorem dX11_areAlone_23 : decode cX11_areAlone 23 = .ok (.goto 4, 3) := by decide +kernel
theorem dX11_areAlone_26 : decode cX11_areAlone 26 = .ok (.iconst 0, 1) := by decide +kernel
theorem dX11_areAlone_27 : decode cX11_areAlone 27 = .ok (.ireturn, 1) := by decide +kernel
theorem mokX11_areAlone : MOK yX11_areAlone cX11_areAlone 3 (some .boolean) 2 := ⟨w3_193, w1_1, ⟨by decide, by decide⟩, by decide +kernel, by decide⟩
abbrev miX11_areAlone : MI := (yX11_areAlone.cls, cX11_areAlone, 3, 2, false)
noncomputable def BX11_areAlone : Sm Int32 := (dRet (dB (dAnd (dCZ q_ne (dCallV 5 DX5_isCarrier (aI (aR aN 0 (dGR 11 2 (vR 0))) 1 (vI 1)))) (dCZ q_ne (dCallV 5 DX5_isSlate (aI (aR aN 0 (dGR 11 2 (vR 0))) 1 (vI 2)))))))
theorem sBX11_areAlone : SS (cvoI, .ireturn) miX11_areAlone [] [] [] [(0, 2), (1, 0), (2, 0)] [(0, 2), (1, 0), (2, 0)] 0 [] BX11_areAlone := (t_ret (cv := cvI) (fun _ _ => rfl) (s_B (pT := 22) (pF := 26) (pe := 27) (c_and (p1 := 11) (pT := 22) (pF := 26) (c_ne_ZF (pF := 26) (s_of_xI (x_callV (ts := [(0, 2), (1, 0)]) ck5 rfl kX5_isCarrier mokX5_isCarrier w3_33 w3_34 rfl rfl rfl rfl (a_I (ts := [(0, 2)]) 1 (a_R (ts := []) 0 a_nil (s_getR ck11 2 (by decide) rfl (s_aload_n dX11_areAlone_0 rfl rfl) dX11_areAlone_1 w2_198) rfl) (s_iload_n dX11_areAlone_4 rfl rfl) rfl) dX11_areAlone_5 w3_32)) dX11_areAlone_8 rfl) (c_ne_ZF (pF := 26) (s_of_xI (x_callV (ts := [(0, 2), (1, 0)]) ck5 rfl kX5_isSlate mokX5_isSlate w3_136 w3_137 rfl rfl rfl rfl (a_I (ts := [(0, 2)]) 1 (a_R (ts := []) 0 a_nil (s_getR ck11 2 (by decide) rfl (s_aload_n dX11_areAlone_11 rfl rfl) dX11_areAlone_12 w2_198) rfl) (s_iload_n dX11_areAlone_15 rfl rfl) rfl) dX11_areAlone_16 w3_135)) dX11_areAlone_19 rfl)) dX11_areAlone_22 dX11_areAlone_23 rfl dX11_areAlone_26 rfl) dX11_areAlone_27)
noncomputable def DX11_areAlone : Fr → St → Option (Int32 × St) := MZ (fun f => (sI (sI (sR fr0 0 (gR f 0)) 1 (gI f 1)) 2 (gI f 2))) BX11_areAlone
theorem kX11_areAlone : SND yX11_areAlone cX11_areAlone 3 (some .boolean) 2 [(0, 2), (1, 0), (2, 0)] cvoI DX11_areAlone := snd_Z (nw := 3) (by decide) rfl rfl (fun _ _ => rfl) sBX11_areAlone
theorem dX11_brings_0 : decode cX11_brings 0 = .ok (.aload_n 0, 1) := by decide +kernel
theorem dX11_brings_1 : decode cX11_brings 1 = .ok (.iload_n 1, 1) := by decide +kernel
theorem dX11_brings_2 : decode cX11_brings 2 = .ok (.iload_n 2, 1) := by decide +kernel
theorem dX11_brings_3 : decode cX11_brings 3 = .ok (.invokevirtual 251, 3) := by decide +kernel
theorem dX11_brings_6 : decode cX11_brings 6 = .ok (.ifCond .eq 14, 3) := by decide +kernel
theorem dX11_brings_9 : decode cX11_brings 9 = .ok (.aload_n 0, 1) := by decide +kernel
theorem dX11_brings_10 : decode cX11_brings 10 = .ok (.getfield 26, 3) := by decide +kernel
theorem dX11_brings_13 : decode cX11_brings 13 = .ok (.iload_n 3, 1) := by decide +kernel
theorem dX11_brings_14 : decode cX11_brings 14 = .ok (.invokevirtual 117, 3) := by decide +kernel
theorem dX11_brings_17 : decode cX11_brings 17 = .ok (.ifCond .ne 6, 3) := by decide +kernel
theorem dX11_brings_20 : decode cX11_brings 20 = .ok (.bipush (-2), 2) := by decide +kernel
theorem dX11_brings_22 : decode cX11_brings 22 = .ok (.ireturn, 1) := by decide +kernel
theorem dX11_brings_23 : decode cX11_brings 23 = .ok (.aload_n 0, 1) := by decide +kernel
theorem dX11_brings_24 : decode cX11_brings 24 = .ok (.getfield 64, 3) := by decide +kernel
theorem dX11_brings_27 : decode cX11_brings 27 = .ok (.aload_n 0, 1) := by decide +kernel
theorem dX11_brings_28 : decode cX11_brings 28 = .ok (.getfield 26, 3) := by decide +kernel
theorem dX11_brings_31 : decode cX11_brings 31 = .ok (.iload_n 2, 1) := by decide +kernel
theorem dX11_brings_32 : decode cX11_brings 32 = .ok (.aload_n 0, 1) := by decide +kernel
theorem dX11_brings_33 : decode cX11_brings 33 = .ok (.getfield 26, 3) := by decide +kernel
theorem dX11_brings_36 : decode cX11_brings 36 = .ok (.getfield 137, 3) := by decide +kernel
theorem dX11_brings_39 : decode cX11_brings 39 = .ok (.iload_n 1, 1) := by decide +kernel
theorem dX11_brings_40 : decode cX11_brings 40 = .ok (.invokestatic 124, 3) := by decide +kernel
theorem dX11_brings_43 : decode cX11_brings 43 = .ok (.invokevirtual 254, 3) := by decide +kernel
theorem dX11_brings_46 : decode cX11_brings 46 = .ok (.aload_n 0, 1) := by decide +kernel
theorem dX11_brings_47 : decode cX11_brings 47 = .ok (.getfield 64, 3) := by decide +kernel
theorem dX11_brings_50 : decode cX11_brings 50 = .ok (.getfield 258, 3) := by decide +kernel
theorem dX11_brings_53 : decode cX11_brings 53 = .ok (.iload_n 3, 1) := by decide +kernel
theorem dX11_brings_54 : decode cX11_brings 54 = .ok (.invokestatic 124, 3) := by decide +kernel
theorem dX11_brings_57 : decode cX11_brings 57 = .ok (.ireturn, 1) := by decide +kernel
theorem mokX11_brings : MOK yX11_brings cX11_brings 4 (some .int) 3 := ⟨w3_189, w1_1, ⟨by decide, by decide⟩, by decide +kernel, by decide⟩
abbrev miX11_brings : MI := (yX11_brings.cls, cX11_brings, 4, 6, false)
noncomputable def BX11_brings : Sm Int32 := (dSeq (dIf (dOr (dNot (dCZ q_ne (dCallV 11 DX11_areAlone (aI (aI (aR aN 0 (vR 0)) 1 (vI 1)) 2 (vI 2))))) (dNot (dCZ q_ne (dCallV 5 DX5_isHouse (aI (aR aN 0 (dGR 11 2 (vR 0))) 1 (vI 3)))))) (dRet (cI (-2))) dSkip) (dSeq (dDo (dCallV 0 DX0_search (aI (aI (aR (aR aN 0 (dGR 11 9 (vR 0))) 1 (dGR 11 2 (vR 0))) 2 (vI 2)) 3 (dCall DX11_cell (aI (aR aN 0 (dGR 5 12 (dGR 11 2 (vR 0)))) 1 (vI 1)))))) (dRet (dCall DX11_cell (aI (aR aN 0 (dGR 0 0 (dGR 11 9 (vR 0)))) 1 (vI 3))))))
theorem sBX11_brings : SS (cvoI, .ireturn) miX11_brings [] [] [] [(0, 2), (1, 0), (2, 0), (3, 0)] [(0, 2), (1, 0), (2, 0), (3, 0)] 0 [] BX11_brings := (t_sq (p1 := 23) (Γ' := [(0, 2), (1, 0), (2, 0), (3, 0)]) (t_if (pT := 20) (pF := 23) (X := [23]) (XA := []) (XB := [23]) (c_or (p1 := 9) (pT := 20) (pF := 23) (c_not (pT := 20) (pF := 9) (c_ne_ZF (pF := 20) (s_of_xI (x_callV (ts := [(0, 2), (1, 0), (2, 0)]) ck11 rfl kX11_areAlone mokX11_areAlone w3_192 ps1_6 rfl rfl rfl rfl (a_I (ts := [(0, 2), (1, 0)]) 2 (a_I (ts := [(0, 2)]) 1 (a_R (ts := []) 0 a_nil (s_aload_n dX11_brings_0 rfl rfl) rfl) (s_iload_n dX11_brings_1 rfl rfl) rfl) (s_iload_n dX11_brings_2 rfl rfl) rfl) dX11_brings_3 w3_190)) dX11_brings_6 rfl)) (c_not (pT := 20) (pF := 23) (c_ne_ZJ (pT := 23) (s_of_xI (x_callV (ts := [(0, 2), (1, 0)]) ck5 rfl kX5_isHouse mokX5_isHouse w3_8 w3_9 rfl rfl rfl rfl (a_I (ts := [(0, 2)]) 1 (a_R (ts := []) 0 a_nil (s_getR ck11 2 (by decide) rfl (s_aload_n dX11_brings_9 rfl rfl) dX11_brings_10 w2_198) rfl) (s_iload_n dX11_brings_13 rfl rfl) rfl) dX11_brings_14 w3_155)) dX11_brings_17 rfl))) (t_ret (cv := cvI) (fun _ _ => rfl) (s_bipush dX11_brings_20 rfl) dX11_brings_22) (t_skip (ld_in rfl) rfl) lda_nil (lda_cons (ld_in rfl) lda_nil)) (t_sq (p1 := 46) (Γ' := [(0, 2), (1, 0), (2, 0), (3, 0)]) (t_do (x_callV (ts := [(0, 2), (1, 2), (2, 0), (3, 0)]) ck0 rfl kX0_search mokX0_search w3_196 w3_197 rfl rfl rfl rfl (a_I (ts := [(0, 2), (1, 2), (2, 0)]) 3 (a_I (ts := [(0, 2), (1, 2)]) 2 (a_R (ts := [(0, 2)]) 1 (a_R (ts := []) 0 a_nil (s_getR ck11 9 (by decide) rfl (s_aload_n dX11_brings_23 rfl rfl) dX11_brings_24 w2_205) rfl) (s_getR ck11 2 (by decide) rfl (s_aload_n dX11_brings_27 rfl rfl) dX11_brings_28 w2_198) rfl) (s_iload_n dX11_brings_31 rfl rfl) rfl) (s_of_xI (x_call (ts := [(0, 2), (1, 0)]) kX11_cell mokX11_cell w3_26 rfl rfl rfl (a_I (ts := [(0, 2)]) 1 (a_R (ts := []) 0 a_nil (s_getR ck5 12 (by decide) rfl (s_getR ck11 2 (by decide) rfl (s_aload_n dX11_brings_32 rfl rfl) dX11_brings_33 w2_198) dX11_brings_36 w1_173) rfl) (s_iload_n dX11_brings_39 rfl rfl) rfl) dX11_brings_40 w3_194)) rfl) dX11_brings_43 w3_195) rfl) (t_ret (cv := cvI) (fun _ _ => rfl) (s_of_xI (x_call (ts := [(0, 2), (1, 0)]) kX11_cell mokX11_cell w3_26 rfl rfl rfl (a_I (ts := [(0, 2)]) 1 (a_R (ts := []) 0 a_nil (s_getR ck0 0 (by decide) rfl (s_getR ck11 9 (by decide) rfl (s_aload_n dX11_brings_46 rfl rfl) dX11_brings_47 w2_205) dX11_brings_50 w2_110) rfl) (s_iload_n dX11_brings_53 rfl rfl) rfl) dX11_brings_54 w3_194)) dX11_brings_57)))
noncomputable def DX11_brings : Fr → St → Option (Int32 × St) := M1 (fun f => (sI (sI (sI (sR fr0 0 (gR f 0)) 1 (gI f 1)) 2 (gI f 2)) 3 (gI f 3))) BX11_brings
theorem kX11_brings : SND yX11_brings cX11_brings 4 (some .int) 6 [(0, 2), (1, 0), (2, 0), (3, 0)] cvoI DX11_brings := snd_I (nw := 4) (by decide) rfl rfl (fun _ _ => rfl) sBX11_brings
theorem dX11_saves_0 : decode cX11_saves 0 = .ok (.aload_n 0, 1) := by decide +kernel
theorem dX11_saves_1 : decode cX11_saves 1 = .ok (.iload_n 1, 1) := by decide +kernel
theorem dX11_saves_2 : decode cX11_saves 2 = .ok (.iload_n 2, 1) := by decide +kernel
theorem dX11_saves_3 : decode cX11_saves 3 = .ok (.invokevirtual 251, 3) := by decide +kernel
theorem dX11_saves_6 : decode cX11_saves 6 = .ok (.ifCond .eq 14, 3) := by decide +kernel
theorem dX11_saves_9 : decode cX11_saves 9 = .ok (.aload_n 0, 1) := by decide +kernel
theorem dX11_saves_10 : decode cX11_saves 10 = .ok (.getfield 26, 3) := by decide +kernel
theorem dX11_saves_13 : decode cX11_saves 13 = .ok (.iload_n 3, 1) := by decide +kernel
theorem dX11_saves_14 : decode cX11_saves 14 = .ok (.invokevirtual 117, 3) := by decide +kernel
theorem dX11_saves_17 : decode cX11_saves 17 = .ok (.ifCond .ne 6, 3) := by decide +kernel
theorem dX11_saves_20 : decode cX11_saves 20 = .ok (.bipush (-2), 2) := by decide +kernel
theorem dX11_saves_22 : decode cX11_saves 22 = .ok (.ireturn, 1) := by decide +kernel
theorem dX11_saves_23 : decode cX11_saves 23 = .ok (.aload_n 0, 1) := by decide +kernel
theorem dX11_saves_24 : decode cX11_saves 24 = .ok (.getfield 64, 3) := by decide +kernel
theorem dX11_saves_27 : decode cX11_saves 27 = .ok (.aload_n 0, 1) := by decide +kernel
theorem dX11_saves_28 : decode cX11_saves 28 = .ok (.getfield 26, 3) := by decide +kernel
theorem dX11_saves_31 : decode cX11_saves 31 = .ok (.iload_n 2, 1) := by decide +kernel
theorem dX11_saves_32 : decode cX11_saves 32 = .ok (.aload_n 0, 1) := by decide +kernel
theorem dX11_saves_33 : decode cX11_saves 33 = .ok (.getfield 26, 3) := by decide +kernel
theorem dX11_saves_36 : decode cX11_saves 36 = .ok (.getfield 137, 3) := by decide +kernel
theorem dX11_saves_39 : decode cX11_saves 39 = .ok (.iload_n 1, 1) := by decide +kernel
theorem dX11_saves_40 : decode cX11_saves 40 = .ok (.invokestatic 124, 3) := by decide +kernel
theorem dX11_saves_43 : decode cX11_saves 43 = .ok (.invokevirtual 254, 3) := by decide +kernel
theorem dX11_saves_46 : decode cX11_saves 46 = .ok (.aload_n 0, 1) := by decide +kernel
theorem dX11_saves_47 : decode cX11_saves 47 = .ok (.getfield 64, 3) := by decide +kernel
theorem dX11_saves_50 : decode cX11_saves 50 = .ok (.getfield 261, 3) := by decide +kernel
theorem dX11_saves_53 : decode cX11_saves 53 = .ok (.iload_n 3, 1) := by decide +kernel
theorem dX11_saves_54 : decode cX11_saves 54 = .ok (.invokestatic 124, 3) := by decide +kernel
theorem dX11_saves_57 : decode cX11_saves 57 = .ok (.ireturn, 1) := by decide +kernel
theorem mokX11_saves : MOK yX11_saves cX11_saves 4 (some .int) 3 := ⟨w4_0, w1_1, ⟨by decide, by decide⟩, by decide +kernel, by decide⟩
abbrev miX11_saves : MI := (yX11_saves.cls, cX11_saves, 4, 6, false)
noncomputable def BX11_saves : Sm Int32 := (dSeq (dIf (dOr (dNot (dCZ q_ne (dCallV 11 DX11_areAlone (aI (aI (aR aN 0 (vR 0)) 1 (vI 1)) 2 (vI 2))))) (dNot (dCZ q_ne (dCallV 5 DX5_isHouse (aI (aR aN 0 (dGR 11 2 (vR 0))) 1 (vI 3)))))) (dRet (cI (-2))) dSkip) (dSeq (dDo (dCallV 0 DX0_search (aI (aI (aR (aR aN 0 (dGR 11 9 (vR 0))) 1 (dGR 11 2 (vR 0))) 2 (vI 2)) 3 (dCall DX11_cell (aI (aR aN 0 (dGR 5 12 (dGR 11 2 (vR 0)))) 1 (vI 1)))))) (dRet (dCall DX11_cell (aI (aR aN 0 (dGR 0 1 (dGR 11 9 (vR 0)))) 1 (vI 3))))))
theorem sBX11_saves : SS (cvoI, .ireturn) miX11_saves [] [] [] [(0, 2), (1, 0), (2, 0), (3, 0)] [(0, 2), (1, 0), (2, 0), (3, 0)] 0 [] BX11_saves := (t_sq (p1 := 23) (Γ' := [(0, 2), (1, 0), (2, 0), (3, 0)]) (t_if (pT := 20) (pF := 23) (X := [23]) (XA := []) (XB := [23]) (c_or (p1 := 9) (pT := 20) (pF := 23) (c_not (pT := 20) (pF := 9) (c_ne_ZF (pF := 20) (s_of_xI (x_callV (ts := [(0, 2), (1, 0), (2, 0)]) ck11 rfl kX11_areAlone mokX11_areAlone w3_192 ps1_6 rfl rfl rfl rfl (a_I (ts := [(0, 2), (1, 0)]) 2 (a_I (ts := [(0, 2)]) 1 (a_R (ts := []) 0 a_nil (s_aload_n dX11_saves_0 rfl rfl) rfl) (s_iload_n dX11_saves_1 rfl rfl) rfl) (s_iload_n dX11_saves_2 rfl rfl) rfl) dX11_saves_3 w3_190)) dX11_saves_6 rfl)) (c_not (pT := 20) (pF := 23) (c_ne_ZJ (pT := 23) (s_of_xI (x_callV (ts := [(0, 2), (1, 0)]) ck5 rfl kX5_isHouse mokX5_isHouse w3_8 w3_9 rfl rfl rfl rfl (a_I (ts := [(0, 2)]) 1 (a_R (ts := []) 0 a_nil (s_getR ck11 2 (by decide) rfl (s_aload_n dX11_saves_9 rfl rfl) dX11_saves_10 w2_198) rfl) (s_iload_n dX11_saves_13 rfl rfl) rfl) dX11_saves_14 w3_155)) dX11_saves_17 rfl))) (t_ret (cv := cvI) (fun _ _ => rfl) (s_bipush dX11_saves_20 rfl) dX11_saves_22) (t_skip (ld_in rfl) rfl) lda_nil (lda_cons (ld_in rfl) lda_nil)) (t_sq (p1 := 46) (Γ' := [(0, 2), (1, 0), (2, 0), (3, 0)]) (t_do (x_callV (ts := [(0, 2), (1, 2), (2, 0), (3, 0)]) ck0 rfl kX0_search mokX0_search w3_196 w3_197 rfl rfl rfl rfl (a_I (ts := [(0, 2), (1, 2), (2, 0)]) 3 (a_I (ts := [(0, 2), (1, 2)]) 2 (a_R (ts := [(0, 2)]) 1 (a_R (ts := []) 0 a_nil (s_getR ck11 9 (by decide) rfl (s_aload_n dX11_saves_23 rfl rfl) dX11_saves_24 w2_205) rfl) (s_getR ck11 2 (by decide) rfl (s_aload_n dX11_saves_27 rfl rfl) dX11_saves_28 w2_198) rfl) (s_iload_n dX11_saves_31 rfl rfl) rfl) (s_of_xI (x_call (ts := [(0, 2), (1, 0)]) kX11_cell mokX11_cell w3_26 rfl rfl rfl (a_I (ts := [(0, 2)]) 1 (a_R (ts := []) 0 a_nil (s_getR ck5 12 (by decide) rfl (s_getR ck11 2 (by decide) rfl (s_aload_n dX11_saves_32 rfl rfl) dX11_saves_33 w2_198) dX11_saves_36 w1_173) rfl) (s_iload_n dX11_saves_39 rfl rfl) rfl) dX11_saves_40 w3_194)) rfl) dX11_saves_43 w3_195) rfl) (t_ret (cv := cvI) (fun _ _ => rfl) (s_of_xI (x_call (ts := [(0, 2), (1, 0)]) kX11_cell mokX11_cell w3_26 rfl rfl rfl (a_I (ts := [(0, 2)]) 1 (a_R (ts := []) 0 a_nil (s_getR ck0 1 (by decide) rfl (s_getR ck11 9 (by decide) rfl (s_aload_n dX11_saves_46 rfl rfl) dX11_saves_47 w2_205) dX11_saves_50 w2_112) rfl) (s_iload_n dX11_saves_53 rfl rfl) rfl) dX11_saves_54 w3_194)) dX11_saves_57)))
noncomputable def DX11_saves : Fr → St → Option (Int32 × St) := M1 (fun f => (sI (sI (sI (sR fr0 0 (gR f 0)) 1 (gI f 1)) 2 (gI f 2)) 3 (gI f 3))) BX11_saves
theorem kX11_saves : SND yX11_saves cX11_saves 4 (some .int) 6 [(0, 2), (1, 0), (2, 0), (3, 0)] cvoI DX11_saves := snd_I (nw := 4) (by decide) rfl rfl (fun _ _ => rfl) sBX11_saves
theorem dX0_await_0 : decode cX0_await 0 = .ok (.aload_n 0, 1) := by decide +kernel
theorem dX0_await_1 : decode cX0_await 1 = .ok (.getfield 39, 3) := by decide +kernel
theorem dX0_await_4 : decode cX0_await 4 = .ok (.iload_n 2, 1) := by decide +kernel
theorem dX0_await_5 : decode cX0_await 5 = .ok (.invokestatic 76, 3) := by decide +kernel
theorem dX0_await_8 : decode cX0_await 8 = .ok (.istore_n 3, 1) := by decide +kernel
theorem dX0_await_9 : decode cX0_await 9 = .ok (.aload_n 0, 1) := by decide +kernel
theorem dX0_await_10 : decode cX0_await 10 = .ok (.getfield 92, 3) := by decide +kernel
theorem dX0_await_13 : decode cX0_await 13 = .ok (.sipush 3073, 3) := by decide +kernel
theorem dX0_await_16 : decode cX0_await 16 = .ok (.if_icmp .lt 4, 3) := by decide +kernel
theorem dX0_await_19 : decode cX0_await 19 = .ok (.return_, 1) := by decide +kernel
theorem dX0_await_20 : decode cX0_await 20 = .ok (.aload_n 0, 1) := by decide +kernel
theorem dX0_await_21 : decode cX0_await 21 = .ok (.getfield 45, 3) := by decide +kernel
theorem dX0_await_24 : decode cX0_await 24 = .ok (.aload_n 0, 1) := by decide +kernel
theorem dX0_await_25 : decode cX0_await 25 = .ok (.getfield 92, 3) := by decide +kernel
theorem dX0_await_28 : decode cX0_await 28 = .ok (.iload_n 1, 1) := by decide +kernel
theorem dX0_await_29 : decode cX0_await 29 = .ok (.invokestatic 80, 3) := by decide +kernel
theorem dX0_await_32 : decode cX0_await 32 = .ok (.aload_n 0, 1) := by decide +kernel
theorem dX0_await_33 : decode cX0_await 33 = .ok (.getfield 42, 3) := by decide +kernel
theorem dX0_await_36 : decode cX0_await 36 = .ok (.aload_n 0, 1) := by decide +kernel
theorem dX0_await_37 : decode cX0_await 37 = .ok (.getfield 92, 3) := by decide +kernel
theorem dX0_await_40 : decode cX0_await 40 = .ok (.iload_n 3, 1) := by decide +kernel
theorem dX0_await_41 : decode cX0_await 41 = .ok (.invokestatic 80, 3) := by decide +kernel
theorem dX0_await_44 : decode cX0_await 44 = .ok (.aload_n 0, 1) := by decide +kernel
theorem dX0_await_45 : decode cX0_await 45 = .ok (.getfield 39, 3) := by decide +kernel
theorem dX0_await_48 : decode cX0_await 48 = .ok (.iload_n 2, 1) := by decide +kernel
theorem dX0_await_49 : decode cX0_await 49 = .ok (.aload_n 0, 1) := by decide +kernel
theorem dX0_await_50 : decode cX0_await 50 = .ok (.getfield 92, 3) := by decide +kernel
theorem dX0_await_53 : decode cX0_await 53 = .ok (.invokestatic 80, 3) := by decide +kernel
theorem dX0_await_56 : decode cX0_await 56 = .ok (.aload_n 0, 1) := by decide +kernel
theorem dX0_await_57 : decode cX0_await 57 = .ok (.dup, 1) := by decide +kernel
theorem dX0_await_58 : decode cX0_await 58 = .ok (.getfield 92, 3) := by decide +kernel
theorem dX0_await_61 : decode cX0_await 61 = .ok (.iconst 1, 1) := by decide +kernel
theorem dX0_await_62 : decode cX0_await 62 = .ok (.iadd, 1) := by decide +kernel
theorem dX0_await_63 : decode cX0_await 63 = .ok (.putfield 92, 3) := by decide +kernel
theorem dX0_await_66 : decode cX0_await 66 = .ok (.return_, 1) := by decide +kernel
theorem mokX0_await : MOK yX0_await cX0_await 4 none 2 := ⟨w4_12, w1_10, ⟨by decide, by decide⟩, by decide +kernel, by decide⟩
abbrev miX0_await : MI := (yX0_await.cls, cX0_await, 4, 2, false)
noncomputable def BX0_await : Sm Unit := (dSeq (dSetI 3 (dCall DX11_cell (aI (aR aN 0 (dGR 0 10 (vR 0))) 1 (vI 2)))) (dSeq (dIf (dCI r_ge (dGI 0 13 (vR 0)) (cI 3073)) dRet0 dSkip) (dSeq (dDo (dCall DX11_put (aI (aI (aR aN 0 (dGR 0 12 (vR 0))) 1 (dGI 0 13 (vR 0))) 2 (vI 1)))) (dSeq (dDo (dCall DX11_put (aI (aI (aR aN 0 (dGR 0 11 (vR 0))) 1 (dGI 0 13 (vR 0))) 2 (vI 3)))) (dSeq (dDo (dCall DX11_put (aI (aI (aR aN 0 (dGR 0 10 (vR 0))) 1 (vI 2)) 2 (dGI 0 13 (vR 0))))) (dSeq (dUF 0 13 o_iadd (vR 0) (cI 1)) dRet0))))))
theorem sBX0_await : SS (cvoV, .return_) miX0_await [] [] [] [(0, 2), (1, 0), (2, 0)] [(0, 2), (1, 0), (2, 0)] 0 [] BX0_await := (t_sq (p1 := 9) (Γ' := [(0, 2), (1, 0), (2, 0), (3, 0)]) (t_istore_n (s_of_xI (x_callN (ts := [(0, 2), (1, 0)]) kX11_cell mokX11_cell w3_26 rfl rfl rfl (a_I (ts := [(0, 2)]) 1 (a_R (ts := []) 0 a_nil (s_getR ck0 10 (by decide) rfl (s_aload_n dX0_await_0 rfl rfl) dX0_await_1 w2_122) rfl) (s_iload_n dX0_await_4 rfl rfl) rfl) dX0_await_5 nb21)) dX0_await_8 rfl rfl rfl) (t_sq (p1 := 20) (Γ' := [(0, 2), (1, 0), (2, 0), (3, 0)]) (t_if (pT := 19) (pF := 20) (X := [20]) (XA := []) (XB := [20]) (c_ge_F (pF := 20) (s_getI ck0 13 (by decide) rfl (s_aload_n dX0_await_9 rfl rfl) dX0_await_10 w2_125) (s_sipush dX0_await_13 rfl) dX0_await_16 rfl) (t_ret0 (fun _ _ => rfl) dX0_await_19) (t_skip (ld_in rfl) rfl) lda_nil (lda_cons (ld_in rfl) lda_nil)) (t_sq (p1 := 32) (Γ' := [(0, 2), (1, 0), (2, 0), (3, 0)]) (t_do (x_callN (ts := [(0, 2), (1, 0), (2, 0)]) kX11_put mokX11_put w3_65 rfl rfl rfl (a_I (ts := [(0, 2), (1, 0)]) 2 (a_I (ts := [(0, 2)]) 1 (a_R (ts := []) 0 a_nil (s_getR ck0 12 (by decide) rfl (s_aload_n dX0_await_20 rfl rfl) dX0_await_21 w2_124) rfl) (s_getI ck0 13 (by decide) rfl (s_aload_n dX0_await_24 rfl rfl) dX0_await_25 w2_125) rfl) (s_iload_n dX0_await_28 rfl rfl) rfl) dX0_await_29 nb20) rfl) (t_sq (p1 := 44) (Γ' := [(0, 2), (1, 0), (2, 0), (3, 0)]) (t_do (x_callN (ts := [(0, 2), (1, 0), (2, 0)]) kX11_put mokX11_put w3_65 rfl rfl rfl (a_I (ts := [(0, 2), (1, 0)]) 2 (a_I (ts := [(0, 2)]) 1 (a_R (ts := []) 0 a_nil (s_getR ck0 11 (by decide) rfl (s_aload_n dX0_await_32 rfl rfl) dX0_await_33 w2_123) rfl) (s_getI ck0 13 (by decide) rfl (s_aload_n dX0_await_36 rfl rfl) dX0_await_37 w2_125) rfl) (s_iload_n dX0_await_40 rfl rfl) rfl) dX0_await_41 nb20) rfl) (t_sq (p1 := 56) (Γ' := [(0, 2), (1, 0), (2, 0), (3, 0)]) (t_do (x_callN (ts := [(0, 2), (1, 0), (2, 0)]) kX11_put mokX11_put w3_65 rfl rfl rfl (a_I (ts := [(0, 2), (1, 0)]) 2 (a_I (ts := [(0, 2)]) 1 (a_R (ts := []) 0 a_nil (s_getR ck0 10 (by decide) rfl (s_aload_n dX0_await_44 rfl rfl) dX0_await_45 w2_122) rfl) (s_iload_n dX0_await_48 rfl rfl) rfl) (s_getI ck0 13 (by decide) rfl (s_aload_n dX0_await_49 rfl rfl) dX0_await_50 w2_125) rfl) dX0_await_53 nb20) rfl) (t_sq (p1 := 66) (Γ' := [(0, 2), (1, 0), (2, 0), (3, 0)]) (t_UF ck0 13 (by decide) rfl (Or.inl rfl) (s_aload_n dX0_await_56 rfl rfl) dX0_await_57 dX0_await_58 w2_125 (s_iconst dX0_await_61 rfl) (fun _ _ _ _ => rulI fun a b K => lv_iadd a b dX0_await_62 K) dX0_await_63 w2_125 rfl) (t_ret0 (fun _ _ => rfl) dX0_await_66)))))))
noncomputable def DX0_await : Fr → St → Option (Unit × St) := M1 (fun f => (sI (sI (sR fr0 0 (gR f 0)) 1 (gI f 1)) 2 (gI f 2))) BX0_await
theorem kX0_await : SND yX0_await cX0_await 4 none 2 [(0, 2), (1, 0), (2, 0)] cvoV DX0_await := snd_V (nw := 3) (by decide) (fun z => by cases z) rfl rfl (fun _ _ => rfl) sBX0_await
theorem dX0_settle_0 : decode cX0_settle 0 = .ok (.iload_n 2, 1) := by decide +kernel
theorem dX0_settle_1 : decode cX0_settle 1 = .ok (.invokestatic 143, 3) := by decide +kernel
theorem dX0_settle_4 : decode cX0_settle 4 = .ok (.istore 4, 2) := by decide +kernel
theorem dX0_settle_6 : decode cX0_settle 6 = .ok (.iload_n 2, 1) := by decide +kernel
theorem dX0_settle_7 : decode cX0_settle 7 = .ok (.invokestatic 146, 3) := by decide +kernel
theorem dX0_settle_10 : decode cX0_settle 10 = .ok (.istore 5, 2) := by decide +kernel
theorem dX0_settle_12 : decode cX0_settle 12 = .ok (.aload_n 0, 1) := by decide +kernel
theorem dX0_settle_13 : decode cX0_settle 13 = .ok (.iload 4, 2) := by decide +kernel
theorem dX0_settle_15 : decode cX0_settle 15 = .ok (.iload 5, 2) := by decide +kernel
theorem dX0_settle_17 : decode cX0_settle 17 = .ok (.invokevirtual 140, 3) := by decide +kernel
theorem dX0_settle_20 : decode cX0_settle 20 = .ok (.ifCond .ne 4, 3) := by decide +kernel
theorem dX0_settle_23 : decode cX0_settle 23 = .ok (.return_, 1) := by decide +kernel
theorem dX0_settle_24 : decode cX0_settle 24 = .ok (.aload_n 0, 1) := by decide +kernel
theorem dX0_settle_25 : decode cX0_settle 25 = .ok (.getfield 18, 3) := by decide +kernel
theorem dX0_settle_28 : decode cX0_settle 28 = .ok (.iload 4, 2) := by decide +kernel
theorem dX0_settle_30 : decode cX0_settle 30 = .ok (.invokestatic 76, 3) := by decide +kernel
theorem dX0_settle_33 : decode cX0_settle 33 = .ok (.iconst (-1), 1) := by decide +kernel
theorem dX0_settle_34 : decode cX0_settle 34 = .ok (.if_icmp .ne 13, 3) := by decide +kernel
theorem dX0_settle_37 : decode cX0_settle 37 = .ok (.aload_n 0, 1) := by decide +kernel
theorem dX0_settle_38 : decode cX0_settle 38 = .ok (.getfield 18, 3) := by decide +kernel
theorem dX0_settle_41 : decode cX0_settle 41 = .ok (.iload 4, 2) := by decide +kernel
theorem dX0_settle_43 : decode cX0_settle 43 = .ok (.iload_n 3, 1) := by decide +kernel
theorem dX0_settle_44 : decode cX0_settle 44 = .ok (.invokestatic 80, 3) := by decide +kernel
theorem dX0_settle_47 : decode cX0_settle 47 = .ok (.aload_n 0, 1) := by decide +kernel
theorem dX0_settle_48 : decode cX0_settle 48 = .ok (.getfield 24, 3) := by decide +kernel
theorem dX0_settle_51 : decode cX0_settle 51 = .ok (.iload 5, 2) := by decide +kernel
theorem dX0_settle_53 : decode cX0_settle 53 = .ok (.invokestatic 106, 3) := by decide +kernel
theorem dX0_settle_56 : decode cX0_settle 56 = .ok (.invokestatic 76, 3) := by decide +kernel
theorem dX0_settle_59 : decode cX0_settle 59 = .ok (.istore 6, 2) := by decide +kernel
theorem dX0_settle_61 : decode cX0_settle 61 = .ok (.iconst 0, 1) := by decide +kernel
theorem dX0_settle_62 : decode cX0_settle 62 = .ok (.istore 7, 2) := by decide +kernel
theorem dX0_settle_64 : decode cX0_settle 64 = .ok (.iload 7, 2) := by decide +kernel
theorem dX0_settle_66 : decode cX0_settle 66 = .ok (.aload_n 1, 1) := by decide +kernel
theorem dX0_settle_67 : decode cX0_settle 67 = .ok (.getfield 130, 3) := by decide +kernel
theorem dX0_settle_70 : decode cX0_settle 70 = .ok (.if_icmp .ge 61, 3) := by decide +kernel
theorem dX0_settle_73 : decode cX0_settle 73 = .ok (.aload_n 0, 1) := by decide +kernel
theorem dX0_settle_74 : decode cX0_settle 74 = .ok (.getfield 30, 3) := by decide +kernel
theorem dX0_settle_77 : decode cX0_settle 77 = .ok (.iload 4, 2) := by decide +kernel
theorem dX0_settle_79 : decode cX0_settle 79 = .ok (.invokestatic 76, 3) := by decide +kernel
theorem dX0_settle_82 : decode cX0_settle 82 = .ok (.iload 7, 2) := by decide +kernel
theorem dX0_settle_84 : decode cX0_settle 84 = .ok (.invokestatic 136, 3) := by decide +kernel
theorem dX0_settle_87 : decode cX0_settle 87 = .ok (.ifCond .eq 38, 3) := by decide +kernel
theorem dX0_settle_90 : decode cX0_settle 90 = .ok (.iload_n 3, 1) := by decide +kernel
theorem dX0_settle_91 : decode cX0_settle 91 = .ok (.iload 6, 2) := by decide +kernel
theorem dX0_settle_93 : decode cX0_settle 93 = .ok (.aload_n 1, 1) := by decide +kernel
theorem dX0_settle_94 : decode cX0_settle 94 = .ok (.iload 4, 2) := by decide +kernel
theorem dX0_settle_96 : decode cX0_settle 96 = .ok (.iload 7, 2) := by decide +kernel
theorem dX0_settle_98 : decode cX0_settle 98 = .ok (.invokevirtual 149, 3) := by decide +kernel
theorem dX0_settle_101 : decode cX0_settle 101 = .ok (.iadd, 1) := by decide +kernel
theorem dX0_settle_102 : decode cX0_settle 102 = .ok (.invokestatic 111, 3) := by decide +kernel
theorem dX0_settle_105 : decode cX0_settle 105 = .ok (.istore 8, 2) := by decide +kernel
theorem dX0_settle_107 : decode cX0_settle 107 = .ok (.aload_n 0, 1) := by decide +kernel
theorem dX0_settle_108 : decode cX0_settle 108 = .ok (.iload 7, 2) := by decide +kernel
theorem dX0_settle_110 : decode cX0_settle 110 = .ok (.iload 5, 2) := by decide +kernel
theorem dX0_settle_112 : decode cX0_settle 112 = .ok (.iconst 1, 1) := by decide +kernel
theorem dX0_settle_113 : decode cX0_settle 113 = .ok (.iload 7, 2) := by decide +kernel
theorem dX0_settle_115 : decode cX0_settle 115 = .ok (.ishl, 1) := by decide +kernel
theorem dX0_settle_116 : decode cX0_settle 116 = .ok (.ior, 1) := by decide +kernel
theorem dX0_settle_117 : decode cX0_settle 117 = .ok (.iconst 3, 1) := by decide +kernel
theorem dX0_settle_118 : decode cX0_settle 118 = .ok (.ishl, 1) := by decide +kernel
theorem dX0_settle_119 : decode cX0_settle 119 = .ok (.ior, 1) := by decide +kernel
theorem dX0_settle_120 : decode cX0_settle 120 = .ok (.iload 8, 2) := by decide +kernel
theorem dX0_settle_122 : decode cX0_settle 122 = .ok (.invokevirtual 95, 3) := by decide +kernel
theorem dX0_settle_125 : decode cX0_settle 125 = .ok (.iinc 7 1, 3) := by decide +kernel
theorem dX0_settle_128 : decode cX0_settle 128 = .ok (.goto (-64), 3) := by decide +kernel
theorem dX0_settle_131 : decode cX0_settle 131 = .ok (.return_, 1) := by decide +kernel
theorem mokX0_settle : MOK yX0_settle cX0_settle 9 none 3 := ⟨w4_16, w1_10, ⟨by decide, by decide⟩, by decide +kernel, by decide⟩
abbrev miX0_settle : MI := (yX0_settle.cls, cX0_settle, 9, 3, false)
noncomputable def LX0_settle_1 : Sm Unit := dLoop (fun f => (sI (sI (sI (sI (sI (sI (sR (sR fr0 0 (gR f 0)) 1 (gR f 1)) 2 (gI f 2)) 3 (gI f 3)) 4 (gI f 4)) 5 (gI f 5)) 6 (gI f 6)) 7 (gI f 7))) (dCI r_lt (vI 7) (dGI 5 4 (vR 1))) (dIf (dCZ q_ne (dCall DX11_hasBit (aI (aI aN 0 (dCall DX11_cell (aI (aR aN 0 (dGR 0 6 (vR 0))) 1 (vI 4)))) 1 (vI 7)))) (dSeq (dSetI 8 (d2 o_imax (vI 3) (d2 o_iadd (vI 6) (dCallV 5 DX5_climbTo (aI (aI (aR aN 0 (vR 1)) 1 (vI 4)) 2 (vI 7)))))) (dDo (dCallV 0 DX0_await (aI (aI (aR aN 0 (vR 0)) 1 (d2 o_ior (vI 7) (d2 o_ishl (d2 o_ior (vI 5) (d2 o_ishl (cI 1) (vI 7))) (cI 3)))) 2 (vI 8))))) dSkip) (dInc 7 1)
theorem sLX0_settle_1 {ΓL : Gm} {PB PK : List Nat} : SS (cvoV, .return_) miX0_settle ΓL PB PK [(0, 2), (1, 2), (2, 0), (3, 0), (4, 0), (5, 0), (6, 0), (7, 0)] [(0, 2), (1, 2), (2, 0), (3, 0), (4, 0), (5, 0), (6, 0), (7, 0)] 64 [131] LX0_settle_1 := t_loop (pT := 73) (pF := 131) (pu := 125) (PB' := []) (PK' := []) (XB := [125]) (XU := [128]) (fun _ _ => rfl) rfl (c_lt_F (pF := 131) (s_iload dX0_settle_64 rfl) (s_getI ck5 4 (by decide) rfl (s_aload_n dX0_settle_66 rfl rfl) dX0_settle_67 w1_148) dX0_settle_70 rfl) (t_if (pT := 90) (pF := 125) (X := [125]) (XA := [125]) (XB := [125]) (c_ne_ZF (pF := 125) (s_of_xI (x_callN (ts := [(0, 0), (1, 0)]) kX11_hasBit mokX11_hasBit w3_16 rfl rfl rfl (a_I (ts := [(0, 0)]) 1 (a_I (ts := []) 0 a_nil (s_of_xI (x_callN (ts := [(0, 2), (1, 0)]) kX11_cell mokX11_cell w3_26 rfl rfl rfl (a_I (ts := [(0, 2)]) 1 (a_R (ts := []) 0 a_nil (s_getR ck0 6 (by decide) rfl (s_aload_n dX0_settle_73 rfl rfl) dX0_settle_74 w2_118) rfl) (s_iload dX0_settle_77 rfl) rfl) dX0_settle_79 nb21)) rfl) (s_iload dX0_settle_82 rfl) rfl) dX0_settle_84 nb22)) dX0_settle_87 rfl) (t_sq (p1 := 107) (Γ' := [(0, 2), (1, 2), (2, 0), (3, 0), (4, 0), (5, 0), (6, 0), (7, 0), (8, 0)]) (t_istore (s_mmax (s_iload_n dX0_settle_90 rfl rfl) (s_iadd (s_iload dX0_settle_91 rfl) (s_of_xI (x_callV (ts := [(0, 2), (1, 0), (2, 0)]) ck5 rfl kX5_climbTo mokX5_climbTo w3_107 w3_108 rfl rfl rfl rfl (a_I (ts := [(0, 2), (1, 0)]) 2 (a_I (ts := [(0, 2)]) 1 (a_R (ts := []) 0 a_nil (s_aload_n dX0_settle_93 rfl rfl) rfl) (s_iload dX0_settle_94 rfl) rfl) (s_iload dX0_settle_96 rfl) rfl) dX0_settle_98 w3_236)) dX0_settle_101) rfl rfl dX0_settle_102 w3_225) dX0_settle_105 rfl rfl) (t_do (x_callV (ts := [(0, 2), (1, 0), (2, 0)]) ck0 rfl kX0_await mokX0_await w4_11 ps1_11 rfl rfl rfl rfl (a_I (ts := [(0, 2), (1, 0)]) 2 (a_I (ts := [(0, 2)]) 1 (a_R (ts := []) 0 a_nil (s_aload_n dX0_settle_107 rfl rfl) rfl) (s_ior (s_iload dX0_settle_108 rfl) (s_ishl (s_ior (s_iload dX0_settle_110 rfl) (s_ishl (s_iconst dX0_settle_112 rfl) (s_iload dX0_settle_113 rfl) dX0_settle_115) dX0_settle_116) (s_iconst dX0_settle_117 rfl) dX0_settle_118) dX0_settle_119) rfl) (s_iload dX0_settle_120 rfl) rfl) dX0_settle_122 w4_9) rfl)) (t_skip (ld_in rfl) rfl) (lda_cons (ld_in rfl) lda_nil) (lda_cons (ld_in rfl) lda_nil)) (t_iinc dX0_settle_125 rfl rfl rfl rfl) (lda_cons (ld_in rfl) lda_nil) lda_nil (lda_cons (ld_goto (y := 64) dX0_settle_128 rfl (ld_in rfl)) lda_nil) (ld_in rfl) lda_nil
noncomputable def BX0_settle : Sm Unit := (dSeq (dSetI 4 (dCall DX0_houseOf (aI aN 0 (vI 2)))) (dSeq (dSetI 5 (dCall DX0_setOf (aI aN 0 (vI 2)))) (dSeq (dIf (dNot (dCZ q_ne (dCallV 0 DX0_markSeen (aI (aI (aR aN 0 (vR 0)) 1 (vI 4)) 2 (vI 5))))) dRet0 dSkip) (dSeq (dIf (dCI r_eq (dCall DX11_cell (aI (aR aN 0 (dGR 0 2 (vR 0))) 1 (vI 4))) (cI (-1))) (dDo (dCall DX11_put (aI (aI (aR aN 0 (dGR 0 2 (vR 0))) 1 (vI 4)) 2 (vI 3)))) dSkip) (dSeq (dSetI 6 (dCall DX11_cell (aI (aR aN 0 (dGR 0 4 (vR 0))) 1 (dCall DJ6_bitCount_0f7a4 (aI aN 0 (vI 5)))))) (dSeq (dSeq (dSetI 7 (cI 0)) LX0_settle_1) dRet0))))))
theorem sBX0_settle : SS (cvoV, .return_) miX0_settle [] [] [] [(0, 2), (1, 2), (2, 0), (3, 0)] [(0, 2), (1, 2), (2, 0), (3, 0)] 0 [] BX0_settle := (t_sq (p1 := 6) (Γ' := [(0, 2), (1, 2), (2, 0), (3, 0), (4, 0)]) (t_istore (s_of_xI (x_call (ts := [(0, 0)]) kX0_houseOf mokX0_houseOf w3_231 rfl rfl rfl (a_I (ts := []) 0 a_nil (s_iload_n dX0_settle_0 rfl rfl) rfl) dX0_settle_1 w3_230)) dX0_settle_4 rfl rfl) (t_sq (p1 := 12) (Γ' := [(0, 2), (1, 2), (2, 0), (3, 0), (4, 0), (5, 0)]) (t_istore (s_of_xI (x_call (ts := [(0, 0)]) kX0_setOf mokX0_setOf w3_234 rfl rfl rfl (a_I (ts := []) 0 a_nil (s_iload_n dX0_settle_6 rfl rfl) rfl) dX0_settle_7 w3_233)) dX0_settle_10 rfl rfl) (t_sq (p1 := 24) (Γ' := [(0, 2), (1, 2), (2, 0), (3, 0), (4, 0), (5, 0)]) (t_if (pT := 23) (pF := 24) (X := [24]) (XA := []) (XB := [24]) (c_not (pT := 23) (pF := 24) (c_ne_ZJ (pT := 24) (s_of_xI (x_callV (ts := [(0, 2), (1, 0), (2, 0)]) ck0 rfl kX0_markSeen mokX0_markSeen w3_222 ps1_9 rfl rfl rfl rfl (a_I (ts := [(0, 2), (1, 0)]) 2 (a_I (ts := [(0, 2)]) 1 (a_R (ts := []) 0 a_nil (s_aload_n dX0_settle_12 rfl rfl) rfl) (s_iload dX0_settle_13 rfl) rfl) (s_iload dX0_settle_15 rfl) rfl) dX0_settle_17 w3_220)) dX0_settle_20 rfl)) (t_ret0 (fun _ _ => rfl) dX0_settle_23) (t_skip (ld_in rfl) rfl) lda_nil (lda_cons (ld_in rfl) lda_nil)) (t_sq (p1 := 47) (Γ' := [(0, 2), (1, 2), (2, 0), (3, 0), (4, 0), (5, 0)]) (t_if (pT := 37) (pF := 47) (X := [47]) (XA := [47]) (XB := [47]) (c_eq_F (pF := 47) (s_of_xI (x_callN (ts := [(0, 2), (1, 0)]) kX11_cell mokX11_cell w3_26 rfl rfl rfl (a_I (ts := [(0, 2)]) 1 (a_R (ts := []) 0 a_nil (s_getR ck0 2 (by decide) rfl (s_aload_n dX0_settle_24 rfl rfl) dX0_settle_25 w2_113) rfl) (s_iload dX0_settle_28 rfl) rfl) dX0_settle_30 nb21)) (s_iconst dX0_settle_33 rfl) dX0_settle_34 rfl) (t_do (x_callN (ts := [(0, 2), (1, 0), (2, 0)]) kX11_put mokX11_put w3_65 rfl rfl rfl (a_I (ts := [(0, 2), (1, 0)]) 2 (a_I (ts := [(0, 2)]) 1 (a_R (ts := []) 0 a_nil (s_getR ck0 2 (by decide) rfl (s_aload_n dX0_settle_37 rfl rfl) dX0_settle_38 w2_113) rfl) (s_iload dX0_settle_41 rfl) rfl) (s_iload_n dX0_settle_43 rfl rfl) rfl) dX0_settle_44 nb20) rfl) (t_skip (ld_in rfl) rfl) (lda_cons (ld_in rfl) lda_nil) (lda_cons (ld_in rfl) lda_nil)) (t_sq (p1 := 61) (Γ' := [(0, 2), (1, 2), (2, 0), (3, 0), (4, 0), (5, 0), (6, 0)]) (t_istore (s_of_xI (x_callN (ts := [(0, 2), (1, 0)]) kX11_cell mokX11_cell w3_26 rfl rfl rfl (a_I (ts := [(0, 2)]) 1 (a_R (ts := []) 0 a_nil (s_getR ck0 4 (by decide) rfl (s_aload_n dX0_settle_47 rfl rfl) dX0_settle_48 w2_116) rfl) (s_of_xI (x_call (ts := [(0, 0)]) kJ6_bitCount_0f7a4 mokJ6_bitCount_0f7a4 w3_208 rfl rfl rfl (a_I (ts := []) 0 a_nil (s_iload dX0_settle_51 rfl) rfl) dX0_settle_53 w3_207)) rfl) dX0_settle_56 nb21)) dX0_settle_59 rfl rfl) (t_sq (p1 := 131) (Γ' := [(0, 2), (1, 2), (2, 0), (3, 0), (4, 0), (5, 0), (6, 0)]) (t_sq (p1 := 64) (Γ' := [(0, 2), (1, 2), (2, 0), (3, 0), (4, 0), (5, 0), (6, 0), (7, 0)]) (t_istore (s_iconst dX0_settle_61 rfl) dX0_settle_62 rfl rfl) (tn_to (Γ' := [(0, 2), (1, 2), (2, 0), (3, 0), (4, 0), (5, 0), (6, 0), (7, 0)]) (XA := [131]) sLX0_settle_1 (lda_cons (ld_in rfl) lda_nil) rfl)) (t_ret0 (fun _ _ => rfl) dX0_settle_131)))))))
noncomputable def DX0_settle : Fr → St → Option (Unit × St) := M1 (fun f => (sI (sI (sR (sR fr0 0 (gR f 0)) 1 (gR f 1)) 2 (gI f 2)) 3 (gI f 3))) BX0_settle
theorem kX0_settle : SND yX0_settle cX0_settle 9 none 3 [(0, 2), (1, 2), (2, 0), (3, 0)] cvoV DX0_settle := snd_V (nw := 4) (by decide) (fun z => by cases z) rfl rfl (fun _ _ => rfl) sBX0_settle
theorem dX0_findNeeds_0 : decode cX0_findNeeds 0 = .ok (.aload_n 0, 1) := by decide +kernel
theorem dX0_findNeeds_1 : decode cX0_findNeeds 1 = .ok (.getfield 55, 3) := by decide +kernel
theorem dX0_findNeeds_4 : decode cX0_findNeeds 4 = .ok (.iload_n 2, 1) := by decide +kernel
theorem dX0_findNeeds_5 : decode cX0_findNeeds 5 = .ok (.if_icmp .ne 4, 3) := by decide +kernel
theorem dX0_findNeeds_8 : decode cX0_findNeeds 8 = .ok (.return_, 1) := by decide +kernel
theorem dX0_findNeeds_9 : decode cX0_findNeeds 9 = .ok (.aload_n 0, 1) := by decide +kernel
theorem dX0_findNeeds_10 : decode cX0_findNeeds 10 = .ok (.iload_n 2, 1) := by decide +kernel
theorem dX0_findNeeds_11 : decode cX0_findNeeds 11 = .ok (.putfield 55, 3) := by decide +kernel
theorem dX0_findNeeds_14 : decode cX0_findNeeds 14 = .ok (.aload_n 0, 1) := by decide +kernel
theorem dX0_findNeeds_15 : decode cX0_findNeeds 15 = .ok (.aload_n 1, 1) := by decide +kernel
theorem dX0_findNeeds_16 : decode cX0_findNeeds 16 = .ok (.iload_n 2, 1) := by decide +kernel
theorem dX0_findNeeds_17 : decode cX0_findNeeds 17 = .ok (.invokevirtual 58, 3) := by decide +kernel
theorem dX0_findNeeds_20 : decode cX0_findNeeds 20 = .ok (.aload_n 0, 1) := by decide +kernel
theorem dX0_findNeeds_21 : decode cX0_findNeeds 21 = .ok (.getfield 18, 3) := by decide +kernel
theorem dX0_findNeeds_24 : decode cX0_findNeeds 24 = .ok (.iconst (-1), 1) := by decide +kernel
theorem dX0_findNeeds_25 : decode cX0_findNeeds 25 = .ok (.invokestatic 62, 3) := by decide +kernel
theorem dX0_findNeeds_28 : decode cX0_findNeeds 28 = .ok (.aload_n 0, 1) := by decide +kernel
theorem dX0_findNeeds_29 : decode cX0_findNeeds 29 = .ok (.getfield 39, 3) := by decide +kernel
theorem dX0_findNeeds_32 : decode cX0_findNeeds 32 = .ok (.iconst (-1), 1) := by decide +kernel
theorem dX0_findNeeds_33 : decode cX0_findNeeds 33 = .ok (.invokestatic 62, 3) := by decide +kernel
theorem dX0_findNeeds_36 : decode cX0_findNeeds 36 = .ok (.aload_n 0, 1) := by decide +kernel
theorem dX0_findNeeds_37 : decode cX0_findNeeds 37 = .ok (.iconst 0, 1) := by decide +kernel
theorem dX0_findNeeds_38 : decode cX0_findNeeds 38 = .ok (.putfield 92, 3) := by decide +kernel
theorem dX0_findNeeds_41 : decode cX0_findNeeds 41 = .ok (.aload_n 1, 1) := by decide +kernel
theorem dX0_findNeeds_42 : decode cX0_findNeeds 42 = .ok (.getfield 71, 3) := by decide +kernel
theorem dX0_findNeeds_45 : decode cX0_findNeeds 45 = .ok (.iload_n 2, 1) := by decide +kernel
theorem dX0_findNeeds_46 : decode cX0_findNeeds 46 = .ok (.invokestatic 76, 3) := by decide +kernel
theorem dX0_findNeeds_49 : decode cX0_findNeeds 49 = .ok (.istore_n 3, 1) := by decide +kernel
theorem dX0_findNeeds_50 : decode cX0_findNeeds 50 = .ok (.aload_n 0, 1) := by decide +kernel
theorem dX0_findNeeds_51 : decode cX0_findNeeds 51 = .ok (.iload_n 3, 1) := by decide +kernel
theorem dX0_findNeeds_52 : decode cX0_findNeeds 52 = .ok (.iconst 1, 1) := by decide +kernel
theorem dX0_findNeeds_53 : decode cX0_findNeeds 53 = .ok (.iload_n 3, 1) := by decide +kernel
theorem dX0_findNeeds_54 : decode cX0_findNeeds 54 = .ok (.ishl, 1) := by decide +kernel
theorem dX0_findNeeds_55 : decode cX0_findNeeds 55 = .ok (.iconst 3, 1) := by decide +kernel
theorem dX0_findNeeds_56 : decode cX0_findNeeds 56 = .ok (.ishl, 1) := by decide +kernel
theorem dX0_findNeeds_57 : decode cX0_findNeeds 57 = .ok (.ior, 1) := by decide +kernel
theorem dX0_findNeeds_58 : decode cX0_findNeeds 58 = .ok (.iconst 0, 1) := by decide +kernel
theorem dX0_findNeeds_59 : decode cX0_findNeeds 59 = .ok (.invokevirtual 95, 3) := by decide +kernel
theorem dX0_findNeeds_62 : decode cX0_findNeeds 62 = .ok (.iconst 0, 1) := by decide +kernel
theorem dX0_findNeeds_63 : decode cX0_findNeeds 63 = .ok (.istore 4, 2) := by decide +kernel
theorem dX0_findNeeds_65 : decode cX0_findNeeds 65 = .ok (.iload 4, 2) := by decide +kernel
theorem dX0_findNeeds_67 : decode cX0_findNeeds 67 = .ok (.sipush 201, 3) := by decide +kernel
theorem dX0_findNeeds_70 : decode cX0_findNeeds 70 = .ok (.if_icmp .ge 84, 3) := by decide +kernel
theorem dX0_findNeeds_73 : decode cX0_findNeeds 73 = .ok (.iconst 0, 1) := by decide +kernel
theorem dX0_findNeeds_74 : decode cX0_findNeeds 74 = .ok (.istore 5, 2) := by decide +kernel
theorem dX0_findNeeds_76 : decode cX0_findNeeds 76 = .ok (.iload 5, 2) := by decide +kernel
theorem dX0_findNeeds_78 : decode cX0_findNeeds 78 = .ok (.sipush 3073, 3) := by decide +kernel
theorem dX0_findNeeds_81 : decode cX0_findNeeds 81 = .ok (.if_icmp .ge 67, 3) := by decide +kernel
theorem dX0_findNeeds_84 : decode cX0_findNeeds 84 = .ok (.aload_n 0, 1) := by decide +kernel
theorem dX0_findNeeds_85 : decode cX0_findNeeds 85 = .ok (.getfield 39, 3) := by decide +kernel
theorem dX0_findNeeds_88 : decode cX0_findNeeds 88 = .ok (.iload 4, 2) := by decide +kernel
theorem dX0_findNeeds_90 : decode cX0_findNeeds 90 = .ok (.invokestatic 76, 3) := by decide +kernel
theorem dX0_findNeeds_93 : decode cX0_findNeeds 93 = .ok (.iconst (-1), 1) := by decide +kernel
theorem dX0_findNeeds_94 : decode cX0_findNeeds 94 = .ok (.if_icmp .eq 54, 3) := by decide +kernel
theorem dX0_findNeeds_97 : decode cX0_findNeeds 97 = .ok (.aload_n 0, 1) := by decide +kernel
theorem dX0_findNeeds_98 : decode cX0_findNeeds 98 = .ok (.getfield 39, 3) := by decide +kernel
theorem dX0_findNeeds_101 : decode cX0_findNeeds 101 = .ok (.iload 4, 2) := by decide +kernel
theorem dX0_findNeeds_103 : decode cX0_findNeeds 103 = .ok (.invokestatic 76, 3) := by decide +kernel
theorem dX0_findNeeds_106 : decode cX0_findNeeds 106 = .ok (.istore 6, 2) := by decide +kernel
theorem dX0_findNeeds_108 : decode cX0_findNeeds 108 = .ok (.aload_n 0, 1) := by decide +kernel
theorem dX0_findNeeds_109 : decode cX0_findNeeds 109 = .ok (.getfield 39, 3) := by decide +kernel
theorem dX0_findNeeds_112 : decode cX0_findNeeds 112 = .ok (.iload 4, 2) := by decide +kernel
theorem dX0_findNeeds_114 : decode cX0_findNeeds 114 = .ok (.aload_n 0, 1) := by decide +kernel
theorem dX0_findNeeds_115 : decode cX0_findNeeds 115 = .ok (.getfield 42, 3) := by decide +kernel
theorem dX0_findNeeds_118 : decode cX0_findNeeds 118 = .ok (.iload 6, 2) := by decide +kernel
theorem dX0_findNeeds_120 : decode cX0_findNeeds 120 = .ok (.invokestatic 76, 3) := by decide +kernel
theorem dX0_findNeeds_123 : decode cX0_findNeeds 123 = .ok (.invokestatic 80, 3) := by decide +kernel
theorem dX0_findNeeds_126 : decode cX0_findNeeds 126 = .ok (.aload_n 0, 1) := by decide +kernel
theorem dX0_findNeeds_127 : decode cX0_findNeeds 127 = .ok (.aload_n 1, 1) := by decide +kernel
theorem dX0_findNeeds_128 : decode cX0_findNeeds 128 = .ok (.aload_n 0, 1) := by decide +kernel
theorem dX0_findNeeds_129 : decode cX0_findNeeds 129 = .ok (.getfield 45, 3) := by decide +kernel
theorem dX0_findNeeds_132 : decode cX0_findNeeds 132 = .ok (.iload 6, 2) := by decide +kernel
theorem dX0_findNeeds_134 : decode cX0_findNeeds 134 = .ok (.invokestatic 76, 3) := by decide +kernel
theorem dX0_findNeeds_137 : decode cX0_findNeeds 137 = .ok (.iload 4, 2) := by decide +kernel
theorem dX0_findNeeds_139 : decode cX0_findNeeds 139 = .ok (.invokevirtual 99, 3) := by decide +kernel
theorem dX0_findNeeds_142 : decode cX0_findNeeds 142 = .ok (.iinc 5 1, 3) := by decide +kernel
theorem dX0_findNeeds_145 : decode cX0_findNeeds 145 = .ok (.goto (-69), 3) := by decide +kernel
theorem dX0_findNeeds_148 : decode cX0_findNeeds 148 = .ok (.iinc 4 1, 3) := by decide +kernel
theorem dX0_findNeeds_151 : decode cX0_findNeeds 151 = .ok (.goto (-86), 3) := by decide +kernel
theorem dX0_findNeeds_154 : decode cX0_findNeeds 154 = .ok (.return_, 1) := by decide +kernel
theorem mokX0_findNeeds : MOK yX0_findNeeds cX0_findNeeds 7 none 2 := ⟨w4_8, w1_10, ⟨by decide, by decide⟩, by decide +kernel, by decide⟩
abbrev miX0_findNeeds : MI := (yX0_findNeeds.cls, cX0_findNeeds, 7, 5, false)
noncomputable def LX0_findNeeds_1 : Sm Unit := dLoop (fun f => (sI (sI (sI (sI (sR (sR fr0 0 (gR f 0)) 1 (gR f 1)) 2 (gI f 2)) 3 (gI f 3)) 4 (gI f 4)) 5 (gI f 5))) (dAnd (dCI r_lt (vI 5) (cI 3073)) (dCI r_ne (dCall DX11_cell (aI (aR aN 0 (dGR 0 10 (vR 0))) 1 (vI 4))) (cI (-1)))) (dSeq (dSetI 6 (dCall DX11_cell (aI (aR aN 0 (dGR 0 10 (vR 0))) 1 (vI 4)))) (dSeq (dDo (dCall DX11_put (aI (aI (aR aN 0 (dGR 0 10 (vR 0))) 1 (vI 4)) 2 (dCall DX11_cell (aI (aR aN 0 (dGR 0 11 (vR 0))) 1 (vI 6)))))) (dDo (dCallV 0 DX0_settle (aI (aI (aR (aR aN 0 (vR 0)) 1 (vR 1)) 2 (dCall DX11_cell (aI (aR aN 0 (dGR 0 12 (vR 0))) 1 (vI 6)))) 3 (vI 4)))))) (dInc 5 1)
theorem sLX0_findNeeds_1 {ΓL : Gm} {PB PK : List Nat} : SS (cvoV, .return_) miX0_findNeeds ΓL PB PK [(0, 2), (1, 2), (2, 0), (3, 0), (4, 0), (5, 0)] [(0, 2), (1, 2), (2, 0), (3, 0), (4, 0), (5, 0)] 76 [148] LX0_findNeeds_1 := t_loop (pT := 97) (pF := 148) (pu := 142) (PB' := []) (PK' := []) (XB := [142]) (XU := [145]) (fun _ _ => rfl) rfl (c_and (p1 := 84) (pT := 97) (pF := 148) (c_lt_F (pF := 148) (s_iload dX0_findNeeds_76 rfl) (s_sipush dX0_findNeeds_78 rfl) dX0_findNeeds_81 rfl) (c_ne_F (pF := 148) (s_of_xI (x_callN (ts := [(0, 2), (1, 0)]) kX11_cell mokX11_cell w3_26 rfl rfl rfl (a_I (ts := [(0, 2)]) 1 (a_R (ts := []) 0 a_nil (s_getR ck0 10 (by decide) rfl (s_aload_n dX0_findNeeds_84 rfl rfl) dX0_findNeeds_85 w2_122) rfl) (s_iload dX0_findNeeds_88 rfl) rfl) dX0_findNeeds_90 nb21)) (s_iconst dX0_findNeeds_93 rfl) dX0_findNeeds_94 rfl)) (t_sq (p1 := 108) (Γ' := [(0, 2), (1, 2), (2, 0), (3, 0), (4, 0), (5, 0), (6, 0)]) (t_istore (s_of_xI (x_callN (ts := [(0, 2), (1, 0)]) kX11_cell mokX11_cell w3_26 rfl rfl rfl (a_I (ts := [(0, 2)]) 1 (a_R (ts := []) 0 a_nil (s_getR ck0 10 (by decide) rfl (s_aload_n dX0_findNeeds_97 rfl rfl) dX0_findNeeds_98 w2_122) rfl) (s_iload dX0_findNeeds_101 rfl) rfl) dX0_findNeeds_103 nb21)) dX0_findNeeds_106 rfl rfl) (t_sq (p1 := 126) (Γ' := [(0, 2), (1, 2), (2, 0), (3, 0), (4, 0), (5, 0), (6, 0)]) (t_do (x_callN (ts := [(0, 2), (1, 0), (2, 0)]) kX11_put mokX11_put w3_65 rfl rfl rfl (a_I (ts := [(0, 2), (1, 0)]) 2 (a_I (ts := [(0, 2)]) 1 (a_R (ts := []) 0 a_nil (s_getR ck0 10 (by decide) rfl (s_aload_n dX0_findNeeds_108 rfl rfl) dX0_findNeeds_109 w2_122) rfl) (s_iload dX0_findNeeds_112 rfl) rfl) (s_of_xI (x_callN (ts := [(0, 2), (1, 0)]) kX11_cell mokX11_cell w3_26 rfl rfl rfl (a_I (ts := [(0, 2)]) 1 (a_R (ts := []) 0 a_nil (s_getR ck0 11 (by decide) rfl (s_aload_n dX0_findNeeds_114 rfl rfl) dX0_findNeeds_115 w2_123) rfl) (s_iload dX0_findNeeds_118 rfl) rfl) dX0_findNeeds_120 nb21)) rfl) dX0_findNeeds_123 nb20) rfl) (t_do (x_callV (ts := [(0, 2), (1, 2), (2, 0), (3, 0)]) ck0 rfl kX0_settle mokX0_settle w4_15 ps1_12 rfl rfl rfl rfl (a_I (ts := [(0, 2), (1, 2), (2, 0)]) 3 (a_I (ts := [(0, 2), (1, 2)]) 2 (a_R (ts := [(0, 2)]) 1 (a_R (ts := []) 0 a_nil (s_aload_n dX0_findNeeds_126 rfl rfl) rfl) (s_aload_n dX0_findNeeds_127 rfl rfl) rfl) (s_of_xI (x_callN (ts := [(0, 2), (1, 0)]) kX11_cell mokX11_cell w3_26 rfl rfl rfl (a_I (ts := [(0, 2)]) 1 (a_R (ts := []) 0 a_nil (s_getR ck0 12 (by decide) rfl (s_aload_n dX0_findNeeds_128 rfl rfl) dX0_findNeeds_129 w2_124) rfl) (s_iload dX0_findNeeds_132 rfl) rfl) dX0_findNeeds_134 nb21)) rfl) (s_iload dX0_findNeeds_137 rfl) rfl) dX0_findNeeds_139 w4_13) rfl))) (t_iinc dX0_findNeeds_142 rfl rfl rfl rfl) (lda_cons (ld_in rfl) lda_nil) lda_nil (lda_cons (ld_goto (y := 76) dX0_findNeeds_145 rfl (ld_in rfl)) lda_nil) (ld_in rfl) lda_nil
noncomputable def LX0_findNeeds_2 : Sm Unit := dLoop (fun f => (sI (sI (sI (sR (sR fr0 0 (gR f 0)) 1 (gR f 1)) 2 (gI f 2)) 3 (gI f 3)) 4 (gI f 4))) (dCI r_lt (vI 4) (cI 201)) (dSeq (dSetI 5 (cI 0)) LX0_findNeeds_1) (dInc 4 1)
theorem sLX0_findNeeds_2 {ΓL : Gm} {PB PK : List Nat} : SS (cvoV, .return_) miX0_findNeeds ΓL PB PK [(0, 2), (1, 2), (2, 0), (3, 0), (4, 0)] [(0, 2), (1, 2), (2, 0), (3, 0), (4, 0)] 65 [154] LX0_findNeeds_2 := t_loop (pT := 73) (pF := 154) (pu := 148) (PB' := []) (PK' := []) (XB := [148]) (XU := [151]) (fun _ _ => rfl) rfl (c_lt_F (pF := 154) (s_iload dX0_findNeeds_65 rfl) (s_sipush dX0_findNeeds_67 rfl) dX0_findNeeds_70 rfl) (t_sq (p1 := 76) (Γ' := [(0, 2), (1, 2), (2, 0), (3, 0), (4, 0), (5, 0)]) (t_istore (s_iconst dX0_findNeeds_73 rfl) dX0_findNeeds_74 rfl rfl) (tn_to (Γ' := [(0, 2), (1, 2), (2, 0), (3, 0), (4, 0), (5, 0)]) (XA := [148]) sLX0_findNeeds_1 (lda_cons (ld_in rfl) lda_nil) rfl)) (t_iinc dX0_findNeeds_148 rfl rfl rfl rfl) (lda_cons (ld_in rfl) lda_nil) lda_nil (lda_cons (ld_goto (y := 65) dX0_findNeeds_151 rfl (ld_in rfl)) lda_nil) (ld_in rfl) lda_nil
noncomputable def BX0_findNeeds : Sm Unit := (dSeq (dIf (dCI r_eq (dGI 0 16 (vR 0)) (vI 2)) dRet0 dSkip) (dSeq (dP (fI 0 16) (vR 0) (vI 2)) (dSeq (dDo (dCallV 0 DX0_prepare (aI (aR (aR aN 0 (vR 0)) 1 (vR 1)) 2 (vI 2)))) (dSeq (dDo (dCall DJ7_fill_53178 (aI (aR aN 0 (dGR 0 2 (vR 0))) 1 (cI (-1))))) (dSeq (dDo (dCall DJ7_fill_53178 (aI (aR aN 0 (dGR 0 10 (vR 0))) 1 (cI (-1))))) (dSeq (dP (fI 0 13) (vR 0) (cI 0)) (dSeq (dSetI 3 (dCall DX11_cell (aI (aR aN 0 (dGR 5 13 (vR 1))) 1 (vI 2)))) (dSeq (dDo (dCallV 0 DX0_await (aI (aI (aR aN 0 (vR 0)) 1 (d2 o_ior (vI 3) (d2 o_ishl (d2 o_ishl (cI 1) (vI 3)) (cI 3)))) 2 (cI 0)))) (dSeq (dSeq (dSetI 4 (cI 0)) LX0_findNeeds_2) dRet0)))))))))
theorem sBX0_findNeeds : SS (cvoV, .return_) miX0_findNeeds [] [] [] [(0, 2), (1, 2), (2, 0)] [(0, 2), (1, 2), (2, 0)] 0 [] BX0_findNeeds := (t_sq (p1 := 9) (Γ' := [(0, 2), (1, 2), (2, 0)]) (t_if (pT := 8) (pF := 9) (X := [9]) (XA := []) (XB := [9]) (c_eq_F (pF := 9) (s_getI ck0 16 (by decide) rfl (s_aload_n dX0_findNeeds_0 rfl rfl) dX0_findNeeds_1 w2_128) (s_iload_n dX0_findNeeds_4 rfl rfl) dX0_findNeeds_5 rfl) (t_ret0 (fun _ _ => rfl) dX0_findNeeds_8) (t_skip (ld_in rfl) rfl) lda_nil (lda_cons (ld_in rfl) lda_nil)) (t_sq (p1 := 14) (Γ' := [(0, 2), (1, 2), (2, 0)]) (t_pI ck0 16 (by decide) rfl (Or.inl rfl) (s_aload_n dX0_findNeeds_9 rfl rfl) (s_iload_n dX0_findNeeds_10 rfl rfl) dX0_findNeeds_11 w2_128 rfl) (t_sq (p1 := 20) (Γ' := [(0, 2), (1, 2), (2, 0)]) (t_do (x_callV (ts := [(0, 2), (1, 2), (2, 0)]) ck0 rfl kX0_prepare mokX0_prepare w3_201 ps1_7 rfl rfl rfl rfl (a_I (ts := [(0, 2), (1, 2)]) 2 (a_R (ts := [(0, 2)]) 1 (a_R (ts := []) 0 a_nil (s_aload_n dX0_findNeeds_14 rfl rfl) rfl) (s_aload_n dX0_findNeeds_15 rfl rfl) rfl) (s_iload_n dX0_findNeeds_16 rfl rfl) rfl) dX0_findNeeds_17 w3_199) rfl) (t_sq (p1 := 28) (Γ' := [(0, 2), (1, 2), (2, 0)]) (t_do (x_call (ts := [(0, 2), (1, 0)]) kJ7_fill_53178 mokJ7_fill_53178 w3_61 rfl rfl rfl (a_I (ts := [(0, 2)]) 1 (a_R (ts := []) 0 a_nil (s_getR ck0 2 (by decide) rfl (s_aload_n dX0_findNeeds_20 rfl rfl) dX0_findNeeds_21 w2_113) rfl) (s_iconst dX0_findNeeds_24 rfl) rfl) dX0_findNeeds_25 w3_203) rfl) (t_sq (p1 := 36) (Γ' := [(0, 2), (1, 2), (2, 0)]) (t_do (x_call (ts := [(0, 2), (1, 0)]) kJ7_fill_53178 mokJ7_fill_53178 w3_61 rfl rfl rfl (a_I (ts := [(0, 2)]) 1 (a_R (ts := []) 0 a_nil (s_getR ck0 10 (by decide) rfl (s_aload_n dX0_findNeeds_28 rfl rfl) dX0_findNeeds_29 w2_122) rfl) (s_iconst dX0_findNeeds_32 rfl) rfl) dX0_findNeeds_33 w3_203) rfl) (t_sq (p1 := 41) (Γ' := [(0, 2), (1, 2), (2, 0)]) (t_pI ck0 13 (by decide) rfl (Or.inl rfl) (s_aload_n dX0_findNeeds_36 rfl rfl) (s_iconst dX0_findNeeds_37 rfl) dX0_findNeeds_38 w2_125 rfl) (t_sq (p1 := 50) (Γ' := [(0, 2), (1, 2), (2, 0), (3, 0)]) (t_istore_n (s_of_xI (x_callN (ts := [(0, 2), (1, 0)]) kX11_cell mokX11_cell w3_26 rfl rfl rfl (a_I (ts := [(0, 2)]) 1 (a_R (ts := []) 0 a_nil (s_getR ck5 13 (by decide) rfl (s_aload_n dX0_findNeeds_41 rfl rfl) dX0_findNeeds_42 w1_175) rfl) (s_iload_n dX0_findNeeds_45 rfl rfl) rfl) dX0_findNeeds_46 nb21)) dX0_findNeeds_49 rfl rfl rfl) (t_sq (p1 := 62) (Γ' := [(0, 2), (1, 2), (2, 0), (3, 0)]) (t_do (x_callV (ts := [(0, 2), (1, 0), (2, 0)]) ck0 rfl kX0_await mokX0_await w4_11 ps1_11 rfl rfl rfl rfl (a_I (ts := [(0, 2), (1, 0)]) 2 (a_I (ts := [(0, 2)]) 1 (a_R (ts := []) 0 a_nil (s_aload_n dX0_findNeeds_50 rfl rfl) rfl) (s_ior (s_iload_n dX0_findNeeds_51 rfl rfl) (s_ishl (s_ishl (s_iconst dX0_findNeeds_52 rfl) (s_iload_n dX0_findNeeds_53 rfl rfl) dX0_findNeeds_54) (s_iconst dX0_findNeeds_55 rfl) dX0_findNeeds_56) dX0_findNeeds_57) rfl) (s_iconst dX0_findNeeds_58 rfl) rfl) dX0_findNeeds_59 w4_9) rfl) (t_sq (p1 := 154) (Γ' := [(0, 2), (1, 2), (2, 0), (3, 0)]) (t_sq (p1 := 65) (Γ' := [(0, 2), (1, 2), (2, 0), (3, 0), (4, 0)]) (t_istore (s_iconst dX0_findNeeds_62 rfl) dX0_findNeeds_63 rfl rfl) (tn_to (Γ' := [(0, 2), (1, 2), (2, 0), (3, 0), (4, 0)]) (XA := [154]) sLX0_findNeeds_2 (lda_cons (ld_in rfl) lda_nil) rfl)) (t_ret0 (fun _ _ => rfl) dX0_findNeeds_154))))))))))
noncomputable def DX0_findNeeds : Fr → St → Option (Unit × St) := M1 (fun f => (sI (sR (sR fr0 0 (gR f 0)) 1 (gR f 1)) 2 (gI f 2))) BX0_findNeeds
theorem kX0_findNeeds : SND yX0_findNeeds cX0_findNeeds 7 none 5 [(0, 2), (1, 2), (2, 0)] cvoV DX0_findNeeds := snd_V (nw := 3) (by decide) (fun z => by cases z) rfl rfl (fun _ _ => rfl) sBX0_findNeeds
theorem dX11_needs_0 : decode cX11_needs 0 = .ok (.aload_n 0, 1) := by decide +kernel
theorem dX11_needs_1 : decode cX11_needs 1 = .ok (.getfield 26, 3) := by decide +kernel
theorem dX11_needs_4 : decode cX11_needs 4 = .ok (.iload_n 1, 1) := by decide +kernel
theorem dX11_needs_5 : decode cX11_needs 5 = .ok (.invokevirtual 140, 3) := by decide +kernel
theorem dX11_needs_8 : decode cX11_needs 8 = .ok (.ifCond .eq 14, 3) := by decide +kernel
theorem dX11_needs_11 : decode cX11_needs 11 = .ok (.aload_n 0, 1) := by decide +kernel
theorem dX11_needs_12 : decode cX11_needs 12 = .ok (.getfield 26, 3) := by decide +kernel
theorem dX11_needs_15 : decode cX11_needs 15 = .ok (.iload_n 2, 1) := by decide +kernel
theorem dX11_needs_16 : decode cX11_needs 16 = .ok (.invokevirtual 117, 3) := by decide +kernel
theorem dX11_needs_19 : decode cX11_needs 19 = .ok (.ifCond .ne 6, 3) := by decide +kernel
theorem dX11_needs_22 : decode cX11_needs 22 = .ok (.bipush (-2), 2) := by decide +kernel
theorem dX11_needs_24 : decode cX11_needs 24 = .ok (.ireturn, 1) := by decide +kernel
theorem dX11_needs_25 : decode cX11_needs 25 = .ok (.aload_n 0, 1) := by decide +kernel
theorem dX11_needs_26 : decode cX11_needs 26 = .ok (.getfield 64, 3) := by decide +kernel
theorem dX11_needs_29 : decode cX11_needs 29 = .ok (.aload_n 0, 1) := by decide +kernel
theorem dX11_needs_30 : decode cX11_needs 30 = .ok (.getfield 26, 3) := by decide +kernel
theorem dX11_needs_33 : decode cX11_needs 33 = .ok (.iload_n 1, 1) := by decide +kernel
theorem dX11_needs_34 : decode cX11_needs 34 = .ok (.invokevirtual 267, 3) := by decide +kernel
theorem dX11_needs_37 : decode cX11_needs 37 = .ok (.aload_n 0, 1) := by decide +kernel
theorem dX11_needs_38 : decode cX11_needs 38 = .ok (.getfield 64, 3) := by decide +kernel
theorem dX11_needs_41 : decode cX11_needs 41 = .ok (.getfield 271, 3) := by decide +kernel
theorem dX11_needs_44 : decode cX11_needs 44 = .ok (.iload_n 2, 1) := by decide +kernel
theorem dX11_needs_45 : decode cX11_needs 45 = .ok (.invokestatic 124, 3) := by decide +kernel
theorem dX11_needs_48 : decode cX11_needs 48 = .ok (.ireturn, 1) := by decide +kernel
theorem mokX11_needs : MOK yX11_needs cX11_needs 3 (some .int) 2 := ⟨w4_4, w1_1, ⟨by decide, by decide⟩, by decide +kernel, by decide⟩
abbrev miX11_needs : MI := (yX11_needs.cls, cX11_needs, 3, 6, false)
noncomputable def BX11_needs : Sm Int32 := (dSeq (dIf (dOr (dNot (dCZ q_ne (dCallV 5 DX5_isSlate (aI (aR aN 0 (dGR 11 2 (vR 0))) 1 (vI 1))))) (dNot (dCZ q_ne (dCallV 5 DX5_isHouse (aI (aR aN 0 (dGR 11 2 (vR 0))) 1 (vI 2)))))) (dRet (cI (-2))) dSkip) (dSeq (dDo (dCallV 0 DX0_findNeeds (aI (aR (aR aN 0 (dGR 11 9 (vR 0))) 1 (dGR 11 2 (vR 0))) 2 (vI 1)))) (dRet (dCall DX11_cell (aI (aR aN 0 (dGR 0 2 (dGR 11 9 (vR 0)))) 1 (vI 2))))))
theorem sBX11_needs : SS (cvoI, .ireturn) miX11_needs [] [] [] [(0, 2), (1, 0), (2, 0)] [(0, 2), (1, 0), (2, 0)] 0 [] BX11_needs := (t_sq (p1 := 25) (Γ' := [(0, 2), (1, 0), (2, 0)]) (t_if (pT := 22) (pF := 25) (X := [25]) (XA := []) (XB := [25]) (c_or (p1 := 11) (pT := 22) (pF := 25) (c_not (pT := 22) (pF := 11) (c_ne_ZF (pF := 22) (s_of_xI (x_callV (ts := [(0, 2), (1, 0)]) ck5 rfl kX5_isSlate mokX5_isSlate w3_136 w3_137 rfl rfl rfl rfl (a_I (ts := [(0, 2)]) 1 (a_R (ts := []) 0 a_nil (s_getR ck11 2 (by decide) rfl (s_aload_n dX11_needs_0 rfl rfl) dX11_needs_1 w2_198) rfl) (s_iload_n dX11_needs_4 rfl rfl) rfl) dX11_needs_5 w3_135)) dX11_needs_8 rfl)) (c_not (pT := 22) (pF := 25) (c_ne_ZJ (pT := 25) (s_of_xI (x_callV (ts := [(0, 2), (1, 0)]) ck5 rfl kX5_isHouse mokX5_isHouse w3_8 w3_9 rfl rfl rfl rfl (a_I (ts := [(0, 2)]) 1 (a_R (ts := []) 0 a_nil (s_getR ck11 2 (by decide) rfl (s_aload_n dX11_needs_11 rfl rfl) dX11_needs_12 w2_198) rfl) (s_iload_n dX11_needs_15 rfl rfl) rfl) dX11_needs_16 w3_155)) dX11_needs_19 rfl))) (t_ret (cv := cvI) (fun _ _ => rfl) (s_bipush dX11_needs_22 rfl) dX11_needs_24) (t_skip (ld_in rfl) rfl) lda_nil (lda_cons (ld_in rfl) lda_nil)) (t_sq (p1 := 37) (Γ' := [(0, 2), (1, 0), (2, 0)]) (t_do (x_callV (ts := [(0, 2), (1, 2), (2, 0)]) ck0 rfl kX0_findNeeds mokX0_findNeeds w4_6 w4_7 rfl rfl rfl rfl (a_I (ts := [(0, 2), (1, 2)]) 2 (a_R (ts := [(0, 2)]) 1 (a_R (ts := []) 0 a_nil (s_getR ck11 9 (by decide) rfl (s_aload_n dX11_needs_25 rfl rfl) dX11_needs_26 w2_205) rfl) (s_getR ck11 2 (by decide) rfl (s_aload_n dX11_needs_29 rfl rfl) dX11_needs_30 w2_198) rfl) (s_iload_n dX11_needs_33 rfl rfl) rfl) dX11_needs_34 w4_5) rfl) (t_ret (cv := cvI) (fun _ _ => rfl) (s_of_xI (x_call (ts := [(0, 2), (1, 0)]) kX11_cell mokX11_cell w3_26 rfl rfl rfl (a_I (ts := [(0, 2)]) 1 (a_R (ts := []) 0 a_nil (s_getR ck0 2 (by decide) rfl (s_getR ck11 9 (by decide) rfl (s_aload_n dX11_needs_37 rfl rfl) dX11_needs_38 w2_205) dX11_needs_41 w2_114) rfl) (s_iload_n dX11_needs_44 rfl rfl) rfl) dX11_needs_45 w3_194)) dX11_needs_48)))
noncomputable def DX11_needs : Fr → St → Option (Int32 × St) := M1 (fun f => (sI (sI (sR fr0 0 (gR f 0)) 1 (gI f 1)) 2 (gI f 2))) BX11_needs
theorem kX11_needs : SND yX11_needs cX11_needs 3 (some .int) 6 [(0, 2), (1, 0), (2, 0)] cvoI DX11_needs := snd_I (nw := 3) (by decide) rfl rfl (fun _ _ => rfl) sBX11_needs
theorem dX5_allCarriers_0 : decode cX5_allCarriers 0 = .ok (.iconst 1, 1) := by decide +kernel
theorem dX5_allCarriers_1 : decode cX5_allCarriers 1 = .ok (.aload_n 0, 1) := by decide +kernel
theorem dX5_allCarriers_2 : decode cX5_allCarriers 2 = .ok (.getfield 62, 3) := by decide +kernel
theorem dX5_allCarriers_5 : decode cX5_allCarriers 5 = .ok (.ishl, 1) := by decide +kernel
theorem dX5_allCarriers_6 : decode cX5_allCarriers 6 = .ok (.iconst 1, 1) := by decide +kernel
theorem dX5_allCarriers_7 : decode cX5_allCarriers 7 = .ok (.isub, 1) := by decide +kernel
theorem dX5_allCarriers_8 : decode cX5_allCarriers 8 = .ok (.ireturn, 1) := by decide +kernel
theorem mokX5_allCarriers : MOK yX5_allCarriers cX5_allCarriers 1 (some .int) 0 := ⟨w4_28, w1_4, ⟨by decide, by decide⟩, by decide +kernel, by decide⟩
abbrev miX5_allCarriers : MI := (yX5_allCarriers.cls, cX5_allCarriers, 1, 1, false)
noncomputable def BX5_allCarriers : Sm Int32 := (dRet (d2 o_isub (d2 o_ishl (cI 1) (dGI 5 6 (vR 0))) (cI 1)))
theorem sBX5_allCarriers : SS (cvoI, .ireturn) miX5_allCarriers [] [] [] [(0, 2)] [(0, 2)] 0 [] BX5_allCarriers := (t_ret (cv := cvI) (fun _ _ => rfl) (s_isub (s_ishl (s_iconst dX5_allCarriers_0 rfl) (s_getI ck5 6 (by decide) rfl (s_aload_n dX5_allCarriers_1 rfl rfl) dX5_allCarriers_2 w1_153) dX5_allCarriers_5) (s_iconst dX5_allCarriers_6 rfl) dX5_allCarriers_7) dX5_allCarriers_8)
noncomputable def DX5_allCarriers : Fr → St → Option (Int32 × St) := M1 (fun f => (sR fr0 0 (gR f 0))) BX5_allCarriers
theorem kX5_allCarriers : SND yX5_allCarriers cX5_allCarriers 1 (some .int) 1 [(0, 2)] cvoI DX5_allCarriers := snd_I (nw := 1) (by decide) rfl rfl (fun _ _ => rfl) sBX5_allCarriers
theorem dX5_isCart_0 : decode cX5_isCart 0 = .ok (.iload_n 1, 1) := by decide +kernel
theorem dX5_isCart_1 : decode cX5_isCart 1 = .ok (.ifCond .le 15, 3) := by decide +kernel
theorem dX5_isCart_4 : decode cX5_isCart 4 = .ok (.iload_n 1, 1) := by decide +kernel
theorem dX5_isCart_5 : decode cX5_isCart 5 = .ok (.aload_n 0, 1) := by decide +kernel
theorem dX5_isCart_6 : decode cX5_isCart 6 = .ok (.invokevirtual 96, 3) := by decide +kernel
theorem dX5_isCart_9 : decode cX5_isCart 9 = .ok (.if_icmp .gt 7, 3) := by decide +kernel
theorem dX5_isCart_12 : decode cX5_isCart 12 = .ok (.iconst 1, 1) := by decide +kernel
theorem dX5_isCart_13 : decode cX5_isCart 13 = .ok (.goto 4, 3) := by decide +kernel
theorem dX5_isCart_16 : decode cX5_isCart 16 = .ok (.iconst 0, 1) := by decide +kernel
theorem dX5_isCart_17 : decode cX5_isCart 17 = .ok (.ireturn, 1) := by decide +kernel
theorem mokX5_isCart : MOK yX5_isCart cX5_isCart 2 (some .boolean) 1 := ⟨w4_24, w1_4, ⟨by decide, by decide⟩, by decide +kernel, by decide⟩
abbrev miX5_isCart : MI := (yX5_isCart.cls, cX5_isCart, 2, 2, false)
noncomputable def BX5_isCart : Sm Int32 := (dRet (dB (dAnd (dCZ q_gt (vI 1)) (dCI r_le (vI 1) (dCallV 5 DX5_allCarriers (aR aN 0 (vR 0)))))))
theorem sBX5_isCart : SS (cvoI, .ireturn) miX5_isCart [] [] [] [(0, 2), (1, 0)] [(0, 2), (1, 0)] 0 [] BX5_isCart := (t_ret (cv := cvI) (fun _ _ => rfl) (s_B (pT := 12) (pF := 16) (pe := 17) (c_and (p1 := 4) (pT := 12) (pF := 16) (c_gt_ZF (pF := 16) (s_iload_n dX5_isCart_0 rfl rfl) dX5_isCart_1 rfl) (c_le_F (pF := 16) (s_iload_n dX5_isCart_4 rfl rfl) (s_of_xI (x_callV (ts := [(0, 2)]) ck5 rfl kX5_allCarriers mokX5_allCarriers w4_26 w4_27 rfl rfl rfl rfl (a_R (ts := []) 0 a_nil (s_aload_n dX5_isCart_5 rfl rfl) rfl) dX5_isCart_6 w4_25)) dX5_isCart_9 rfl)) dX5_isCart_12 dX5_isCart_13 rfl dX5_isCart_16 rfl) dX5_isCart_17)
noncomputable def DX5_isCart : Fr → St → Option (Int32 × St) := MZ (fun f => (sI (sR fr0 0 (gR f 0)) 1 (gI f 1))) BX5_isCart
theorem kX5_isCart : SND yX5_isCart cX5_isCart 2 (some .boolean) 2 [(0, 2), (1, 0)] cvoI DX5_isCart := snd_Z (nw := 2) (by decide) rfl rfl (fun _ _ => rfl) sBX5_isCart
theorem dX5_strongTogether_0 : decode cX5_strongTogether 0 = .ok (.iconst 0, 1) := by decide +kernel
theorem dX5_strongTogether_1 : decode cX5_strongTogether 1 = .ok (.istore_n 2, 1) := by decide +kernel
theorem dX5_strongTogether_2 : decode cX5_strongTogether 2 = .ok (.iconst 0, 1) := by decide +kernel
theorem dX5_strongTogether_3 : decode cX5_strongTogether 3 = .ok (.istore_n 3, 1) := by decide +kernel
theorem dX5_strongTogether_4 : decode cX5_strongTogether 4 = .ok (.iload_n 3, 1) := by decide +kernel
theorem dX5_strongTogether_5 : decode cX5_strongTogether 5 = .ok (.aload_n 0, 1) := by decide +kernel
theorem dX5_strongTogether_6 : decode cX5_strongTogether 6 = .ok (.getfield 62, 3) := by decide +kernel
theorem dX5_strongTogether_9 : decode cX5_strongTogether 9 = .ok (.if_icmp .ge 28, 3) := by decide +kernel
theorem dX5_strongTogether_12 : decode cX5_strongTogether 12 = .ok (.iload_n 1, 1) := by decide +kernel
theorem dX5_strongTogether_13 : decode cX5_strongTogether 13 = .ok (.iload_n 3, 1) := by decide +kernel
theorem dX5_strongTogether_14 : decode cX5_strongTogether 14 = .ok (.invokestatic 113, 3) := by decide +kernel
theorem dX5_strongTogether_17 : decode cX5_strongTogether 17 = .ok (.ifCond .eq 14, 3) := by decide +kernel
theorem dX5_strongTogether_20 : decode cX5_strongTogether 20 = .ok (.iload_n 2, 1) := by decide +kernel
theorem dX5_strongTogether_21 : decode cX5_strongTogether 21 = .ok (.aload_n 0, 1) := by decide +kernel
theorem dX5_strongTogether_22 : decode cX5_strongTogether 22 = .ok (.getfield 24, 3) := by decide +kernel
theorem dX5_strongTogether_25 : decode cX5_strongTogether 25 = .ok (.iload_n 3, 1) := by decide +kernel
theorem dX5_strongTogether_26 : decode cX5_strongTogether 26 = .ok (.invokestatic 85, 3) := by decide +kernel
theorem dX5_strongTogether_29 : decode cX5_strongTogether 29 = .ok (.iadd, 1) := by decide +kernel
theorem dX5_strongTogether_30 : decode cX5_strongTogether 30 = .ok (.istore_n 2, 1) := by decide +kernel
theorem dX5_strongTogether_31 : decode cX5_strongTogether 31 = .ok (.iinc 3 1, 3) := by decide +kernel
theorem dX5_strongTogether_34 : decode cX5_strongTogether 34 = .ok (.goto (-30), 3) := by decide +kernel
theorem dX5_strongTogether_37 : decode cX5_strongTogether 37 = .ok (.iload_n 2, 1) := by decide +kernel
theorem dX5_strongTogether_38 : decode cX5_strongTogether 38 = .ok (.ireturn, 1) := by decide +kernel
theorem mokX5_strongTogether : MOK yX5_strongTogether cX5_strongTogether 4 (some .int) 1 := ⟨w4_32, w1_4, ⟨by decide, by decide⟩, by decide +kernel, by decide⟩
abbrev miX5_strongTogether : MI := (yX5_strongTogether.cls, cX5_strongTogether, 4, 2, false)
noncomputable def LX5_strongTogether_1 : Sm Int32 := dLoop (fun f => (sI (sI (sI (sR fr0 0 (gR f 0)) 1 (gI f 1)) 2 (gI f 2)) 3 (gI f 3))) (dCI r_lt (vI 3) (dGI 5 6 (vR 0))) (dIf (dCZ q_ne (dCall DX11_hasBit (aI (aI aN 0 (vI 1)) 1 (vI 3)))) (dSetI 2 (d2 o_iadd (vI 2) (dCall DX11_cell (aI (aR aN 0 (dGR 5 12 (vR 0))) 1 (vI 3))))) dSkip) (dInc 3 1)
theorem sLX5_strongTogether_1 {ΓL : Gm} {PB PK : List Nat} : SS (cvoI, .ireturn) miX5_strongTogether ΓL PB PK [(0, 2), (1, 0), (2, 0), (3, 0)] [(0, 2), (1, 0), (2, 0), (3, 0)] 4 [37] LX5_strongTogether_1 := t_loop (pT := 12) (pF := 37) (pu := 31) (PB' := []) (PK' := []) (XB := [31]) (XU := [34]) (fun _ _ => rfl) rfl (c_lt_F (pF := 37) (s_iload_n dX5_strongTogether_4 rfl rfl) (s_getI ck5 6 (by decide) rfl (s_aload_n dX5_strongTogether_5 rfl rfl) dX5_strongTogether_6 w1_153) dX5_strongTogether_9 rfl) (t_if (pT := 20) (pF := 31) (X := [31]) (XA := [31]) (XB := [31]) (c_ne_ZF (pF := 31) (s_of_xI (x_callN (ts := [(0, 0), (1, 0)]) kX11_hasBit mokX11_hasBit w3_16 rfl rfl rfl (a_I (ts := [(0, 0)]) 1 (a_I (ts := []) 0 a_nil (s_iload_n dX5_strongTogether_12 rfl rfl) rfl) (s_iload_n dX5_strongTogether_13 rfl rfl) rfl) dX5_strongTogether_14 nb17)) dX5_strongTogether_17 rfl) (t_istore_n (s_iadd (s_iload_n dX5_strongTogether_20 rfl rfl) (s_of_xI (x_callN (ts := [(0, 2), (1, 0)]) kX11_cell mokX11_cell w3_26 rfl rfl rfl (a_I (ts := [(0, 2)]) 1 (a_R (ts := []) 0 a_nil (s_getR ck5 12 (by decide) rfl (s_aload_n dX5_strongTogether_21 rfl rfl) dX5_strongTogether_22 w1_170) rfl) (s_iload_n dX5_strongTogether_25 rfl rfl) rfl) dX5_strongTogether_26 nb12)) dX5_strongTogether_29) dX5_strongTogether_30 rfl rfl rfl) (t_skip (ld_in rfl) rfl) (lda_cons (ld_in rfl) lda_nil) (lda_cons (ld_in rfl) lda_nil)) (t_iinc dX5_strongTogether_31 rfl rfl rfl rfl) (lda_cons (ld_in rfl) lda_nil) lda_nil (lda_cons (ld_goto (y := 4) dX5_strongTogether_34 rfl (ld_in rfl)) lda_nil) (ld_in rfl) lda_nil
noncomputable def BX5_strongTogether : Sm Int32 := (dSeq (dSetI 2 (cI 0)) (dSeq (dSeq (dSetI 3 (cI 0)) LX5_strongTogether_1) (dRet (vI 2))))
theorem sBX5_strongTogether : SS (cvoI, .ireturn) miX5_strongTogether [] [] [] [(0, 2), (1, 0)] [(0, 2), (1, 0)] 0 [] BX5_strongTogether := (t_sq (p1 := 2) (Γ' := [(0, 2), (1, 0), (2, 0)]) (t_istore_n (s_iconst dX5_strongTogether_0 rfl) dX5_strongTogether_1 rfl rfl rfl) (t_sq (p1 := 37) (Γ' := [(0, 2), (1, 0), (2, 0)]) (t_sq (p1 := 4) (Γ' := [(0, 2), (1, 0), (2, 0), (3, 0)]) (t_istore_n (s_iconst dX5_strongTogether_2 rfl) dX5_strongTogether_3 rfl rfl rfl) (tn_to (Γ' := [(0, 2), (1, 0), (2, 0), (3, 0)]) (XA := [37]) sLX5_strongTogether_1 (lda_cons (ld_in rfl) lda_nil) rfl)) (t_ret (cv := cvI) (fun _ _ => rfl) (s_iload_n dX5_strongTogether_37 rfl rfl) dX5_strongTogether_38)))
noncomputable def DX5_strongTogether : Fr → St → Option (Int32 × St) := M1 (fun f => (sI (sR fr0 0 (gR f 0)) 1 (gI f 1))) BX5_strongTogether
theorem kX5_strongTogether : SND yX5_strongTogether cX5_strongTogether 4 (some .int) 2 [(0, 2), (1, 0)] cvoI DX5_strongTogether := snd_I (nw := 2) (by decide) rfl rfl (fun _ _ => rfl) sBX5_strongTogether
theorem dX11_cart_0 : decode cX11_cart 0 = .ok (.aload_n 0, 1) := by decide +kernel
theorem dX11_cart_1 : decode cX11_cart 1 = .ok (.getfield 26, 3) := by decide +kernel
theorem dX11_cart_4 : decode cX11_cart 4 = .ok (.iload_n 1, 1) := by decide +kernel
theorem dX11_cart_5 : decode cX11_cart 5 = .ok (.invokevirtual 280, 3) := by decide +kernel
theorem dX11_cart_8 : decode cX11_cart 8 = .ok (.ifCond .eq 25, 3) := by decide +kernel
theorem dX11_cart_11 : decode cX11_cart 11 = .ok (.aload_n 0, 1) := by decide +kernel
theorem dX11_cart_12 : decode cX11_cart 12 = .ok (.getfield 26, 3) := by decide +kernel
theorem dX11_cart_15 : decode cX11_cart 15 = .ok (.iload_n 2, 1) := by decide +kernel
theorem dX11_cart_16 : decode cX11_cart 16 = .ok (.invokevirtual 140, 3) := by decide +kernel
theorem dX11_cart_19 : decode cX11_cart 19 = .ok (.ifCond .eq 14, 3) := by decide +kernel
theorem dX11_cart_22 : decode cX11_cart 22 = .ok (.aload_n 0, 1) := by decide +kernel
theorem dX11_cart_23 : decode cX11_cart 23 = .ok (.getfield 26, 3) := by decide +kernel
theorem dX11_cart_26 : decode cX11_cart 26 = .ok (.iload_n 3, 1) := by decide +kernel
theorem dX11_cart_27 : decode cX11_cart 27 = .ok (.invokevirtual 117, 3) := by decide +kernel
theorem dX11_cart_30 : decode cX11_cart 30 = .ok (.ifCond .ne 6, 3) := by decide +kernel
theorem dX11_cart_33 : decode cX11_cart 33 = .ok (.bipush (-2), 2) := by decide +kernel
theorem dX11_cart_35 : decode cX11_cart 35 = .ok (.ireturn, 1) := by decide +kernel
theorem dX11_cart_36 : decode cX11_cart 36 = .ok (.aload_n 0, 1) := by decide +kernel
theorem dX11_cart_37 : decode cX11_cart 37 = .ok (.getfield 64, 3) := by decide +kernel
theorem dX11_cart_40 : decode cX11_cart 40 = .ok (.aload_n 0, 1) := by decide +kernel
theorem dX11_cart_41 : decode cX11_cart 41 = .ok (.getfield 26, 3) := by decide +kernel
theorem dX11_cart_44 : decode cX11_cart 44 = .ok (.iload_n 2, 1) := by decide +kernel
theorem dX11_cart_45 : decode cX11_cart 45 = .ok (.aload_n 0, 1) := by decide +kernel
theorem dX11_cart_46 : decode cX11_cart 46 = .ok (.getfield 26, 3) := by decide +kernel
theorem dX11_cart_49 : decode cX11_cart 49 = .ok (.iload_n 1, 1) := by decide +kernel
theorem dX11_cart_50 : decode cX11_cart 50 = .ok (.invokevirtual 283, 3) := by decide +kernel
theorem dX11_cart_53 : decode cX11_cart 53 = .ok (.invokevirtual 254, 3) := by decide +kernel
theorem dX11_cart_56 : decode cX11_cart 56 = .ok (.aload_n 0, 1) := by decide +kernel
theorem dX11_cart_57 : decode cX11_cart 57 = .ok (.getfield 64, 3) := by decide +kernel
theorem dX11_cart_60 : decode cX11_cart 60 = .ok (.getfield 258, 3) := by decide +kernel
theorem dX11_cart_63 : decode cX11_cart 63 = .ok (.iload_n 3, 1) := by decide +kernel
theorem dX11_cart_64 : decode cX11_cart 64 = .ok (.invokestatic 124, 3) := by decide +kernel
theorem dX11_cart_67 : decode cX11_cart 67 = .ok (.ireturn, 1) := by decide +kernel
theorem mokX11_cart : MOK yX11_cart cX11_cart 4 (some .int) 3 := ⟨w4_20, w1_1, ⟨by decide, by decide⟩, by decide +kernel, by decide⟩
abbrev miX11_cart : MI := (yX11_cart.cls, cX11_cart, 4, 6, false)
noncomputable def BX11_cart : Sm Int32 := (dSeq (dIf (dOr (dOr (dNot (dCZ q_ne (dCallV 5 DX5_isCart (aI (aR aN 0 (dGR 11 2 (vR 0))) 1 (vI 1))))) (dNot (dCZ q_ne (dCallV 5 DX5_isSlate (aI (aR aN 0 (dGR 11 2 (vR 0))) 1 (vI 2)))))) (dNot (dCZ q_ne (dCallV 5 DX5_isHouse (aI (aR aN 0 (dGR 11 2 (vR 0))) 1 (vI 3)))))) (dRet (cI (-2))) dSkip) (dSeq (dDo (dCallV 0 DX0_search (aI (aI (aR (aR aN 0 (dGR 11 9 (vR 0))) 1 (dGR 11 2 (vR 0))) 2 (vI 2)) 3 (dCallV 5 DX5_strongTogether (aI (aR aN 0 (dGR 11 2 (vR 0))) 1 (vI 1)))))) (dRet (dCall DX11_cell (aI (aR aN 0 (dGR 0 0 (dGR 11 9 (vR 0)))) 1 (vI 3))))))
theorem sBX11_cart : SS (cvoI, .ireturn) miX11_cart [] [] [] [(0, 2), (1, 0), (2, 0), (3, 0)] [(0, 2), (1, 0), (2, 0), (3, 0)] 0 [] BX11_cart := (t_sq (p1 := 36) (Γ' := [(0, 2), (1, 0), (2, 0), (3, 0)]) (t_if (pT := 33) (pF := 36) (X := [36]) (XA := []) (XB := [36]) (c_or (p1 := 22) (pT := 33) (pF := 36) (c_or (p1 := 11) (pT := 33) (pF := 22) (c_not (pT := 33) (pF := 11) (c_ne_ZF (pF := 33) (s_of_xI (x_callV (ts := [(0, 2), (1, 0)]) ck5 rfl kX5_isCart mokX5_isCart w4_22 w4_23 rfl rfl rfl rfl (a_I (ts := [(0, 2)]) 1 (a_R (ts := []) 0 a_nil (s_getR ck11 2 (by decide) rfl (s_aload_n dX11_cart_0 rfl rfl) dX11_cart_1 w2_198) rfl) (s_iload_n dX11_cart_4 rfl rfl) rfl) dX11_cart_5 w4_21)) dX11_cart_8 rfl)) (c_not (pT := 33) (pF := 22) (c_ne_ZF (pF := 33) (s_of_xI (x_callV (ts := [(0, 2), (1, 0)]) ck5 rfl kX5_isSlate mokX5_isSlate w3_136 w3_137 rfl rfl rfl rfl (a_I (ts := [(0, 2)]) 1 (a_R (ts := []) 0 a_nil (s_getR ck11 2 (by decide) rfl (s_aload_n dX11_cart_11 rfl rfl) dX11_cart_12 w2_198) rfl) (s_iload_n dX11_cart_15 rfl rfl) rfl) dX11_cart_16 w3_135)) dX11_cart_19 rfl))) (c_not (pT := 33) (pF := 36) (c_ne_ZJ (pT := 36) (s_of_xI (x_callV (ts := [(0, 2), (1, 0)]) ck5 rfl kX5_isHouse mokX5_isHouse w3_8 w3_9 rfl rfl rfl rfl (a_I (ts := [(0, 2)]) 1 (a_R (ts := []) 0 a_nil (s_getR ck11 2 (by decide) rfl (s_aload_n dX11_cart_22 rfl rfl) dX11_cart_23 w2_198) rfl) (s_iload_n dX11_cart_26 rfl rfl) rfl) dX11_cart_27 w3_155)) dX11_cart_30 rfl))) (t_ret (cv := cvI) (fun _ _ => rfl) (s_bipush dX11_cart_33 rfl) dX11_cart_35) (t_skip (ld_in rfl) rfl) lda_nil (lda_cons (ld_in rfl) lda_nil)) (t_sq (p1 := 56) (Γ' := [(0, 2), (1, 0), (2, 0), (3, 0)]) (t_do (x_callV (ts := [(0, 2), (1, 2), (2, 0), (3, 0)]) ck0 rfl kX0_search mokX0_search w3_196 w3_197 rfl rfl rfl rfl (a_I (ts := [(0, 2), (1, 2), (2, 0)]) 3 (a_I (ts := [(0, 2), (1, 2)]) 2 (a_R (ts := [(0, 2)]) 1 (a_R (ts := []) 0 a_nil (s_getR ck11 9 (by decide) rfl (s_aload_n dX11_cart_36 rfl rfl) dX11_cart_37 w2_205) rfl) (s_getR ck11 2 (by decide) rfl (s_aload_n dX11_cart_40 rfl rfl) dX11_cart_41 w2_198) rfl) (s_iload_n dX11_cart_44 rfl rfl) rfl) (s_of_xI (x_callV (ts := [(0, 2), (1, 0)]) ck5 rfl kX5_strongTogether mokX5_strongTogether w4_30 w4_31 rfl rfl rfl rfl (a_I (ts := [(0, 2)]) 1 (a_R (ts := []) 0 a_nil (s_getR ck11 2 (by decide) rfl (s_aload_n dX11_cart_45 rfl rfl) dX11_cart_46 w2_198) rfl) (s_iload_n dX11_cart_49 rfl rfl) rfl) dX11_cart_50 w4_29)) rfl) dX11_cart_53 w3_195) rfl) (t_ret (cv := cvI) (fun _ _ => rfl) (s_of_xI (x_call (ts := [(0, 2), (1, 0)]) kX11_cell mokX11_cell w3_26 rfl rfl rfl (a_I (ts := [(0, 2)]) 1 (a_R (ts := []) 0 a_nil (s_getR ck0 0 (by decide) rfl (s_getR ck11 9 (by decide) rfl (s_aload_n dX11_cart_56 rfl rfl) dX11_cart_57 w2_205) dX11_cart_60 w2_110) rfl) (s_iload_n dX11_cart_63 rfl rfl) rfl) dX11_cart_64 w3_194)) dX11_cart_67)))
noncomputable def DX11_cart : Fr → St → Option (Int32 × St) := M1 (fun f => (sI (sI (sI (sR fr0 0 (gR f 0)) 1 (gI f 1)) 2 (gI f 2)) 3 (gI f 3))) BX11_cart
theorem kX11_cart : SND yX11_cart cX11_cart 4 (some .int) 6 [(0, 2), (1, 0), (2, 0), (3, 0)] cvoI DX11_cart := snd_I (nw := 4) (by decide) rfl rfl (fun _ _ => rfl) sBX11_cart
